/-! the reference's minute -/
def foldC (f : (Nat → Nat → Int32) → Nat → (Nat → Nat → Int32)) (T : Nat → Nat → Int32) : Nat → (Nat → Nat → Int32)
  | 0 => T
  | i + 1 => f (foldC f T i) i
def loO (x : PP) (T : Nat → Nat → Int32) (c : Nat) : Nat := match loF (nbx x) (fun k => x.2.1 k + T 1 k) c 4 with
  | none => 0
  | some o => o
def r1C (T : Nat → Nat → Int32) (c : Nat) : Nat → Nat → Int32 := guC (raC T c) c
def r2C (x : PP) (T : Nat → Nat → Int32) (c : Nat) : Nat → Nat → Int32 := flC x T c (loO x T c)
def zm (T : Nat → Nat → Int32) : Int32 := T 0 7 - T 0 7 / 10 * 10
def r3C (x : PP) (T : Nat → Nat → Int32) (c : Nat) : Nat → Nat → Int32 := if zm (drC x T c) = 0 then evC1 (drC x T c) c else drC x T c
def r4C (x : PP) (T : Nat → Nat → Int32) (b : Nat) : Nat → Nat → Int32 := soC x T b (T 5 b).toNatClampNeg
def q1 (x : PP) (T : Nat → Nat → Int32) : Nat → (Nat → Nat → Int32) := foldC r1C (sc T 0 7 (T 0 7 + 1))
def q2 (x : PP) (T : Nat → Nat → Int32) : Nat → (Nat → Nat → Int32) := foldC (r2C x) (q1 x T x.1.2.2)
def q3 (x : PP) (T : Nat → Nat → Int32) : Nat → (Nat → Nat → Int32) := foldC (r3C x) (q2 x T x.1.2.2)
def q4 (x : PP) (T : Nat → Nat → Int32) : Nat → (Nat → Nat → Int32) := foldC (r4C x) (q3 x T x.1.2.2)
/-- one minute of the reference -/
def mmS (x : PP) (T : Nat → Nat → Int32) : Nat → Nat → Int32 := q4 x T x.2.2.2.2.1
theorem foldC_k {f : (Nat → Nat → Int32) → Nat → (Nat → Nat → Int32)} {t : Nat} (h : ∀ T c, f T c t = T t) {T : Nat → Nat → Int32} : ∀ i, foldC f T i t = T t
  | 0 => rfl
  | i + 1 => (h _ i).trans (foldC_k h i)
theorem guC_5 {T : Nat → Nat → Int32} {c : Nat} : guC T c 5 = T 5 := by
  unfold guC
  split
  · rfl
  · split <;> rfl
theorem r1C_5 {T : Nat → Nat → Int32} {c : Nat} : r1C T c 5 = T 5 := guC_5
theorem flC_5 {x : PP} {T : Nat → Nat → Int32} {c o : Nat} : flC x T c o 5 = T 5 := by
  unfold flC
  split
  · rfl
  · split <;> rfl
theorem r3C_5 {x : PP} {T : Nat → Nat → Int32} {c : Nat} : r3C x T c 5 = T 5 := by
  unfold r3C
  split
  · unfold evC1; split <;> rfl
  · rfl
theorem soC_5 {x : PP} {T : Nat → Nat → Int32} {b q : Nat} : soC x T b q 5 = T 5 := by unfold soC; split <;> rfl
theorem q3_5 {x : PP} {T : Nat → Nat → Int32} (i : Nat) : q3 x T i 5 = T 5 := (foldC_k (fun _ _ => r3C_5) i).trans ((foldC_k (fun _ _ => flC_5) _).trans ((foldC_k (fun _ _ => r1C_5) _).trans rfl))
theorem q4_5 {x : PP} {T : Nat → Nat → Int32} (i : Nat) : q4 x T i 5 = T 5 := (foldC_k (fun _ _ => soC_5) i).trans (q3_5 _)
theorem r2C_s {x : PP} {T : Nat → Nat → Int32} {c o : Nat} (h : loF (nbx x) (fun k => x.2.1 k + T 1 k) c 4 = some o) : r2C x T c = flC x T c o := by unfold r2C loO; rw [h]
theorem r4C_s {x : PP} {T : Nat → Nat → Int32} {b q : Nat} (h : T 5 b = nI q) (hq : q < 2 ^ 31) : r4C x T b = soC x T b q := by unfold r4C; rw [h, nI_clamp hq]
theorem ce_x {A0 : Nat → Int32} {x : PP} {T : Nat → Nat → Int32} (hx : PIv x) : enc A0 x T 2 * enc A0 x T 1 = nI x.1.2.2 := by
  rw [hx.2.2.1]
  exact pk_mul _ _
theorem i32_sa (a b d : Int32) : a - b + d = a + d - b := by
  rw [Int32.sub_eq_add_neg, Int32.sub_eq_add_neg, Int32.add_assoc, Int32.add_comm (-b) d, ← Int32.add_assoc]
theorem evC1_11 {T : Nat → Nat → Int32} {c : Nat} {v : Int32} (h : T 0 11 = v := by rfl) : evC1 T c 0 11 = v := by
  unfold evC1
  split
  · exact h
  · exact h
set_option maxRecDepth 100000 in
set_option maxHeartbeats 8000000 in
theorem sp_X10_letMinutePass (l : Launch) (G : GT) (A0 : Nat → Int32) (x : PP) (T : Nat → Nat → Int32)  (M : Mem) (hA : M 0 1 = enc A0 x T) (hx : PIv x) (hv : PVi x) (hpl : PLi x T) : MC l G yX10_letMinutePass cX10_letMinutePass 3 (some .int) ({ frames := 6, cells := 0, slots := 0, locals := 132 } : Room) [9] lk0 [rv 0 0] (M) (fun r M2 => r = some (iv (q3 x T x.1.2.2 0 11 - q2 x T x.1.2.2 0 11)) ∧ M2 = md M (enc A0 x (mmS x T))) := by
  refine MC.of RX10 [some (rv 0 0), none, none] 2 (by decide +kernel) rfl rfl rfl ?_
  intro pp ee ss mm aa bb me cd ad E
  obtain ⟨M0, rfl⟩ : ∃ M0, M = md M0 (enc A0 x T) := ⟨M, (md_of hA).symm⟩
  clear hA
  have hn64 := (PIv_z hx).1
  have hb4 := hx.2.2.2.2.1
  
  refine r_iconst (v := 0) E (dat dkX10_letMinutePass 0 rfl) rfl ?_
  refine r_istore_1 E (dat dkX10_letMinutePass 1 rfl) rfl rfl ?_
  refine r_aload_n E (dat dkX10_letMinutePass 2 rfl) rfl rfl ?_
  refine q_geta E fl_X10_9 (dat dkX10_letMinutePass 3 rfl) rfl rfl rfl ?_
  refine r_iconst (v := 0) E (dat dkX10_letMinutePass 4 rfl) rfl ?_
  refine r_dup2 E (dat dkX10_letMinutePass 5 rfl) rfl rfl ?_
  refine q_iald E (dat dkX10_letMinutePass 6 rfl) rfl rfl (by decide) md_a (show _ = nI 0 from rfl) (by omega) ?_
  refine r_iconst (v := 1) E (dat dkX10_letMinutePass 7 rfl) rfl ?_
  refine r_iadd E (dat dkX10_letMinutePass 8 rfl) ?_
  refine q_iast E (dat dkX10_letMinutePass 9 rfl) rfl rfl (by decide) md_a (fun _ => md_s) (show _ = nI 0 from rfl) (by omega) ?_
  rw [u_mi, show enc A0 x T 0 = T 0 7 from rfl]
  refine r_iconst (v := 0) E (dat dkX10_letMinutePass 10 rfl) rfl ?_
  refine r_istore_2 E (dat dkX10_letMinutePass 11 rfl) rfl rfl ?_
  refine r_for (x.1.2.2) (fun _ => True) (fun i => md M0 (enc A0 x (q1 x T i))) (fun i => [some (rv 0 0), some (iv 0), some (iv (nI i))]) trivial rfl rfl ?_ ?_
  · intro i hi hI kk
    refine r_iload_n E (dat dkX10_letMinutePass 12 rfl) rfl rfl ?_
    refine r_aload_n E (dat dkX10_letMinutePass 13 rfl) rfl rfl ?_
    refine r_callV (κ := 9) (μ := []) E (sp_X10_cells l G _ _ md_a) my_X10_cells iv_X10_cells ml_X10_115 cm_id ⟨by decide, rfl, rfl⟩ rfl rfl rfl rfl (by decide) (Nat.le_of_ble_eq_true rfl) (dat dkX10_letMinutePass 14 rfl) ?_
    rintro _ _ ⟨rfl, rfl⟩
    refine ⟨_, Mrg_z rfl, ?_⟩
    rw [ce_x hx]
    refine q_icmp_ge (tgt := 38) E (dat dkX10_letMinutePass 15 rfl) rfl rfl rfl (by omega) (by omega) (fun h19 => ?_) (fun h19 => ?_)
    ·
      omega
    ·
      refine r_aload_n E (dat dkX10_letMinutePass 16 rfl) rfl rfl ?_
      refine r_iload_n E (dat dkX10_letMinutePass 17 rfl) rfl rfl ?_
      refine r_callV (κ := 9) (μ := []) E (sp_X10_rainOn l G A0 x (q1 x T i) i _ md_a hx hi) my_X10_rainOn iv_X10_rainOn ml_X10_119 cm_id ⟨by decide, rfl, rfl⟩ rfl rfl rfl rfl (by decide) (Nat.le_of_ble_eq_true rfl) (dat dkX10_letMinutePass 18 rfl) ?_
      rintro _ _ ⟨rfl, rfl⟩
      refine ⟨_, Mrg_md (by decide) rfl, ?_⟩
      refine r_aload_n E (dat dkX10_letMinutePass 19 rfl) rfl rfl ?_
      refine r_iload_n E (dat dkX10_letMinutePass 20 rfl) rfl rfl ?_
      refine r_callV (κ := 9) (μ := []) E (sp_X10_gushOn l G A0 x (raC (q1 x T i) i) i _ md_a hx hi) my_X10_gushOn iv_X10_gushOn ml_X10_123 cm_id ⟨by decide, rfl, rfl⟩ rfl rfl rfl rfl (by decide) (Nat.le_of_ble_eq_true rfl) (dat dkX10_letMinutePass 21 rfl) ?_
      rintro _ _ ⟨rfl, rfl⟩
      refine ⟨_, Mrg_md (by decide) rfl, ?_⟩
      refine q_iinc_2 E (dat dkX10_letMinutePass 22 rfl) rfl rfl ?_
      refine r_goto (tgt := 14) E (dat dkX10_letMinutePass 23 rfl) rfl ?_
      exact kk trivial
  · intro hI
    refine r_iload_n E (dat dkX10_letMinutePass 12 rfl) rfl rfl ?_
    refine r_aload_n E (dat dkX10_letMinutePass 13 rfl) rfl rfl ?_
    refine r_callV (κ := 9) (μ := []) E (sp_X10_cells l G _ _ md_a) my_X10_cells iv_X10_cells ml_X10_115 cm_id ⟨by decide, rfl, rfl⟩ rfl rfl rfl rfl (by decide) (Nat.le_of_ble_eq_true rfl) (dat dkX10_letMinutePass 14 rfl) ?_
    rintro _ _ ⟨rfl, rfl⟩
    refine ⟨_, Mrg_z rfl, ?_⟩
    rw [ce_x hx]
    refine q_icmp_ge (tgt := 38) E (dat dkX10_letMinutePass 15 rfl) rfl rfl rfl (by omega) (by omega) (fun h19 => ?_) (fun h19 => ?_)
    ·
      refine r_iconst (v := 0) E (dat dkX10_letMinutePass 24 rfl) rfl ?_
      refine r_istore_2 E (dat dkX10_letMinutePass 25 rfl) rfl rfl ?_
      refine r_for (x.1.2.2) (fun _ => True) (fun i => md M0 (enc A0 x (q2 x T i))) (fun i => [some (rv 0 0), some (iv 0), some (iv (nI i))]) trivial rfl rfl ?_ ?_
      · intro i hi hI kk
        obtain ⟨o, ho, hlo⟩ := lo_ex (lev := fun k => x.2.1 k + q2 x T i 1 k) hx hv hi
        refine r_iload_n E (dat dkX10_letMinutePass 26 rfl) rfl rfl ?_
        refine r_aload_n E (dat dkX10_letMinutePass 27 rfl) rfl rfl ?_
        refine r_callV (κ := 9) (μ := []) E (sp_X10_cells l G _ _ md_a) my_X10_cells iv_X10_cells ml_X10_115 cm_id ⟨by decide, rfl, rfl⟩ rfl rfl rfl rfl (by decide) (Nat.le_of_ble_eq_true rfl) (dat dkX10_letMinutePass 28 rfl) ?_
        rintro _ _ ⟨rfl, rfl⟩
        refine ⟨_, Mrg_z rfl, ?_⟩
        rw [ce_x hx]
        refine q_icmp_ge (tgt := 59) E (dat dkX10_letMinutePass 29 rfl) rfl rfl rfl (by omega) (by omega) (fun h45 => ?_) (fun h45 => ?_)
        ·
          omega
        ·
          refine r_aload_n E (dat dkX10_letMinutePass 30 rfl) rfl rfl ?_
          refine r_iload_n E (dat dkX10_letMinutePass 31 rfl) rfl rfl ?_
          refine r_callV (κ := 9) (μ := []) E (sp_X10_flowFromCell l G A0 x (q2 x T i) i o _ md_a hx hi hv ho hlo) my_X10_flowFromCell iv_X10_flowFromCell ml_X10_126 cm_id ⟨by decide, rfl, rfl⟩ rfl rfl rfl rfl (by decide) (Nat.le_of_ble_eq_true rfl) (dat dkX10_letMinutePass 32 rfl) ?_
          rintro _ _ ⟨rfl, rfl⟩
          refine ⟨_, Mrg_md (by decide) rfl, ?_⟩
          refine q_iinc_2 E (dat dkX10_letMinutePass 33 rfl) rfl rfl ?_
          refine r_goto (tgt := 40) E (dat dkX10_letMinutePass 34 rfl) rfl ?_
          rw [show q2 x T (i + 1) = flC x (q2 x T i) i o from r2C_s hlo] at kk
          exact kk trivial
      · intro hI
        refine r_iload_n E (dat dkX10_letMinutePass 26 rfl) rfl rfl ?_
        refine r_aload_n E (dat dkX10_letMinutePass 27 rfl) rfl rfl ?_
        refine r_callV (κ := 9) (μ := []) E (sp_X10_cells l G _ _ md_a) my_X10_cells iv_X10_cells ml_X10_115 cm_id ⟨by decide, rfl, rfl⟩ rfl rfl rfl rfl (by decide) (Nat.le_of_ble_eq_true rfl) (dat dkX10_letMinutePass 28 rfl) ?_
        rintro _ _ ⟨rfl, rfl⟩
        refine ⟨_, Mrg_z rfl, ?_⟩
        rw [ce_x hx]
        refine q_icmp_ge (tgt := 59) E (dat dkX10_letMinutePass 29 rfl) rfl rfl rfl (by omega) (by omega) (fun h45 => ?_) (fun h45 => ?_)
        ·
          refine r_iconst (v := 0) E (dat dkX10_letMinutePass 35 rfl) rfl ?_
          refine r_istore_2 E (dat dkX10_letMinutePass 36 rfl) rfl rfl ?_
          refine r_for (x.1.2.2) (fun _ => True) (fun i => md M0 (enc A0 x (q3 x T i))) (fun i => [some (rv 0 0), some (iv (q3 x T i 0 11 - q2 x T x.1.2.2 0 11)), some (iv (nI i))]) trivial rfl (by rw [show q3 x T 0 = q2 x T x.1.2.2 from rfl, Int32.sub_self]; rfl) ?_ ?_
          · intro i hi hI kk
            refine r_iload_n E (dat dkX10_letMinutePass 37 rfl) rfl rfl ?_
            refine r_aload_n E (dat dkX10_letMinutePass 38 rfl) rfl rfl ?_
            refine r_callV (κ := 9) (μ := []) E (sp_X10_cells l G _ _ md_a) my_X10_cells iv_X10_cells ml_X10_115 cm_id ⟨by decide, rfl, rfl⟩ rfl rfl rfl rfl (by decide) (Nat.le_of_ble_eq_true rfl) (dat dkX10_letMinutePass 39 rfl) ?_
            rintro _ _ ⟨rfl, rfl⟩
            refine ⟨_, Mrg_z rfl, ?_⟩
            rw [ce_x hx]
            refine q_icmp_ge (tgt := 100) E (dat dkX10_letMinutePass 40 rfl) rfl rfl rfl (by omega) (by omega) (fun h66 => ?_) (fun h66 => ?_)
            ·
              omega
            ·
              refine r_iload_n E (dat dkX10_letMinutePass 41 rfl) rfl rfl ?_
              refine r_aload_n E (dat dkX10_letMinutePass 42 rfl) rfl rfl ?_
              refine r_iload_n E (dat dkX10_letMinutePass 43 rfl) rfl rfl ?_
              refine r_callV (κ := 9) (μ := []) E (sp_X10_drain l G A0 x (q3 x T i) i _ md_a hx hi) my_X10_drain iv_X10_drain ml_X10_129 cm_id ⟨by decide, rfl, rfl⟩ rfl rfl rfl rfl (by decide) (Nat.le_of_ble_eq_true rfl) (dat dkX10_letMinutePass 44 rfl) ?_
              rintro _ _ ⟨rfl, rfl⟩
              refine ⟨_, Mrg_md (by decide) rfl, ?_⟩
              refine r_iadd E (dat dkX10_letMinutePass 45 rfl) ?_
              refine r_istore_1 E (dat dkX10_letMinutePass 46 rfl) rfl rfl ?_
              refine r_aload_n E (dat dkX10_letMinutePass 47 rfl) rfl rfl ?_
              refine q_geta E fl_X10_9 (dat dkX10_letMinutePass 48 rfl) rfl rfl rfl ?_
              refine r_iconst (v := 0) E (dat dkX10_letMinutePass 49 rfl) rfl ?_
              refine q_iald E (dat dkX10_letMinutePass 50 rfl) rfl rfl (by decide) md_a (show _ = nI 0 from rfl) (by omega) ?_
              refine r_bipush (v := 10) E (dat dkX10_letMinutePass 51 rfl) rfl ?_
              refine r_irem E (dat dkX10_letMinutePass 52 rfl) (by decide) ?_
              refine r_if_ne (tgt := 94) E (dat dkX10_letMinutePass 53 rfl) rfl (fun h86 => ?_) (fun h86 => ?_)
              ·
                refine q_iinc_2 E (dat dkX10_letMinutePass 57 rfl) rfl rfl ?_
                refine r_goto (tgt := 61) E (dat dkX10_letMinutePass 58 rfl) rfl ?_
                first
                  | (rw [show q3 x T (i + 1) = evC1 (drC x (q3 x T i) i) i from if_pos h86, show evC1 (drC x (q3 x T i) i) i 0 11 = q3 x T i 0 11 + drA x (q3 x T i) i from evC1_11, ← i32_sa] at kk; exact kk trivial)
                  | (rw [show q3 x T (i + 1) = drC x (q3 x T i) i from if_neg h86, show drC x (q3 x T i) i 0 11 = q3 x T i 0 11 + drA x (q3 x T i) i from rfl, ← i32_sa] at kk; exact kk trivial)
              ·
                refine r_aload_n E (dat dkX10_letMinutePass 54 rfl) rfl rfl ?_
                refine r_iload_n E (dat dkX10_letMinutePass 55 rfl) rfl rfl ?_
                refine r_callV (κ := 9) (μ := []) E (sp_X10_evaporate l G A0 x (drC x (q3 x T i) i) i _ md_a hx hi) my_X10_evaporate iv_X10_evaporate ml_X10_132 cm_id ⟨by decide, rfl, rfl⟩ rfl rfl rfl rfl (by decide) (Nat.le_of_ble_eq_true rfl) (dat dkX10_letMinutePass 56 rfl) ?_
                rintro _ _ ⟨rfl, rfl⟩
                refine ⟨_, Mrg_md (by decide) rfl, ?_⟩
                refine q_iinc_2 E (dat dkX10_letMinutePass 57 rfl) rfl rfl ?_
                refine r_goto (tgt := 61) E (dat dkX10_letMinutePass 58 rfl) rfl ?_
                first
                  | (rw [show q3 x T (i + 1) = evC1 (drC x (q3 x T i) i) i from if_pos h86, show evC1 (drC x (q3 x T i) i) i 0 11 = q3 x T i 0 11 + drA x (q3 x T i) i from evC1_11, ← i32_sa] at kk; exact kk trivial)
                  | (rw [show q3 x T (i + 1) = drC x (q3 x T i) i from if_neg h86, show drC x (q3 x T i) i 0 11 = q3 x T i 0 11 + drA x (q3 x T i) i from rfl, ← i32_sa] at kk; exact kk trivial)
          · intro hI
            refine r_iload_n E (dat dkX10_letMinutePass 37 rfl) rfl rfl ?_
            refine r_aload_n E (dat dkX10_letMinutePass 38 rfl) rfl rfl ?_
            refine r_callV (κ := 9) (μ := []) E (sp_X10_cells l G _ _ md_a) my_X10_cells iv_X10_cells ml_X10_115 cm_id ⟨by decide, rfl, rfl⟩ rfl rfl rfl rfl (by decide) (Nat.le_of_ble_eq_true rfl) (dat dkX10_letMinutePass 39 rfl) ?_
            rintro _ _ ⟨rfl, rfl⟩
            refine ⟨_, Mrg_z rfl, ?_⟩
            rw [ce_x hx]
            refine q_icmp_ge (tgt := 100) E (dat dkX10_letMinutePass 40 rfl) rfl rfl rfl (by omega) (by omega) (fun h66 => ?_) (fun h66 => ?_)
            ·
              refine r_iconst (v := 0) E (dat dkX10_letMinutePass 59 rfl) rfl ?_
              refine r_istore_2 E (dat dkX10_letMinutePass 60 rfl) rfl rfl ?_
              refine r_for (x.2.2.2.2.1) (fun _ => True) (fun i => md M0 (enc A0 x (q4 x T i))) (fun i => [some (rv 0 0), some (iv (q3 x T x.1.2.2 0 11 - q2 x T x.1.2.2 0 11)), some (iv (nI i))]) trivial rfl rfl ?_ ?_
              · intro i hi hI kk
                obtain ⟨q, hqn, hq⟩ := hpl i hi
                have hq9 : q4 x T i 5 i = nI q := by rw [q4_5]; exact hq
                refine r_iload_n E (dat dkX10_letMinutePass 61 rfl) rfl rfl ?_
                refine r_aload_n E (dat dkX10_letMinutePass 62 rfl) rfl rfl ?_
                refine q_geta E fl_X10_9 (dat dkX10_letMinutePass 63 rfl) rfl rfl rfl ?_
                refine r_iconst (v := 4) E (dat dkX10_letMinutePass 64 rfl) rfl ?_
                refine q_iald E (dat dkX10_letMinutePass 65 rfl) rfl rfl (by decide) md_a (show _ = nI 4 from rfl) (by omega) ?_
                refine q_icmp_ge (tgt := 123) E (dat dkX10_letMinutePass 66 rfl) rfl rfl rfl (by omega) (by omega) (fun h109 => ?_) (fun h109 => ?_)
                ·
                  omega
                ·
                  refine r_aload_n E (dat dkX10_letMinutePass 67 rfl) rfl rfl ?_
                  refine r_iload_n E (dat dkX10_letMinutePass 68 rfl) rfl rfl ?_
                  refine r_callV (κ := 9) (μ := []) E (sp_X10_soak l G A0 x (q4 x T i) i q _ md_a hx hi hq9 hqn) my_X10_soak iv_X10_soak ml_X10_135 cm_id ⟨by decide, rfl, rfl⟩ rfl rfl rfl rfl (by decide) (Nat.le_of_ble_eq_true rfl) (dat dkX10_letMinutePass 69 rfl) ?_
                  rintro _ _ ⟨rfl, rfl⟩
                  refine ⟨_, Mrg_md (by decide) rfl, ?_⟩
                  refine q_iinc_2 E (dat dkX10_letMinutePass 70 rfl) rfl rfl ?_
                  refine r_goto (tgt := 102) E (dat dkX10_letMinutePass 71 rfl) rfl ?_
                  rw [show q4 x T (i + 1) = soC x (q4 x T i) i q from r4C_s hq9 (by omega)] at kk
                  exact kk trivial
              · intro hI
                refine r_iload_n E (dat dkX10_letMinutePass 61 rfl) rfl rfl ?_
                refine r_aload_n E (dat dkX10_letMinutePass 62 rfl) rfl rfl ?_
                refine q_geta E fl_X10_9 (dat dkX10_letMinutePass 63 rfl) rfl rfl rfl ?_
                refine r_iconst (v := 4) E (dat dkX10_letMinutePass 64 rfl) rfl ?_
                refine q_iald E (dat dkX10_letMinutePass 65 rfl) rfl rfl (by decide) md_a (show _ = nI 4 from rfl) (by omega) ?_
                refine q_icmp_ge (tgt := 123) E (dat dkX10_letMinutePass 66 rfl) rfl rfl rfl (by omega) (by omega) (fun h109 => ?_) (fun h109 => ?_)
                ·
                  refine r_iload_n E (dat dkX10_letMinutePass 72 rfl) rfl rfl ?_
                  refine r_ireturn E (dat dkX10_letMinutePass 73 rfl) (by decide) (by decide) ?_
                  exact ⟨rfl, by rw [md_md]; rfl⟩
                ·
                  omega
            ·
              omega
        ·
          omega
    ·
      omega
