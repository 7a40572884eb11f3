/-! class and reference: one relation -/
def RLw (x : PP) (M R : Mem) (L : Int) (q : Nat) (BP : Nat → Nat → Int32) (be nm A0 : Nat → Int32) (B0 : Nat → Nat → Int32) (n : Nat) (bs : Nat → Int32) (u : TT) (o h k : Nat) : Prop :=
  ((q = 17 ∨ q = 18) ∧ (M 0 0 9).toNatClampNeg = q ∧ (M 0 0 10).toNatClampNeg = 35 - q ∧ M q = vPx BP be nm x) ∧
  (PIv x ∧ PVi x ∧ BEx be x) ∧
  (gd x (M 3) L ∧ R 0 1 = enc A0 x (M 3)) ∧
  (M 1 = vTx B0 n bs u ∧ n ≤ 600 ∧ (∀ i, fits .byte (.int (bs i)) = true) ∧ (∀ i, i < n → R 0 10 i = bs i) ∧ R 0 0 10 = nI n ∧ R 0 0 11 = u.2.2.2.2.1 ∧ R 0 0 12 = u.2.2.2.2.2) ∧
  (M 6 0 1 = nI o ∧ M 6 0 2 = nI h ∧ o < 8 ∧ h ≤ 8 ∧ HR x M (R 0 4) o h L ∧ R 0 0 4 = nI h) ∧
  (∀ z, z < 8 → WTi (M (7 + z))) ∧
  (M 0 0 11 = R 0 0 5 ∧ WTi (M 5) ∧ (¬ M 0 0 11 = 0 → gd x (M 5) L ∧ ∃ A1, ∀ q, q < 443 → R 0 3 q = enc A1 x (M 5) q)) ∧
  (k ≤ 16 ∧ M 0 0 12 = nI k ∧ R 0 0 25 = nI k ∧ ∀ i, i < k → M 0 9 i = R 0 25 i)
section RLS
variable {x : PP} {M R M2 R2 : Mem} {L L2 : Int} {q : Nat} {BP : Nat → Nat → Int32} {be nm A0 : Nat → Int32} {B0 : Nat → Nat → Int32} {n : Nat} {bs : Nat → Int32} {u : TT} {o h k : Nat}
theorem RL_le (H : RLw x M R L q BP be nm A0 B0 n bs u o h k) (hl : L ≤ L2) : RLw x M R L2 q BP be nm A0 B0 n bs u o h k := by
  obtain ⟨a1, a2, a3, a4, a5, a6, a7, a8⟩ := H
  exact ⟨a1, a2, ⟨gd_le a3.1 hl, a3.2⟩, a4, ⟨a5.1, a5.2.1, a5.2.2.1, a5.2.2.2.1, HR_le a5.2.2.2.2.1 hl, a5.2.2.2.2.2⟩, a6, ⟨a7.1, a7.2.1, fun c => ⟨gd_le (a7.2.2 c).1 hl, (a7.2.2 c).2⟩⟩, a8⟩
/-- the reference may change elsewhere -/
def nR (R R2 : Mem) : Prop := R2 0 1 = R 0 1 ∧ R2 0 3 = R 0 3 ∧ R2 0 4 = R 0 4 ∧ R2 0 10 = R 0 10 ∧ R2 0 25 = R 0 25 ∧ R2 0 0 4 = R 0 0 4 ∧ R2 0 0 5 = R 0 0 5 ∧ R2 0 0 10 = R 0 0 10 ∧ R2 0 0 11 = R 0 0 11 ∧ R2 0 0 12 = R 0 0 12 ∧ R2 0 0 25 = R 0 0 25
theorem RL_r (H : RLw x M R L q BP be nm A0 B0 n bs u o h k) (hr : nR R R2) : RLw x M R2 L q BP be nm A0 B0 n bs u o h k := by
  obtain ⟨r1, r3, r4, r10, r25, f4, f5, f10, f11, f12, f25⟩ := hr
  unfold RLw
  rw [r1, r3, r4, r10, r25, f4, f5, f10, f11, f12, f25]
  exact H
/-- .. and the class -/
def nC (q : Nat) (M M2 : Mem) : Prop := M2 0 = M 0 ∧ M2 1 = M 1 ∧ M2 3 = M 3 ∧ M2 5 = M 5 ∧ M2 6 = M 6 ∧ M2 q = M q ∧ ∀ j, 7 ≤ j → j < 15 → M2 j = M j
theorem RL_c (H : RLw x M R L q BP be nm A0 B0 n bs u o h k) (hc : nC q M M2) : RLw x M2 R L q BP be nm A0 B0 n bs u o h k := by
  obtain ⟨m0, m1, m3, m5, m6, mq, m7⟩ := hc
  obtain ⟨a1, a2, a3, a4, a5, a6, a7, a8⟩ := H
  unfold RLw
  rw [m0, m1, m3, m5, m6, mq]
  refine ⟨a1, a2, a3, a4, ⟨a5.1, a5.2.1, a5.2.2.1, a5.2.2.2.1, HR_m a5.2.2.2.2.1 m7, a5.2.2.2.2.2⟩, ?_, a7, a8⟩
  intro z hz
  rw [m7 _ (by omega) (by omega)]
  exact a6 z hz
theorem nC_1 {j : Nat} {Z : Nat → Nat → Int32} (hq : q = 17 ∨ q = 18) (hj : j = 2 ∨ j = 4 ∨ j = 15 ∨ j = 16 ∨ (19 ≤ j) ∨ (j = 35 - q)) : nC q M (setm M j Z) := ⟨setm_n (by omega), setm_n (by omega), setm_n (by omega), setm_n (by omega), setm_n (by omega), setm_n (by omega), fun g h7 h15 => setm_n (by omega)⟩
/-- both keep the state of now and go over to T -/
theorem RL_chg {T : Nat → Nat → Int32} (H : RLw x M R L q BP be nm A0 B0 n bs u o h k) (hl : L ≤ L2) (g : gd x T L2) : RLw x (setm (kpM M o h) 3 T) (md (rmM (mt R 0) (R 0 4) (enc A0 x (M 3)) h) (enc A0 x T)) L2 q BP be nm A0 B0 n bs u (oK o h) (rmK h + 1) k := by
  obtain ⟨a1, a2, a3, a4, a5, a6, a7, a8⟩ := RL_le H hl
  obtain ⟨k1, k2, k3, k4, k5⟩ := HR_keep (A0 := A0) a5.2.2.1 a5.2.2.2.1 a5.2.2.2.2.1 a3.1
  have hj : ∀ {j : Nat}, j ≠ 6 → j ≠ 3 → (j < 7 ∨ 15 ≤ j) → setm (kpM M o h) 3 T j = M j := fun h6 h3 h7 => (setm_n h3).trans (kpM_ne h6 h7)
  have hq0 := a1.1
  unfold RLw
  rw [hj (j := 0) (by omega) (by omega) (by omega), hj (j := 1) (by omega) (by omega) (by omega), hj (j := 5) (by omega) (by omega) (by omega), hj (j := q) (by omega) (by omega) (by omega), setm_s, show setm (kpM M o h) 3 T 6 = kpM M o h 6 from setm_n (by decide)]
  refine ⟨a1, a2, ⟨g, rfl⟩, a4, ⟨k2, k3, k4, k5, HR_m k1 (fun j h7 h15 => setm_n (by omega)), rfl⟩, ?_, a7, a8⟩
  intro z hz
  rw [show setm (kpM M o h) 3 T (7 + z) = kpM M o h (7 + z) from setm_n (by omega)]
  by_cases he : 7 + z = 7 + (o + h) % 8
  · rw [he, kpM_h a5.2.2.1 a5.2.2.2.1]; exact a3.1.2.2
  · rw [kpM_o (by omega) he]; exact a6 z hz
/-- both take the newest state back -/
theorem RL_undo (H : RLw x M R L q BP be nm A0 B0 n bs u o (h + 1) k) : ∃ A1, RLw x (tbM M o h) (md (pcR (mt R 0) (nI h)) (fil (fun q => R 0 4 (443 * h + q)) (R 0 1) 443)) L q BP be nm A1 B0 n bs u o h k := by
  obtain ⟨a1, a2, a3, a4, a5, a6, a7, a8⟩ := H
  have hq0 := a1.1
  have hj : ∀ {j : Nat}, j ≠ 6 → j ≠ 3 → tbM M o h j = M j := fun h6 h3 => by
    unfold tbM
    rw [setm_n h6, setm_n h3]
  obtain ⟨u1, u2, B1, u3⟩ := HR_undo (M2 := tbM M o h) a5.2.2.2.2.1 (fun j h7 h15 => hj (by omega) (by omega))
  have e3 : tbM M o h 3 = M (7 + (o + h) % 8) := by
    unfold tbM
    rw [setm_n (by decide), setm_s]
  have e6 : tbM M o h 6 = vH (M 6) (nI o) (nI h) (M 6 1) := by
    unfold tbM
    rw [setm_s]
  obtain ⟨A1, e1⟩ := enc_ch (A := fil (fun q => R 0 4 (443 * h + q)) (R 0 1) 443) (T := M (7 + (o + h) % 8)) (A0 := B1) a2.1 (fun q hq => by
    rw [show fil (fun q => R 0 4 (443 * h + q)) (R 0 1) 443 q = R 0 4 (443 * h + q) from if_pos hq]
    exact u3 q hq)
  refine ⟨A1, ?_⟩
  unfold RLw
  rw [hj (j := 0) (by omega) (by omega), hj (j := 1) (by omega) (by omega), hj (j := 5) (by omega) (by omega), hj (j := q) (by omega) (by omega), e3, e6]
  refine ⟨a1, a2, ⟨u2, e1⟩, a4, ⟨rfl, rfl, a5.2.2.1, by have := a5.2.2.2.1; omega, u1, rfl⟩, ?_, a7, a8⟩
  intro z hz
  rw [hj (by omega) (by omega)]
  exact a6 z hz
/-- both save their state -/
theorem RL_save (H : RLw x M R L q BP be nm A0 B0 n bs u o h k) : RLw x (isM (setm M 5 (M 3)) 1) (isR (ar 3 (mt R 0) (fil (R 0 1) (R 0 3) 443)) 1) L q BP be nm A0 B0 n bs u o h k := by
  obtain ⟨a1, a2, a3, a4, a5, a6, a7, a8⟩ := H
  have hq0 := a1.1
  have hj : ∀ {j : Nat}, j ≠ 0 → j ≠ 5 → isM (setm M 5 (M 3)) 1 j = M j := fun h0 h5 => (setm_n h0).trans (setm_n h5)
  have e5 : isM (setm M 5 (M 3)) 1 5 = M 3 := (setm_n (by decide)).trans setm_s
  unfold RLw
  rw [hj (j := 1) (by omega) (by omega), hj (j := 3) (by omega) (by omega), hj (j := 6) (by omega) (by omega), hj (j := q) (by omega) (by omega), e5]
  refine ⟨a1, a2, a3, a4, ⟨a5.1, a5.2.1, a5.2.2.1, a5.2.2.2.1, HR_m a5.2.2.2.2.1 (fun j h7 h15 => hj (by omega) (by omega)), a5.2.2.2.2.2⟩, ?_, ⟨rfl, a3.1.2.2, fun _ => ⟨a3.1, A0, fun j hj9 => ?_⟩⟩, a8⟩
  · intro z hz
    rw [hj (by omega) (by omega)]
    exact a6 z hz
  · show fil (R 0 1) (R 0 3) 443 j = _
    rw [show fil (R 0 1) (R 0 3) 443 j = R 0 1 j from if_pos hj9, a3.2]
end RLS
