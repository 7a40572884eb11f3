/-! the start: the plan as read, the law's object as it was filled -/
set_option maxRecDepth 1000000 in
theorem fs_1 : fsR.1.1 = 1 ∧ fsR.1.2.2.2.2.2.1 = 0 ∧ fsR.1.2.2.2.2.2.2 = -1 ∧ fsR.2.1 = (3, 3, 9) ∧ fsR.2.2.2.2.2.1 = 2 := by decide +kernel
set_option maxRecDepth 1000000 in
theorem fs_2 : (fsR.2.2.2.2.2.2.1 0 = 3 ∧ fsR.2.2.2.2.2.2.1 1 = 3) ∧ fsR.2.2.2.2.2.2.2.1 0 = 0 ∧ fsR.2.2.2.2.2.2.2.1 1 = 4 := by decide +kernel
theorem fs_pi : PIv fsR.2 := by
  obtain ⟨-, -, -, h1, h2⟩ := fs_1
  obtain ⟨⟨l0, l1⟩, p0, p1⟩ := fs_2
  unfold PIv
  rw [h1, h2]
  refine ⟨by decide, by decide, rfl, Or.inr (by decide), by decide, fun i hi => ?_, fun i hi => ?_⟩
  · rcases (show i = 0 ∨ i = 1 by omega) with rfl | rfl
    · rw [l0]; decide
    · rw [l1]; decide
  · rcases (show i = 0 ∨ i = 1 by omega) with rfl | rfl
    · exact ⟨0, by decide, p0⟩
    · exact ⟨4, by decide, p1⟩
theorem rFb_be {Rr : (Int32 × TT) × PP} {b2 : Nat → Int32} (h0 : ¬ Rr.1.1 = 0) (hx : PIv Rr.2) : BEx (rFb Rr b2) Rr.2 := by
  intro c d hc hd
  have e : rFb Rr b2 = fil (gB Rr.2.1.1 Rr.2.1.2.1) b2 (Rr.2.1.1 * Rr.2.1.2.1 * 4) := if_neg h0
  have hz := hx.2.2.1
  rw [e, show fil (gB Rr.2.1.1 Rr.2.1.2.1) b2 (Rr.2.1.1 * Rr.2.1.2.1 * 4) (c * 4 + d) = gB Rr.2.1.1 Rr.2.1.2.1 (c * 4 + d) from if_pos (by omega)]
  unfold gB nbx
  rw [show (c * 4 + d) / 4 = c by omega, show (c * 4 + d) % 4 = d by omega]
theorem ws_00 : ∀ n, ws (fun _ => 0) n = 0
  | 0 => rfl
  | n + 1 => by
    show ws (fun _ => 0) n + 0 = 0
    rw [ws_00 n]; rfl
theorem ZI_stt {x : PP} {T : Nat → Nat → Int32} {L : Int} (hf : 0 ≤ x.2.2.2.1 ∧ x.2.2.2.1 ≤ 9) (hL : 0 ≤ L) : ZI x (stT x T) L := by
  have z0 : NN x.1.2.2 (fun _ => 0) L := ⟨fun _ _ => Int.le_refl 0, by rw [ws_00]; exact hL⟩
  have z1 : NN x.1.2.2 (fun _ => 0) (1856 * (0 : Int32).toInt) := ⟨fun _ _ => Int.le_refl 0, by rw [ws_00]; decide⟩
  exact ⟨⟨⟨i_le.mp hf.1, i_le.mp hf.2⟩, fun _ _ => ⟨Int.le_refl 0, by show (0 : Int) ≤ 20; decide⟩, fun _ _ => ⟨Int.le_refl 0, by show (0 : Int) ≤ 60; decide⟩, fun _ _ => Iff.rfl, z1⟩, ⟨Int.le_refl 0, by show (0 : Int) ≤ 999; decide⟩, z0⟩
theorem LSt_stt {x : PP} {B T : Nat → Nat → Int32} (hx : PIv x) (hf : 0 ≤ x.2.2.2.1 ∧ x.2.2.2.1 ≤ 2) : LSt x B (stT x T) 0 := by
  have h2 := i_le.mp hf.2
  refine ⟨ZI_stt ⟨hf.1, Int32.le_trans hf.2 (by decide)⟩ (Int.le_refl 0), ⟨h2, fun c hc => by show (0 : Int) ≤ 16; decide, ⟨fun _ _ => Int.le_refl 0, by show ws (fun _ => 0) _ ≤ 450 * (0 : Int); rw [ws_00]; decide⟩⟩, hx.2.2.2.2.2.2, fun i _ => by show fits .boolean (.int 0) = true; rfl, fun r c hin h4 => absurd rfl h4, ?_, ?_⟩
  · show (0 : Int32) + 0 = sm (fun _ => 0) x.1.2.2 + 0 + 0
    rw [sm_c]
    simp
  · show (0 : Int32) = sm (fun _ => 0) x.1.2.2 + 0
    rw [sm_c]
    simp
section LST
variable {u v bt rn : Nat} {he gu nl fp bh : Nat → Int32} {r : Nat → Nat → Int32} {hi gA : Nat → Nat → Int32} {br bc tl : Nat → Int32}
theorem x_pi (hu : 2 ≤ u ∧ u ≤ 5) (hv : 2 ≤ v ∧ v ≤ 5) (hbt : bt ≤ 2) (hnl : ∀ i, i < bt → nl i = nI 1) (hb : ∀ b, b < bt → ∃ a c t, (1 ≤ a ∧ a ≤ u) ∧ (1 ≤ c ∧ c ≤ v) ∧ (1 ≤ t ∧ t ≤ 9) ∧ br b = nI a ∧ bc b = nI c ∧ fp b = nI ((a - 1) * v + (c - 1)) ∧ tl b = nI t ∧ bh b = nI t) : PIv ((u, v, u * v), he, gu, nI rn, (bt, nl, fp, bh, r)) := by
  refine ⟨by show u ≤ 8; omega, by show v ≤ 8; omega, rfl, Or.inr (by show 2 ≤ v; omega), by show bt ≤ 4; omega, fun i hi => ?_, fun i hi => ?_⟩
  · have := hnl i hi
    show nl i = nI (nl i).toNatClampNeg ∧ (nl i).toNatClampNeg ≤ 6
    rw [this]
    exact ⟨rfl, by decide⟩
  · obtain ⟨a, c, t, h1, h2, h3, h4, h5, h6, h7, h8⟩ := hb i hi
    exact ⟨_, cellq_lt h1 h2, h6⟩
theorem x_LE {T : Nat → Nat → Int32} (hu : 2 ≤ u ∧ u ≤ 5) (hv : 2 ≤ v ∧ v ≤ 5) (hbt : bt ≤ 2) (hhi : ∀ a b, a < 7 → b < 7 → hi a b = if (1 ≤ a ∧ a ≤ u) ∧ (1 ≤ b ∧ b ≤ v) then he ((a - 1) * v + (b - 1)) else 100000) (hg : ∀ a b, (1 ≤ a ∧ a ≤ u) → (1 ≤ b ∧ b ≤ v) → gA a b = gu ((a - 1) * v + (b - 1))) (hb : ∀ b, b < bt → ∃ a c t, (1 ≤ a ∧ a ≤ u) ∧ (1 ≤ c ∧ c ≤ v) ∧ (1 ≤ t ∧ t ≤ 9) ∧ br b = nI a ∧ bc b = nI c ∧ fp b = nI ((a - 1) * v + (c - 1)) ∧ tl b = nI t ∧ bh b = nI t) : LE (ZF (flF u v bt rn) hi gA br bc tl) ((u, v, u * v), he, gu, nI rn, (bt, nl, fp, bh, r)) (stT ((u, v, u * v), he, gu, nI rn, (bt, nl, fp, bh, r)) T) = ZF (flF u v bt rn) hi gA br bc tl := by
  funext t k
  unfold LE
  by_cases h0 : t = 0
  · subst h0
    rw [if_pos rfl]
    unfold lO
    have hf : ∀ j, ZF (flF u v bt rn) hi gA br bc tl 0 j = flF u v bt rn j := fun j => rfl
    rw [hf]
    by_cases k12 : k = 12
    · subst k12; rfl
    · rw [if_neg k12]
      by_cases k13 : k = 13
      · subst k13; rfl
      · rw [if_neg k13]
        by_cases k14 : k = 14
        · subst k14; rfl
        · rw [if_neg k14]
          by_cases k15 : k = 15
          · subst k15; rfl
          · rw [if_neg k15]
            have e : flF u v bt rn k = 0 := by unfold flF; rw [pk_un k15, pk_un k14, pk_un k13, pk_un k12]
            by_cases k16 : k = 16
            · subst k16; rfl
            · rw [if_neg k16]
              by_cases k17 : k = 17
              · subst k17; rfl
              · rw [if_neg k17]
                by_cases k18 : k = 18
                · subst k18; rfl
                · rw [if_neg k18]
                  by_cases k19 : k = 19
                  · subst k19; rfl
                  · rw [if_neg k19]
                    by_cases k20 : k = 20
                    · subst k20; rfl
                    · rw [if_neg k20]
  · rw [if_neg h0]
    by_cases h13 : t < 13
    · rw [if_pos h13]
      by_cases h8 : 8 ≤ t ∧ k < bt
      · rw [if_pos (show 8 ≤ t ∧ k < _ from h8)]
        obtain ⟨a, c, z, h1, h2, h3, h4, h5, h6, h7, h9⟩ := hb k h8.2
        have hq : (a - 1) * v + (c - 1) < 25 := Nat.lt_of_lt_of_le (cellq_lt h1 h2) (Nat.mul_le_mul hu.2 hv.2)
        have hT5 : (stT ((u, v, u * v), he, gu, nI rn, (bt, nl, fp, bh, r)) T) 5 k = nI ((a - 1) * v + (c - 1)) := h6
        have d1 : ((a - 1) * v + (c - 1)) / v = a - 1 := by rw [Nat.mul_comm, Nat.mul_add_div (by omega), Nat.div_eq_of_lt (by omega), Nat.add_zero]
        have d2 : ((a - 1) * v + (c - 1)) % v = c - 1 := by rw [Nat.mul_comm, Nat.mul_add_mod, Nat.mod_eq_of_lt (by omega)]
        unfold lB
        rw [hT5, nI_clamp (by omega)]
        rcases (show t = 8 ∨ t = 9 ∨ t = 10 ∨ t = 11 ∨ t = 12 by omega) with rfl | rfl | rfl | rfl | rfl
        · rw [if_pos rfl]
          show nI (((a - 1) * v + (c - 1)) / v + 1) = br k
          rw [d1, h4, show a - 1 + 1 = a by omega]
        · rw [if_neg (by decide), if_pos rfl]
          show nI (((a - 1) * v + (c - 1)) % v + 1) = bc k
          rw [d2, h5, show c - 1 + 1 = c by omega]
        · rw [if_neg (by decide), if_neg (by decide), if_pos rfl]
          show bh k = tl k
          rw [h9, h7]
        · rfl
        · rfl
      · rw [if_neg (show ¬ (8 ≤ t ∧ k < _) from h8)]
    · rw [if_neg h13]
      by_cases hin : (20 ≤ t ∧ t < 62 ∧ ¬ (48 ≤ t ∧ t < 55)) ∧ inC ((u, v, u * v), he, gu, nI rn, (bt, nl, fp, bh, r)) ((t - 20) % 7) k
      · rw [if_pos hin]
        obtain ⟨⟨i1, i2, i3⟩, i4⟩ := hin
        obtain ⟨c1, c2⟩ : (1 ≤ (t - 20) % 7 ∧ (t - 20) % 7 ≤ u) ∧ (1 ≤ k ∧ k ≤ v) := i4
        obtain ⟨a, b, rfl, hb7⟩ : ∃ a b, t = 20 + 7 * a + b ∧ b < 7 := ⟨(t - 20) / 7, (t - 20) % 7, by omega, by omega⟩
        have e1 : (20 + 7 * a + b - 20) % 7 = b := by omega
        have e2 : (20 + 7 * a + b - 20) / 7 = a := by omega
        rw [e1] at c1
        rw [e1, e2]
        unfold lA clC
        rcases (show a = 0 ∨ a = 1 ∨ a = 2 ∨ a = 3 ∨ a = 5 by omega) with rfl | rfl | rfl | rfl | rfl
        · rw [if_pos rfl, ZF_h hb7, hhi b k hb7 (by omega), if_pos ⟨c1, c2⟩]
        · rw [if_neg (by decide), if_pos rfl]
          unfold ZF
          rw [if_neg (by omega), if_neg (by omega), if_neg (by omega), if_neg (by omega), if_neg (by omega), if_neg (by omega)]
          rfl
        · rw [if_neg (by decide), if_neg (by decide), if_pos rfl]
          unfold ZF
          rw [if_neg (by omega), if_neg (by omega), if_neg (by omega), if_neg (by omega), if_neg (by omega), if_neg (by omega)]
          rfl
        · rw [if_neg (by decide), if_neg (by decide), if_neg (by decide), if_pos rfl, ZF_g hb7, hg b k c1 c2]
        · rw [if_neg (by decide), if_neg (by decide), if_neg (by decide), if_neg (by decide)]
          unfold ZF
          rw [if_neg (by omega), if_neg (by omega), if_neg (by omega), if_neg (by omega), if_neg (by omega), if_neg (by omega)]
          rfl
      · rw [if_neg hin]
theorem x_WL (hhi : ∀ a b, a < 7 → b < 7 → hi a b = if (1 ≤ a ∧ a ≤ u) ∧ (1 ≤ b ∧ b ≤ v) then he ((a - 1) * v + (b - 1)) else 100000) {fl : Nat → Int32} : WLi (ZF fl hi gA br bc tl) ((u, v, u * v), he, gu, nI rn, (bt, nl, fp, bh, r)) := by
  intro a b ha hb hn
  refine ⟨?_, ?_⟩
  · rw [ZF_h ha, hhi a b ha hb, if_neg (show ¬ ((1 ≤ a ∧ a ≤ u) ∧ (1 ≤ b ∧ b ≤ v)) from hn)]
  · unfold ZF
    rw [if_neg (by omega), if_neg (by omega), if_neg (by omega), if_neg (by omega), if_neg (by omega), if_neg (by omega)]
end LST
theorem LIV_like {x : PP} {be nm : Nat → Int32} {BP : Nat → Nat → Int32} {q : Nat} {M : Mem} {B B' T Z : Nat → Nat → Int32} {L : Int} {o h : Nat} (hV : LIV x be nm BP q M B T L o h) (h1 : WLi B' x) (h2 : RTi B' x T) : LIV x be nm BP q (setm (setm M 15 Z) 19 (LE B' x T)) B' T L o h := by
  obtain ⟨⟨c1, c2, c3, c4, c5⟩, h10, g3, g19, gW, gS, ⟨o1, o2⟩, o3, o4⟩ := hV
  have e : ∀ j, j ≠ 15 → j ≠ 19 → (setm (setm M 15 Z) 19 (LE B' x T)) j = M j := fun j a b => by rw [setm_n b, setm_n a]
  refine ⟨⟨by rw [e 0 (by decide) (by decide)]; exact c1, c2, by rw [e q (by omega) (by omega)]; exact c3, c4, c5⟩, by rw [e 0 (by decide) (by decide)]; exact h10, by rw [e 3 (by decide) (by decide)]; exact g3, setm_s, h1, ⟨gS.1, gS.2.1, gS.2.2.1, gS.2.2.2.1, h2, gS.2.2.2.2.2⟩, ⟨by rw [e 6 (by decide) (by decide)]; exact o1, by rw [e 6 (by decide) (by decide)]; exact o2⟩, o3, o4⟩
