/-! the relation: changes and scripts -/
section RLU
variable {x : PP} {M R M2 R2 : Mem} {L L2 : Int} {q : Nat} {BP : Nat → Nat → Int32} {be nm A0 : Nat → Int32} {B0 : Nat → Nat → Int32} {n : Nat} {bs : Nat → Int32} {u : TT} {o h k : Nat} {T : Nat → Nat → Int32}
theorem fb_1 : fits .boolean (.int 1) = true := rfl
theorem mnN_wt (hw : WTi T) : ∀ t, WTi (mnX x T t)
  | 0 => hw
  | t + 1 => by
    have ih := mnN_wt hw t
    intro i hi
    show fits .boolean (.int (fil (wtF (mw5 x.1.2.2 x.2.1 x.2.2.1 (nbx x) (mnX x T t)) (mnX x T t 5) x.2.2.2.2.2.2.2.1 (mnX x T t 7)) (mnX x T t 7) x.2.2.2.2.1 i)) = true
    unfold fil
    split
    · unfold wtF
      split
      · exact fb_1
      · exact ih i hi
    · exact ih i hi
theorem exK_wt {v : Nat} {a b c : Int32} (hw : WTi T) : WTi (exV x v a b c T).2 := by
  have ip : ∀ {A B : Int32 × (Nat → Nat → Int32)} {p : Prop} [Decidable p], WTi A.2 → WTi B.2 → WTi (if p then A else B).2 := by
    intro A B p _ hA hB
    by_cases hp : p
    · rw [if_pos hp]; exact hA
    · rw [if_neg hp]; exact hB
  have so : ∀ {A : Nat → Nat → Int32} {B : Nat → Nat → Nat → Int32} {o : Option Nat}, WTi A → (∀ j, WTi (B j)) → WTi (stO o ((0 : Int32), A) (fun j => (1, B j))).2 := by
    intro A B o hA hB
    cases o with
    | none => exact hA
    | some j => exact hB j
  match v with
  | 0 => exact hw
  | 1 => exact ip hw hw
  | 2 => exact ip hw hw
  | 3 => exact hw
  | 4 => exact hw
  | 5 =>
    refine so hw (fun j i hi => ?_)
    show fits .boolean (.int ((if x.2.2.2.2.2.2.2.1 a.toNatClampNeg < T 1 j then upd (T 7) a.toNatClampNeg 1 else T 7) i)) = true
    split
    · by_cases he : i = a.toNatClampNeg
      · rw [he, upd_at]; exact fb_1
      · rw [upd_ne he]; exact hw i hi
    · exact hw i hi
  | 6 => exact ip hw hw
  | _ + 7 => exact ip hw (mnN_wt hw _)
theorem exT_wt {vb : Nat → Int32} {f : CF} (hw : WTi T) : ∀ i, WTi (exT x vb f T i)
  | 0 => hw
  | i + 1 => exK_wt (x := x) (exT_wt hw i)
theorem gd_ra (g : gd x T L) {a : Int32} (h0 : 0 ≤ a) (h9 : a ≤ 9) : gd x (raT T a) L := ⟨ZI_ra g.1 h0 h9, g.2⟩
theorem gd_op (g : gd x T L) {c : Nat} {a b : Int32} (a1 : 1 ≤ a) (a2 : a ≤ 20) (b1 : 1 ≤ b) (b2 : b ≤ 60) : gd x (opT T c a b) L := ⟨ZI_op g.1 a1 a2 b1 b2, g.2⟩
theorem gd_sh (g : gd x T L) {c : Nat} : gd x (shT T c) L := ⟨ZI_sh g.1, g.2⟩
theorem gd_lv (g : gd x T L) (hL : L + 9 < 2147483648) {c : Nat} {b : Int32} (hc : c < x.1.2.2) (b1 : 1 ≤ b) (b2 : b ≤ 9) : gd x (lvT T c b) (L + 9) := ⟨(ZI_lv g.1 hL hc b1 b2).1, g.2⟩
theorem gd_sw (g : gd x T L) {c : Nat} (hc : c < x.1.2.2) : gd x (swT T c) L := ⟨ZI_sw g.1 hc, g.2⟩
theorem gd_wk (g : gd x T L) {b j : Nat} (hj : j < x.1.2.2) : gd x (wkT x.2.2.2.2.2.2.2.1 T b j) L := by
  refine ⟨ZI_wk g.1, ?_, ?_⟩
  · intro i hi
    show ∃ q, q < x.1.2.2 ∧ upd (T 5) b (nI j) i = nI q
    by_cases he : i = b
    · rw [he, upd_at]; exact ⟨j, hj, rfl⟩
    · rw [upd_ne he]; exact g.2.1 i hi
  · intro i hi
    show fits .boolean (.int ((if x.2.2.2.2.2.2.2.1 b < T 1 j then upd (T 7) b 1 else T 7) i)) = true
    split
    · by_cases he : i = b
      · rw [he, upd_at]; exact fb_1
      · rw [upd_ne he]; exact g.2.2 i hi
    · exact g.2.2 i hi
theorem gd_th (hx : PIv x) (g : gd x T L) {b q : Nat} (hq : q < x.1.2.2) : gd x (thT x T b q) L := ⟨(ZI_th hx g.1 hq).1, g.2⟩
theorem gd_mn (hx : PIv x) (hL : L < 2147483648) (g : gd x T L) {t : Nat} (ht : t ≤ 60) (h9 : (T 0 7).toInt + t ≤ 999) : gd x (mnX x T t) L := by
  refine ⟨(ZI_mn hx hL g.1 ht h9).1, ?_, mnN_wt g.2.2 t⟩
  intro b hb
  rw [show mnX x T t 5 = T 5 from mnN_5 t]
  exact g.2.1 b hb
theorem RL_run0 (H : RLw x M R L q BP be nm A0 B0 n bs u o h k) {r : Option AV} (hb : rsBad R R2 (R 0 1) (scR M bs n u x) r) : RLw x (scM M B0 bs n u x) R2 L q BP be nm A0 B0 0 bs (scR M bs n u x).1.2 o h k := by
  obtain ⟨a1, a2, a3, a4, a5, a6, a7, a8⟩ := H
  have hq0 := a1.1
  obtain ⟨b1, b2, ⟨c2, c3, c10, c25, c5, c26, c6, c11⟩, b3, b4, b5, b6, b7, b8⟩ := hb
  have hj : ∀ {j : Nat}, j ≠ 1 → j ≠ 2 → scM M B0 bs n u x j = M j := fun h1 h2 => by
    unfold scM
    rw [setm_n h1, setm_n h2]
  have e1 : scM M B0 bs n u x 1 = vTx B0 0 bs (scR M bs n u x).1.2 := by
    unfold scM
    rw [setm_s]
  unfold RLw
  rw [hj (j := 0) (by omega) (by omega), e1, hj (j := 3) (by omega) (by omega), hj (j := 5) (by omega) (by omega), hj (j := 6) (by omega) (by omega), hj (j := q) (by omega) (by omega), c3, c10, c25, c5, c26, c11, b3, b4, b5, b6, b7]
  refine ⟨a1, a2, a3, ⟨rfl, Nat.zero_le _, a4.2.2.1, fun i hi => absurd hi (Nat.not_lt_zero i), rfl, rfl, rfl⟩, ⟨a5.1, a5.2.1, a5.2.2.1, a5.2.2.2.1, HR_m a5.2.2.2.2.1 (fun j h7 h15 => hj (by omega) (by omega)), a5.2.2.2.2.2⟩, ?_, a7, a8⟩
  intro z hz
  rw [hj (by omega) (by omega)]
  exact a6 z hz
theorem RL_run1 (H : RLw x M R L q BP be nm A0 B0 n bs u o h k) {r : Option AV} (hb : rsOk R R2 A0 x (M 3) L (R 0 4) h (scR M bs n u x) r) : RLw x (setm (kpM (scM M B0 bs n u x) o h) 3 (exT x (scR M bs n u x).2.2.1 (scR M bs n u x).2.2.2 (M 3) (scN M bs n u x))) R2 (L + 270) q BP be nm A0 B0 0 bs (scR M bs n u x).1.2 (oK o h) (rmK h + 1) k := by
  obtain ⟨a1, a2, a3, a4, a5, a6, a7, a8⟩ := RL_le H (show L ≤ L + 270 by omega)
  have hq0 := a1.1
  obtain ⟨b1, b2, ⟨c2, c3, c10, c25, c5, c26, c6, c11⟩, b3, b4, b5, b6, b7, b8, b9, b10⟩ := hb
  have hs : ∀ {j : Nat}, j ≠ 1 → j ≠ 2 → scM M B0 bs n u x j = M j := fun h1 h2 => by
    unfold scM
    rw [setm_n h1, setm_n h2]
  have hs1 : scM M B0 bs n u x 1 = vTx B0 0 bs (scR M bs n u x).1.2 := by
    unfold scM
    rw [setm_s]
  have hs3 : scM M B0 bs n u x 3 = M 3 := hs (by omega) (by omega)
  obtain ⟨k1, k2, k3, k4, k5⟩ := HR_keep (M := scM M B0 bs n u x) (A0 := A0) a5.2.2.1 a5.2.2.2.1 (HR_m a5.2.2.2.2.1 (fun j h7 h15 => hs (by omega) (by omega))) (by rw [hs3]; exact a3.1)
  rw [hs3] at k1
  have hj : ∀ {j : Nat}, j ≠ 6 → j ≠ 3 → j ≠ 2 → j ≠ 1 → (j < 7 ∨ 15 ≤ j) → setm (kpM (scM M B0 bs n u x) o h) 3 (exT x (scR M bs n u x).2.2.1 (scR M bs n u x).2.2.2 (M 3) (scN M bs n u x)) j = M j := fun h6 h3 h2 h1 h7 => ((setm_n h3).trans (kpM_ne h6 h7)).trans (hs h1 h2)
  have e1 : setm (kpM (scM M B0 bs n u x) o h) 3 (exT x (scR M bs n u x).2.2.1 (scR M bs n u x).2.2.2 (M 3) (scN M bs n u x)) 1 = vTx B0 0 bs (scR M bs n u x).1.2 := ((setm_n (by decide)).trans (kpM_ne (by decide) (by decide))).trans hs1
  have e6 : setm (kpM (scM M B0 bs n u x) o h) 3 (exT x (scR M bs n u x).2.2.1 (scR M bs n u x).2.2.2 (M 3) (scN M bs n u x)) 6 = kpM (scM M B0 bs n u x) o h 6 := setm_n (by decide)
  unfold RLw
  rw [hj (j := 0) (by omega) (by omega) (by omega) (by omega) (by omega), e1, hj (j := 5) (by omega) (by omega) (by omega) (by omega) (by omega), hj (j := q) (by omega) (by omega) (by omega) (by omega) (by omega), setm_s, e6, c3, c10, c25, c5, c26, c11, b3, b5, b6, b7, b8, b9, b10]
  refine ⟨a1, a2, ⟨⟨b4, exT_pl a2.1 a3.1.2.1 _, exT_wt a3.1.2.2 _⟩, rfl⟩, ⟨rfl, Nat.zero_le _, a4.2.2.1, fun i hi => absurd hi (Nat.not_lt_zero i), rfl, rfl, rfl⟩, ⟨k2, k3, k4, k5, HR_m k1 (fun j h7 h15 => setm_n (by omega)), rfl⟩, ?_, a7, a8⟩
  intro z hz
  rw [show setm (kpM (scM M B0 bs n u x) o h) 3 (exT x (scR M bs n u x).2.2.1 (scR M bs n u x).2.2.2 (M 3) (scN M bs n u x)) (7 + z) = kpM (scM M B0 bs n u x) o h (7 + z) from setm_n (by omega)]
  by_cases he : 7 + z = 7 + (o + h) % 8
  · rw [he, kpM_h a5.2.2.1 a5.2.2.2.1, hs3]; exact a3.1.2.2
  · rw [kpM_o (by omega) he, hs (by omega) (by omega)]; exact a6 z hz
end RLU
