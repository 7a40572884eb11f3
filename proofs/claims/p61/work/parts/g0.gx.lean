/-! the constants at the start, as the claim's premise gives them -/
def atB : Jvm.Cond → List Bool → Jvm.Cond
  | .and a _, false :: p => atB a p
  | .and _ b, true :: p => atB b p
  | c, _ => c
theorem atB_ok {args : Array Value} {s : State} : ∀ (p : List Bool) (T : Jvm.Cond), T.before args s = true → (atB T p).before args s = true
  | [], T, h => by cases T <;> exact h
  | b :: p, T, h => by
    cases T with
    | and a c =>
      rw [Cond.before_and, Bool.and_eq_true] at h
      cases b
      · exact atB_ok p a h.1
      · exact atB_ok p c h.2
    | _ => exact h
def bL : Nat → Nat → List Bool
  | 0, _ => []
  | k + 1, c => (c / 2 ^ k % 2 == 1) :: bL k c
def nwC (q : Nat × Nat) : Jvm.Cond := atB narrow_1 (bL q.1 q.2)
theorem nwC_ok {args : Array Value} {s : State} (h : narrow_1.before args s = true) {q : Nat × Nat} {w : Jvm.Cond} (e : nwC q = w) : w.before args s = true := e ▸ atB_ok _ _ h
def jTm (i : Nat) : Term := .string (JSo.getD i "") (JSk.getD i 0)
abbrev jVl (i : Nat) : Term := .field (jTm i) "java/lang/String" "value" "[B"

def pEx : List (Nat × Nat) := [(10, 430), (9, 281), (10, 575), (9, 298), (10, 615), (9, 369), (9, 317), (9, 409), (9, 388), (9, 339), (10, 863), (9, 445), (10, 927), (9, 481)]
def pCo : List (Nat × Nat) := [(10, 431), (9, 282), (9, 288), (10, 598), (9, 308), (9, 370), (9, 318), (9, 410), (9, 389), (9, 340), (9, 432), (9, 446), (9, 464), (9, 482)]
def pAr : List (Nat × Nat) := [(9, 216), (10, 566), (9, 289), (10, 599), (9, 309), (10, 742), (10, 638), (10, 822), (9, 390), (9, 341), (9, 433), (10, 894), (9, 465), (9, 483)]
def pLe : List (Nat × Nat) := [(9, 217), (10, 567), (9, 290), (9, 300), (9, 310), (10, 743), (10, 639), (10, 823), (10, 782), (9, 342), (9, 434), (10, 895), (9, 466), (9, 484)]
def pEl : List (List (Nat × Nat)) := [[(9, 218), (10, 438), (10, 439), (9, 220), (9, 221), (9, 222), (10, 446), (10, 447), (9, 224), (9, 225), (9, 226), (9, 227), (9, 228), (9, 229), (9, 230), (10, 462), (10, 463), (9, 232), (9, 233), (9, 234), (10, 470), (10, 471), (9, 236), (9, 237), (9, 238), (10, 478), (10, 479), (9, 240), (9, 241), (9, 242), (10, 486), (10, 487), (9, 244), (9, 245), (9, 246), (10, 494), (10, 495), (9, 248), (9, 249), (9, 250), (10, 502), (10, 503), (9, 252), (9, 253), (9, 254), (10, 510), (10, 511), (9, 256), (9, 257), (9, 258), (9, 259), (9, 260), (9, 261), (9, 262), (10, 526), (10, 527), (9, 264), (9, 265), (9, 266), (10, 534), (10, 535), (9, 268), (9, 269), (9, 270), (10, 542), (10, 543), (9, 272), (9, 273), (9, 274), (9, 275), (9, 276), (9, 277), (9, 278), (10, 558), (10, 559), (9, 280)], [(9, 284), (9, 285), (9, 286)], [(9, 291), (9, 292), (9, 293), (9, 294), (10, 590), (10, 591)], [(9, 301), (9, 302), (10, 606), (10, 607), (9, 304)], [(10, 622), (10, 623), (9, 312), (9, 313)], [(9, 372), (9, 373), (9, 374), (10, 750), (10, 751), (9, 376), (9, 377), (9, 378), (10, 758), (10, 759), (9, 380), (9, 381)], [(9, 320), (9, 321), (9, 322), (9, 323), (9, 324), (9, 325), (9, 326), (10, 654), (10, 655), (9, 328), (9, 329), (9, 330), (10, 662), (10, 663), (9, 332), (9, 333), (9, 334)], [(9, 412), (9, 413), (9, 414), (10, 830), (10, 831), (9, 416), (9, 417), (9, 418), (9, 419), (9, 420), (9, 421), (9, 422), (10, 846), (10, 847)], [(10, 783), (9, 392), (9, 393), (9, 394), (10, 790), (10, 791), (9, 396), (9, 397), (9, 398), (10, 798), (10, 799), (9, 400), (9, 401)], [(10, 686), (10, 687), (9, 344), (9, 345), (9, 346), (10, 694), (10, 695), (9, 348), (9, 349), (9, 350), (10, 702), (10, 703), (9, 352), (9, 353), (9, 354), (9, 355), (9, 356), (9, 357), (9, 358), (10, 718), (10, 719), (9, 360), (9, 361), (9, 362), (10, 726), (10, 727)], [(10, 870), (10, 871), (9, 436)], [(9, 448), (9, 449), (9, 450), (9, 451), (9, 452), (9, 453), (9, 454)], [(10, 934), (10, 935), (9, 468), (9, 469), (9, 470), (10, 942)], [(9, 485), (9, 486), (10, 974), (10, 975), (9, 488)]]
theorem nEx : ∀ i, i < 14 → nwC (pEx.getD i (0, 0)) = .exactly (jTm i) "java/lang/String" := by decide +kernel
theorem nCo : ∀ i, i < 14 → nwC (pCo.getD i (0, 0)) = .eq (.field (jTm i) "java/lang/String" "coder" "B") (.int 0) := by decide +kernel
theorem nAr : ∀ i, i < 14 → nwC (pAr.getD i (0, 0)) = .arrayOf (jVl i) .byte := by decide +kernel
theorem nLe : ∀ i, i < 14 → nwC (pLe.getD i (0, 0)) = .eq (.length (jVl i)) (.int (Int32.ofNat (lenJS.getD i 0))) := by decide +kernel
theorem nEl : ∀ i, i < 14 → ∀ j, j < lenJS.getD i 0 → nwC ((pEl.getD i []).getD j (0, 0)) = .eq (.elem (jVl i) (.int (Int32.ofNat j))) (.int ((bytJS.getD i []).getD j 0)) := by decide +kernel
abbrev tTD : Term := .static "java/lang/Integer" "DigitTens" "[B"
def pTE : List (Nat × Nat) := [(9, 96), (9, 97), (9, 98), (9, 99), (9, 100), (9, 101), (9, 102), (10, 206), (10, 207), (9, 104), (9, 105), (9, 106), (10, 214), (10, 215), (9, 108), (9, 109), (9, 110), (10, 222), (10, 223), (9, 112), (9, 113), (9, 114), (10, 230), (10, 231), (9, 116), (9, 117), (9, 118), (10, 238), (10, 239), (9, 120), (9, 121), (9, 122), (10, 246), (10, 247), (9, 124), (9, 125), (9, 126), (10, 254), (10, 255), (9, 128), (9, 129), (9, 130), (9, 131), (9, 132), (9, 133), (9, 134), (10, 270), (10, 271), (9, 136), (9, 137), (9, 138), (10, 278), (10, 279), (9, 140), (9, 141), (9, 142), (10, 286), (10, 287), (9, 144), (9, 145), (9, 146), (9, 147), (9, 148), (9, 149), (9, 150), (10, 302), (10, 303), (9, 152), (9, 153), (9, 154), (10, 310), (10, 311), (9, 156), (9, 157), (9, 158), (10, 318), (10, 319), (9, 160), (9, 161), (9, 162), (9, 163), (9, 164), (9, 165), (9, 166), (10, 334), (10, 335), (9, 168), (9, 169), (9, 170), (10, 342), (10, 343), (9, 172), (9, 173), (9, 174), (10, 350), (10, 351), (9, 176), (9, 177), (9, 178), (10, 358)]
theorem nTA : nwC (10, 190) = .arrayOf tTD .byte := by decide +kernel
theorem nTL : nwC (10, 191) = .eq (.length tTD) (.int (Int32.ofNat 100)) := by decide +kernel
theorem nTE : ∀ j, j < 100 → nwC (pTE.getD j (0, 0)) = .eq (.elem tTD (.int (Int32.ofNat j))) (.int (tenI.getD j 0)) := by decide +kernel
abbrev tOD : Term := .static "java/lang/Integer" "DigitOnes" "[B"
def pOE : List (Nat × Nat) := [(10, 22), (10, 23), (9, 12), (9, 13), (9, 14), (10, 30), (10, 31), (9, 16), (9, 17), (9, 18), (9, 19), (9, 20), (9, 21), (9, 22), (10, 46), (10, 47), (9, 24), (9, 25), (9, 26), (10, 54), (10, 55), (9, 28), (9, 29), (9, 30), (10, 62), (10, 63), (9, 32), (9, 33), (9, 34), (9, 35), (9, 36), (9, 37), (9, 38), (10, 78), (10, 79), (9, 40), (9, 41), (9, 42), (10, 86), (10, 87), (9, 44), (9, 45), (9, 46), (10, 94), (10, 95), (9, 48), (9, 49), (9, 50), (10, 102), (10, 103), (9, 52), (9, 53), (9, 54), (10, 110), (10, 111), (9, 56), (9, 57), (9, 58), (10, 118), (10, 119), (9, 60), (9, 61), (9, 62), (10, 126), (10, 127), (9, 64), (9, 65), (9, 66), (9, 67), (9, 68), (9, 69), (9, 70), (10, 142), (10, 143), (9, 72), (9, 73), (9, 74), (10, 150), (10, 151), (9, 76), (9, 77), (9, 78), (10, 158), (10, 159), (9, 80), (9, 81), (9, 82), (9, 83), (9, 84), (9, 85), (9, 86), (10, 174), (10, 175), (9, 88), (9, 89), (9, 90), (10, 182), (10, 183), (9, 92), (9, 93)]
theorem nOA : nwC (9, 9) = .arrayOf tOD .byte := by decide +kernel
theorem nOL : nwC (9, 10) = .eq (.length tOD) (.int (Int32.ofNat 100)) := by decide +kernel
theorem nOE : ∀ j, j < 100 → nwC (pOE.getD j (0, 0)) = .eq (.elem tOD (.int (Int32.ofNat j))) (.int (oneI.getD j 0)) := by decide +kernel
theorem nCS : nwC (9, 2) = .eq (.static "java/lang/String" "COMPACT_STRINGS" "Z") (.int 1) := by decide +kernel
theorem nFm : nwC (9, 3) = .isRef (.static "jdk/internal/util/Preconditions" "SIOOBE_FORMATTER" "Ljava/util/function/BiFunction;") := by decide +kernel
theorem nUn : nwC (10, 14) = .isRef (.static "java/lang/Throwable" "UNASSIGNED_STACK" "[Ljava/lang/StackTraceElement;") := by decide +kernel
theorem nSe : nwC (10, 15) = .isRef (.static "java/lang/Throwable" "SUPPRESSED_SENTINEL" "Ljava/util/List;") := by decide +kernel
theorem sRf : ∀ i, i < 14 → Cond.stringRef (JSo.getD i "") (JSk.getD i 0) (JSt.getD i "") ∈ lw_tbl := by
  intro i hi
  rcases (show i = 0 ∨ i = 1 ∨ i = 2 ∨ i = 3 ∨ i = 4 ∨ i = 5 ∨ i = 6 ∨ i = 7 ∨ i = 8 ∨ i = 9 ∨ i = 10 ∨ i = 11 ∨ i = 12 ∨ i = 13 by omega) with rfl | rfl | rfl | rfl | rfl | rfl | rfl | rfl | rfl | rfl | rfl | rfl | rfl | rfl
  · exact (tb_2 (List.mem_of_getElem? (i := 36) (by decide +kernel)))
  · exact (tb_2 (List.mem_of_getElem? (i := 133) (by decide +kernel)))
  · exact (tb_2 (List.mem_of_getElem? (i := 156) (by decide +kernel)))
  · exact (tb_2 (List.mem_of_getElem? (i := 165) (by decide +kernel)))
  · exact (tb_2 (List.mem_of_getElem? (i := 192) (by decide +kernel)))
  · exact (tb_4 (List.mem_of_getElem? (i := 97) (by decide +kernel)))
  · exact (tb_3 (List.mem_of_getElem? (i := 192) (by decide +kernel)))
  · exact (tb_5 (List.mem_of_getElem? (i := 25) (by decide +kernel)))
  · exact (tb_4 (List.mem_of_getElem? (i := 129) (by decide +kernel)))
  · exact (tb_3 (List.mem_of_getElem? (i := 234) (by decide +kernel)))
  · exact (tb_6 (List.mem_of_getElem? (i := 35) (by decide +kernel)))
  · exact (tb_6 (List.mem_of_getElem? (i := 36) (by decide +kernel)))
  · exact (tb_6 (List.mem_of_getElem? (i := 37) (by decide +kernel)))
  · exact (tb_6 (List.mem_of_getElem? (i := 38) (by decide +kernel)))
theorem scr_T {b L : Nat} {xs : Nat → Int32} {s : State} {A : Nat → Prop} (hX : va_X b L xs s s.heap) (hA : ¬ A b) : va_T .int b L (fun j => .int (xs j)) A s s.heap := by
  obtain ⟨scr, h1, h2, h3, h4, h5⟩ := hX
  exact ⟨scr, h1, h2, h3, by rw [h4]; exact Nat.le_refl _, congrArg Nat.toInt32 h4, h5, hA⟩
set_option maxHeartbeats 4000000 in
theorem GX_start {args : Array Value} {s : State} (hn : narrow_1.before args s = true) (hts : ∀ w ∈ lw_tbl, w.before args s = true) {A : Nat → Prop} (hA : ∀ a : Nat, a < s.heap.size → ¬ A a) {b L : Nat} {xs : Nat → Int32} (hX : va_X b L xs s s.heap) (hb : b < s.heap.size) {D : va_G} {ca : Nat → ClassId} : ∃ cs : Nat → Nat → Nat, GX (D, ca, (L, xs), (lenJS.getD 13 0, fun j => (bytJS.getD 13 []).getD j 0)) ([], lk0, cs) A s s.heap ∧ cs 99 103 = b := by
  have hS : ∀ i : Nat, ∃ q : Nat × Nat, i < 14 → (jTm i).eval args s none [] s = some (.ref q.1) ∧ va_O "java/lang/String" q.1 A s s.heap ∧ va_OF "java/lang/String" "coder" "B" (.int 0) q.1 A s s.heap ∧ va_OF "java/lang/String" "value" "[B" (.ref q.2) q.1 A s s.heap ∧ va_T .byte q.2 (lenJS.getD i 0) (fun j => .int ((bytJS.getD i []).getD j 0)) A s s.heap := by
    intro i
    by_cases hi : i < 14
    · obtain ⟨a, c, cA, kA, q1, q2, q3, q4, q5, q6, -⟩ := Cond.exactly_spec (args := args) (first := s) (o := none) (s := s) (idx := []) (t := jTm i) (cls := "java/lang/String") (nwC_ok hn (nEx i hi))
      have hl := lenJS_le i hi
      obtain ⟨t, ht, hT⟩ := va_Tof (f := fun j => .int ((bytJS.getD i []).getD j 0)) (A := A) (N := lenJS.getD i 0) (by omega) (nwC_ok hn (nAr i hi)) (va_eqt (nwC_ok hn (nLe i hi))) (fun j hj => va_eqt (nwC_ok hn (nEl i hi j hj))) hA
      exact ⟨(a, t), fun _ => ⟨q1, ⟨cA, q3, q5, by rw [q6]; exact q2, hA a (Array.getElem?_eq_some_iff.mp q3).1⟩, vk_OFof q1 (va_eqt (nwC_ok hn (nCo i hi))) hA, vk_OFof q1 ht hA, hT⟩⟩
    · exact ⟨(0, 0), fun h => absurd h hi⟩
  obtain ⟨ad, had⟩ := Classical.axiomOfChoice hS
  obtain ⟨tT, htT, hTT⟩ := va_Tof (tm := tTD) (ty := .byte) (f := fun j => .int (tenI.getD j 0)) (A := A) (N := 100) (by decide) (nwC_ok hn nTA) (va_eqt (nwC_ok hn nTL)) (fun j hj => va_eqt (nwC_ok hn (nTE j hj))) hA
  obtain ⟨tO, htO, hTO⟩ := va_Tof (tm := tOD) (ty := .byte) (f := fun j => .int (oneI.getD j 0)) (A := A) (N := 100) (by decide) (nwC_ok hn nOA) (va_eqt (nwC_ok hn nOL)) (fun j hj => va_eqt (nwC_ok hn (nOE j hj))) hA
  have hF := (vx_Zqof (hts _ (tb_2 (List.mem_of_getElem? (i := 66) (by decide +kernel)))) (hts _ (tb_1 (List.mem_of_getElem? (i := 11) (by decide +kernel)))) (nwC_ok hn nFm) hA).1
  have hF2 : ∃ tF : Nat, va_Z "jdk/internal/util/Preconditions" "SIOOBE_FORMATTER" "Ljava/util/function/BiFunction;" (.ref tF) A s s.heap ∨ va_Z "jdk/internal/util/Preconditions" "SIOOBE_FORMATTER" "Ljava/util/function/BiFunction;" .null A s s.heap := by
    rcases hF with h | ⟨t, h⟩
    · exact ⟨0, Or.inr h⟩
    · exact ⟨t, Or.inl h⟩
  obtain ⟨tF, hF3⟩ := hF2
  obtain ⟨cs, h97, h99, h9714, h9914, c0, c1, c2, c3⟩ : ∃ cs : Nat → Nat → Nat, (∀ i, i < 14 → cs 97 i = (ad i).1) ∧ (∀ i, i < 14 → cs 99 i = (ad i).2) ∧ cs 97 14 = (ad 13).1 ∧ cs 99 14 = (ad 13).2 ∧ cs 99 100 = tT ∧ cs 99 101 = tO ∧ cs 99 102 = tF ∧ cs 99 103 = b :=
    ⟨fun j i => if j = 97 then (if i = 14 then (ad 13).1 else (ad i).1) else if i = 100 then tT else if i = 101 then tO else if i = 102 then tF else if i = 103 then b else if i = 14 then (ad 13).2 else (ad i).2, fun i hi => (if_pos rfl).trans (if_neg (by omega)), fun i hi => (if_neg (by decide)).trans ((if_neg (by omega)).trans ((if_neg (by omega)).trans ((if_neg (by omega)).trans ((if_neg (by omega)).trans (if_neg (by omega)))))), rfl, rfl, rfl, rfl, rfl, rfl⟩
  refine ⟨cs, ⟨fun i hi => ?_, ?_, ?_⟩, c3⟩
  · have h9 := had i hi
    unfold GXs
    show vk_R _ _ _ (cs 97 i) s ∧ va_O _ (cs 97 i) _ _ _ ∧ va_OF _ _ _ _ (cs 97 i) _ _ _ ∧ va_OF _ _ _ (.ref (cs 99 i)) (cs 97 i) _ _ _ ∧ va_T _ (cs 99 i) _ _ _ _ _
    rw [h97 i hi, h99 i hi]
    exact ⟨vk_R.of (hts _ (sRf i hi)) h9.1, h9.2.1, h9.2.2.1, h9.2.2.2.1, h9.2.2.2.2⟩
  · have h9 := had 13 (by decide)
    unfold GXd
    show va_O _ (cs 97 14) _ _ _ ∧ va_OF _ _ _ _ (cs 97 14) _ _ _ ∧ va_OF _ _ _ (.ref (cs 99 14)) (cs 97 14) _ _ _ ∧ va_T _ (cs 99 14) _ _ _ _ _
    rw [h9714, h9914]
    exact ⟨h9.2.1, h9.2.2.1, h9.2.2.2.1, h9.2.2.2.2⟩
  · unfold GXz
    show va_Z _ _ _ _ _ _ _ ∧ (va_Z _ _ _ (.ref (cs 99 102)) _ _ _ ∨ _) ∧ va_Z _ _ _ (.ref (cs 99 100)) _ _ _ ∧ va_T _ (cs 99 100) _ _ _ _ _ ∧ va_Z _ _ _ (.ref (cs 99 101)) _ _ _ ∧ va_T _ (cs 99 101) _ _ _ _ _ ∧ _ ∧ _ ∧ va_T _ (cs 99 103) _ _ _ _ _
    rw [c0, c1, c2, c3]
    exact ⟨va_Zof (hts _ (tb_2 (List.mem_of_getElem? (i := 50) (by decide +kernel)))) (hts _ (tb_1 (List.mem_of_getElem? (i := 9) (by decide +kernel)))) (va_eqi (nwC_ok hn nCS)) hA, hF3, va_Zref (hts _ (tb_5 (List.mem_of_getElem? (i := 209) (by decide +kernel)))) (hts _ (tb_1 (List.mem_of_getElem? (i := 20) (by decide +kernel)))) htT hA, hTT, va_Zref (hts _ (tb_5 (List.mem_of_getElem? (i := 207) (by decide +kernel)))) (hts _ (tb_1 (List.mem_of_getElem? (i := 20) (by decide +kernel)))) htO hA, hTO, vx_Zqof (hts _ (tb_3 (List.mem_of_getElem? (i := 178) (by decide +kernel)))) (hts _ (tb_1 (List.mem_of_getElem? (i := 21) (by decide +kernel)))) (nwC_ok hn nUn) hA, vx_Zqof (hts _ (tb_3 (List.mem_of_getElem? (i := 180) (by decide +kernel)))) (hts _ (tb_1 (List.mem_of_getElem? (i := 21) (by decide +kernel)))) (nwC_ok hn nSe) hA, scr_T hX (hA b hb)⟩

