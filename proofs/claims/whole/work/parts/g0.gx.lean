/-! the constants at the start, as the claim's premise gives them -/
def atB : Jvm.Cond → List Bool → Jvm.Cond
  | .and a _, false :: p => atB a p
  | .and _ b, true :: p => atB b p
  | c, _ => c
theorem atB_ok {args : Array Value} {s : State} : ∀ (p : List Bool) (T : Jvm.Cond), T.before args s = true → (atB T p).before args s = true
  | [], T, h => by cases T <;> exact h
  | b :: p, T, h => by
    cases T with
    | and a c =>
      rw [Cond.before_and, Bool.and_eq_true] at h
      cases b
      · exact atB_ok p a h.1
      · exact atB_ok p c h.2
    | _ => exact h
def bL : Nat → Nat → List Bool
  | 0, _ => []
  | k + 1, c => (c / 2 ^ k % 2 == 1) :: bL k c
def nwC (q : Nat × Nat) : Jvm.Cond := atB narrow_1 (bL q.1 q.2)
theorem nwC_ok {args : Array Value} {s : State} (h : narrow_1.before args s = true) {q : Nat × Nat} {w : Jvm.Cond} (e : nwC q = w) : w.before args s = true := e ▸ atB_ok _ _ h
def jTm (i : Nat) : Term := .string (JSo.getD i "") (JSk.getD i 0)
abbrev jVl (i : Nat) : Term := .field (jTm i) "java/lang/String" "value" "[B"

def pEx : List (Nat × Nat) := [(10, 271), (10, 399), (9, 205), (9, 213), (9, 220), (10, 454), (10, 479), (9, 256), (10, 543), (9, 285), (9, 309), (10, 662), (10, 686), (10, 719), (10, 735), (9, 374), (10, 766), (10, 783), (10, 798), (9, 406), (9, 412), (9, 420), (10, 855), (9, 434), (9, 442), (9, 448), (9, 456), (9, 464), (10, 943), (9, 480), (9, 488), (10, 991), (9, 504)]
def pCo : List (Nat × Nat) := [(9, 136), (9, 200), (9, 206), (9, 214), (9, 221), (10, 455), (9, 240), (9, 257), (9, 272), (9, 286), (9, 310), (10, 663), (10, 687), (9, 360), (9, 368), (10, 750), (10, 767), (9, 392), (10, 799), (10, 814), (9, 413), (9, 421), (9, 428), (10, 870), (10, 886), (9, 449), (9, 457), (9, 465), (9, 472), (9, 481), (9, 489), (9, 496), (9, 505)]
def pAr : List (Nat × Nat) := [(9, 137), (9, 201), (10, 414), (10, 430), (9, 222), (9, 228), (9, 241), (9, 258), (9, 273), (10, 574), (10, 622), (9, 332), (9, 344), (9, 361), (9, 369), (10, 751), (9, 384), (9, 393), (9, 400), (10, 815), (9, 414), (9, 422), (9, 429), (10, 871), (10, 887), (9, 450), (9, 458), (9, 466), (9, 473), (9, 482), (9, 490), (9, 497), (9, 506)]
def pLe : List (Nat × Nat) := [(9, 138), (9, 202), (10, 415), (10, 431), (10, 446), (9, 229), (9, 242), (9, 259), (9, 274), (10, 575), (10, 623), (9, 333), (9, 345), (9, 362), (9, 370), (9, 376), (9, 385), (9, 394), (9, 401), (9, 408), (10, 830), (10, 846), (9, 430), (9, 436), (9, 444), (10, 902), (10, 918), (10, 934), (9, 474), (10, 966), (10, 982), (9, 498), (10, 1014)]
def pEl : List (List (Nat × Nat)) := [[(10, 278), (10, 279), (9, 140), (9, 141), (9, 142), (10, 286), (10, 287), (9, 144), (9, 145), (9, 146), (10, 294), (10, 295), (9, 148), (9, 149), (9, 150), (10, 302), (10, 303), (9, 152), (9, 153), (9, 154), (10, 310), (10, 311), (9, 156), (9, 157), (9, 158), (10, 318), (10, 319), (9, 160), (9, 161), (9, 162), (10, 326), (10, 327), (9, 164), (9, 165), (9, 166), (10, 334), (10, 335), (9, 168), (9, 169), (9, 170), (10, 342), (10, 343), (9, 172), (9, 173), (9, 174), (10, 350), (10, 351), (9, 176), (9, 177), (9, 178), (10, 358), (10, 359), (9, 180), (9, 181), (9, 182), (10, 366), (10, 367), (9, 184), (9, 185), (9, 186), (10, 374), (10, 375), (9, 188), (9, 189), (9, 190), (10, 382), (10, 383), (9, 192), (9, 193), (9, 194), (10, 390), (10, 391), (9, 196), (9, 197), (9, 198), (10, 398)], [(10, 406), (10, 407), (9, 204)], [(9, 208), (9, 209), (9, 210), (10, 422), (10, 423), (9, 212)], [(9, 216), (9, 217), (9, 218), (10, 438), (10, 439)], [(10, 447), (9, 224), (9, 225), (9, 226)], [(9, 230), (10, 462), (10, 463), (9, 232), (9, 233), (9, 234), (10, 470), (10, 471), (9, 236), (9, 237), (9, 238), (10, 478)], [(10, 486), (10, 487), (9, 244), (9, 245), (9, 246), (10, 494), (10, 495), (9, 248), (9, 249), (9, 250), (10, 502), (10, 503), (9, 252), (9, 253), (9, 254), (10, 510), (10, 511)], [(9, 260), (9, 261), (9, 262), (10, 526), (10, 527), (9, 264), (9, 265), (9, 266), (10, 534), (10, 535), (9, 268), (9, 269), (9, 270), (10, 542)], [(10, 550), (10, 551), (9, 276), (9, 277), (9, 278), (10, 558), (10, 559), (9, 280), (9, 281), (9, 282), (10, 566), (10, 567), (9, 284)], [(9, 288), (9, 289), (9, 290), (10, 582), (10, 583), (9, 292), (9, 293), (9, 294), (10, 590), (10, 591), (9, 296), (9, 297), (9, 298), (10, 598), (10, 599), (9, 300), (9, 301), (9, 302), (10, 606), (10, 607), (9, 304), (9, 305), (9, 306), (10, 614), (10, 615), (9, 308)], [(9, 312), (9, 313), (9, 314), (10, 630), (10, 631), (9, 316), (9, 317), (9, 318), (10, 638), (10, 639), (9, 320), (9, 321), (9, 322), (10, 646), (10, 647), (9, 324), (9, 325), (9, 326), (10, 654), (10, 655), (9, 328), (9, 329), (9, 330)], [(9, 334), (10, 670), (10, 671), (9, 336), (9, 337), (9, 338), (10, 678), (10, 679), (9, 340), (9, 341), (9, 342)], [(9, 346), (10, 694), (10, 695), (9, 348), (9, 349), (9, 350), (10, 702), (10, 703), (9, 352), (9, 353), (9, 354), (10, 710), (10, 711), (9, 356), (9, 357), (9, 358), (10, 718)], [(10, 726), (10, 727), (9, 364), (9, 365), (9, 366), (10, 734)], [(10, 742), (10, 743), (9, 372)], [(9, 377), (9, 378), (10, 758), (10, 759), (9, 380), (9, 381)], [(9, 386), (9, 387), (9, 388), (9, 389), (9, 390)], [(10, 790), (10, 791), (9, 396), (9, 397)], [(9, 402), (10, 806), (10, 807), (9, 404), (9, 405)], [(9, 409), (9, 410), (10, 822), (10, 823)], [(10, 831), (9, 416), (9, 417), (9, 418), (10, 838), (10, 839)], [(10, 847), (9, 424), (9, 425), (9, 426), (10, 854)], [(10, 862), (10, 863), (9, 432), (9, 433)], [(9, 437), (9, 438), (10, 878), (10, 879), (9, 440), (9, 441)], [(9, 445), (9, 446), (10, 894), (10, 895)], [(10, 903), (9, 452), (9, 453), (9, 454)], [(10, 919), (9, 460), (9, 461), (9, 462), (10, 926)], [(10, 935), (9, 468), (9, 469), (9, 470)], [(10, 950), (10, 951), (9, 476), (9, 477), (9, 478), (10, 958)], [(10, 967), (9, 484), (9, 485), (9, 486), (10, 974)], [(10, 983), (9, 492), (9, 493), (9, 494)], [(10, 998), (10, 999), (9, 500), (9, 501), (9, 502), (10, 1006)], [(10, 1015), (9, 508), (9, 509), (9, 510)]]
theorem nEx : ∀ i, i < 33 → nwC (pEx.getD i (0, 0)) = .exactly (jTm i) "java/lang/String" := by decide +kernel
theorem nCo : ∀ i, i < 33 → nwC (pCo.getD i (0, 0)) = .eq (.field (jTm i) "java/lang/String" "coder" "B") (.int 0) := by decide +kernel
theorem nAr : ∀ i, i < 33 → nwC (pAr.getD i (0, 0)) = .arrayOf (jVl i) .byte := by decide +kernel
theorem nLe : ∀ i, i < 33 → nwC (pLe.getD i (0, 0)) = .eq (.length (jVl i)) (.int (Int32.ofNat (lenJS.getD i 0))) := by decide +kernel
theorem nEl : ∀ i, i < 33 → ∀ j, j < lenJS.getD i 0 → nwC ((pEl.getD i []).getD j (0, 0)) = .eq (.elem (jVl i) (.int (Int32.ofNat j))) (.int ((bytJS.getD i []).getD j 0)) := by decide +kernel
def vNm : List String := ["RAIN", "BURST", "SHUT", "LEAVES", "SWEEP", "WALK", "SPLASH", "PASS"]
def vTm (i : Nat) : Term := .static "PuddleCity$Verb" (vNm.getD i "") "LPuddleCity$Verb;"
def pVx : List (Nat × Nat) := [(10, 55), (9, 30), (9, 33), (9, 37), (9, 42), (10, 95), (9, 54), (9, 61)]
def pVo : List (Nat × Nat) := [(9, 28), (10, 62), (9, 34), (9, 38), (10, 86), (9, 48), (10, 110), (9, 62)]
def pVw : List (Nat × Nat) := [(9, 29), (10, 63), (10, 70), (10, 78), (10, 87), (9, 49), (10, 111), (10, 126)]
def pVe : List (Nat × Nat) := [(10, 22), (10, 23), (9, 12), (9, 13), (9, 14), (10, 30), (10, 31), (9, 16)]
def pSw : List (Nat × Nat) := [(10, 39), (9, 20), (9, 21), (9, 22), (10, 46), (10, 47), (9, 24), (9, 25)]
abbrev tVB : Term := .static "PuddleCity$Script" "VERBS" "[LPuddleCity$Verb;"
abbrev tSW : Term := .static "PuddleCity$1" "$SwitchMap$PuddleCity$Verb" "[I"
theorem nVx : ∀ i, i < 8 → nwC (pVx.getD i (0, 0)) = .exactly (vTm i) "PuddleCity$Verb" := by decide +kernel
theorem nVo : ∀ i, i < 8 → nwC (pVo.getD i (0, 0)) = .eq (.field (vTm i) "java/lang/Enum" "ordinal" "I") (.int (Int32.ofNat i)) := by decide +kernel
theorem nVw : ∀ i, i < 8 → nwC (pVw.getD i (0, 0)) = .eq (.field (vTm i) "PuddleCity$Verb" "word" "Ljava/lang/String;") (jTm (25 + i)) := by decide +kernel
theorem nVe : ∀ i, i < 8 → nwC (pVe.getD i (0, 0)) = .eq (.elem tVB (.int (Int32.ofNat i))) (vTm i) := by decide +kernel
theorem nSw : ∀ i, i < 8 → nwC (pSw.getD i (0, 0)) = .eq (.elem tSW (.int (Int32.ofNat i))) (.int (swJS.getD i 0)) := by decide +kernel
theorem nVa : nwC (9, 8) = .arrayOf tVB (.object "PuddleCity$Verb") := by decide +kernel
theorem nVl : nwC (9, 9) = .eq (.length tVB) (.int (Int32.ofNat 8)) := by decide +kernel
theorem nSa : nwC (9, 18) = .arrayOf tSW .int := by decide +kernel
theorem nSl : nwC (10, 38) = .eq (.length tSW) (.int (Int32.ofNat 8)) := by decide +kernel
theorem nCS : nwC (9, 2) = .eq (.static "java/lang/String" "COMPACT_STRINGS" "Z") (.int 1) := by decide +kernel
theorem nFm : nwC (9, 3) = .isRef (.static "jdk/internal/util/Preconditions" "SIOOBE_FORMATTER" "Ljava/util/function/BiFunction;") := by decide +kernel
theorem nUn : nwC (9, 26) = .isRef (.static "java/lang/Throwable" "UNASSIGNED_STACK" "[Ljava/lang/StackTraceElement;") := by decide +kernel
theorem nSe : nwC (10, 54) = .isRef (.static "java/lang/Throwable" "SUPPRESSED_SENTINEL" "Ljava/util/List;") := by decide +kernel
theorem nN1 : nwC (9, 77) = .not (.castable "java/lang/IllegalArgumentException" "java/lang/IndexOutOfBoundsException") := by decide +kernel
theorem nN2 : nwC (9, 78) = .not (.castable "java/lang/IllegalStateException" "java/lang/IndexOutOfBoundsException") := by decide +kernel
theorem nN3 : nwC (9, 88) = .not (.castable "java/lang/IllegalStateException" "java/lang/IllegalArgumentException") := by decide +kernel
theorem sRf : ∀ i, i < 33 → Cond.stringRef (JSo.getD i "") (JSk.getD i 0) (JSt.getD i "") ∈ lw_tbl := by
  intro i hi
  rcases (show i = 0 ∨ i = 1 ∨ i = 2 ∨ i = 3 ∨ i = 4 ∨ i = 5 ∨ i = 6 ∨ i = 7 ∨ i = 8 ∨ i = 9 ∨ i = 10 ∨ i = 11 ∨ i = 12 ∨ i = 13 ∨ i = 14 ∨ i = 15 ∨ i = 16 ∨ i = 17 ∨ i = 18 ∨ i = 19 ∨ i = 20 ∨ i = 21 ∨ i = 22 ∨ i = 23 ∨ i = 24 ∨ i = 25 ∨ i = 26 ∨ i = 27 ∨ i = 28 ∨ i = 29 ∨ i = 30 ∨ i = 31 ∨ i = 32 by omega) with rfl | rfl | rfl | rfl | rfl | rfl | rfl | rfl | rfl | rfl | rfl | rfl | rfl | rfl | rfl | rfl | rfl | rfl | rfl | rfl | rfl | rfl | rfl | rfl | rfl | rfl | rfl | rfl | rfl | rfl | rfl | rfl | rfl
  · exact tb_2 (List.mem_of_getElem? (i := 50) (by decide +kernel))
  · exact tb_2 (List.mem_of_getElem? (i := 147) (by decide +kernel))
  · exact tb_2 (List.mem_of_getElem? (i := 170) (by decide +kernel))
  · exact tb_2 (List.mem_of_getElem? (i := 179) (by decide +kernel))
  · exact tb_2 (List.mem_of_getElem? (i := 206) (by decide +kernel))
  · exact tb_4 (List.mem_of_getElem? (i := 130) (by decide +kernel))
  · exact tb_5 (List.mem_of_getElem? (i := 9) (by decide +kernel))
  · exact tb_5 (List.mem_of_getElem? (i := 35) (by decide +kernel))
  · exact tb_5 (List.mem_of_getElem? (i := 54) (by decide +kernel))
  · exact tb_5 (List.mem_of_getElem? (i := 147) (by decide +kernel))
  · exact tb_5 (List.mem_of_getElem? (i := 226) (by decide +kernel))
  · exact tb_6 (List.mem_of_getElem? (i := 4) (by decide +kernel))
  · exact tb_6 (List.mem_of_getElem? (i := 19) (by decide +kernel))
  · exact tb_6 (List.mem_of_getElem? (i := 29) (by decide +kernel))
  · exact tb_6 (List.mem_of_getElem? (i := 180) (by decide +kernel))
  · exact tb_6 (List.mem_of_getElem? (i := 198) (by decide +kernel))
  · exact tb_6 (List.mem_of_getElem? (i := 211) (by decide +kernel))
  · exact tb_6 (List.mem_of_getElem? (i := 224) (by decide +kernel))
  · exact tb_7 (List.mem_of_getElem? (i := 13) (by decide +kernel))
  · exact tb_7 (List.mem_of_getElem? (i := 14) (by decide +kernel))
  · exact tb_7 (List.mem_of_getElem? (i := 15) (by decide +kernel))
  · exact tb_7 (List.mem_of_getElem? (i := 16) (by decide +kernel))
  · exact tb_7 (List.mem_of_getElem? (i := 17) (by decide +kernel))
  · exact tb_7 (List.mem_of_getElem? (i := 18) (by decide +kernel))
  · exact tb_7 (List.mem_of_getElem? (i := 19) (by decide +kernel))
  · exact tb_9 (List.mem_of_getElem? (i := 0) (by decide +kernel))
  · exact tb_9 (List.mem_of_getElem? (i := 1) (by decide +kernel))
  · exact tb_9 (List.mem_of_getElem? (i := 2) (by decide +kernel))
  · exact tb_9 (List.mem_of_getElem? (i := 3) (by decide +kernel))
  · exact tb_9 (List.mem_of_getElem? (i := 4) (by decide +kernel))
  · exact tb_9 (List.mem_of_getElem? (i := 5) (by decide +kernel))
  · exact tb_9 (List.mem_of_getElem? (i := 6) (by decide +kernel))
  · exact tb_9 (List.mem_of_getElem? (i := 7) (by decide +kernel))
set_option maxHeartbeats 4000000 in
theorem GX_start {args : Array Value} {s : State} (hn : narrow_1.before args s = true) (hts : ∀ w ∈ lw_tbl, w.before args s = true) {A : Nat → Prop} (hA : ∀ a : Nat, a < s.heap.size → ¬ A a) (G : GT) : ∃ cs : Nat → Nat → Nat, GX G ([], lk0, cs) A s s.heap := by
  have hS : ∀ i : Nat, ∃ q : Nat × Nat, i < 33 → (jTm i).eval args s none [] s = some (.ref q.1) ∧ va_O "java/lang/String" q.1 A s s.heap ∧ va_OF "java/lang/String" "coder" "B" (.int 0) q.1 A s s.heap ∧ va_OF "java/lang/String" "value" "[B" (.ref q.2) q.1 A s s.heap ∧ va_T .byte q.2 (lenJS.getD i 0) (fun j => .int ((bytJS.getD i []).getD j 0)) A s s.heap := by
    intro i
    by_cases hi : i < 33
    · obtain ⟨a, c, cA, kA, q1, q2, q3, q4, q5, q6, -⟩ := Cond.exactly_spec (args := args) (first := s) (o := none) (s := s) (idx := []) (t := jTm i) (cls := "java/lang/String") (nwC_ok hn (nEx i hi))
      have hl := lenJS_le i hi
      obtain ⟨t, ht, hT⟩ := va_Tof (f := fun j => .int ((bytJS.getD i []).getD j 0)) (A := A) (N := lenJS.getD i 0) (by omega) (nwC_ok hn (nAr i hi)) (va_eqt (nwC_ok hn (nLe i hi))) (fun j hj => va_eqt (nwC_ok hn (nEl i hi j hj))) hA
      exact ⟨(a, t), fun _ => ⟨q1, ⟨cA, q3, q5, by rw [q6]; exact q2, hA a (Array.getElem?_eq_some_iff.mp q3).1⟩, vk_OFof q1 (va_eqt (nwC_ok hn (nCo i hi))) hA, vk_OFof q1 ht hA, hT⟩⟩
    · exact ⟨(0, 0), fun h => absurd h hi⟩
  obtain ⟨ad, had⟩ := Classical.axiomOfChoice hS
  have hV : ∀ i : Nat, ∃ q : Nat, i < 8 → (vTm i).eval args s none [] s = some (.ref q) ∧ va_O "PuddleCity$Verb" q A s s.heap ∧ va_OF "java/lang/Enum" "ordinal" "I" (.int (nI i)) q A s s.heap ∧ va_OF "PuddleCity$Verb" "word" "Ljava/lang/String;" (.ref (ad (25 + i)).1) q A s s.heap := by
    intro i
    by_cases hi : i < 8
    · obtain ⟨a, c, cA, kA, q1, q2, q3, q4, q5, q6, -⟩ := Cond.exactly_spec (args := args) (first := s) (o := none) (s := s) (idx := []) (t := vTm i) (cls := "PuddleCity$Verb") (nwC_ok hn (nVx i hi))
      exact ⟨a, fun _ => ⟨q1, ⟨cA, q3, q5, by rw [q6]; exact q2, hA a (Array.getElem?_eq_some_iff.mp q3).1⟩, vk_OFof q1 (va_eqt (nwC_ok hn (nVo i hi))) hA, vk_OFof q1 (va_eqv (nwC_ok hn (nVw i hi)) (had (25 + i) (by omega)).1) hA⟩⟩
    · exact ⟨0, fun h => absurd h hi⟩
  obtain ⟨av, hav⟩ := Classical.axiomOfChoice hV
  obtain ⟨tV, htV, hTV⟩ := va_Tof (tm := tVB) (ty := .object "PuddleCity$Verb") (f := fun j => .ref (av j)) (A := A) (N := 8) (by decide) (nwC_ok hn nVa) (va_eqt (nwC_ok hn nVl)) (fun j hj => va_eqv (nwC_ok hn (nVe j hj)) (hav j hj).1) hA
  obtain ⟨tW, htW, hTW⟩ := va_Tof (tm := tSW) (ty := .int) (f := fun j => .int (swJS.getD j 0)) (A := A) (N := 8) (by decide) (nwC_ok hn nSa) (va_eqt (nwC_ok hn nSl)) (fun j hj => va_eqt (nwC_ok hn (nSw j hj))) hA
  have hF := (vx_Zqof (hts _ (tb_2 (List.mem_of_getElem? (i := 80) (by decide +kernel)))) (hts _ (tb_1 (List.mem_of_getElem? (i := 11) (by decide +kernel)))) (nwC_ok hn nFm) hA).1
  have hF2 : ∃ tF : Nat, va_Z "jdk/internal/util/Preconditions" "SIOOBE_FORMATTER" "Ljava/util/function/BiFunction;" (.ref tF) A s s.heap ∨ va_Z "jdk/internal/util/Preconditions" "SIOOBE_FORMATTER" "Ljava/util/function/BiFunction;" .null A s s.heap := by
    rcases hF with h | ⟨t, h⟩
    · exact ⟨0, Or.inr h⟩
    · exact ⟨t, Or.inl h⟩
  obtain ⟨tF, hF3⟩ := hF2
  refine ⟨fun j i => if j = 97 then (ad i).1 else if j = 98 then av i else if i = 100 then tV else if i = 101 then tW else if i = 102 then tF else (ad i).2, fun i hi => ?_, fun i hi => ?_, ?_⟩
  · have h9 := had i hi
    have e9 : (if i = 100 then tV else if i = 101 then tW else if i = 102 then tF else (ad i).2) = (ad i).2 := by
      rw [if_neg (by omega), if_neg (by omega), if_neg (by omega)]
    refine ⟨vk_R.of (hts _ (sRf i hi)) h9.1, h9.2.1, h9.2.2.1, ?_, ?_⟩
    · show va_OF _ _ _ (.ref (if i = 100 then tV else if i = 101 then tW else if i = 102 then tF else (ad i).2)) _ _ _ _
      rw [e9]; exact h9.2.2.2.1
    · show va_T .byte (if i = 100 then tV else if i = 101 then tW else if i = 102 then tF else (ad i).2) _ _ _ _ _
      rw [e9]; exact h9.2.2.2.2
  · exact ⟨(hav i hi).2.1, (hav i hi).2.2.1, (hav i hi).2.2.2⟩
  · exact ⟨va_Zof (hts _ (tb_2 (List.mem_of_getElem? (i := 64) (by decide +kernel)))) (hts _ (tb_1 (List.mem_of_getElem? (i := 9) (by decide +kernel)))) (va_eqi (nwC_ok hn nCS)) hA, hF3, va_Zref (hts _ (tb_3 (List.mem_of_getElem? (i := 58) (by decide +kernel)))) (hts _ (tb_1 (List.mem_of_getElem? (i := 3) (by decide +kernel)))) htV hA, hTV, va_Zref (hts _ (tb_3 (List.mem_of_getElem? (i := 66) (by decide +kernel)))) (hts _ (tb_1 (List.mem_of_getElem? (i := 17) (by decide +kernel)))) htW hA, hTW, vx_Zqof (hts _ (tb_4 (List.mem_of_getElem? (i := 115) (by decide +kernel)))) (hts _ (tb_1 (List.mem_of_getElem? (i := 18) (by decide +kernel)))) (nwC_ok hn nUn) hA, vx_Zqof (hts _ (tb_4 (List.mem_of_getElem? (i := 117) (by decide +kernel)))) (hts _ (tb_1 (List.mem_of_getElem? (i := 18) (by decide +kernel)))) (nwC_ok hn nSe) hA, va_Nc.of (nwC_ok hn nN1), va_Nc.of (nwC_ok hn nN2), va_Nc.of (nwC_ok hn nN3)⟩

