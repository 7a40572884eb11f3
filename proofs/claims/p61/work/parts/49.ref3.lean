/-! the minute's steps on one cell -/
def raC (T : Nat → Nat → Int32) (c : Nat) : Nat → Nat → Int32 := sc (sc T 1 c (T 1 c + T 0 8)) 0 9 (T 0 9 + T 0 8)
def guB (T : Nat → Nat → Int32) (c : Nat) : Nat → Nat → Int32 := sc (sc (sc T 1 c (T 1 c + T 3 c)) 0 10 (T 0 10 + T 3 c)) 4 c (T 4 c + -1)
def guC (T : Nat → Nat → Int32) (c : Nat) : Nat → Nat → Int32 := if T 4 c = 0 then T else if T 4 c + -1 = 0 then sc (guB T c) 3 c 0 else guB T c
def drA (x : PP) (T : Nat → Nat → Int32) (c : Nat) : Int32 := imin (imax (x.2.2.1 c - T 2 c) 0) (T 1 c)
def drC (x : PP) (T : Nat → Nat → Int32) (c : Nat) : Nat → Nat → Int32 := sc (sc T 1 c (T 1 c + -(drA x T c))) 0 11 (T 0 11 + drA x T c)
def evC1 (T : Nat → Nat → Int32) (c : Nat) : Nat → Nat → Int32 := if T 1 c = 0 then T else sc (sc T 1 c (T 1 c + -1)) 0 12 (T 0 12 + 1)
def flC2 (T : Nat → Nat → Int32) (c o : Nat) (v : Int32) : Nat → Nat → Int32 := sc (sc T 1 c (T 1 c + -v)) 1 o (upd (T 1) c (T 1 c + -v) o + v)
def flC3 (T : Nat → Nat → Int32) (c o : Nat) : Nat → Nat → Int32 := sc (sc T 2 c (T 2 c + -1)) 2 o (upd (T 2) c (T 2 c + -1) o + 1)
def flC (x : PP) (T : Nat → Nat → Int32) (c o : Nat) : Nat → Nat → Int32 :=
  if flO x.2.1 (T 1) c (some o) = 0 then T else if 0 < T 2 c ∧ x.2.2.1 c = 0 then flC3 (flC2 T c o (flO x.2.1 (T 1) c (some o))) c o else flC2 T c o (flO x.2.1 (T 1) c (some o))
def soC (x : PP) (T : Nat → Nat → Int32) (b q : Nat) : Nat → Nat → Int32 := if x.2.2.2.2.2.2.2.1 b < T 1 q then sc T 7 b 1 else T
