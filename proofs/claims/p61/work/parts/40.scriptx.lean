theorem tnC_rg {b : Nat → Int32} {n p : Nat} {va lo hi : Int32} (h : tnC b n p va lo hi = 0) : lo ≤ tV b n p va ∧ tV b n p va ≤ hi := by
  unfold tnC at h
  by_cases h1 : tK b n p = 2
  · rw [if_pos h1] at h
    by_cases h2 : tV b n p va < lo
    · rw [if_pos h2] at h; exact absurd h (by decide)
    · rw [if_neg h2] at h
      by_cases h3 : hi < tV b n p va
      · rw [if_pos h3] at h; exact absurd h (by decide)
      · exact ⟨Int32.not_lt.mp h2, Int32.not_lt.mp h3⟩
  · rw [if_neg h1] at h; exact absurd h (by decide)
theorem upd_at {f : Nat → Int32} {i : Nat} {v : Int32} : upd f i v i = v := if_pos rfl
theorem upd_ne {f : Nat → Int32} {i j : Nat} {v : Int32} (h : j ≠ i) : upd f i v j = f j := if_neg h
section NU
variable {b : Nat → Int32} {n ct z bcn : Nat} {lo hi : Int32} {t : TT} {f : CF} {nlN : Nat → Nat} {r : Nat → Nat → Int32}
theorem nmS_in {g : Nat → Int32} : ∀ (f i : Nat), nmS g f i = -1 ∨ ∃ q, q < i + f ∧ nmS g f i = nI q
  | 0, i => Or.inl rfl
  | f + 1, i => by
    unfold nmS
    split
    · rcases nmS_in (g := g) f (i + 1) with h | ⟨q, h1, h2⟩
      · exact Or.inl h
      · exact Or.inr ⟨q, by omega, h2⟩
    · exact Or.inr ⟨i, by omega, rfl⟩
end NU
/-- the other ranges of a statement's numbers -/
def vRG (k : Nat) (a b c : Int32) : Prop := (k = 0 → 0 ≤ a ∧ a ≤ 9) ∧ (k = 1 → (1 ≤ b ∧ b ≤ 20) ∧ 1 ≤ c ∧ c ≤ 60) ∧ (k = 3 → 1 ≤ b ∧ b ≤ 9) ∧ (k = 7 → 1 ≤ a)
theorem vRG_0 {k : Nat} {a b c : Int32} (h : k = 2 ∨ k = 4 ∨ k = 5 ∨ k = 6) : vRG k a b c := ⟨by omega, by omega, by omega, by omega⟩
/-- the first from i on, of at most f, whose g is 0; else i + f -/
def exC (g : Nat → Int32) : Nat → Nat → Nat
  | 0, i => i
  | f + 1, i => if g i = 0 then i else exC g f (i + 1)
theorem exC_go {g : Nat → Int32} {N i : Nat} (h : i < N) (h0 : ¬ g i = 0) : exC g (N - (i + 1)) (i + 1) = exC g (N - i) i := by
  obtain ⟨f, hf⟩ : ∃ f, N - i = f + 1 := ⟨N - i - 1, by omega⟩
  rw [hf, show N - (i + 1) = f by omega]; exact (if_neg h0).symm
theorem exC_hit {g : Nat → Int32} {N i : Nat} (h : i < N) (h0 : g i = 0) : exC g (N - i) i = i := by
  obtain ⟨f, hf⟩ : ∃ f, N - i = f + 1 := ⟨N - i - 1, by omega⟩
  rw [hf]; exact if_pos h0
