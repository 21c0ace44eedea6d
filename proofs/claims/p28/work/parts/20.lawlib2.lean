set_option linter.unusedVariables false
/-! more of the log, the pad, settling -/
theorem inX_up {χ : Nat → Int} (h : inX χ) (p : Nat) {v : Int} (hv : 0 ≤ v ∧ v ≤ 126) : inX (up χ p v) := fun k hk => by
  by_cases e : k = p
  · subst e; rw [up_s]; exact hv
  · rw [up_n _ _ e]; exact h k hk
theorem stL_bd : ∀ (n : Nat) (b : Int) (σ : Nat → Int), stL n b σ = -6 ∨ (b ≤ stL n b σ ∧ stL n b σ < b + n) := by
  intro n
  induction n with
  | zero => intro b σ; exact Or.inl rfl
  | succ n ih =>
    intro b σ
    simp only [stL]
    split
    · exact Or.inr ⟨Int.le_refl _, by omega⟩
    · rcases ih (b + 1) (rdM σ) with h | h
      · exact Or.inl h
      · exact Or.inr (by omega)
theorem cfl_empty (χ : Nat → Int) (k : Nat) (num st : Int) (κ ν : Nat → Int) : (cfl χ 0 (k + 1) 0 num st κ ν).1 = 0 := by
  have e : chr0 χ 0 0 = 0 := by unfold chr0; rw [if_neg (by omega)]
  have h : cstp χ 0 0 num st κ ν = (0, num, 0, st, κ, ν) := by unfold cstp; rw [e, if_neg (by omega)]
  simp only [cfl]
  rw [h, if_pos rfl]
/-! END lawlib 2 -/
