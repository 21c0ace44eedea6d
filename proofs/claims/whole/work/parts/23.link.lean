set_option linter.unusedVariables false
/-! the two parsings agree -/
abbrev RA (χ : Nat → Int) (n : Int) (C M : Int × Int × Int) : Prop := (C.1 = 1 → M.1 = 0 ∧ M.2.2 = C.2.2) ∧ (C.1 = 0 → M.2.2 = C.2.2 ∧ (M.1 = 1 ∨ (chr0 χ n C.2.2 ≠ 44 ∧ C.2.2 < n)))
theorem numL_ge {χ : Nat → Int} {n most : Int} : ∀ (k : Nat) (v i : Int), 0 ≤ v → v ≤ (numL χ n most k v i).1 := by
  intro k
  induction k with
  | zero => intro v i h; exact Int.le_refl v
  | succ k ih =>
    intro v i h
    simp only [numL]
    split
    · rename_i h2
      have := ih (v * 10 + (chr0 χ n i - 48)) (i + 1) (by omega)
      omega
    · exact Int.le_refl v
theorem num_rel (χ : Nat → Int) (n le mo i : Int) : RA χ n (cnum χ n le mo i) (mnum χ n le mo i) ∧ ((cnum χ n le mo i).1 = 1 → (mnum χ n le mo i).2.1 = (cnum χ n le mo i).2.1) := by
  by_cases h : le ≤ chr0 χ n i - 48 ∧ chr0 χ n i ≤ 57
  · have e1 : cnum χ n le mo i = (bI (¬ isD (chr0 χ n (numR χ n mo i).2)), (numR χ n mo i).1, (numR χ n mo i).2) := by unfold cnum; rw [if_pos h]
    have e2 : mnum χ n le mo i = (0, (numR χ n mo i).1, (numR χ n mo i).2) := by unfold mnum; rw [if_pos h]
    rw [e1, e2]
    refine ⟨⟨fun _ => ⟨rfl, rfl⟩, fun q => ⟨rfl, Or.inr ?_⟩⟩, fun _ => rfl⟩
    have hd : isD (chr0 χ n (numR χ n mo i).2) := by
      by_cases hd : isD (chr0 χ n (numR χ n mo i).2)
      · exact hd
      · have q2 : bI (¬ isD (chr0 χ n (numR χ n mo i).2)) = 0 := q
        rw [bI_t hd] at q2
        exact absurd q2 (by decide)
    exact ⟨by show chr0 χ n (numR χ n mo i).2 ≠ 44; omega, (chr0_lt (χ := χ) (n := n) (i := (numR χ n mo i).2) (by omega)).2⟩
  · have e1 : cnum χ n le mo i = (0, 0, i) := by unfold cnum; rw [if_neg h]
    have e2 : mnum χ n le mo i = (1, 0, i) := by unfold mnum; rw [if_neg h]
    rw [e1, e2]
    exact ⟨⟨fun q => absurd q (by show ¬ (0 : Int) = 1; decide), fun _ => ⟨rfl, Or.inl rfl⟩⟩, fun q => absurd q (by show ¬ (0 : Int) = 1; decide)⟩
theorem cnum_ok {χ : Nat → Int} {n le mo i : Int} (hle : 0 ≤ le) (hm : 9 ≤ mo) (h1 : (cnum χ n le mo i).1 = 1) : le ≤ (cnum χ n le mo i).2.1 ∧ (cnum χ n le mo i).2.1 ≤ mo := by
  by_cases h : le ≤ chr0 χ n i - 48 ∧ chr0 χ n i ≤ 57
  · have e1 : cnum χ n le mo i = (bI (¬ isD (chr0 χ n (numR χ n mo i).2)), (numR χ n mo i).1, (numR χ n mo i).2) := by unfold cnum; rw [if_pos h]
    rw [e1]
    have g := numL_ge (χ := χ) (n := n) (most := mo) 60 (chr0 χ n i - 48) (i + 1) (by omega)
    have b := numL_bd (χ := χ) (n := n) (most := mo) (by omega) 60 (chr0 χ n i - 48) (i + 1) (by omega) (by omega)
    exact ⟨by show le ≤ (numL χ n mo 60 (chr0 χ n i - 48) (i + 1)).1; omega, by show (numL χ n mo 60 (chr0 χ n i - 48) (i + 1)).1 ≤ mo; omega⟩
  · have e1 : cnum χ n le mo i = (0, 0, i) := by unfold cnum; rw [if_neg h]
    rw [e1] at h1
    exact absurd h1 (by show ¬ (0 : Int) = 1; decide)
theorem lev_rel (χ : Nat → Int) (n i : Int) : RA χ n (clev χ n i) (mlev χ n i) ∧ ((clev χ n i).1 = 1 → (mlev χ n i).2.1 = (clev χ n i).2.1) := by
  by_cases h : chr0 χ n i = 45
  · have e1 : clev χ n i = ((cnum χ n 0 3000000 (i + 1)).1, -(cnum χ n 0 3000000 (i + 1)).2.1, (cnum χ n 0 3000000 (i + 1)).2.2) := by unfold clev; rw [if_pos h]
    have e2 : mlev χ n i = ((mnum χ n 0 3000000 (i + 1)).1, -(mnum χ n 0 3000000 (i + 1)).2.1, (mnum χ n 0 3000000 (i + 1)).2.2) := by unfold mlev; rw [if_pos h]
    obtain ⟨r1, r2⟩ := num_rel χ n 0 3000000 (i + 1)
    rw [e1, e2]
    exact ⟨⟨r1.1, r1.2⟩, fun q => by show -(mnum χ n 0 3000000 (i + 1)).2.1 = -(cnum χ n 0 3000000 (i + 1)).2.1; rw [r2 q]⟩
  · have e1 : clev χ n i = cnum χ n 0 3000000 i := by unfold clev; rw [if_neg h]
    have e2 : mlev χ n i = mnum χ n 0 3000000 i := by unfold mlev; rw [if_neg h]
    rw [e1, e2]
    exact num_rel χ n 0 3000000 i
theorem clev_ok {χ : Nat → Int} {n i : Int} (h1 : (clev χ n i).1 = 1) : -3000000 ≤ (clev χ n i).2.1 ∧ (clev χ n i).2.1 ≤ 3000000 := by
  by_cases h : chr0 χ n i = 45
  · have e1 : clev χ n i = ((cnum χ n 0 3000000 (i + 1)).1, -(cnum χ n 0 3000000 (i + 1)).2.1, (cnum χ n 0 3000000 (i + 1)).2.2) := by unfold clev; rw [if_pos h]
    rw [e1] at h1 ⊢
    have b := cnum_ok (χ := χ) (n := n) (le := 0) (mo := 3000000) (i := i + 1) (by omega) (by omega) h1
    exact ⟨by show -3000000 ≤ -(cnum χ n 0 3000000 (i + 1)).2.1; omega, by show -(cnum χ n 0 3000000 (i + 1)).2.1 ≤ 3000000; omega⟩
  · have e1 : clev χ n i = cnum χ n 0 3000000 i := by unfold clev; rw [if_neg h]
    rw [e1] at h1 ⊢
    have b := cnum_ok (χ := χ) (n := n) (le := 0) (mo := 3000000) (i := i) (by omega) (by omega) h1
    omega
theorem rng_rel (χ : Nat → Int) (n i : Int) : RA χ n (crng χ n i) (mrng χ n i) ∧ ((crng χ n i).1 = 1 → (mrng χ n i).2.1 = (crng χ n i).2.1) ∧ ((crng χ n i).1 = 1 → 0 ≤ (crng χ n i).2.1 ∧ (crng χ n i).2.1 ≤ 3) := by
  by_cases h : 0 ≤ chr0 χ n i - 48 ∧ chr0 χ n i - 48 ≤ 3
  · have e1 : crng χ n i = (1, chr0 χ n i - 48, i + 1) := by unfold crng; rw [bI_t (by omega), if_neg (by omega)]
    have e2 : mrng χ n i = (0, chr0 χ n i - 48, i + 1) := by unfold mrng; rw [if_pos h]
    rw [e1, e2]
    exact ⟨⟨fun _ => ⟨rfl, rfl⟩, fun q => absurd q (by show ¬ (1 : Int) = 0; decide)⟩, fun _ => rfl, fun _ => h⟩
  · have e1 : crng χ n i = (0, chr0 χ n i - 48, i) := by unfold crng; rw [bI_f (by omega), if_pos (by omega)]
    have e2 : mrng χ n i = (1, 0, i) := by unfold mrng; rw [if_neg h]
    rw [e1, e2]
    exact ⟨⟨fun q => absurd q (by show ¬ (0 : Int) = 1; decide), fun _ => ⟨rfl, Or.inl rfl⟩⟩, fun q => absurd q (by show ¬ (0 : Int) = 1; decide), fun q => absurd q (by show ¬ (0 : Int) = 1; decide)⟩
theorem arg_rel (χ : Nat → Int) (n kd i : Int) (hk : isK kd) : RA χ n (carg χ n kd i) (marg χ n kd i) ∧ ((carg χ n kd i).1 = 1 → (kd ≠ 122 → (marg χ n kd i).2.1 = (carg χ n kd i).2.1) ∧ okS kd (carg χ n kd i).2.1) := by
  by_cases h1 : kd = 119
  · have e1 : carg χ n kd i = cnum χ n 1 9999 i := by unfold carg; rw [if_pos h1]
    have e2 : marg χ n kd i = mnum χ n 1 9999 i := by unfold marg; rw [if_neg (by omega), if_pos h1]
    rw [e1, e2]
    obtain ⟨r1, r2⟩ := num_rel χ n 1 9999 i
    refine ⟨r1, fun q => ⟨fun _ => r2 q, hk, ?_⟩⟩
    have := cnum_ok (χ := χ) (n := n) (le := 1) (mo := 9999) (i := i) (by omega) (by omega) q
    exact ⟨fun z => absurd z (by omega), fun _ => this, fun z => absurd z (by omega), fun z => absurd z (by omega)⟩
  · by_cases h2 : kd = 108
    · have e1 : carg χ n kd i = clev χ n i := by unfold carg; rw [if_neg h1, if_pos h2]
      have e2 : marg χ n kd i = mlev χ n i := by unfold marg; rw [if_neg (by omega), if_neg h1, if_pos h2]
      rw [e1, e2]
      obtain ⟨r1, r2⟩ := lev_rel χ n i
      refine ⟨r1, fun q => ⟨fun _ => r2 q, hk, ?_⟩⟩
      exact ⟨fun z => absurd z (by omega), fun z => absurd z (by omega), fun _ => clev_ok q, fun z => absurd z (by omega)⟩
    · by_cases h3 : kd = 103
      · have e1 : carg χ n kd i = crng χ n i := by unfold carg; rw [if_neg h1, if_neg h2, if_pos h3]
        have e2 : marg χ n kd i = mrng χ n i := by unfold marg; rw [if_neg (by omega), if_neg h1, if_neg h2, if_pos h3]
        rw [e1, e2]
        obtain ⟨r1, r2, r3⟩ := rng_rel χ n i
        exact ⟨r1, fun q => ⟨fun _ => r2 q, hk, fun z => absurd z (by omega), fun z => absurd z (by omega), fun z => absurd z (by omega), fun _ => r3 q⟩⟩
      · by_cases h4 : kd = 122
        · have e1 : carg χ n kd i = (1, 1, i) := by unfold carg; rw [if_neg h1, if_neg h2, if_neg h3, if_pos h4]
          have e2 : marg χ n kd i = (0, 0, i) := by unfold marg; rw [if_neg (by omega), if_neg h1, if_neg h2, if_neg h3]
          rw [e1, e2]
          exact ⟨⟨fun _ => ⟨rfl, rfl⟩, fun q => absurd q (by show ¬ (1 : Int) = 0; decide)⟩, fun _ => ⟨fun z => absurd h4 z, hk, fun z => absurd z (by omega), fun z => absurd z (by omega), fun z => absurd z (by omega), fun z => absurd z (by omega)⟩⟩
        · have h5 : kd = 114 := by omega
          by_cases h6 : isD (chr0 χ n i)
          · have e1 : carg χ n kd i = cnum χ n 1 99 i := by unfold carg; rw [if_neg h1, if_neg h2, if_neg h3, if_neg h4, if_pos h6]
            by_cases h7 : 49 ≤ chr0 χ n i ∧ chr0 χ n i ≤ 57
            · have e2 : marg χ n kd i = mnum χ n 1 99 i := by unfold marg; rw [if_pos h5, if_pos h7]
              rw [e1, e2]
              obtain ⟨r1, r2⟩ := num_rel χ n 1 99 i
              refine ⟨r1, fun q => ⟨fun _ => r2 q, hk, ?_⟩⟩
              have := cnum_ok (χ := χ) (n := n) (le := 1) (mo := 99) (i := i) (by omega) (by omega) q
              exact ⟨fun _ => this, fun z => absurd z (by omega), fun z => absurd z (by omega), fun z => absurd z (by omega)⟩
            · have e3 : cnum χ n 1 99 i = (0, 0, i) := by unfold cnum; rw [if_neg (by omega)]
              have e2 : marg χ n kd i = (0, 1, i) := by unfold marg; rw [if_pos h5, if_neg h7]
              rw [e1, e2, e3]
              have hlt := chr0_lt (χ := χ) (n := n) (i := i) (by omega)
              exact ⟨⟨fun q => absurd q (by show ¬ (0 : Int) = 1; decide), fun _ => ⟨rfl, Or.inr ⟨by show chr0 χ n i ≠ 44; omega, hlt.2⟩⟩⟩, fun q => absurd q (by show ¬ (0 : Int) = 1; decide)⟩
          · have e1 : carg χ n kd i = (1, 1, i) := by unfold carg; rw [if_neg h1, if_neg h2, if_neg h3, if_neg h4, if_neg h6]
            have e2 : marg χ n kd i = (0, 1, i) := by unfold marg; rw [if_pos h5, if_neg (by omega)]
            rw [e1, e2]
            exact ⟨⟨fun _ => ⟨rfl, rfl⟩, fun q => absurd q (by show ¬ (1 : Int) = 0; decide)⟩, fun _ => ⟨fun _ => rfl, hk, fun _ => ⟨Int.le_refl 1, by show (1 : Int) ≤ 99; decide⟩, fun z => absurd z (by omega), fun z => absurd z (by omega), fun z => absurd z (by omega)⟩⟩
/-- the steps of both -/
abbrev INV (st : Int) (κ ν ψ : Nat → Int) : Prop := ∀ z : Nat, (z : Int) < st → ψ (2 * z) = κ z ∧ (κ z ≠ 122 → ψ (2 * z + 1) = ν z) ∧ okS (κ z) (ν z)
theorem inv_up {st : Int} {κ ν ψ : Nat → Int} (h : INV st κ ν ψ) (hs : 0 ≤ st) {c x y : Int} (hxy : c ≠ 122 → y = x) (hok : okS c x) : INV (st + 1) (up κ st.toNat c) (up ν st.toNat x) (up (up ψ (2 * st).toNat c) (2 * st + 1).toNat y) := by
  intro z hz
  by_cases he : z = st.toNat
  · subst he
    have e1 : up (up ψ (2 * st).toNat c) (2 * st + 1).toNat y (2 * st.toNat) = c := by
      rw [up_n _ _ (by omega), show 2 * st.toNat = (2 * st).toNat from by omega]; exact up_s _ _ _
    have e2 : up (up ψ (2 * st).toNat c) (2 * st + 1).toNat y (2 * st.toNat + 1) = y := by
      rw [show 2 * st.toNat + 1 = (2 * st + 1).toNat from by omega]; exact up_s _ _ _
    rw [e1, e2, up_s, up_s]
    exact ⟨rfl, hxy, hok⟩
  · have e1 : up (up ψ (2 * st).toNat c) (2 * st + 1).toNat y (2 * z) = ψ (2 * z) := by rw [up_n _ _ (by omega), up_n _ _ (by omega)]
    have e2 : up (up ψ (2 * st).toNat c) (2 * st + 1).toNat y (2 * z + 1) = ψ (2 * z + 1) := by rw [up_n _ _ (by omega), up_n _ _ (by omega)]
    rw [e1, e2, up_n κ _ he, up_n ν _ he]
    exact h z (by omega)
theorem mfl_stop {χ : Nat → Int} {n w i sm : Int} {ψ : Nat → Int} (m : Nat) (h : ¬ (w = 0 ∧ chr0 χ n i = 44)) : mfl χ n m w i sm ψ = (w, i, sm, ψ) := by
  cases m with
  | zero => rfl
  | succ m => simp only [mfl]; rw [if_neg h]
abbrev LNK (n : Int) (F : Int × Int × Int × (Nat → Int)) (C : cTup) : Prop := mfr n F = C.1 ∧ (C.1 = -6 → F.2.2.1 = C.2.2.2.1 ∧ INV C.2.2.2.1 C.2.2.2.2.1 C.2.2.2.2.2 F.2.2.2 ∧ 0 ≤ C.2.2.2.1 ∧ 2 * C.2.2.2.1 ≤ n + 1)
theorem link {χ : Nat → Int} {n : Int} (hX : inX χ) (hn : 0 ≤ n ∧ n ≤ 60) : ∀ (k m : Nat) (i num st : Int) (κ ν ψ : Nat → Int), 0 ≤ i → i ≤ n → n < i + k → n < i + m + 1 → 0 ≤ st → 2 * st ≤ i → INV st κ ν ψ →
    LNK n (mfl χ n m (mstp χ n i st ψ).1 (mstp χ n i st ψ).2.1 (mstp χ n i st ψ).2.2.1 (mstp χ n i st ψ).2.2.2) (cfl χ n k i num st κ ν) := by
  intro k
  induction k with
  | zero => intro m i num st κ ν ψ h1 h2 h3; exact absurd h3 (by omega)
  | succ k ih =>
    intro m i num st κ ν ψ h1 h2 h3 h4 h5 h6 hI
    by_cases hK : isK (chr0 χ n i)
    · have hin := chr0_lt (χ := χ) (n := n) (i := i) (by omega)
      obtain ⟨⟨ra, rb⟩, rc⟩ := arg_rel χ n (chr0 χ n i) (i + 1) hK
      have cb := carg_bd (kd := chr0 χ n i) (i := i + 1) hX hn (by omega)
      have em : mstp χ n i st ψ = ((marg χ n (chr0 χ n i) (i + 1)).1, (marg χ n (chr0 χ n i) (i + 1)).2.2, st + 1, up (up ψ (2 * st).toNat (chr0 χ n i)) (2 * st + 1).toNat (marg χ n (chr0 χ n i) (i + 1)).2.1) := by unfold mstp; rw [if_pos hK]
      rw [em]
      show LNK n (mfl χ n m (marg χ n (chr0 χ n i) (i + 1)).1 (marg χ n (chr0 χ n i) (i + 1)).2.2 (st + 1) (up (up ψ (2 * st).toNat (chr0 χ n i)) (2 * st + 1).toNat (marg χ n (chr0 χ n i) (i + 1)).2.1)) _
      generalize hM : marg χ n (chr0 χ n i) (i + 1) = M at ra rb rc ⊢
      rcases carg_01 χ n (chr0 χ n i) (i + 1) with q | q
      · have ec : cstp χ n i num st κ ν = (0, (carg χ n (chr0 χ n i) (i + 1)).2.1, (carg χ n (chr0 χ n i) (i + 1)).2.2, st, κ, ν) := by unfold cstp; rw [if_pos hK, if_pos q]
        have ef : cfl χ n (k + 1) i num st κ ν = ((carg χ n (chr0 χ n i) (i + 1)).2.2, (carg χ n (chr0 χ n i) (i + 1)).2.1, (carg χ n (chr0 χ n i) (i + 1)).2.2, st, κ, ν) := by simp only [cfl]; rw [ec, if_pos rfl]
        obtain ⟨e1, e2⟩ := rb q
        rw [ef]
        generalize hC : carg χ n (chr0 χ n i) (i + 1) = C at q cb e1 e2 ⊢
        rw [mfl_stop m (by rw [e1]; omega), e1]
        refine ⟨?_, fun z => absurd z (by show ¬ C.2.2 = -6; omega)⟩
        show mfr n (M.1, C.2.2, st + 1, _) = C.2.2
        unfold mfr
        rw [if_pos (by show M.1 = 1 ∨ C.2.2 < n; omega)]
      · have ec : cstp χ n i num st κ ν = (1, (carg χ n (chr0 χ n i) (i + 1)).2.1, (carg χ n (chr0 χ n i) (i + 1)).2.2, st + 1, up κ st.toNat (chr0 χ n i), up ν st.toNat (carg χ n (chr0 χ n i) (i + 1)).2.1) := by unfold cstp; rw [if_pos hK, if_neg (by omega)]
        obtain ⟨e0, e1⟩ := ra q
        obtain ⟨e2, e3⟩ := rc q
        generalize hC : carg χ n (chr0 χ n i) (i + 1) = C at q cb e1 e2 e3 ec ⊢
        have hI2 := inv_up (y := M.2.1) hI h5 e2 e3
        rw [e0, e1]
        by_cases c1 : n ≤ C.2.2
        · have ef : cfl χ n (k + 1) i num st κ ν = (-6, C.2.1, C.2.2, st + 1, up κ st.toNat (chr0 χ n i), up ν st.toNat C.2.1) := by
            simp only [cfl]; rw [ec, if_neg (by show ¬ (1 : Int) = 0; decide), if_pos c1]
          have hz : ¬ chr0 χ n C.2.2 = 44 := fun z => by have := chr0_lt (χ := χ) (n := n) (i := C.2.2) (by omega); omega
          rw [ef, mfl_stop m (fun z => hz z.2)]
          refine ⟨?_, fun _ => ⟨rfl, hI2, by show 0 ≤ st + 1; omega, by show 2 * (st + 1) ≤ n + 1; omega⟩⟩
          show mfr n (0, C.2.2, st + 1, _) = -6
          unfold mfr
          rw [if_neg (by show ¬ ((0 : Int) = 1 ∨ C.2.2 < n); omega)]
        · by_cases c2 : chr0 χ n C.2.2 ≠ 44
          · have ef : cfl χ n (k + 1) i num st κ ν = (C.2.2, C.2.1, C.2.2, st + 1, up κ st.toNat (chr0 χ n i), up ν st.toNat C.2.1) := by
              simp only [cfl]; rw [ec, if_neg (by show ¬ (1 : Int) = 0; decide), if_neg c1, if_pos c2]
            rw [ef, mfl_stop m (fun z => c2 z.2)]
            refine ⟨?_, fun z => absurd z (by show ¬ C.2.2 = -6; omega)⟩
            show mfr n (0, C.2.2, st + 1, _) = C.2.2
            unfold mfr
            rw [if_pos (by show (0 : Int) = 1 ∨ C.2.2 < n; omega)]
          · have c3 : chr0 χ n C.2.2 = 44 := by omega
            have ef : cfl χ n (k + 1) i num st κ ν = cfl χ n k (C.2.2 + 1) C.2.1 (st + 1) (up κ st.toNat (chr0 χ n i)) (up ν st.toNat C.2.1) := by
              simp only [cfl]; rw [ec, if_neg (by show ¬ (1 : Int) = 0; decide), if_neg c1, if_neg c2]
            rw [ef]
            cases m with
            | zero => exact absurd h4 (by omega)
            | succ m =>
              have eg : ∀ ψ2 : Nat → Int, mfl χ n (m + 1) 0 C.2.2 (st + 1) ψ2 = mfl χ n m (mstp χ n (C.2.2 + 1) (st + 1) ψ2).1 (mstp χ n (C.2.2 + 1) (st + 1) ψ2).2.1 (mstp χ n (C.2.2 + 1) (st + 1) ψ2).2.2.1 (mstp χ n (C.2.2 + 1) (st + 1) ψ2).2.2.2 := fun ψ2 => by
                exact if_pos (show (0 : Int) = 0 ∧ chr0 χ n C.2.2 = 44 from ⟨rfl, c3⟩)
              rw [eg]
              exact ih m (C.2.2 + 1) C.2.1 (st + 1) _ _ _ (by omega) (by omega) (by omega) (by omega) (by omega) (by omega) hI2
    · have ec : cstp χ n i num st κ ν = (0, num, i, st, κ, ν) := by unfold cstp; rw [if_neg hK]
      have em : mstp χ n i st ψ = (1, i, st, ψ) := by unfold mstp; rw [if_neg hK]
      have ef : cfl χ n (k + 1) i num st κ ν = (i, num, i, st, κ, ν) := by simp only [cfl]; rw [ec, if_pos rfl]
      rw [em, ef]
      show LNK n (mfl χ n m 1 i st ψ) (i, num, i, st, κ, ν)
      rw [mfl_stop m (by omega)]
      refine ⟨?_, fun z => absurd z (by show ¬ i = -6; omega)⟩
      show mfr n (1, i, st, ψ) = i
      unfold mfr
      rw [if_pos (Or.inl rfl)]
theorem link0 {χ : Nat → Int} {n : Int} (hX : inX χ) (hn : 0 ≤ n ∧ n ≤ 60) (num : Int) (κ ν ψ : Nat → Int) : LNK n (mfa χ n ψ) (cfl χ n 61 0 num 0 κ ν) :=
  link hX hn 61 61 0 num 0 κ ν ψ (by omega) (by omega) (by omega) (by omega) (by omega) (by omega) (fun z hz => absurd hz (by omega))
theorem inv_okP {st : Int} {κ ν ψ : Nat → Int} (h : INV st κ ν ψ) : okP κ ν st := fun z hz => (h z hz).2.2
theorem inv_okM {st : Int} {κ ν ψ : Nat → Int} (h : INV st κ ν ψ) : okM ψ st := fun z hz => by
  obtain ⟨h1, h2, h3, h4, h5, h6, h7⟩ := h z hz
  rw [h1]
  exact ⟨h3, fun q => by rw [h2 (by omega)]; exact h4 q, fun q => by rw [h2 (by omega)]; exact h5 q, fun q => by rw [h2 (by omega)]; exact h6 q, fun q => by rw [h2 (by omega)]; exact h7 q⟩
theorem sumS_inv {st : Int} {κ ν ψ : Nat → Int} (h : INV st κ ν ψ) : ∀ (n : Nat) (k x : Int), 0 ≤ k → k + n ≤ st → sumS (ev ψ) (od ψ) n k x = sumS κ ν n k x := by
  intro n
  induction n with
  | zero => intro k x h1 h2; rfl
  | succ n ih =>
    intro k x h1 h2
    obtain ⟨a, b, -⟩ := h k.toNat (by omega)
    simp only [sumS]
    show sumS (ev ψ) (od ψ) n (k + 1) (if ψ (2 * k.toNat) = 114 then x + ψ (2 * k.toNat + 1) else x) = _
    rw [a]
    split
    · rename_i q
      rw [b (by omega)]
      exact ih _ _ (by omega) (by omega)
    · exact ih _ _ (by omega) (by omega)
theorem exeL_cong {st : Int} {κ ν ψ : Nat → Int} (h : INV st κ ν ψ) : ∀ (n : Nat) (k : Int) (σ ρ : Nat → Int), 0 ≤ k → k + n ≤ st → exeL (ev ψ) (od ψ) n k σ ρ = exeL κ ν n k σ ρ := by
  intro n
  induction n with
  | zero => intro k σ ρ h1 h2; rfl
  | succ n ih =>
    intro k σ ρ h1 h2
    obtain ⟨a, b, -⟩ := h k.toNat (by omega)
    have e : stp1 (ev ψ k.toNat) (od ψ k.toNat) σ ρ = stp1 (κ k.toNat) (ν k.toNat) σ ρ := by
      show stp1 (ψ (2 * k.toNat)) (ψ (2 * k.toNat + 1)) σ ρ = _
      rw [a]
      by_cases q : κ k.toNat = 122
      · rw [stp1_z q, stp1_z q]
      · rw [b q]
    simp only [exeL]
    rw [e]
    split
    · rfl
    · exact ih _ _ _ (by omega) (by omega)
/-! what a program keeps -/
theorem inR_up {ρ : Nat → Int} (h : inR ρ) (p : Nat) {v : Int} (hv : -1099511627776 ≤ v ∧ v ≤ 1099511627776) : inR (up ρ p v) := fun k => by
  by_cases e : k = p
  · subst e; rw [up_s]; exact hv
  · rw [up_n _ _ e]; exact h k
theorem rowS_inR {σ ρ : Nat → Int} (h : inR ρ) (hs : Sets σ) (hn : Nums σ) (h11 : 0 ≤ σ 11 ∧ σ 11 ≤ 2000000000) : inR (rowS σ ρ) := by
  have hts := rz_sets hs
  have htn := (rz_nums hs hn).1
  have t1 := rz_time hs
  have v := val0_bd hts htn
  have nb := net0_bd hts htn
  have h10 : 0 ≤ rz σ 10 ∧ rz σ 10 ≤ 3 := hts.2.2.2.2.2.2.2.2.2.2
  have ho : ov0 (rz σ) = 0 ∨ ov0 (rz σ) = 1 := ovr_01 _ _
  have t2 := cvt_time (gn (rz σ 10)) hts
  unfold rowS row0
  exact inR_up (inR_up (inR_up (inR_up (inR_up (inR_up (inR_up h _ (by omega)) _ (by omega)) _ (by omega)) _ (by omega)) _ (by omega)) _ (by omega)) _ (by omega)
theorem rdN_inR : ∀ (n : Nat) (σ ρ : Nat → Int), inR ρ → Sets σ → Nums σ → 0 ≤ σ 11 → σ 11 + 3232 * n ≤ 2000000000 → σ 14 + n ≤ 20000 → inR (rdN n σ ρ).2 := by
  intro n
  induction n with
  | zero => intro σ ρ h hs hn h1 h2 h3; exact h
  | succ n ih =>
    intro σ ρ h hs hn h1 h2 h3
    have t := rdS_time hs
    have e := rdS_14 σ
    exact ih _ _ (rowS_inR h hs hn (by omega)) (rdS_sets hs) (rdS_nums hs hn (by omega)) (by omega) (by omega) (by omega)
abbrev KP (T : Int) (n : Nat) (r : Int × (Nat → Int) × (Nat → Int)) : Prop := (r.1 = 0 ∨ r.1 = 1) ∧ Sets r.2.1 ∧ Nums r.2.1 ∧ inR r.2.2 ∧ 0 ≤ r.2.1 11 ∧ r.2.1 11 ≤ T + 1650 * (n : Int) + 3300 * r.2.1 14 ∧ r.2.1 14 ≤ 10000
theorem exeL_keeps {κ ν : Nat → Int} {M : Int} (hok : okP κ ν M) : ∀ (n : Nat) (T k : Int) (σ ρ : Nat → Int), (1000000000 ≤ T ∧ T + 1650 * (n : Int) ≤ 1700000000) → 0 ≤ k → k + n ≤ M → Sets σ → Nums σ → inR ρ → 0 ≤ σ 11 → σ 11 ≤ T + 3300 * σ 14 → sumS κ ν n k (σ 14) ≤ 10000 → KP T n (exeL κ ν n k σ ρ) := by
  intro n
  induction n with
  | zero => intro T k σ ρ hT h1 h2 hs hn hR h4 h5 h6; exact ⟨Or.inr rfl, hs, hn, hR, h4, by show σ 11 ≤ T + 1650 * ((0 : Nat) : Int) + 3300 * σ 14; omega, h6⟩
  | succ n ih =>
    intro T k σ ρ hT h1 h2 hs hn hR h4 h5 h6
    have h14 := hn.2.2.1
    obtain ⟨hK, o1, o2, o3, o4⟩ := hok k.toNat (by omega)
    have hge := sumS_ge hok n (k + 1) (if κ k.toNat = 114 then σ 14 + ν k.toNat else σ 14) (by omega) (by omega)
    have h7 : sumS κ ν n (k + 1) (if κ k.toNat = 114 then σ 14 + ν k.toNat else σ 14) ≤ 10000 := h6
    have key : ∀ σ2 ρ2 : Nat → Int, stp1 (κ k.toNat) (ν k.toNat) σ ρ = (1, σ2, ρ2) → Sets σ2 → Nums σ2 → inR ρ2 → 0 ≤ σ2 11 → σ2 11 ≤ T + 1650 + 3300 * σ2 14 → σ2 14 = (if κ k.toNat = 114 then σ 14 + ν k.toNat else σ 14) → KP T (n + 1) (exeL κ ν (n + 1) k σ ρ) := by
      intro σ2 ρ2 e a b c d f g
      have r := ih (T + 1650) (k + 1) σ2 ρ2 (by omega) (by omega) (by omega) a b c d f (by rw [g]; exact h7)
      have e2 : exeL κ ν (n + 1) k σ ρ = exeL κ ν n (k + 1) σ2 ρ2 := by simp only [exeL]; rw [e, if_neg (by show ¬ (1 : Int) = 0; decide)]
      rw [e2]
      exact ⟨r.1, r.2.1, r.2.2.1, r.2.2.2.1, r.2.2.2.2.1, by have := r.2.2.2.2.2.1; omega, r.2.2.2.2.2.2⟩
    by_cases c1 : κ k.toNat = 114
    · have hnu := o1 c1
      rw [if_pos c1] at hge h7
      obtain ⟨a, b, c, d, f⟩ := rdN_inv (ν k.toNat).toNat σ ρ hs hn (by omega)
      exact key (rdN (ν k.toNat).toNat σ ρ).1 (rdN (ν k.toNat).toNat σ ρ).2 (stp1_r c1) a b (rdN_inR _ _ _ hR hs hn h4 (by omega) (by omega)) (by omega) (by omega) (by rw [if_pos c1]; omega)
    · rw [if_neg c1] at hge h7
      by_cases c2 : κ k.toNat = 122
      · have t := zrS_time hs
        have e14 : zrS σ 14 = σ 14 := rfl
        exact key (zrS σ) ρ (stp1_z c2) (zrS_sets hs) (zrS_nums hs hn) hR (by omega) (by omega) (by rw [if_neg c1]; exact e14)
      · by_cases c3 : κ k.toNat = 119
        · have hnu := o2 c3
          by_cases c4 : σ 11 + ν k.toNat ≤ 1000000000
          · exact key (up σ 11 (σ 11 + ν k.toNat)) ρ (stp1_w c3 c4) hs hn hR (by show 0 ≤ σ 11 + ν k.toNat; omega) (by show σ 11 + ν k.toNat ≤ T + 1650 + 3300 * σ 14; omega) (by rw [if_neg c1]; rfl)
          · have e2 : exeL κ ν (n + 1) k σ ρ = (0, σ, ρ) := by simp only [exeL]; rw [stp1_wn c3 (by omega), if_pos rfl]
            rw [e2]
            exact ⟨Or.inl rfl, hs, hn, hR, h4, by show σ 11 ≤ T + 1650 * ((n + 1 : Nat) : Int) + 3300 * σ 14; omega, by show σ 14 ≤ 10000; omega⟩
        · by_cases c5 : κ k.toNat = 108
          · exact key (up σ 0 (ν k.toNat)) ρ (stp1_l c5) (sets_l hs (o3 c5)) hn hR h4 (by show σ 11 ≤ T + 1650 + 3300 * σ 14; omega) (by rw [if_neg c1]; rfl)
          · have c6 : κ k.toNat = 103 := by omega
            exact key (up σ 10 (ν k.toNat)) ρ (stp1_g c6) (sets_g hs (o4 c6)) hn hR h4 (by show σ 11 ≤ T + 1650 + 3300 * σ 14; omega) (by rw [if_neg c1]; rfl)
/-! END link -/
