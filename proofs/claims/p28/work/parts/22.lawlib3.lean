set_option linter.unusedVariables false
/-! a program that is written and carried out -/
theorem numL_stop {χ : Nat → Int} {n most : Int} (k : Nat) {v i : Int} (h : ¬ (0 < v ∧ isD (chr0 χ n i) ∧ v * 10 + (chr0 χ n i - 48) ≤ most)) : numL χ n most k v i = (v, i) := by
  cases k with
  | zero => rfl
  | succ k => show (if 0 < v ∧ isD (chr0 χ n i) ∧ v * 10 + (chr0 χ n i - 48) ≤ most then _ else (v, i)) = (v, i); rw [if_neg h]
theorem numL_go {χ : Nat → Int} {n most : Int} (k : Nat) {v i c w j : Int} (hc : chr0 χ n i = c) (hv : 0 < v) (hd : 48 ≤ c ∧ c ≤ 57) (hw : v * 10 + (c - 48) = w) (hm : w ≤ most) (hj : i + 1 = j) : numL χ n most (k + 1) v i = numL χ n most k w j := by
  show (if 0 < v ∧ isD (chr0 χ n i) ∧ v * 10 + (chr0 χ n i - 48) ≤ most then numL χ n most k (v * 10 + (chr0 χ n i - 48)) (i + 1) else (v, i)) = _
  rw [hc, if_pos ⟨hv, hd, by omega⟩, hw, hj]
theorem cnum_1 {χ : Nat → Int} {n le mo i c x j : Int} (hc : chr0 χ n i = c) (h1 : le ≤ c - 48) (h2 : c ≤ 57) (hx : c - 48 = x) (hj : i + 1 = j) (hnd : ¬ isD (chr0 χ n j)) : cnum χ n le mo i = (1, x, j) := by
  have e : numR χ n mo i = (x, j) := by
    unfold numR
    rw [hc, hx, hj]
    exact numL_stop 60 (fun q => hnd q.2.1)
  unfold cnum
  rw [e, hc, if_pos ⟨h1, h2⟩]
  show (bI (¬ isD (chr0 χ n j)), x, j) = (1, x, j)
  rw [bI_t hnd]
/-- a level of hundred thousands -/
theorem clev_5 {χ : Nat → Int} {n i D lv : Int} (h0 : chr0 χ n i = 45) (h1 : chr0 χ n (i + 1) = 48 + D) (hD : 1 ≤ D ∧ D ≤ 9) (hl : D * 100000 = lv) (z1 : chr0 χ n (i + 2) = 48) (z2 : chr0 χ n (i + 3) = 48) (z3 : chr0 χ n (i + 4) = 48) (z4 : chr0 χ n (i + 5) = 48) (z5 : chr0 χ n (i + 6) = 48) (z6 : chr0 χ n (i + 7) = 44) : clev χ n i = (1, -lv, i + 7) := by
  have e : numR χ n 3000000 (i + 1) = (lv, i + 7) := by
    unfold numR
    rw [h1, show 48 + D - 48 = D from by omega, show i + 1 + 1 = i + 2 from by omega]
    rw [numL_go 59 (w := D * 10) (j := i + 3) z1 (by omega) (by omega) (by omega) (by omega) (by omega)]
    rw [numL_go 58 (w := D * 100) (j := i + 4) z2 (by omega) (by omega) (by omega) (by omega) (by omega)]
    rw [numL_go 57 (w := D * 1000) (j := i + 5) z3 (by omega) (by omega) (by omega) (by omega) (by omega)]
    rw [numL_go 56 (w := D * 10000) (j := i + 6) z4 (by omega) (by omega) (by omega) (by omega) (by omega)]
    rw [numL_go 55 (w := D * 100000) (j := i + 7) z5 (by omega) (by omega) (by omega) (by omega) (by omega), hl]
    exact numL_stop 55 (fun q => by have := q.2.1; rw [z6] at this; omega)
  have c : cnum χ n 0 3000000 (i + 1) = (1, lv, i + 7) := by
    unfold cnum
    rw [e, h1, if_pos (by omega)]
    show (bI (¬ isD (chr0 χ n (i + 7))), lv, i + 7) = (1, lv, i + 7)
    rw [bI_t (by rw [z6]; omega)]
  unfold clev
  rw [if_pos h0, c]
theorem clev_0 {χ : Nat → Int} {n i : Int} (h0 : chr0 χ n i = 45) (h1 : chr0 χ n (i + 1) = 48 + 0) (z6 : chr0 χ n (i + 2) = 44) : clev χ n i = (1, -0, i + 2) := by
  have c : cnum χ n 0 3000000 (i + 1) = (1, 0, i + 2) := cnum_1 h1 (by omega) (by omega) (by omega) (by omega) (by rw [z6]; omega)
  unfold clev
  rw [if_pos h0, c]
theorem cfl_go {χ κ ν : Nat → Int} {n i num st kd x j : Int} (k : Nat) (hc : chr0 χ n i = kd) (hK : isK kd) (ha : carg χ n kd (i + 1) = (1, x, j)) (h1 : j < n) (h2 : chr0 χ n j = 44) : cfl χ n (k + 1) i num st κ ν = cfl χ n k (j + 1) x (st + 1) (up κ st.toNat kd) (up ν st.toNat x) := by
  have hs : cstp χ n i num st κ ν = (1, x, j, st + 1, up κ st.toNat kd, up ν st.toNat x) := by
    unfold cstp
    rw [hc, if_pos hK, ha, if_neg (by show ¬ (1 : Int) = 0; decide)]
  simp only [cfl]
  rw [hs]
  rw [if_neg (show ¬ (1 : Int) = 0 by decide), if_neg (show ¬ n ≤ j by omega), if_neg (show ¬ chr0 χ n j ≠ 44 from fun q => q h2)]
theorem cfl_end {χ κ ν : Nat → Int} {n i num st kd x j : Int} (k : Nat) (hc : chr0 χ n i = kd) (hK : isK kd) (ha : carg χ n kd (i + 1) = (1, x, j)) (h1 : n ≤ j) : cfl χ n (k + 1) i num st κ ν = (-6, x, j, st + 1, up κ st.toNat kd, up ν st.toNat x) := by
  have hs : cstp χ n i num st κ ν = (1, x, j, st + 1, up κ st.toNat kd, up ν st.toNat x) := by
    unfold cstp
    rw [hc, if_pos hK, ha, if_neg (by show ¬ (1 : Int) = 0; decide)]
  simp only [cfl]
  rw [hs]
  rw [if_neg (show ¬ (1 : Int) = 0 by decide), if_pos h1]
abbrev κP (κ : Nat → Int) : Nat → Int := up (up (up (up κ 0 119) 1 108) 2 122) 3 114
abbrev νP (ν : Nat → Int) (wt lv mn : Int) : Nat → Int := up (up (up (up ν 0 wt) 1 (-lv)) 2 1) 3 mn
theorem prog_parse {χ κ ν : Nat → Int} {n j wt lv mn pm : Int} (c0 : chr0 χ n 0 = 119) (c1 : chr0 χ n 1 = 48 + wt) (hw : 1 ≤ wt ∧ wt ≤ 9) (c2 : chr0 χ n 2 = 44) (c3 : chr0 χ n 3 = 108) (hl : clev χ n 4 = (1, -lv, j)) (hj : 4 < j) (c4 : chr0 χ n j = 44) (c5 : chr0 χ n (j + 1) = 122) (c6 : chr0 χ n (j + 2) = 44) (c7 : chr0 χ n (j + 3) = 114) (c8 : chr0 χ n (j + 4) = 48 + mn) (hm : 1 ≤ mn ∧ mn ≤ 9) (hn : n = j + 5) :
    cfl χ n 61 0 pm 0 κ ν = (-6, mn, n, 4, κP κ, νP ν wt lv mn) := by
  have c9 : chr0 χ n (j + 5) = 0 := by unfold chr0; rw [if_neg (by omega)]
  have a1 : carg χ n 119 (0 + 1) = (1, wt, 2) := by
    unfold carg
    rw [if_pos rfl]
    exact cnum_1 c1 (by omega) (by omega) (by omega) (by omega) (by rw [c2]; omega)
  have a2 : carg χ n 108 (2 + 1 + 1) = (1, -lv, j) := by
    unfold carg
    rw [if_neg (by decide), if_pos rfl]
    exact hl
  have a3 : carg χ n 122 (j + 1 + 1) = (1, 1, j + 2) := by
    unfold carg
    rw [if_neg (by decide), if_neg (by decide), if_neg (by decide), if_pos rfl, show j + 1 + 1 = j + 2 from by omega]
  have a4 : carg χ n 114 (j + 2 + 1 + 1) = (1, mn, n) := by
    unfold carg
    rw [if_neg (by decide), if_neg (by decide), if_neg (by decide), if_neg (by decide), show j + 2 + 1 + 1 = j + 4 from by omega, if_pos (by rw [c8]; omega)]
    exact cnum_1 c8 (by omega) (by omega) (by omega) (by omega) (by rw [hn] at c9 ⊢; rw [c9]; omega)
  refine (cfl_go 60 c0 (by omega) a1 (by omega) c2).trans ?_
  refine (cfl_go 59 (show chr0 χ n (2 + 1) = 108 from c3) (by omega) a2 (by omega) c4).trans ?_
  refine (cfl_go 58 c5 (by omega) a3 (by omega) c6).trans ?_
  refine (cfl_end 57 (show chr0 χ n (j + 2 + 1) = 114 from by rw [show j + 2 + 1 = j + 3 from by omega]; exact c7) (by omega) a4 (by omega)).trans ?_
  rfl
theorem exe_go {κ ν σ ρ σ1 ρ1 : Nat → Int} (m : Nat) {k : Int} (h : stp1 (κ k.toNat) (ν k.toNat) σ ρ = (1, σ1, ρ1)) : exeL κ ν (m + 1) k σ ρ = exeL κ ν m (k + 1) σ1 ρ1 := by
  simp only [exeL]
  rw [h, if_neg (show ¬ (1 : Int) = 0 by decide)]
theorem prog_exe {κ ν σ ρ : Nat → Int} {wt lv mn : Int} (hT : σ 11 + wt ≤ 1000000000) : exeL (κP κ) (νP ν wt lv mn) (4 : Int).toNat 0 σ ρ = (1, rdN mn.toNat (zrS (up (up σ 11 (σ 11 + wt)) 0 (-lv))) ρ) := by
  have e1 : stp1 119 wt σ ρ = (1, up σ 11 (σ 11 + wt), ρ) := by
    unfold stp1
    rw [if_neg (by decide), if_neg (by decide), if_pos rfl, if_pos hT]
  have e2 : ∀ τ : Nat → Int, stp1 108 (-lv) τ ρ = (1, up τ 0 (-lv), ρ) := fun τ => by
    unfold stp1
    rw [if_neg (by decide), if_neg (by decide), if_neg (by decide), if_pos rfl]
  have e3 : ∀ τ : Nat → Int, stp1 122 1 τ ρ = (1, zrS τ, ρ) := fun τ => by
    unfold stp1
    rw [if_neg (by decide), if_pos rfl]
  have e4 : ∀ τ : Nat → Int, stp1 114 mn τ ρ = (1, rdN mn.toNat τ ρ) := fun τ => by
    unfold stp1
    rw [if_pos rfl]
  refine (exe_go 3 (σ1 := up σ 11 (σ 11 + wt)) (ρ1 := ρ) e1).trans ?_
  refine (exe_go 2 (σ1 := up (up σ 11 (σ 11 + wt)) 0 (-lv)) (ρ1 := ρ) (e2 _)).trans ?_
  refine (exe_go 1 (σ1 := zrS (up (up σ 11 (σ 11 + wt)) 0 (-lv))) (ρ1 := ρ) (e3 _)).trans ?_
  refine (exe_go 0 (σ1 := (rdN mn.toNat (zrS (up (up σ 11 (σ 11 + wt)) 0 (-lv))) ρ).1) (ρ1 := (rdN mn.toNat (zrS (up (up σ 11 (σ 11 + wt)) 0 (-lv))) ρ).2) (e4 _)).trans ?_
  rfl
theorem prog_sum {κ ν : Nat → Int} {wt lv mn : Int} : sumS (κP κ) (νP ν wt lv mn) (4 : Int).toNat 0 0 = mn := by
  show (0 : Int) + mn = mn
  omega
theorem prog_ok {κ ν : Nat → Int} {wt lv mn : Int} (hw : 1 ≤ wt ∧ wt ≤ 9) (hl : 0 ≤ lv ∧ lv ≤ 3000000) (hm : 1 ≤ mn ∧ mn ≤ 9) : okP (κP κ) (νP ν wt lv mn) 4 := by
  intro z hz
  rcases (show z = 0 ∨ z = 1 ∨ z = 2 ∨ z = 3 from by omega) with rfl | rfl | rfl | rfl
  · show okS 119 wt
    exact ⟨by omega, by omega, by omega, by omega, by omega⟩
  · show okS 108 (-lv)
    exact ⟨by omega, by omega, by omega, by omega, by omega⟩
  · show okS 122 1
    exact ⟨by omega, by omega, by omega, by omega, by omega⟩
  · show okS 114 mn
    exact ⟨by omega, by omega, by omega, by omega, by omega⟩
theorem rdS_0 (σ : Nat → Int) : rdS σ 0 = σ 0 := rz_set σ 0 (Or.inl (by omega))
theorem rdN_0 : ∀ (n : Nat) (σ ρ : Nat → Int), (rdN n σ ρ).1 0 = σ 0 := by
  intro n
  induction n with
  | zero => intro σ ρ; rfl
  | succ n ih => intro σ ρ; exact (ih _ _).trans (rdS_0 σ)
theorem rdN_inR : ∀ (n : Nat) (σ ρ : Nat → Int), inR ρ → Sets σ → Nums σ → 0 ≤ σ 11 → σ 11 + 3232 * n ≤ 1900000000 → σ 14 + n ≤ 10000 → inR (rdN n σ ρ).2 := by
  intro n
  induction n with
  | zero => intro σ ρ h hs hn h1 h2 h3; exact h
  | succ n ih =>
    intro σ ρ h hs hn h1 h2 h3
    have t := rdS_time hs
    have e := rdS_14 σ
    exact ih _ _ (rowS_inR h hs hn (by omega)) (rdS_sets hs) (rdS_nums hs hn (by omega)) (by omega) (by omega) (by omega)
/-! END lawlib 3 -/
