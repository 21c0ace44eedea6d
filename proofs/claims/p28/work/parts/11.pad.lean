set_option linter.unusedVariables false
/-! texts -/
def chr0 (χ : Nat → Int) (n i : Int) : Int := if 0 ≤ i ∧ i < n then χ i.toNat else 0
abbrev inX (χ : Nat → Int) : Prop := ∀ k : Nat, k < 60 → 0 ≤ χ k ∧ χ k ≤ 126
theorem chr0_bd {χ : Nat → Int} {n i : Int} (h : inX χ) (hn : n ≤ 60) : 0 ≤ chr0 χ n i ∧ chr0 χ n i ≤ 126 := by
  unfold chr0
  split
  · exact h _ (by omega)
  · omega
theorem chr0_lt {χ : Nat → Int} {n i : Int} (h : chr0 χ n i ≠ 0) : 0 ≤ i ∧ i < n := by
  unfold chr0 at h
  split at h
  · assumption
  · exact absurd rfl h
theorem nar_v {x : Int} (h : 0 ≤ x ∧ x ≤ 126) : vp_nar .char (iI x) = iI x := by
  obtain ⟨k, rfl⟩ : ∃ k : Nat, x = k := ⟨x.toNat, by omega⟩
  rw [vp_nar_char]
  have e := (pk_charN (q := k) (by omega)).1
  exact Value.int.inj e
theorem nar_c {x : Int} (h : 0 ≤ x ∧ x ≤ 126) : narrow .char (.int (iI x)) = .int (iI x) := by
  obtain ⟨k, rfl⟩ : ∃ k : Nat, x = k := ⟨x.toNat, by omega⟩
  exact (pk_charN (q := k) (by omega)).1
abbrev isD (x : Int) : Prop := 48 ≤ x ∧ x ≤ 57
/-- a number, digit by digit, as far as it stays at most 'most' -/
def numL (χ : Nat → Int) (n most : Int) : Nat → Int → Int → Int × Int
  | 0, v, i => (v, i)
  | k + 1, v, i => if 0 < v ∧ isD (chr0 χ n i) ∧ v * 10 + (chr0 χ n i - 48) ≤ most then numL χ n most k (v * 10 + (chr0 χ n i - 48)) (i + 1) else (v, i)
def numR (χ : Nat → Int) (n most i : Int) : Int × Int := numL χ n most 60 (chr0 χ n i - 48) (i + 1)
/-- the class' reading of a number: whether, the number, the place -/
def cnum (χ : Nat → Int) (n least most i : Int) : Int × Int × Int :=
  if least ≤ chr0 χ n i - 48 ∧ chr0 χ n i ≤ 57 then (bI (¬ isD (chr0 χ n (numR χ n most i).2)), (numR χ n most i).1, (numR χ n most i).2) else (0, 0, i)
theorem numL_bd {χ : Nat → Int} {n most : Int} (hm : 0 ≤ most) : ∀ (k : Nat) (v i : Int), 0 ≤ v → (v ≤ most ∨ v ≤ 9) → 0 ≤ (numL χ n most k v i).1 ∧ ((numL χ n most k v i).1 ≤ most ∨ (numL χ n most k v i).1 ≤ 9) ∧ i ≤ (numL χ n most k v i).2 ∧ (i ≤ n → (numL χ n most k v i).2 ≤ n) := by
  intro k
  induction k with
  | zero => intro v i h1 h2; exact ⟨h1, h2, Int.le_refl i, fun h => h⟩
  | succ k ih =>
    intro v i h1 h2
    simp only [numL]
    split
    · rename_i h
      have h3 := ih (v * 10 + (chr0 χ n i - 48)) (i + 1) (by omega) (by omega)
      have h4 := chr0_lt (χ := χ) (n := n) (i := i) (by omega)
      exact ⟨h3.1, h3.2.1, by omega, fun h => h3.2.2.2 (by omega)⟩
    · exact ⟨h1, h2, Int.le_refl i, fun h => h⟩
theorem iX3_signHere_X3 : ∀ w ∈ wsX30, w ∈ wsX3_signHere := by decide +kernel
set_option maxHeartbeats 4000000 in
set_option maxRecDepth 100000 in
theorem mX3_signHere (l : Launch) (E : gT) (a : Nat) (q1 : Nat) (q2 : Nat) (q3 : Nat) (n : Int) (st : Int) (i : Int) (num : Int) (χ : Nat → Int) (hn : 0 ≤ n ∧ n ≤ 60) (hi : 0 ≤ i ∧ i ≤ n) (hX : inX χ) : Cd l E yX3_signHere wsX3_signHere 0 0 0 0 [.ref a] [cPad a q1 q2 q3 n st i num, cChr E q1 χ] (some (.int (iI (chr0 χ n i)))) [cPad a q1 q2 q3 n st i num, cChr E q1 χ] := by
  refine Ct.mk (cc := cX3_signHere) (maxL := 1) (ret := (some .char)) (plainFor_of_name (by decide)) rfl (Nat.le_of_ble_eq_true rfl) ?_
  intro p e s m below meth c A ls H locs S hr hlk hnm B hl
  have S : CallFix p m c cX3_signHere 1 s #[.ref a] wsX3_signHere RX3 := S
  have hl : lv_has ls 1 [(0, .ref a)] := hl
  have hc := chr0_bd (i := i) hX hn.2
  refine z_aload_n S (pc := 0) dX3_signHere_0 rfl (lv_at hl 0 rfl) ?_
  refine z_get S (pc := 1) B iX3_signHere_X3 0 rfl rfl 5 (by decide) rfl rfl (by decide +kernel) dX3_signHere_1 ?_
  refine z_if_lt S (pc := 4) (tgt := 30) (by omega) dX3_signHere_4 rfl (fun c1 => absurd c1 (by omega)) (fun c1 => ?_)
  refine z_aload_n S (pc := 7) dX3_signHere_7 rfl (lv_at hl 0 rfl) ?_
  refine z_get S (pc := 8) B iX3_signHere_X3 0 rfl rfl 5 (by decide) rfl rfl (by decide +kernel) dX3_signHere_8 ?_
  refine z_aload_n S (pc := 11) dX3_signHere_11 rfl (lv_at hl 0 rfl) ?_
  refine z_get S (pc := 12) B iX3_signHere_X3 0 rfl rfl 1 (by decide) rfl rfl (by decide +kernel) dX3_signHere_12 ?_
  refine z_icmp_ge S (pc := 15) (tgt := 30) (by omega) (by omega) dX3_signHere_15 rfl (fun c2 => ?_) (fun c2 => ?_)
  · refine z_iconst S (pc := 30) dX3_signHere_30 ?_
    refine lv_goto S.1 S.2.1 (pc := 31) (tgt := 43) dX3_signHere_31 rfl ?_
    exact z_creturn S rfl hr hlk B () trivial (by unfold chr0; rw [if_neg (by omega)]) rfl (pc := 43) dX3_signHere_43
  · refine z_aload_n S (pc := 18) dX3_signHere_18 rfl (lv_at hl 0 rfl) ?_
    refine z_get S (pc := 19) B iX3_signHere_X3 0 rfl rfl 5 (by decide) rfl rfl (by decide +kernel) dX3_signHere_19 ?_
    refine z_aload_n S (pc := 22) dX3_signHere_22 rfl (lv_at hl 0 rfl) ?_
    refine z_get S (pc := 23) B iX3_signHere_X3 0 rfl rfl 0 (by decide) rfl rfl (by decide +kernel) dX3_signHere_23 ?_
    refine z_alen S (pc := 26) B 1 0 rfl rfl (n := 60) rfl dX3_signHere_26 ?_
    refine z_icmp_lt S (pc := 27) (tgt := 34) (by omega) (by omega) dX3_signHere_27 rfl (fun c3 => ?_) (fun c3 => ?_)
    · refine z_aload_n S (pc := 34) dX3_signHere_34 rfl (lv_at hl 0 rfl) ?_
      refine z_get S (pc := 35) B iX3_signHere_X3 0 rfl rfl 0 (by decide) rfl rfl (by decide +kernel) dX3_signHere_35 ?_
      refine z_aload_n S (pc := 38) dX3_signHere_38 rfl (lv_at hl 0 rfl) ?_
      refine z_get S (pc := 39) B iX3_signHere_X3 0 rfl rfl 5 (by decide) rfl rfl (by decide +kernel) dX3_signHere_39 ?_
      refine z_cald S (pc := 42) B 1 0 rfl rfl (k := (i).toNat) (by omega) (by omega) (by decide) (v := .int (iI (χ (i).toNat))) rfl dX3_signHere_42 ?_
      exact z_creturn S (nar_c (hX _ (by omega))) hr hlk B () trivial (by unfold chr0; rw [if_pos (by omega)]) rfl (pc := 43) dX3_signHere_43
    · refine z_iconst S (pc := 30) dX3_signHere_30 ?_
      refine lv_goto S.1 S.2.1 (pc := 31) (tgt := 43) dX3_signHere_31 rfl ?_
      exact z_creturn S rfl hr hlk B () trivial (by unfold chr0; rw [if_neg (by omega)]) rfl (pc := 43) dX3_signHere_43
set_option maxHeartbeats 4000000 in
set_option maxRecDepth 100000 in
theorem mX3_isDigitHere (l : Launch) (E : gT) (a : Nat) (q1 : Nat) (q2 : Nat) (q3 : Nat) (n : Int) (st : Int) (i : Int) (num : Int) (χ : Nat → Int) (hn : 0 ≤ n ∧ n ≤ 60) (hi : 0 ≤ i ∧ i ≤ n) (hX : inX χ) : Cd l E yX3_isDigitHere wsX3_isDigitHere 1 20 0 0 [.ref a] [cPad a q1 q2 q3 n st i num, cChr E q1 χ] (some (.int (iI (bI (isD (chr0 χ n i)))))) [cPad a q1 q2 q3 n st i num, cChr E q1 χ] := by
  refine Ct.mk (cc := cX3_isDigitHere) (maxL := 1) (ret := (some .boolean)) (plainFor_of_name (by decide)) rfl (Nat.le_of_ble_eq_true rfl) ?_
  intro p e s m below meth c A ls H locs S hr hlk hnm B hl
  have S : CallFix p m c cX3_isDigitHere 1 s #[.ref a] wsX3_isDigitHere RX3 := S
  have hl : lv_has ls 1 [(0, .ref a)] := hl
  have hc := chr0_bd (i := i) hX hn.2
  refine z_aload_n S (pc := 0) dX3_isDigitHere_0 rfl (lv_at hl 0 rfl) ?_
  refine z_callV S (pc := 1) B (wr := []) (wn := fun _ => [cPad a q1 q2 q3 n st i num, cChr E q1 χ]) (st1 := fun _ => [.int (iI (chr0 χ n i))]) (As := []) (mX3_signHere l E a q1 q2 q3 n st i num χ (show 0 ≤ n ∧ n ≤ 60 from by omega) (show 0 ≤ i ∧ i ≤ n from by omega) (show inX χ from by assumption)) gX3_isDigitHere_X3_signHere 0 rfl (by decide +kernel) ⟨Nat.le_of_ble_eq_true rfl, Nat.le_of_ble_eq_true rfl, Nat.le_of_ble_eq_true rfl, Nat.le_of_ble_eq_true rfl⟩ 0 rfl (q := (RX3, TX3, 7)) rfl rfl [0, 1] [] [0, 1] rfl rfl ⟨rfl, rfl, rfl, by decide⟩ (fun _ => rfl) rfl (fun _ => rfl) hl.1 (Nat.le_of_ble_eq_true rfl) rfl dX3_isDigitHere_1 (fun _ _ H locs B => ?_)
  refine z_bipush S (pc := 4) dX3_isDigitHere_4 rfl ?_
  refine z_icmp_lt S (pc := 6) (tgt := 22) (by omega) (by omega) dX3_isDigitHere_6 rfl (fun c1 => ?_) (fun c1 => ?_)
  · refine z_iconst S (pc := 22) dX3_isDigitHere_22 ?_
    exact z_zreturn S (by omega) hr hlk B () trivial (by rw [bI_f (by omega)]) rfl (pc := 23) dX3_isDigitHere_23
  · refine z_aload_n S (pc := 9) dX3_isDigitHere_9 rfl (lv_at hl 0 rfl) ?_
    refine z_callV S (pc := 10) B (wr := []) (wn := fun _ => [cPad a q1 q2 q3 n st i num, cChr E q1 χ]) (st1 := fun _ => [.int (iI (chr0 χ n i))]) (As := []) (mX3_signHere l E a q1 q2 q3 n st i num χ (show 0 ≤ n ∧ n ≤ 60 from by omega) (show 0 ≤ i ∧ i ≤ n from by omega) (show inX χ from by assumption)) gX3_isDigitHere_X3_signHere 0 rfl (by decide +kernel) ⟨Nat.le_of_ble_eq_true rfl, Nat.le_of_ble_eq_true rfl, Nat.le_of_ble_eq_true rfl, Nat.le_of_ble_eq_true rfl⟩ 0 rfl (q := (RX3, TX3, 7)) rfl rfl [0, 1] [] [0, 1] rfl rfl ⟨rfl, rfl, rfl, by decide⟩ (fun _ => rfl) rfl (fun _ => rfl) hl.1 (Nat.le_of_ble_eq_true rfl) rfl dX3_isDigitHere_10 (fun _ _ H locs B => ?_)
    refine z_bipush S (pc := 13) dX3_isDigitHere_13 rfl ?_
    refine z_icmp_gt S (pc := 15) (tgt := 22) (by omega) (by omega) dX3_isDigitHere_15 rfl (fun c2 => ?_) (fun c2 => ?_)
    · refine z_iconst S (pc := 22) dX3_isDigitHere_22 ?_
      exact z_zreturn S (by omega) hr hlk B () trivial (by rw [bI_f (by omega)]) rfl (pc := 23) dX3_isDigitHere_23
    · refine z_iconst S (pc := 18) dX3_isDigitHere_18 ?_
      refine lv_goto S.1 S.2.1 (pc := 19) (tgt := 23) dX3_isDigitHere_19 rfl ?_
      exact z_zreturn S (by omega) hr hlk B () trivial (by rw [bI_t (by omega)]) rfl (pc := 23) dX3_isDigitHere_23
theorem iX3_readNumber_X3 : ∀ w ∈ wsX30, w ∈ wsX3_readNumber := by decide +kernel
set_option maxHeartbeats 4000000 in
set_option maxRecDepth 100000 in
theorem lpX3_readNumber {p : Program} {l : Launch} {e : Env} {s : State} {m : MethodId} {args : Array Value} {below : List Frame} {meth : Method} {c : Code} {Q : State → Prop} {A : Nat → Prop} (E : gT) (S : CallFix p m c cX3_readNumber 6 s args wsX3_readNumber RX3) (a : Nat) (q1 : Nat) (q2 : Nat) (q3 : Nat) (n : Int) (st : Int) (χ : Nat → Int) (le : Int) (mo : Int) (f : Int) (hn : 0 ≤ n ∧ n ≤ 60) (hX : inX χ) (hlm : 0 ≤ le ∧ le ≤ 1 ∧ 9 ≤ mo ∧ mo ≤ 3000000) (hf : 0 ≤ f) :
    ∀ (k : Nat) (v j : Int) (hv : 0 ≤ v ∧ v ≤ mo) (hvl : le ≤ v) (hj : f < j ∧ j ≤ n) (hk : n < j + (k : Int)) (res : Int × Int) (hres : numL χ n mo k v j = res) (hx : ∀ (H : Heap) (locs : List Loc) (ls : Array Slot) (pc : Nat) (b : Int), bw E A s H locs [cPad a q1 q2 q3 n st res.2 res.1, cChr E q1 χ] → ((b = 0 ∧ pc = 85 ∧ isD (chr0 χ n res.2)) ∨ (b = 1 ∧ pc = 118 ∧ ¬ isD (chr0 χ n res.2))) → W p l e ({ frames := 2, cells := 0, slots := 0, locals := 40 } : Room) s m args below meth c H locs 0 0 Q (F0 m pc ls [.int (iI b)])) (H : Heap) (locs : List Loc) (ls : Array Slot) (B : bw E A s H locs [cPad a q1 q2 q3 n st j v, cChr E q1 χ]) (hl : lv_has ls 6 [(0, .ref a), (1, .int (iI le)), (2, .int (iI mo)), (3, .int (iI f))]), W p l e ({ frames := 2, cells := 0, slots := 0, locals := 40 } : Room) s m args below meth c H locs 0 0 Q (F0 m 10 ls []) := by
  intro k
  induction k with
  | zero =>
    intro v j hv hvl hj hk res hres hx H locs ls B hl
    exact absurd hk (by omega)
  | succ k ih =>
    intro v j hv hvl hj hk res hres hx H locs ls B hl
    have hc := chr0_bd (i := j) hX hn.2
    refine z_aload_n S (pc := 10) dX3_readNumber_10 rfl (lv_at hl 0 rfl) ?_
    refine z_callV S (pc := 11) B (wr := []) (wn := fun _ => [cPad a q1 q2 q3 n st j v, cChr E q1 χ]) (st1 := fun _ => [.int (iI (bI (isD (chr0 χ n j))))]) (As := []) (mX3_isDigitHere l E a q1 q2 q3 n st j v χ (show 0 ≤ n ∧ n ≤ 60 from by omega) (show 0 ≤ j ∧ j ≤ n from by omega) (show inX χ from by assumption)) gX3_readNumber_X3_isDigitHere 0 rfl (by decide +kernel) ⟨Nat.le_of_ble_eq_true rfl, Nat.le_of_ble_eq_true rfl, Nat.le_of_ble_eq_true rfl, Nat.le_of_ble_eq_true rfl⟩ 0 rfl (q := (RX3, TX3, 7)) rfl rfl [0, 1] [] [0, 1] rfl rfl ⟨rfl, rfl, rfl, by decide⟩ (fun _ => rfl) rfl (fun _ => rfl) hl.1 (Nat.le_of_ble_eq_true rfl) rfl dX3_readNumber_11 (fun _ _ H locs B => ?_)
    refine z_ifeq_b S (pc := 14) (tgt := 105) dX3_readNumber_14 rfl (fun c1 => ?_) (fun c1 => ?_)
    · refine z_aload_n S (pc := 105) dX3_readNumber_105 rfl (lv_at hl 0 rfl) ?_
      refine z_get S (pc := 106) B iX3_readNumber_X3 0 rfl rfl 5 (by decide) rfl rfl (by decide +kernel) dX3_readNumber_106 ?_
      refine z_iload_n S (pc := 109) dX3_readNumber_109 rfl (lv_at hl 3 rfl) ?_
      refine z_icmp_le S (pc := 110) (tgt := 117) (by omega) (by omega) dX3_readNumber_110 rfl (fun c2 => ?_) (fun c2 => ?_)
      · refine z_iconst S (pc := 117) dX3_readNumber_117 ?_
        exact absurd hj.1 (by omega)
      · refine z_iconst S (pc := 113) dX3_readNumber_113 ?_
        refine lv_goto S.1 S.2.1 (pc := 114) (tgt := 118) dX3_readNumber_114 rfl ?_
        have hres : (v, j) = res := by rw [← hres]; simp only [numL]; rw [if_neg (fun z => c1 z.2.1)]
        subst hres
        exact hx _ _ _ 118 1 B (Or.inr ⟨rfl, rfl, c1⟩)
    · refine z_aload_n S (pc := 17) dX3_readNumber_17 rfl (lv_at hl 0 rfl) ?_
      refine z_get S (pc := 18) B iX3_readNumber_X3 0 rfl rfl 5 (by decide) rfl rfl (by decide +kernel) dX3_readNumber_18 ?_
      refine z_aload_n S (pc := 21) dX3_readNumber_21 rfl (lv_at hl 0 rfl) ?_
      refine z_get S (pc := 22) B iX3_readNumber_X3 0 rfl rfl 1 (by decide) rfl rfl (by decide +kernel) dX3_readNumber_22 ?_
      refine z_icmp_ge S (pc := 25) (tgt := 105) (by omega) (by omega) dX3_readNumber_25 rfl (fun c3 => ?_) (fun c3 => ?_)
      · refine z_aload_n S (pc := 105) dX3_readNumber_105 rfl (lv_at hl 0 rfl) ?_
        refine z_get S (pc := 106) B iX3_readNumber_X3 0 rfl rfl 5 (by decide) rfl rfl (by decide +kernel) dX3_readNumber_106 ?_
        refine z_iload_n S (pc := 109) dX3_readNumber_109 rfl (lv_at hl 3 rfl) ?_
        refine z_icmp_le S (pc := 110) (tgt := 117) (by omega) (by omega) dX3_readNumber_110 rfl (fun c4 => ?_) (fun c4 => ?_)
        · refine z_iconst S (pc := 117) dX3_readNumber_117 ?_
          exact absurd (chr0_lt (χ := χ) (n := n) (i := j) (by omega)).2 (by omega)
        · refine z_iconst S (pc := 113) dX3_readNumber_113 ?_
          refine lv_goto S.1 S.2.1 (pc := 114) (tgt := 118) dX3_readNumber_114 rfl ?_
          exact absurd (chr0_lt (χ := χ) (n := n) (i := j) (by omega)).2 (by omega)
      · refine z_aload_n S (pc := 28) dX3_readNumber_28 rfl (lv_at hl 0 rfl) ?_
        refine z_get S (pc := 29) B iX3_readNumber_X3 0 rfl rfl 6 (by decide) rfl rfl (by decide +kernel) dX3_readNumber_29 ?_
        refine z_bipush S (pc := 32) dX3_readNumber_32 rfl ?_
        refine z_imul S (pc := 34) dX3_readNumber_34 ?_
        refine z_aload_n S (pc := 35) dX3_readNumber_35 rfl (lv_at hl 0 rfl) ?_
        refine z_callV S (pc := 36) B (wr := []) (wn := fun _ => [cPad a q1 q2 q3 n st j v, cChr E q1 χ]) (st1 := fun _ => [.int (iI (chr0 χ n j)), .int (iI (v * 10))]) (As := []) (mX3_signHere l E a q1 q2 q3 n st j v χ (show 0 ≤ n ∧ n ≤ 60 from by omega) (show 0 ≤ j ∧ j ≤ n from by omega) (show inX χ from by assumption)) gX3_readNumber_X3_signHere 0 rfl (by decide +kernel) ⟨Nat.le_of_ble_eq_true rfl, Nat.le_of_ble_eq_true rfl, Nat.le_of_ble_eq_true rfl, Nat.le_of_ble_eq_true rfl⟩ 0 rfl (q := (RX3, TX3, 7)) rfl rfl [0, 1] [] [0, 1] rfl rfl ⟨rfl, rfl, rfl, by decide⟩ (fun _ => rfl) rfl (fun _ => rfl) hl.1 (Nat.le_of_ble_eq_true rfl) rfl dX3_readNumber_36 (fun _ _ H locs B => ?_)
        refine z_bipush S (pc := 39) dX3_readNumber_39 rfl ?_
        refine z_isub S (pc := 41) dX3_readNumber_41 ?_
        refine z_iadd S (pc := 42) dX3_readNumber_42 ?_
        refine lv_istore (lv' := [(4, .int (iI ((v * 10) + ((chr0 χ n j) - 48)))), (0, .ref a), (1, .int (iI le)), (2, .int (iI mo)), (3, .int (iI f))]) S.1 S.2.1 (pc := 43) dX3_readNumber_43 hl (by decide) rfl (fun ls hl => ?_)
        refine z_aload_n S (pc := 45) dX3_readNumber_45 rfl (lv_at hl 1 rfl) ?_
        refine z_get S (pc := 46) B iX3_readNumber_X3 0 rfl rfl 5 (by decide) rfl rfl (by decide +kernel) dX3_readNumber_46 ?_
        refine z_iload_n S (pc := 49) dX3_readNumber_49 rfl (lv_at hl 4 rfl) ?_
        refine z_icmp_le S (pc := 50) (tgt := 64) (by omega) (by omega) dX3_readNumber_50 rfl (fun c5 => ?_) (fun c5 => ?_)
        · refine z_iconst S (pc := 64) dX3_readNumber_64 ?_
          refine lv_istore (lv' := [(5, .int (iI 0)), (4, .int (iI ((v * 10) + ((chr0 χ n j) - 48)))), (0, .ref a), (1, .int (iI le)), (2, .int (iI mo)), (3, .int (iI f))]) S.1 S.2.1 (pc := 65) dX3_readNumber_65 hl (by decide) rfl (fun ls hl => ?_)
          refine z_iload S (pc := 67) dX3_readNumber_67 (lv_at hl 0 rfl) ?_
          refine z_if_ne S (pc := 69) (tgt := 84) (by omega) dX3_readNumber_69 rfl (fun c6 => absurd c6 (by omega)) (fun c6 => ?_)
          refine z_iload S (pc := 72) dX3_readNumber_72 (lv_at hl 1 rfl) ?_
          refine z_iload_n S (pc := 74) dX3_readNumber_74 rfl (lv_at hl 3 rfl) ?_
          refine z_icmp_lt S (pc := 75) (tgt := 84) (by omega) (by omega) dX3_readNumber_75 rfl (fun c7 => ?_) (fun c7 => ?_)
          · refine z_iconst S (pc := 84) dX3_readNumber_84 ?_
            have hjn := chr0_lt (χ := χ) (n := n) (i := j) (by omega)
            have hres : (v, j) = res := by rw [← hres]; simp only [numL]; rw [if_neg (fun z => by omega)]
            subst hres
            exact hx _ _ _ 85 0 B (Or.inl ⟨rfl, rfl, c1⟩)
          · refine z_iload S (pc := 78) dX3_readNumber_78 (lv_at hl 1 rfl) ?_
            refine z_iload_n S (pc := 80) dX3_readNumber_80 rfl (lv_at hl 4 rfl) ?_
            refine z_icmp_le S (pc := 81) (tgt := 86) (by omega) (by omega) dX3_readNumber_81 rfl (fun c8 => ?_) (fun c8 => ?_)
            · refine z_aload_n S (pc := 86) dX3_readNumber_86 rfl (lv_at hl 2 rfl) ?_
              refine z_iload S (pc := 87) dX3_readNumber_87 (lv_at hl 1 rfl) ?_
              refine z_put S (pc := 89) B iX3_readNumber_X3 tyX3_ok nmX3 0 rfl rfl 6 (by decide) rfl (by decide +kernel) (ty := .int) (by decide +kernel) rfl rfl (Nat.le_of_ble_eq_true rfl) dX3_readNumber_89 (wn := [cPad a q1 q2 q3 n st j ((v * 10) + ((chr0 χ n j) - 48)), cChr E q1 χ]) rfl (fun H locs B => ?_)
              refine z_aload_n S (pc := 92) dX3_readNumber_92 rfl (lv_at hl 2 rfl) ?_
              refine lv_dup S.1 S.2.1 (pc := 93) dX3_readNumber_93 rfl ?_
              refine z_get S (pc := 94) B iX3_readNumber_X3 0 rfl rfl 5 (by decide) rfl rfl (by decide +kernel) dX3_readNumber_94 ?_
              refine z_iconst S (pc := 97) dX3_readNumber_97 ?_
              refine z_iadd S (pc := 98) dX3_readNumber_98 ?_
              refine z_put S (pc := 99) B iX3_readNumber_X3 tyX3_ok nmX3 0 rfl rfl 5 (by decide) rfl (by decide +kernel) (ty := .int) (by decide +kernel) rfl rfl (Nat.le_of_ble_eq_true rfl) dX3_readNumber_99 (wn := [cPad a q1 q2 q3 n st (j + 1) ((v * 10) + ((chr0 χ n j) - 48)), cChr E q1 χ]) rfl (fun H locs B => ?_)
              refine lv_goto S.1 S.2.1 (pc := 102) (tgt := 10) dX3_readNumber_102 rfl ?_
              have hjn := chr0_lt (χ := χ) (n := n) (i := j) (by omega)
              exact ih ((v * 10) + ((chr0 χ n j) - 48)) (j + 1) (by omega) (by omega) (by omega) (by omega) res (by rw [← hres]; simp only [numL]; rw [if_pos ⟨by omega, c1, by omega⟩]) hx _ _ _ B (lv_sub hl [2, 3, 4, 5] rfl)
            · refine z_iconst S (pc := 84) dX3_readNumber_84 ?_
              have hjn := chr0_lt (χ := χ) (n := n) (i := j) (by omega)
              have hres : (v, j) = res := by rw [← hres]; simp only [numL]; rw [if_neg (fun z => by omega)]
              subst hres
              exact hx _ _ _ 85 0 B (Or.inl ⟨rfl, rfl, c1⟩)
        · refine z_aload_n S (pc := 53) dX3_readNumber_53 rfl (lv_at hl 1 rfl) ?_
          refine z_get S (pc := 54) B iX3_readNumber_X3 0 rfl rfl 6 (by decide) rfl rfl (by decide +kernel) dX3_readNumber_54 ?_
          refine z_if_ne S (pc := 57) (tgt := 64) (by omega) dX3_readNumber_57 rfl (fun c9 => ?_) (fun c9 => ?_)
          · refine z_iconst S (pc := 64) dX3_readNumber_64 ?_
            refine lv_istore (lv' := [(5, .int (iI 0)), (4, .int (iI ((v * 10) + ((chr0 χ n j) - 48)))), (0, .ref a), (1, .int (iI le)), (2, .int (iI mo)), (3, .int (iI f))]) S.1 S.2.1 (pc := 65) dX3_readNumber_65 hl (by decide) rfl (fun ls hl => ?_)
            refine z_iload S (pc := 67) dX3_readNumber_67 (lv_at hl 0 rfl) ?_
            refine z_if_ne S (pc := 69) (tgt := 84) (by omega) dX3_readNumber_69 rfl (fun c10 => absurd c10 (by omega)) (fun c10 => ?_)
            refine z_iload S (pc := 72) dX3_readNumber_72 (lv_at hl 1 rfl) ?_
            refine z_iload_n S (pc := 74) dX3_readNumber_74 rfl (lv_at hl 3 rfl) ?_
            refine z_icmp_lt S (pc := 75) (tgt := 84) (by omega) (by omega) dX3_readNumber_75 rfl (fun c11 => ?_) (fun c11 => ?_)
            · refine z_iconst S (pc := 84) dX3_readNumber_84 ?_
              have hjn := chr0_lt (χ := χ) (n := n) (i := j) (by omega)
              have hres : (v, j) = res := by rw [← hres]; simp only [numL]; rw [if_neg (fun z => by omega)]
              subst hres
              exact hx _ _ _ 85 0 B (Or.inl ⟨rfl, rfl, c1⟩)
            · refine z_iload S (pc := 78) dX3_readNumber_78 (lv_at hl 1 rfl) ?_
              refine z_iload_n S (pc := 80) dX3_readNumber_80 rfl (lv_at hl 4 rfl) ?_
              refine z_icmp_le S (pc := 81) (tgt := 86) (by omega) (by omega) dX3_readNumber_81 rfl (fun c12 => ?_) (fun c12 => ?_)
              · refine z_aload_n S (pc := 86) dX3_readNumber_86 rfl (lv_at hl 2 rfl) ?_
                refine z_iload S (pc := 87) dX3_readNumber_87 (lv_at hl 1 rfl) ?_
                refine z_put S (pc := 89) B iX3_readNumber_X3 tyX3_ok nmX3 0 rfl rfl 6 (by decide) rfl (by decide +kernel) (ty := .int) (by decide +kernel) rfl rfl (Nat.le_of_ble_eq_true rfl) dX3_readNumber_89 (wn := [cPad a q1 q2 q3 n st j ((v * 10) + ((chr0 χ n j) - 48)), cChr E q1 χ]) rfl (fun H locs B => ?_)
                refine z_aload_n S (pc := 92) dX3_readNumber_92 rfl (lv_at hl 2 rfl) ?_
                refine lv_dup S.1 S.2.1 (pc := 93) dX3_readNumber_93 rfl ?_
                refine z_get S (pc := 94) B iX3_readNumber_X3 0 rfl rfl 5 (by decide) rfl rfl (by decide +kernel) dX3_readNumber_94 ?_
                refine z_iconst S (pc := 97) dX3_readNumber_97 ?_
                refine z_iadd S (pc := 98) dX3_readNumber_98 ?_
                refine z_put S (pc := 99) B iX3_readNumber_X3 tyX3_ok nmX3 0 rfl rfl 5 (by decide) rfl (by decide +kernel) (ty := .int) (by decide +kernel) rfl rfl (Nat.le_of_ble_eq_true rfl) dX3_readNumber_99 (wn := [cPad a q1 q2 q3 n st (j + 1) ((v * 10) + ((chr0 χ n j) - 48)), cChr E q1 χ]) rfl (fun H locs B => ?_)
                refine lv_goto S.1 S.2.1 (pc := 102) (tgt := 10) dX3_readNumber_102 rfl ?_
                have hjn := chr0_lt (χ := χ) (n := n) (i := j) (by omega)
                exact ih ((v * 10) + ((chr0 χ n j) - 48)) (j + 1) (by omega) (by omega) (by omega) (by omega) res (by rw [← hres]; simp only [numL]; rw [if_pos ⟨by omega, c1, by omega⟩]) hx _ _ _ B (lv_sub hl [2, 3, 4, 5] rfl)
              · refine z_iconst S (pc := 84) dX3_readNumber_84 ?_
                have hjn := chr0_lt (χ := χ) (n := n) (i := j) (by omega)
                have hres : (v, j) = res := by rw [← hres]; simp only [numL]; rw [if_neg (fun z => by omega)]
                subst hres
                exact hx _ _ _ 85 0 B (Or.inl ⟨rfl, rfl, c1⟩)
          · refine z_iconst S (pc := 60) dX3_readNumber_60 ?_
            refine lv_goto S.1 S.2.1 (pc := 61) (tgt := 65) dX3_readNumber_61 rfl ?_
            refine lv_istore (lv' := [(5, .int (iI 1)), (4, .int (iI ((v * 10) + ((chr0 χ n j) - 48)))), (0, .ref a), (1, .int (iI le)), (2, .int (iI mo)), (3, .int (iI f))]) S.1 S.2.1 (pc := 65) dX3_readNumber_65 hl (by decide) rfl (fun ls hl => ?_)
            refine z_iload S (pc := 67) dX3_readNumber_67 (lv_at hl 0 rfl) ?_
            refine z_if_ne S (pc := 69) (tgt := 84) (by omega) dX3_readNumber_69 rfl (fun c13 => ?_) (fun c13 => absurd c13 (by omega))
            refine z_iconst S (pc := 84) dX3_readNumber_84 ?_
            have hjn := chr0_lt (χ := χ) (n := n) (i := j) (by omega)
            have hres : (v, j) = res := by rw [← hres]; simp only [numL]; rw [if_neg (fun z => by omega)]
            subst hres
            exact hx _ _ _ 85 0 B (Or.inl ⟨rfl, rfl, c1⟩)
set_option maxHeartbeats 4000000 in
set_option maxRecDepth 100000 in
theorem mX3_readNumber (l : Launch) (E : gT) (a : Nat) (q1 : Nat) (q2 : Nat) (q3 : Nat) (n : Int) (st : Int) (i : Int) (num : Int) (χ : Nat → Int) (le : Int) (mo : Int) (hn : 0 ≤ n ∧ n ≤ 60) (hi : 0 ≤ i ∧ i ≤ n) (hX : inX χ) (hlm : 0 ≤ le ∧ le ≤ 1 ∧ 9 ≤ mo ∧ mo ≤ 3000000) : Cd l E yX3_readNumber wsX3_readNumber 2 40 0 0 [.ref a, .int (iI le), .int (iI mo)] [cPad a q1 q2 q3 n st i num, cChr E q1 χ] (some (.int (iI ((cnum χ n le mo i).1)))) [cPad a q1 q2 q3 n st ((cnum χ n le mo i).2.2) ((cnum χ n le mo i).2.1), cChr E q1 χ] := by
  refine Ct.mk (cc := cX3_readNumber) (maxL := 6) (ret := (some .boolean)) (plainFor_of_name (by decide)) rfl (Nat.le_of_ble_eq_true rfl) ?_
  intro p e s m below meth c A ls H locs S hr hlk hnm B hl
  have S : CallFix p m c cX3_readNumber 6 s #[.ref a, .int (iI le), .int (iI mo)] wsX3_readNumber RX3 := S
  have hl : lv_has ls 6 [(0, .ref a), (1, .int (iI le)), (2, .int (iI mo))] := hl
  have hc := chr0_bd (i := i) hX hn.2
  refine z_aload_n S (pc := 0) dX3_readNumber_0 rfl (lv_at hl 0 rfl) ?_
  refine z_iconst S (pc := 1) dX3_readNumber_1 ?_
  refine z_put S (pc := 2) B iX3_readNumber_X3 tyX3_ok nmX3 0 rfl rfl 6 (by decide) rfl (by decide +kernel) (ty := .int) (by decide +kernel) rfl rfl (Nat.le_of_ble_eq_true rfl) dX3_readNumber_2 (wn := [cPad a q1 q2 q3 n st i 0, cChr E q1 χ]) rfl (fun H locs B => ?_)
  refine z_aload_n S (pc := 5) dX3_readNumber_5 rfl (lv_at hl 0 rfl) ?_
  refine z_get S (pc := 6) B iX3_readNumber_X3 0 rfl rfl 5 (by decide) rfl rfl (by decide +kernel) dX3_readNumber_6 ?_
  refine lv_istore_n (lv' := [(3, .int (iI i)), (0, .ref a), (1, .int (iI le)), (2, .int (iI mo))]) S.1 S.2.1 (pc := 9) dX3_readNumber_9 rfl hl (by decide) rfl (fun ls hl => ?_)
  refine z_aload_n S (pc := 10) dX3_readNumber_10 rfl (lv_at hl 1 rfl) ?_
  refine z_callV S (pc := 11) B (wr := []) (wn := fun _ => [cPad a q1 q2 q3 n st i 0, cChr E q1 χ]) (st1 := fun _ => [.int (iI (bI (isD (chr0 χ n i))))]) (As := []) (mX3_isDigitHere l E a q1 q2 q3 n st i 0 χ (show 0 ≤ n ∧ n ≤ 60 from by omega) (show 0 ≤ i ∧ i ≤ n from by omega) (show inX χ from by assumption)) gX3_readNumber_X3_isDigitHere 0 rfl (by decide +kernel) ⟨Nat.le_of_ble_eq_true rfl, Nat.le_of_ble_eq_true rfl, Nat.le_of_ble_eq_true rfl, Nat.le_of_ble_eq_true rfl⟩ 0 rfl (q := (RX3, TX3, 7)) rfl rfl [0, 1] [] [0, 1] rfl rfl ⟨rfl, rfl, rfl, by decide⟩ (fun _ => rfl) rfl (fun _ => rfl) hl.1 (Nat.le_of_ble_eq_true rfl) rfl dX3_readNumber_11 (fun _ _ H locs B => ?_)
  refine z_ifeq_b S (pc := 14) (tgt := 105) dX3_readNumber_14 rfl (fun c1 => ?_) (fun c1 => ?_)
  · refine z_aload_n S (pc := 105) dX3_readNumber_105 rfl (lv_at hl 1 rfl) ?_
    refine z_get S (pc := 106) B iX3_readNumber_X3 0 rfl rfl 5 (by decide) rfl rfl (by decide +kernel) dX3_readNumber_106 ?_
    refine z_iload_n S (pc := 109) dX3_readNumber_109 rfl (lv_at hl 0 rfl) ?_
    refine z_icmp_le S (pc := 110) (tgt := 117) (by omega) (by omega) dX3_readNumber_110 rfl (fun c2 => ?_) (fun c2 => ?_)
    · refine z_iconst S (pc := 117) dX3_readNumber_117 ?_
      have hcn : cnum χ n le mo i = (0, 0, i) := by unfold cnum; rw [if_neg (fun z => by omega)]
      exact z_zreturn S (by omega) hr hlk B () trivial (by rw [hcn]) (by rw [hcn]) (pc := 118) dX3_readNumber_118
    · refine z_iconst S (pc := 113) dX3_readNumber_113 ?_
      refine lv_goto S.1 S.2.1 (pc := 114) (tgt := 118) dX3_readNumber_114 rfl ?_
      exact absurd c2 (by omega)
  · refine z_aload_n S (pc := 17) dX3_readNumber_17 rfl (lv_at hl 1 rfl) ?_
    refine z_get S (pc := 18) B iX3_readNumber_X3 0 rfl rfl 5 (by decide) rfl rfl (by decide +kernel) dX3_readNumber_18 ?_
    refine z_aload_n S (pc := 21) dX3_readNumber_21 rfl (lv_at hl 1 rfl) ?_
    refine z_get S (pc := 22) B iX3_readNumber_X3 0 rfl rfl 1 (by decide) rfl rfl (by decide +kernel) dX3_readNumber_22 ?_
    refine z_icmp_ge S (pc := 25) (tgt := 105) (by omega) (by omega) dX3_readNumber_25 rfl (fun c3 => ?_) (fun c3 => ?_)
    · refine z_aload_n S (pc := 105) dX3_readNumber_105 rfl (lv_at hl 1 rfl) ?_
      refine z_get S (pc := 106) B iX3_readNumber_X3 0 rfl rfl 5 (by decide) rfl rfl (by decide +kernel) dX3_readNumber_106 ?_
      refine z_iload_n S (pc := 109) dX3_readNumber_109 rfl (lv_at hl 0 rfl) ?_
      refine z_icmp_le S (pc := 110) (tgt := 117) (by omega) (by omega) dX3_readNumber_110 rfl (fun c4 => ?_) (fun c4 => ?_)
      · refine z_iconst S (pc := 117) dX3_readNumber_117 ?_
        exact absurd (chr0_lt (χ := χ) (n := n) (i := i) (by omega)).2 (by omega)
      · refine z_iconst S (pc := 113) dX3_readNumber_113 ?_
        refine lv_goto S.1 S.2.1 (pc := 114) (tgt := 118) dX3_readNumber_114 rfl ?_
        exact absurd (chr0_lt (χ := χ) (n := n) (i := i) (by omega)).2 (by omega)
    · refine z_aload_n S (pc := 28) dX3_readNumber_28 rfl (lv_at hl 1 rfl) ?_
      refine z_get S (pc := 29) B iX3_readNumber_X3 0 rfl rfl 6 (by decide) rfl rfl (by decide +kernel) dX3_readNumber_29 ?_
      refine z_bipush S (pc := 32) dX3_readNumber_32 rfl ?_
      refine z_imul S (pc := 34) dX3_readNumber_34 ?_
      refine z_aload_n S (pc := 35) dX3_readNumber_35 rfl (lv_at hl 1 rfl) ?_
      refine z_callV S (pc := 36) B (wr := []) (wn := fun _ => [cPad a q1 q2 q3 n st i 0, cChr E q1 χ]) (st1 := fun _ => [.int (iI (chr0 χ n i)), .int (iI (0 * 10))]) (As := []) (mX3_signHere l E a q1 q2 q3 n st i 0 χ (show 0 ≤ n ∧ n ≤ 60 from by omega) (show 0 ≤ i ∧ i ≤ n from by omega) (show inX χ from by assumption)) gX3_readNumber_X3_signHere 0 rfl (by decide +kernel) ⟨Nat.le_of_ble_eq_true rfl, Nat.le_of_ble_eq_true rfl, Nat.le_of_ble_eq_true rfl, Nat.le_of_ble_eq_true rfl⟩ 0 rfl (q := (RX3, TX3, 7)) rfl rfl [0, 1] [] [0, 1] rfl rfl ⟨rfl, rfl, rfl, by decide⟩ (fun _ => rfl) rfl (fun _ => rfl) hl.1 (Nat.le_of_ble_eq_true rfl) rfl dX3_readNumber_36 (fun _ _ H locs B => ?_)
      refine z_bipush S (pc := 39) dX3_readNumber_39 rfl ?_
      refine z_isub S (pc := 41) dX3_readNumber_41 ?_
      refine z_iadd S (pc := 42) dX3_readNumber_42 ?_
      refine lv_istore (lv' := [(4, .int (iI ((0 * 10) + ((chr0 χ n i) - 48)))), (3, .int (iI i)), (0, .ref a), (1, .int (iI le)), (2, .int (iI mo))]) S.1 S.2.1 (pc := 43) dX3_readNumber_43 hl (by decide) rfl (fun ls hl => ?_)
      refine z_aload_n S (pc := 45) dX3_readNumber_45 rfl (lv_at hl 2 rfl) ?_
      refine z_get S (pc := 46) B iX3_readNumber_X3 0 rfl rfl 5 (by decide) rfl rfl (by decide +kernel) dX3_readNumber_46 ?_
      refine z_iload_n S (pc := 49) dX3_readNumber_49 rfl (lv_at hl 1 rfl) ?_
      refine z_icmp_le S (pc := 50) (tgt := 64) (by omega) (by omega) dX3_readNumber_50 rfl (fun c5 => ?_) (fun c5 => ?_)
      · refine z_iconst S (pc := 64) dX3_readNumber_64 ?_
        refine lv_istore (lv' := [(5, .int (iI 0)), (4, .int (iI ((0 * 10) + ((chr0 χ n i) - 48)))), (3, .int (iI i)), (0, .ref a), (1, .int (iI le)), (2, .int (iI mo))]) S.1 S.2.1 (pc := 65) dX3_readNumber_65 hl (by decide) rfl (fun ls hl => ?_)
        refine z_iload S (pc := 67) dX3_readNumber_67 (lv_at hl 0 rfl) ?_
        refine z_if_ne S (pc := 69) (tgt := 84) (by omega) dX3_readNumber_69 rfl (fun c6 => absurd c6 (by omega)) (fun c6 => ?_)
        refine z_iload S (pc := 72) dX3_readNumber_72 (lv_at hl 1 rfl) ?_
        refine z_iload_n S (pc := 74) dX3_readNumber_74 rfl (lv_at hl 4 rfl) ?_
        refine z_icmp_lt S (pc := 75) (tgt := 84) (by omega) (by omega) dX3_readNumber_75 rfl (fun c7 => ?_) (fun c7 => ?_)
        · refine z_iconst S (pc := 84) dX3_readNumber_84 ?_
          have hcn : cnum χ n le mo i = (0, 0, i) := by unfold cnum; rw [if_neg (fun z => by omega)]
          exact z_zreturn S (by omega) hr hlk B () trivial (by rw [hcn]) (by rw [hcn]) (pc := 85) dX3_readNumber_85
        · refine z_iload S (pc := 78) dX3_readNumber_78 (lv_at hl 1 rfl) ?_
          refine z_iload_n S (pc := 80) dX3_readNumber_80 rfl (lv_at hl 5 rfl) ?_
          refine z_icmp_le S (pc := 81) (tgt := 86) (by omega) (by omega) dX3_readNumber_81 rfl (fun c8 => ?_) (fun c8 => ?_)
          · refine z_aload_n S (pc := 86) dX3_readNumber_86 rfl (lv_at hl 3 rfl) ?_
            refine z_iload S (pc := 87) dX3_readNumber_87 (lv_at hl 1 rfl) ?_
            refine z_put S (pc := 89) B iX3_readNumber_X3 tyX3_ok nmX3 0 rfl rfl 6 (by decide) rfl (by decide +kernel) (ty := .int) (by decide +kernel) rfl rfl (Nat.le_of_ble_eq_true rfl) dX3_readNumber_89 (wn := [cPad a q1 q2 q3 n st i ((0 * 10) + ((chr0 χ n i) - 48)), cChr E q1 χ]) rfl (fun H locs B => ?_)
            refine z_aload_n S (pc := 92) dX3_readNumber_92 rfl (lv_at hl 3 rfl) ?_
            refine lv_dup S.1 S.2.1 (pc := 93) dX3_readNumber_93 rfl ?_
            refine z_get S (pc := 94) B iX3_readNumber_X3 0 rfl rfl 5 (by decide) rfl rfl (by decide +kernel) dX3_readNumber_94 ?_
            refine z_iconst S (pc := 97) dX3_readNumber_97 ?_
            refine z_iadd S (pc := 98) dX3_readNumber_98 ?_
            refine z_put S (pc := 99) B iX3_readNumber_X3 tyX3_ok nmX3 0 rfl rfl 5 (by decide) rfl (by decide +kernel) (ty := .int) (by decide +kernel) rfl rfl (Nat.le_of_ble_eq_true rfl) dX3_readNumber_99 (wn := [cPad a q1 q2 q3 n st (i + 1) ((0 * 10) + ((chr0 χ n i) - 48)), cChr E q1 χ]) rfl (fun H locs B => ?_)
            refine lv_goto S.1 S.2.1 (pc := 102) (tgt := 10) dX3_readNumber_102 rfl ?_
            have hin := chr0_lt (χ := χ) (n := n) (i := i) (by omega)
            obtain ⟨r, hr1⟩ : ∃ r, numR χ n mo i = r := ⟨_, rfl⟩
            have hcn : cnum χ n le mo i = (bI (¬ isD (chr0 χ n r.2)), r.1, r.2) := by unfold cnum; rw [if_pos (by omega), hr1]
            have e0 : (0 * 10) + ((chr0 χ n i) - 48) = chr0 χ n i - 48 := by omega
            refine lpX3_readNumber E S a q1 q2 q3 n st χ le mo i hn hX hlm (by omega) 60 ((0 * 10) + ((chr0 χ n i) - 48)) (i + 1) (by omega) (by omega) (by omega) (by omega) r (by rw [e0]; exact hr1) (fun H locs ls pc b B hb => ?_) _ _ _ B (lv_sub hl [3, 4, 5, 2] rfl)
            rcases hb with ⟨rfl, rfl, hb⟩ | ⟨rfl, rfl, hb⟩
            · exact z_zreturn S (Or.inl rfl) hr hlk B () trivial (by rw [hcn, bI_f (fun z => z hb)]) (by rw [hcn]) (pc := 85) dX3_readNumber_85
            · exact z_zreturn S (Or.inr rfl) hr hlk B () trivial (by rw [hcn, bI_t hb]) (by rw [hcn]) (pc := 118) dX3_readNumber_118
          · refine z_iconst S (pc := 84) dX3_readNumber_84 ?_
            have hcn : cnum χ n le mo i = (0, 0, i) := by unfold cnum; rw [if_neg (fun z => by omega)]
            exact z_zreturn S (by omega) hr hlk B () trivial (by rw [hcn]) (by rw [hcn]) (pc := 85) dX3_readNumber_85
      · refine z_aload_n S (pc := 53) dX3_readNumber_53 rfl (lv_at hl 2 rfl) ?_
        refine z_get S (pc := 54) B iX3_readNumber_X3 0 rfl rfl 6 (by decide) rfl rfl (by decide +kernel) dX3_readNumber_54 ?_
        refine z_if_ne S (pc := 57) (tgt := 64) (by omega) dX3_readNumber_57 rfl (fun c9 => absurd c9 (by omega)) (fun c9 => ?_)
        refine z_iconst S (pc := 60) dX3_readNumber_60 ?_
        refine lv_goto S.1 S.2.1 (pc := 61) (tgt := 65) dX3_readNumber_61 rfl ?_
        refine lv_istore (lv' := [(5, .int (iI 1)), (4, .int (iI ((0 * 10) + ((chr0 χ n i) - 48)))), (3, .int (iI i)), (0, .ref a), (1, .int (iI le)), (2, .int (iI mo))]) S.1 S.2.1 (pc := 65) dX3_readNumber_65 hl (by decide) rfl (fun ls hl => ?_)
        refine z_iload S (pc := 67) dX3_readNumber_67 (lv_at hl 0 rfl) ?_
        refine z_if_ne S (pc := 69) (tgt := 84) (by omega) dX3_readNumber_69 rfl (fun c10 => ?_) (fun c10 => absurd c10 (by omega))
        refine z_iconst S (pc := 84) dX3_readNumber_84 ?_
        have hcn : cnum χ n le mo i = (0, 0, i) := by unfold cnum; rw [if_neg (fun z => by omega)]
        exact z_zreturn S (by omega) hr hlk B () trivial (by rw [hcn]) (by rw [hcn]) (pc := 85) dX3_readNumber_85
theorem iX3_readRange_X3 : ∀ w ∈ wsX30, w ∈ wsX3_readRange := by decide +kernel
set_option maxHeartbeats 4000000 in
set_option maxRecDepth 100000 in
theorem mX3_readRange (l : Launch) (E : gT) (a : Nat) (q1 : Nat) (q2 : Nat) (q3 : Nat) (n : Int) (st : Int) (i : Int) (num : Int) (χ : Nat → Int) (hn : 0 ≤ n ∧ n ≤ 60) (hi : 0 ≤ i ∧ i ≤ n) (hX : inX χ) : Cd l E yX3_readRange wsX3_readRange 1 20 0 0 [.ref a] [cPad a q1 q2 q3 n st i num, cChr E q1 χ] (some (.int (iI (bI (0 ≤ chr0 χ n i - 48 ∧ chr0 χ n i - 48 < 4))))) [cPad a q1 q2 q3 n st (if chr0 χ n i - 48 < 0 ∨ 4 ≤ chr0 χ n i - 48 then i else i + 1) (chr0 χ n i - 48), cChr E q1 χ] := by
  refine Ct.mk (cc := cX3_readRange) (maxL := 1) (ret := (some .boolean)) (plainFor_of_name (by decide)) rfl (Nat.le_of_ble_eq_true rfl) ?_
  intro p e s m below meth c A ls H locs S hr hlk hnm B hl
  have S : CallFix p m c cX3_readRange 1 s #[.ref a] wsX3_readRange RX3 := S
  have hl : lv_has ls 1 [(0, .ref a)] := hl
  have hc := chr0_bd (i := i) hX hn.2
  refine z_aload_n S (pc := 0) dX3_readRange_0 rfl (lv_at hl 0 rfl) ?_
  refine z_aload_n S (pc := 1) dX3_readRange_1 rfl (lv_at hl 0 rfl) ?_
  refine z_callV S (pc := 2) B (wr := []) (wn := fun _ => [cPad a q1 q2 q3 n st i num, cChr E q1 χ]) (st1 := fun _ => [.int (iI (chr0 χ n i)), .ref a]) (As := []) (mX3_signHere l E a q1 q2 q3 n st i num χ (show 0 ≤ n ∧ n ≤ 60 from by omega) (show 0 ≤ i ∧ i ≤ n from by omega) (show inX χ from by assumption)) gX3_readRange_X3_signHere 0 rfl (by decide +kernel) ⟨Nat.le_of_ble_eq_true rfl, Nat.le_of_ble_eq_true rfl, Nat.le_of_ble_eq_true rfl, Nat.le_of_ble_eq_true rfl⟩ 0 rfl (q := (RX3, TX3, 7)) rfl rfl [0, 1] [] [0, 1] rfl rfl ⟨rfl, rfl, rfl, by decide⟩ (fun _ => rfl) rfl (fun _ => rfl) hl.1 (Nat.le_of_ble_eq_true rfl) rfl dX3_readRange_2 (fun _ _ H locs B => ?_)
  refine z_bipush S (pc := 5) dX3_readRange_5 rfl ?_
  refine z_isub S (pc := 7) dX3_readRange_7 ?_
  refine z_put S (pc := 8) B iX3_readRange_X3 tyX3_ok nmX3 0 rfl rfl 6 (by decide) rfl (by decide +kernel) (ty := .int) (by decide +kernel) rfl rfl (Nat.le_of_ble_eq_true rfl) dX3_readRange_8 (wn := [cPad a q1 q2 q3 n st i ((chr0 χ n i) - 48), cChr E q1 χ]) rfl (fun H locs B => ?_)
  refine z_aload_n S (pc := 11) dX3_readRange_11 rfl (lv_at hl 0 rfl) ?_
  refine z_get S (pc := 12) B iX3_readRange_X3 0 rfl rfl 6 (by decide) rfl rfl (by decide +kernel) dX3_readRange_12 ?_
  refine z_if_lt S (pc := 15) (tgt := 29) (by omega) dX3_readRange_15 rfl (fun c1 => ?_) (fun c1 => ?_)
  · refine z_iconst S (pc := 29) dX3_readRange_29 ?_
    exact z_zreturn S (by omega) hr hlk B () trivial (by rw [bI_f (by omega)]) (by rw [if_pos (by omega)]) (pc := 30) dX3_readRange_30
  · refine z_aload_n S (pc := 18) dX3_readRange_18 rfl (lv_at hl 0 rfl) ?_
    refine z_get S (pc := 19) B iX3_readRange_X3 0 rfl rfl 6 (by decide) rfl rfl (by decide +kernel) dX3_readRange_19 ?_
    refine z_gsNRX3 S (pc := 22) B rfl dX3_readRange_22 ?_
    refine z_tn0 S (pc := 25) B dX3_readRange_25 ?_
    refine z_icmp_lt S (pc := 26) (tgt := 31) (by omega) (by omega) dX3_readRange_26 rfl (fun c2 => ?_) (fun c2 => ?_)
    · refine z_aload_n S (pc := 31) dX3_readRange_31 rfl (lv_at hl 0 rfl) ?_
      refine lv_dup S.1 S.2.1 (pc := 32) dX3_readRange_32 rfl ?_
      refine z_get S (pc := 33) B iX3_readRange_X3 0 rfl rfl 5 (by decide) rfl rfl (by decide +kernel) dX3_readRange_33 ?_
      refine z_iconst S (pc := 36) dX3_readRange_36 ?_
      refine z_iadd S (pc := 37) dX3_readRange_37 ?_
      refine z_put S (pc := 38) B iX3_readRange_X3 tyX3_ok nmX3 0 rfl rfl 5 (by decide) rfl (by decide +kernel) (ty := .int) (by decide +kernel) rfl rfl (Nat.le_of_ble_eq_true rfl) dX3_readRange_38 (wn := [cPad a q1 q2 q3 n st (i + 1) ((chr0 χ n i) - 48), cChr E q1 χ]) rfl (fun H locs B => ?_)
      refine z_iconst S (pc := 41) dX3_readRange_41 ?_
      exact z_zreturn S (by omega) hr hlk B () trivial (by rw [bI_t (by omega)]) (by rw [if_neg (by omega)]) (pc := 42) dX3_readRange_42
    · refine z_iconst S (pc := 29) dX3_readRange_29 ?_
      exact z_zreturn S (by omega) hr hlk B () trivial (by rw [bI_f (by omega)]) (by rw [if_pos (by omega)]) (pc := 30) dX3_readRange_30
def clev (χ : Nat → Int) (n i : Int) : Int × Int × Int := if chr0 χ n i = 45 then ((cnum χ n 0 3000000 (i + 1)).1, -(cnum χ n 0 3000000 (i + 1)).2.1, (cnum χ n 0 3000000 (i + 1)).2.2) else cnum χ n 0 3000000 i
theorem cnum_01 (χ : Nat → Int) (n le mo i : Int) : (cnum χ n le mo i).1 = 0 ∨ (cnum χ n le mo i).1 = 1 := by
  unfold cnum
  split
  · exact bI_01 _
  · exact Or.inl rfl
theorem cnum_bd {χ : Nat → Int} {n le mo i : Int} (hX : inX χ) (hn : 0 ≤ n ∧ n ≤ 60) (hi : 0 ≤ i ∧ i ≤ n) (hm : 9 ≤ mo ∧ mo ≤ 3000000) (hle : 0 ≤ le) : (0 ≤ (cnum χ n le mo i).2.1 ∧ (cnum χ n le mo i).2.1 ≤ mo) ∧ i ≤ (cnum χ n le mo i).2.2 ∧ (cnum χ n le mo i).2.2 ≤ n := by
  unfold cnum
  split
  · rename_i h
    have hin := chr0_lt (χ := χ) (n := n) (i := i) (by omega)
    have b := numL_bd (χ := χ) (n := n) (most := mo) (by omega) 60 (chr0 χ n i - 48) (i + 1) (by omega) (by omega)
    unfold numR
    exact ⟨⟨b.1, by show (numL χ n mo 60 (chr0 χ n i - 48) (i + 1)).1 ≤ mo; omega⟩, by show i ≤ (numL χ n mo 60 (chr0 χ n i - 48) (i + 1)).2; omega, b.2.2.2 (by omega)⟩
  · exact ⟨⟨Int.le_refl 0, by show (0 : Int) ≤ mo; omega⟩, Int.le_refl i, hi.2⟩
theorem clev_01 (χ : Nat → Int) (n i : Int) : (clev χ n i).1 = 0 ∨ (clev χ n i).1 = 1 := by
  unfold clev
  split
  · exact cnum_01 _ _ _ _ _
  · exact cnum_01 _ _ _ _ _
theorem clev_bd {χ : Nat → Int} {n i : Int} (hX : inX χ) (hn : 0 ≤ n ∧ n ≤ 60) (hi : 0 ≤ i ∧ i ≤ n) : (-3000000 ≤ (clev χ n i).2.1 ∧ (clev χ n i).2.1 ≤ 3000000) ∧ i ≤ (clev χ n i).2.2 ∧ (clev χ n i).2.2 ≤ n := by
  unfold clev
  split
  · rename_i h
    have hin := chr0_lt (χ := χ) (n := n) (i := i) (by omega)
    have b := cnum_bd (le := 0) (mo := 3000000) (i := i + 1) hX hn (by omega) (by omega) (by omega)
    exact ⟨⟨by show -3000000 ≤ -(cnum χ n 0 3000000 (i + 1)).2.1; omega, by show -(cnum χ n 0 3000000 (i + 1)).2.1 ≤ 3000000; omega⟩, by show i ≤ (cnum χ n 0 3000000 (i + 1)).2.2; omega, b.2.2⟩
  · have b := cnum_bd (le := 0) (mo := 3000000) (i := i) hX hn hi (by omega) (by omega)
    exact ⟨⟨by omega, by omega⟩, b.2.1, b.2.2⟩
theorem iX3_readLevel_X3 : ∀ w ∈ wsX30, w ∈ wsX3_readLevel := by decide +kernel
set_option maxHeartbeats 4000000 in
set_option maxRecDepth 100000 in
theorem mX3_readLevel (l : Launch) (E : gT) (a : Nat) (q1 : Nat) (q2 : Nat) (q3 : Nat) (n : Int) (st : Int) (i : Int) (num : Int) (χ : Nat → Int) (hn : 0 ≤ n ∧ n ≤ 60) (hi : 0 ≤ i ∧ i ≤ n) (hX : inX χ) : Cd l E yX3_readLevel wsX3_readLevel 3 65 0 0 [.ref a] [cPad a q1 q2 q3 n st i num, cChr E q1 χ] (some (.int (iI ((clev χ n i).1)))) [cPad a q1 q2 q3 n st ((clev χ n i).2.2) ((clev χ n i).2.1), cChr E q1 χ] := by
  refine Ct.mk (cc := cX3_readLevel) (maxL := 3) (ret := (some .boolean)) (plainFor_of_name (by decide)) rfl (Nat.le_of_ble_eq_true rfl) ?_
  intro p e s m below meth c A ls H locs S hr hlk hnm B hl
  have S : CallFix p m c cX3_readLevel 3 s #[.ref a] wsX3_readLevel RX3 := S
  have hl : lv_has ls 3 [(0, .ref a)] := hl
  have hc := chr0_bd (i := i) hX hn.2
  have hin : chr0 χ n i = 45 → 0 ≤ i ∧ i < n := fun z => chr0_lt (χ := χ) (n := n) (i := i) (by omega)
  refine z_aload_n S (pc := 0) dX3_readLevel_0 rfl (lv_at hl 0 rfl) ?_
  refine z_callV S (pc := 1) B (wr := []) (wn := fun _ => [cPad a q1 q2 q3 n st i num, cChr E q1 χ]) (st1 := fun _ => [.int (iI (chr0 χ n i))]) (As := []) (mX3_signHere l E a q1 q2 q3 n st i num χ (show 0 ≤ n ∧ n ≤ 60 from by omega) (show 0 ≤ i ∧ i ≤ n from by omega) (show inX χ from by assumption)) gX3_readLevel_X3_signHere 0 rfl (by decide +kernel) ⟨Nat.le_of_ble_eq_true rfl, Nat.le_of_ble_eq_true rfl, Nat.le_of_ble_eq_true rfl, Nat.le_of_ble_eq_true rfl⟩ 0 rfl (q := (RX3, TX3, 7)) rfl rfl [0, 1] [] [0, 1] rfl rfl ⟨rfl, rfl, rfl, by decide⟩ (fun _ => rfl) rfl (fun _ => rfl) hl.1 (Nat.le_of_ble_eq_true rfl) rfl dX3_readLevel_1 (fun _ _ H locs B => ?_)
  refine z_bipush S (pc := 4) dX3_readLevel_4 rfl ?_
  refine z_icmp_ne S (pc := 6) (tgt := 13) (by omega) (by omega) dX3_readLevel_6 rfl (fun c1 => ?_) (fun c1 => ?_)
  · refine z_iconst S (pc := 13) dX3_readLevel_13 ?_
    refine lv_istore_n (lv' := [(1, .int (iI 0)), (0, .ref a)]) S.1 S.2.1 (pc := 14) dX3_readLevel_14 rfl hl (by decide) rfl (fun ls hl => ?_)
    refine z_iload_n S (pc := 15) dX3_readLevel_15 rfl (lv_at hl 0 rfl) ?_
    refine z_if_eq S (pc := 16) (tgt := 29) (by omega) dX3_readLevel_16 rfl (fun c2 => ?_) (fun c2 => absurd c2 (by omega))
    refine z_aload_n S (pc := 29) dX3_readLevel_29 rfl (lv_at hl 1 rfl) ?_
    refine z_iconst S (pc := 30) dX3_readLevel_30 ?_
    refine z_ldc S (pc := 31) (x := 3000000) (by decide +kernel) rfl dX3_readLevel_31 ?_
    refine z_callV S (pc := 33) B (wr := []) (wn := fun _ => [cPad a q1 q2 q3 n st ((cnum χ n 0 3000000 i).2.2) ((cnum χ n 0 3000000 i).2.1), cChr E q1 χ]) (st1 := fun _ => [.int (iI ((cnum χ n 0 3000000 i).1))]) (As := [.int (iI 0), .int (iI 3000000)]) (mX3_readNumber l E a q1 q2 q3 n st i num χ 0 3000000 (show 0 ≤ n ∧ n ≤ 60 from by omega) (show 0 ≤ i ∧ i ≤ n from by omega) (show inX χ from by assumption) (show 0 ≤ 0 ∧ 0 ≤ 1 ∧ 9 ≤ 3000000 ∧ 3000000 ≤ 3000000 from by omega)) gX3_readLevel_X3_readNumber 2 rfl (by decide +kernel) ⟨Nat.le_of_ble_eq_true rfl, Nat.le_of_ble_eq_true rfl, Nat.le_of_ble_eq_true rfl, Nat.le_of_ble_eq_true rfl⟩ 0 rfl (q := (RX3, TX3, 7)) rfl rfl [0, 1] [] [0, 1] rfl rfl ⟨rfl, rfl, rfl, by decide⟩ (fun _ => rfl) rfl (fun _ => rfl) hl.1 (Nat.le_of_ble_eq_true rfl) rfl dX3_readLevel_33 (fun _ _ H locs B => ?_)
    refine lv_istore_n (lv' := [(2, .int (iI ((cnum χ n 0 3000000 i).1))), (1, .int (iI 0)), (0, .ref a)]) S.1 S.2.1 (pc := 36) dX3_readLevel_36 rfl hl (by decide) rfl (fun ls hl => ?_)
    refine z_iload_n S (pc := 37) dX3_readLevel_37 rfl (lv_at hl 1 rfl) ?_
    refine z_if_eq S (pc := 38) (tgt := 50) (by omega) dX3_readLevel_38 rfl (fun c3 => ?_) (fun c3 => absurd c3 (by omega))
    refine z_iload_n S (pc := 50) dX3_readLevel_50 rfl (lv_at hl 0 rfl) ?_
    have hlv : clev χ n i = cnum χ n 0 3000000 i := by unfold clev; rw [if_neg (by omega)]
    exact z_zreturn S (cnum_01 _ _ _ _ _) hr hlk B () trivial (by rw [hlv]) (by rw [hlv]) (pc := 51) dX3_readLevel_51
  · refine z_iconst S (pc := 9) dX3_readLevel_9 ?_
    refine lv_goto S.1 S.2.1 (pc := 10) (tgt := 14) dX3_readLevel_10 rfl ?_
    refine lv_istore_n (lv' := [(1, .int (iI 1)), (0, .ref a)]) S.1 S.2.1 (pc := 14) dX3_readLevel_14 rfl hl (by decide) rfl (fun ls hl => ?_)
    refine z_iload_n S (pc := 15) dX3_readLevel_15 rfl (lv_at hl 0 rfl) ?_
    refine z_if_eq S (pc := 16) (tgt := 29) (by omega) dX3_readLevel_16 rfl (fun c4 => absurd c4 (by omega)) (fun c4 => ?_)
    refine z_aload_n S (pc := 19) dX3_readLevel_19 rfl (lv_at hl 1 rfl) ?_
    refine lv_dup S.1 S.2.1 (pc := 20) dX3_readLevel_20 rfl ?_
    refine z_get S (pc := 21) B iX3_readLevel_X3 0 rfl rfl 5 (by decide) rfl rfl (by decide +kernel) dX3_readLevel_21 ?_
    refine z_iconst S (pc := 24) dX3_readLevel_24 ?_
    refine z_iadd S (pc := 25) dX3_readLevel_25 ?_
    refine z_put S (pc := 26) B iX3_readLevel_X3 tyX3_ok nmX3 0 rfl rfl 5 (by decide) rfl (by decide +kernel) (ty := .int) (by decide +kernel) rfl rfl (Nat.le_of_ble_eq_true rfl) dX3_readLevel_26 (wn := [cPad a q1 q2 q3 n st (i + 1) num, cChr E q1 χ]) rfl (fun H locs B => ?_)
    refine z_aload_n S (pc := 29) dX3_readLevel_29 rfl (lv_at hl 1 rfl) ?_
    refine z_iconst S (pc := 30) dX3_readLevel_30 ?_
    refine z_ldc S (pc := 31) (x := 3000000) (by decide +kernel) rfl dX3_readLevel_31 ?_
    refine z_callV S (pc := 33) B (wr := []) (wn := fun _ => [cPad a q1 q2 q3 n st ((cnum χ n 0 3000000 (i + 1)).2.2) ((cnum χ n 0 3000000 (i + 1)).2.1), cChr E q1 χ]) (st1 := fun _ => [.int (iI ((cnum χ n 0 3000000 (i + 1)).1))]) (As := [.int (iI 0), .int (iI 3000000)]) (mX3_readNumber l E a q1 q2 q3 n st (i + 1) num χ 0 3000000 (show 0 ≤ n ∧ n ≤ 60 from by omega) (show 0 ≤ (i + 1) ∧ (i + 1) ≤ n from by omega) (show inX χ from by assumption) (show 0 ≤ 0 ∧ 0 ≤ 1 ∧ 9 ≤ 3000000 ∧ 3000000 ≤ 3000000 from by omega)) gX3_readLevel_X3_readNumber 2 rfl (by decide +kernel) ⟨Nat.le_of_ble_eq_true rfl, Nat.le_of_ble_eq_true rfl, Nat.le_of_ble_eq_true rfl, Nat.le_of_ble_eq_true rfl⟩ 0 rfl (q := (RX3, TX3, 7)) rfl rfl [0, 1] [] [0, 1] rfl rfl ⟨rfl, rfl, rfl, by decide⟩ (fun _ => rfl) rfl (fun _ => rfl) hl.1 (Nat.le_of_ble_eq_true rfl) rfl dX3_readLevel_33 (fun _ _ H locs B => ?_)
    refine lv_istore_n (lv' := [(2, .int (iI ((cnum χ n 0 3000000 (i + 1)).1))), (1, .int (iI 1)), (0, .ref a)]) S.1 S.2.1 (pc := 36) dX3_readLevel_36 rfl hl (by decide) rfl (fun ls hl => ?_)
    refine z_iload_n S (pc := 37) dX3_readLevel_37 rfl (lv_at hl 1 rfl) ?_
    refine z_if_eq S (pc := 38) (tgt := 50) (by omega) dX3_readLevel_38 rfl (fun c5 => absurd c5 (by omega)) (fun c5 => ?_)
    refine z_aload_n S (pc := 41) dX3_readLevel_41 rfl (lv_at hl 2 rfl) ?_
    refine z_aload_n S (pc := 42) dX3_readLevel_42 rfl (lv_at hl 2 rfl) ?_
    refine z_get S (pc := 43) B iX3_readLevel_X3 0 rfl rfl 6 (by decide) rfl rfl (by decide +kernel) dX3_readLevel_43 ?_
    refine z_ineg S (pc := 46) dX3_readLevel_46 ?_
    refine z_put S (pc := 47) B iX3_readLevel_X3 tyX3_ok nmX3 0 rfl rfl 6 (by decide) rfl (by decide +kernel) (ty := .int) (by decide +kernel) rfl rfl (Nat.le_of_ble_eq_true rfl) dX3_readLevel_47 (wn := [cPad a q1 q2 q3 n st ((cnum χ n 0 3000000 (i + 1)).2.2) (-((cnum χ n 0 3000000 (i + 1)).2.1)), cChr E q1 χ]) rfl (fun H locs B => ?_)
    refine z_iload_n S (pc := 50) dX3_readLevel_50 rfl (lv_at hl 0 rfl) ?_
    have hlv : clev χ n i = ((cnum χ n 0 3000000 (i + 1)).1, -(cnum χ n 0 3000000 (i + 1)).2.1, (cnum χ n 0 3000000 (i + 1)).2.2) := by unfold clev; rw [if_pos (by omega)]
    exact z_zreturn S (cnum_01 _ _ _ _ _) hr hlk B () trivial (by rw [hlv]) (by rw [hlv]) (pc := 51) dX3_readLevel_51
def crng (χ : Nat → Int) (n i : Int) : Int × Int × Int := (bI (0 ≤ chr0 χ n i - 48 ∧ chr0 χ n i - 48 < 4), chr0 χ n i - 48, if chr0 χ n i - 48 < 0 ∨ 4 ≤ chr0 χ n i - 48 then i else i + 1)
def carg (χ : Nat → Int) (n kd i : Int) : Int × Int × Int := if kd = 119 then cnum χ n 1 9999 i else if kd = 108 then clev χ n i else if kd = 103 then crng χ n i else if kd = 122 then (1, 1, i) else if isD (chr0 χ n i) then cnum χ n 1 99 i else (1, 1, i)
abbrev isK (x : Int) : Prop := x = 114 ∨ x = 122 ∨ x = 119 ∨ x = 108 ∨ x = 103
theorem crng_01 (χ : Nat → Int) (n i : Int) : (crng χ n i).1 = 0 ∨ (crng χ n i).1 = 1 := bI_01 _
theorem crng_bd {χ : Nat → Int} {n i : Int} (hX : inX χ) (hn : 0 ≤ n ∧ n ≤ 60) (hi : 0 ≤ i ∧ i ≤ n) : (-48 ≤ (crng χ n i).2.1 ∧ (crng χ n i).2.1 ≤ 100) ∧ i ≤ (crng χ n i).2.2 ∧ (crng χ n i).2.2 ≤ n := by
  have hc := chr0_bd (i := i) hX hn.2
  unfold crng
  refine ⟨⟨by show -48 ≤ chr0 χ n i - 48; omega, by show chr0 χ n i - 48 ≤ 100; omega⟩, ?_⟩
  show i ≤ (if chr0 χ n i - 48 < 0 ∨ 4 ≤ chr0 χ n i - 48 then i else i + 1) ∧ (if chr0 χ n i - 48 < 0 ∨ 4 ≤ chr0 χ n i - 48 then i else i + 1) ≤ n
  split
  · omega
  · have hin := chr0_lt (χ := χ) (n := n) (i := i) (by omega)
    omega
theorem carg_01 (χ : Nat → Int) (n kd i : Int) : (carg χ n kd i).1 = 0 ∨ (carg χ n kd i).1 = 1 := by
  unfold carg
  split
  · exact cnum_01 _ _ _ _ _
  · split
    · exact clev_01 _ _ _
    · split
      · exact crng_01 _ _ _
      · split
        · exact Or.inr rfl
        · split
          · exact cnum_01 _ _ _ _ _
          · exact Or.inr rfl
theorem carg_bd {χ : Nat → Int} {n kd i : Int} (hX : inX χ) (hn : 0 ≤ n ∧ n ≤ 60) (hi : 0 ≤ i ∧ i ≤ n) : (-3000000 ≤ (carg χ n kd i).2.1 ∧ (carg χ n kd i).2.1 ≤ 3000000) ∧ i ≤ (carg χ n kd i).2.2 ∧ (carg χ n kd i).2.2 ≤ n := by
  unfold carg
  split
  · have b := cnum_bd (le := 1) (mo := 9999) hX hn hi (by omega) (by omega)
    omega
  · split
    · exact clev_bd hX hn hi
    · split
      · have b := crng_bd hX hn hi
        omega
      · split
        · exact ⟨⟨by show (-3000000 : Int) ≤ 1; omega, by show (1 : Int) ≤ 3000000; omega⟩, Int.le_refl i, hi.2⟩
        · split
          · have b := cnum_bd (le := 1) (mo := 99) hX hn hi (by omega) (by omega)
            omega
          · exact ⟨⟨by show (-3000000 : Int) ≤ 1; omega, by show (1 : Int) ≤ 3000000; omega⟩, Int.le_refl i, hi.2⟩
abbrev cTup : Type := Int × Int × Int × Int × (Nat → Int) × (Nat → Int)
/-- a step: whether, the number, the place, how many steps, their kinds and numbers -/
def cstp (χ : Nat → Int) (n i num st : Int) (κ ν : Nat → Int) : cTup :=
  if isK (chr0 χ n i) then (if (carg χ n (chr0 χ n i) (i + 1)).1 = 0 then (0, (carg χ n (chr0 χ n i) (i + 1)).2.1, (carg χ n (chr0 χ n i) (i + 1)).2.2, st, κ, ν) else (1, (carg χ n (chr0 χ n i) (i + 1)).2.1, (carg χ n (chr0 χ n i) (i + 1)).2.2, st + 1, up κ st.toNat (chr0 χ n i), up ν st.toNat (carg χ n (chr0 χ n i) (i + 1)).2.1)) else (0, num, i, st, κ, ν)
def cfl (χ : Nat → Int) (n : Int) : Nat → Int → Int → Int → (Nat → Int) → (Nat → Int) → cTup
  | 0, i, num, st, κ, ν => (i, num, i, st, κ, ν)
  | k + 1, i, num, st, κ, ν => if (cstp χ n i num st κ ν).1 = 0 then ((cstp χ n i num st κ ν).2.2.1, (cstp χ n i num st κ ν).2) else if n ≤ (cstp χ n i num st κ ν).2.2.1 then (-6, (cstp χ n i num st κ ν).2) else if chr0 χ n (cstp χ n i num st κ ν).2.2.1 ≠ 44 then ((cstp χ n i num st κ ν).2.2.1, (cstp χ n i num st κ ν).2) else cfl χ n k ((cstp χ n i num st κ ν).2.2.1 + 1) (cstp χ n i num st κ ν).2.1 (cstp χ n i num st κ ν).2.2.2.1 (cstp χ n i num st κ ν).2.2.2.2.1 (cstp χ n i num st κ ν).2.2.2.2.2
theorem cstp_bd {χ : Nat → Int} {n i num st : Int} {κ ν : Nat → Int} (hX : inX χ) (hn : 0 ≤ n ∧ n ≤ 60) (hi : 0 ≤ i ∧ i ≤ n) : ((cstp χ n i num st κ ν).1 = 0 ∨ ((cstp χ n i num st κ ν).1 = 1 ∧ i < (cstp χ n i num st κ ν).2.2.1 ∧ (cstp χ n i num st κ ν).2.2.2.1 = st + 1)) ∧ i ≤ (cstp χ n i num st κ ν).2.2.1 ∧ (cstp χ n i num st κ ν).2.2.1 ≤ n := by
  unfold cstp
  split
  · rename_i h
    have hin := chr0_lt (χ := χ) (n := n) (i := i) (by omega)
    have b := carg_bd (kd := chr0 χ n i) (i := i + 1) hX hn (by omega)
    split
    · exact ⟨Or.inl rfl, by show i ≤ (carg χ n (chr0 χ n i) (i + 1)).2.2; omega, b.2.2⟩
    · exact ⟨Or.inr ⟨rfl, by show i < (carg χ n (chr0 χ n i) (i + 1)).2.2; omega, rfl⟩, by show i ≤ (carg χ n (chr0 χ n i) (i + 1)).2.2; omega, b.2.2⟩
  · exact ⟨Or.inl rfl, Int.le_refl i, hi.2⟩
theorem iX3_readArgument_X3 : ∀ w ∈ wsX30, w ∈ wsX3_readArgument := by decide +kernel
set_option maxHeartbeats 4000000 in
set_option maxRecDepth 100000 in
theorem mX3_readArgument (l : Launch) (E : gT) (a : Nat) (q1 : Nat) (q2 : Nat) (q3 : Nat) (n : Int) (st : Int) (i : Int) (num : Int) (χ : Nat → Int) (kd : Int) (hn : 0 ≤ n ∧ n ≤ 60) (hi : 0 ≤ i ∧ i ≤ n) (hX : inX χ) (hk : 0 ≤ kd ∧ kd ≤ 126) : Cd l E yX3_readArgument wsX3_readArgument 4 87 0 0 [.ref a, .int (iI kd)] [cPad a q1 q2 q3 n st i num, cChr E q1 χ] (some (.int (iI ((carg χ n kd i).1)))) [cPad a q1 q2 q3 n st ((carg χ n kd i).2.2) ((carg χ n kd i).2.1), cChr E q1 χ] := by
  refine Ct.mk (cc := cX3_readArgument) (maxL := 2) (ret := (some .boolean)) (plainFor_of_name (by decide)) rfl (Nat.le_of_ble_eq_true rfl) ?_
  intro p e s m below meth c A ls H locs S hr hlk hnm B hl
  have S : CallFix p m c cX3_readArgument 2 s #[.ref a, .int (iI kd)] wsX3_readArgument RX3 := S
  have hl : lv_has ls 2 [(0, .ref a), (1, .int (iI kd))] := hl
  refine z_iload_n S (pc := 0) dX3_readArgument_0 rfl (lv_at hl 1 rfl) ?_
  refine z_bipush S (pc := 1) dX3_readArgument_1 rfl ?_
  refine z_icmp_ne S (pc := 3) (tgt := 15) (by omega) (by omega) dX3_readArgument_3 rfl (fun c1 => ?_) (fun c1 => ?_)
  · refine z_iload_n S (pc := 15) dX3_readArgument_15 rfl (lv_at hl 1 rfl) ?_
    refine z_bipush S (pc := 16) dX3_readArgument_16 rfl ?_
    refine z_icmp_ne S (pc := 18) (tgt := 26) (by omega) (by omega) dX3_readArgument_18 rfl (fun c2 => ?_) (fun c2 => ?_)
    · refine z_iload_n S (pc := 26) dX3_readArgument_26 rfl (lv_at hl 1 rfl) ?_
      refine z_bipush S (pc := 27) dX3_readArgument_27 rfl ?_
      refine z_icmp_ne S (pc := 29) (tgt := 37) (by omega) (by omega) dX3_readArgument_29 rfl (fun c3 => ?_) (fun c3 => ?_)
      · refine z_aload_n S (pc := 37) dX3_readArgument_37 rfl (lv_at hl 0 rfl) ?_
        refine z_iconst S (pc := 38) dX3_readArgument_38 ?_
        refine z_put S (pc := 39) B iX3_readArgument_X3 tyX3_ok nmX3 0 rfl rfl 6 (by decide) rfl (by decide +kernel) (ty := .int) (by decide +kernel) rfl rfl (Nat.le_of_ble_eq_true rfl) dX3_readArgument_39 (wn := [cPad a q1 q2 q3 n st i 1, cChr E q1 χ]) rfl (fun H locs B => ?_)
        refine z_iload_n S (pc := 42) dX3_readArgument_42 rfl (lv_at hl 1 rfl) ?_
        refine z_bipush S (pc := 43) dX3_readArgument_43 rfl ?_
        refine z_icmp_eq S (pc := 45) (tgt := 65) (by omega) (by omega) dX3_readArgument_45 rfl (fun c4 => ?_) (fun c4 => ?_)
        · refine z_iconst S (pc := 65) dX3_readArgument_65 ?_
          refine lv_goto S.1 S.2.1 (pc := 66) (tgt := 70) dX3_readArgument_66 rfl ?_
          have hca : carg χ n kd i = (1, 1, i) := by unfold carg; rw [if_neg (by omega), if_neg (by omega), if_neg (by omega), if_pos (by omega)]
          exact z_zreturn S (Or.inr rfl) hr hlk B () trivial (by rw [hca]; try rfl) (by rw [hca]; try rfl) (pc := 70) dX3_readArgument_70
        · refine z_aload_n S (pc := 48) dX3_readArgument_48 rfl (lv_at hl 0 rfl) ?_
          refine z_callV S (pc := 49) B (wr := []) (wn := fun _ => [cPad a q1 q2 q3 n st i 1, cChr E q1 χ]) (st1 := fun _ => [.int (iI (bI (isD (chr0 χ n i))))]) (As := []) (mX3_isDigitHere l E a q1 q2 q3 n st i 1 χ (show 0 ≤ n ∧ n ≤ 60 from by omega) (show 0 ≤ i ∧ i ≤ n from by omega) (show inX χ from by assumption)) gX3_readArgument_X3_isDigitHere 0 rfl (by decide +kernel) ⟨Nat.le_of_ble_eq_true rfl, Nat.le_of_ble_eq_true rfl, Nat.le_of_ble_eq_true rfl, Nat.le_of_ble_eq_true rfl⟩ 0 rfl (q := (RX3, TX3, 7)) rfl rfl [0, 1] [] [0, 1] rfl rfl ⟨rfl, rfl, rfl, by decide⟩ (fun _ => rfl) rfl (fun _ => rfl) hl.1 (Nat.le_of_ble_eq_true rfl) rfl dX3_readArgument_49 (fun _ _ H locs B => ?_)
          refine z_ifeq_b S (pc := 52) (tgt := 65) dX3_readArgument_52 rfl (fun c5 => ?_) (fun c5 => ?_)
          · refine z_iconst S (pc := 65) dX3_readArgument_65 ?_
            refine lv_goto S.1 S.2.1 (pc := 66) (tgt := 70) dX3_readArgument_66 rfl ?_
            have hca : carg χ n kd i = (1, 1, i) := by unfold carg; rw [if_neg (by omega), if_neg (by omega), if_neg (by omega), if_neg (by omega), if_neg c5]
            exact z_zreturn S (Or.inr rfl) hr hlk B () trivial (by rw [hca]; try rfl) (by rw [hca]; try rfl) (pc := 70) dX3_readArgument_70
          · refine z_aload_n S (pc := 55) dX3_readArgument_55 rfl (lv_at hl 0 rfl) ?_
            refine z_iconst S (pc := 56) dX3_readArgument_56 ?_
            refine z_bipush S (pc := 57) dX3_readArgument_57 rfl ?_
            refine z_callV S (pc := 59) B (wr := []) (wn := fun _ => [cPad a q1 q2 q3 n st ((cnum χ n 1 99 i).2.2) ((cnum χ n 1 99 i).2.1), cChr E q1 χ]) (st1 := fun _ => [.int (iI ((cnum χ n 1 99 i).1))]) (As := [.int (iI 1), .int (iI 99)]) (mX3_readNumber l E a q1 q2 q3 n st i 1 χ 1 99 (show 0 ≤ n ∧ n ≤ 60 from by omega) (show 0 ≤ i ∧ i ≤ n from by omega) (show inX χ from by assumption) (show 0 ≤ 1 ∧ 1 ≤ 1 ∧ 9 ≤ 99 ∧ 99 ≤ 3000000 from by omega)) gX3_readArgument_X3_readNumber 2 rfl (by decide +kernel) ⟨Nat.le_of_ble_eq_true rfl, Nat.le_of_ble_eq_true rfl, Nat.le_of_ble_eq_true rfl, Nat.le_of_ble_eq_true rfl⟩ 0 rfl (q := (RX3, TX3, 7)) rfl rfl [0, 1] [] [0, 1] rfl rfl ⟨rfl, rfl, rfl, by decide⟩ (fun _ => rfl) rfl (fun _ => rfl) hl.1 (Nat.le_of_ble_eq_true rfl) rfl dX3_readArgument_59 (fun _ _ H locs B => ?_)
            have hn1 := cnum_01 χ n 1 99 i
            refine z_if_eq S (pc := 62) (tgt := 69) (by omega) dX3_readArgument_62 rfl (fun c6 => ?_) (fun c6 => ?_)
            · refine z_iconst S (pc := 69) dX3_readArgument_69 ?_
              have hca : carg χ n kd i = cnum χ n 1 99 i := by unfold carg; rw [if_neg (by omega), if_neg (by omega), if_neg (by omega), if_neg (by omega), if_pos c5]
              exact z_zreturn S (Or.inl rfl) hr hlk B () trivial (by rw [hca, show (cnum χ n 1 99 i).1 = 0 from by have := cnum_01 χ n 1 99 i; omega]) (by rw [hca]; try rfl) (pc := 70) dX3_readArgument_70
            · refine z_iconst S (pc := 65) dX3_readArgument_65 ?_
              refine lv_goto S.1 S.2.1 (pc := 66) (tgt := 70) dX3_readArgument_66 rfl ?_
              have hca : carg χ n kd i = cnum χ n 1 99 i := by unfold carg; rw [if_neg (by omega), if_neg (by omega), if_neg (by omega), if_neg (by omega), if_pos c5]
              exact z_zreturn S (Or.inr rfl) hr hlk B () trivial (by rw [hca, show (cnum χ n 1 99 i).1 = 1 from by have := cnum_01 χ n 1 99 i; omega]) (by rw [hca]; try rfl) (pc := 70) dX3_readArgument_70
      · refine z_aload_n S (pc := 32) dX3_readArgument_32 rfl (lv_at hl 0 rfl) ?_
        refine z_callV S (pc := 33) B (wr := []) (wn := fun _ => [cPad a q1 q2 q3 n st (if chr0 χ n i - 48 < 0 ∨ 4 ≤ chr0 χ n i - 48 then i else i + 1) (chr0 χ n i - 48), cChr E q1 χ]) (st1 := fun _ => [.int (iI (bI (0 ≤ chr0 χ n i - 48 ∧ chr0 χ n i - 48 < 4)))]) (As := []) (mX3_readRange l E a q1 q2 q3 n st i num χ (show 0 ≤ n ∧ n ≤ 60 from by omega) (show 0 ≤ i ∧ i ≤ n from by omega) (show inX χ from by assumption)) gX3_readArgument_X3_readRange 0 rfl (by decide +kernel) ⟨Nat.le_of_ble_eq_true rfl, Nat.le_of_ble_eq_true rfl, Nat.le_of_ble_eq_true rfl, Nat.le_of_ble_eq_true rfl⟩ 0 rfl (q := (RX3, TX3, 7)) rfl rfl [0, 1] [] [0, 1] rfl rfl ⟨rfl, rfl, rfl, by decide⟩ (fun _ => rfl) rfl (fun _ => rfl) hl.1 (Nat.le_of_ble_eq_true rfl) rfl dX3_readArgument_33 (fun _ _ H locs B => ?_)
        have hca : carg χ n kd i = crng χ n i := by unfold carg; rw [if_neg (by omega), if_neg (by omega), if_pos (by omega)]
        exact z_zreturn S (bI_01 _) hr hlk B () trivial (by rw [hca]; try rfl) (by rw [hca]; try rfl) (pc := 36) dX3_readArgument_36
    · refine z_aload_n S (pc := 21) dX3_readArgument_21 rfl (lv_at hl 0 rfl) ?_
      refine z_callV S (pc := 22) B (wr := []) (wn := fun _ => [cPad a q1 q2 q3 n st ((clev χ n i).2.2) ((clev χ n i).2.1), cChr E q1 χ]) (st1 := fun _ => [.int (iI ((clev χ n i).1))]) (As := []) (mX3_readLevel l E a q1 q2 q3 n st i num χ (show 0 ≤ n ∧ n ≤ 60 from by omega) (show 0 ≤ i ∧ i ≤ n from by omega) (show inX χ from by assumption)) gX3_readArgument_X3_readLevel 0 rfl (by decide +kernel) ⟨Nat.le_of_ble_eq_true rfl, Nat.le_of_ble_eq_true rfl, Nat.le_of_ble_eq_true rfl, Nat.le_of_ble_eq_true rfl⟩ 0 rfl (q := (RX3, TX3, 7)) rfl rfl [0, 1] [] [0, 1] rfl rfl ⟨rfl, rfl, rfl, by decide⟩ (fun _ => rfl) rfl (fun _ => rfl) hl.1 (Nat.le_of_ble_eq_true rfl) rfl dX3_readArgument_22 (fun _ _ H locs B => ?_)
      have hca : carg χ n kd i = clev χ n i := by unfold carg; rw [if_neg (by omega), if_pos (by omega)]
      exact z_zreturn S (clev_01 _ _ _) hr hlk B () trivial (by rw [hca]; try rfl) (by rw [hca]; try rfl) (pc := 25) dX3_readArgument_25
  · refine z_aload_n S (pc := 6) dX3_readArgument_6 rfl (lv_at hl 0 rfl) ?_
    refine z_iconst S (pc := 7) dX3_readArgument_7 ?_
    refine z_sipush S (pc := 8) dX3_readArgument_8 rfl ?_
    refine z_callV S (pc := 11) B (wr := []) (wn := fun _ => [cPad a q1 q2 q3 n st ((cnum χ n 1 9999 i).2.2) ((cnum χ n 1 9999 i).2.1), cChr E q1 χ]) (st1 := fun _ => [.int (iI ((cnum χ n 1 9999 i).1))]) (As := [.int (iI 1), .int (iI 9999)]) (mX3_readNumber l E a q1 q2 q3 n st i num χ 1 9999 (show 0 ≤ n ∧ n ≤ 60 from by omega) (show 0 ≤ i ∧ i ≤ n from by omega) (show inX χ from by assumption) (show 0 ≤ 1 ∧ 1 ≤ 1 ∧ 9 ≤ 9999 ∧ 9999 ≤ 3000000 from by omega)) gX3_readArgument_X3_readNumber 2 rfl (by decide +kernel) ⟨Nat.le_of_ble_eq_true rfl, Nat.le_of_ble_eq_true rfl, Nat.le_of_ble_eq_true rfl, Nat.le_of_ble_eq_true rfl⟩ 0 rfl (q := (RX3, TX3, 7)) rfl rfl [0, 1] [] [0, 1] rfl rfl ⟨rfl, rfl, rfl, by decide⟩ (fun _ => rfl) rfl (fun _ => rfl) hl.1 (Nat.le_of_ble_eq_true rfl) rfl dX3_readArgument_11 (fun _ _ H locs B => ?_)
    have hca : carg χ n kd i = cnum χ n 1 9999 i := by unfold carg; rw [if_pos (by omega)]
    exact z_zreturn S (cnum_01 _ _ _ _ _) hr hlk B () trivial (by rw [hca]; try rfl) (by rw [hca]; try rfl) (pc := 14) dX3_readArgument_14
theorem iX3_readStep_X3 : ∀ w ∈ wsX30, w ∈ wsX3_readStep := by decide +kernel
set_option maxHeartbeats 4000000 in
set_option maxRecDepth 100000 in
theorem mX3_readStep (l : Launch) (E : gT) (a : Nat) (q1 : Nat) (q2 : Nat) (q3 : Nat) (n : Int) (st : Int) (i : Int) (num : Int) (χ : Nat → Int) (κ : Nat → Int) (ν : Nat → Int) (hn : 0 ≤ n ∧ n ≤ 60) (hi : 0 ≤ i ∧ i ≤ n) (hX : inX χ) (hst : 0 ≤ st ∧ 2 * st ≤ i) : Cd l E yX3_readStep wsX3_readStep 5 108 0 0 [.ref a] [cPad a q1 q2 q3 n st i num, cChr E q1 χ, cInt E q2 60 κ, cInt E q3 60 ν] (some (.int (iI ((cstp χ n i num st κ ν).1)))) [cPad a q1 q2 q3 n ((cstp χ n i num st κ ν).2.2.2.1) ((cstp χ n i num st κ ν).2.2.1) ((cstp χ n i num st κ ν).2.1), cChr E q1 χ, cInt E q2 60 ((cstp χ n i num st κ ν).2.2.2.2.1), cInt E q3 60 ((cstp χ n i num st κ ν).2.2.2.2.2)] := by
  refine Ct.mk (cc := cX3_readStep) (maxL := 2) (ret := (some .boolean)) (plainFor_of_name (by decide)) rfl (Nat.le_of_ble_eq_true rfl) ?_
  intro p e s m below meth c A ls H locs S hr hlk hnm B hl
  have S : CallFix p m c cX3_readStep 2 s #[.ref a] wsX3_readStep RX3 := S
  have hl : lv_has ls 2 [(0, .ref a)] := hl
  have hc := chr0_bd (i := i) hX hn.2
  have hin : chr0 χ n i ≠ 0 → 0 ≤ i ∧ i < n := chr0_lt
  have hcb := carg_01 χ n (chr0 χ n i) (i + 1)
  refine z_aload_n S (pc := 0) dX3_readStep_0 rfl (lv_at hl 0 rfl) ?_
  refine z_callV S (pc := 1) B (wr := [cInt E q2 60 κ, cInt E q3 60 ν]) (wn := fun _ => [cPad a q1 q2 q3 n st i num, cChr E q1 χ, cInt E q2 60 κ, cInt E q3 60 ν]) (st1 := fun _ => [.int (iI (chr0 χ n i))]) (As := []) (mX3_signHere l E a q1 q2 q3 n st i num χ (show 0 ≤ n ∧ n ≤ 60 from by omega) (show 0 ≤ i ∧ i ≤ n from by omega) (show inX χ from by assumption)) gX3_readStep_X3_signHere 0 rfl (by decide +kernel) ⟨Nat.le_of_ble_eq_true rfl, Nat.le_of_ble_eq_true rfl, Nat.le_of_ble_eq_true rfl, Nat.le_of_ble_eq_true rfl⟩ 0 rfl (q := (RX3, TX3, 7)) rfl rfl [0, 1] [2, 3] [2, 3, 0, 1] rfl rfl ⟨rfl, rfl, rfl, by decide⟩ (fun _ => rfl) rfl (fun _ => rfl) hl.1 (Nat.le_of_ble_eq_true rfl) rfl dX3_readStep_1 (fun _ _ H locs B => ?_)
  refine lv_istore_n (lv' := [(1, .int (iI (chr0 χ n i))), (0, .ref a)]) S.1 S.2.1 (pc := 4) dX3_readStep_4 rfl hl (by decide) rfl (fun ls hl => ?_)
  refine z_iload_n S (pc := 5) dX3_readStep_5 rfl (lv_at hl 0 rfl) ?_
  refine z_bipush S (pc := 6) dX3_readStep_6 rfl ?_
  refine z_icmp_eq S (pc := 8) (tgt := 37) (by omega) (by omega) dX3_readStep_8 rfl (fun c1 => ?_) (fun c1 => ?_)
  · refine z_aload_n S (pc := 37) dX3_readStep_37 rfl (lv_at hl 1 rfl) ?_
    refine lv_dup S.1 S.2.1 (pc := 38) dX3_readStep_38 rfl ?_
    refine z_get S (pc := 39) B iX3_readStep_X3 0 rfl rfl 5 (by decide) rfl rfl (by decide +kernel) dX3_readStep_39 ?_
    refine z_iconst S (pc := 42) dX3_readStep_42 ?_
    refine z_iadd S (pc := 43) dX3_readStep_43 ?_
    refine z_put S (pc := 44) B iX3_readStep_X3 tyX3_ok nmX3 0 rfl rfl 5 (by decide) rfl (by decide +kernel) (ty := .int) (by decide +kernel) rfl rfl (Nat.le_of_ble_eq_true rfl) dX3_readStep_44 (wn := [cPad a q1 q2 q3 n st (i + 1) num, cChr E q1 χ, cInt E q2 60 κ, cInt E q3 60 ν]) rfl (fun H locs B => ?_)
    refine z_aload_n S (pc := 47) dX3_readStep_47 rfl (lv_at hl 1 rfl) ?_
    refine z_iload_n S (pc := 48) dX3_readStep_48 rfl (lv_at hl 0 rfl) ?_
    refine z_callV S (pc := 49) B (wr := [cInt E q2 60 κ, cInt E q3 60 ν]) (wn := fun _ => [cPad a q1 q2 q3 n st ((carg χ n (chr0 χ n i) (i + 1)).2.2) ((carg χ n (chr0 χ n i) (i + 1)).2.1), cChr E q1 χ, cInt E q2 60 κ, cInt E q3 60 ν]) (st1 := fun _ => [.int (iI ((carg χ n (chr0 χ n i) (i + 1)).1))]) (As := [.int (iI (chr0 χ n i))]) (mX3_readArgument l E a q1 q2 q3 n st (i + 1) num χ (chr0 χ n i) (show 0 ≤ n ∧ n ≤ 60 from by omega) (show 0 ≤ (i + 1) ∧ (i + 1) ≤ n from by omega) (show inX χ from by assumption) (show 0 ≤ (chr0 χ n i) ∧ (chr0 χ n i) ≤ 126 from by omega)) gX3_readStep_X3_readArgument 1 rfl (by decide +kernel) ⟨Nat.le_of_ble_eq_true rfl, Nat.le_of_ble_eq_true rfl, Nat.le_of_ble_eq_true rfl, Nat.le_of_ble_eq_true rfl⟩ 0 rfl (q := (RX3, TX3, 7)) rfl rfl [0, 1] [2, 3] [2, 3, 0, 1] rfl rfl ⟨rfl, rfl, rfl, by decide⟩ (fun _ => rfl) rfl (fun _ => rfl) hl.1 (Nat.le_of_ble_eq_true rfl) rfl dX3_readStep_49 (fun _ _ H locs B => ?_)
    refine z_if_ne S (pc := 52) (tgt := 57) (by omega) dX3_readStep_52 rfl (fun c2 => ?_) (fun c2 => ?_)
    · refine z_aload_n S (pc := 57) dX3_readStep_57 rfl (lv_at hl 1 rfl) ?_
      refine z_get S (pc := 58) B iX3_readStep_X3 0 rfl rfl 4 (by decide) rfl rfl (by decide +kernel) dX3_readStep_58 ?_
      refine z_aload_n S (pc := 61) dX3_readStep_61 rfl (lv_at hl 1 rfl) ?_
      refine z_get S (pc := 62) B iX3_readStep_X3 0 rfl rfl 2 (by decide) rfl rfl (by decide +kernel) dX3_readStep_62 ?_
      refine z_alen S (pc := 65) B 2 1 rfl rfl (n := 60) rfl dX3_readStep_65 ?_
      refine z_icmp_ge S (pc := 66) (tgt := 114) (by omega) (by omega) dX3_readStep_66 rfl (fun c3 => absurd c3 (by omega)) (fun c3 => ?_)
      refine z_aload_n S (pc := 69) dX3_readStep_69 rfl (lv_at hl 1 rfl) ?_
      refine z_get S (pc := 70) B iX3_readStep_X3 0 rfl rfl 4 (by decide) rfl rfl (by decide +kernel) dX3_readStep_70 ?_
      refine z_aload_n S (pc := 73) dX3_readStep_73 rfl (lv_at hl 1 rfl) ?_
      refine z_get S (pc := 74) B iX3_readStep_X3 0 rfl rfl 3 (by decide) rfl rfl (by decide +kernel) dX3_readStep_74 ?_
      refine z_alen S (pc := 77) B 3 1 rfl rfl (n := 60) rfl dX3_readStep_77 ?_
      refine z_icmp_ge S (pc := 78) (tgt := 114) (by omega) (by omega) dX3_readStep_78 rfl (fun c4 => absurd c4 (by omega)) (fun c4 => ?_)
      refine z_aload_n S (pc := 81) dX3_readStep_81 rfl (lv_at hl 1 rfl) ?_
      refine z_get S (pc := 82) B iX3_readStep_X3 0 rfl rfl 2 (by decide) rfl rfl (by decide +kernel) dX3_readStep_82 ?_
      refine z_aload_n S (pc := 85) dX3_readStep_85 rfl (lv_at hl 1 rfl) ?_
      refine z_get S (pc := 86) B iX3_readStep_X3 0 rfl rfl 4 (by decide) rfl rfl (by decide +kernel) dX3_readStep_86 ?_
      refine z_iload_n S (pc := 89) dX3_readStep_89 rfl (lv_at hl 0 rfl) ?_
      refine z_iast S (pc := 90) B 2 1 rfl rfl (k := (st).toNat) (by omega) (by omega) (by decide) dX3_readStep_90 (wn := [cPad a q1 q2 q3 n st ((carg χ n (chr0 χ n i) (i + 1)).2.2) ((carg χ n (chr0 χ n i) (i + 1)).2.1), cChr E q1 χ, cInt E q2 60 (up κ (st).toNat (chr0 χ n i)), cInt E q3 60 ν]) (by rw [iat_up]; rfl) (fun H locs B => ?_)
      refine z_aload_n S (pc := 91) dX3_readStep_91 rfl (lv_at hl 1 rfl) ?_
      refine z_get S (pc := 92) B iX3_readStep_X3 0 rfl rfl 3 (by decide) rfl rfl (by decide +kernel) dX3_readStep_92 ?_
      refine z_aload_n S (pc := 95) dX3_readStep_95 rfl (lv_at hl 1 rfl) ?_
      refine z_get S (pc := 96) B iX3_readStep_X3 0 rfl rfl 4 (by decide) rfl rfl (by decide +kernel) dX3_readStep_96 ?_
      refine z_aload_n S (pc := 99) dX3_readStep_99 rfl (lv_at hl 1 rfl) ?_
      refine z_get S (pc := 100) B iX3_readStep_X3 0 rfl rfl 6 (by decide) rfl rfl (by decide +kernel) dX3_readStep_100 ?_
      refine z_iast S (pc := 103) B 3 1 rfl rfl (k := (st).toNat) (by omega) (by omega) (by decide) dX3_readStep_103 (wn := [cPad a q1 q2 q3 n st ((carg χ n (chr0 χ n i) (i + 1)).2.2) ((carg χ n (chr0 χ n i) (i + 1)).2.1), cChr E q1 χ, cInt E q2 60 (up κ (st).toNat (chr0 χ n i)), cInt E q3 60 (up ν (st).toNat ((carg χ n (chr0 χ n i) (i + 1)).2.1))]) (by rw [iat_up]; rfl) (fun H locs B => ?_)
      refine z_aload_n S (pc := 104) dX3_readStep_104 rfl (lv_at hl 1 rfl) ?_
      refine lv_dup S.1 S.2.1 (pc := 105) dX3_readStep_105 rfl ?_
      refine z_get S (pc := 106) B iX3_readStep_X3 0 rfl rfl 4 (by decide) rfl rfl (by decide +kernel) dX3_readStep_106 ?_
      refine z_iconst S (pc := 109) dX3_readStep_109 ?_
      refine z_iadd S (pc := 110) dX3_readStep_110 ?_
      refine z_put S (pc := 111) B iX3_readStep_X3 tyX3_ok nmX3 0 rfl rfl 4 (by decide) rfl (by decide +kernel) (ty := .int) (by decide +kernel) rfl rfl (Nat.le_of_ble_eq_true rfl) dX3_readStep_111 (wn := [cPad a q1 q2 q3 n (st + 1) ((carg χ n (chr0 χ n i) (i + 1)).2.2) ((carg χ n (chr0 χ n i) (i + 1)).2.1), cChr E q1 χ, cInt E q2 60 (up κ (st).toNat (chr0 χ n i)), cInt E q3 60 (up ν (st).toNat ((carg χ n (chr0 χ n i) (i + 1)).2.1))]) rfl (fun H locs B => ?_)
      refine z_iconst S (pc := 114) dX3_readStep_114 ?_
      have hcs : cstp χ n i num st κ ν = (1, (carg χ n (chr0 χ n i) (i + 1)).2.1, (carg χ n (chr0 χ n i) (i + 1)).2.2, st + 1, up κ st.toNat (chr0 χ n i), up ν st.toNat (carg χ n (chr0 χ n i) (i + 1)).2.1) := by unfold cstp; rw [if_pos (by omega), if_neg c2]
      exact z_zreturn S (Or.inr rfl) hr hlk B () trivial (by rw [hcs]; try rfl) (by rw [hcs]; try rfl) (pc := 115) dX3_readStep_115
    · refine z_iconst S (pc := 55) dX3_readStep_55 ?_
      have hcs : cstp χ n i num st κ ν = (0, (carg χ n (chr0 χ n i) (i + 1)).2.1, (carg χ n (chr0 χ n i) (i + 1)).2.2, st, κ, ν) := by unfold cstp; rw [if_pos (by omega), if_pos c2]
      exact z_zreturn S (Or.inl rfl) hr hlk B () trivial (by rw [hcs]; try rfl) (by rw [hcs]; try rfl) (pc := 56) dX3_readStep_56
  · refine z_iload_n S (pc := 11) dX3_readStep_11 rfl (lv_at hl 0 rfl) ?_
    refine z_bipush S (pc := 12) dX3_readStep_12 rfl ?_
    refine z_icmp_eq S (pc := 14) (tgt := 37) (by omega) (by omega) dX3_readStep_14 rfl (fun c5 => ?_) (fun c5 => ?_)
    · refine z_aload_n S (pc := 37) dX3_readStep_37 rfl (lv_at hl 1 rfl) ?_
      refine lv_dup S.1 S.2.1 (pc := 38) dX3_readStep_38 rfl ?_
      refine z_get S (pc := 39) B iX3_readStep_X3 0 rfl rfl 5 (by decide) rfl rfl (by decide +kernel) dX3_readStep_39 ?_
      refine z_iconst S (pc := 42) dX3_readStep_42 ?_
      refine z_iadd S (pc := 43) dX3_readStep_43 ?_
      refine z_put S (pc := 44) B iX3_readStep_X3 tyX3_ok nmX3 0 rfl rfl 5 (by decide) rfl (by decide +kernel) (ty := .int) (by decide +kernel) rfl rfl (Nat.le_of_ble_eq_true rfl) dX3_readStep_44 (wn := [cPad a q1 q2 q3 n st (i + 1) num, cChr E q1 χ, cInt E q2 60 κ, cInt E q3 60 ν]) rfl (fun H locs B => ?_)
      refine z_aload_n S (pc := 47) dX3_readStep_47 rfl (lv_at hl 1 rfl) ?_
      refine z_iload_n S (pc := 48) dX3_readStep_48 rfl (lv_at hl 0 rfl) ?_
      refine z_callV S (pc := 49) B (wr := [cInt E q2 60 κ, cInt E q3 60 ν]) (wn := fun _ => [cPad a q1 q2 q3 n st ((carg χ n (chr0 χ n i) (i + 1)).2.2) ((carg χ n (chr0 χ n i) (i + 1)).2.1), cChr E q1 χ, cInt E q2 60 κ, cInt E q3 60 ν]) (st1 := fun _ => [.int (iI ((carg χ n (chr0 χ n i) (i + 1)).1))]) (As := [.int (iI (chr0 χ n i))]) (mX3_readArgument l E a q1 q2 q3 n st (i + 1) num χ (chr0 χ n i) (show 0 ≤ n ∧ n ≤ 60 from by omega) (show 0 ≤ (i + 1) ∧ (i + 1) ≤ n from by omega) (show inX χ from by assumption) (show 0 ≤ (chr0 χ n i) ∧ (chr0 χ n i) ≤ 126 from by omega)) gX3_readStep_X3_readArgument 1 rfl (by decide +kernel) ⟨Nat.le_of_ble_eq_true rfl, Nat.le_of_ble_eq_true rfl, Nat.le_of_ble_eq_true rfl, Nat.le_of_ble_eq_true rfl⟩ 0 rfl (q := (RX3, TX3, 7)) rfl rfl [0, 1] [2, 3] [2, 3, 0, 1] rfl rfl ⟨rfl, rfl, rfl, by decide⟩ (fun _ => rfl) rfl (fun _ => rfl) hl.1 (Nat.le_of_ble_eq_true rfl) rfl dX3_readStep_49 (fun _ _ H locs B => ?_)
      refine z_if_ne S (pc := 52) (tgt := 57) (by omega) dX3_readStep_52 rfl (fun c6 => ?_) (fun c6 => ?_)
      · refine z_aload_n S (pc := 57) dX3_readStep_57 rfl (lv_at hl 1 rfl) ?_
        refine z_get S (pc := 58) B iX3_readStep_X3 0 rfl rfl 4 (by decide) rfl rfl (by decide +kernel) dX3_readStep_58 ?_
        refine z_aload_n S (pc := 61) dX3_readStep_61 rfl (lv_at hl 1 rfl) ?_
        refine z_get S (pc := 62) B iX3_readStep_X3 0 rfl rfl 2 (by decide) rfl rfl (by decide +kernel) dX3_readStep_62 ?_
        refine z_alen S (pc := 65) B 2 1 rfl rfl (n := 60) rfl dX3_readStep_65 ?_
        refine z_icmp_ge S (pc := 66) (tgt := 114) (by omega) (by omega) dX3_readStep_66 rfl (fun c7 => absurd c7 (by omega)) (fun c7 => ?_)
        refine z_aload_n S (pc := 69) dX3_readStep_69 rfl (lv_at hl 1 rfl) ?_
        refine z_get S (pc := 70) B iX3_readStep_X3 0 rfl rfl 4 (by decide) rfl rfl (by decide +kernel) dX3_readStep_70 ?_
        refine z_aload_n S (pc := 73) dX3_readStep_73 rfl (lv_at hl 1 rfl) ?_
        refine z_get S (pc := 74) B iX3_readStep_X3 0 rfl rfl 3 (by decide) rfl rfl (by decide +kernel) dX3_readStep_74 ?_
        refine z_alen S (pc := 77) B 3 1 rfl rfl (n := 60) rfl dX3_readStep_77 ?_
        refine z_icmp_ge S (pc := 78) (tgt := 114) (by omega) (by omega) dX3_readStep_78 rfl (fun c8 => absurd c8 (by omega)) (fun c8 => ?_)
        refine z_aload_n S (pc := 81) dX3_readStep_81 rfl (lv_at hl 1 rfl) ?_
        refine z_get S (pc := 82) B iX3_readStep_X3 0 rfl rfl 2 (by decide) rfl rfl (by decide +kernel) dX3_readStep_82 ?_
        refine z_aload_n S (pc := 85) dX3_readStep_85 rfl (lv_at hl 1 rfl) ?_
        refine z_get S (pc := 86) B iX3_readStep_X3 0 rfl rfl 4 (by decide) rfl rfl (by decide +kernel) dX3_readStep_86 ?_
        refine z_iload_n S (pc := 89) dX3_readStep_89 rfl (lv_at hl 0 rfl) ?_
        refine z_iast S (pc := 90) B 2 1 rfl rfl (k := (st).toNat) (by omega) (by omega) (by decide) dX3_readStep_90 (wn := [cPad a q1 q2 q3 n st ((carg χ n (chr0 χ n i) (i + 1)).2.2) ((carg χ n (chr0 χ n i) (i + 1)).2.1), cChr E q1 χ, cInt E q2 60 (up κ (st).toNat (chr0 χ n i)), cInt E q3 60 ν]) (by rw [iat_up]; rfl) (fun H locs B => ?_)
        refine z_aload_n S (pc := 91) dX3_readStep_91 rfl (lv_at hl 1 rfl) ?_
        refine z_get S (pc := 92) B iX3_readStep_X3 0 rfl rfl 3 (by decide) rfl rfl (by decide +kernel) dX3_readStep_92 ?_
        refine z_aload_n S (pc := 95) dX3_readStep_95 rfl (lv_at hl 1 rfl) ?_
        refine z_get S (pc := 96) B iX3_readStep_X3 0 rfl rfl 4 (by decide) rfl rfl (by decide +kernel) dX3_readStep_96 ?_
        refine z_aload_n S (pc := 99) dX3_readStep_99 rfl (lv_at hl 1 rfl) ?_
        refine z_get S (pc := 100) B iX3_readStep_X3 0 rfl rfl 6 (by decide) rfl rfl (by decide +kernel) dX3_readStep_100 ?_
        refine z_iast S (pc := 103) B 3 1 rfl rfl (k := (st).toNat) (by omega) (by omega) (by decide) dX3_readStep_103 (wn := [cPad a q1 q2 q3 n st ((carg χ n (chr0 χ n i) (i + 1)).2.2) ((carg χ n (chr0 χ n i) (i + 1)).2.1), cChr E q1 χ, cInt E q2 60 (up κ (st).toNat (chr0 χ n i)), cInt E q3 60 (up ν (st).toNat ((carg χ n (chr0 χ n i) (i + 1)).2.1))]) (by rw [iat_up]; rfl) (fun H locs B => ?_)
        refine z_aload_n S (pc := 104) dX3_readStep_104 rfl (lv_at hl 1 rfl) ?_
        refine lv_dup S.1 S.2.1 (pc := 105) dX3_readStep_105 rfl ?_
        refine z_get S (pc := 106) B iX3_readStep_X3 0 rfl rfl 4 (by decide) rfl rfl (by decide +kernel) dX3_readStep_106 ?_
        refine z_iconst S (pc := 109) dX3_readStep_109 ?_
        refine z_iadd S (pc := 110) dX3_readStep_110 ?_
        refine z_put S (pc := 111) B iX3_readStep_X3 tyX3_ok nmX3 0 rfl rfl 4 (by decide) rfl (by decide +kernel) (ty := .int) (by decide +kernel) rfl rfl (Nat.le_of_ble_eq_true rfl) dX3_readStep_111 (wn := [cPad a q1 q2 q3 n (st + 1) ((carg χ n (chr0 χ n i) (i + 1)).2.2) ((carg χ n (chr0 χ n i) (i + 1)).2.1), cChr E q1 χ, cInt E q2 60 (up κ (st).toNat (chr0 χ n i)), cInt E q3 60 (up ν (st).toNat ((carg χ n (chr0 χ n i) (i + 1)).2.1))]) rfl (fun H locs B => ?_)
        refine z_iconst S (pc := 114) dX3_readStep_114 ?_
        have hcs : cstp χ n i num st κ ν = (1, (carg χ n (chr0 χ n i) (i + 1)).2.1, (carg χ n (chr0 χ n i) (i + 1)).2.2, st + 1, up κ st.toNat (chr0 χ n i), up ν st.toNat (carg χ n (chr0 χ n i) (i + 1)).2.1) := by unfold cstp; rw [if_pos (by omega), if_neg c6]
        exact z_zreturn S (Or.inr rfl) hr hlk B () trivial (by rw [hcs]; try rfl) (by rw [hcs]; try rfl) (pc := 115) dX3_readStep_115
      · refine z_iconst S (pc := 55) dX3_readStep_55 ?_
        have hcs : cstp χ n i num st κ ν = (0, (carg χ n (chr0 χ n i) (i + 1)).2.1, (carg χ n (chr0 χ n i) (i + 1)).2.2, st, κ, ν) := by unfold cstp; rw [if_pos (by omega), if_pos c6]
        exact z_zreturn S (Or.inl rfl) hr hlk B () trivial (by rw [hcs]; try rfl) (by rw [hcs]; try rfl) (pc := 56) dX3_readStep_56
    · refine z_iload_n S (pc := 17) dX3_readStep_17 rfl (lv_at hl 0 rfl) ?_
      refine z_bipush S (pc := 18) dX3_readStep_18 rfl ?_
      refine z_icmp_eq S (pc := 20) (tgt := 37) (by omega) (by omega) dX3_readStep_20 rfl (fun c9 => ?_) (fun c9 => ?_)
      · refine z_aload_n S (pc := 37) dX3_readStep_37 rfl (lv_at hl 1 rfl) ?_
        refine lv_dup S.1 S.2.1 (pc := 38) dX3_readStep_38 rfl ?_
        refine z_get S (pc := 39) B iX3_readStep_X3 0 rfl rfl 5 (by decide) rfl rfl (by decide +kernel) dX3_readStep_39 ?_
        refine z_iconst S (pc := 42) dX3_readStep_42 ?_
        refine z_iadd S (pc := 43) dX3_readStep_43 ?_
        refine z_put S (pc := 44) B iX3_readStep_X3 tyX3_ok nmX3 0 rfl rfl 5 (by decide) rfl (by decide +kernel) (ty := .int) (by decide +kernel) rfl rfl (Nat.le_of_ble_eq_true rfl) dX3_readStep_44 (wn := [cPad a q1 q2 q3 n st (i + 1) num, cChr E q1 χ, cInt E q2 60 κ, cInt E q3 60 ν]) rfl (fun H locs B => ?_)
        refine z_aload_n S (pc := 47) dX3_readStep_47 rfl (lv_at hl 1 rfl) ?_
        refine z_iload_n S (pc := 48) dX3_readStep_48 rfl (lv_at hl 0 rfl) ?_
        refine z_callV S (pc := 49) B (wr := [cInt E q2 60 κ, cInt E q3 60 ν]) (wn := fun _ => [cPad a q1 q2 q3 n st ((carg χ n (chr0 χ n i) (i + 1)).2.2) ((carg χ n (chr0 χ n i) (i + 1)).2.1), cChr E q1 χ, cInt E q2 60 κ, cInt E q3 60 ν]) (st1 := fun _ => [.int (iI ((carg χ n (chr0 χ n i) (i + 1)).1))]) (As := [.int (iI (chr0 χ n i))]) (mX3_readArgument l E a q1 q2 q3 n st (i + 1) num χ (chr0 χ n i) (show 0 ≤ n ∧ n ≤ 60 from by omega) (show 0 ≤ (i + 1) ∧ (i + 1) ≤ n from by omega) (show inX χ from by assumption) (show 0 ≤ (chr0 χ n i) ∧ (chr0 χ n i) ≤ 126 from by omega)) gX3_readStep_X3_readArgument 1 rfl (by decide +kernel) ⟨Nat.le_of_ble_eq_true rfl, Nat.le_of_ble_eq_true rfl, Nat.le_of_ble_eq_true rfl, Nat.le_of_ble_eq_true rfl⟩ 0 rfl (q := (RX3, TX3, 7)) rfl rfl [0, 1] [2, 3] [2, 3, 0, 1] rfl rfl ⟨rfl, rfl, rfl, by decide⟩ (fun _ => rfl) rfl (fun _ => rfl) hl.1 (Nat.le_of_ble_eq_true rfl) rfl dX3_readStep_49 (fun _ _ H locs B => ?_)
        refine z_if_ne S (pc := 52) (tgt := 57) (by omega) dX3_readStep_52 rfl (fun c10 => ?_) (fun c10 => ?_)
        · refine z_aload_n S (pc := 57) dX3_readStep_57 rfl (lv_at hl 1 rfl) ?_
          refine z_get S (pc := 58) B iX3_readStep_X3 0 rfl rfl 4 (by decide) rfl rfl (by decide +kernel) dX3_readStep_58 ?_
          refine z_aload_n S (pc := 61) dX3_readStep_61 rfl (lv_at hl 1 rfl) ?_
          refine z_get S (pc := 62) B iX3_readStep_X3 0 rfl rfl 2 (by decide) rfl rfl (by decide +kernel) dX3_readStep_62 ?_
          refine z_alen S (pc := 65) B 2 1 rfl rfl (n := 60) rfl dX3_readStep_65 ?_
          refine z_icmp_ge S (pc := 66) (tgt := 114) (by omega) (by omega) dX3_readStep_66 rfl (fun c11 => absurd c11 (by omega)) (fun c11 => ?_)
          refine z_aload_n S (pc := 69) dX3_readStep_69 rfl (lv_at hl 1 rfl) ?_
          refine z_get S (pc := 70) B iX3_readStep_X3 0 rfl rfl 4 (by decide) rfl rfl (by decide +kernel) dX3_readStep_70 ?_
          refine z_aload_n S (pc := 73) dX3_readStep_73 rfl (lv_at hl 1 rfl) ?_
          refine z_get S (pc := 74) B iX3_readStep_X3 0 rfl rfl 3 (by decide) rfl rfl (by decide +kernel) dX3_readStep_74 ?_
          refine z_alen S (pc := 77) B 3 1 rfl rfl (n := 60) rfl dX3_readStep_77 ?_
          refine z_icmp_ge S (pc := 78) (tgt := 114) (by omega) (by omega) dX3_readStep_78 rfl (fun c12 => absurd c12 (by omega)) (fun c12 => ?_)
          refine z_aload_n S (pc := 81) dX3_readStep_81 rfl (lv_at hl 1 rfl) ?_
          refine z_get S (pc := 82) B iX3_readStep_X3 0 rfl rfl 2 (by decide) rfl rfl (by decide +kernel) dX3_readStep_82 ?_
          refine z_aload_n S (pc := 85) dX3_readStep_85 rfl (lv_at hl 1 rfl) ?_
          refine z_get S (pc := 86) B iX3_readStep_X3 0 rfl rfl 4 (by decide) rfl rfl (by decide +kernel) dX3_readStep_86 ?_
          refine z_iload_n S (pc := 89) dX3_readStep_89 rfl (lv_at hl 0 rfl) ?_
          refine z_iast S (pc := 90) B 2 1 rfl rfl (k := (st).toNat) (by omega) (by omega) (by decide) dX3_readStep_90 (wn := [cPad a q1 q2 q3 n st ((carg χ n (chr0 χ n i) (i + 1)).2.2) ((carg χ n (chr0 χ n i) (i + 1)).2.1), cChr E q1 χ, cInt E q2 60 (up κ (st).toNat (chr0 χ n i)), cInt E q3 60 ν]) (by rw [iat_up]; rfl) (fun H locs B => ?_)
          refine z_aload_n S (pc := 91) dX3_readStep_91 rfl (lv_at hl 1 rfl) ?_
          refine z_get S (pc := 92) B iX3_readStep_X3 0 rfl rfl 3 (by decide) rfl rfl (by decide +kernel) dX3_readStep_92 ?_
          refine z_aload_n S (pc := 95) dX3_readStep_95 rfl (lv_at hl 1 rfl) ?_
          refine z_get S (pc := 96) B iX3_readStep_X3 0 rfl rfl 4 (by decide) rfl rfl (by decide +kernel) dX3_readStep_96 ?_
          refine z_aload_n S (pc := 99) dX3_readStep_99 rfl (lv_at hl 1 rfl) ?_
          refine z_get S (pc := 100) B iX3_readStep_X3 0 rfl rfl 6 (by decide) rfl rfl (by decide +kernel) dX3_readStep_100 ?_
          refine z_iast S (pc := 103) B 3 1 rfl rfl (k := (st).toNat) (by omega) (by omega) (by decide) dX3_readStep_103 (wn := [cPad a q1 q2 q3 n st ((carg χ n (chr0 χ n i) (i + 1)).2.2) ((carg χ n (chr0 χ n i) (i + 1)).2.1), cChr E q1 χ, cInt E q2 60 (up κ (st).toNat (chr0 χ n i)), cInt E q3 60 (up ν (st).toNat ((carg χ n (chr0 χ n i) (i + 1)).2.1))]) (by rw [iat_up]; rfl) (fun H locs B => ?_)
          refine z_aload_n S (pc := 104) dX3_readStep_104 rfl (lv_at hl 1 rfl) ?_
          refine lv_dup S.1 S.2.1 (pc := 105) dX3_readStep_105 rfl ?_
          refine z_get S (pc := 106) B iX3_readStep_X3 0 rfl rfl 4 (by decide) rfl rfl (by decide +kernel) dX3_readStep_106 ?_
          refine z_iconst S (pc := 109) dX3_readStep_109 ?_
          refine z_iadd S (pc := 110) dX3_readStep_110 ?_
          refine z_put S (pc := 111) B iX3_readStep_X3 tyX3_ok nmX3 0 rfl rfl 4 (by decide) rfl (by decide +kernel) (ty := .int) (by decide +kernel) rfl rfl (Nat.le_of_ble_eq_true rfl) dX3_readStep_111 (wn := [cPad a q1 q2 q3 n (st + 1) ((carg χ n (chr0 χ n i) (i + 1)).2.2) ((carg χ n (chr0 χ n i) (i + 1)).2.1), cChr E q1 χ, cInt E q2 60 (up κ (st).toNat (chr0 χ n i)), cInt E q3 60 (up ν (st).toNat ((carg χ n (chr0 χ n i) (i + 1)).2.1))]) rfl (fun H locs B => ?_)
          refine z_iconst S (pc := 114) dX3_readStep_114 ?_
          have hcs : cstp χ n i num st κ ν = (1, (carg χ n (chr0 χ n i) (i + 1)).2.1, (carg χ n (chr0 χ n i) (i + 1)).2.2, st + 1, up κ st.toNat (chr0 χ n i), up ν st.toNat (carg χ n (chr0 χ n i) (i + 1)).2.1) := by unfold cstp; rw [if_pos (by omega), if_neg c10]
          exact z_zreturn S (Or.inr rfl) hr hlk B () trivial (by rw [hcs]; try rfl) (by rw [hcs]; try rfl) (pc := 115) dX3_readStep_115
        · refine z_iconst S (pc := 55) dX3_readStep_55 ?_
          have hcs : cstp χ n i num st κ ν = (0, (carg χ n (chr0 χ n i) (i + 1)).2.1, (carg χ n (chr0 χ n i) (i + 1)).2.2, st, κ, ν) := by unfold cstp; rw [if_pos (by omega), if_pos c10]
          exact z_zreturn S (Or.inl rfl) hr hlk B () trivial (by rw [hcs]; try rfl) (by rw [hcs]; try rfl) (pc := 56) dX3_readStep_56
      · refine z_iload_n S (pc := 23) dX3_readStep_23 rfl (lv_at hl 0 rfl) ?_
        refine z_bipush S (pc := 24) dX3_readStep_24 rfl ?_
        refine z_icmp_eq S (pc := 26) (tgt := 37) (by omega) (by omega) dX3_readStep_26 rfl (fun c13 => ?_) (fun c13 => ?_)
        · refine z_aload_n S (pc := 37) dX3_readStep_37 rfl (lv_at hl 1 rfl) ?_
          refine lv_dup S.1 S.2.1 (pc := 38) dX3_readStep_38 rfl ?_
          refine z_get S (pc := 39) B iX3_readStep_X3 0 rfl rfl 5 (by decide) rfl rfl (by decide +kernel) dX3_readStep_39 ?_
          refine z_iconst S (pc := 42) dX3_readStep_42 ?_
          refine z_iadd S (pc := 43) dX3_readStep_43 ?_
          refine z_put S (pc := 44) B iX3_readStep_X3 tyX3_ok nmX3 0 rfl rfl 5 (by decide) rfl (by decide +kernel) (ty := .int) (by decide +kernel) rfl rfl (Nat.le_of_ble_eq_true rfl) dX3_readStep_44 (wn := [cPad a q1 q2 q3 n st (i + 1) num, cChr E q1 χ, cInt E q2 60 κ, cInt E q3 60 ν]) rfl (fun H locs B => ?_)
          refine z_aload_n S (pc := 47) dX3_readStep_47 rfl (lv_at hl 1 rfl) ?_
          refine z_iload_n S (pc := 48) dX3_readStep_48 rfl (lv_at hl 0 rfl) ?_
          refine z_callV S (pc := 49) B (wr := [cInt E q2 60 κ, cInt E q3 60 ν]) (wn := fun _ => [cPad a q1 q2 q3 n st ((carg χ n (chr0 χ n i) (i + 1)).2.2) ((carg χ n (chr0 χ n i) (i + 1)).2.1), cChr E q1 χ, cInt E q2 60 κ, cInt E q3 60 ν]) (st1 := fun _ => [.int (iI ((carg χ n (chr0 χ n i) (i + 1)).1))]) (As := [.int (iI (chr0 χ n i))]) (mX3_readArgument l E a q1 q2 q3 n st (i + 1) num χ (chr0 χ n i) (show 0 ≤ n ∧ n ≤ 60 from by omega) (show 0 ≤ (i + 1) ∧ (i + 1) ≤ n from by omega) (show inX χ from by assumption) (show 0 ≤ (chr0 χ n i) ∧ (chr0 χ n i) ≤ 126 from by omega)) gX3_readStep_X3_readArgument 1 rfl (by decide +kernel) ⟨Nat.le_of_ble_eq_true rfl, Nat.le_of_ble_eq_true rfl, Nat.le_of_ble_eq_true rfl, Nat.le_of_ble_eq_true rfl⟩ 0 rfl (q := (RX3, TX3, 7)) rfl rfl [0, 1] [2, 3] [2, 3, 0, 1] rfl rfl ⟨rfl, rfl, rfl, by decide⟩ (fun _ => rfl) rfl (fun _ => rfl) hl.1 (Nat.le_of_ble_eq_true rfl) rfl dX3_readStep_49 (fun _ _ H locs B => ?_)
          refine z_if_ne S (pc := 52) (tgt := 57) (by omega) dX3_readStep_52 rfl (fun c14 => ?_) (fun c14 => ?_)
          · refine z_aload_n S (pc := 57) dX3_readStep_57 rfl (lv_at hl 1 rfl) ?_
            refine z_get S (pc := 58) B iX3_readStep_X3 0 rfl rfl 4 (by decide) rfl rfl (by decide +kernel) dX3_readStep_58 ?_
            refine z_aload_n S (pc := 61) dX3_readStep_61 rfl (lv_at hl 1 rfl) ?_
            refine z_get S (pc := 62) B iX3_readStep_X3 0 rfl rfl 2 (by decide) rfl rfl (by decide +kernel) dX3_readStep_62 ?_
            refine z_alen S (pc := 65) B 2 1 rfl rfl (n := 60) rfl dX3_readStep_65 ?_
            refine z_icmp_ge S (pc := 66) (tgt := 114) (by omega) (by omega) dX3_readStep_66 rfl (fun c15 => absurd c15 (by omega)) (fun c15 => ?_)
            refine z_aload_n S (pc := 69) dX3_readStep_69 rfl (lv_at hl 1 rfl) ?_
            refine z_get S (pc := 70) B iX3_readStep_X3 0 rfl rfl 4 (by decide) rfl rfl (by decide +kernel) dX3_readStep_70 ?_
            refine z_aload_n S (pc := 73) dX3_readStep_73 rfl (lv_at hl 1 rfl) ?_
            refine z_get S (pc := 74) B iX3_readStep_X3 0 rfl rfl 3 (by decide) rfl rfl (by decide +kernel) dX3_readStep_74 ?_
            refine z_alen S (pc := 77) B 3 1 rfl rfl (n := 60) rfl dX3_readStep_77 ?_
            refine z_icmp_ge S (pc := 78) (tgt := 114) (by omega) (by omega) dX3_readStep_78 rfl (fun c16 => absurd c16 (by omega)) (fun c16 => ?_)
            refine z_aload_n S (pc := 81) dX3_readStep_81 rfl (lv_at hl 1 rfl) ?_
            refine z_get S (pc := 82) B iX3_readStep_X3 0 rfl rfl 2 (by decide) rfl rfl (by decide +kernel) dX3_readStep_82 ?_
            refine z_aload_n S (pc := 85) dX3_readStep_85 rfl (lv_at hl 1 rfl) ?_
            refine z_get S (pc := 86) B iX3_readStep_X3 0 rfl rfl 4 (by decide) rfl rfl (by decide +kernel) dX3_readStep_86 ?_
            refine z_iload_n S (pc := 89) dX3_readStep_89 rfl (lv_at hl 0 rfl) ?_
            refine z_iast S (pc := 90) B 2 1 rfl rfl (k := (st).toNat) (by omega) (by omega) (by decide) dX3_readStep_90 (wn := [cPad a q1 q2 q3 n st ((carg χ n (chr0 χ n i) (i + 1)).2.2) ((carg χ n (chr0 χ n i) (i + 1)).2.1), cChr E q1 χ, cInt E q2 60 (up κ (st).toNat (chr0 χ n i)), cInt E q3 60 ν]) (by rw [iat_up]; rfl) (fun H locs B => ?_)
            refine z_aload_n S (pc := 91) dX3_readStep_91 rfl (lv_at hl 1 rfl) ?_
            refine z_get S (pc := 92) B iX3_readStep_X3 0 rfl rfl 3 (by decide) rfl rfl (by decide +kernel) dX3_readStep_92 ?_
            refine z_aload_n S (pc := 95) dX3_readStep_95 rfl (lv_at hl 1 rfl) ?_
            refine z_get S (pc := 96) B iX3_readStep_X3 0 rfl rfl 4 (by decide) rfl rfl (by decide +kernel) dX3_readStep_96 ?_
            refine z_aload_n S (pc := 99) dX3_readStep_99 rfl (lv_at hl 1 rfl) ?_
            refine z_get S (pc := 100) B iX3_readStep_X3 0 rfl rfl 6 (by decide) rfl rfl (by decide +kernel) dX3_readStep_100 ?_
            refine z_iast S (pc := 103) B 3 1 rfl rfl (k := (st).toNat) (by omega) (by omega) (by decide) dX3_readStep_103 (wn := [cPad a q1 q2 q3 n st ((carg χ n (chr0 χ n i) (i + 1)).2.2) ((carg χ n (chr0 χ n i) (i + 1)).2.1), cChr E q1 χ, cInt E q2 60 (up κ (st).toNat (chr0 χ n i)), cInt E q3 60 (up ν (st).toNat ((carg χ n (chr0 χ n i) (i + 1)).2.1))]) (by rw [iat_up]; rfl) (fun H locs B => ?_)
            refine z_aload_n S (pc := 104) dX3_readStep_104 rfl (lv_at hl 1 rfl) ?_
            refine lv_dup S.1 S.2.1 (pc := 105) dX3_readStep_105 rfl ?_
            refine z_get S (pc := 106) B iX3_readStep_X3 0 rfl rfl 4 (by decide) rfl rfl (by decide +kernel) dX3_readStep_106 ?_
            refine z_iconst S (pc := 109) dX3_readStep_109 ?_
            refine z_iadd S (pc := 110) dX3_readStep_110 ?_
            refine z_put S (pc := 111) B iX3_readStep_X3 tyX3_ok nmX3 0 rfl rfl 4 (by decide) rfl (by decide +kernel) (ty := .int) (by decide +kernel) rfl rfl (Nat.le_of_ble_eq_true rfl) dX3_readStep_111 (wn := [cPad a q1 q2 q3 n (st + 1) ((carg χ n (chr0 χ n i) (i + 1)).2.2) ((carg χ n (chr0 χ n i) (i + 1)).2.1), cChr E q1 χ, cInt E q2 60 (up κ (st).toNat (chr0 χ n i)), cInt E q3 60 (up ν (st).toNat ((carg χ n (chr0 χ n i) (i + 1)).2.1))]) rfl (fun H locs B => ?_)
            refine z_iconst S (pc := 114) dX3_readStep_114 ?_
            have hcs : cstp χ n i num st κ ν = (1, (carg χ n (chr0 χ n i) (i + 1)).2.1, (carg χ n (chr0 χ n i) (i + 1)).2.2, st + 1, up κ st.toNat (chr0 χ n i), up ν st.toNat (carg χ n (chr0 χ n i) (i + 1)).2.1) := by unfold cstp; rw [if_pos (by omega), if_neg c14]
            exact z_zreturn S (Or.inr rfl) hr hlk B () trivial (by rw [hcs]; try rfl) (by rw [hcs]; try rfl) (pc := 115) dX3_readStep_115
          · refine z_iconst S (pc := 55) dX3_readStep_55 ?_
            have hcs : cstp χ n i num st κ ν = (0, (carg χ n (chr0 χ n i) (i + 1)).2.1, (carg χ n (chr0 χ n i) (i + 1)).2.2, st, κ, ν) := by unfold cstp; rw [if_pos (by omega), if_pos c14]
            exact z_zreturn S (Or.inl rfl) hr hlk B () trivial (by rw [hcs]; try rfl) (by rw [hcs]; try rfl) (pc := 56) dX3_readStep_56
        · refine z_iload_n S (pc := 29) dX3_readStep_29 rfl (lv_at hl 0 rfl) ?_
          refine z_bipush S (pc := 30) dX3_readStep_30 rfl ?_
          refine z_icmp_eq S (pc := 32) (tgt := 37) (by omega) (by omega) dX3_readStep_32 rfl (fun c17 => ?_) (fun c17 => ?_)
          · refine z_aload_n S (pc := 37) dX3_readStep_37 rfl (lv_at hl 1 rfl) ?_
            refine lv_dup S.1 S.2.1 (pc := 38) dX3_readStep_38 rfl ?_
            refine z_get S (pc := 39) B iX3_readStep_X3 0 rfl rfl 5 (by decide) rfl rfl (by decide +kernel) dX3_readStep_39 ?_
            refine z_iconst S (pc := 42) dX3_readStep_42 ?_
            refine z_iadd S (pc := 43) dX3_readStep_43 ?_
            refine z_put S (pc := 44) B iX3_readStep_X3 tyX3_ok nmX3 0 rfl rfl 5 (by decide) rfl (by decide +kernel) (ty := .int) (by decide +kernel) rfl rfl (Nat.le_of_ble_eq_true rfl) dX3_readStep_44 (wn := [cPad a q1 q2 q3 n st (i + 1) num, cChr E q1 χ, cInt E q2 60 κ, cInt E q3 60 ν]) rfl (fun H locs B => ?_)
            refine z_aload_n S (pc := 47) dX3_readStep_47 rfl (lv_at hl 1 rfl) ?_
            refine z_iload_n S (pc := 48) dX3_readStep_48 rfl (lv_at hl 0 rfl) ?_
            refine z_callV S (pc := 49) B (wr := [cInt E q2 60 κ, cInt E q3 60 ν]) (wn := fun _ => [cPad a q1 q2 q3 n st ((carg χ n (chr0 χ n i) (i + 1)).2.2) ((carg χ n (chr0 χ n i) (i + 1)).2.1), cChr E q1 χ, cInt E q2 60 κ, cInt E q3 60 ν]) (st1 := fun _ => [.int (iI ((carg χ n (chr0 χ n i) (i + 1)).1))]) (As := [.int (iI (chr0 χ n i))]) (mX3_readArgument l E a q1 q2 q3 n st (i + 1) num χ (chr0 χ n i) (show 0 ≤ n ∧ n ≤ 60 from by omega) (show 0 ≤ (i + 1) ∧ (i + 1) ≤ n from by omega) (show inX χ from by assumption) (show 0 ≤ (chr0 χ n i) ∧ (chr0 χ n i) ≤ 126 from by omega)) gX3_readStep_X3_readArgument 1 rfl (by decide +kernel) ⟨Nat.le_of_ble_eq_true rfl, Nat.le_of_ble_eq_true rfl, Nat.le_of_ble_eq_true rfl, Nat.le_of_ble_eq_true rfl⟩ 0 rfl (q := (RX3, TX3, 7)) rfl rfl [0, 1] [2, 3] [2, 3, 0, 1] rfl rfl ⟨rfl, rfl, rfl, by decide⟩ (fun _ => rfl) rfl (fun _ => rfl) hl.1 (Nat.le_of_ble_eq_true rfl) rfl dX3_readStep_49 (fun _ _ H locs B => ?_)
            refine z_if_ne S (pc := 52) (tgt := 57) (by omega) dX3_readStep_52 rfl (fun c18 => ?_) (fun c18 => ?_)
            · refine z_aload_n S (pc := 57) dX3_readStep_57 rfl (lv_at hl 1 rfl) ?_
              refine z_get S (pc := 58) B iX3_readStep_X3 0 rfl rfl 4 (by decide) rfl rfl (by decide +kernel) dX3_readStep_58 ?_
              refine z_aload_n S (pc := 61) dX3_readStep_61 rfl (lv_at hl 1 rfl) ?_
              refine z_get S (pc := 62) B iX3_readStep_X3 0 rfl rfl 2 (by decide) rfl rfl (by decide +kernel) dX3_readStep_62 ?_
              refine z_alen S (pc := 65) B 2 1 rfl rfl (n := 60) rfl dX3_readStep_65 ?_
              refine z_icmp_ge S (pc := 66) (tgt := 114) (by omega) (by omega) dX3_readStep_66 rfl (fun c19 => absurd c19 (by omega)) (fun c19 => ?_)
              refine z_aload_n S (pc := 69) dX3_readStep_69 rfl (lv_at hl 1 rfl) ?_
              refine z_get S (pc := 70) B iX3_readStep_X3 0 rfl rfl 4 (by decide) rfl rfl (by decide +kernel) dX3_readStep_70 ?_
              refine z_aload_n S (pc := 73) dX3_readStep_73 rfl (lv_at hl 1 rfl) ?_
              refine z_get S (pc := 74) B iX3_readStep_X3 0 rfl rfl 3 (by decide) rfl rfl (by decide +kernel) dX3_readStep_74 ?_
              refine z_alen S (pc := 77) B 3 1 rfl rfl (n := 60) rfl dX3_readStep_77 ?_
              refine z_icmp_ge S (pc := 78) (tgt := 114) (by omega) (by omega) dX3_readStep_78 rfl (fun c20 => absurd c20 (by omega)) (fun c20 => ?_)
              refine z_aload_n S (pc := 81) dX3_readStep_81 rfl (lv_at hl 1 rfl) ?_
              refine z_get S (pc := 82) B iX3_readStep_X3 0 rfl rfl 2 (by decide) rfl rfl (by decide +kernel) dX3_readStep_82 ?_
              refine z_aload_n S (pc := 85) dX3_readStep_85 rfl (lv_at hl 1 rfl) ?_
              refine z_get S (pc := 86) B iX3_readStep_X3 0 rfl rfl 4 (by decide) rfl rfl (by decide +kernel) dX3_readStep_86 ?_
              refine z_iload_n S (pc := 89) dX3_readStep_89 rfl (lv_at hl 0 rfl) ?_
              refine z_iast S (pc := 90) B 2 1 rfl rfl (k := (st).toNat) (by omega) (by omega) (by decide) dX3_readStep_90 (wn := [cPad a q1 q2 q3 n st ((carg χ n (chr0 χ n i) (i + 1)).2.2) ((carg χ n (chr0 χ n i) (i + 1)).2.1), cChr E q1 χ, cInt E q2 60 (up κ (st).toNat (chr0 χ n i)), cInt E q3 60 ν]) (by rw [iat_up]; rfl) (fun H locs B => ?_)
              refine z_aload_n S (pc := 91) dX3_readStep_91 rfl (lv_at hl 1 rfl) ?_
              refine z_get S (pc := 92) B iX3_readStep_X3 0 rfl rfl 3 (by decide) rfl rfl (by decide +kernel) dX3_readStep_92 ?_
              refine z_aload_n S (pc := 95) dX3_readStep_95 rfl (lv_at hl 1 rfl) ?_
              refine z_get S (pc := 96) B iX3_readStep_X3 0 rfl rfl 4 (by decide) rfl rfl (by decide +kernel) dX3_readStep_96 ?_
              refine z_aload_n S (pc := 99) dX3_readStep_99 rfl (lv_at hl 1 rfl) ?_
              refine z_get S (pc := 100) B iX3_readStep_X3 0 rfl rfl 6 (by decide) rfl rfl (by decide +kernel) dX3_readStep_100 ?_
              refine z_iast S (pc := 103) B 3 1 rfl rfl (k := (st).toNat) (by omega) (by omega) (by decide) dX3_readStep_103 (wn := [cPad a q1 q2 q3 n st ((carg χ n (chr0 χ n i) (i + 1)).2.2) ((carg χ n (chr0 χ n i) (i + 1)).2.1), cChr E q1 χ, cInt E q2 60 (up κ (st).toNat (chr0 χ n i)), cInt E q3 60 (up ν (st).toNat ((carg χ n (chr0 χ n i) (i + 1)).2.1))]) (by rw [iat_up]; rfl) (fun H locs B => ?_)
              refine z_aload_n S (pc := 104) dX3_readStep_104 rfl (lv_at hl 1 rfl) ?_
              refine lv_dup S.1 S.2.1 (pc := 105) dX3_readStep_105 rfl ?_
              refine z_get S (pc := 106) B iX3_readStep_X3 0 rfl rfl 4 (by decide) rfl rfl (by decide +kernel) dX3_readStep_106 ?_
              refine z_iconst S (pc := 109) dX3_readStep_109 ?_
              refine z_iadd S (pc := 110) dX3_readStep_110 ?_
              refine z_put S (pc := 111) B iX3_readStep_X3 tyX3_ok nmX3 0 rfl rfl 4 (by decide) rfl (by decide +kernel) (ty := .int) (by decide +kernel) rfl rfl (Nat.le_of_ble_eq_true rfl) dX3_readStep_111 (wn := [cPad a q1 q2 q3 n (st + 1) ((carg χ n (chr0 χ n i) (i + 1)).2.2) ((carg χ n (chr0 χ n i) (i + 1)).2.1), cChr E q1 χ, cInt E q2 60 (up κ (st).toNat (chr0 χ n i)), cInt E q3 60 (up ν (st).toNat ((carg χ n (chr0 χ n i) (i + 1)).2.1))]) rfl (fun H locs B => ?_)
              refine z_iconst S (pc := 114) dX3_readStep_114 ?_
              have hcs : cstp χ n i num st κ ν = (1, (carg χ n (chr0 χ n i) (i + 1)).2.1, (carg χ n (chr0 χ n i) (i + 1)).2.2, st + 1, up κ st.toNat (chr0 χ n i), up ν st.toNat (carg χ n (chr0 χ n i) (i + 1)).2.1) := by unfold cstp; rw [if_pos (by omega), if_neg c18]
              exact z_zreturn S (Or.inr rfl) hr hlk B () trivial (by rw [hcs]; try rfl) (by rw [hcs]; try rfl) (pc := 115) dX3_readStep_115
            · refine z_iconst S (pc := 55) dX3_readStep_55 ?_
              have hcs : cstp χ n i num st κ ν = (0, (carg χ n (chr0 χ n i) (i + 1)).2.1, (carg χ n (chr0 χ n i) (i + 1)).2.2, st, κ, ν) := by unfold cstp; rw [if_pos (by omega), if_pos c18]
              exact z_zreturn S (Or.inl rfl) hr hlk B () trivial (by rw [hcs]; try rfl) (by rw [hcs]; try rfl) (pc := 56) dX3_readStep_56
          · refine z_iconst S (pc := 35) dX3_readStep_35 ?_
            have hcs : cstp χ n i num st κ ν = (0, num, i, st, κ, ν) := by unfold cstp; rw [if_neg (by omega)]
            exact z_zreturn S (Or.inl rfl) hr hlk B () trivial (by rw [hcs]; try rfl) (by rw [hcs]; try rfl) (pc := 36) dX3_readStep_36
theorem iX3_findFault_X3 : ∀ w ∈ wsX30, w ∈ wsX3_findFault := by decide +kernel
set_option maxHeartbeats 4000000 in
set_option maxRecDepth 100000 in
theorem lpX3_findFault {p : Program} {l : Launch} {e : Env} {s : State} {m : MethodId} {args : Array Value} {below : List Frame} {meth : Method} {c : Code} {Q : State → Prop} {A : Nat → Prop} (E : gT) (S : CallFix p m c cX3_findFault 2 s args wsX3_findFault RX3) (a : Nat) (q1 : Nat) (q2 : Nat) (q3 : Nat) (n : Int) (χ : Nat → Int) (hn : 0 ≤ n ∧ n ≤ 60) (hX : inX χ) :
    ∀ (k : Nat) (i num st : Int) (κ ν : Nat → Int) (k0 : Int) (hi : 0 ≤ i ∧ i ≤ n) (hst : 0 ≤ st ∧ 2 * st ≤ i) (hk : 0 ≤ k0 ∧ k0 + (k : Int) = 61) (res : cTup) (hres : cfl χ n k i num st κ ν = res) (hx : ∀ (H : Heap) (locs : List Loc) (ls : Array Slot) (pc : Nat), bw E A s H locs [cPad a q1 q2 q3 n res.2.2.2.1 res.2.2.1 res.2.1, cChr E q1 χ, cInt E q2 60 res.2.2.2.2.1, cInt E q3 60 res.2.2.2.2.2] → (pc = 29 ∨ pc = 43 ∨ pc = 57 ∨ pc = 78) → W p l e ({ frames := 6, cells := 0, slots := 0, locals := 129 } : Room) s m args below meth c H locs 0 0 Q (F0 m pc ls [.int (iI res.1)])) (H : Heap) (locs : List Loc) (ls : Array Slot) (B : bw E A s H locs [cPad a q1 q2 q3 n st i num, cChr E q1 χ, cInt E q2 60 κ, cInt E q3 60 ν]) (hl : lv_has ls 2 [(0, .ref a), (1, .int (iI k0))]), W p l e ({ frames := 6, cells := 0, slots := 0, locals := 129 } : Room) s m args below meth c H locs 0 0 Q (F0 m 12 ls []) := by
  intro k
  induction k with
  | zero =>
    intro i num st κ ν k0 hi hst hk res hres hx H locs ls B hl
    have hcb := cstp_bd (num := num) (st := st) (κ := κ) (ν := ν) hX hn hi
    refine z_iload_n S (pc := 12) dX3_findFault_12 rfl (lv_at hl 1 rfl) ?_
    refine z_bipush S (pc := 13) dX3_findFault_13 rfl ?_
    refine z_icmp_gt S (pc := 15) (tgt := 74) (by omega) (by omega) dX3_findFault_15 rfl (fun c1 => ?_) (fun c1 => absurd c1 (by omega))
    refine z_aload_n S (pc := 74) dX3_findFault_74 rfl (lv_at hl 0 rfl) ?_
    refine z_get S (pc := 75) B iX3_findFault_X3 0 rfl rfl 5 (by decide) rfl rfl (by decide +kernel) dX3_findFault_75 ?_
    subst hres
    exact hx _ _ _ 78 B (by omega)
  | succ k ih =>
    intro i num st κ ν k0 hi hst hk res hres hx H locs ls B hl
    have hcb := cstp_bd (num := num) (st := st) (κ := κ) (ν := ν) hX hn hi
    refine z_iload_n S (pc := 12) dX3_findFault_12 rfl (lv_at hl 1 rfl) ?_
    refine z_bipush S (pc := 13) dX3_findFault_13 rfl ?_
    refine z_icmp_gt S (pc := 15) (tgt := 74) (by omega) (by omega) dX3_findFault_15 rfl (fun c1 => absurd c1 (by omega)) (fun c1 => ?_)
    refine z_aload_n S (pc := 18) dX3_findFault_18 rfl (lv_at hl 0 rfl) ?_
    refine z_callV S (pc := 19) B (wr := []) (wn := fun _ => [cPad a q1 q2 q3 n ((cstp χ n i num st κ ν).2.2.2.1) ((cstp χ n i num st κ ν).2.2.1) ((cstp χ n i num st κ ν).2.1), cChr E q1 χ, cInt E q2 60 ((cstp χ n i num st κ ν).2.2.2.2.1), cInt E q3 60 ((cstp χ n i num st κ ν).2.2.2.2.2)]) (st1 := fun _ => [.int (iI ((cstp χ n i num st κ ν).1))]) (As := []) (mX3_readStep l E a q1 q2 q3 n st i num χ κ ν (show 0 ≤ n ∧ n ≤ 60 from by omega) (show 0 ≤ i ∧ i ≤ n from by omega) (show inX χ from by assumption) (show 0 ≤ st ∧ 2 * st ≤ i from by omega)) gX3_findFault_X3_readStep 0 rfl (by decide +kernel) ⟨Nat.le_of_ble_eq_true rfl, Nat.le_of_ble_eq_true rfl, Nat.le_of_ble_eq_true rfl, Nat.le_of_ble_eq_true rfl⟩ 0 rfl (q := (RX3, TX3, 7)) rfl rfl [0, 1, 2, 3] [] [0, 1, 2, 3] rfl rfl ⟨rfl, rfl, rfl, by decide⟩ (fun _ => rfl) rfl (fun _ => rfl) hl.1 (Nat.le_of_ble_eq_true rfl) rfl dX3_findFault_19 (fun _ _ H locs B => ?_)
    refine z_if_ne S (pc := 22) (tgt := 30) (by omega) dX3_findFault_22 rfl (fun c2 => ?_) (fun c2 => ?_)
    · refine z_aload_n S (pc := 30) dX3_findFault_30 rfl (lv_at hl 0 rfl) ?_
      refine z_get S (pc := 31) B iX3_findFault_X3 0 rfl rfl 5 (by decide) rfl rfl (by decide +kernel) dX3_findFault_31 ?_
      refine z_aload_n S (pc := 34) dX3_findFault_34 rfl (lv_at hl 0 rfl) ?_
      refine z_get S (pc := 35) B iX3_findFault_X3 0 rfl rfl 1 (by decide) rfl rfl (by decide +kernel) dX3_findFault_35 ?_
      refine z_icmp_lt S (pc := 38) (tgt := 44) (by omega) (by omega) dX3_findFault_38 rfl (fun c3 => ?_) (fun c3 => ?_)
      · refine z_aload_n S (pc := 44) dX3_findFault_44 rfl (lv_at hl 0 rfl) ?_
        refine z_callV S (pc := 45) B (wr := [cInt E q2 60 ((cstp χ n i num st κ ν).2.2.2.2.1), cInt E q3 60 ((cstp χ n i num st κ ν).2.2.2.2.2)]) (wn := fun _ => [cPad a q1 q2 q3 n ((cstp χ n i num st κ ν).2.2.2.1) ((cstp χ n i num st κ ν).2.2.1) ((cstp χ n i num st κ ν).2.1), cChr E q1 χ, cInt E q2 60 ((cstp χ n i num st κ ν).2.2.2.2.1), cInt E q3 60 ((cstp χ n i num st κ ν).2.2.2.2.2)]) (st1 := fun _ => [.int (iI (chr0 χ n ((cstp χ n i num st κ ν).2.2.1)))]) (As := []) (mX3_signHere l E a q1 q2 q3 n ((cstp χ n i num st κ ν).2.2.2.1) ((cstp χ n i num st κ ν).2.2.1) ((cstp χ n i num st κ ν).2.1) χ (show 0 ≤ n ∧ n ≤ 60 from by omega) (show 0 ≤ ((cstp χ n i num st κ ν).2.2.1) ∧ ((cstp χ n i num st κ ν).2.2.1) ≤ n from by omega) (show inX χ from by assumption)) gX3_findFault_X3_signHere 0 rfl (by decide +kernel) ⟨Nat.le_of_ble_eq_true rfl, Nat.le_of_ble_eq_true rfl, Nat.le_of_ble_eq_true rfl, Nat.le_of_ble_eq_true rfl⟩ 0 rfl (q := (RX3, TX3, 7)) rfl rfl [0, 1] [2, 3] [2, 3, 0, 1] rfl rfl ⟨rfl, rfl, rfl, by decide⟩ (fun _ => rfl) rfl (fun _ => rfl) hl.1 (Nat.le_of_ble_eq_true rfl) rfl dX3_findFault_45 (fun _ _ H locs B => ?_)
        have hc2 := chr0_bd (i := (cstp χ n i num st κ ν).2.2.1) hX hn.2
        refine z_bipush S (pc := 48) dX3_findFault_48 rfl ?_
        refine z_icmp_eq S (pc := 50) (tgt := 58) (by omega) (by omega) dX3_findFault_50 rfl (fun c4 => ?_) (fun c4 => ?_)
        · refine z_aload_n S (pc := 58) dX3_findFault_58 rfl (lv_at hl 0 rfl) ?_
          refine lv_dup S.1 S.2.1 (pc := 59) dX3_findFault_59 rfl ?_
          refine z_get S (pc := 60) B iX3_findFault_X3 0 rfl rfl 5 (by decide) rfl rfl (by decide +kernel) dX3_findFault_60 ?_
          refine z_iconst S (pc := 63) dX3_findFault_63 ?_
          refine z_iadd S (pc := 64) dX3_findFault_64 ?_
          refine z_put S (pc := 65) B iX3_findFault_X3 tyX3_ok nmX3 0 rfl rfl 5 (by decide) rfl (by decide +kernel) (ty := .int) (by decide +kernel) rfl rfl (Nat.le_of_ble_eq_true rfl) dX3_findFault_65 (wn := [cPad a q1 q2 q3 n ((cstp χ n i num st κ ν).2.2.2.1) (((cstp χ n i num st κ ν).2.2.1) + 1) ((cstp χ n i num st κ ν).2.1), cChr E q1 χ, cInt E q2 60 ((cstp χ n i num st κ ν).2.2.2.2.1), cInt E q3 60 ((cstp χ n i num st κ ν).2.2.2.2.2)]) rfl (fun H locs B => ?_)
          refine lv_iinc (v := iI (k0 + 1)) (lv' := [(1, .int (iI (k0 + 1))), (0, .ref a)]) S.1 S.2.1 (pc := 68) dX3_findFault_68 hl (k := 1) rfl (iI_add _ _) (by decide) rfl (fun ls hl => ?_)
          refine lv_goto S.1 S.2.1 (pc := 71) (tgt := 12) dX3_findFault_71 rfl ?_
          have hcl := chr0_lt (χ := χ) (n := n) (i := (cstp χ n i num st κ ν).2.2.1) (by omega)
          exact ih ((cstp χ n i num st κ ν).2.2.1 + 1) (cstp χ n i num st κ ν).2.1 (cstp χ n i num st κ ν).2.2.2.1 (cstp χ n i num st κ ν).2.2.2.2.1 (cstp χ n i num st κ ν).2.2.2.2.2 (k0 + 1) (by omega) (by omega) (by omega) res (by rw [← hres]; simp only [cfl]; rw [if_neg c2, if_neg (by omega), if_neg (by omega)]) hx _ _ _ B (lv_sub hl [1, 0] rfl)
        · refine z_aload_n S (pc := 53) dX3_findFault_53 rfl (lv_at hl 0 rfl) ?_
          refine z_get S (pc := 54) B iX3_findFault_X3 0 rfl rfl 5 (by decide) rfl rfl (by decide +kernel) dX3_findFault_54 ?_
          have hres : ((cstp χ n i num st κ ν).2.2.1, (cstp χ n i num st κ ν).2) = res := by rw [← hres]; simp only [cfl]; rw [if_neg c2, if_neg (by omega), if_pos c4]
          subst hres
          exact hx _ _ _ 57 B (by omega)
      · refine z_bipush S (pc := 41) dX3_findFault_41 rfl ?_
        have hres : ((-6 : Int), (cstp χ n i num st κ ν).2) = res := by rw [← hres]; simp only [cfl]; rw [if_neg c2, if_pos c3]
        subst hres
        exact hx _ _ _ 43 B (by omega)
    · refine z_aload_n S (pc := 25) dX3_findFault_25 rfl (lv_at hl 0 rfl) ?_
      refine z_get S (pc := 26) B iX3_findFault_X3 0 rfl rfl 5 (by decide) rfl rfl (by decide +kernel) dX3_findFault_26 ?_
      have hres : ((cstp χ n i num st κ ν).2.2.1, (cstp χ n i num st κ ν).2) = res := by rw [← hres]; simp only [cfl]; rw [if_pos c2]
      subst hres
      exact hx _ _ _ 29 B (by omega)
set_option maxHeartbeats 4000000 in
set_option maxRecDepth 100000 in
theorem mX3_findFault (l : Launch) (E : gT) (a : Nat) (q1 : Nat) (q2 : Nat) (q3 : Nat) (n : Int) (st : Int) (i : Int) (num : Int) (χ : Nat → Int) (κ : Nat → Int) (ν : Nat → Int) (hn : 0 ≤ n ∧ n ≤ 60) (hX : inX χ) : Cd l E yX3_findFault wsX3_findFault 6 129 0 0 [.ref a] [cPad a q1 q2 q3 n st i num, cChr E q1 χ, cInt E q2 60 κ, cInt E q3 60 ν] (some (.int (iI ((cfl χ n 61 0 num 0 κ ν).1)))) [cPad a q1 q2 q3 n ((cfl χ n 61 0 num 0 κ ν).2.2.2.1) ((cfl χ n 61 0 num 0 κ ν).2.2.1) ((cfl χ n 61 0 num 0 κ ν).2.1), cChr E q1 χ, cInt E q2 60 ((cfl χ n 61 0 num 0 κ ν).2.2.2.2.1), cInt E q3 60 ((cfl χ n 61 0 num 0 κ ν).2.2.2.2.2)] := by
  refine Ct.mk (cc := cX3_findFault) (maxL := 2) (ret := (some .int)) (plainFor_of_name (by decide)) rfl (Nat.le_of_ble_eq_true rfl) ?_
  intro p e s m below meth c A ls H locs S hr hlk hnm B hl
  have S : CallFix p m c cX3_findFault 2 s #[.ref a] wsX3_findFault RX3 := S
  have hl : lv_has ls 2 [(0, .ref a)] := hl
  refine z_aload_n S (pc := 0) dX3_findFault_0 rfl (lv_at hl 0 rfl) ?_
  refine z_iconst S (pc := 1) dX3_findFault_1 ?_
  refine z_put S (pc := 2) B iX3_findFault_X3 tyX3_ok nmX3 0 rfl rfl 5 (by decide) rfl (by decide +kernel) (ty := .int) (by decide +kernel) rfl rfl (Nat.le_of_ble_eq_true rfl) dX3_findFault_2 (wn := [cPad a q1 q2 q3 n st 0 num, cChr E q1 χ, cInt E q2 60 κ, cInt E q3 60 ν]) rfl (fun H locs B => ?_)
  refine z_aload_n S (pc := 5) dX3_findFault_5 rfl (lv_at hl 0 rfl) ?_
  refine z_iconst S (pc := 6) dX3_findFault_6 ?_
  refine z_put S (pc := 7) B iX3_findFault_X3 tyX3_ok nmX3 0 rfl rfl 4 (by decide) rfl (by decide +kernel) (ty := .int) (by decide +kernel) rfl rfl (Nat.le_of_ble_eq_true rfl) dX3_findFault_7 (wn := [cPad a q1 q2 q3 n 0 0 num, cChr E q1 χ, cInt E q2 60 κ, cInt E q3 60 ν]) rfl (fun H locs B => ?_)
  refine z_iconst S (pc := 10) dX3_findFault_10 ?_
  refine lv_istore_n (lv' := [(1, .int (iI 0)), (0, .ref a)]) S.1 S.2.1 (pc := 11) dX3_findFault_11 rfl hl (by decide) rfl (fun ls hl => ?_)
  refine lpX3_findFault E S a q1 q2 q3 n χ hn hX 61 0 num 0 κ ν 0 (by omega) (by omega) (by omega) (cfl χ n 61 0 num 0 κ ν) rfl (fun H locs ls pc B hp => ?_) _ _ _ B (lv_sub hl [1, 0] rfl)
  rcases hp with rfl | rfl | rfl | rfl
  · exact z_ireturn S hr hlk B () trivial rfl rfl (pc := 29) dX3_findFault_29
  · exact z_ireturn S hr hlk B () trivial rfl rfl (pc := 43) dX3_findFault_43
  · exact z_ireturn S hr hlk B () trivial rfl rfl (pc := 57) dX3_findFault_57
  · exact z_ireturn S hr hlk B () trivial rfl rfl (pc := 78) dX3_findFault_78
theorem iX3_kindOf_X3 : ∀ w ∈ wsX30, w ∈ wsX3_kindOf := by decide +kernel
set_option maxHeartbeats 4000000 in
set_option maxRecDepth 100000 in
theorem mX3_kindOf (l : Launch) (E : gT) (a : Nat) (q1 : Nat) (q2 : Nat) (q3 : Nat) (n : Int) (st : Int) (i : Int) (num : Int) (χ : Nat → Int) (κ : Nat → Int) (ν : Nat → Int) (k : Int) (hk : 0 ≤ k ∧ k < 60) : Cd l E yX3_kindOf wsX3_kindOf 0 0 0 0 [.ref a, .int (iI k)] [cPad a q1 q2 q3 n st i num, cInt E q2 60 κ] (some (.int (iI (κ k.toNat)))) [cPad a q1 q2 q3 n st i num, cInt E q2 60 κ] := by
  refine Ct.mk (cc := cX3_kindOf) (maxL := 2) (ret := (some .int)) (plainFor_of_name (by decide)) rfl (Nat.le_of_ble_eq_true rfl) ?_
  intro p e s m below meth c A ls H locs S hr hlk hnm B hl
  have S : CallFix p m c cX3_kindOf 2 s #[.ref a, .int (iI k)] wsX3_kindOf RX3 := S
  have hl : lv_has ls 2 [(0, .ref a), (1, .int (iI k))] := hl
  refine z_iload_n S (pc := 0) dX3_kindOf_0 rfl (lv_at hl 1 rfl) ?_
  refine z_if_lt S (pc := 1) (tgt := 13) (by omega) dX3_kindOf_1 rfl (fun c1 => absurd c1 (by omega)) (fun c1 => ?_)
  refine z_iload_n S (pc := 4) dX3_kindOf_4 rfl (lv_at hl 1 rfl) ?_
  refine z_aload_n S (pc := 5) dX3_kindOf_5 rfl (lv_at hl 0 rfl) ?_
  refine z_get S (pc := 6) B iX3_kindOf_X3 0 rfl rfl 2 (by decide) rfl rfl (by decide +kernel) dX3_kindOf_6 ?_
  refine z_alen S (pc := 9) B 1 1 rfl rfl (n := 60) rfl dX3_kindOf_9 ?_
  refine z_icmp_lt S (pc := 10) (tgt := 17) (by omega) (by omega) dX3_kindOf_10 rfl (fun c2 => ?_) (fun c2 => absurd c2 (by omega))
  refine z_aload_n S (pc := 17) dX3_kindOf_17 rfl (lv_at hl 0 rfl) ?_
  refine z_get S (pc := 18) B iX3_kindOf_X3 0 rfl rfl 2 (by decide) rfl rfl (by decide +kernel) dX3_kindOf_18 ?_
  refine z_iload_n S (pc := 21) dX3_kindOf_21 rfl (lv_at hl 1 rfl) ?_
  refine z_iald S (pc := 22) B 1 1 rfl rfl (k := (k).toNat) (by omega) (by omega) (by decide) (v := .int (iI (κ (k).toNat))) rfl dX3_kindOf_22 ?_
  exact z_ireturn S hr hlk B () trivial rfl rfl (pc := 23) dX3_kindOf_23
theorem iX3_numberOf_X3 : ∀ w ∈ wsX30, w ∈ wsX3_numberOf := by decide +kernel
set_option maxHeartbeats 4000000 in
set_option maxRecDepth 100000 in
theorem mX3_numberOf (l : Launch) (E : gT) (a : Nat) (q1 : Nat) (q2 : Nat) (q3 : Nat) (n : Int) (st : Int) (i : Int) (num : Int) (χ : Nat → Int) (κ : Nat → Int) (ν : Nat → Int) (k : Int) (hk : 0 ≤ k ∧ k < 60) : Cd l E yX3_numberOf wsX3_numberOf 0 0 0 0 [.ref a, .int (iI k)] [cPad a q1 q2 q3 n st i num, cInt E q3 60 ν] (some (.int (iI (ν k.toNat)))) [cPad a q1 q2 q3 n st i num, cInt E q3 60 ν] := by
  refine Ct.mk (cc := cX3_numberOf) (maxL := 2) (ret := (some .int)) (plainFor_of_name (by decide)) rfl (Nat.le_of_ble_eq_true rfl) ?_
  intro p e s m below meth c A ls H locs S hr hlk hnm B hl
  have S : CallFix p m c cX3_numberOf 2 s #[.ref a, .int (iI k)] wsX3_numberOf RX3 := S
  have hl : lv_has ls 2 [(0, .ref a), (1, .int (iI k))] := hl
  refine z_iload_n S (pc := 0) dX3_numberOf_0 rfl (lv_at hl 1 rfl) ?_
  refine z_if_lt S (pc := 1) (tgt := 13) (by omega) dX3_numberOf_1 rfl (fun c1 => absurd c1 (by omega)) (fun c1 => ?_)
  refine z_iload_n S (pc := 4) dX3_numberOf_4 rfl (lv_at hl 1 rfl) ?_
  refine z_aload_n S (pc := 5) dX3_numberOf_5 rfl (lv_at hl 0 rfl) ?_
  refine z_get S (pc := 6) B iX3_numberOf_X3 0 rfl rfl 3 (by decide) rfl rfl (by decide +kernel) dX3_numberOf_6 ?_
  refine z_alen S (pc := 9) B 1 1 rfl rfl (n := 60) rfl dX3_numberOf_9 ?_
  refine z_icmp_lt S (pc := 10) (tgt := 17) (by omega) (by omega) dX3_numberOf_10 rfl (fun c2 => ?_) (fun c2 => absurd c2 (by omega))
  refine z_aload_n S (pc := 17) dX3_numberOf_17 rfl (lv_at hl 0 rfl) ?_
  refine z_get S (pc := 18) B iX3_numberOf_X3 0 rfl rfl 3 (by decide) rfl rfl (by decide +kernel) dX3_numberOf_18 ?_
  refine z_iload_n S (pc := 21) dX3_numberOf_21 rfl (lv_at hl 1 rfl) ?_
  refine z_iald S (pc := 22) B 1 1 rfl rfl (k := (k).toNat) (by omega) (by omega) (by decide) (v := .int (iI (ν (k).toNat))) rfl dX3_numberOf_22 ?_
  exact z_ireturn S hr hlk B () trivial rfl rfl (pc := 23) dX3_numberOf_23
/-- how many readings the steps make -/
def sumS (κ ν : Nat → Int) : Nat → Int → Int → Int
  | 0, _, x => x
  | m + 1, k, x => sumS κ ν m (k + 1) (if κ k.toNat = 114 then x + ν k.toNat else x)
theorem iX3_countReadings_X3 : ∀ w ∈ wsX30, w ∈ wsX3_countReadings := by decide +kernel
set_option maxHeartbeats 4000000 in
set_option maxRecDepth 100000 in
theorem lpX3_countReadings {p : Program} {l : Launch} {e : Env} {s : State} {m : MethodId} {args : Array Value} {below : List Frame} {meth : Method} {c : Code} {Q : State → Prop} {A : Nat → Prop} (E : gT) (S : CallFix p m c cX3_countReadings 3 s args wsX3_countReadings RX3) (a : Nat) (q1 : Nat) (q2 : Nat) (q3 : Nat) (n : Int) (st : Int) (i : Int) (num : Int) (χ : Nat → Int) (κ : Nat → Int) (ν : Nat → Int) (hst : 0 ≤ st ∧ st ≤ 59) (hK : ∀ z : Nat, (z : Int) < st → 0 ≤ κ z ∧ κ z ≤ 126) :
    ∀ (n0 : Nat) (k : Int) (x : Int) (hk : 0 ≤ k ∧ k + (n0 : Int) = st) (res : Int) (hres : sumS κ ν n0 k x = res) (hx : ∀  (H : Heap) (locs : List Loc) (ls : Array Slot), bw E A s H locs [cPad a q1 q2 q3 n st i num, cInt E q2 60 κ, cInt E q3 60 ν] → lv_has ls 3 [(0, .ref a), (1, .int (iI res))] → W p l e ({ frames := 1, cells := 0, slots := 0, locals := 21 } : Room) s m args below meth c H locs 0 0 Q (F0 m 36 ls [])) (H : Heap) (locs : List Loc) (ls : Array Slot) (B : bw E A s H locs [cPad a q1 q2 q3 n st i num, cInt E q2 60 κ, cInt E q3 60 ν]) (hl : lv_has ls 3 [(0, .ref a), (1, .int (iI x)), (2, .int (iI k))]), W p l e ({ frames := 1, cells := 0, slots := 0, locals := 21 } : Room) s m args below meth c H locs 0 0 Q (F0 m 4 ls []) := by
  intro n0
  induction n0 with
  | zero =>
    intro k x hk res hres hx H locs ls B hl
    have hkk := hK k.toNat
    refine z_iload_n S (pc := 4) dX3_countReadings_4 rfl (lv_at hl 2 rfl) ?_
    refine z_aload_n S (pc := 5) dX3_countReadings_5 rfl (lv_at hl 0 rfl) ?_
    refine z_get S (pc := 6) B iX3_countReadings_X3 0 rfl rfl 4 (by decide) rfl rfl (by decide +kernel) dX3_countReadings_6 ?_
    refine z_icmp_ge S (pc := 9) (tgt := 36) (by omega) (by omega) dX3_countReadings_9 rfl (fun c1 => ?_) (fun c1 => absurd c1 (by omega))
    subst hres
    exact hx _ _ _ B (lv_sub hl [0, 1] rfl)
  | succ n0 ih =>
    intro k x hk res hres hx H locs ls B hl
    have hkk := hK k.toNat
    refine z_iload_n S (pc := 4) dX3_countReadings_4 rfl (lv_at hl 2 rfl) ?_
    refine z_aload_n S (pc := 5) dX3_countReadings_5 rfl (lv_at hl 0 rfl) ?_
    refine z_get S (pc := 6) B iX3_countReadings_X3 0 rfl rfl 4 (by decide) rfl rfl (by decide +kernel) dX3_countReadings_6 ?_
    refine z_icmp_ge S (pc := 9) (tgt := 36) (by omega) (by omega) dX3_countReadings_9 rfl (fun c1 => ?_) (fun c1 => ?_)
    · exact absurd c1 (by omega)
    · refine z_aload_n S (pc := 12) dX3_countReadings_12 rfl (lv_at hl 0 rfl) ?_
      refine z_iload_n S (pc := 13) dX3_countReadings_13 rfl (lv_at hl 2 rfl) ?_
      refine z_callV S (pc := 14) B (wr := [cInt E q3 60 ν]) (wn := fun _ => [cPad a q1 q2 q3 n st i num, cInt E q2 60 κ, cInt E q3 60 ν]) (st1 := fun _ => [.int (iI (κ k.toNat))]) (As := [.int (iI k)]) (mX3_kindOf l E a q1 q2 q3 n st i num (fun _ => 0) κ ν k (show 0 ≤ k ∧ k < 60 from by omega)) gX3_countReadings_X3_kindOf 1 rfl (by decide +kernel) ⟨Nat.le_of_ble_eq_true rfl, Nat.le_of_ble_eq_true rfl, Nat.le_of_ble_eq_true rfl, Nat.le_of_ble_eq_true rfl⟩ 0 rfl (q := (RX3, TX3, 7)) rfl rfl [0, 1] [2] [1, 2, 0] rfl rfl ⟨rfl, rfl, rfl, by decide⟩ (fun _ => rfl) rfl (fun _ => rfl) hl.1 (Nat.le_of_ble_eq_true rfl) rfl dX3_countReadings_14 (fun _ _ H locs B => ?_)
      refine z_bipush S (pc := 17) dX3_countReadings_17 rfl ?_
      refine z_icmp_ne S (pc := 19) (tgt := 30) (by omega) (by omega) dX3_countReadings_19 rfl (fun c2 => ?_) (fun c2 => ?_)
      · refine lv_iinc (v := iI (k + 1)) (lv' := [(2, .int (iI (k + 1))), (0, .ref a), (1, .int (iI x))]) S.1 S.2.1 (pc := 30) dX3_countReadings_30 hl (k := 2) rfl (iI_add _ _) (by decide) rfl (fun ls hl => ?_)
        refine lv_goto S.1 S.2.1 (pc := 33) (tgt := 4) dX3_countReadings_33 rfl ?_
        exact ih (k + 1) x (by omega) res (by rw [← hres]; simp only [sumS]; rw [if_neg c2]) hx _ _ _ B (lv_sub hl [1, 2, 0] rfl)
      · refine z_iload_n S (pc := 22) dX3_countReadings_22 rfl (lv_at hl 1 rfl) ?_
        refine z_aload_n S (pc := 23) dX3_countReadings_23 rfl (lv_at hl 0 rfl) ?_
        refine z_iload_n S (pc := 24) dX3_countReadings_24 rfl (lv_at hl 2 rfl) ?_
        refine z_callV S (pc := 25) B (wr := [cInt E q2 60 κ]) (wn := fun _ => [cPad a q1 q2 q3 n st i num, cInt E q2 60 κ, cInt E q3 60 ν]) (st1 := fun _ => [.int (iI (ν k.toNat)), .int (iI x)]) (As := [.int (iI k)]) (mX3_numberOf l E a q1 q2 q3 n st i num (fun _ => 0) κ ν k (show 0 ≤ k ∧ k < 60 from by omega)) gX3_countReadings_X3_numberOf 1 rfl (by decide +kernel) ⟨Nat.le_of_ble_eq_true rfl, Nat.le_of_ble_eq_true rfl, Nat.le_of_ble_eq_true rfl, Nat.le_of_ble_eq_true rfl⟩ 0 rfl (q := (RX3, TX3, 7)) rfl rfl [0, 2] [1] [1, 0, 2] rfl rfl ⟨rfl, rfl, rfl, by decide⟩ (fun _ => rfl) rfl (fun _ => rfl) hl.1 (Nat.le_of_ble_eq_true rfl) rfl dX3_countReadings_25 (fun _ _ H locs B => ?_)
        refine z_iadd S (pc := 28) dX3_countReadings_28 ?_
        refine lv_istore_n (lv' := [(1, .int (iI (x + (ν k.toNat)))), (0, .ref a), (2, .int (iI k))]) S.1 S.2.1 (pc := 29) dX3_countReadings_29 rfl hl (by decide) rfl (fun ls hl => ?_)
        refine lv_iinc (v := iI (k + 1)) (lv' := [(2, .int (iI (k + 1))), (1, .int (iI (x + (ν k.toNat)))), (0, .ref a)]) S.1 S.2.1 (pc := 30) dX3_countReadings_30 hl (k := 2) rfl (iI_add _ _) (by decide) rfl (fun ls hl => ?_)
        refine lv_goto S.1 S.2.1 (pc := 33) (tgt := 4) dX3_countReadings_33 rfl ?_
        exact ih (k + 1) (x + (ν k.toNat)) (by omega) res (by rw [← hres]; simp only [sumS]; rw [if_pos c2]) hx _ _ _ B (lv_sub hl [2, 1, 0] rfl)
set_option maxHeartbeats 4000000 in
set_option maxRecDepth 100000 in
theorem mX3_countReadings (l : Launch) (E : gT) (a : Nat) (q1 : Nat) (q2 : Nat) (q3 : Nat) (n : Int) (st : Int) (i : Int) (num : Int) (χ : Nat → Int) (κ : Nat → Int) (ν : Nat → Int) (hst : 0 ≤ st ∧ st ≤ 59) (hK : ∀ z : Nat, (z : Int) < st → 0 ≤ κ z ∧ κ z ≤ 126) : Cd l E yX3_countReadings wsX3_countReadings 1 21 0 0 [.ref a] [cPad a q1 q2 q3 n st i num, cInt E q2 60 κ, cInt E q3 60 ν] (some (.int (iI (sumS κ ν st.toNat 0 0)))) [cPad a q1 q2 q3 n st i num, cInt E q2 60 κ, cInt E q3 60 ν] := by
  refine Ct.mk (cc := cX3_countReadings) (maxL := 3) (ret := (some .int)) (plainFor_of_name (by decide)) rfl (Nat.le_of_ble_eq_true rfl) ?_
  intro p e s m below meth c A ls H locs S hr hlk hnm B hl
  have S : CallFix p m c cX3_countReadings 3 s #[.ref a] wsX3_countReadings RX3 := S
  have hl : lv_has ls 3 [(0, .ref a)] := hl
  refine z_iconst S (pc := 0) dX3_countReadings_0 ?_
  refine lv_istore_n (lv' := [(1, .int (iI 0)), (0, .ref a)]) S.1 S.2.1 (pc := 1) dX3_countReadings_1 rfl hl (by decide) rfl (fun ls hl => ?_)
  refine z_iconst S (pc := 2) dX3_countReadings_2 ?_
  refine lv_istore_n (lv' := [(2, .int (iI 0)), (1, .int (iI 0)), (0, .ref a)]) S.1 S.2.1 (pc := 3) dX3_countReadings_3 rfl hl (by decide) rfl (fun ls hl => ?_)
  obtain ⟨z, hz⟩ : ∃ z, sumS κ ν st.toNat 0 0 = z := ⟨_, rfl⟩
  refine lpX3_countReadings E S a q1 q2 q3 n st i num χ κ ν hst hK st.toNat 0 0 (by omega) z hz (fun H locs ls B hl => ?_) _ _ _ B (lv_sub hl [2, 1, 0] rfl)
  refine z_iload_n S (pc := 36) dX3_countReadings_36 rfl (lv_at hl 1 rfl) ?_
  exact z_ireturn S hr hlk B () trivial (by rw [hz]) rfl (pc := 37) dX3_countReadings_37
theorem iX3_append_X3 : ∀ w ∈ wsX30, w ∈ wsX3_append := by decide +kernel
set_option maxHeartbeats 4000000 in
set_option maxRecDepth 100000 in
theorem mX3_append (l : Launch) (E : gT) (a : Nat) (q1 : Nat) (q2 : Nat) (q3 : Nat) (n : Int) (st : Int) (i : Int) (num : Int) (χ : Nat → Int) (κ : Nat → Int) (ν : Nat → Int) (x : Int) (hn : 0 ≤ n ∧ n < 60) (hx : 0 ≤ x ∧ x ≤ 126) : Cd l E yX3_append wsX3_append 0 0 0 0 [.ref a, .int (iI x)] [cPad a q1 q2 q3 n st i num, cChr E q1 χ] (some (.int (iI 1))) [cPad a q1 q2 q3 (n + 1) st i num, cChr E q1 (up χ n.toNat x)] := by
  refine Ct.mk (cc := cX3_append) (maxL := 2) (ret := (some .boolean)) (plainFor_of_name (by decide)) rfl (Nat.le_of_ble_eq_true rfl) ?_
  intro p e s m below meth c A ls H locs S hr hlk hnm B hl
  have S : CallFix p m c cX3_append 2 s #[.ref a, .int (iI x)] wsX3_append RX3 := S
  have hl : lv_has ls 2 [(0, .ref a), (1, .int (iI x))] := hl
  refine z_aload_n S (pc := 0) dX3_append_0 rfl (lv_at hl 0 rfl) ?_
  refine z_get S (pc := 1) B iX3_append_X3 0 rfl rfl 1 (by decide) rfl rfl (by decide +kernel) dX3_append_1 ?_
  refine z_if_lt S (pc := 4) (tgt := 19) (by omega) dX3_append_4 rfl (fun c1 => absurd c1 (by omega)) (fun c1 => ?_)
  refine z_aload_n S (pc := 7) dX3_append_7 rfl (lv_at hl 0 rfl) ?_
  refine z_get S (pc := 8) B iX3_append_X3 0 rfl rfl 1 (by decide) rfl rfl (by decide +kernel) dX3_append_8 ?_
  refine z_aload_n S (pc := 11) dX3_append_11 rfl (lv_at hl 0 rfl) ?_
  refine z_get S (pc := 12) B iX3_append_X3 0 rfl rfl 0 (by decide) rfl rfl (by decide +kernel) dX3_append_12 ?_
  refine z_alen S (pc := 15) B 1 0 rfl rfl (n := 60) rfl dX3_append_15 ?_
  refine z_icmp_lt S (pc := 16) (tgt := 21) (by omega) (by omega) dX3_append_16 rfl (fun c2 => ?_) (fun c2 => absurd c2 (by omega))
  refine z_aload_n S (pc := 21) dX3_append_21 rfl (lv_at hl 0 rfl) ?_
  refine z_get S (pc := 22) B iX3_append_X3 0 rfl rfl 0 (by decide) rfl rfl (by decide +kernel) dX3_append_22 ?_
  refine z_aload_n S (pc := 25) dX3_append_25 rfl (lv_at hl 0 rfl) ?_
  refine z_get S (pc := 26) B iX3_append_X3 0 rfl rfl 1 (by decide) rfl rfl (by decide +kernel) dX3_append_26 ?_
  refine z_iload_n S (pc := 29) dX3_append_29 rfl (lv_at hl 1 rfl) ?_
  refine z_cast S (pc := 30) B 1 0 rfl rfl (k := (n).toNat) (by omega) (by omega) (by decide) (nar_v hx) dX3_append_30 (wn := [cPad a q1 q2 q3 n st i num, cChr E q1 (up χ (n).toNat x)]) (by rw [iat_up]; rfl) (fun H locs B => ?_)
  refine z_aload_n S (pc := 31) dX3_append_31 rfl (lv_at hl 0 rfl) ?_
  refine lv_dup S.1 S.2.1 (pc := 32) dX3_append_32 rfl ?_
  refine z_get S (pc := 33) B iX3_append_X3 0 rfl rfl 1 (by decide) rfl rfl (by decide +kernel) dX3_append_33 ?_
  refine z_iconst S (pc := 36) dX3_append_36 ?_
  refine z_iadd S (pc := 37) dX3_append_37 ?_
  refine z_put S (pc := 38) B iX3_append_X3 tyX3_ok nmX3 0 rfl rfl 1 (by decide) rfl (by decide +kernel) (ty := .int) (by decide +kernel) rfl rfl (Nat.le_of_ble_eq_true rfl) dX3_append_38 (wn := [cPad a q1 q2 q3 (n + 1) st i num, cChr E q1 (up χ (n).toNat x)]) rfl (fun H locs B => ?_)
  refine z_iconst S (pc := 41) dX3_append_41 ?_
  exact z_zreturn S (by omega) hr hlk B () trivial rfl rfl (pc := 42) dX3_append_42
set_option maxHeartbeats 4000000 in
set_option maxRecDepth 100000 in
theorem mX3_append_m (l : Launch) (E : gT) (a : Nat) (q1 : Nat) (q2 : Nat) (q3 : Nat) (n : Int) (st : Int) (i : Int) (num : Int) (χ : Nat → Int) (κ : Nat → Int) (ν : Nat → Int) (x : Int) (hn : n = 60) (hx : 0 ≤ x ∧ x ≤ 126) : Cd l E yX3_append wsX3_append 0 0 0 0 [.ref a, .int (iI x)] [cPad a q1 q2 q3 n st i num, cChr E q1 χ] (some (.int (iI 0))) [cPad a q1 q2 q3 n st i num, cChr E q1 χ] := by
  refine Ct.mk (cc := cX3_append) (maxL := 2) (ret := (some .boolean)) (plainFor_of_name (by decide)) rfl (Nat.le_of_ble_eq_true rfl) ?_
  intro p e s m below meth c A ls H locs S hr hlk hnm B hl
  have S : CallFix p m c cX3_append 2 s #[.ref a, .int (iI x)] wsX3_append RX3 := S
  have hl : lv_has ls 2 [(0, .ref a), (1, .int (iI x))] := hl
  refine z_aload_n S (pc := 0) dX3_append_0 rfl (lv_at hl 0 rfl) ?_
  refine z_get S (pc := 1) B iX3_append_X3 0 rfl rfl 1 (by decide) rfl rfl (by decide +kernel) dX3_append_1 ?_
  refine z_if_lt S (pc := 4) (tgt := 19) (by omega) dX3_append_4 rfl (fun c1 => absurd c1 (by omega)) (fun c1 => ?_)
  refine z_aload_n S (pc := 7) dX3_append_7 rfl (lv_at hl 0 rfl) ?_
  refine z_get S (pc := 8) B iX3_append_X3 0 rfl rfl 1 (by decide) rfl rfl (by decide +kernel) dX3_append_8 ?_
  refine z_aload_n S (pc := 11) dX3_append_11 rfl (lv_at hl 0 rfl) ?_
  refine z_get S (pc := 12) B iX3_append_X3 0 rfl rfl 0 (by decide) rfl rfl (by decide +kernel) dX3_append_12 ?_
  refine z_alen S (pc := 15) B 1 0 rfl rfl (n := 60) rfl dX3_append_15 ?_
  refine z_icmp_lt S (pc := 16) (tgt := 21) (by omega) (by omega) dX3_append_16 rfl (fun c2 => absurd c2 (by omega)) (fun c2 => ?_)
  refine z_iconst S (pc := 19) dX3_append_19 ?_
  exact z_zreturn S (by omega) hr hlk B () trivial rfl rfl (pc := 20) dX3_append_20
/-! END pad -/
