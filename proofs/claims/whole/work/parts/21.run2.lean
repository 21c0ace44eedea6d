set_option linter.unusedVariables false
/-! the reference's parsing -/
def mlev (χ : Nat → Int) (n i : Int) : Int × Int × Int := if chr0 χ n i = 45 then ((mnum χ n 0 3000000 (i + 1)).1, -(mnum χ n 0 3000000 (i + 1)).2.1, (mnum χ n 0 3000000 (i + 1)).2.2) else mnum χ n 0 3000000 i
def mrng (χ : Nat → Int) (n i : Int) : Int × Int × Int := if 0 ≤ chr0 χ n i - 48 ∧ chr0 χ n i - 48 ≤ 3 then (0, chr0 χ n i - 48, i + 1) else (1, 0, i)
def marg (χ : Nat → Int) (n kd i : Int) : Int × Int × Int := if kd = 114 then (if 49 ≤ chr0 χ n i ∧ chr0 χ n i ≤ 57 then mnum χ n 1 99 i else (0, 1, i)) else if kd = 119 then mnum χ n 1 9999 i else if kd = 108 then mlev χ n i else if kd = 103 then mrng χ n i else (0, 0, i)
def mstp (χ : Nat → Int) (n i sm : Int) (ψ : Nat → Int) : Int × Int × Int × (Nat → Int) :=
  if isK (chr0 χ n i) then ((marg χ n (chr0 χ n i) (i + 1)).1, (marg χ n (chr0 χ n i) (i + 1)).2.2, sm + 1, up (up ψ (2 * sm).toNat (chr0 χ n i)) (2 * sm + 1).toNat (marg χ n (chr0 χ n i) (i + 1)).2.1) else (1, i, sm, ψ)
def mfl (χ : Nat → Int) (n : Int) : Nat → Int → Int → Int → (Nat → Int) → Int × Int × Int × (Nat → Int)
  | 0, w, i, sm, ψ => (w, i, sm, ψ)
  | k + 1, w, i, sm, ψ => if w = 0 ∧ chr0 χ n i = 44 then mfl χ n k (mstp χ n (i + 1) sm ψ).1 (mstp χ n (i + 1) sm ψ).2.1 (mstp χ n (i + 1) sm ψ).2.2.1 (mstp χ n (i + 1) sm ψ).2.2.2 else (w, i, sm, ψ)
def mfa (χ : Nat → Int) (n : Int) (ψ : Nat → Int) : Int × Int × Int × (Nat → Int) := mfl χ n 61 (mstp χ n 0 0 ψ).1 (mstp χ n 0 0 ψ).2.1 (mstp χ n 0 0 ψ).2.2.1 (mstp χ n 0 0 ψ).2.2.2
def mfr (n : Int) (r : Int × Int × Int × (Nat → Int)) : Int := if r.1 = 1 ∨ r.2.1 < n then r.2.1 else -6
theorem mlev_bd {χ : Nat → Int} {n i : Int} (hX : inX χ) (hn : 0 ≤ n ∧ n ≤ 60) (hi : 0 ≤ i ∧ i ≤ n) : (-3000000 ≤ (mlev χ n i).2.1 ∧ (mlev χ n i).2.1 ≤ 3000000) ∧ (i ≤ (mlev χ n i).2.2 ∧ (mlev χ n i).2.2 ≤ n) ∧ ((mlev χ n i).1 = 0 ∨ (mlev χ n i).1 = 1) := by
  unfold mlev
  split
  · rename_i h
    have hin := chr0_lt (χ := χ) (n := n) (i := i) (by omega)
    obtain ⟨b1, b2, b3⟩ := mnum_bd (le := 0) (mo := 3000000) (i := i + 1) hX hn (by omega) (by omega) (by omega)
    exact ⟨⟨by show -3000000 ≤ -(mnum χ n 0 3000000 (i + 1)).2.1; omega, by show -(mnum χ n 0 3000000 (i + 1)).2.1 ≤ 3000000; omega⟩, ⟨by show i ≤ (mnum χ n 0 3000000 (i + 1)).2.2; omega, b2.2⟩, b3⟩
  · obtain ⟨b1, b2, b3⟩ := mnum_bd (le := 0) (mo := 3000000) (i := i) hX hn hi (by omega) (by omega)
    exact ⟨⟨by omega, by omega⟩, b2, b3⟩
theorem mrng_bd {χ : Nat → Int} {n i : Int} (hn : 0 ≤ n ∧ n ≤ 60) (hi : 0 ≤ i ∧ i ≤ n) : (0 ≤ (mrng χ n i).2.1 ∧ (mrng χ n i).2.1 ≤ 3) ∧ (i ≤ (mrng χ n i).2.2 ∧ (mrng χ n i).2.2 ≤ n) ∧ ((mrng χ n i).1 = 0 ∨ (mrng χ n i).1 = 1) := by
  unfold mrng
  split
  · rename_i h
    have hin := chr0_lt (χ := χ) (n := n) (i := i) (by omega)
    exact ⟨h, ⟨by show i ≤ i + 1; omega, by show i + 1 ≤ n; omega⟩, Or.inl rfl⟩
  · exact ⟨⟨Int.le_refl 0, by show (0 : Int) ≤ 3; omega⟩, ⟨Int.le_refl i, hi.2⟩, Or.inr rfl⟩
theorem marg_bd {χ : Nat → Int} {n kd i : Int} (hX : inX χ) (hn : 0 ≤ n ∧ n ≤ 60) (hi : 0 ≤ i ∧ i ≤ n) : (-3000000 ≤ (marg χ n kd i).2.1 ∧ (marg χ n kd i).2.1 ≤ 3000000) ∧ (i ≤ (marg χ n kd i).2.2 ∧ (marg χ n kd i).2.2 ≤ n) ∧ ((marg χ n kd i).1 = 0 ∨ (marg χ n kd i).1 = 1) := by
  unfold marg
  split
  · split
    · obtain ⟨b1, b2, b3⟩ := mnum_bd (le := 1) (mo := 99) hX hn hi (by omega) (by omega)
      exact ⟨⟨by omega, by omega⟩, b2, b3⟩
    · exact ⟨⟨by show (-3000000 : Int) ≤ 1; omega, by show (1 : Int) ≤ 3000000; omega⟩, ⟨Int.le_refl i, hi.2⟩, Or.inl rfl⟩
  · split
    · obtain ⟨b1, b2, b3⟩ := mnum_bd (le := 1) (mo := 9999) hX hn hi (by omega) (by omega)
      exact ⟨⟨by omega, by omega⟩, b2, b3⟩
    · split
      · exact mlev_bd hX hn hi
      · split
        · obtain ⟨b1, b2, b3⟩ := mrng_bd (χ := χ) hn hi
          exact ⟨⟨by omega, by omega⟩, b2, b3⟩
        · exact ⟨⟨by show (-3000000 : Int) ≤ 0; omega, by show (0 : Int) ≤ 3000000; omega⟩, ⟨Int.le_refl i, hi.2⟩, Or.inl rfl⟩
theorem mstp_bd {χ : Nat → Int} {n i sm : Int} {ψ : Nat → Int} (hX : inX χ) (hn : 0 ≤ n ∧ n ≤ 60) (hi : 0 ≤ i ∧ i ≤ n) (hs : 0 ≤ sm ∧ 2 * sm ≤ i) : ((mstp χ n i sm ψ).1 = 0 ∨ (mstp χ n i sm ψ).1 = 1) ∧ (i ≤ (mstp χ n i sm ψ).2.1 ∧ (mstp χ n i sm ψ).2.1 ≤ n) ∧ 0 ≤ (mstp χ n i sm ψ).2.2.1 ∧ 2 * (mstp χ n i sm ψ).2.2.1 ≤ (mstp χ n i sm ψ).2.1 + 1 := by
  unfold mstp
  split
  · rename_i h
    have hin := chr0_lt (χ := χ) (n := n) (i := i) (by omega)
    obtain ⟨b1, b2, b3⟩ := marg_bd (kd := chr0 χ n i) (i := i + 1) hX hn (by omega)
    exact ⟨b3, ⟨by show i ≤ (marg χ n (chr0 χ n i) (i + 1)).2.2; omega, b2.2⟩, by show 0 ≤ sm + 1; omega, by show 2 * (sm + 1) ≤ (marg χ n (chr0 χ n i) (i + 1)).2.2 + 1; omega⟩
  · exact ⟨Or.inr rfl, ⟨Int.le_refl i, hi.2⟩, hs.1, by show 2 * sm ≤ i + 1; omega⟩
theorem iX8_takeLevel_X8 : ∀ w ∈ wsX80, w ∈ wsX8_takeLevel := by decide +kernel
set_option maxHeartbeats 4000000 in
set_option maxRecDepth 100000 in
theorem mX8_takeLevel (l : Launch) (E : gT) (a : Nat) (p1 : Nat) (p2 : Nat) (p3 : Nat) (p4 : Nat) (p5 : Nat) (p6 : Nat) (σ : Nat → Int) (ρ : Nat → Int) (pm : Int) (ig : Int) (mo : Int) (rd : Int) (wr : Int) (sm : Int) (χ : Nat → Int) (hn : 0 ≤ pm ∧ pm ≤ 60) (hi : 0 ≤ rd ∧ rd ≤ pm) (hX : inX χ) : Cd l E yX8_takeLevel wsX8_takeLevel 2 48 0 0 [.ref a] [cMod a p1 p2 p3 p4 p5 p6 pm ig mo rd wr sm, cInt E p5 60 χ] (some (.int (iI ((mlev χ pm rd).2.1)))) [cMod a p1 p2 p3 p4 p5 p6 pm ig mo ((mlev χ pm rd).2.2) (if (mlev χ pm rd).1 = 1 then 1 else wr) sm, cInt E p5 60 χ] := by
  refine Ct.mk (cc := cX8_takeLevel) (maxL := 3) (ret := (some .int)) (plainFor_of_name (by decide)) rfl (Nat.le_of_ble_eq_true rfl) ?_
  intro p e s m below meth c A ls H locs S hr hlk hnm B hl
  have S : CallFix p m c cX8_takeLevel 3 s #[.ref a] wsX8_takeLevel RX8 := S
  have hl : lv_has ls 3 [(0, .ref a)] := hl
  have hc := chr0_bd (i := rd) hX hn.2
  have hin : chr0 χ pm rd = 45 → 0 ≤ rd ∧ rd < pm := fun z => chr0_lt (χ := χ) (n := pm) (i := rd) (by omega)
  refine z_aload_n S (pc := 0) dX8_takeLevel_0 rfl (lv_at hl 0 rfl) ?_
  refine z_callV S (pc := 1) B (wr := []) (wn := fun _ => [cMod a p1 p2 p3 p4 p5 p6 pm ig mo rd wr sm, cInt E p5 60 χ]) (st1 := fun _ => [.int (iI (chr0 χ pm rd))]) (As := []) (mX8_nextSign l E a p1 p2 p3 p4 p5 p6 (fun _ => 0) (fun _ => 0) pm ig mo rd wr sm χ (show 0 ≤ pm ∧ pm ≤ 60 from by omega) (show 0 ≤ rd ∧ rd ≤ pm from by omega) (show inX χ from by assumption)) gX8_takeLevel_X8_nextSign 0 rfl (by decide +kernel) ⟨Nat.le_of_ble_eq_true rfl, Nat.le_of_ble_eq_true rfl, Nat.le_of_ble_eq_true rfl, Nat.le_of_ble_eq_true rfl⟩ 0 rfl (q := (RX8, TX8, 12)) rfl rfl [0, 1] [] [0, 1] rfl rfl ⟨rfl, rfl, rfl, by decide⟩ (fun _ => rfl) rfl (fun _ => rfl) hl.1 (Nat.le_of_ble_eq_true rfl) rfl dX8_takeLevel_1 (fun _ _ H locs B => ?_)
  refine z_bipush S (pc := 4) dX8_takeLevel_4 rfl ?_
  refine z_icmp_ne S (pc := 6) (tgt := 13) (by omega) (by omega) dX8_takeLevel_6 rfl (fun c1 => ?_) (fun c1 => ?_)
  · refine z_iconst S (pc := 13) dX8_takeLevel_13 ?_
    refine lv_istore_n (lv' := [(1, .int (iI 0)), (0, .ref a)]) S.1 S.2.1 (pc := 14) dX8_takeLevel_14 rfl hl (by decide) rfl (fun ls hl => ?_)
    refine z_aload_n S (pc := 15) dX8_takeLevel_15 rfl (lv_at hl 1 rfl) ?_
    refine lv_dup S.1 S.2.1 (pc := 16) dX8_takeLevel_16 rfl ?_
    refine z_get S (pc := 17) B iX8_takeLevel_X8 0 rfl rfl 8 (by decide) rfl rfl (by decide +kernel) dX8_takeLevel_17 ?_
    refine z_iload_n S (pc := 20) dX8_takeLevel_20 rfl (lv_at hl 0 rfl) ?_
    refine z_if_eq S (pc := 21) (tgt := 28) (by omega) dX8_takeLevel_21 rfl (fun c2 => ?_) (fun c2 => absurd c2 (by omega))
    refine z_iconst S (pc := 28) dX8_takeLevel_28 ?_
    refine z_iadd S (pc := 29) dX8_takeLevel_29 ?_
    rw [show (rd + 0 : Int) = rd from by omega]
    refine z_put S (pc := 30) B iX8_takeLevel_X8 tyX8_ok nmX8 0 rfl rfl 8 (by decide) rfl (by decide +kernel) (ty := .int) (by decide +kernel) rfl rfl (Nat.le_of_ble_eq_true rfl) dX8_takeLevel_30 (wn := [cMod a p1 p2 p3 p4 p5 p6 pm ig mo rd wr sm, cInt E p5 60 χ]) rfl (fun H locs B => ?_)
    refine z_aload_n S (pc := 33) dX8_takeLevel_33 rfl (lv_at hl 1 rfl) ?_
    refine z_iconst S (pc := 34) dX8_takeLevel_34 ?_
    refine z_ldc S (pc := 35) (x := 3000000) (by decide +kernel) rfl dX8_takeLevel_35 ?_
    refine z_callV S (pc := 37) B (wr := []) (wn := fun _ => [cMod a p1 p2 p3 p4 p5 p6 pm ig mo ((mnum χ pm 0 3000000 rd).2.2) (if (mnum χ pm 0 3000000 rd).1 = 1 then 1 else wr) sm, cInt E p5 60 χ]) (st1 := fun _ => [.int (iI ((mnum χ pm 0 3000000 rd).2.1))]) (As := [.int (iI 0), .int (iI 3000000)]) (mX8_takeNumber l E a p1 p2 p3 p4 p5 p6 (fun _ => 0) (fun _ => 0) pm ig mo rd wr sm χ 0 3000000 (show 0 ≤ pm ∧ pm ≤ 60 from by omega) (show 0 ≤ rd ∧ rd ≤ pm from by omega) (show inX χ from by assumption) (show 0 ≤ 0 ∧ 0 ≤ 1 from by omega) (show 9 ≤ 3000000 ∧ 3000000 ≤ 3000000 from by omega)) gX8_takeLevel_X8_takeNumber 2 rfl (by decide +kernel) ⟨Nat.le_of_ble_eq_true rfl, Nat.le_of_ble_eq_true rfl, Nat.le_of_ble_eq_true rfl, Nat.le_of_ble_eq_true rfl⟩ 0 rfl (q := (RX8, TX8, 12)) rfl rfl [0, 1] [] [0, 1] rfl rfl ⟨rfl, rfl, rfl, by decide⟩ (fun _ => rfl) rfl (fun _ => rfl) hl.1 (Nat.le_of_ble_eq_true rfl) rfl dX8_takeLevel_37 (fun _ _ H locs B => ?_)
    refine lv_istore_n (lv' := [(2, .int (iI ((mnum χ pm 0 3000000 rd).2.1))), (1, .int (iI 0)), (0, .ref a)]) S.1 S.2.1 (pc := 40) dX8_takeLevel_40 rfl hl (by decide) rfl (fun ls hl => ?_)
    refine z_iload_n S (pc := 41) dX8_takeLevel_41 rfl (lv_at hl 1 rfl) ?_
    refine z_if_eq S (pc := 42) (tgt := 50) (by omega) dX8_takeLevel_42 rfl (fun c3 => ?_) (fun c3 => absurd c3 (by omega))
    refine z_iload_n S (pc := 50) dX8_takeLevel_50 rfl (lv_at hl 0 rfl) ?_
    have hlv : mlev χ pm rd = mnum χ pm 0 3000000 rd := by unfold mlev; rw [if_neg (by omega)]
    exact z_ireturn S hr hlk B () trivial (by rw [hlv]) (by rw [hlv]) (pc := 51) dX8_takeLevel_51
  · refine z_iconst S (pc := 9) dX8_takeLevel_9 ?_
    refine lv_goto S.1 S.2.1 (pc := 10) (tgt := 14) dX8_takeLevel_10 rfl ?_
    refine lv_istore_n (lv' := [(1, .int (iI 1)), (0, .ref a)]) S.1 S.2.1 (pc := 14) dX8_takeLevel_14 rfl hl (by decide) rfl (fun ls hl => ?_)
    refine z_aload_n S (pc := 15) dX8_takeLevel_15 rfl (lv_at hl 1 rfl) ?_
    refine lv_dup S.1 S.2.1 (pc := 16) dX8_takeLevel_16 rfl ?_
    refine z_get S (pc := 17) B iX8_takeLevel_X8 0 rfl rfl 8 (by decide) rfl rfl (by decide +kernel) dX8_takeLevel_17 ?_
    refine z_iload_n S (pc := 20) dX8_takeLevel_20 rfl (lv_at hl 0 rfl) ?_
    refine z_if_eq S (pc := 21) (tgt := 28) (by omega) dX8_takeLevel_21 rfl (fun c4 => absurd c4 (by omega)) (fun c4 => ?_)
    refine z_iconst S (pc := 24) dX8_takeLevel_24 ?_
    refine lv_goto S.1 S.2.1 (pc := 25) (tgt := 29) dX8_takeLevel_25 rfl ?_
    refine z_iadd S (pc := 29) dX8_takeLevel_29 ?_
    refine z_put S (pc := 30) B iX8_takeLevel_X8 tyX8_ok nmX8 0 rfl rfl 8 (by decide) rfl (by decide +kernel) (ty := .int) (by decide +kernel) rfl rfl (Nat.le_of_ble_eq_true rfl) dX8_takeLevel_30 (wn := [cMod a p1 p2 p3 p4 p5 p6 pm ig mo (rd + 1) wr sm, cInt E p5 60 χ]) rfl (fun H locs B => ?_)
    refine z_aload_n S (pc := 33) dX8_takeLevel_33 rfl (lv_at hl 1 rfl) ?_
    refine z_iconst S (pc := 34) dX8_takeLevel_34 ?_
    refine z_ldc S (pc := 35) (x := 3000000) (by decide +kernel) rfl dX8_takeLevel_35 ?_
    refine z_callV S (pc := 37) B (wr := []) (wn := fun _ => [cMod a p1 p2 p3 p4 p5 p6 pm ig mo ((mnum χ pm 0 3000000 (rd + 1)).2.2) (if (mnum χ pm 0 3000000 (rd + 1)).1 = 1 then 1 else wr) sm, cInt E p5 60 χ]) (st1 := fun _ => [.int (iI ((mnum χ pm 0 3000000 (rd + 1)).2.1))]) (As := [.int (iI 0), .int (iI 3000000)]) (mX8_takeNumber l E a p1 p2 p3 p4 p5 p6 (fun _ => 0) (fun _ => 0) pm ig mo (rd + 1) wr sm χ 0 3000000 (show 0 ≤ pm ∧ pm ≤ 60 from by omega) (show 0 ≤ (rd + 1) ∧ (rd + 1) ≤ pm from by omega) (show inX χ from by assumption) (show 0 ≤ 0 ∧ 0 ≤ 1 from by omega) (show 9 ≤ 3000000 ∧ 3000000 ≤ 3000000 from by omega)) gX8_takeLevel_X8_takeNumber 2 rfl (by decide +kernel) ⟨Nat.le_of_ble_eq_true rfl, Nat.le_of_ble_eq_true rfl, Nat.le_of_ble_eq_true rfl, Nat.le_of_ble_eq_true rfl⟩ 0 rfl (q := (RX8, TX8, 12)) rfl rfl [0, 1] [] [0, 1] rfl rfl ⟨rfl, rfl, rfl, by decide⟩ (fun _ => rfl) rfl (fun _ => rfl) hl.1 (Nat.le_of_ble_eq_true rfl) rfl dX8_takeLevel_37 (fun _ _ H locs B => ?_)
    refine lv_istore_n (lv' := [(2, .int (iI ((mnum χ pm 0 3000000 (rd + 1)).2.1))), (1, .int (iI 1)), (0, .ref a)]) S.1 S.2.1 (pc := 40) dX8_takeLevel_40 rfl hl (by decide) rfl (fun ls hl => ?_)
    refine z_iload_n S (pc := 41) dX8_takeLevel_41 rfl (lv_at hl 1 rfl) ?_
    refine z_if_eq S (pc := 42) (tgt := 50) (by omega) dX8_takeLevel_42 rfl (fun c5 => absurd c5 (by omega)) (fun c5 => ?_)
    refine z_iload_n S (pc := 45) dX8_takeLevel_45 rfl (lv_at hl 0 rfl) ?_
    refine z_ineg S (pc := 46) dX8_takeLevel_46 ?_
    refine lv_goto S.1 S.2.1 (pc := 47) (tgt := 51) dX8_takeLevel_47 rfl ?_
    have hlv : mlev χ pm rd = ((mnum χ pm 0 3000000 (rd + 1)).1, -(mnum χ pm 0 3000000 (rd + 1)).2.1, (mnum χ pm 0 3000000 (rd + 1)).2.2) := by unfold mlev; rw [if_pos (by omega)]
    exact z_ireturn S hr hlk B () trivial (by rw [hlv]) (by rw [hlv]) (pc := 51) dX8_takeLevel_51
theorem iX8_takeRange_X8 : ∀ w ∈ wsX80, w ∈ wsX8_takeRange := by decide +kernel
set_option maxHeartbeats 4000000 in
set_option maxRecDepth 100000 in
theorem mX8_takeRange (l : Launch) (E : gT) (a : Nat) (p1 : Nat) (p2 : Nat) (p3 : Nat) (p4 : Nat) (p5 : Nat) (p6 : Nat) (σ : Nat → Int) (ρ : Nat → Int) (pm : Int) (ig : Int) (mo : Int) (rd : Int) (wr : Int) (sm : Int) (χ : Nat → Int) (hn : 0 ≤ pm ∧ pm ≤ 60) (hi : 0 ≤ rd ∧ rd ≤ pm) (hX : inX χ) : Cd l E yX8_takeRange wsX8_takeRange 1 25 0 0 [.ref a] [cMod a p1 p2 p3 p4 p5 p6 pm ig mo rd wr sm, cInt E p5 60 χ] (some (.int (iI ((mrng χ pm rd).2.1)))) [cMod a p1 p2 p3 p4 p5 p6 pm ig mo ((mrng χ pm rd).2.2) (if (mrng χ pm rd).1 = 1 then 1 else wr) sm, cInt E p5 60 χ] := by
  refine Ct.mk (cc := cX8_takeRange) (maxL := 2) (ret := (some .int)) (plainFor_of_name (by decide)) rfl (Nat.le_of_ble_eq_true rfl) ?_
  intro p e s m below meth c A ls H locs S hr hlk hnm B hl
  have S : CallFix p m c cX8_takeRange 2 s #[.ref a] wsX8_takeRange RX8 := S
  have hl : lv_has ls 2 [(0, .ref a)] := hl
  have hc := chr0_bd (i := rd) hX hn.2
  refine z_aload_n S (pc := 0) dX8_takeRange_0 rfl (lv_at hl 0 rfl) ?_
  refine z_callV S (pc := 1) B (wr := []) (wn := fun _ => [cMod a p1 p2 p3 p4 p5 p6 pm ig mo rd wr sm, cInt E p5 60 χ]) (st1 := fun _ => [.int (iI (chr0 χ pm rd))]) (As := []) (mX8_nextSign l E a p1 p2 p3 p4 p5 p6 (fun _ => 0) (fun _ => 0) pm ig mo rd wr sm χ (show 0 ≤ pm ∧ pm ≤ 60 from by omega) (show 0 ≤ rd ∧ rd ≤ pm from by omega) (show inX χ from by assumption)) gX8_takeRange_X8_nextSign 0 rfl (by decide +kernel) ⟨Nat.le_of_ble_eq_true rfl, Nat.le_of_ble_eq_true rfl, Nat.le_of_ble_eq_true rfl, Nat.le_of_ble_eq_true rfl⟩ 0 rfl (q := (RX8, TX8, 12)) rfl rfl [0, 1] [] [0, 1] rfl rfl ⟨rfl, rfl, rfl, by decide⟩ (fun _ => rfl) rfl (fun _ => rfl) hl.1 (Nat.le_of_ble_eq_true rfl) rfl dX8_takeRange_1 (fun _ _ H locs B => ?_)
  refine z_bipush S (pc := 4) dX8_takeRange_4 rfl ?_
  refine z_isub S (pc := 6) dX8_takeRange_6 ?_
  refine lv_istore_n (lv' := [(1, .int (iI ((chr0 χ pm rd) - 48))), (0, .ref a)]) S.1 S.2.1 (pc := 7) dX8_takeRange_7 rfl hl (by decide) rfl (fun ls hl => ?_)
  refine z_iload_n S (pc := 8) dX8_takeRange_8 rfl (lv_at hl 0 rfl) ?_
  refine z_i2l S (pc := 9) (by omega) dX8_takeRange_9 ?_
  refine z_lconst S (pc := 10) (x := 0) dX8_takeRange_10 rfl ?_
  refine z_ldc2 S (pc := 11) (x := 3) (by decide +kernel) rfl dX8_takeRange_11 ?_
  refine z_callS S (pc := 14) B (wr := [cMod a p1 p2 p3 p4 p5 p6 pm ig mo rd wr sm, cInt E p5 60 χ]) (wn := fun _ => [cMod a p1 p2 p3 p4 p5 p6 pm ig mo rd wr sm, cInt E p5 60 χ]) (st1 := fun _ => [.int (iI (bI (0 ≤ (chr0 χ pm rd) - 48 ∧ (chr0 χ pm rd) - 48 ≤ 3)))]) (As := [.long (iL ((chr0 χ pm rd) - 48)), .long (iL 0), .long (iL 3)]) (mX8_in l E ((chr0 χ pm rd) - 48) 0 3 (show inL ((chr0 χ pm rd) - 48) from by omega) (show inL 0 from by omega) (show inL 3 from by omega)) gX8_takeRange_X8_in 3 rfl (by decide +kernel) ⟨Nat.le_of_ble_eq_true rfl, Nat.le_of_ble_eq_true rfl, Nat.le_of_ble_eq_true rfl, Nat.le_of_ble_eq_true rfl⟩ [] [0, 1] [0, 1] rfl rfl ⟨rfl, rfl, rfl, by decide⟩ (fun _ => rfl) rfl (fun _ => rfl) hl.1 (Nat.le_of_ble_eq_true rfl) rfl dX8_takeRange_14 (fun _ _ H locs B => ?_)
  refine z_ifne_b S (pc := 17) (tgt := 27) dX8_takeRange_17 rfl (fun c1 => ?_) (fun c1 => ?_)
  · refine z_aload_n S (pc := 27) dX8_takeRange_27 rfl (lv_at hl 1 rfl) ?_
    refine lv_dup S.1 S.2.1 (pc := 28) dX8_takeRange_28 rfl ?_
    refine z_get S (pc := 29) B iX8_takeRange_X8 0 rfl rfl 8 (by decide) rfl rfl (by decide +kernel) dX8_takeRange_29 ?_
    refine z_iconst S (pc := 32) dX8_takeRange_32 ?_
    refine z_iadd S (pc := 33) dX8_takeRange_33 ?_
    refine z_put S (pc := 34) B iX8_takeRange_X8 tyX8_ok nmX8 0 rfl rfl 8 (by decide) rfl (by decide +kernel) (ty := .int) (by decide +kernel) rfl rfl (Nat.le_of_ble_eq_true rfl) dX8_takeRange_34 (wn := [cMod a p1 p2 p3 p4 p5 p6 pm ig mo (rd + 1) wr sm, cInt E p5 60 χ]) rfl (fun H locs B => ?_)
    refine z_iload_n S (pc := 37) dX8_takeRange_37 rfl (lv_at hl 0 rfl) ?_
    have hmr : mrng χ pm rd = (0, chr0 χ pm rd - 48, rd + 1) := by unfold mrng; rw [if_pos (by omega)]
    exact z_ireturn S hr hlk B () trivial (by rw [hmr]) (by rw [hmr]; rfl) (pc := 38) dX8_takeRange_38
  · refine z_aload_n S (pc := 20) dX8_takeRange_20 rfl (lv_at hl 1 rfl) ?_
    refine z_iconst S (pc := 21) dX8_takeRange_21 ?_
    refine z_put S (pc := 22) B iX8_takeRange_X8 tyX8_ok nmX8 0 rfl rfl 9 (by decide) rfl (by decide +kernel) (ty := .boolean) (by decide +kernel) rfl rfl (Nat.le_of_ble_eq_true rfl) dX8_takeRange_22 (wn := [cMod a p1 p2 p3 p4 p5 p6 pm ig mo rd 1 sm, cInt E p5 60 χ]) rfl (fun H locs B => ?_)
    refine z_iconst S (pc := 25) dX8_takeRange_25 ?_
    have hmr : mrng χ pm rd = (1, 0, rd) := by unfold mrng; rw [if_neg (by omega)]
    exact z_ireturn S hr hlk B () trivial (by rw [hmr]) (by rw [hmr]; rfl) (pc := 26) dX8_takeRange_26
theorem iX8_readStep_X8 : ∀ w ∈ wsX80, w ∈ wsX8_readStep := by decide +kernel
set_option maxHeartbeats 4000000 in
set_option maxRecDepth 100000 in
theorem mX8_readStep (l : Launch) (E : gT) (a : Nat) (p1 : Nat) (p2 : Nat) (p3 : Nat) (p4 : Nat) (p5 : Nat) (p6 : Nat) (σ : Nat → Int) (ρ : Nat → Int) (pm : Int) (ig : Int) (mo : Int) (rd : Int) (wr : Int) (sm : Int) (χ : Nat → Int) (ψ : Nat → Int) (hn : 0 ≤ pm ∧ pm ≤ 60) (hi : 0 ≤ rd ∧ rd ≤ pm) (hX : inX χ) (hst : 0 ≤ sm ∧ 2 * sm ≤ rd) (hw0 : wr = 0) : Cd l E yX8_readStep wsX8_readStep 3 70 0 0 [.ref a] [cMod a p1 p2 p3 p4 p5 p6 pm ig mo rd wr sm, cInt E p5 60 χ, cInt E p6 120 ψ] none [cMod a p1 p2 p3 p4 p5 p6 pm ig mo ((mstp χ pm rd sm ψ).2.1) ((mstp χ pm rd sm ψ).1) ((mstp χ pm rd sm ψ).2.2.1), cInt E p5 60 χ, cInt E p6 120 ((mstp χ pm rd sm ψ).2.2.2)] := by
  refine Ct.mk (cc := cX8_readStep) (maxL := 3) (ret := none) (plainFor_of_name (by decide)) rfl (Nat.le_of_ble_eq_true rfl) ?_
  intro p e s m below meth c A ls H locs S hr hlk hnm B hl
  have S : CallFix p m c cX8_readStep 3 s #[.ref a] wsX8_readStep RX8 := S
  have hl : lv_has ls 3 [(0, .ref a)] := hl
  have hc := chr0_bd (i := rd) hX hn.2
  refine z_aload_n S (pc := 0) dX8_readStep_0 rfl (lv_at hl 0 rfl) ?_
  refine z_callV S (pc := 1) B (wr := [cInt E p6 120 ψ]) (wn := fun _ => [cMod a p1 p2 p3 p4 p5 p6 pm ig mo rd wr sm, cInt E p5 60 χ, cInt E p6 120 ψ]) (st1 := fun _ => [.int (iI (chr0 χ pm rd))]) (As := []) (mX8_nextSign l E a p1 p2 p3 p4 p5 p6 (fun _ => 0) (fun _ => 0) pm ig mo rd wr sm χ (show 0 ≤ pm ∧ pm ≤ 60 from by omega) (show 0 ≤ rd ∧ rd ≤ pm from by omega) (show inX χ from by assumption)) gX8_readStep_X8_nextSign 0 rfl (by decide +kernel) ⟨Nat.le_of_ble_eq_true rfl, Nat.le_of_ble_eq_true rfl, Nat.le_of_ble_eq_true rfl, Nat.le_of_ble_eq_true rfl⟩ 0 rfl (q := (RX8, TX8, 12)) rfl rfl [0, 1] [2] [1, 2, 0] rfl rfl ⟨rfl, rfl, rfl, by decide⟩ (fun _ => rfl) rfl (fun _ => rfl) hl.1 (Nat.le_of_ble_eq_true rfl) rfl dX8_readStep_1 (fun _ _ H locs B => ?_)
  refine lv_istore_n (lv' := [(1, .int (iI (chr0 χ pm rd))), (0, .ref a)]) S.1 S.2.1 (pc := 4) dX8_readStep_4 rfl hl (by decide) rfl (fun ls hl => ?_)
  refine z_iload_n S (pc := 5) dX8_readStep_5 rfl (lv_at hl 0 rfl) ?_
  refine z_bipush S (pc := 6) dX8_readStep_6 rfl ?_
  refine z_icmp_eq S (pc := 8) (tgt := 41) (by omega) (by omega) dX8_readStep_8 rfl (fun c1 => ?_) (fun c1 => ?_)
  · have hK : isK (chr0 χ pm rd) := by omega
    have hin := chr0_lt (χ := χ) (n := pm) (i := rd) (by omega)
    have hc2 := chr0_bd (i := rd + 1) hX hn.2
    refine z_aload_n S (pc := 41) dX8_readStep_41 rfl (lv_at hl 1 rfl) ?_
    refine lv_dup S.1 S.2.1 (pc := 42) dX8_readStep_42 rfl ?_
    refine z_get S (pc := 43) B iX8_readStep_X8 0 rfl rfl 8 (by decide) rfl rfl (by decide +kernel) dX8_readStep_43 ?_
    refine z_iconst S (pc := 46) dX8_readStep_46 ?_
    refine z_iadd S (pc := 47) dX8_readStep_47 ?_
    refine z_put S (pc := 48) B iX8_readStep_X8 tyX8_ok nmX8 0 rfl rfl 8 (by decide) rfl (by decide +kernel) (ty := .int) (by decide +kernel) rfl rfl (Nat.le_of_ble_eq_true rfl) dX8_readStep_48 (wn := [cMod a p1 p2 p3 p4 p5 p6 pm ig mo (rd + 1) wr sm, cInt E p5 60 χ, cInt E p6 120 ψ]) rfl (fun H locs B => ?_)
    refine z_iconst S (pc := 51) dX8_readStep_51 ?_
    refine lv_istore_n (lv' := [(2, .int (iI 0)), (1, .int (iI (chr0 χ pm rd))), (0, .ref a)]) S.1 S.2.1 (pc := 52) dX8_readStep_52 rfl hl (by decide) rfl (fun ls hl => ?_)
    refine z_iload_n S (pc := 53) dX8_readStep_53 rfl (lv_at hl 1 rfl) ?_
    rcases id hK with hkd | hkd | hkd | hkd | hkd
    · have hl : lv_has ls 3 [(2, .int (iI 0)), (1, .int (iI (chr0 χ pm rd))), (0, .ref a)] := hl
      rw [show Value.int (iI (chr0 χ pm rd)) = Value.int (iI 114) from by rw [hkd]]
      refine z_lsw S (pc := 54) (tgt := 96) (by omega) dX8_readStep_54 (by decide) rfl rfl ?_
      refine z_aload_n S (pc := 96) dX8_readStep_96 rfl (lv_at hl 2 rfl) ?_
      refine z_callV S (pc := 97) B (wr := [cInt E p6 120 ψ]) (wn := fun _ => [cMod a p1 p2 p3 p4 p5 p6 pm ig mo (rd + 1) wr sm, cInt E p5 60 χ, cInt E p6 120 ψ]) (st1 := fun _ => [.int (iI (chr0 χ pm (rd + 1)))]) (As := []) (mX8_nextSign l E a p1 p2 p3 p4 p5 p6 (fun _ => 0) (fun _ => 0) pm ig mo (rd + 1) wr sm χ (show 0 ≤ pm ∧ pm ≤ 60 from by omega) (show 0 ≤ (rd + 1) ∧ (rd + 1) ≤ pm from by omega) (show inX χ from by assumption)) gX8_readStep_X8_nextSign 0 rfl (by decide +kernel) ⟨Nat.le_of_ble_eq_true rfl, Nat.le_of_ble_eq_true rfl, Nat.le_of_ble_eq_true rfl, Nat.le_of_ble_eq_true rfl⟩ 0 rfl (q := (RX8, TX8, 12)) rfl rfl [0, 1] [2] [1, 2, 0] rfl rfl ⟨rfl, rfl, rfl, by decide⟩ (fun _ => rfl) rfl (fun _ => rfl) hl.1 (Nat.le_of_ble_eq_true rfl) rfl dX8_readStep_97 (fun _ _ H locs B => ?_)
      refine z_i2l S (pc := 100) (by omega) dX8_readStep_100 ?_
      refine z_ldc2 S (pc := 101) (x := 49) (by decide +kernel) rfl dX8_readStep_101 ?_
      refine z_ldc2 S (pc := 104) (x := 57) (by decide +kernel) rfl dX8_readStep_104 ?_
      refine z_callS S (pc := 107) B (wr := [cMod a p1 p2 p3 p4 p5 p6 pm ig mo (rd + 1) wr sm, cInt E p5 60 χ, cInt E p6 120 ψ]) (wn := fun _ => [cMod a p1 p2 p3 p4 p5 p6 pm ig mo (rd + 1) wr sm, cInt E p5 60 χ, cInt E p6 120 ψ]) (st1 := fun _ => [.int (iI (bI (49 ≤ chr0 χ pm (rd + 1) ∧ chr0 χ pm (rd + 1) ≤ 57)))]) (As := [.long (iL (chr0 χ pm (rd + 1))), .long (iL 49), .long (iL 57)]) (mX8_in l E (chr0 χ pm (rd + 1)) 49 57 (show inL (chr0 χ pm (rd + 1)) from by omega) (show inL 49 from by omega) (show inL 57 from by omega)) gX8_readStep_X8_in 3 rfl (by decide +kernel) ⟨Nat.le_of_ble_eq_true rfl, Nat.le_of_ble_eq_true rfl, Nat.le_of_ble_eq_true rfl, Nat.le_of_ble_eq_true rfl⟩ [] [0, 1, 2] [0, 1, 2] rfl rfl ⟨rfl, rfl, rfl, by decide⟩ (fun _ => rfl) rfl (fun _ => rfl) hl.1 (Nat.le_of_ble_eq_true rfl) rfl dX8_readStep_107 (fun _ _ H locs B => ?_)
      refine z_ifeq_b S (pc := 110) (tgt := 123) dX8_readStep_110 rfl (fun c2 => ?_) (fun c2 => ?_)
      · refine z_iconst S (pc := 123) dX8_readStep_123 ?_
        refine lv_istore_n (lv' := [(2, .int (iI 1)), (1, .int (iI (chr0 χ pm rd))), (0, .ref a)]) S.1 S.2.1 (pc := 124) dX8_readStep_124 rfl hl (by decide) rfl (fun ls hl => ?_)
        refine lv_goto S.1 S.2.1 (pc := 125) (tgt := 156) dX8_readStep_125 rfl ?_
        refine z_aload_n S (pc := 156) dX8_readStep_156 rfl (lv_at hl 2 rfl) ?_
        refine z_get S (pc := 157) B iX8_readStep_X8 0 rfl rfl 10 (by decide) rfl rfl (by decide +kernel) dX8_readStep_157 ?_
        refine z_iconst S (pc := 160) dX8_readStep_160 ?_
        refine z_aload_n S (pc := 161) dX8_readStep_161 rfl (lv_at hl 2 rfl) ?_
        refine z_get S (pc := 162) B iX8_readStep_X8 0 rfl rfl 11 (by decide) rfl rfl (by decide +kernel) dX8_readStep_162 ?_
        refine z_imul S (pc := 165) dX8_readStep_165 ?_
        refine z_iload_n S (pc := 166) dX8_readStep_166 rfl (lv_at hl 1 rfl) ?_
        refine z_iast S (pc := 167) B 2 1 rfl rfl (k := (2 * sm).toNat) (by omega) (by omega) (by decide) dX8_readStep_167 (wn := [cMod a p1 p2 p3 p4 p5 p6 pm ig mo (rd + 1) wr sm, cInt E p5 60 χ, cInt E p6 120 (up ψ (2 * sm).toNat (chr0 χ pm rd))]) (by rw [iat_up]; rfl) (fun H locs B => ?_)
        refine z_aload_n S (pc := 168) dX8_readStep_168 rfl (lv_at hl 2 rfl) ?_
        refine z_get S (pc := 169) B iX8_readStep_X8 0 rfl rfl 10 (by decide) rfl rfl (by decide +kernel) dX8_readStep_169 ?_
        refine z_iconst S (pc := 172) dX8_readStep_172 ?_
        refine z_aload_n S (pc := 173) dX8_readStep_173 rfl (lv_at hl 2 rfl) ?_
        refine z_get S (pc := 174) B iX8_readStep_X8 0 rfl rfl 11 (by decide) rfl rfl (by decide +kernel) dX8_readStep_174 ?_
        refine z_imul S (pc := 177) dX8_readStep_177 ?_
        refine z_iconst S (pc := 178) dX8_readStep_178 ?_
        refine z_iadd S (pc := 179) dX8_readStep_179 ?_
        refine z_iload_n S (pc := 180) dX8_readStep_180 rfl (lv_at hl 0 rfl) ?_
        refine z_iast S (pc := 181) B 2 1 rfl rfl (k := ((2 * sm) + 1).toNat) (by omega) (by omega) (by decide) dX8_readStep_181 (wn := [cMod a p1 p2 p3 p4 p5 p6 pm ig mo (rd + 1) wr sm, cInt E p5 60 χ, cInt E p6 120 (up (up ψ (2 * sm).toNat (chr0 χ pm rd)) ((2 * sm) + 1).toNat 1)]) (by rw [iat_up]; rfl) (fun H locs B => ?_)
        refine z_aload_n S (pc := 182) dX8_readStep_182 rfl (lv_at hl 2 rfl) ?_
        refine lv_dup S.1 S.2.1 (pc := 183) dX8_readStep_183 rfl ?_
        refine z_get S (pc := 184) B iX8_readStep_X8 0 rfl rfl 11 (by decide) rfl rfl (by decide +kernel) dX8_readStep_184 ?_
        refine z_iconst S (pc := 187) dX8_readStep_187 ?_
        refine z_iadd S (pc := 188) dX8_readStep_188 ?_
        refine z_put S (pc := 189) B iX8_readStep_X8 tyX8_ok nmX8 0 rfl rfl 11 (by decide) rfl (by decide +kernel) (ty := .int) (by decide +kernel) rfl rfl (Nat.le_of_ble_eq_true rfl) dX8_readStep_189 (wn := [cMod a p1 p2 p3 p4 p5 p6 pm ig mo (rd + 1) wr (sm + 1), cInt E p5 60 χ, cInt E p6 120 (up (up ψ (2 * sm).toNat (chr0 χ pm rd)) ((2 * sm) + 1).toNat 1)]) rfl (fun H locs B => ?_)
        have hma : marg χ pm (chr0 χ pm rd) (rd + 1) = (0, 1, rd + 1) := by unfold marg; rw [if_pos hkd, if_neg (by omega)]
        have hms : mstp χ pm rd sm ψ = ((0, 1, rd + 1).1, (0, 1, rd + 1).2.2, sm + 1, up (up ψ (2 * sm).toNat (chr0 χ pm rd)) (2 * sm + 1).toNat (0, 1, rd + 1).2.1) := by unfold mstp; rw [if_pos hK, hma]
        rw [hw0] at B
        exact z_return S hr hlk B () trivial rfl (by rw [hms]) (pc := 192) dX8_readStep_192
      · refine z_aload_n S (pc := 113) dX8_readStep_113 rfl (lv_at hl 2 rfl) ?_
        refine z_iconst S (pc := 114) dX8_readStep_114 ?_
        refine z_bipush S (pc := 115) dX8_readStep_115 rfl ?_
        refine z_callV S (pc := 117) B (wr := [cInt E p6 120 ψ]) (wn := fun _ => [cMod a p1 p2 p3 p4 p5 p6 pm ig mo ((mnum χ pm 1 99 (rd + 1)).2.2) (if (mnum χ pm 1 99 (rd + 1)).1 = 1 then 1 else wr) sm, cInt E p5 60 χ, cInt E p6 120 ψ]) (st1 := fun _ => [.int (iI ((mnum χ pm 1 99 (rd + 1)).2.1))]) (As := [.int (iI 1), .int (iI 99)]) (mX8_takeNumber l E a p1 p2 p3 p4 p5 p6 (fun _ => 0) (fun _ => 0) pm ig mo (rd + 1) wr sm χ 1 99 (show 0 ≤ pm ∧ pm ≤ 60 from by omega) (show 0 ≤ (rd + 1) ∧ (rd + 1) ≤ pm from by omega) (show inX χ from by assumption) (show 0 ≤ 1 ∧ 1 ≤ 1 from by omega) (show 9 ≤ 99 ∧ 99 ≤ 3000000 from by omega)) gX8_readStep_X8_takeNumber 2 rfl (by decide +kernel) ⟨Nat.le_of_ble_eq_true rfl, Nat.le_of_ble_eq_true rfl, Nat.le_of_ble_eq_true rfl, Nat.le_of_ble_eq_true rfl⟩ 0 rfl (q := (RX8, TX8, 12)) rfl rfl [0, 1] [2] [1, 2, 0] rfl rfl ⟨rfl, rfl, rfl, by decide⟩ (fun _ => rfl) rfl (fun _ => rfl) hl.1 (Nat.le_of_ble_eq_true rfl) rfl dX8_readStep_117 (fun _ _ H locs B => ?_)
        refine lv_goto S.1 S.2.1 (pc := 120) (tgt := 124) dX8_readStep_120 rfl ?_
        refine lv_istore_n (lv' := [(2, .int (iI ((mnum χ pm 1 99 (rd + 1)).2.1))), (1, .int (iI (chr0 χ pm rd))), (0, .ref a)]) S.1 S.2.1 (pc := 124) dX8_readStep_124 rfl hl (by decide) rfl (fun ls hl => ?_)
        refine lv_goto S.1 S.2.1 (pc := 125) (tgt := 156) dX8_readStep_125 rfl ?_
        refine z_aload_n S (pc := 156) dX8_readStep_156 rfl (lv_at hl 2 rfl) ?_
        refine z_get S (pc := 157) B iX8_readStep_X8 0 rfl rfl 10 (by decide) rfl rfl (by decide +kernel) dX8_readStep_157 ?_
        refine z_iconst S (pc := 160) dX8_readStep_160 ?_
        refine z_aload_n S (pc := 161) dX8_readStep_161 rfl (lv_at hl 2 rfl) ?_
        refine z_get S (pc := 162) B iX8_readStep_X8 0 rfl rfl 11 (by decide) rfl rfl (by decide +kernel) dX8_readStep_162 ?_
        refine z_imul S (pc := 165) dX8_readStep_165 ?_
        refine z_iload_n S (pc := 166) dX8_readStep_166 rfl (lv_at hl 1 rfl) ?_
        refine z_iast S (pc := 167) B 2 1 rfl rfl (k := (2 * sm).toNat) (by omega) (by omega) (by decide) dX8_readStep_167 (wn := [cMod a p1 p2 p3 p4 p5 p6 pm ig mo ((mnum χ pm 1 99 (rd + 1)).2.2) (if (mnum χ pm 1 99 (rd + 1)).1 = 1 then 1 else wr) sm, cInt E p5 60 χ, cInt E p6 120 (up ψ (2 * sm).toNat (chr0 χ pm rd))]) (by rw [iat_up]; rfl) (fun H locs B => ?_)
        refine z_aload_n S (pc := 168) dX8_readStep_168 rfl (lv_at hl 2 rfl) ?_
        refine z_get S (pc := 169) B iX8_readStep_X8 0 rfl rfl 10 (by decide) rfl rfl (by decide +kernel) dX8_readStep_169 ?_
        refine z_iconst S (pc := 172) dX8_readStep_172 ?_
        refine z_aload_n S (pc := 173) dX8_readStep_173 rfl (lv_at hl 2 rfl) ?_
        refine z_get S (pc := 174) B iX8_readStep_X8 0 rfl rfl 11 (by decide) rfl rfl (by decide +kernel) dX8_readStep_174 ?_
        refine z_imul S (pc := 177) dX8_readStep_177 ?_
        refine z_iconst S (pc := 178) dX8_readStep_178 ?_
        refine z_iadd S (pc := 179) dX8_readStep_179 ?_
        refine z_iload_n S (pc := 180) dX8_readStep_180 rfl (lv_at hl 0 rfl) ?_
        refine z_iast S (pc := 181) B 2 1 rfl rfl (k := ((2 * sm) + 1).toNat) (by omega) (by omega) (by decide) dX8_readStep_181 (wn := [cMod a p1 p2 p3 p4 p5 p6 pm ig mo ((mnum χ pm 1 99 (rd + 1)).2.2) (if (mnum χ pm 1 99 (rd + 1)).1 = 1 then 1 else wr) sm, cInt E p5 60 χ, cInt E p6 120 (up (up ψ (2 * sm).toNat (chr0 χ pm rd)) ((2 * sm) + 1).toNat ((mnum χ pm 1 99 (rd + 1)).2.1))]) (by rw [iat_up]; rfl) (fun H locs B => ?_)
        refine z_aload_n S (pc := 182) dX8_readStep_182 rfl (lv_at hl 2 rfl) ?_
        refine lv_dup S.1 S.2.1 (pc := 183) dX8_readStep_183 rfl ?_
        refine z_get S (pc := 184) B iX8_readStep_X8 0 rfl rfl 11 (by decide) rfl rfl (by decide +kernel) dX8_readStep_184 ?_
        refine z_iconst S (pc := 187) dX8_readStep_187 ?_
        refine z_iadd S (pc := 188) dX8_readStep_188 ?_
        refine z_put S (pc := 189) B iX8_readStep_X8 tyX8_ok nmX8 0 rfl rfl 11 (by decide) rfl (by decide +kernel) (ty := .int) (by decide +kernel) rfl rfl (Nat.le_of_ble_eq_true rfl) dX8_readStep_189 (wn := [cMod a p1 p2 p3 p4 p5 p6 pm ig mo ((mnum χ pm 1 99 (rd + 1)).2.2) (if (mnum χ pm 1 99 (rd + 1)).1 = 1 then 1 else wr) (sm + 1), cInt E p5 60 χ, cInt E p6 120 (up (up ψ (2 * sm).toNat (chr0 χ pm rd)) ((2 * sm) + 1).toNat ((mnum χ pm 1 99 (rd + 1)).2.1))]) rfl (fun H locs B => ?_)
        have hma : marg χ pm (chr0 χ pm rd) (rd + 1) = (mnum χ pm 1 99 (rd + 1)) := by unfold marg; rw [if_pos hkd, if_pos (by omega)]
        have hms : mstp χ pm rd sm ψ = ((mnum χ pm 1 99 (rd + 1)).1, (mnum χ pm 1 99 (rd + 1)).2.2, sm + 1, up (up ψ (2 * sm).toNat (chr0 χ pm rd)) (2 * sm + 1).toNat (mnum χ pm 1 99 (rd + 1)).2.1) := by unfold mstp; rw [if_pos hK, hma]
        have hw1 := marg_bd (kd := chr0 χ pm rd) (i := rd + 1) hX hn (by omega)
        rw [hma] at hw1
        have hw2 : (if (mnum χ pm 1 99 (rd + 1)).1 = 1 then 1 else wr) = (mnum χ pm 1 99 (rd + 1)).1 := by split <;> omega
        rw [hw2] at B
        exact z_return S hr hlk B () trivial rfl (by rw [hms]) (pc := 192) dX8_readStep_192
    · have hl : lv_has ls 3 [(2, .int (iI 0)), (1, .int (iI (chr0 χ pm rd))), (0, .ref a)] := hl
      rw [show Value.int (iI (chr0 χ pm rd)) = Value.int (iI 122) from by rw [hkd]]
      refine z_lsw S (pc := 54) (tgt := 156) (by omega) dX8_readStep_54 (by decide) rfl rfl ?_
      refine z_aload_n S (pc := 156) dX8_readStep_156 rfl (lv_at hl 2 rfl) ?_
      refine z_get S (pc := 157) B iX8_readStep_X8 0 rfl rfl 10 (by decide) rfl rfl (by decide +kernel) dX8_readStep_157 ?_
      refine z_iconst S (pc := 160) dX8_readStep_160 ?_
      refine z_aload_n S (pc := 161) dX8_readStep_161 rfl (lv_at hl 2 rfl) ?_
      refine z_get S (pc := 162) B iX8_readStep_X8 0 rfl rfl 11 (by decide) rfl rfl (by decide +kernel) dX8_readStep_162 ?_
      refine z_imul S (pc := 165) dX8_readStep_165 ?_
      refine z_iload_n S (pc := 166) dX8_readStep_166 rfl (lv_at hl 1 rfl) ?_
      refine z_iast S (pc := 167) B 2 1 rfl rfl (k := (2 * sm).toNat) (by omega) (by omega) (by decide) dX8_readStep_167 (wn := [cMod a p1 p2 p3 p4 p5 p6 pm ig mo (rd + 1) wr sm, cInt E p5 60 χ, cInt E p6 120 (up ψ (2 * sm).toNat (chr0 χ pm rd))]) (by rw [iat_up]; rfl) (fun H locs B => ?_)
      refine z_aload_n S (pc := 168) dX8_readStep_168 rfl (lv_at hl 2 rfl) ?_
      refine z_get S (pc := 169) B iX8_readStep_X8 0 rfl rfl 10 (by decide) rfl rfl (by decide +kernel) dX8_readStep_169 ?_
      refine z_iconst S (pc := 172) dX8_readStep_172 ?_
      refine z_aload_n S (pc := 173) dX8_readStep_173 rfl (lv_at hl 2 rfl) ?_
      refine z_get S (pc := 174) B iX8_readStep_X8 0 rfl rfl 11 (by decide) rfl rfl (by decide +kernel) dX8_readStep_174 ?_
      refine z_imul S (pc := 177) dX8_readStep_177 ?_
      refine z_iconst S (pc := 178) dX8_readStep_178 ?_
      refine z_iadd S (pc := 179) dX8_readStep_179 ?_
      refine z_iload_n S (pc := 180) dX8_readStep_180 rfl (lv_at hl 0 rfl) ?_
      refine z_iast S (pc := 181) B 2 1 rfl rfl (k := ((2 * sm) + 1).toNat) (by omega) (by omega) (by decide) dX8_readStep_181 (wn := [cMod a p1 p2 p3 p4 p5 p6 pm ig mo (rd + 1) wr sm, cInt E p5 60 χ, cInt E p6 120 (up (up ψ (2 * sm).toNat (chr0 χ pm rd)) ((2 * sm) + 1).toNat 0)]) (by rw [iat_up]; rfl) (fun H locs B => ?_)
      refine z_aload_n S (pc := 182) dX8_readStep_182 rfl (lv_at hl 2 rfl) ?_
      refine lv_dup S.1 S.2.1 (pc := 183) dX8_readStep_183 rfl ?_
      refine z_get S (pc := 184) B iX8_readStep_X8 0 rfl rfl 11 (by decide) rfl rfl (by decide +kernel) dX8_readStep_184 ?_
      refine z_iconst S (pc := 187) dX8_readStep_187 ?_
      refine z_iadd S (pc := 188) dX8_readStep_188 ?_
      refine z_put S (pc := 189) B iX8_readStep_X8 tyX8_ok nmX8 0 rfl rfl 11 (by decide) rfl (by decide +kernel) (ty := .int) (by decide +kernel) rfl rfl (Nat.le_of_ble_eq_true rfl) dX8_readStep_189 (wn := [cMod a p1 p2 p3 p4 p5 p6 pm ig mo (rd + 1) wr (sm + 1), cInt E p5 60 χ, cInt E p6 120 (up (up ψ (2 * sm).toNat (chr0 χ pm rd)) ((2 * sm) + 1).toNat 0)]) rfl (fun H locs B => ?_)
      have hma : marg χ pm (chr0 χ pm rd) (rd + 1) = (0, 0, rd + 1) := by unfold marg; rw [if_neg (by omega), if_neg (by omega), if_neg (by omega), if_neg (by omega)]
      have hms : mstp χ pm rd sm ψ = ((0, 0, rd + 1).1, (0, 0, rd + 1).2.2, sm + 1, up (up ψ (2 * sm).toNat (chr0 χ pm rd)) (2 * sm + 1).toNat (0, 0, rd + 1).2.1) := by unfold mstp; rw [if_pos hK, hma]
      rw [hw0] at B
      exact z_return S hr hlk B () trivial rfl (by rw [hms]) (pc := 192) dX8_readStep_192
    · have hl : lv_has ls 3 [(2, .int (iI 0)), (1, .int (iI (chr0 χ pm rd))), (0, .ref a)] := hl
      rw [show Value.int (iI (chr0 χ pm rd)) = Value.int (iI 119) from by rw [hkd]]
      refine z_lsw S (pc := 54) (tgt := 128) (by omega) dX8_readStep_54 (by decide) rfl rfl ?_
      refine z_aload_n S (pc := 128) dX8_readStep_128 rfl (lv_at hl 2 rfl) ?_
      refine z_iconst S (pc := 129) dX8_readStep_129 ?_
      refine z_sipush S (pc := 130) dX8_readStep_130 rfl ?_
      refine z_callV S (pc := 133) B (wr := [cInt E p6 120 ψ]) (wn := fun _ => [cMod a p1 p2 p3 p4 p5 p6 pm ig mo ((mnum χ pm 1 9999 (rd + 1)).2.2) (if (mnum χ pm 1 9999 (rd + 1)).1 = 1 then 1 else wr) sm, cInt E p5 60 χ, cInt E p6 120 ψ]) (st1 := fun _ => [.int (iI ((mnum χ pm 1 9999 (rd + 1)).2.1))]) (As := [.int (iI 1), .int (iI 9999)]) (mX8_takeNumber l E a p1 p2 p3 p4 p5 p6 (fun _ => 0) (fun _ => 0) pm ig mo (rd + 1) wr sm χ 1 9999 (show 0 ≤ pm ∧ pm ≤ 60 from by omega) (show 0 ≤ (rd + 1) ∧ (rd + 1) ≤ pm from by omega) (show inX χ from by assumption) (show 0 ≤ 1 ∧ 1 ≤ 1 from by omega) (show 9 ≤ 9999 ∧ 9999 ≤ 3000000 from by omega)) gX8_readStep_X8_takeNumber 2 rfl (by decide +kernel) ⟨Nat.le_of_ble_eq_true rfl, Nat.le_of_ble_eq_true rfl, Nat.le_of_ble_eq_true rfl, Nat.le_of_ble_eq_true rfl⟩ 0 rfl (q := (RX8, TX8, 12)) rfl rfl [0, 1] [2] [1, 2, 0] rfl rfl ⟨rfl, rfl, rfl, by decide⟩ (fun _ => rfl) rfl (fun _ => rfl) hl.1 (Nat.le_of_ble_eq_true rfl) rfl dX8_readStep_133 (fun _ _ H locs B => ?_)
      refine lv_istore_n (lv' := [(2, .int (iI ((mnum χ pm 1 9999 (rd + 1)).2.1))), (1, .int (iI (chr0 χ pm rd))), (0, .ref a)]) S.1 S.2.1 (pc := 136) dX8_readStep_136 rfl hl (by decide) rfl (fun ls hl => ?_)
      refine lv_goto S.1 S.2.1 (pc := 137) (tgt := 156) dX8_readStep_137 rfl ?_
      refine z_aload_n S (pc := 156) dX8_readStep_156 rfl (lv_at hl 2 rfl) ?_
      refine z_get S (pc := 157) B iX8_readStep_X8 0 rfl rfl 10 (by decide) rfl rfl (by decide +kernel) dX8_readStep_157 ?_
      refine z_iconst S (pc := 160) dX8_readStep_160 ?_
      refine z_aload_n S (pc := 161) dX8_readStep_161 rfl (lv_at hl 2 rfl) ?_
      refine z_get S (pc := 162) B iX8_readStep_X8 0 rfl rfl 11 (by decide) rfl rfl (by decide +kernel) dX8_readStep_162 ?_
      refine z_imul S (pc := 165) dX8_readStep_165 ?_
      refine z_iload_n S (pc := 166) dX8_readStep_166 rfl (lv_at hl 1 rfl) ?_
      refine z_iast S (pc := 167) B 2 1 rfl rfl (k := (2 * sm).toNat) (by omega) (by omega) (by decide) dX8_readStep_167 (wn := [cMod a p1 p2 p3 p4 p5 p6 pm ig mo ((mnum χ pm 1 9999 (rd + 1)).2.2) (if (mnum χ pm 1 9999 (rd + 1)).1 = 1 then 1 else wr) sm, cInt E p5 60 χ, cInt E p6 120 (up ψ (2 * sm).toNat (chr0 χ pm rd))]) (by rw [iat_up]; rfl) (fun H locs B => ?_)
      refine z_aload_n S (pc := 168) dX8_readStep_168 rfl (lv_at hl 2 rfl) ?_
      refine z_get S (pc := 169) B iX8_readStep_X8 0 rfl rfl 10 (by decide) rfl rfl (by decide +kernel) dX8_readStep_169 ?_
      refine z_iconst S (pc := 172) dX8_readStep_172 ?_
      refine z_aload_n S (pc := 173) dX8_readStep_173 rfl (lv_at hl 2 rfl) ?_
      refine z_get S (pc := 174) B iX8_readStep_X8 0 rfl rfl 11 (by decide) rfl rfl (by decide +kernel) dX8_readStep_174 ?_
      refine z_imul S (pc := 177) dX8_readStep_177 ?_
      refine z_iconst S (pc := 178) dX8_readStep_178 ?_
      refine z_iadd S (pc := 179) dX8_readStep_179 ?_
      refine z_iload_n S (pc := 180) dX8_readStep_180 rfl (lv_at hl 0 rfl) ?_
      refine z_iast S (pc := 181) B 2 1 rfl rfl (k := ((2 * sm) + 1).toNat) (by omega) (by omega) (by decide) dX8_readStep_181 (wn := [cMod a p1 p2 p3 p4 p5 p6 pm ig mo ((mnum χ pm 1 9999 (rd + 1)).2.2) (if (mnum χ pm 1 9999 (rd + 1)).1 = 1 then 1 else wr) sm, cInt E p5 60 χ, cInt E p6 120 (up (up ψ (2 * sm).toNat (chr0 χ pm rd)) ((2 * sm) + 1).toNat ((mnum χ pm 1 9999 (rd + 1)).2.1))]) (by rw [iat_up]; rfl) (fun H locs B => ?_)
      refine z_aload_n S (pc := 182) dX8_readStep_182 rfl (lv_at hl 2 rfl) ?_
      refine lv_dup S.1 S.2.1 (pc := 183) dX8_readStep_183 rfl ?_
      refine z_get S (pc := 184) B iX8_readStep_X8 0 rfl rfl 11 (by decide) rfl rfl (by decide +kernel) dX8_readStep_184 ?_
      refine z_iconst S (pc := 187) dX8_readStep_187 ?_
      refine z_iadd S (pc := 188) dX8_readStep_188 ?_
      refine z_put S (pc := 189) B iX8_readStep_X8 tyX8_ok nmX8 0 rfl rfl 11 (by decide) rfl (by decide +kernel) (ty := .int) (by decide +kernel) rfl rfl (Nat.le_of_ble_eq_true rfl) dX8_readStep_189 (wn := [cMod a p1 p2 p3 p4 p5 p6 pm ig mo ((mnum χ pm 1 9999 (rd + 1)).2.2) (if (mnum χ pm 1 9999 (rd + 1)).1 = 1 then 1 else wr) (sm + 1), cInt E p5 60 χ, cInt E p6 120 (up (up ψ (2 * sm).toNat (chr0 χ pm rd)) ((2 * sm) + 1).toNat ((mnum χ pm 1 9999 (rd + 1)).2.1))]) rfl (fun H locs B => ?_)
      have hma : marg χ pm (chr0 χ pm rd) (rd + 1) = (mnum χ pm 1 9999 (rd + 1)) := by unfold marg; rw [if_neg (by omega), if_pos hkd]
      have hms : mstp χ pm rd sm ψ = ((mnum χ pm 1 9999 (rd + 1)).1, (mnum χ pm 1 9999 (rd + 1)).2.2, sm + 1, up (up ψ (2 * sm).toNat (chr0 χ pm rd)) (2 * sm + 1).toNat (mnum χ pm 1 9999 (rd + 1)).2.1) := by unfold mstp; rw [if_pos hK, hma]
      have hw1 := marg_bd (kd := chr0 χ pm rd) (i := rd + 1) hX hn (by omega)
      rw [hma] at hw1
      have hw2 : (if (mnum χ pm 1 9999 (rd + 1)).1 = 1 then 1 else wr) = (mnum χ pm 1 9999 (rd + 1)).1 := by split <;> omega
      rw [hw2] at B
      exact z_return S hr hlk B () trivial rfl (by rw [hms]) (pc := 192) dX8_readStep_192
    · have hl : lv_has ls 3 [(2, .int (iI 0)), (1, .int (iI (chr0 χ pm rd))), (0, .ref a)] := hl
      rw [show Value.int (iI (chr0 χ pm rd)) = Value.int (iI 108) from by rw [hkd]]
      refine z_lsw S (pc := 54) (tgt := 140) (by omega) dX8_readStep_54 (by decide) rfl rfl ?_
      refine z_aload_n S (pc := 140) dX8_readStep_140 rfl (lv_at hl 2 rfl) ?_
      refine z_callV S (pc := 141) B (wr := [cInt E p6 120 ψ]) (wn := fun _ => [cMod a p1 p2 p3 p4 p5 p6 pm ig mo ((mlev χ pm (rd + 1)).2.2) (if (mlev χ pm (rd + 1)).1 = 1 then 1 else wr) sm, cInt E p5 60 χ, cInt E p6 120 ψ]) (st1 := fun _ => [.int (iI ((mlev χ pm (rd + 1)).2.1))]) (As := []) (mX8_takeLevel l E a p1 p2 p3 p4 p5 p6 (fun _ => 0) (fun _ => 0) pm ig mo (rd + 1) wr sm χ (show 0 ≤ pm ∧ pm ≤ 60 from by omega) (show 0 ≤ (rd + 1) ∧ (rd + 1) ≤ pm from by omega) (show inX χ from by assumption)) gX8_readStep_X8_takeLevel 0 rfl (by decide +kernel) ⟨Nat.le_of_ble_eq_true rfl, Nat.le_of_ble_eq_true rfl, Nat.le_of_ble_eq_true rfl, Nat.le_of_ble_eq_true rfl⟩ 0 rfl (q := (RX8, TX8, 12)) rfl rfl [0, 1] [2] [1, 2, 0] rfl rfl ⟨rfl, rfl, rfl, by decide⟩ (fun _ => rfl) rfl (fun _ => rfl) hl.1 (Nat.le_of_ble_eq_true rfl) rfl dX8_readStep_141 (fun _ _ H locs B => ?_)
      refine lv_istore_n (lv' := [(2, .int (iI ((mlev χ pm (rd + 1)).2.1))), (1, .int (iI (chr0 χ pm rd))), (0, .ref a)]) S.1 S.2.1 (pc := 144) dX8_readStep_144 rfl hl (by decide) rfl (fun ls hl => ?_)
      refine lv_goto S.1 S.2.1 (pc := 145) (tgt := 156) dX8_readStep_145 rfl ?_
      refine z_aload_n S (pc := 156) dX8_readStep_156 rfl (lv_at hl 2 rfl) ?_
      refine z_get S (pc := 157) B iX8_readStep_X8 0 rfl rfl 10 (by decide) rfl rfl (by decide +kernel) dX8_readStep_157 ?_
      refine z_iconst S (pc := 160) dX8_readStep_160 ?_
      refine z_aload_n S (pc := 161) dX8_readStep_161 rfl (lv_at hl 2 rfl) ?_
      refine z_get S (pc := 162) B iX8_readStep_X8 0 rfl rfl 11 (by decide) rfl rfl (by decide +kernel) dX8_readStep_162 ?_
      refine z_imul S (pc := 165) dX8_readStep_165 ?_
      refine z_iload_n S (pc := 166) dX8_readStep_166 rfl (lv_at hl 1 rfl) ?_
      refine z_iast S (pc := 167) B 2 1 rfl rfl (k := (2 * sm).toNat) (by omega) (by omega) (by decide) dX8_readStep_167 (wn := [cMod a p1 p2 p3 p4 p5 p6 pm ig mo ((mlev χ pm (rd + 1)).2.2) (if (mlev χ pm (rd + 1)).1 = 1 then 1 else wr) sm, cInt E p5 60 χ, cInt E p6 120 (up ψ (2 * sm).toNat (chr0 χ pm rd))]) (by rw [iat_up]; rfl) (fun H locs B => ?_)
      refine z_aload_n S (pc := 168) dX8_readStep_168 rfl (lv_at hl 2 rfl) ?_
      refine z_get S (pc := 169) B iX8_readStep_X8 0 rfl rfl 10 (by decide) rfl rfl (by decide +kernel) dX8_readStep_169 ?_
      refine z_iconst S (pc := 172) dX8_readStep_172 ?_
      refine z_aload_n S (pc := 173) dX8_readStep_173 rfl (lv_at hl 2 rfl) ?_
      refine z_get S (pc := 174) B iX8_readStep_X8 0 rfl rfl 11 (by decide) rfl rfl (by decide +kernel) dX8_readStep_174 ?_
      refine z_imul S (pc := 177) dX8_readStep_177 ?_
      refine z_iconst S (pc := 178) dX8_readStep_178 ?_
      refine z_iadd S (pc := 179) dX8_readStep_179 ?_
      refine z_iload_n S (pc := 180) dX8_readStep_180 rfl (lv_at hl 0 rfl) ?_
      refine z_iast S (pc := 181) B 2 1 rfl rfl (k := ((2 * sm) + 1).toNat) (by omega) (by omega) (by decide) dX8_readStep_181 (wn := [cMod a p1 p2 p3 p4 p5 p6 pm ig mo ((mlev χ pm (rd + 1)).2.2) (if (mlev χ pm (rd + 1)).1 = 1 then 1 else wr) sm, cInt E p5 60 χ, cInt E p6 120 (up (up ψ (2 * sm).toNat (chr0 χ pm rd)) ((2 * sm) + 1).toNat ((mlev χ pm (rd + 1)).2.1))]) (by rw [iat_up]; rfl) (fun H locs B => ?_)
      refine z_aload_n S (pc := 182) dX8_readStep_182 rfl (lv_at hl 2 rfl) ?_
      refine lv_dup S.1 S.2.1 (pc := 183) dX8_readStep_183 rfl ?_
      refine z_get S (pc := 184) B iX8_readStep_X8 0 rfl rfl 11 (by decide) rfl rfl (by decide +kernel) dX8_readStep_184 ?_
      refine z_iconst S (pc := 187) dX8_readStep_187 ?_
      refine z_iadd S (pc := 188) dX8_readStep_188 ?_
      refine z_put S (pc := 189) B iX8_readStep_X8 tyX8_ok nmX8 0 rfl rfl 11 (by decide) rfl (by decide +kernel) (ty := .int) (by decide +kernel) rfl rfl (Nat.le_of_ble_eq_true rfl) dX8_readStep_189 (wn := [cMod a p1 p2 p3 p4 p5 p6 pm ig mo ((mlev χ pm (rd + 1)).2.2) (if (mlev χ pm (rd + 1)).1 = 1 then 1 else wr) (sm + 1), cInt E p5 60 χ, cInt E p6 120 (up (up ψ (2 * sm).toNat (chr0 χ pm rd)) ((2 * sm) + 1).toNat ((mlev χ pm (rd + 1)).2.1))]) rfl (fun H locs B => ?_)
      have hma : marg χ pm (chr0 χ pm rd) (rd + 1) = (mlev χ pm (rd + 1)) := by unfold marg; rw [if_neg (by omega), if_neg (by omega), if_pos hkd]
      have hms : mstp χ pm rd sm ψ = ((mlev χ pm (rd + 1)).1, (mlev χ pm (rd + 1)).2.2, sm + 1, up (up ψ (2 * sm).toNat (chr0 χ pm rd)) (2 * sm + 1).toNat (mlev χ pm (rd + 1)).2.1) := by unfold mstp; rw [if_pos hK, hma]
      have hw1 := marg_bd (kd := chr0 χ pm rd) (i := rd + 1) hX hn (by omega)
      rw [hma] at hw1
      have hw2 : (if (mlev χ pm (rd + 1)).1 = 1 then 1 else wr) = (mlev χ pm (rd + 1)).1 := by split <;> omega
      rw [hw2] at B
      exact z_return S hr hlk B () trivial rfl (by rw [hms]) (pc := 192) dX8_readStep_192
    · have hl : lv_has ls 3 [(2, .int (iI 0)), (1, .int (iI (chr0 χ pm rd))), (0, .ref a)] := hl
      rw [show Value.int (iI (chr0 χ pm rd)) = Value.int (iI 103) from by rw [hkd]]
      refine z_lsw S (pc := 54) (tgt := 148) (by omega) dX8_readStep_54 (by decide) rfl rfl ?_
      refine z_aload_n S (pc := 148) dX8_readStep_148 rfl (lv_at hl 2 rfl) ?_
      refine z_callV S (pc := 149) B (wr := [cInt E p6 120 ψ]) (wn := fun _ => [cMod a p1 p2 p3 p4 p5 p6 pm ig mo ((mrng χ pm (rd + 1)).2.2) (if (mrng χ pm (rd + 1)).1 = 1 then 1 else wr) sm, cInt E p5 60 χ, cInt E p6 120 ψ]) (st1 := fun _ => [.int (iI ((mrng χ pm (rd + 1)).2.1))]) (As := []) (mX8_takeRange l E a p1 p2 p3 p4 p5 p6 (fun _ => 0) (fun _ => 0) pm ig mo (rd + 1) wr sm χ (show 0 ≤ pm ∧ pm ≤ 60 from by omega) (show 0 ≤ (rd + 1) ∧ (rd + 1) ≤ pm from by omega) (show inX χ from by assumption)) gX8_readStep_X8_takeRange 0 rfl (by decide +kernel) ⟨Nat.le_of_ble_eq_true rfl, Nat.le_of_ble_eq_true rfl, Nat.le_of_ble_eq_true rfl, Nat.le_of_ble_eq_true rfl⟩ 0 rfl (q := (RX8, TX8, 12)) rfl rfl [0, 1] [2] [1, 2, 0] rfl rfl ⟨rfl, rfl, rfl, by decide⟩ (fun _ => rfl) rfl (fun _ => rfl) hl.1 (Nat.le_of_ble_eq_true rfl) rfl dX8_readStep_149 (fun _ _ H locs B => ?_)
      refine lv_istore_n (lv' := [(2, .int (iI ((mrng χ pm (rd + 1)).2.1))), (1, .int (iI (chr0 χ pm rd))), (0, .ref a)]) S.1 S.2.1 (pc := 152) dX8_readStep_152 rfl hl (by decide) rfl (fun ls hl => ?_)
      refine lv_goto S.1 S.2.1 (pc := 153) (tgt := 156) dX8_readStep_153 rfl ?_
      refine z_aload_n S (pc := 156) dX8_readStep_156 rfl (lv_at hl 2 rfl) ?_
      refine z_get S (pc := 157) B iX8_readStep_X8 0 rfl rfl 10 (by decide) rfl rfl (by decide +kernel) dX8_readStep_157 ?_
      refine z_iconst S (pc := 160) dX8_readStep_160 ?_
      refine z_aload_n S (pc := 161) dX8_readStep_161 rfl (lv_at hl 2 rfl) ?_
      refine z_get S (pc := 162) B iX8_readStep_X8 0 rfl rfl 11 (by decide) rfl rfl (by decide +kernel) dX8_readStep_162 ?_
      refine z_imul S (pc := 165) dX8_readStep_165 ?_
      refine z_iload_n S (pc := 166) dX8_readStep_166 rfl (lv_at hl 1 rfl) ?_
      refine z_iast S (pc := 167) B 2 1 rfl rfl (k := (2 * sm).toNat) (by omega) (by omega) (by decide) dX8_readStep_167 (wn := [cMod a p1 p2 p3 p4 p5 p6 pm ig mo ((mrng χ pm (rd + 1)).2.2) (if (mrng χ pm (rd + 1)).1 = 1 then 1 else wr) sm, cInt E p5 60 χ, cInt E p6 120 (up ψ (2 * sm).toNat (chr0 χ pm rd))]) (by rw [iat_up]; rfl) (fun H locs B => ?_)
      refine z_aload_n S (pc := 168) dX8_readStep_168 rfl (lv_at hl 2 rfl) ?_
      refine z_get S (pc := 169) B iX8_readStep_X8 0 rfl rfl 10 (by decide) rfl rfl (by decide +kernel) dX8_readStep_169 ?_
      refine z_iconst S (pc := 172) dX8_readStep_172 ?_
      refine z_aload_n S (pc := 173) dX8_readStep_173 rfl (lv_at hl 2 rfl) ?_
      refine z_get S (pc := 174) B iX8_readStep_X8 0 rfl rfl 11 (by decide) rfl rfl (by decide +kernel) dX8_readStep_174 ?_
      refine z_imul S (pc := 177) dX8_readStep_177 ?_
      refine z_iconst S (pc := 178) dX8_readStep_178 ?_
      refine z_iadd S (pc := 179) dX8_readStep_179 ?_
      refine z_iload_n S (pc := 180) dX8_readStep_180 rfl (lv_at hl 0 rfl) ?_
      refine z_iast S (pc := 181) B 2 1 rfl rfl (k := ((2 * sm) + 1).toNat) (by omega) (by omega) (by decide) dX8_readStep_181 (wn := [cMod a p1 p2 p3 p4 p5 p6 pm ig mo ((mrng χ pm (rd + 1)).2.2) (if (mrng χ pm (rd + 1)).1 = 1 then 1 else wr) sm, cInt E p5 60 χ, cInt E p6 120 (up (up ψ (2 * sm).toNat (chr0 χ pm rd)) ((2 * sm) + 1).toNat ((mrng χ pm (rd + 1)).2.1))]) (by rw [iat_up]; rfl) (fun H locs B => ?_)
      refine z_aload_n S (pc := 182) dX8_readStep_182 rfl (lv_at hl 2 rfl) ?_
      refine lv_dup S.1 S.2.1 (pc := 183) dX8_readStep_183 rfl ?_
      refine z_get S (pc := 184) B iX8_readStep_X8 0 rfl rfl 11 (by decide) rfl rfl (by decide +kernel) dX8_readStep_184 ?_
      refine z_iconst S (pc := 187) dX8_readStep_187 ?_
      refine z_iadd S (pc := 188) dX8_readStep_188 ?_
      refine z_put S (pc := 189) B iX8_readStep_X8 tyX8_ok nmX8 0 rfl rfl 11 (by decide) rfl (by decide +kernel) (ty := .int) (by decide +kernel) rfl rfl (Nat.le_of_ble_eq_true rfl) dX8_readStep_189 (wn := [cMod a p1 p2 p3 p4 p5 p6 pm ig mo ((mrng χ pm (rd + 1)).2.2) (if (mrng χ pm (rd + 1)).1 = 1 then 1 else wr) (sm + 1), cInt E p5 60 χ, cInt E p6 120 (up (up ψ (2 * sm).toNat (chr0 χ pm rd)) ((2 * sm) + 1).toNat ((mrng χ pm (rd + 1)).2.1))]) rfl (fun H locs B => ?_)
      have hma : marg χ pm (chr0 χ pm rd) (rd + 1) = (mrng χ pm (rd + 1)) := by unfold marg; rw [if_neg (by omega), if_neg (by omega), if_neg (by omega), if_pos hkd]
      have hms : mstp χ pm rd sm ψ = ((mrng χ pm (rd + 1)).1, (mrng χ pm (rd + 1)).2.2, sm + 1, up (up ψ (2 * sm).toNat (chr0 χ pm rd)) (2 * sm + 1).toNat (mrng χ pm (rd + 1)).2.1) := by unfold mstp; rw [if_pos hK, hma]
      have hw1 := marg_bd (kd := chr0 χ pm rd) (i := rd + 1) hX hn (by omega)
      rw [hma] at hw1
      have hw2 : (if (mrng χ pm (rd + 1)).1 = 1 then 1 else wr) = (mrng χ pm (rd + 1)).1 := by split <;> omega
      rw [hw2] at B
      exact z_return S hr hlk B () trivial rfl (by rw [hms]) (pc := 192) dX8_readStep_192
  · refine z_iload_n S (pc := 11) dX8_readStep_11 rfl (lv_at hl 0 rfl) ?_
    refine z_bipush S (pc := 12) dX8_readStep_12 rfl ?_
    refine z_icmp_eq S (pc := 14) (tgt := 41) (by omega) (by omega) dX8_readStep_14 rfl (fun c3 => ?_) (fun c3 => ?_)
    · have hK : isK (chr0 χ pm rd) := by omega
      have hin := chr0_lt (χ := χ) (n := pm) (i := rd) (by omega)
      have hc2 := chr0_bd (i := rd + 1) hX hn.2
      refine z_aload_n S (pc := 41) dX8_readStep_41 rfl (lv_at hl 1 rfl) ?_
      refine lv_dup S.1 S.2.1 (pc := 42) dX8_readStep_42 rfl ?_
      refine z_get S (pc := 43) B iX8_readStep_X8 0 rfl rfl 8 (by decide) rfl rfl (by decide +kernel) dX8_readStep_43 ?_
      refine z_iconst S (pc := 46) dX8_readStep_46 ?_
      refine z_iadd S (pc := 47) dX8_readStep_47 ?_
      refine z_put S (pc := 48) B iX8_readStep_X8 tyX8_ok nmX8 0 rfl rfl 8 (by decide) rfl (by decide +kernel) (ty := .int) (by decide +kernel) rfl rfl (Nat.le_of_ble_eq_true rfl) dX8_readStep_48 (wn := [cMod a p1 p2 p3 p4 p5 p6 pm ig mo (rd + 1) wr sm, cInt E p5 60 χ, cInt E p6 120 ψ]) rfl (fun H locs B => ?_)
      refine z_iconst S (pc := 51) dX8_readStep_51 ?_
      refine lv_istore_n (lv' := [(2, .int (iI 0)), (1, .int (iI (chr0 χ pm rd))), (0, .ref a)]) S.1 S.2.1 (pc := 52) dX8_readStep_52 rfl hl (by decide) rfl (fun ls hl => ?_)
      refine z_iload_n S (pc := 53) dX8_readStep_53 rfl (lv_at hl 1 rfl) ?_
      rcases id hK with hkd | hkd | hkd | hkd | hkd
      · have hl : lv_has ls 3 [(2, .int (iI 0)), (1, .int (iI (chr0 χ pm rd))), (0, .ref a)] := hl
        rw [show Value.int (iI (chr0 χ pm rd)) = Value.int (iI 114) from by rw [hkd]]
        refine z_lsw S (pc := 54) (tgt := 96) (by omega) dX8_readStep_54 (by decide) rfl rfl ?_
        refine z_aload_n S (pc := 96) dX8_readStep_96 rfl (lv_at hl 2 rfl) ?_
        refine z_callV S (pc := 97) B (wr := [cInt E p6 120 ψ]) (wn := fun _ => [cMod a p1 p2 p3 p4 p5 p6 pm ig mo (rd + 1) wr sm, cInt E p5 60 χ, cInt E p6 120 ψ]) (st1 := fun _ => [.int (iI (chr0 χ pm (rd + 1)))]) (As := []) (mX8_nextSign l E a p1 p2 p3 p4 p5 p6 (fun _ => 0) (fun _ => 0) pm ig mo (rd + 1) wr sm χ (show 0 ≤ pm ∧ pm ≤ 60 from by omega) (show 0 ≤ (rd + 1) ∧ (rd + 1) ≤ pm from by omega) (show inX χ from by assumption)) gX8_readStep_X8_nextSign 0 rfl (by decide +kernel) ⟨Nat.le_of_ble_eq_true rfl, Nat.le_of_ble_eq_true rfl, Nat.le_of_ble_eq_true rfl, Nat.le_of_ble_eq_true rfl⟩ 0 rfl (q := (RX8, TX8, 12)) rfl rfl [0, 1] [2] [1, 2, 0] rfl rfl ⟨rfl, rfl, rfl, by decide⟩ (fun _ => rfl) rfl (fun _ => rfl) hl.1 (Nat.le_of_ble_eq_true rfl) rfl dX8_readStep_97 (fun _ _ H locs B => ?_)
        refine z_i2l S (pc := 100) (by omega) dX8_readStep_100 ?_
        refine z_ldc2 S (pc := 101) (x := 49) (by decide +kernel) rfl dX8_readStep_101 ?_
        refine z_ldc2 S (pc := 104) (x := 57) (by decide +kernel) rfl dX8_readStep_104 ?_
        refine z_callS S (pc := 107) B (wr := [cMod a p1 p2 p3 p4 p5 p6 pm ig mo (rd + 1) wr sm, cInt E p5 60 χ, cInt E p6 120 ψ]) (wn := fun _ => [cMod a p1 p2 p3 p4 p5 p6 pm ig mo (rd + 1) wr sm, cInt E p5 60 χ, cInt E p6 120 ψ]) (st1 := fun _ => [.int (iI (bI (49 ≤ chr0 χ pm (rd + 1) ∧ chr0 χ pm (rd + 1) ≤ 57)))]) (As := [.long (iL (chr0 χ pm (rd + 1))), .long (iL 49), .long (iL 57)]) (mX8_in l E (chr0 χ pm (rd + 1)) 49 57 (show inL (chr0 χ pm (rd + 1)) from by omega) (show inL 49 from by omega) (show inL 57 from by omega)) gX8_readStep_X8_in 3 rfl (by decide +kernel) ⟨Nat.le_of_ble_eq_true rfl, Nat.le_of_ble_eq_true rfl, Nat.le_of_ble_eq_true rfl, Nat.le_of_ble_eq_true rfl⟩ [] [0, 1, 2] [0, 1, 2] rfl rfl ⟨rfl, rfl, rfl, by decide⟩ (fun _ => rfl) rfl (fun _ => rfl) hl.1 (Nat.le_of_ble_eq_true rfl) rfl dX8_readStep_107 (fun _ _ H locs B => ?_)
        refine z_ifeq_b S (pc := 110) (tgt := 123) dX8_readStep_110 rfl (fun c4 => ?_) (fun c4 => ?_)
        · refine z_iconst S (pc := 123) dX8_readStep_123 ?_
          refine lv_istore_n (lv' := [(2, .int (iI 1)), (1, .int (iI (chr0 χ pm rd))), (0, .ref a)]) S.1 S.2.1 (pc := 124) dX8_readStep_124 rfl hl (by decide) rfl (fun ls hl => ?_)
          refine lv_goto S.1 S.2.1 (pc := 125) (tgt := 156) dX8_readStep_125 rfl ?_
          refine z_aload_n S (pc := 156) dX8_readStep_156 rfl (lv_at hl 2 rfl) ?_
          refine z_get S (pc := 157) B iX8_readStep_X8 0 rfl rfl 10 (by decide) rfl rfl (by decide +kernel) dX8_readStep_157 ?_
          refine z_iconst S (pc := 160) dX8_readStep_160 ?_
          refine z_aload_n S (pc := 161) dX8_readStep_161 rfl (lv_at hl 2 rfl) ?_
          refine z_get S (pc := 162) B iX8_readStep_X8 0 rfl rfl 11 (by decide) rfl rfl (by decide +kernel) dX8_readStep_162 ?_
          refine z_imul S (pc := 165) dX8_readStep_165 ?_
          refine z_iload_n S (pc := 166) dX8_readStep_166 rfl (lv_at hl 1 rfl) ?_
          refine z_iast S (pc := 167) B 2 1 rfl rfl (k := (2 * sm).toNat) (by omega) (by omega) (by decide) dX8_readStep_167 (wn := [cMod a p1 p2 p3 p4 p5 p6 pm ig mo (rd + 1) wr sm, cInt E p5 60 χ, cInt E p6 120 (up ψ (2 * sm).toNat (chr0 χ pm rd))]) (by rw [iat_up]; rfl) (fun H locs B => ?_)
          refine z_aload_n S (pc := 168) dX8_readStep_168 rfl (lv_at hl 2 rfl) ?_
          refine z_get S (pc := 169) B iX8_readStep_X8 0 rfl rfl 10 (by decide) rfl rfl (by decide +kernel) dX8_readStep_169 ?_
          refine z_iconst S (pc := 172) dX8_readStep_172 ?_
          refine z_aload_n S (pc := 173) dX8_readStep_173 rfl (lv_at hl 2 rfl) ?_
          refine z_get S (pc := 174) B iX8_readStep_X8 0 rfl rfl 11 (by decide) rfl rfl (by decide +kernel) dX8_readStep_174 ?_
          refine z_imul S (pc := 177) dX8_readStep_177 ?_
          refine z_iconst S (pc := 178) dX8_readStep_178 ?_
          refine z_iadd S (pc := 179) dX8_readStep_179 ?_
          refine z_iload_n S (pc := 180) dX8_readStep_180 rfl (lv_at hl 0 rfl) ?_
          refine z_iast S (pc := 181) B 2 1 rfl rfl (k := ((2 * sm) + 1).toNat) (by omega) (by omega) (by decide) dX8_readStep_181 (wn := [cMod a p1 p2 p3 p4 p5 p6 pm ig mo (rd + 1) wr sm, cInt E p5 60 χ, cInt E p6 120 (up (up ψ (2 * sm).toNat (chr0 χ pm rd)) ((2 * sm) + 1).toNat 1)]) (by rw [iat_up]; rfl) (fun H locs B => ?_)
          refine z_aload_n S (pc := 182) dX8_readStep_182 rfl (lv_at hl 2 rfl) ?_
          refine lv_dup S.1 S.2.1 (pc := 183) dX8_readStep_183 rfl ?_
          refine z_get S (pc := 184) B iX8_readStep_X8 0 rfl rfl 11 (by decide) rfl rfl (by decide +kernel) dX8_readStep_184 ?_
          refine z_iconst S (pc := 187) dX8_readStep_187 ?_
          refine z_iadd S (pc := 188) dX8_readStep_188 ?_
          refine z_put S (pc := 189) B iX8_readStep_X8 tyX8_ok nmX8 0 rfl rfl 11 (by decide) rfl (by decide +kernel) (ty := .int) (by decide +kernel) rfl rfl (Nat.le_of_ble_eq_true rfl) dX8_readStep_189 (wn := [cMod a p1 p2 p3 p4 p5 p6 pm ig mo (rd + 1) wr (sm + 1), cInt E p5 60 χ, cInt E p6 120 (up (up ψ (2 * sm).toNat (chr0 χ pm rd)) ((2 * sm) + 1).toNat 1)]) rfl (fun H locs B => ?_)
          have hma : marg χ pm (chr0 χ pm rd) (rd + 1) = (0, 1, rd + 1) := by unfold marg; rw [if_pos hkd, if_neg (by omega)]
          have hms : mstp χ pm rd sm ψ = ((0, 1, rd + 1).1, (0, 1, rd + 1).2.2, sm + 1, up (up ψ (2 * sm).toNat (chr0 χ pm rd)) (2 * sm + 1).toNat (0, 1, rd + 1).2.1) := by unfold mstp; rw [if_pos hK, hma]
          rw [hw0] at B
          exact z_return S hr hlk B () trivial rfl (by rw [hms]) (pc := 192) dX8_readStep_192
        · refine z_aload_n S (pc := 113) dX8_readStep_113 rfl (lv_at hl 2 rfl) ?_
          refine z_iconst S (pc := 114) dX8_readStep_114 ?_
          refine z_bipush S (pc := 115) dX8_readStep_115 rfl ?_
          refine z_callV S (pc := 117) B (wr := [cInt E p6 120 ψ]) (wn := fun _ => [cMod a p1 p2 p3 p4 p5 p6 pm ig mo ((mnum χ pm 1 99 (rd + 1)).2.2) (if (mnum χ pm 1 99 (rd + 1)).1 = 1 then 1 else wr) sm, cInt E p5 60 χ, cInt E p6 120 ψ]) (st1 := fun _ => [.int (iI ((mnum χ pm 1 99 (rd + 1)).2.1))]) (As := [.int (iI 1), .int (iI 99)]) (mX8_takeNumber l E a p1 p2 p3 p4 p5 p6 (fun _ => 0) (fun _ => 0) pm ig mo (rd + 1) wr sm χ 1 99 (show 0 ≤ pm ∧ pm ≤ 60 from by omega) (show 0 ≤ (rd + 1) ∧ (rd + 1) ≤ pm from by omega) (show inX χ from by assumption) (show 0 ≤ 1 ∧ 1 ≤ 1 from by omega) (show 9 ≤ 99 ∧ 99 ≤ 3000000 from by omega)) gX8_readStep_X8_takeNumber 2 rfl (by decide +kernel) ⟨Nat.le_of_ble_eq_true rfl, Nat.le_of_ble_eq_true rfl, Nat.le_of_ble_eq_true rfl, Nat.le_of_ble_eq_true rfl⟩ 0 rfl (q := (RX8, TX8, 12)) rfl rfl [0, 1] [2] [1, 2, 0] rfl rfl ⟨rfl, rfl, rfl, by decide⟩ (fun _ => rfl) rfl (fun _ => rfl) hl.1 (Nat.le_of_ble_eq_true rfl) rfl dX8_readStep_117 (fun _ _ H locs B => ?_)
          refine lv_goto S.1 S.2.1 (pc := 120) (tgt := 124) dX8_readStep_120 rfl ?_
          refine lv_istore_n (lv' := [(2, .int (iI ((mnum χ pm 1 99 (rd + 1)).2.1))), (1, .int (iI (chr0 χ pm rd))), (0, .ref a)]) S.1 S.2.1 (pc := 124) dX8_readStep_124 rfl hl (by decide) rfl (fun ls hl => ?_)
          refine lv_goto S.1 S.2.1 (pc := 125) (tgt := 156) dX8_readStep_125 rfl ?_
          refine z_aload_n S (pc := 156) dX8_readStep_156 rfl (lv_at hl 2 rfl) ?_
          refine z_get S (pc := 157) B iX8_readStep_X8 0 rfl rfl 10 (by decide) rfl rfl (by decide +kernel) dX8_readStep_157 ?_
          refine z_iconst S (pc := 160) dX8_readStep_160 ?_
          refine z_aload_n S (pc := 161) dX8_readStep_161 rfl (lv_at hl 2 rfl) ?_
          refine z_get S (pc := 162) B iX8_readStep_X8 0 rfl rfl 11 (by decide) rfl rfl (by decide +kernel) dX8_readStep_162 ?_
          refine z_imul S (pc := 165) dX8_readStep_165 ?_
          refine z_iload_n S (pc := 166) dX8_readStep_166 rfl (lv_at hl 1 rfl) ?_
          refine z_iast S (pc := 167) B 2 1 rfl rfl (k := (2 * sm).toNat) (by omega) (by omega) (by decide) dX8_readStep_167 (wn := [cMod a p1 p2 p3 p4 p5 p6 pm ig mo ((mnum χ pm 1 99 (rd + 1)).2.2) (if (mnum χ pm 1 99 (rd + 1)).1 = 1 then 1 else wr) sm, cInt E p5 60 χ, cInt E p6 120 (up ψ (2 * sm).toNat (chr0 χ pm rd))]) (by rw [iat_up]; rfl) (fun H locs B => ?_)
          refine z_aload_n S (pc := 168) dX8_readStep_168 rfl (lv_at hl 2 rfl) ?_
          refine z_get S (pc := 169) B iX8_readStep_X8 0 rfl rfl 10 (by decide) rfl rfl (by decide +kernel) dX8_readStep_169 ?_
          refine z_iconst S (pc := 172) dX8_readStep_172 ?_
          refine z_aload_n S (pc := 173) dX8_readStep_173 rfl (lv_at hl 2 rfl) ?_
          refine z_get S (pc := 174) B iX8_readStep_X8 0 rfl rfl 11 (by decide) rfl rfl (by decide +kernel) dX8_readStep_174 ?_
          refine z_imul S (pc := 177) dX8_readStep_177 ?_
          refine z_iconst S (pc := 178) dX8_readStep_178 ?_
          refine z_iadd S (pc := 179) dX8_readStep_179 ?_
          refine z_iload_n S (pc := 180) dX8_readStep_180 rfl (lv_at hl 0 rfl) ?_
          refine z_iast S (pc := 181) B 2 1 rfl rfl (k := ((2 * sm) + 1).toNat) (by omega) (by omega) (by decide) dX8_readStep_181 (wn := [cMod a p1 p2 p3 p4 p5 p6 pm ig mo ((mnum χ pm 1 99 (rd + 1)).2.2) (if (mnum χ pm 1 99 (rd + 1)).1 = 1 then 1 else wr) sm, cInt E p5 60 χ, cInt E p6 120 (up (up ψ (2 * sm).toNat (chr0 χ pm rd)) ((2 * sm) + 1).toNat ((mnum χ pm 1 99 (rd + 1)).2.1))]) (by rw [iat_up]; rfl) (fun H locs B => ?_)
          refine z_aload_n S (pc := 182) dX8_readStep_182 rfl (lv_at hl 2 rfl) ?_
          refine lv_dup S.1 S.2.1 (pc := 183) dX8_readStep_183 rfl ?_
          refine z_get S (pc := 184) B iX8_readStep_X8 0 rfl rfl 11 (by decide) rfl rfl (by decide +kernel) dX8_readStep_184 ?_
          refine z_iconst S (pc := 187) dX8_readStep_187 ?_
          refine z_iadd S (pc := 188) dX8_readStep_188 ?_
          refine z_put S (pc := 189) B iX8_readStep_X8 tyX8_ok nmX8 0 rfl rfl 11 (by decide) rfl (by decide +kernel) (ty := .int) (by decide +kernel) rfl rfl (Nat.le_of_ble_eq_true rfl) dX8_readStep_189 (wn := [cMod a p1 p2 p3 p4 p5 p6 pm ig mo ((mnum χ pm 1 99 (rd + 1)).2.2) (if (mnum χ pm 1 99 (rd + 1)).1 = 1 then 1 else wr) (sm + 1), cInt E p5 60 χ, cInt E p6 120 (up (up ψ (2 * sm).toNat (chr0 χ pm rd)) ((2 * sm) + 1).toNat ((mnum χ pm 1 99 (rd + 1)).2.1))]) rfl (fun H locs B => ?_)
          have hma : marg χ pm (chr0 χ pm rd) (rd + 1) = (mnum χ pm 1 99 (rd + 1)) := by unfold marg; rw [if_pos hkd, if_pos (by omega)]
          have hms : mstp χ pm rd sm ψ = ((mnum χ pm 1 99 (rd + 1)).1, (mnum χ pm 1 99 (rd + 1)).2.2, sm + 1, up (up ψ (2 * sm).toNat (chr0 χ pm rd)) (2 * sm + 1).toNat (mnum χ pm 1 99 (rd + 1)).2.1) := by unfold mstp; rw [if_pos hK, hma]
          have hw1 := marg_bd (kd := chr0 χ pm rd) (i := rd + 1) hX hn (by omega)
          rw [hma] at hw1
          have hw2 : (if (mnum χ pm 1 99 (rd + 1)).1 = 1 then 1 else wr) = (mnum χ pm 1 99 (rd + 1)).1 := by split <;> omega
          rw [hw2] at B
          exact z_return S hr hlk B () trivial rfl (by rw [hms]) (pc := 192) dX8_readStep_192
      · have hl : lv_has ls 3 [(2, .int (iI 0)), (1, .int (iI (chr0 χ pm rd))), (0, .ref a)] := hl
        rw [show Value.int (iI (chr0 χ pm rd)) = Value.int (iI 122) from by rw [hkd]]
        refine z_lsw S (pc := 54) (tgt := 156) (by omega) dX8_readStep_54 (by decide) rfl rfl ?_
        refine z_aload_n S (pc := 156) dX8_readStep_156 rfl (lv_at hl 2 rfl) ?_
        refine z_get S (pc := 157) B iX8_readStep_X8 0 rfl rfl 10 (by decide) rfl rfl (by decide +kernel) dX8_readStep_157 ?_
        refine z_iconst S (pc := 160) dX8_readStep_160 ?_
        refine z_aload_n S (pc := 161) dX8_readStep_161 rfl (lv_at hl 2 rfl) ?_
        refine z_get S (pc := 162) B iX8_readStep_X8 0 rfl rfl 11 (by decide) rfl rfl (by decide +kernel) dX8_readStep_162 ?_
        refine z_imul S (pc := 165) dX8_readStep_165 ?_
        refine z_iload_n S (pc := 166) dX8_readStep_166 rfl (lv_at hl 1 rfl) ?_
        refine z_iast S (pc := 167) B 2 1 rfl rfl (k := (2 * sm).toNat) (by omega) (by omega) (by decide) dX8_readStep_167 (wn := [cMod a p1 p2 p3 p4 p5 p6 pm ig mo (rd + 1) wr sm, cInt E p5 60 χ, cInt E p6 120 (up ψ (2 * sm).toNat (chr0 χ pm rd))]) (by rw [iat_up]; rfl) (fun H locs B => ?_)
        refine z_aload_n S (pc := 168) dX8_readStep_168 rfl (lv_at hl 2 rfl) ?_
        refine z_get S (pc := 169) B iX8_readStep_X8 0 rfl rfl 10 (by decide) rfl rfl (by decide +kernel) dX8_readStep_169 ?_
        refine z_iconst S (pc := 172) dX8_readStep_172 ?_
        refine z_aload_n S (pc := 173) dX8_readStep_173 rfl (lv_at hl 2 rfl) ?_
        refine z_get S (pc := 174) B iX8_readStep_X8 0 rfl rfl 11 (by decide) rfl rfl (by decide +kernel) dX8_readStep_174 ?_
        refine z_imul S (pc := 177) dX8_readStep_177 ?_
        refine z_iconst S (pc := 178) dX8_readStep_178 ?_
        refine z_iadd S (pc := 179) dX8_readStep_179 ?_
        refine z_iload_n S (pc := 180) dX8_readStep_180 rfl (lv_at hl 0 rfl) ?_
        refine z_iast S (pc := 181) B 2 1 rfl rfl (k := ((2 * sm) + 1).toNat) (by omega) (by omega) (by decide) dX8_readStep_181 (wn := [cMod a p1 p2 p3 p4 p5 p6 pm ig mo (rd + 1) wr sm, cInt E p5 60 χ, cInt E p6 120 (up (up ψ (2 * sm).toNat (chr0 χ pm rd)) ((2 * sm) + 1).toNat 0)]) (by rw [iat_up]; rfl) (fun H locs B => ?_)
        refine z_aload_n S (pc := 182) dX8_readStep_182 rfl (lv_at hl 2 rfl) ?_
        refine lv_dup S.1 S.2.1 (pc := 183) dX8_readStep_183 rfl ?_
        refine z_get S (pc := 184) B iX8_readStep_X8 0 rfl rfl 11 (by decide) rfl rfl (by decide +kernel) dX8_readStep_184 ?_
        refine z_iconst S (pc := 187) dX8_readStep_187 ?_
        refine z_iadd S (pc := 188) dX8_readStep_188 ?_
        refine z_put S (pc := 189) B iX8_readStep_X8 tyX8_ok nmX8 0 rfl rfl 11 (by decide) rfl (by decide +kernel) (ty := .int) (by decide +kernel) rfl rfl (Nat.le_of_ble_eq_true rfl) dX8_readStep_189 (wn := [cMod a p1 p2 p3 p4 p5 p6 pm ig mo (rd + 1) wr (sm + 1), cInt E p5 60 χ, cInt E p6 120 (up (up ψ (2 * sm).toNat (chr0 χ pm rd)) ((2 * sm) + 1).toNat 0)]) rfl (fun H locs B => ?_)
        have hma : marg χ pm (chr0 χ pm rd) (rd + 1) = (0, 0, rd + 1) := by unfold marg; rw [if_neg (by omega), if_neg (by omega), if_neg (by omega), if_neg (by omega)]
        have hms : mstp χ pm rd sm ψ = ((0, 0, rd + 1).1, (0, 0, rd + 1).2.2, sm + 1, up (up ψ (2 * sm).toNat (chr0 χ pm rd)) (2 * sm + 1).toNat (0, 0, rd + 1).2.1) := by unfold mstp; rw [if_pos hK, hma]
        rw [hw0] at B
        exact z_return S hr hlk B () trivial rfl (by rw [hms]) (pc := 192) dX8_readStep_192
      · have hl : lv_has ls 3 [(2, .int (iI 0)), (1, .int (iI (chr0 χ pm rd))), (0, .ref a)] := hl
        rw [show Value.int (iI (chr0 χ pm rd)) = Value.int (iI 119) from by rw [hkd]]
        refine z_lsw S (pc := 54) (tgt := 128) (by omega) dX8_readStep_54 (by decide) rfl rfl ?_
        refine z_aload_n S (pc := 128) dX8_readStep_128 rfl (lv_at hl 2 rfl) ?_
        refine z_iconst S (pc := 129) dX8_readStep_129 ?_
        refine z_sipush S (pc := 130) dX8_readStep_130 rfl ?_
        refine z_callV S (pc := 133) B (wr := [cInt E p6 120 ψ]) (wn := fun _ => [cMod a p1 p2 p3 p4 p5 p6 pm ig mo ((mnum χ pm 1 9999 (rd + 1)).2.2) (if (mnum χ pm 1 9999 (rd + 1)).1 = 1 then 1 else wr) sm, cInt E p5 60 χ, cInt E p6 120 ψ]) (st1 := fun _ => [.int (iI ((mnum χ pm 1 9999 (rd + 1)).2.1))]) (As := [.int (iI 1), .int (iI 9999)]) (mX8_takeNumber l E a p1 p2 p3 p4 p5 p6 (fun _ => 0) (fun _ => 0) pm ig mo (rd + 1) wr sm χ 1 9999 (show 0 ≤ pm ∧ pm ≤ 60 from by omega) (show 0 ≤ (rd + 1) ∧ (rd + 1) ≤ pm from by omega) (show inX χ from by assumption) (show 0 ≤ 1 ∧ 1 ≤ 1 from by omega) (show 9 ≤ 9999 ∧ 9999 ≤ 3000000 from by omega)) gX8_readStep_X8_takeNumber 2 rfl (by decide +kernel) ⟨Nat.le_of_ble_eq_true rfl, Nat.le_of_ble_eq_true rfl, Nat.le_of_ble_eq_true rfl, Nat.le_of_ble_eq_true rfl⟩ 0 rfl (q := (RX8, TX8, 12)) rfl rfl [0, 1] [2] [1, 2, 0] rfl rfl ⟨rfl, rfl, rfl, by decide⟩ (fun _ => rfl) rfl (fun _ => rfl) hl.1 (Nat.le_of_ble_eq_true rfl) rfl dX8_readStep_133 (fun _ _ H locs B => ?_)
        refine lv_istore_n (lv' := [(2, .int (iI ((mnum χ pm 1 9999 (rd + 1)).2.1))), (1, .int (iI (chr0 χ pm rd))), (0, .ref a)]) S.1 S.2.1 (pc := 136) dX8_readStep_136 rfl hl (by decide) rfl (fun ls hl => ?_)
        refine lv_goto S.1 S.2.1 (pc := 137) (tgt := 156) dX8_readStep_137 rfl ?_
        refine z_aload_n S (pc := 156) dX8_readStep_156 rfl (lv_at hl 2 rfl) ?_
        refine z_get S (pc := 157) B iX8_readStep_X8 0 rfl rfl 10 (by decide) rfl rfl (by decide +kernel) dX8_readStep_157 ?_
        refine z_iconst S (pc := 160) dX8_readStep_160 ?_
        refine z_aload_n S (pc := 161) dX8_readStep_161 rfl (lv_at hl 2 rfl) ?_
        refine z_get S (pc := 162) B iX8_readStep_X8 0 rfl rfl 11 (by decide) rfl rfl (by decide +kernel) dX8_readStep_162 ?_
        refine z_imul S (pc := 165) dX8_readStep_165 ?_
        refine z_iload_n S (pc := 166) dX8_readStep_166 rfl (lv_at hl 1 rfl) ?_
        refine z_iast S (pc := 167) B 2 1 rfl rfl (k := (2 * sm).toNat) (by omega) (by omega) (by decide) dX8_readStep_167 (wn := [cMod a p1 p2 p3 p4 p5 p6 pm ig mo ((mnum χ pm 1 9999 (rd + 1)).2.2) (if (mnum χ pm 1 9999 (rd + 1)).1 = 1 then 1 else wr) sm, cInt E p5 60 χ, cInt E p6 120 (up ψ (2 * sm).toNat (chr0 χ pm rd))]) (by rw [iat_up]; rfl) (fun H locs B => ?_)
        refine z_aload_n S (pc := 168) dX8_readStep_168 rfl (lv_at hl 2 rfl) ?_
        refine z_get S (pc := 169) B iX8_readStep_X8 0 rfl rfl 10 (by decide) rfl rfl (by decide +kernel) dX8_readStep_169 ?_
        refine z_iconst S (pc := 172) dX8_readStep_172 ?_
        refine z_aload_n S (pc := 173) dX8_readStep_173 rfl (lv_at hl 2 rfl) ?_
        refine z_get S (pc := 174) B iX8_readStep_X8 0 rfl rfl 11 (by decide) rfl rfl (by decide +kernel) dX8_readStep_174 ?_
        refine z_imul S (pc := 177) dX8_readStep_177 ?_
        refine z_iconst S (pc := 178) dX8_readStep_178 ?_
        refine z_iadd S (pc := 179) dX8_readStep_179 ?_
        refine z_iload_n S (pc := 180) dX8_readStep_180 rfl (lv_at hl 0 rfl) ?_
        refine z_iast S (pc := 181) B 2 1 rfl rfl (k := ((2 * sm) + 1).toNat) (by omega) (by omega) (by decide) dX8_readStep_181 (wn := [cMod a p1 p2 p3 p4 p5 p6 pm ig mo ((mnum χ pm 1 9999 (rd + 1)).2.2) (if (mnum χ pm 1 9999 (rd + 1)).1 = 1 then 1 else wr) sm, cInt E p5 60 χ, cInt E p6 120 (up (up ψ (2 * sm).toNat (chr0 χ pm rd)) ((2 * sm) + 1).toNat ((mnum χ pm 1 9999 (rd + 1)).2.1))]) (by rw [iat_up]; rfl) (fun H locs B => ?_)
        refine z_aload_n S (pc := 182) dX8_readStep_182 rfl (lv_at hl 2 rfl) ?_
        refine lv_dup S.1 S.2.1 (pc := 183) dX8_readStep_183 rfl ?_
        refine z_get S (pc := 184) B iX8_readStep_X8 0 rfl rfl 11 (by decide) rfl rfl (by decide +kernel) dX8_readStep_184 ?_
        refine z_iconst S (pc := 187) dX8_readStep_187 ?_
        refine z_iadd S (pc := 188) dX8_readStep_188 ?_
        refine z_put S (pc := 189) B iX8_readStep_X8 tyX8_ok nmX8 0 rfl rfl 11 (by decide) rfl (by decide +kernel) (ty := .int) (by decide +kernel) rfl rfl (Nat.le_of_ble_eq_true rfl) dX8_readStep_189 (wn := [cMod a p1 p2 p3 p4 p5 p6 pm ig mo ((mnum χ pm 1 9999 (rd + 1)).2.2) (if (mnum χ pm 1 9999 (rd + 1)).1 = 1 then 1 else wr) (sm + 1), cInt E p5 60 χ, cInt E p6 120 (up (up ψ (2 * sm).toNat (chr0 χ pm rd)) ((2 * sm) + 1).toNat ((mnum χ pm 1 9999 (rd + 1)).2.1))]) rfl (fun H locs B => ?_)
        have hma : marg χ pm (chr0 χ pm rd) (rd + 1) = (mnum χ pm 1 9999 (rd + 1)) := by unfold marg; rw [if_neg (by omega), if_pos hkd]
        have hms : mstp χ pm rd sm ψ = ((mnum χ pm 1 9999 (rd + 1)).1, (mnum χ pm 1 9999 (rd + 1)).2.2, sm + 1, up (up ψ (2 * sm).toNat (chr0 χ pm rd)) (2 * sm + 1).toNat (mnum χ pm 1 9999 (rd + 1)).2.1) := by unfold mstp; rw [if_pos hK, hma]
        have hw1 := marg_bd (kd := chr0 χ pm rd) (i := rd + 1) hX hn (by omega)
        rw [hma] at hw1
        have hw2 : (if (mnum χ pm 1 9999 (rd + 1)).1 = 1 then 1 else wr) = (mnum χ pm 1 9999 (rd + 1)).1 := by split <;> omega
        rw [hw2] at B
        exact z_return S hr hlk B () trivial rfl (by rw [hms]) (pc := 192) dX8_readStep_192
      · have hl : lv_has ls 3 [(2, .int (iI 0)), (1, .int (iI (chr0 χ pm rd))), (0, .ref a)] := hl
        rw [show Value.int (iI (chr0 χ pm rd)) = Value.int (iI 108) from by rw [hkd]]
        refine z_lsw S (pc := 54) (tgt := 140) (by omega) dX8_readStep_54 (by decide) rfl rfl ?_
        refine z_aload_n S (pc := 140) dX8_readStep_140 rfl (lv_at hl 2 rfl) ?_
        refine z_callV S (pc := 141) B (wr := [cInt E p6 120 ψ]) (wn := fun _ => [cMod a p1 p2 p3 p4 p5 p6 pm ig mo ((mlev χ pm (rd + 1)).2.2) (if (mlev χ pm (rd + 1)).1 = 1 then 1 else wr) sm, cInt E p5 60 χ, cInt E p6 120 ψ]) (st1 := fun _ => [.int (iI ((mlev χ pm (rd + 1)).2.1))]) (As := []) (mX8_takeLevel l E a p1 p2 p3 p4 p5 p6 (fun _ => 0) (fun _ => 0) pm ig mo (rd + 1) wr sm χ (show 0 ≤ pm ∧ pm ≤ 60 from by omega) (show 0 ≤ (rd + 1) ∧ (rd + 1) ≤ pm from by omega) (show inX χ from by assumption)) gX8_readStep_X8_takeLevel 0 rfl (by decide +kernel) ⟨Nat.le_of_ble_eq_true rfl, Nat.le_of_ble_eq_true rfl, Nat.le_of_ble_eq_true rfl, Nat.le_of_ble_eq_true rfl⟩ 0 rfl (q := (RX8, TX8, 12)) rfl rfl [0, 1] [2] [1, 2, 0] rfl rfl ⟨rfl, rfl, rfl, by decide⟩ (fun _ => rfl) rfl (fun _ => rfl) hl.1 (Nat.le_of_ble_eq_true rfl) rfl dX8_readStep_141 (fun _ _ H locs B => ?_)
        refine lv_istore_n (lv' := [(2, .int (iI ((mlev χ pm (rd + 1)).2.1))), (1, .int (iI (chr0 χ pm rd))), (0, .ref a)]) S.1 S.2.1 (pc := 144) dX8_readStep_144 rfl hl (by decide) rfl (fun ls hl => ?_)
        refine lv_goto S.1 S.2.1 (pc := 145) (tgt := 156) dX8_readStep_145 rfl ?_
        refine z_aload_n S (pc := 156) dX8_readStep_156 rfl (lv_at hl 2 rfl) ?_
        refine z_get S (pc := 157) B iX8_readStep_X8 0 rfl rfl 10 (by decide) rfl rfl (by decide +kernel) dX8_readStep_157 ?_
        refine z_iconst S (pc := 160) dX8_readStep_160 ?_
        refine z_aload_n S (pc := 161) dX8_readStep_161 rfl (lv_at hl 2 rfl) ?_
        refine z_get S (pc := 162) B iX8_readStep_X8 0 rfl rfl 11 (by decide) rfl rfl (by decide +kernel) dX8_readStep_162 ?_
        refine z_imul S (pc := 165) dX8_readStep_165 ?_
        refine z_iload_n S (pc := 166) dX8_readStep_166 rfl (lv_at hl 1 rfl) ?_
        refine z_iast S (pc := 167) B 2 1 rfl rfl (k := (2 * sm).toNat) (by omega) (by omega) (by decide) dX8_readStep_167 (wn := [cMod a p1 p2 p3 p4 p5 p6 pm ig mo ((mlev χ pm (rd + 1)).2.2) (if (mlev χ pm (rd + 1)).1 = 1 then 1 else wr) sm, cInt E p5 60 χ, cInt E p6 120 (up ψ (2 * sm).toNat (chr0 χ pm rd))]) (by rw [iat_up]; rfl) (fun H locs B => ?_)
        refine z_aload_n S (pc := 168) dX8_readStep_168 rfl (lv_at hl 2 rfl) ?_
        refine z_get S (pc := 169) B iX8_readStep_X8 0 rfl rfl 10 (by decide) rfl rfl (by decide +kernel) dX8_readStep_169 ?_
        refine z_iconst S (pc := 172) dX8_readStep_172 ?_
        refine z_aload_n S (pc := 173) dX8_readStep_173 rfl (lv_at hl 2 rfl) ?_
        refine z_get S (pc := 174) B iX8_readStep_X8 0 rfl rfl 11 (by decide) rfl rfl (by decide +kernel) dX8_readStep_174 ?_
        refine z_imul S (pc := 177) dX8_readStep_177 ?_
        refine z_iconst S (pc := 178) dX8_readStep_178 ?_
        refine z_iadd S (pc := 179) dX8_readStep_179 ?_
        refine z_iload_n S (pc := 180) dX8_readStep_180 rfl (lv_at hl 0 rfl) ?_
        refine z_iast S (pc := 181) B 2 1 rfl rfl (k := ((2 * sm) + 1).toNat) (by omega) (by omega) (by decide) dX8_readStep_181 (wn := [cMod a p1 p2 p3 p4 p5 p6 pm ig mo ((mlev χ pm (rd + 1)).2.2) (if (mlev χ pm (rd + 1)).1 = 1 then 1 else wr) sm, cInt E p5 60 χ, cInt E p6 120 (up (up ψ (2 * sm).toNat (chr0 χ pm rd)) ((2 * sm) + 1).toNat ((mlev χ pm (rd + 1)).2.1))]) (by rw [iat_up]; rfl) (fun H locs B => ?_)
        refine z_aload_n S (pc := 182) dX8_readStep_182 rfl (lv_at hl 2 rfl) ?_
        refine lv_dup S.1 S.2.1 (pc := 183) dX8_readStep_183 rfl ?_
        refine z_get S (pc := 184) B iX8_readStep_X8 0 rfl rfl 11 (by decide) rfl rfl (by decide +kernel) dX8_readStep_184 ?_
        refine z_iconst S (pc := 187) dX8_readStep_187 ?_
        refine z_iadd S (pc := 188) dX8_readStep_188 ?_
        refine z_put S (pc := 189) B iX8_readStep_X8 tyX8_ok nmX8 0 rfl rfl 11 (by decide) rfl (by decide +kernel) (ty := .int) (by decide +kernel) rfl rfl (Nat.le_of_ble_eq_true rfl) dX8_readStep_189 (wn := [cMod a p1 p2 p3 p4 p5 p6 pm ig mo ((mlev χ pm (rd + 1)).2.2) (if (mlev χ pm (rd + 1)).1 = 1 then 1 else wr) (sm + 1), cInt E p5 60 χ, cInt E p6 120 (up (up ψ (2 * sm).toNat (chr0 χ pm rd)) ((2 * sm) + 1).toNat ((mlev χ pm (rd + 1)).2.1))]) rfl (fun H locs B => ?_)
        have hma : marg χ pm (chr0 χ pm rd) (rd + 1) = (mlev χ pm (rd + 1)) := by unfold marg; rw [if_neg (by omega), if_neg (by omega), if_pos hkd]
        have hms : mstp χ pm rd sm ψ = ((mlev χ pm (rd + 1)).1, (mlev χ pm (rd + 1)).2.2, sm + 1, up (up ψ (2 * sm).toNat (chr0 χ pm rd)) (2 * sm + 1).toNat (mlev χ pm (rd + 1)).2.1) := by unfold mstp; rw [if_pos hK, hma]
        have hw1 := marg_bd (kd := chr0 χ pm rd) (i := rd + 1) hX hn (by omega)
        rw [hma] at hw1
        have hw2 : (if (mlev χ pm (rd + 1)).1 = 1 then 1 else wr) = (mlev χ pm (rd + 1)).1 := by split <;> omega
        rw [hw2] at B
        exact z_return S hr hlk B () trivial rfl (by rw [hms]) (pc := 192) dX8_readStep_192
      · have hl : lv_has ls 3 [(2, .int (iI 0)), (1, .int (iI (chr0 χ pm rd))), (0, .ref a)] := hl
        rw [show Value.int (iI (chr0 χ pm rd)) = Value.int (iI 103) from by rw [hkd]]
        refine z_lsw S (pc := 54) (tgt := 148) (by omega) dX8_readStep_54 (by decide) rfl rfl ?_
        refine z_aload_n S (pc := 148) dX8_readStep_148 rfl (lv_at hl 2 rfl) ?_
        refine z_callV S (pc := 149) B (wr := [cInt E p6 120 ψ]) (wn := fun _ => [cMod a p1 p2 p3 p4 p5 p6 pm ig mo ((mrng χ pm (rd + 1)).2.2) (if (mrng χ pm (rd + 1)).1 = 1 then 1 else wr) sm, cInt E p5 60 χ, cInt E p6 120 ψ]) (st1 := fun _ => [.int (iI ((mrng χ pm (rd + 1)).2.1))]) (As := []) (mX8_takeRange l E a p1 p2 p3 p4 p5 p6 (fun _ => 0) (fun _ => 0) pm ig mo (rd + 1) wr sm χ (show 0 ≤ pm ∧ pm ≤ 60 from by omega) (show 0 ≤ (rd + 1) ∧ (rd + 1) ≤ pm from by omega) (show inX χ from by assumption)) gX8_readStep_X8_takeRange 0 rfl (by decide +kernel) ⟨Nat.le_of_ble_eq_true rfl, Nat.le_of_ble_eq_true rfl, Nat.le_of_ble_eq_true rfl, Nat.le_of_ble_eq_true rfl⟩ 0 rfl (q := (RX8, TX8, 12)) rfl rfl [0, 1] [2] [1, 2, 0] rfl rfl ⟨rfl, rfl, rfl, by decide⟩ (fun _ => rfl) rfl (fun _ => rfl) hl.1 (Nat.le_of_ble_eq_true rfl) rfl dX8_readStep_149 (fun _ _ H locs B => ?_)
        refine lv_istore_n (lv' := [(2, .int (iI ((mrng χ pm (rd + 1)).2.1))), (1, .int (iI (chr0 χ pm rd))), (0, .ref a)]) S.1 S.2.1 (pc := 152) dX8_readStep_152 rfl hl (by decide) rfl (fun ls hl => ?_)
        refine lv_goto S.1 S.2.1 (pc := 153) (tgt := 156) dX8_readStep_153 rfl ?_
        refine z_aload_n S (pc := 156) dX8_readStep_156 rfl (lv_at hl 2 rfl) ?_
        refine z_get S (pc := 157) B iX8_readStep_X8 0 rfl rfl 10 (by decide) rfl rfl (by decide +kernel) dX8_readStep_157 ?_
        refine z_iconst S (pc := 160) dX8_readStep_160 ?_
        refine z_aload_n S (pc := 161) dX8_readStep_161 rfl (lv_at hl 2 rfl) ?_
        refine z_get S (pc := 162) B iX8_readStep_X8 0 rfl rfl 11 (by decide) rfl rfl (by decide +kernel) dX8_readStep_162 ?_
        refine z_imul S (pc := 165) dX8_readStep_165 ?_
        refine z_iload_n S (pc := 166) dX8_readStep_166 rfl (lv_at hl 1 rfl) ?_
        refine z_iast S (pc := 167) B 2 1 rfl rfl (k := (2 * sm).toNat) (by omega) (by omega) (by decide) dX8_readStep_167 (wn := [cMod a p1 p2 p3 p4 p5 p6 pm ig mo ((mrng χ pm (rd + 1)).2.2) (if (mrng χ pm (rd + 1)).1 = 1 then 1 else wr) sm, cInt E p5 60 χ, cInt E p6 120 (up ψ (2 * sm).toNat (chr0 χ pm rd))]) (by rw [iat_up]; rfl) (fun H locs B => ?_)
        refine z_aload_n S (pc := 168) dX8_readStep_168 rfl (lv_at hl 2 rfl) ?_
        refine z_get S (pc := 169) B iX8_readStep_X8 0 rfl rfl 10 (by decide) rfl rfl (by decide +kernel) dX8_readStep_169 ?_
        refine z_iconst S (pc := 172) dX8_readStep_172 ?_
        refine z_aload_n S (pc := 173) dX8_readStep_173 rfl (lv_at hl 2 rfl) ?_
        refine z_get S (pc := 174) B iX8_readStep_X8 0 rfl rfl 11 (by decide) rfl rfl (by decide +kernel) dX8_readStep_174 ?_
        refine z_imul S (pc := 177) dX8_readStep_177 ?_
        refine z_iconst S (pc := 178) dX8_readStep_178 ?_
        refine z_iadd S (pc := 179) dX8_readStep_179 ?_
        refine z_iload_n S (pc := 180) dX8_readStep_180 rfl (lv_at hl 0 rfl) ?_
        refine z_iast S (pc := 181) B 2 1 rfl rfl (k := ((2 * sm) + 1).toNat) (by omega) (by omega) (by decide) dX8_readStep_181 (wn := [cMod a p1 p2 p3 p4 p5 p6 pm ig mo ((mrng χ pm (rd + 1)).2.2) (if (mrng χ pm (rd + 1)).1 = 1 then 1 else wr) sm, cInt E p5 60 χ, cInt E p6 120 (up (up ψ (2 * sm).toNat (chr0 χ pm rd)) ((2 * sm) + 1).toNat ((mrng χ pm (rd + 1)).2.1))]) (by rw [iat_up]; rfl) (fun H locs B => ?_)
        refine z_aload_n S (pc := 182) dX8_readStep_182 rfl (lv_at hl 2 rfl) ?_
        refine lv_dup S.1 S.2.1 (pc := 183) dX8_readStep_183 rfl ?_
        refine z_get S (pc := 184) B iX8_readStep_X8 0 rfl rfl 11 (by decide) rfl rfl (by decide +kernel) dX8_readStep_184 ?_
        refine z_iconst S (pc := 187) dX8_readStep_187 ?_
        refine z_iadd S (pc := 188) dX8_readStep_188 ?_
        refine z_put S (pc := 189) B iX8_readStep_X8 tyX8_ok nmX8 0 rfl rfl 11 (by decide) rfl (by decide +kernel) (ty := .int) (by decide +kernel) rfl rfl (Nat.le_of_ble_eq_true rfl) dX8_readStep_189 (wn := [cMod a p1 p2 p3 p4 p5 p6 pm ig mo ((mrng χ pm (rd + 1)).2.2) (if (mrng χ pm (rd + 1)).1 = 1 then 1 else wr) (sm + 1), cInt E p5 60 χ, cInt E p6 120 (up (up ψ (2 * sm).toNat (chr0 χ pm rd)) ((2 * sm) + 1).toNat ((mrng χ pm (rd + 1)).2.1))]) rfl (fun H locs B => ?_)
        have hma : marg χ pm (chr0 χ pm rd) (rd + 1) = (mrng χ pm (rd + 1)) := by unfold marg; rw [if_neg (by omega), if_neg (by omega), if_neg (by omega), if_pos hkd]
        have hms : mstp χ pm rd sm ψ = ((mrng χ pm (rd + 1)).1, (mrng χ pm (rd + 1)).2.2, sm + 1, up (up ψ (2 * sm).toNat (chr0 χ pm rd)) (2 * sm + 1).toNat (mrng χ pm (rd + 1)).2.1) := by unfold mstp; rw [if_pos hK, hma]
        have hw1 := marg_bd (kd := chr0 χ pm rd) (i := rd + 1) hX hn (by omega)
        rw [hma] at hw1
        have hw2 : (if (mrng χ pm (rd + 1)).1 = 1 then 1 else wr) = (mrng χ pm (rd + 1)).1 := by split <;> omega
        rw [hw2] at B
        exact z_return S hr hlk B () trivial rfl (by rw [hms]) (pc := 192) dX8_readStep_192
    · refine z_iload_n S (pc := 17) dX8_readStep_17 rfl (lv_at hl 0 rfl) ?_
      refine z_bipush S (pc := 18) dX8_readStep_18 rfl ?_
      refine z_icmp_eq S (pc := 20) (tgt := 41) (by omega) (by omega) dX8_readStep_20 rfl (fun c5 => ?_) (fun c5 => ?_)
      · have hK : isK (chr0 χ pm rd) := by omega
        have hin := chr0_lt (χ := χ) (n := pm) (i := rd) (by omega)
        have hc2 := chr0_bd (i := rd + 1) hX hn.2
        refine z_aload_n S (pc := 41) dX8_readStep_41 rfl (lv_at hl 1 rfl) ?_
        refine lv_dup S.1 S.2.1 (pc := 42) dX8_readStep_42 rfl ?_
        refine z_get S (pc := 43) B iX8_readStep_X8 0 rfl rfl 8 (by decide) rfl rfl (by decide +kernel) dX8_readStep_43 ?_
        refine z_iconst S (pc := 46) dX8_readStep_46 ?_
        refine z_iadd S (pc := 47) dX8_readStep_47 ?_
        refine z_put S (pc := 48) B iX8_readStep_X8 tyX8_ok nmX8 0 rfl rfl 8 (by decide) rfl (by decide +kernel) (ty := .int) (by decide +kernel) rfl rfl (Nat.le_of_ble_eq_true rfl) dX8_readStep_48 (wn := [cMod a p1 p2 p3 p4 p5 p6 pm ig mo (rd + 1) wr sm, cInt E p5 60 χ, cInt E p6 120 ψ]) rfl (fun H locs B => ?_)
        refine z_iconst S (pc := 51) dX8_readStep_51 ?_
        refine lv_istore_n (lv' := [(2, .int (iI 0)), (1, .int (iI (chr0 χ pm rd))), (0, .ref a)]) S.1 S.2.1 (pc := 52) dX8_readStep_52 rfl hl (by decide) rfl (fun ls hl => ?_)
        refine z_iload_n S (pc := 53) dX8_readStep_53 rfl (lv_at hl 1 rfl) ?_
        rcases id hK with hkd | hkd | hkd | hkd | hkd
        · have hl : lv_has ls 3 [(2, .int (iI 0)), (1, .int (iI (chr0 χ pm rd))), (0, .ref a)] := hl
          rw [show Value.int (iI (chr0 χ pm rd)) = Value.int (iI 114) from by rw [hkd]]
          refine z_lsw S (pc := 54) (tgt := 96) (by omega) dX8_readStep_54 (by decide) rfl rfl ?_
          refine z_aload_n S (pc := 96) dX8_readStep_96 rfl (lv_at hl 2 rfl) ?_
          refine z_callV S (pc := 97) B (wr := [cInt E p6 120 ψ]) (wn := fun _ => [cMod a p1 p2 p3 p4 p5 p6 pm ig mo (rd + 1) wr sm, cInt E p5 60 χ, cInt E p6 120 ψ]) (st1 := fun _ => [.int (iI (chr0 χ pm (rd + 1)))]) (As := []) (mX8_nextSign l E a p1 p2 p3 p4 p5 p6 (fun _ => 0) (fun _ => 0) pm ig mo (rd + 1) wr sm χ (show 0 ≤ pm ∧ pm ≤ 60 from by omega) (show 0 ≤ (rd + 1) ∧ (rd + 1) ≤ pm from by omega) (show inX χ from by assumption)) gX8_readStep_X8_nextSign 0 rfl (by decide +kernel) ⟨Nat.le_of_ble_eq_true rfl, Nat.le_of_ble_eq_true rfl, Nat.le_of_ble_eq_true rfl, Nat.le_of_ble_eq_true rfl⟩ 0 rfl (q := (RX8, TX8, 12)) rfl rfl [0, 1] [2] [1, 2, 0] rfl rfl ⟨rfl, rfl, rfl, by decide⟩ (fun _ => rfl) rfl (fun _ => rfl) hl.1 (Nat.le_of_ble_eq_true rfl) rfl dX8_readStep_97 (fun _ _ H locs B => ?_)
          refine z_i2l S (pc := 100) (by omega) dX8_readStep_100 ?_
          refine z_ldc2 S (pc := 101) (x := 49) (by decide +kernel) rfl dX8_readStep_101 ?_
          refine z_ldc2 S (pc := 104) (x := 57) (by decide +kernel) rfl dX8_readStep_104 ?_
          refine z_callS S (pc := 107) B (wr := [cMod a p1 p2 p3 p4 p5 p6 pm ig mo (rd + 1) wr sm, cInt E p5 60 χ, cInt E p6 120 ψ]) (wn := fun _ => [cMod a p1 p2 p3 p4 p5 p6 pm ig mo (rd + 1) wr sm, cInt E p5 60 χ, cInt E p6 120 ψ]) (st1 := fun _ => [.int (iI (bI (49 ≤ chr0 χ pm (rd + 1) ∧ chr0 χ pm (rd + 1) ≤ 57)))]) (As := [.long (iL (chr0 χ pm (rd + 1))), .long (iL 49), .long (iL 57)]) (mX8_in l E (chr0 χ pm (rd + 1)) 49 57 (show inL (chr0 χ pm (rd + 1)) from by omega) (show inL 49 from by omega) (show inL 57 from by omega)) gX8_readStep_X8_in 3 rfl (by decide +kernel) ⟨Nat.le_of_ble_eq_true rfl, Nat.le_of_ble_eq_true rfl, Nat.le_of_ble_eq_true rfl, Nat.le_of_ble_eq_true rfl⟩ [] [0, 1, 2] [0, 1, 2] rfl rfl ⟨rfl, rfl, rfl, by decide⟩ (fun _ => rfl) rfl (fun _ => rfl) hl.1 (Nat.le_of_ble_eq_true rfl) rfl dX8_readStep_107 (fun _ _ H locs B => ?_)
          refine z_ifeq_b S (pc := 110) (tgt := 123) dX8_readStep_110 rfl (fun c6 => ?_) (fun c6 => ?_)
          · refine z_iconst S (pc := 123) dX8_readStep_123 ?_
            refine lv_istore_n (lv' := [(2, .int (iI 1)), (1, .int (iI (chr0 χ pm rd))), (0, .ref a)]) S.1 S.2.1 (pc := 124) dX8_readStep_124 rfl hl (by decide) rfl (fun ls hl => ?_)
            refine lv_goto S.1 S.2.1 (pc := 125) (tgt := 156) dX8_readStep_125 rfl ?_
            refine z_aload_n S (pc := 156) dX8_readStep_156 rfl (lv_at hl 2 rfl) ?_
            refine z_get S (pc := 157) B iX8_readStep_X8 0 rfl rfl 10 (by decide) rfl rfl (by decide +kernel) dX8_readStep_157 ?_
            refine z_iconst S (pc := 160) dX8_readStep_160 ?_
            refine z_aload_n S (pc := 161) dX8_readStep_161 rfl (lv_at hl 2 rfl) ?_
            refine z_get S (pc := 162) B iX8_readStep_X8 0 rfl rfl 11 (by decide) rfl rfl (by decide +kernel) dX8_readStep_162 ?_
            refine z_imul S (pc := 165) dX8_readStep_165 ?_
            refine z_iload_n S (pc := 166) dX8_readStep_166 rfl (lv_at hl 1 rfl) ?_
            refine z_iast S (pc := 167) B 2 1 rfl rfl (k := (2 * sm).toNat) (by omega) (by omega) (by decide) dX8_readStep_167 (wn := [cMod a p1 p2 p3 p4 p5 p6 pm ig mo (rd + 1) wr sm, cInt E p5 60 χ, cInt E p6 120 (up ψ (2 * sm).toNat (chr0 χ pm rd))]) (by rw [iat_up]; rfl) (fun H locs B => ?_)
            refine z_aload_n S (pc := 168) dX8_readStep_168 rfl (lv_at hl 2 rfl) ?_
            refine z_get S (pc := 169) B iX8_readStep_X8 0 rfl rfl 10 (by decide) rfl rfl (by decide +kernel) dX8_readStep_169 ?_
            refine z_iconst S (pc := 172) dX8_readStep_172 ?_
            refine z_aload_n S (pc := 173) dX8_readStep_173 rfl (lv_at hl 2 rfl) ?_
            refine z_get S (pc := 174) B iX8_readStep_X8 0 rfl rfl 11 (by decide) rfl rfl (by decide +kernel) dX8_readStep_174 ?_
            refine z_imul S (pc := 177) dX8_readStep_177 ?_
            refine z_iconst S (pc := 178) dX8_readStep_178 ?_
            refine z_iadd S (pc := 179) dX8_readStep_179 ?_
            refine z_iload_n S (pc := 180) dX8_readStep_180 rfl (lv_at hl 0 rfl) ?_
            refine z_iast S (pc := 181) B 2 1 rfl rfl (k := ((2 * sm) + 1).toNat) (by omega) (by omega) (by decide) dX8_readStep_181 (wn := [cMod a p1 p2 p3 p4 p5 p6 pm ig mo (rd + 1) wr sm, cInt E p5 60 χ, cInt E p6 120 (up (up ψ (2 * sm).toNat (chr0 χ pm rd)) ((2 * sm) + 1).toNat 1)]) (by rw [iat_up]; rfl) (fun H locs B => ?_)
            refine z_aload_n S (pc := 182) dX8_readStep_182 rfl (lv_at hl 2 rfl) ?_
            refine lv_dup S.1 S.2.1 (pc := 183) dX8_readStep_183 rfl ?_
            refine z_get S (pc := 184) B iX8_readStep_X8 0 rfl rfl 11 (by decide) rfl rfl (by decide +kernel) dX8_readStep_184 ?_
            refine z_iconst S (pc := 187) dX8_readStep_187 ?_
            refine z_iadd S (pc := 188) dX8_readStep_188 ?_
            refine z_put S (pc := 189) B iX8_readStep_X8 tyX8_ok nmX8 0 rfl rfl 11 (by decide) rfl (by decide +kernel) (ty := .int) (by decide +kernel) rfl rfl (Nat.le_of_ble_eq_true rfl) dX8_readStep_189 (wn := [cMod a p1 p2 p3 p4 p5 p6 pm ig mo (rd + 1) wr (sm + 1), cInt E p5 60 χ, cInt E p6 120 (up (up ψ (2 * sm).toNat (chr0 χ pm rd)) ((2 * sm) + 1).toNat 1)]) rfl (fun H locs B => ?_)
            have hma : marg χ pm (chr0 χ pm rd) (rd + 1) = (0, 1, rd + 1) := by unfold marg; rw [if_pos hkd, if_neg (by omega)]
            have hms : mstp χ pm rd sm ψ = ((0, 1, rd + 1).1, (0, 1, rd + 1).2.2, sm + 1, up (up ψ (2 * sm).toNat (chr0 χ pm rd)) (2 * sm + 1).toNat (0, 1, rd + 1).2.1) := by unfold mstp; rw [if_pos hK, hma]
            rw [hw0] at B
            exact z_return S hr hlk B () trivial rfl (by rw [hms]) (pc := 192) dX8_readStep_192
          · refine z_aload_n S (pc := 113) dX8_readStep_113 rfl (lv_at hl 2 rfl) ?_
            refine z_iconst S (pc := 114) dX8_readStep_114 ?_
            refine z_bipush S (pc := 115) dX8_readStep_115 rfl ?_
            refine z_callV S (pc := 117) B (wr := [cInt E p6 120 ψ]) (wn := fun _ => [cMod a p1 p2 p3 p4 p5 p6 pm ig mo ((mnum χ pm 1 99 (rd + 1)).2.2) (if (mnum χ pm 1 99 (rd + 1)).1 = 1 then 1 else wr) sm, cInt E p5 60 χ, cInt E p6 120 ψ]) (st1 := fun _ => [.int (iI ((mnum χ pm 1 99 (rd + 1)).2.1))]) (As := [.int (iI 1), .int (iI 99)]) (mX8_takeNumber l E a p1 p2 p3 p4 p5 p6 (fun _ => 0) (fun _ => 0) pm ig mo (rd + 1) wr sm χ 1 99 (show 0 ≤ pm ∧ pm ≤ 60 from by omega) (show 0 ≤ (rd + 1) ∧ (rd + 1) ≤ pm from by omega) (show inX χ from by assumption) (show 0 ≤ 1 ∧ 1 ≤ 1 from by omega) (show 9 ≤ 99 ∧ 99 ≤ 3000000 from by omega)) gX8_readStep_X8_takeNumber 2 rfl (by decide +kernel) ⟨Nat.le_of_ble_eq_true rfl, Nat.le_of_ble_eq_true rfl, Nat.le_of_ble_eq_true rfl, Nat.le_of_ble_eq_true rfl⟩ 0 rfl (q := (RX8, TX8, 12)) rfl rfl [0, 1] [2] [1, 2, 0] rfl rfl ⟨rfl, rfl, rfl, by decide⟩ (fun _ => rfl) rfl (fun _ => rfl) hl.1 (Nat.le_of_ble_eq_true rfl) rfl dX8_readStep_117 (fun _ _ H locs B => ?_)
            refine lv_goto S.1 S.2.1 (pc := 120) (tgt := 124) dX8_readStep_120 rfl ?_
            refine lv_istore_n (lv' := [(2, .int (iI ((mnum χ pm 1 99 (rd + 1)).2.1))), (1, .int (iI (chr0 χ pm rd))), (0, .ref a)]) S.1 S.2.1 (pc := 124) dX8_readStep_124 rfl hl (by decide) rfl (fun ls hl => ?_)
            refine lv_goto S.1 S.2.1 (pc := 125) (tgt := 156) dX8_readStep_125 rfl ?_
            refine z_aload_n S (pc := 156) dX8_readStep_156 rfl (lv_at hl 2 rfl) ?_
            refine z_get S (pc := 157) B iX8_readStep_X8 0 rfl rfl 10 (by decide) rfl rfl (by decide +kernel) dX8_readStep_157 ?_
            refine z_iconst S (pc := 160) dX8_readStep_160 ?_
            refine z_aload_n S (pc := 161) dX8_readStep_161 rfl (lv_at hl 2 rfl) ?_
            refine z_get S (pc := 162) B iX8_readStep_X8 0 rfl rfl 11 (by decide) rfl rfl (by decide +kernel) dX8_readStep_162 ?_
            refine z_imul S (pc := 165) dX8_readStep_165 ?_
            refine z_iload_n S (pc := 166) dX8_readStep_166 rfl (lv_at hl 1 rfl) ?_
            refine z_iast S (pc := 167) B 2 1 rfl rfl (k := (2 * sm).toNat) (by omega) (by omega) (by decide) dX8_readStep_167 (wn := [cMod a p1 p2 p3 p4 p5 p6 pm ig mo ((mnum χ pm 1 99 (rd + 1)).2.2) (if (mnum χ pm 1 99 (rd + 1)).1 = 1 then 1 else wr) sm, cInt E p5 60 χ, cInt E p6 120 (up ψ (2 * sm).toNat (chr0 χ pm rd))]) (by rw [iat_up]; rfl) (fun H locs B => ?_)
            refine z_aload_n S (pc := 168) dX8_readStep_168 rfl (lv_at hl 2 rfl) ?_
            refine z_get S (pc := 169) B iX8_readStep_X8 0 rfl rfl 10 (by decide) rfl rfl (by decide +kernel) dX8_readStep_169 ?_
            refine z_iconst S (pc := 172) dX8_readStep_172 ?_
            refine z_aload_n S (pc := 173) dX8_readStep_173 rfl (lv_at hl 2 rfl) ?_
            refine z_get S (pc := 174) B iX8_readStep_X8 0 rfl rfl 11 (by decide) rfl rfl (by decide +kernel) dX8_readStep_174 ?_
            refine z_imul S (pc := 177) dX8_readStep_177 ?_
            refine z_iconst S (pc := 178) dX8_readStep_178 ?_
            refine z_iadd S (pc := 179) dX8_readStep_179 ?_
            refine z_iload_n S (pc := 180) dX8_readStep_180 rfl (lv_at hl 0 rfl) ?_
            refine z_iast S (pc := 181) B 2 1 rfl rfl (k := ((2 * sm) + 1).toNat) (by omega) (by omega) (by decide) dX8_readStep_181 (wn := [cMod a p1 p2 p3 p4 p5 p6 pm ig mo ((mnum χ pm 1 99 (rd + 1)).2.2) (if (mnum χ pm 1 99 (rd + 1)).1 = 1 then 1 else wr) sm, cInt E p5 60 χ, cInt E p6 120 (up (up ψ (2 * sm).toNat (chr0 χ pm rd)) ((2 * sm) + 1).toNat ((mnum χ pm 1 99 (rd + 1)).2.1))]) (by rw [iat_up]; rfl) (fun H locs B => ?_)
            refine z_aload_n S (pc := 182) dX8_readStep_182 rfl (lv_at hl 2 rfl) ?_
            refine lv_dup S.1 S.2.1 (pc := 183) dX8_readStep_183 rfl ?_
            refine z_get S (pc := 184) B iX8_readStep_X8 0 rfl rfl 11 (by decide) rfl rfl (by decide +kernel) dX8_readStep_184 ?_
            refine z_iconst S (pc := 187) dX8_readStep_187 ?_
            refine z_iadd S (pc := 188) dX8_readStep_188 ?_
            refine z_put S (pc := 189) B iX8_readStep_X8 tyX8_ok nmX8 0 rfl rfl 11 (by decide) rfl (by decide +kernel) (ty := .int) (by decide +kernel) rfl rfl (Nat.le_of_ble_eq_true rfl) dX8_readStep_189 (wn := [cMod a p1 p2 p3 p4 p5 p6 pm ig mo ((mnum χ pm 1 99 (rd + 1)).2.2) (if (mnum χ pm 1 99 (rd + 1)).1 = 1 then 1 else wr) (sm + 1), cInt E p5 60 χ, cInt E p6 120 (up (up ψ (2 * sm).toNat (chr0 χ pm rd)) ((2 * sm) + 1).toNat ((mnum χ pm 1 99 (rd + 1)).2.1))]) rfl (fun H locs B => ?_)
            have hma : marg χ pm (chr0 χ pm rd) (rd + 1) = (mnum χ pm 1 99 (rd + 1)) := by unfold marg; rw [if_pos hkd, if_pos (by omega)]
            have hms : mstp χ pm rd sm ψ = ((mnum χ pm 1 99 (rd + 1)).1, (mnum χ pm 1 99 (rd + 1)).2.2, sm + 1, up (up ψ (2 * sm).toNat (chr0 χ pm rd)) (2 * sm + 1).toNat (mnum χ pm 1 99 (rd + 1)).2.1) := by unfold mstp; rw [if_pos hK, hma]
            have hw1 := marg_bd (kd := chr0 χ pm rd) (i := rd + 1) hX hn (by omega)
            rw [hma] at hw1
            have hw2 : (if (mnum χ pm 1 99 (rd + 1)).1 = 1 then 1 else wr) = (mnum χ pm 1 99 (rd + 1)).1 := by split <;> omega
            rw [hw2] at B
            exact z_return S hr hlk B () trivial rfl (by rw [hms]) (pc := 192) dX8_readStep_192
        · have hl : lv_has ls 3 [(2, .int (iI 0)), (1, .int (iI (chr0 χ pm rd))), (0, .ref a)] := hl
          rw [show Value.int (iI (chr0 χ pm rd)) = Value.int (iI 122) from by rw [hkd]]
          refine z_lsw S (pc := 54) (tgt := 156) (by omega) dX8_readStep_54 (by decide) rfl rfl ?_
          refine z_aload_n S (pc := 156) dX8_readStep_156 rfl (lv_at hl 2 rfl) ?_
          refine z_get S (pc := 157) B iX8_readStep_X8 0 rfl rfl 10 (by decide) rfl rfl (by decide +kernel) dX8_readStep_157 ?_
          refine z_iconst S (pc := 160) dX8_readStep_160 ?_
          refine z_aload_n S (pc := 161) dX8_readStep_161 rfl (lv_at hl 2 rfl) ?_
          refine z_get S (pc := 162) B iX8_readStep_X8 0 rfl rfl 11 (by decide) rfl rfl (by decide +kernel) dX8_readStep_162 ?_
          refine z_imul S (pc := 165) dX8_readStep_165 ?_
          refine z_iload_n S (pc := 166) dX8_readStep_166 rfl (lv_at hl 1 rfl) ?_
          refine z_iast S (pc := 167) B 2 1 rfl rfl (k := (2 * sm).toNat) (by omega) (by omega) (by decide) dX8_readStep_167 (wn := [cMod a p1 p2 p3 p4 p5 p6 pm ig mo (rd + 1) wr sm, cInt E p5 60 χ, cInt E p6 120 (up ψ (2 * sm).toNat (chr0 χ pm rd))]) (by rw [iat_up]; rfl) (fun H locs B => ?_)
          refine z_aload_n S (pc := 168) dX8_readStep_168 rfl (lv_at hl 2 rfl) ?_
          refine z_get S (pc := 169) B iX8_readStep_X8 0 rfl rfl 10 (by decide) rfl rfl (by decide +kernel) dX8_readStep_169 ?_
          refine z_iconst S (pc := 172) dX8_readStep_172 ?_
          refine z_aload_n S (pc := 173) dX8_readStep_173 rfl (lv_at hl 2 rfl) ?_
          refine z_get S (pc := 174) B iX8_readStep_X8 0 rfl rfl 11 (by decide) rfl rfl (by decide +kernel) dX8_readStep_174 ?_
          refine z_imul S (pc := 177) dX8_readStep_177 ?_
          refine z_iconst S (pc := 178) dX8_readStep_178 ?_
          refine z_iadd S (pc := 179) dX8_readStep_179 ?_
          refine z_iload_n S (pc := 180) dX8_readStep_180 rfl (lv_at hl 0 rfl) ?_
          refine z_iast S (pc := 181) B 2 1 rfl rfl (k := ((2 * sm) + 1).toNat) (by omega) (by omega) (by decide) dX8_readStep_181 (wn := [cMod a p1 p2 p3 p4 p5 p6 pm ig mo (rd + 1) wr sm, cInt E p5 60 χ, cInt E p6 120 (up (up ψ (2 * sm).toNat (chr0 χ pm rd)) ((2 * sm) + 1).toNat 0)]) (by rw [iat_up]; rfl) (fun H locs B => ?_)
          refine z_aload_n S (pc := 182) dX8_readStep_182 rfl (lv_at hl 2 rfl) ?_
          refine lv_dup S.1 S.2.1 (pc := 183) dX8_readStep_183 rfl ?_
          refine z_get S (pc := 184) B iX8_readStep_X8 0 rfl rfl 11 (by decide) rfl rfl (by decide +kernel) dX8_readStep_184 ?_
          refine z_iconst S (pc := 187) dX8_readStep_187 ?_
          refine z_iadd S (pc := 188) dX8_readStep_188 ?_
          refine z_put S (pc := 189) B iX8_readStep_X8 tyX8_ok nmX8 0 rfl rfl 11 (by decide) rfl (by decide +kernel) (ty := .int) (by decide +kernel) rfl rfl (Nat.le_of_ble_eq_true rfl) dX8_readStep_189 (wn := [cMod a p1 p2 p3 p4 p5 p6 pm ig mo (rd + 1) wr (sm + 1), cInt E p5 60 χ, cInt E p6 120 (up (up ψ (2 * sm).toNat (chr0 χ pm rd)) ((2 * sm) + 1).toNat 0)]) rfl (fun H locs B => ?_)
          have hma : marg χ pm (chr0 χ pm rd) (rd + 1) = (0, 0, rd + 1) := by unfold marg; rw [if_neg (by omega), if_neg (by omega), if_neg (by omega), if_neg (by omega)]
          have hms : mstp χ pm rd sm ψ = ((0, 0, rd + 1).1, (0, 0, rd + 1).2.2, sm + 1, up (up ψ (2 * sm).toNat (chr0 χ pm rd)) (2 * sm + 1).toNat (0, 0, rd + 1).2.1) := by unfold mstp; rw [if_pos hK, hma]
          rw [hw0] at B
          exact z_return S hr hlk B () trivial rfl (by rw [hms]) (pc := 192) dX8_readStep_192
        · have hl : lv_has ls 3 [(2, .int (iI 0)), (1, .int (iI (chr0 χ pm rd))), (0, .ref a)] := hl
          rw [show Value.int (iI (chr0 χ pm rd)) = Value.int (iI 119) from by rw [hkd]]
          refine z_lsw S (pc := 54) (tgt := 128) (by omega) dX8_readStep_54 (by decide) rfl rfl ?_
          refine z_aload_n S (pc := 128) dX8_readStep_128 rfl (lv_at hl 2 rfl) ?_
          refine z_iconst S (pc := 129) dX8_readStep_129 ?_
          refine z_sipush S (pc := 130) dX8_readStep_130 rfl ?_
          refine z_callV S (pc := 133) B (wr := [cInt E p6 120 ψ]) (wn := fun _ => [cMod a p1 p2 p3 p4 p5 p6 pm ig mo ((mnum χ pm 1 9999 (rd + 1)).2.2) (if (mnum χ pm 1 9999 (rd + 1)).1 = 1 then 1 else wr) sm, cInt E p5 60 χ, cInt E p6 120 ψ]) (st1 := fun _ => [.int (iI ((mnum χ pm 1 9999 (rd + 1)).2.1))]) (As := [.int (iI 1), .int (iI 9999)]) (mX8_takeNumber l E a p1 p2 p3 p4 p5 p6 (fun _ => 0) (fun _ => 0) pm ig mo (rd + 1) wr sm χ 1 9999 (show 0 ≤ pm ∧ pm ≤ 60 from by omega) (show 0 ≤ (rd + 1) ∧ (rd + 1) ≤ pm from by omega) (show inX χ from by assumption) (show 0 ≤ 1 ∧ 1 ≤ 1 from by omega) (show 9 ≤ 9999 ∧ 9999 ≤ 3000000 from by omega)) gX8_readStep_X8_takeNumber 2 rfl (by decide +kernel) ⟨Nat.le_of_ble_eq_true rfl, Nat.le_of_ble_eq_true rfl, Nat.le_of_ble_eq_true rfl, Nat.le_of_ble_eq_true rfl⟩ 0 rfl (q := (RX8, TX8, 12)) rfl rfl [0, 1] [2] [1, 2, 0] rfl rfl ⟨rfl, rfl, rfl, by decide⟩ (fun _ => rfl) rfl (fun _ => rfl) hl.1 (Nat.le_of_ble_eq_true rfl) rfl dX8_readStep_133 (fun _ _ H locs B => ?_)
          refine lv_istore_n (lv' := [(2, .int (iI ((mnum χ pm 1 9999 (rd + 1)).2.1))), (1, .int (iI (chr0 χ pm rd))), (0, .ref a)]) S.1 S.2.1 (pc := 136) dX8_readStep_136 rfl hl (by decide) rfl (fun ls hl => ?_)
          refine lv_goto S.1 S.2.1 (pc := 137) (tgt := 156) dX8_readStep_137 rfl ?_
          refine z_aload_n S (pc := 156) dX8_readStep_156 rfl (lv_at hl 2 rfl) ?_
          refine z_get S (pc := 157) B iX8_readStep_X8 0 rfl rfl 10 (by decide) rfl rfl (by decide +kernel) dX8_readStep_157 ?_
          refine z_iconst S (pc := 160) dX8_readStep_160 ?_
          refine z_aload_n S (pc := 161) dX8_readStep_161 rfl (lv_at hl 2 rfl) ?_
          refine z_get S (pc := 162) B iX8_readStep_X8 0 rfl rfl 11 (by decide) rfl rfl (by decide +kernel) dX8_readStep_162 ?_
          refine z_imul S (pc := 165) dX8_readStep_165 ?_
          refine z_iload_n S (pc := 166) dX8_readStep_166 rfl (lv_at hl 1 rfl) ?_
          refine z_iast S (pc := 167) B 2 1 rfl rfl (k := (2 * sm).toNat) (by omega) (by omega) (by decide) dX8_readStep_167 (wn := [cMod a p1 p2 p3 p4 p5 p6 pm ig mo ((mnum χ pm 1 9999 (rd + 1)).2.2) (if (mnum χ pm 1 9999 (rd + 1)).1 = 1 then 1 else wr) sm, cInt E p5 60 χ, cInt E p6 120 (up ψ (2 * sm).toNat (chr0 χ pm rd))]) (by rw [iat_up]; rfl) (fun H locs B => ?_)
          refine z_aload_n S (pc := 168) dX8_readStep_168 rfl (lv_at hl 2 rfl) ?_
          refine z_get S (pc := 169) B iX8_readStep_X8 0 rfl rfl 10 (by decide) rfl rfl (by decide +kernel) dX8_readStep_169 ?_
          refine z_iconst S (pc := 172) dX8_readStep_172 ?_
          refine z_aload_n S (pc := 173) dX8_readStep_173 rfl (lv_at hl 2 rfl) ?_
          refine z_get S (pc := 174) B iX8_readStep_X8 0 rfl rfl 11 (by decide) rfl rfl (by decide +kernel) dX8_readStep_174 ?_
          refine z_imul S (pc := 177) dX8_readStep_177 ?_
          refine z_iconst S (pc := 178) dX8_readStep_178 ?_
          refine z_iadd S (pc := 179) dX8_readStep_179 ?_
          refine z_iload_n S (pc := 180) dX8_readStep_180 rfl (lv_at hl 0 rfl) ?_
          refine z_iast S (pc := 181) B 2 1 rfl rfl (k := ((2 * sm) + 1).toNat) (by omega) (by omega) (by decide) dX8_readStep_181 (wn := [cMod a p1 p2 p3 p4 p5 p6 pm ig mo ((mnum χ pm 1 9999 (rd + 1)).2.2) (if (mnum χ pm 1 9999 (rd + 1)).1 = 1 then 1 else wr) sm, cInt E p5 60 χ, cInt E p6 120 (up (up ψ (2 * sm).toNat (chr0 χ pm rd)) ((2 * sm) + 1).toNat ((mnum χ pm 1 9999 (rd + 1)).2.1))]) (by rw [iat_up]; rfl) (fun H locs B => ?_)
          refine z_aload_n S (pc := 182) dX8_readStep_182 rfl (lv_at hl 2 rfl) ?_
          refine lv_dup S.1 S.2.1 (pc := 183) dX8_readStep_183 rfl ?_
          refine z_get S (pc := 184) B iX8_readStep_X8 0 rfl rfl 11 (by decide) rfl rfl (by decide +kernel) dX8_readStep_184 ?_
          refine z_iconst S (pc := 187) dX8_readStep_187 ?_
          refine z_iadd S (pc := 188) dX8_readStep_188 ?_
          refine z_put S (pc := 189) B iX8_readStep_X8 tyX8_ok nmX8 0 rfl rfl 11 (by decide) rfl (by decide +kernel) (ty := .int) (by decide +kernel) rfl rfl (Nat.le_of_ble_eq_true rfl) dX8_readStep_189 (wn := [cMod a p1 p2 p3 p4 p5 p6 pm ig mo ((mnum χ pm 1 9999 (rd + 1)).2.2) (if (mnum χ pm 1 9999 (rd + 1)).1 = 1 then 1 else wr) (sm + 1), cInt E p5 60 χ, cInt E p6 120 (up (up ψ (2 * sm).toNat (chr0 χ pm rd)) ((2 * sm) + 1).toNat ((mnum χ pm 1 9999 (rd + 1)).2.1))]) rfl (fun H locs B => ?_)
          have hma : marg χ pm (chr0 χ pm rd) (rd + 1) = (mnum χ pm 1 9999 (rd + 1)) := by unfold marg; rw [if_neg (by omega), if_pos hkd]
          have hms : mstp χ pm rd sm ψ = ((mnum χ pm 1 9999 (rd + 1)).1, (mnum χ pm 1 9999 (rd + 1)).2.2, sm + 1, up (up ψ (2 * sm).toNat (chr0 χ pm rd)) (2 * sm + 1).toNat (mnum χ pm 1 9999 (rd + 1)).2.1) := by unfold mstp; rw [if_pos hK, hma]
          have hw1 := marg_bd (kd := chr0 χ pm rd) (i := rd + 1) hX hn (by omega)
          rw [hma] at hw1
          have hw2 : (if (mnum χ pm 1 9999 (rd + 1)).1 = 1 then 1 else wr) = (mnum χ pm 1 9999 (rd + 1)).1 := by split <;> omega
          rw [hw2] at B
          exact z_return S hr hlk B () trivial rfl (by rw [hms]) (pc := 192) dX8_readStep_192
        · have hl : lv_has ls 3 [(2, .int (iI 0)), (1, .int (iI (chr0 χ pm rd))), (0, .ref a)] := hl
          rw [show Value.int (iI (chr0 χ pm rd)) = Value.int (iI 108) from by rw [hkd]]
          refine z_lsw S (pc := 54) (tgt := 140) (by omega) dX8_readStep_54 (by decide) rfl rfl ?_
          refine z_aload_n S (pc := 140) dX8_readStep_140 rfl (lv_at hl 2 rfl) ?_
          refine z_callV S (pc := 141) B (wr := [cInt E p6 120 ψ]) (wn := fun _ => [cMod a p1 p2 p3 p4 p5 p6 pm ig mo ((mlev χ pm (rd + 1)).2.2) (if (mlev χ pm (rd + 1)).1 = 1 then 1 else wr) sm, cInt E p5 60 χ, cInt E p6 120 ψ]) (st1 := fun _ => [.int (iI ((mlev χ pm (rd + 1)).2.1))]) (As := []) (mX8_takeLevel l E a p1 p2 p3 p4 p5 p6 (fun _ => 0) (fun _ => 0) pm ig mo (rd + 1) wr sm χ (show 0 ≤ pm ∧ pm ≤ 60 from by omega) (show 0 ≤ (rd + 1) ∧ (rd + 1) ≤ pm from by omega) (show inX χ from by assumption)) gX8_readStep_X8_takeLevel 0 rfl (by decide +kernel) ⟨Nat.le_of_ble_eq_true rfl, Nat.le_of_ble_eq_true rfl, Nat.le_of_ble_eq_true rfl, Nat.le_of_ble_eq_true rfl⟩ 0 rfl (q := (RX8, TX8, 12)) rfl rfl [0, 1] [2] [1, 2, 0] rfl rfl ⟨rfl, rfl, rfl, by decide⟩ (fun _ => rfl) rfl (fun _ => rfl) hl.1 (Nat.le_of_ble_eq_true rfl) rfl dX8_readStep_141 (fun _ _ H locs B => ?_)
          refine lv_istore_n (lv' := [(2, .int (iI ((mlev χ pm (rd + 1)).2.1))), (1, .int (iI (chr0 χ pm rd))), (0, .ref a)]) S.1 S.2.1 (pc := 144) dX8_readStep_144 rfl hl (by decide) rfl (fun ls hl => ?_)
          refine lv_goto S.1 S.2.1 (pc := 145) (tgt := 156) dX8_readStep_145 rfl ?_
          refine z_aload_n S (pc := 156) dX8_readStep_156 rfl (lv_at hl 2 rfl) ?_
          refine z_get S (pc := 157) B iX8_readStep_X8 0 rfl rfl 10 (by decide) rfl rfl (by decide +kernel) dX8_readStep_157 ?_
          refine z_iconst S (pc := 160) dX8_readStep_160 ?_
          refine z_aload_n S (pc := 161) dX8_readStep_161 rfl (lv_at hl 2 rfl) ?_
          refine z_get S (pc := 162) B iX8_readStep_X8 0 rfl rfl 11 (by decide) rfl rfl (by decide +kernel) dX8_readStep_162 ?_
          refine z_imul S (pc := 165) dX8_readStep_165 ?_
          refine z_iload_n S (pc := 166) dX8_readStep_166 rfl (lv_at hl 1 rfl) ?_
          refine z_iast S (pc := 167) B 2 1 rfl rfl (k := (2 * sm).toNat) (by omega) (by omega) (by decide) dX8_readStep_167 (wn := [cMod a p1 p2 p3 p4 p5 p6 pm ig mo ((mlev χ pm (rd + 1)).2.2) (if (mlev χ pm (rd + 1)).1 = 1 then 1 else wr) sm, cInt E p5 60 χ, cInt E p6 120 (up ψ (2 * sm).toNat (chr0 χ pm rd))]) (by rw [iat_up]; rfl) (fun H locs B => ?_)
          refine z_aload_n S (pc := 168) dX8_readStep_168 rfl (lv_at hl 2 rfl) ?_
          refine z_get S (pc := 169) B iX8_readStep_X8 0 rfl rfl 10 (by decide) rfl rfl (by decide +kernel) dX8_readStep_169 ?_
          refine z_iconst S (pc := 172) dX8_readStep_172 ?_
          refine z_aload_n S (pc := 173) dX8_readStep_173 rfl (lv_at hl 2 rfl) ?_
          refine z_get S (pc := 174) B iX8_readStep_X8 0 rfl rfl 11 (by decide) rfl rfl (by decide +kernel) dX8_readStep_174 ?_
          refine z_imul S (pc := 177) dX8_readStep_177 ?_
          refine z_iconst S (pc := 178) dX8_readStep_178 ?_
          refine z_iadd S (pc := 179) dX8_readStep_179 ?_
          refine z_iload_n S (pc := 180) dX8_readStep_180 rfl (lv_at hl 0 rfl) ?_
          refine z_iast S (pc := 181) B 2 1 rfl rfl (k := ((2 * sm) + 1).toNat) (by omega) (by omega) (by decide) dX8_readStep_181 (wn := [cMod a p1 p2 p3 p4 p5 p6 pm ig mo ((mlev χ pm (rd + 1)).2.2) (if (mlev χ pm (rd + 1)).1 = 1 then 1 else wr) sm, cInt E p5 60 χ, cInt E p6 120 (up (up ψ (2 * sm).toNat (chr0 χ pm rd)) ((2 * sm) + 1).toNat ((mlev χ pm (rd + 1)).2.1))]) (by rw [iat_up]; rfl) (fun H locs B => ?_)
          refine z_aload_n S (pc := 182) dX8_readStep_182 rfl (lv_at hl 2 rfl) ?_
          refine lv_dup S.1 S.2.1 (pc := 183) dX8_readStep_183 rfl ?_
          refine z_get S (pc := 184) B iX8_readStep_X8 0 rfl rfl 11 (by decide) rfl rfl (by decide +kernel) dX8_readStep_184 ?_
          refine z_iconst S (pc := 187) dX8_readStep_187 ?_
          refine z_iadd S (pc := 188) dX8_readStep_188 ?_
          refine z_put S (pc := 189) B iX8_readStep_X8 tyX8_ok nmX8 0 rfl rfl 11 (by decide) rfl (by decide +kernel) (ty := .int) (by decide +kernel) rfl rfl (Nat.le_of_ble_eq_true rfl) dX8_readStep_189 (wn := [cMod a p1 p2 p3 p4 p5 p6 pm ig mo ((mlev χ pm (rd + 1)).2.2) (if (mlev χ pm (rd + 1)).1 = 1 then 1 else wr) (sm + 1), cInt E p5 60 χ, cInt E p6 120 (up (up ψ (2 * sm).toNat (chr0 χ pm rd)) ((2 * sm) + 1).toNat ((mlev χ pm (rd + 1)).2.1))]) rfl (fun H locs B => ?_)
          have hma : marg χ pm (chr0 χ pm rd) (rd + 1) = (mlev χ pm (rd + 1)) := by unfold marg; rw [if_neg (by omega), if_neg (by omega), if_pos hkd]
          have hms : mstp χ pm rd sm ψ = ((mlev χ pm (rd + 1)).1, (mlev χ pm (rd + 1)).2.2, sm + 1, up (up ψ (2 * sm).toNat (chr0 χ pm rd)) (2 * sm + 1).toNat (mlev χ pm (rd + 1)).2.1) := by unfold mstp; rw [if_pos hK, hma]
          have hw1 := marg_bd (kd := chr0 χ pm rd) (i := rd + 1) hX hn (by omega)
          rw [hma] at hw1
          have hw2 : (if (mlev χ pm (rd + 1)).1 = 1 then 1 else wr) = (mlev χ pm (rd + 1)).1 := by split <;> omega
          rw [hw2] at B
          exact z_return S hr hlk B () trivial rfl (by rw [hms]) (pc := 192) dX8_readStep_192
        · have hl : lv_has ls 3 [(2, .int (iI 0)), (1, .int (iI (chr0 χ pm rd))), (0, .ref a)] := hl
          rw [show Value.int (iI (chr0 χ pm rd)) = Value.int (iI 103) from by rw [hkd]]
          refine z_lsw S (pc := 54) (tgt := 148) (by omega) dX8_readStep_54 (by decide) rfl rfl ?_
          refine z_aload_n S (pc := 148) dX8_readStep_148 rfl (lv_at hl 2 rfl) ?_
          refine z_callV S (pc := 149) B (wr := [cInt E p6 120 ψ]) (wn := fun _ => [cMod a p1 p2 p3 p4 p5 p6 pm ig mo ((mrng χ pm (rd + 1)).2.2) (if (mrng χ pm (rd + 1)).1 = 1 then 1 else wr) sm, cInt E p5 60 χ, cInt E p6 120 ψ]) (st1 := fun _ => [.int (iI ((mrng χ pm (rd + 1)).2.1))]) (As := []) (mX8_takeRange l E a p1 p2 p3 p4 p5 p6 (fun _ => 0) (fun _ => 0) pm ig mo (rd + 1) wr sm χ (show 0 ≤ pm ∧ pm ≤ 60 from by omega) (show 0 ≤ (rd + 1) ∧ (rd + 1) ≤ pm from by omega) (show inX χ from by assumption)) gX8_readStep_X8_takeRange 0 rfl (by decide +kernel) ⟨Nat.le_of_ble_eq_true rfl, Nat.le_of_ble_eq_true rfl, Nat.le_of_ble_eq_true rfl, Nat.le_of_ble_eq_true rfl⟩ 0 rfl (q := (RX8, TX8, 12)) rfl rfl [0, 1] [2] [1, 2, 0] rfl rfl ⟨rfl, rfl, rfl, by decide⟩ (fun _ => rfl) rfl (fun _ => rfl) hl.1 (Nat.le_of_ble_eq_true rfl) rfl dX8_readStep_149 (fun _ _ H locs B => ?_)
          refine lv_istore_n (lv' := [(2, .int (iI ((mrng χ pm (rd + 1)).2.1))), (1, .int (iI (chr0 χ pm rd))), (0, .ref a)]) S.1 S.2.1 (pc := 152) dX8_readStep_152 rfl hl (by decide) rfl (fun ls hl => ?_)
          refine lv_goto S.1 S.2.1 (pc := 153) (tgt := 156) dX8_readStep_153 rfl ?_
          refine z_aload_n S (pc := 156) dX8_readStep_156 rfl (lv_at hl 2 rfl) ?_
          refine z_get S (pc := 157) B iX8_readStep_X8 0 rfl rfl 10 (by decide) rfl rfl (by decide +kernel) dX8_readStep_157 ?_
          refine z_iconst S (pc := 160) dX8_readStep_160 ?_
          refine z_aload_n S (pc := 161) dX8_readStep_161 rfl (lv_at hl 2 rfl) ?_
          refine z_get S (pc := 162) B iX8_readStep_X8 0 rfl rfl 11 (by decide) rfl rfl (by decide +kernel) dX8_readStep_162 ?_
          refine z_imul S (pc := 165) dX8_readStep_165 ?_
          refine z_iload_n S (pc := 166) dX8_readStep_166 rfl (lv_at hl 1 rfl) ?_
          refine z_iast S (pc := 167) B 2 1 rfl rfl (k := (2 * sm).toNat) (by omega) (by omega) (by decide) dX8_readStep_167 (wn := [cMod a p1 p2 p3 p4 p5 p6 pm ig mo ((mrng χ pm (rd + 1)).2.2) (if (mrng χ pm (rd + 1)).1 = 1 then 1 else wr) sm, cInt E p5 60 χ, cInt E p6 120 (up ψ (2 * sm).toNat (chr0 χ pm rd))]) (by rw [iat_up]; rfl) (fun H locs B => ?_)
          refine z_aload_n S (pc := 168) dX8_readStep_168 rfl (lv_at hl 2 rfl) ?_
          refine z_get S (pc := 169) B iX8_readStep_X8 0 rfl rfl 10 (by decide) rfl rfl (by decide +kernel) dX8_readStep_169 ?_
          refine z_iconst S (pc := 172) dX8_readStep_172 ?_
          refine z_aload_n S (pc := 173) dX8_readStep_173 rfl (lv_at hl 2 rfl) ?_
          refine z_get S (pc := 174) B iX8_readStep_X8 0 rfl rfl 11 (by decide) rfl rfl (by decide +kernel) dX8_readStep_174 ?_
          refine z_imul S (pc := 177) dX8_readStep_177 ?_
          refine z_iconst S (pc := 178) dX8_readStep_178 ?_
          refine z_iadd S (pc := 179) dX8_readStep_179 ?_
          refine z_iload_n S (pc := 180) dX8_readStep_180 rfl (lv_at hl 0 rfl) ?_
          refine z_iast S (pc := 181) B 2 1 rfl rfl (k := ((2 * sm) + 1).toNat) (by omega) (by omega) (by decide) dX8_readStep_181 (wn := [cMod a p1 p2 p3 p4 p5 p6 pm ig mo ((mrng χ pm (rd + 1)).2.2) (if (mrng χ pm (rd + 1)).1 = 1 then 1 else wr) sm, cInt E p5 60 χ, cInt E p6 120 (up (up ψ (2 * sm).toNat (chr0 χ pm rd)) ((2 * sm) + 1).toNat ((mrng χ pm (rd + 1)).2.1))]) (by rw [iat_up]; rfl) (fun H locs B => ?_)
          refine z_aload_n S (pc := 182) dX8_readStep_182 rfl (lv_at hl 2 rfl) ?_
          refine lv_dup S.1 S.2.1 (pc := 183) dX8_readStep_183 rfl ?_
          refine z_get S (pc := 184) B iX8_readStep_X8 0 rfl rfl 11 (by decide) rfl rfl (by decide +kernel) dX8_readStep_184 ?_
          refine z_iconst S (pc := 187) dX8_readStep_187 ?_
          refine z_iadd S (pc := 188) dX8_readStep_188 ?_
          refine z_put S (pc := 189) B iX8_readStep_X8 tyX8_ok nmX8 0 rfl rfl 11 (by decide) rfl (by decide +kernel) (ty := .int) (by decide +kernel) rfl rfl (Nat.le_of_ble_eq_true rfl) dX8_readStep_189 (wn := [cMod a p1 p2 p3 p4 p5 p6 pm ig mo ((mrng χ pm (rd + 1)).2.2) (if (mrng χ pm (rd + 1)).1 = 1 then 1 else wr) (sm + 1), cInt E p5 60 χ, cInt E p6 120 (up (up ψ (2 * sm).toNat (chr0 χ pm rd)) ((2 * sm) + 1).toNat ((mrng χ pm (rd + 1)).2.1))]) rfl (fun H locs B => ?_)
          have hma : marg χ pm (chr0 χ pm rd) (rd + 1) = (mrng χ pm (rd + 1)) := by unfold marg; rw [if_neg (by omega), if_neg (by omega), if_neg (by omega), if_pos hkd]
          have hms : mstp χ pm rd sm ψ = ((mrng χ pm (rd + 1)).1, (mrng χ pm (rd + 1)).2.2, sm + 1, up (up ψ (2 * sm).toNat (chr0 χ pm rd)) (2 * sm + 1).toNat (mrng χ pm (rd + 1)).2.1) := by unfold mstp; rw [if_pos hK, hma]
          have hw1 := marg_bd (kd := chr0 χ pm rd) (i := rd + 1) hX hn (by omega)
          rw [hma] at hw1
          have hw2 : (if (mrng χ pm (rd + 1)).1 = 1 then 1 else wr) = (mrng χ pm (rd + 1)).1 := by split <;> omega
          rw [hw2] at B
          exact z_return S hr hlk B () trivial rfl (by rw [hms]) (pc := 192) dX8_readStep_192
      · refine z_iload_n S (pc := 23) dX8_readStep_23 rfl (lv_at hl 0 rfl) ?_
        refine z_bipush S (pc := 24) dX8_readStep_24 rfl ?_
        refine z_icmp_eq S (pc := 26) (tgt := 41) (by omega) (by omega) dX8_readStep_26 rfl (fun c7 => ?_) (fun c7 => ?_)
        · have hK : isK (chr0 χ pm rd) := by omega
          have hin := chr0_lt (χ := χ) (n := pm) (i := rd) (by omega)
          have hc2 := chr0_bd (i := rd + 1) hX hn.2
          refine z_aload_n S (pc := 41) dX8_readStep_41 rfl (lv_at hl 1 rfl) ?_
          refine lv_dup S.1 S.2.1 (pc := 42) dX8_readStep_42 rfl ?_
          refine z_get S (pc := 43) B iX8_readStep_X8 0 rfl rfl 8 (by decide) rfl rfl (by decide +kernel) dX8_readStep_43 ?_
          refine z_iconst S (pc := 46) dX8_readStep_46 ?_
          refine z_iadd S (pc := 47) dX8_readStep_47 ?_
          refine z_put S (pc := 48) B iX8_readStep_X8 tyX8_ok nmX8 0 rfl rfl 8 (by decide) rfl (by decide +kernel) (ty := .int) (by decide +kernel) rfl rfl (Nat.le_of_ble_eq_true rfl) dX8_readStep_48 (wn := [cMod a p1 p2 p3 p4 p5 p6 pm ig mo (rd + 1) wr sm, cInt E p5 60 χ, cInt E p6 120 ψ]) rfl (fun H locs B => ?_)
          refine z_iconst S (pc := 51) dX8_readStep_51 ?_
          refine lv_istore_n (lv' := [(2, .int (iI 0)), (1, .int (iI (chr0 χ pm rd))), (0, .ref a)]) S.1 S.2.1 (pc := 52) dX8_readStep_52 rfl hl (by decide) rfl (fun ls hl => ?_)
          refine z_iload_n S (pc := 53) dX8_readStep_53 rfl (lv_at hl 1 rfl) ?_
          rcases id hK with hkd | hkd | hkd | hkd | hkd
          · have hl : lv_has ls 3 [(2, .int (iI 0)), (1, .int (iI (chr0 χ pm rd))), (0, .ref a)] := hl
            rw [show Value.int (iI (chr0 χ pm rd)) = Value.int (iI 114) from by rw [hkd]]
            refine z_lsw S (pc := 54) (tgt := 96) (by omega) dX8_readStep_54 (by decide) rfl rfl ?_
            refine z_aload_n S (pc := 96) dX8_readStep_96 rfl (lv_at hl 2 rfl) ?_
            refine z_callV S (pc := 97) B (wr := [cInt E p6 120 ψ]) (wn := fun _ => [cMod a p1 p2 p3 p4 p5 p6 pm ig mo (rd + 1) wr sm, cInt E p5 60 χ, cInt E p6 120 ψ]) (st1 := fun _ => [.int (iI (chr0 χ pm (rd + 1)))]) (As := []) (mX8_nextSign l E a p1 p2 p3 p4 p5 p6 (fun _ => 0) (fun _ => 0) pm ig mo (rd + 1) wr sm χ (show 0 ≤ pm ∧ pm ≤ 60 from by omega) (show 0 ≤ (rd + 1) ∧ (rd + 1) ≤ pm from by omega) (show inX χ from by assumption)) gX8_readStep_X8_nextSign 0 rfl (by decide +kernel) ⟨Nat.le_of_ble_eq_true rfl, Nat.le_of_ble_eq_true rfl, Nat.le_of_ble_eq_true rfl, Nat.le_of_ble_eq_true rfl⟩ 0 rfl (q := (RX8, TX8, 12)) rfl rfl [0, 1] [2] [1, 2, 0] rfl rfl ⟨rfl, rfl, rfl, by decide⟩ (fun _ => rfl) rfl (fun _ => rfl) hl.1 (Nat.le_of_ble_eq_true rfl) rfl dX8_readStep_97 (fun _ _ H locs B => ?_)
            refine z_i2l S (pc := 100) (by omega) dX8_readStep_100 ?_
            refine z_ldc2 S (pc := 101) (x := 49) (by decide +kernel) rfl dX8_readStep_101 ?_
            refine z_ldc2 S (pc := 104) (x := 57) (by decide +kernel) rfl dX8_readStep_104 ?_
            refine z_callS S (pc := 107) B (wr := [cMod a p1 p2 p3 p4 p5 p6 pm ig mo (rd + 1) wr sm, cInt E p5 60 χ, cInt E p6 120 ψ]) (wn := fun _ => [cMod a p1 p2 p3 p4 p5 p6 pm ig mo (rd + 1) wr sm, cInt E p5 60 χ, cInt E p6 120 ψ]) (st1 := fun _ => [.int (iI (bI (49 ≤ chr0 χ pm (rd + 1) ∧ chr0 χ pm (rd + 1) ≤ 57)))]) (As := [.long (iL (chr0 χ pm (rd + 1))), .long (iL 49), .long (iL 57)]) (mX8_in l E (chr0 χ pm (rd + 1)) 49 57 (show inL (chr0 χ pm (rd + 1)) from by omega) (show inL 49 from by omega) (show inL 57 from by omega)) gX8_readStep_X8_in 3 rfl (by decide +kernel) ⟨Nat.le_of_ble_eq_true rfl, Nat.le_of_ble_eq_true rfl, Nat.le_of_ble_eq_true rfl, Nat.le_of_ble_eq_true rfl⟩ [] [0, 1, 2] [0, 1, 2] rfl rfl ⟨rfl, rfl, rfl, by decide⟩ (fun _ => rfl) rfl (fun _ => rfl) hl.1 (Nat.le_of_ble_eq_true rfl) rfl dX8_readStep_107 (fun _ _ H locs B => ?_)
            refine z_ifeq_b S (pc := 110) (tgt := 123) dX8_readStep_110 rfl (fun c8 => ?_) (fun c8 => ?_)
            · refine z_iconst S (pc := 123) dX8_readStep_123 ?_
              refine lv_istore_n (lv' := [(2, .int (iI 1)), (1, .int (iI (chr0 χ pm rd))), (0, .ref a)]) S.1 S.2.1 (pc := 124) dX8_readStep_124 rfl hl (by decide) rfl (fun ls hl => ?_)
              refine lv_goto S.1 S.2.1 (pc := 125) (tgt := 156) dX8_readStep_125 rfl ?_
              refine z_aload_n S (pc := 156) dX8_readStep_156 rfl (lv_at hl 2 rfl) ?_
              refine z_get S (pc := 157) B iX8_readStep_X8 0 rfl rfl 10 (by decide) rfl rfl (by decide +kernel) dX8_readStep_157 ?_
              refine z_iconst S (pc := 160) dX8_readStep_160 ?_
              refine z_aload_n S (pc := 161) dX8_readStep_161 rfl (lv_at hl 2 rfl) ?_
              refine z_get S (pc := 162) B iX8_readStep_X8 0 rfl rfl 11 (by decide) rfl rfl (by decide +kernel) dX8_readStep_162 ?_
              refine z_imul S (pc := 165) dX8_readStep_165 ?_
              refine z_iload_n S (pc := 166) dX8_readStep_166 rfl (lv_at hl 1 rfl) ?_
              refine z_iast S (pc := 167) B 2 1 rfl rfl (k := (2 * sm).toNat) (by omega) (by omega) (by decide) dX8_readStep_167 (wn := [cMod a p1 p2 p3 p4 p5 p6 pm ig mo (rd + 1) wr sm, cInt E p5 60 χ, cInt E p6 120 (up ψ (2 * sm).toNat (chr0 χ pm rd))]) (by rw [iat_up]; rfl) (fun H locs B => ?_)
              refine z_aload_n S (pc := 168) dX8_readStep_168 rfl (lv_at hl 2 rfl) ?_
              refine z_get S (pc := 169) B iX8_readStep_X8 0 rfl rfl 10 (by decide) rfl rfl (by decide +kernel) dX8_readStep_169 ?_
              refine z_iconst S (pc := 172) dX8_readStep_172 ?_
              refine z_aload_n S (pc := 173) dX8_readStep_173 rfl (lv_at hl 2 rfl) ?_
              refine z_get S (pc := 174) B iX8_readStep_X8 0 rfl rfl 11 (by decide) rfl rfl (by decide +kernel) dX8_readStep_174 ?_
              refine z_imul S (pc := 177) dX8_readStep_177 ?_
              refine z_iconst S (pc := 178) dX8_readStep_178 ?_
              refine z_iadd S (pc := 179) dX8_readStep_179 ?_
              refine z_iload_n S (pc := 180) dX8_readStep_180 rfl (lv_at hl 0 rfl) ?_
              refine z_iast S (pc := 181) B 2 1 rfl rfl (k := ((2 * sm) + 1).toNat) (by omega) (by omega) (by decide) dX8_readStep_181 (wn := [cMod a p1 p2 p3 p4 p5 p6 pm ig mo (rd + 1) wr sm, cInt E p5 60 χ, cInt E p6 120 (up (up ψ (2 * sm).toNat (chr0 χ pm rd)) ((2 * sm) + 1).toNat 1)]) (by rw [iat_up]; rfl) (fun H locs B => ?_)
              refine z_aload_n S (pc := 182) dX8_readStep_182 rfl (lv_at hl 2 rfl) ?_
              refine lv_dup S.1 S.2.1 (pc := 183) dX8_readStep_183 rfl ?_
              refine z_get S (pc := 184) B iX8_readStep_X8 0 rfl rfl 11 (by decide) rfl rfl (by decide +kernel) dX8_readStep_184 ?_
              refine z_iconst S (pc := 187) dX8_readStep_187 ?_
              refine z_iadd S (pc := 188) dX8_readStep_188 ?_
              refine z_put S (pc := 189) B iX8_readStep_X8 tyX8_ok nmX8 0 rfl rfl 11 (by decide) rfl (by decide +kernel) (ty := .int) (by decide +kernel) rfl rfl (Nat.le_of_ble_eq_true rfl) dX8_readStep_189 (wn := [cMod a p1 p2 p3 p4 p5 p6 pm ig mo (rd + 1) wr (sm + 1), cInt E p5 60 χ, cInt E p6 120 (up (up ψ (2 * sm).toNat (chr0 χ pm rd)) ((2 * sm) + 1).toNat 1)]) rfl (fun H locs B => ?_)
              have hma : marg χ pm (chr0 χ pm rd) (rd + 1) = (0, 1, rd + 1) := by unfold marg; rw [if_pos hkd, if_neg (by omega)]
              have hms : mstp χ pm rd sm ψ = ((0, 1, rd + 1).1, (0, 1, rd + 1).2.2, sm + 1, up (up ψ (2 * sm).toNat (chr0 χ pm rd)) (2 * sm + 1).toNat (0, 1, rd + 1).2.1) := by unfold mstp; rw [if_pos hK, hma]
              rw [hw0] at B
              exact z_return S hr hlk B () trivial rfl (by rw [hms]) (pc := 192) dX8_readStep_192
            · refine z_aload_n S (pc := 113) dX8_readStep_113 rfl (lv_at hl 2 rfl) ?_
              refine z_iconst S (pc := 114) dX8_readStep_114 ?_
              refine z_bipush S (pc := 115) dX8_readStep_115 rfl ?_
              refine z_callV S (pc := 117) B (wr := [cInt E p6 120 ψ]) (wn := fun _ => [cMod a p1 p2 p3 p4 p5 p6 pm ig mo ((mnum χ pm 1 99 (rd + 1)).2.2) (if (mnum χ pm 1 99 (rd + 1)).1 = 1 then 1 else wr) sm, cInt E p5 60 χ, cInt E p6 120 ψ]) (st1 := fun _ => [.int (iI ((mnum χ pm 1 99 (rd + 1)).2.1))]) (As := [.int (iI 1), .int (iI 99)]) (mX8_takeNumber l E a p1 p2 p3 p4 p5 p6 (fun _ => 0) (fun _ => 0) pm ig mo (rd + 1) wr sm χ 1 99 (show 0 ≤ pm ∧ pm ≤ 60 from by omega) (show 0 ≤ (rd + 1) ∧ (rd + 1) ≤ pm from by omega) (show inX χ from by assumption) (show 0 ≤ 1 ∧ 1 ≤ 1 from by omega) (show 9 ≤ 99 ∧ 99 ≤ 3000000 from by omega)) gX8_readStep_X8_takeNumber 2 rfl (by decide +kernel) ⟨Nat.le_of_ble_eq_true rfl, Nat.le_of_ble_eq_true rfl, Nat.le_of_ble_eq_true rfl, Nat.le_of_ble_eq_true rfl⟩ 0 rfl (q := (RX8, TX8, 12)) rfl rfl [0, 1] [2] [1, 2, 0] rfl rfl ⟨rfl, rfl, rfl, by decide⟩ (fun _ => rfl) rfl (fun _ => rfl) hl.1 (Nat.le_of_ble_eq_true rfl) rfl dX8_readStep_117 (fun _ _ H locs B => ?_)
              refine lv_goto S.1 S.2.1 (pc := 120) (tgt := 124) dX8_readStep_120 rfl ?_
              refine lv_istore_n (lv' := [(2, .int (iI ((mnum χ pm 1 99 (rd + 1)).2.1))), (1, .int (iI (chr0 χ pm rd))), (0, .ref a)]) S.1 S.2.1 (pc := 124) dX8_readStep_124 rfl hl (by decide) rfl (fun ls hl => ?_)
              refine lv_goto S.1 S.2.1 (pc := 125) (tgt := 156) dX8_readStep_125 rfl ?_
              refine z_aload_n S (pc := 156) dX8_readStep_156 rfl (lv_at hl 2 rfl) ?_
              refine z_get S (pc := 157) B iX8_readStep_X8 0 rfl rfl 10 (by decide) rfl rfl (by decide +kernel) dX8_readStep_157 ?_
              refine z_iconst S (pc := 160) dX8_readStep_160 ?_
              refine z_aload_n S (pc := 161) dX8_readStep_161 rfl (lv_at hl 2 rfl) ?_
              refine z_get S (pc := 162) B iX8_readStep_X8 0 rfl rfl 11 (by decide) rfl rfl (by decide +kernel) dX8_readStep_162 ?_
              refine z_imul S (pc := 165) dX8_readStep_165 ?_
              refine z_iload_n S (pc := 166) dX8_readStep_166 rfl (lv_at hl 1 rfl) ?_
              refine z_iast S (pc := 167) B 2 1 rfl rfl (k := (2 * sm).toNat) (by omega) (by omega) (by decide) dX8_readStep_167 (wn := [cMod a p1 p2 p3 p4 p5 p6 pm ig mo ((mnum χ pm 1 99 (rd + 1)).2.2) (if (mnum χ pm 1 99 (rd + 1)).1 = 1 then 1 else wr) sm, cInt E p5 60 χ, cInt E p6 120 (up ψ (2 * sm).toNat (chr0 χ pm rd))]) (by rw [iat_up]; rfl) (fun H locs B => ?_)
              refine z_aload_n S (pc := 168) dX8_readStep_168 rfl (lv_at hl 2 rfl) ?_
              refine z_get S (pc := 169) B iX8_readStep_X8 0 rfl rfl 10 (by decide) rfl rfl (by decide +kernel) dX8_readStep_169 ?_
              refine z_iconst S (pc := 172) dX8_readStep_172 ?_
              refine z_aload_n S (pc := 173) dX8_readStep_173 rfl (lv_at hl 2 rfl) ?_
              refine z_get S (pc := 174) B iX8_readStep_X8 0 rfl rfl 11 (by decide) rfl rfl (by decide +kernel) dX8_readStep_174 ?_
              refine z_imul S (pc := 177) dX8_readStep_177 ?_
              refine z_iconst S (pc := 178) dX8_readStep_178 ?_
              refine z_iadd S (pc := 179) dX8_readStep_179 ?_
              refine z_iload_n S (pc := 180) dX8_readStep_180 rfl (lv_at hl 0 rfl) ?_
              refine z_iast S (pc := 181) B 2 1 rfl rfl (k := ((2 * sm) + 1).toNat) (by omega) (by omega) (by decide) dX8_readStep_181 (wn := [cMod a p1 p2 p3 p4 p5 p6 pm ig mo ((mnum χ pm 1 99 (rd + 1)).2.2) (if (mnum χ pm 1 99 (rd + 1)).1 = 1 then 1 else wr) sm, cInt E p5 60 χ, cInt E p6 120 (up (up ψ (2 * sm).toNat (chr0 χ pm rd)) ((2 * sm) + 1).toNat ((mnum χ pm 1 99 (rd + 1)).2.1))]) (by rw [iat_up]; rfl) (fun H locs B => ?_)
              refine z_aload_n S (pc := 182) dX8_readStep_182 rfl (lv_at hl 2 rfl) ?_
              refine lv_dup S.1 S.2.1 (pc := 183) dX8_readStep_183 rfl ?_
              refine z_get S (pc := 184) B iX8_readStep_X8 0 rfl rfl 11 (by decide) rfl rfl (by decide +kernel) dX8_readStep_184 ?_
              refine z_iconst S (pc := 187) dX8_readStep_187 ?_
              refine z_iadd S (pc := 188) dX8_readStep_188 ?_
              refine z_put S (pc := 189) B iX8_readStep_X8 tyX8_ok nmX8 0 rfl rfl 11 (by decide) rfl (by decide +kernel) (ty := .int) (by decide +kernel) rfl rfl (Nat.le_of_ble_eq_true rfl) dX8_readStep_189 (wn := [cMod a p1 p2 p3 p4 p5 p6 pm ig mo ((mnum χ pm 1 99 (rd + 1)).2.2) (if (mnum χ pm 1 99 (rd + 1)).1 = 1 then 1 else wr) (sm + 1), cInt E p5 60 χ, cInt E p6 120 (up (up ψ (2 * sm).toNat (chr0 χ pm rd)) ((2 * sm) + 1).toNat ((mnum χ pm 1 99 (rd + 1)).2.1))]) rfl (fun H locs B => ?_)
              have hma : marg χ pm (chr0 χ pm rd) (rd + 1) = (mnum χ pm 1 99 (rd + 1)) := by unfold marg; rw [if_pos hkd, if_pos (by omega)]
              have hms : mstp χ pm rd sm ψ = ((mnum χ pm 1 99 (rd + 1)).1, (mnum χ pm 1 99 (rd + 1)).2.2, sm + 1, up (up ψ (2 * sm).toNat (chr0 χ pm rd)) (2 * sm + 1).toNat (mnum χ pm 1 99 (rd + 1)).2.1) := by unfold mstp; rw [if_pos hK, hma]
              have hw1 := marg_bd (kd := chr0 χ pm rd) (i := rd + 1) hX hn (by omega)
              rw [hma] at hw1
              have hw2 : (if (mnum χ pm 1 99 (rd + 1)).1 = 1 then 1 else wr) = (mnum χ pm 1 99 (rd + 1)).1 := by split <;> omega
              rw [hw2] at B
              exact z_return S hr hlk B () trivial rfl (by rw [hms]) (pc := 192) dX8_readStep_192
          · have hl : lv_has ls 3 [(2, .int (iI 0)), (1, .int (iI (chr0 χ pm rd))), (0, .ref a)] := hl
            rw [show Value.int (iI (chr0 χ pm rd)) = Value.int (iI 122) from by rw [hkd]]
            refine z_lsw S (pc := 54) (tgt := 156) (by omega) dX8_readStep_54 (by decide) rfl rfl ?_
            refine z_aload_n S (pc := 156) dX8_readStep_156 rfl (lv_at hl 2 rfl) ?_
            refine z_get S (pc := 157) B iX8_readStep_X8 0 rfl rfl 10 (by decide) rfl rfl (by decide +kernel) dX8_readStep_157 ?_
            refine z_iconst S (pc := 160) dX8_readStep_160 ?_
            refine z_aload_n S (pc := 161) dX8_readStep_161 rfl (lv_at hl 2 rfl) ?_
            refine z_get S (pc := 162) B iX8_readStep_X8 0 rfl rfl 11 (by decide) rfl rfl (by decide +kernel) dX8_readStep_162 ?_
            refine z_imul S (pc := 165) dX8_readStep_165 ?_
            refine z_iload_n S (pc := 166) dX8_readStep_166 rfl (lv_at hl 1 rfl) ?_
            refine z_iast S (pc := 167) B 2 1 rfl rfl (k := (2 * sm).toNat) (by omega) (by omega) (by decide) dX8_readStep_167 (wn := [cMod a p1 p2 p3 p4 p5 p6 pm ig mo (rd + 1) wr sm, cInt E p5 60 χ, cInt E p6 120 (up ψ (2 * sm).toNat (chr0 χ pm rd))]) (by rw [iat_up]; rfl) (fun H locs B => ?_)
            refine z_aload_n S (pc := 168) dX8_readStep_168 rfl (lv_at hl 2 rfl) ?_
            refine z_get S (pc := 169) B iX8_readStep_X8 0 rfl rfl 10 (by decide) rfl rfl (by decide +kernel) dX8_readStep_169 ?_
            refine z_iconst S (pc := 172) dX8_readStep_172 ?_
            refine z_aload_n S (pc := 173) dX8_readStep_173 rfl (lv_at hl 2 rfl) ?_
            refine z_get S (pc := 174) B iX8_readStep_X8 0 rfl rfl 11 (by decide) rfl rfl (by decide +kernel) dX8_readStep_174 ?_
            refine z_imul S (pc := 177) dX8_readStep_177 ?_
            refine z_iconst S (pc := 178) dX8_readStep_178 ?_
            refine z_iadd S (pc := 179) dX8_readStep_179 ?_
            refine z_iload_n S (pc := 180) dX8_readStep_180 rfl (lv_at hl 0 rfl) ?_
            refine z_iast S (pc := 181) B 2 1 rfl rfl (k := ((2 * sm) + 1).toNat) (by omega) (by omega) (by decide) dX8_readStep_181 (wn := [cMod a p1 p2 p3 p4 p5 p6 pm ig mo (rd + 1) wr sm, cInt E p5 60 χ, cInt E p6 120 (up (up ψ (2 * sm).toNat (chr0 χ pm rd)) ((2 * sm) + 1).toNat 0)]) (by rw [iat_up]; rfl) (fun H locs B => ?_)
            refine z_aload_n S (pc := 182) dX8_readStep_182 rfl (lv_at hl 2 rfl) ?_
            refine lv_dup S.1 S.2.1 (pc := 183) dX8_readStep_183 rfl ?_
            refine z_get S (pc := 184) B iX8_readStep_X8 0 rfl rfl 11 (by decide) rfl rfl (by decide +kernel) dX8_readStep_184 ?_
            refine z_iconst S (pc := 187) dX8_readStep_187 ?_
            refine z_iadd S (pc := 188) dX8_readStep_188 ?_
            refine z_put S (pc := 189) B iX8_readStep_X8 tyX8_ok nmX8 0 rfl rfl 11 (by decide) rfl (by decide +kernel) (ty := .int) (by decide +kernel) rfl rfl (Nat.le_of_ble_eq_true rfl) dX8_readStep_189 (wn := [cMod a p1 p2 p3 p4 p5 p6 pm ig mo (rd + 1) wr (sm + 1), cInt E p5 60 χ, cInt E p6 120 (up (up ψ (2 * sm).toNat (chr0 χ pm rd)) ((2 * sm) + 1).toNat 0)]) rfl (fun H locs B => ?_)
            have hma : marg χ pm (chr0 χ pm rd) (rd + 1) = (0, 0, rd + 1) := by unfold marg; rw [if_neg (by omega), if_neg (by omega), if_neg (by omega), if_neg (by omega)]
            have hms : mstp χ pm rd sm ψ = ((0, 0, rd + 1).1, (0, 0, rd + 1).2.2, sm + 1, up (up ψ (2 * sm).toNat (chr0 χ pm rd)) (2 * sm + 1).toNat (0, 0, rd + 1).2.1) := by unfold mstp; rw [if_pos hK, hma]
            rw [hw0] at B
            exact z_return S hr hlk B () trivial rfl (by rw [hms]) (pc := 192) dX8_readStep_192
          · have hl : lv_has ls 3 [(2, .int (iI 0)), (1, .int (iI (chr0 χ pm rd))), (0, .ref a)] := hl
            rw [show Value.int (iI (chr0 χ pm rd)) = Value.int (iI 119) from by rw [hkd]]
            refine z_lsw S (pc := 54) (tgt := 128) (by omega) dX8_readStep_54 (by decide) rfl rfl ?_
            refine z_aload_n S (pc := 128) dX8_readStep_128 rfl (lv_at hl 2 rfl) ?_
            refine z_iconst S (pc := 129) dX8_readStep_129 ?_
            refine z_sipush S (pc := 130) dX8_readStep_130 rfl ?_
            refine z_callV S (pc := 133) B (wr := [cInt E p6 120 ψ]) (wn := fun _ => [cMod a p1 p2 p3 p4 p5 p6 pm ig mo ((mnum χ pm 1 9999 (rd + 1)).2.2) (if (mnum χ pm 1 9999 (rd + 1)).1 = 1 then 1 else wr) sm, cInt E p5 60 χ, cInt E p6 120 ψ]) (st1 := fun _ => [.int (iI ((mnum χ pm 1 9999 (rd + 1)).2.1))]) (As := [.int (iI 1), .int (iI 9999)]) (mX8_takeNumber l E a p1 p2 p3 p4 p5 p6 (fun _ => 0) (fun _ => 0) pm ig mo (rd + 1) wr sm χ 1 9999 (show 0 ≤ pm ∧ pm ≤ 60 from by omega) (show 0 ≤ (rd + 1) ∧ (rd + 1) ≤ pm from by omega) (show inX χ from by assumption) (show 0 ≤ 1 ∧ 1 ≤ 1 from by omega) (show 9 ≤ 9999 ∧ 9999 ≤ 3000000 from by omega)) gX8_readStep_X8_takeNumber 2 rfl (by decide +kernel) ⟨Nat.le_of_ble_eq_true rfl, Nat.le_of_ble_eq_true rfl, Nat.le_of_ble_eq_true rfl, Nat.le_of_ble_eq_true rfl⟩ 0 rfl (q := (RX8, TX8, 12)) rfl rfl [0, 1] [2] [1, 2, 0] rfl rfl ⟨rfl, rfl, rfl, by decide⟩ (fun _ => rfl) rfl (fun _ => rfl) hl.1 (Nat.le_of_ble_eq_true rfl) rfl dX8_readStep_133 (fun _ _ H locs B => ?_)
            refine lv_istore_n (lv' := [(2, .int (iI ((mnum χ pm 1 9999 (rd + 1)).2.1))), (1, .int (iI (chr0 χ pm rd))), (0, .ref a)]) S.1 S.2.1 (pc := 136) dX8_readStep_136 rfl hl (by decide) rfl (fun ls hl => ?_)
            refine lv_goto S.1 S.2.1 (pc := 137) (tgt := 156) dX8_readStep_137 rfl ?_
            refine z_aload_n S (pc := 156) dX8_readStep_156 rfl (lv_at hl 2 rfl) ?_
            refine z_get S (pc := 157) B iX8_readStep_X8 0 rfl rfl 10 (by decide) rfl rfl (by decide +kernel) dX8_readStep_157 ?_
            refine z_iconst S (pc := 160) dX8_readStep_160 ?_
            refine z_aload_n S (pc := 161) dX8_readStep_161 rfl (lv_at hl 2 rfl) ?_
            refine z_get S (pc := 162) B iX8_readStep_X8 0 rfl rfl 11 (by decide) rfl rfl (by decide +kernel) dX8_readStep_162 ?_
            refine z_imul S (pc := 165) dX8_readStep_165 ?_
            refine z_iload_n S (pc := 166) dX8_readStep_166 rfl (lv_at hl 1 rfl) ?_
            refine z_iast S (pc := 167) B 2 1 rfl rfl (k := (2 * sm).toNat) (by omega) (by omega) (by decide) dX8_readStep_167 (wn := [cMod a p1 p2 p3 p4 p5 p6 pm ig mo ((mnum χ pm 1 9999 (rd + 1)).2.2) (if (mnum χ pm 1 9999 (rd + 1)).1 = 1 then 1 else wr) sm, cInt E p5 60 χ, cInt E p6 120 (up ψ (2 * sm).toNat (chr0 χ pm rd))]) (by rw [iat_up]; rfl) (fun H locs B => ?_)
            refine z_aload_n S (pc := 168) dX8_readStep_168 rfl (lv_at hl 2 rfl) ?_
            refine z_get S (pc := 169) B iX8_readStep_X8 0 rfl rfl 10 (by decide) rfl rfl (by decide +kernel) dX8_readStep_169 ?_
            refine z_iconst S (pc := 172) dX8_readStep_172 ?_
            refine z_aload_n S (pc := 173) dX8_readStep_173 rfl (lv_at hl 2 rfl) ?_
            refine z_get S (pc := 174) B iX8_readStep_X8 0 rfl rfl 11 (by decide) rfl rfl (by decide +kernel) dX8_readStep_174 ?_
            refine z_imul S (pc := 177) dX8_readStep_177 ?_
            refine z_iconst S (pc := 178) dX8_readStep_178 ?_
            refine z_iadd S (pc := 179) dX8_readStep_179 ?_
            refine z_iload_n S (pc := 180) dX8_readStep_180 rfl (lv_at hl 0 rfl) ?_
            refine z_iast S (pc := 181) B 2 1 rfl rfl (k := ((2 * sm) + 1).toNat) (by omega) (by omega) (by decide) dX8_readStep_181 (wn := [cMod a p1 p2 p3 p4 p5 p6 pm ig mo ((mnum χ pm 1 9999 (rd + 1)).2.2) (if (mnum χ pm 1 9999 (rd + 1)).1 = 1 then 1 else wr) sm, cInt E p5 60 χ, cInt E p6 120 (up (up ψ (2 * sm).toNat (chr0 χ pm rd)) ((2 * sm) + 1).toNat ((mnum χ pm 1 9999 (rd + 1)).2.1))]) (by rw [iat_up]; rfl) (fun H locs B => ?_)
            refine z_aload_n S (pc := 182) dX8_readStep_182 rfl (lv_at hl 2 rfl) ?_
            refine lv_dup S.1 S.2.1 (pc := 183) dX8_readStep_183 rfl ?_
            refine z_get S (pc := 184) B iX8_readStep_X8 0 rfl rfl 11 (by decide) rfl rfl (by decide +kernel) dX8_readStep_184 ?_
            refine z_iconst S (pc := 187) dX8_readStep_187 ?_
            refine z_iadd S (pc := 188) dX8_readStep_188 ?_
            refine z_put S (pc := 189) B iX8_readStep_X8 tyX8_ok nmX8 0 rfl rfl 11 (by decide) rfl (by decide +kernel) (ty := .int) (by decide +kernel) rfl rfl (Nat.le_of_ble_eq_true rfl) dX8_readStep_189 (wn := [cMod a p1 p2 p3 p4 p5 p6 pm ig mo ((mnum χ pm 1 9999 (rd + 1)).2.2) (if (mnum χ pm 1 9999 (rd + 1)).1 = 1 then 1 else wr) (sm + 1), cInt E p5 60 χ, cInt E p6 120 (up (up ψ (2 * sm).toNat (chr0 χ pm rd)) ((2 * sm) + 1).toNat ((mnum χ pm 1 9999 (rd + 1)).2.1))]) rfl (fun H locs B => ?_)
            have hma : marg χ pm (chr0 χ pm rd) (rd + 1) = (mnum χ pm 1 9999 (rd + 1)) := by unfold marg; rw [if_neg (by omega), if_pos hkd]
            have hms : mstp χ pm rd sm ψ = ((mnum χ pm 1 9999 (rd + 1)).1, (mnum χ pm 1 9999 (rd + 1)).2.2, sm + 1, up (up ψ (2 * sm).toNat (chr0 χ pm rd)) (2 * sm + 1).toNat (mnum χ pm 1 9999 (rd + 1)).2.1) := by unfold mstp; rw [if_pos hK, hma]
            have hw1 := marg_bd (kd := chr0 χ pm rd) (i := rd + 1) hX hn (by omega)
            rw [hma] at hw1
            have hw2 : (if (mnum χ pm 1 9999 (rd + 1)).1 = 1 then 1 else wr) = (mnum χ pm 1 9999 (rd + 1)).1 := by split <;> omega
            rw [hw2] at B
            exact z_return S hr hlk B () trivial rfl (by rw [hms]) (pc := 192) dX8_readStep_192
          · have hl : lv_has ls 3 [(2, .int (iI 0)), (1, .int (iI (chr0 χ pm rd))), (0, .ref a)] := hl
            rw [show Value.int (iI (chr0 χ pm rd)) = Value.int (iI 108) from by rw [hkd]]
            refine z_lsw S (pc := 54) (tgt := 140) (by omega) dX8_readStep_54 (by decide) rfl rfl ?_
            refine z_aload_n S (pc := 140) dX8_readStep_140 rfl (lv_at hl 2 rfl) ?_
            refine z_callV S (pc := 141) B (wr := [cInt E p6 120 ψ]) (wn := fun _ => [cMod a p1 p2 p3 p4 p5 p6 pm ig mo ((mlev χ pm (rd + 1)).2.2) (if (mlev χ pm (rd + 1)).1 = 1 then 1 else wr) sm, cInt E p5 60 χ, cInt E p6 120 ψ]) (st1 := fun _ => [.int (iI ((mlev χ pm (rd + 1)).2.1))]) (As := []) (mX8_takeLevel l E a p1 p2 p3 p4 p5 p6 (fun _ => 0) (fun _ => 0) pm ig mo (rd + 1) wr sm χ (show 0 ≤ pm ∧ pm ≤ 60 from by omega) (show 0 ≤ (rd + 1) ∧ (rd + 1) ≤ pm from by omega) (show inX χ from by assumption)) gX8_readStep_X8_takeLevel 0 rfl (by decide +kernel) ⟨Nat.le_of_ble_eq_true rfl, Nat.le_of_ble_eq_true rfl, Nat.le_of_ble_eq_true rfl, Nat.le_of_ble_eq_true rfl⟩ 0 rfl (q := (RX8, TX8, 12)) rfl rfl [0, 1] [2] [1, 2, 0] rfl rfl ⟨rfl, rfl, rfl, by decide⟩ (fun _ => rfl) rfl (fun _ => rfl) hl.1 (Nat.le_of_ble_eq_true rfl) rfl dX8_readStep_141 (fun _ _ H locs B => ?_)
            refine lv_istore_n (lv' := [(2, .int (iI ((mlev χ pm (rd + 1)).2.1))), (1, .int (iI (chr0 χ pm rd))), (0, .ref a)]) S.1 S.2.1 (pc := 144) dX8_readStep_144 rfl hl (by decide) rfl (fun ls hl => ?_)
            refine lv_goto S.1 S.2.1 (pc := 145) (tgt := 156) dX8_readStep_145 rfl ?_
            refine z_aload_n S (pc := 156) dX8_readStep_156 rfl (lv_at hl 2 rfl) ?_
            refine z_get S (pc := 157) B iX8_readStep_X8 0 rfl rfl 10 (by decide) rfl rfl (by decide +kernel) dX8_readStep_157 ?_
            refine z_iconst S (pc := 160) dX8_readStep_160 ?_
            refine z_aload_n S (pc := 161) dX8_readStep_161 rfl (lv_at hl 2 rfl) ?_
            refine z_get S (pc := 162) B iX8_readStep_X8 0 rfl rfl 11 (by decide) rfl rfl (by decide +kernel) dX8_readStep_162 ?_
            refine z_imul S (pc := 165) dX8_readStep_165 ?_
            refine z_iload_n S (pc := 166) dX8_readStep_166 rfl (lv_at hl 1 rfl) ?_
            refine z_iast S (pc := 167) B 2 1 rfl rfl (k := (2 * sm).toNat) (by omega) (by omega) (by decide) dX8_readStep_167 (wn := [cMod a p1 p2 p3 p4 p5 p6 pm ig mo ((mlev χ pm (rd + 1)).2.2) (if (mlev χ pm (rd + 1)).1 = 1 then 1 else wr) sm, cInt E p5 60 χ, cInt E p6 120 (up ψ (2 * sm).toNat (chr0 χ pm rd))]) (by rw [iat_up]; rfl) (fun H locs B => ?_)
            refine z_aload_n S (pc := 168) dX8_readStep_168 rfl (lv_at hl 2 rfl) ?_
            refine z_get S (pc := 169) B iX8_readStep_X8 0 rfl rfl 10 (by decide) rfl rfl (by decide +kernel) dX8_readStep_169 ?_
            refine z_iconst S (pc := 172) dX8_readStep_172 ?_
            refine z_aload_n S (pc := 173) dX8_readStep_173 rfl (lv_at hl 2 rfl) ?_
            refine z_get S (pc := 174) B iX8_readStep_X8 0 rfl rfl 11 (by decide) rfl rfl (by decide +kernel) dX8_readStep_174 ?_
            refine z_imul S (pc := 177) dX8_readStep_177 ?_
            refine z_iconst S (pc := 178) dX8_readStep_178 ?_
            refine z_iadd S (pc := 179) dX8_readStep_179 ?_
            refine z_iload_n S (pc := 180) dX8_readStep_180 rfl (lv_at hl 0 rfl) ?_
            refine z_iast S (pc := 181) B 2 1 rfl rfl (k := ((2 * sm) + 1).toNat) (by omega) (by omega) (by decide) dX8_readStep_181 (wn := [cMod a p1 p2 p3 p4 p5 p6 pm ig mo ((mlev χ pm (rd + 1)).2.2) (if (mlev χ pm (rd + 1)).1 = 1 then 1 else wr) sm, cInt E p5 60 χ, cInt E p6 120 (up (up ψ (2 * sm).toNat (chr0 χ pm rd)) ((2 * sm) + 1).toNat ((mlev χ pm (rd + 1)).2.1))]) (by rw [iat_up]; rfl) (fun H locs B => ?_)
            refine z_aload_n S (pc := 182) dX8_readStep_182 rfl (lv_at hl 2 rfl) ?_
            refine lv_dup S.1 S.2.1 (pc := 183) dX8_readStep_183 rfl ?_
            refine z_get S (pc := 184) B iX8_readStep_X8 0 rfl rfl 11 (by decide) rfl rfl (by decide +kernel) dX8_readStep_184 ?_
            refine z_iconst S (pc := 187) dX8_readStep_187 ?_
            refine z_iadd S (pc := 188) dX8_readStep_188 ?_
            refine z_put S (pc := 189) B iX8_readStep_X8 tyX8_ok nmX8 0 rfl rfl 11 (by decide) rfl (by decide +kernel) (ty := .int) (by decide +kernel) rfl rfl (Nat.le_of_ble_eq_true rfl) dX8_readStep_189 (wn := [cMod a p1 p2 p3 p4 p5 p6 pm ig mo ((mlev χ pm (rd + 1)).2.2) (if (mlev χ pm (rd + 1)).1 = 1 then 1 else wr) (sm + 1), cInt E p5 60 χ, cInt E p6 120 (up (up ψ (2 * sm).toNat (chr0 χ pm rd)) ((2 * sm) + 1).toNat ((mlev χ pm (rd + 1)).2.1))]) rfl (fun H locs B => ?_)
            have hma : marg χ pm (chr0 χ pm rd) (rd + 1) = (mlev χ pm (rd + 1)) := by unfold marg; rw [if_neg (by omega), if_neg (by omega), if_pos hkd]
            have hms : mstp χ pm rd sm ψ = ((mlev χ pm (rd + 1)).1, (mlev χ pm (rd + 1)).2.2, sm + 1, up (up ψ (2 * sm).toNat (chr0 χ pm rd)) (2 * sm + 1).toNat (mlev χ pm (rd + 1)).2.1) := by unfold mstp; rw [if_pos hK, hma]
            have hw1 := marg_bd (kd := chr0 χ pm rd) (i := rd + 1) hX hn (by omega)
            rw [hma] at hw1
            have hw2 : (if (mlev χ pm (rd + 1)).1 = 1 then 1 else wr) = (mlev χ pm (rd + 1)).1 := by split <;> omega
            rw [hw2] at B
            exact z_return S hr hlk B () trivial rfl (by rw [hms]) (pc := 192) dX8_readStep_192
          · have hl : lv_has ls 3 [(2, .int (iI 0)), (1, .int (iI (chr0 χ pm rd))), (0, .ref a)] := hl
            rw [show Value.int (iI (chr0 χ pm rd)) = Value.int (iI 103) from by rw [hkd]]
            refine z_lsw S (pc := 54) (tgt := 148) (by omega) dX8_readStep_54 (by decide) rfl rfl ?_
            refine z_aload_n S (pc := 148) dX8_readStep_148 rfl (lv_at hl 2 rfl) ?_
            refine z_callV S (pc := 149) B (wr := [cInt E p6 120 ψ]) (wn := fun _ => [cMod a p1 p2 p3 p4 p5 p6 pm ig mo ((mrng χ pm (rd + 1)).2.2) (if (mrng χ pm (rd + 1)).1 = 1 then 1 else wr) sm, cInt E p5 60 χ, cInt E p6 120 ψ]) (st1 := fun _ => [.int (iI ((mrng χ pm (rd + 1)).2.1))]) (As := []) (mX8_takeRange l E a p1 p2 p3 p4 p5 p6 (fun _ => 0) (fun _ => 0) pm ig mo (rd + 1) wr sm χ (show 0 ≤ pm ∧ pm ≤ 60 from by omega) (show 0 ≤ (rd + 1) ∧ (rd + 1) ≤ pm from by omega) (show inX χ from by assumption)) gX8_readStep_X8_takeRange 0 rfl (by decide +kernel) ⟨Nat.le_of_ble_eq_true rfl, Nat.le_of_ble_eq_true rfl, Nat.le_of_ble_eq_true rfl, Nat.le_of_ble_eq_true rfl⟩ 0 rfl (q := (RX8, TX8, 12)) rfl rfl [0, 1] [2] [1, 2, 0] rfl rfl ⟨rfl, rfl, rfl, by decide⟩ (fun _ => rfl) rfl (fun _ => rfl) hl.1 (Nat.le_of_ble_eq_true rfl) rfl dX8_readStep_149 (fun _ _ H locs B => ?_)
            refine lv_istore_n (lv' := [(2, .int (iI ((mrng χ pm (rd + 1)).2.1))), (1, .int (iI (chr0 χ pm rd))), (0, .ref a)]) S.1 S.2.1 (pc := 152) dX8_readStep_152 rfl hl (by decide) rfl (fun ls hl => ?_)
            refine lv_goto S.1 S.2.1 (pc := 153) (tgt := 156) dX8_readStep_153 rfl ?_
            refine z_aload_n S (pc := 156) dX8_readStep_156 rfl (lv_at hl 2 rfl) ?_
            refine z_get S (pc := 157) B iX8_readStep_X8 0 rfl rfl 10 (by decide) rfl rfl (by decide +kernel) dX8_readStep_157 ?_
            refine z_iconst S (pc := 160) dX8_readStep_160 ?_
            refine z_aload_n S (pc := 161) dX8_readStep_161 rfl (lv_at hl 2 rfl) ?_
            refine z_get S (pc := 162) B iX8_readStep_X8 0 rfl rfl 11 (by decide) rfl rfl (by decide +kernel) dX8_readStep_162 ?_
            refine z_imul S (pc := 165) dX8_readStep_165 ?_
            refine z_iload_n S (pc := 166) dX8_readStep_166 rfl (lv_at hl 1 rfl) ?_
            refine z_iast S (pc := 167) B 2 1 rfl rfl (k := (2 * sm).toNat) (by omega) (by omega) (by decide) dX8_readStep_167 (wn := [cMod a p1 p2 p3 p4 p5 p6 pm ig mo ((mrng χ pm (rd + 1)).2.2) (if (mrng χ pm (rd + 1)).1 = 1 then 1 else wr) sm, cInt E p5 60 χ, cInt E p6 120 (up ψ (2 * sm).toNat (chr0 χ pm rd))]) (by rw [iat_up]; rfl) (fun H locs B => ?_)
            refine z_aload_n S (pc := 168) dX8_readStep_168 rfl (lv_at hl 2 rfl) ?_
            refine z_get S (pc := 169) B iX8_readStep_X8 0 rfl rfl 10 (by decide) rfl rfl (by decide +kernel) dX8_readStep_169 ?_
            refine z_iconst S (pc := 172) dX8_readStep_172 ?_
            refine z_aload_n S (pc := 173) dX8_readStep_173 rfl (lv_at hl 2 rfl) ?_
            refine z_get S (pc := 174) B iX8_readStep_X8 0 rfl rfl 11 (by decide) rfl rfl (by decide +kernel) dX8_readStep_174 ?_
            refine z_imul S (pc := 177) dX8_readStep_177 ?_
            refine z_iconst S (pc := 178) dX8_readStep_178 ?_
            refine z_iadd S (pc := 179) dX8_readStep_179 ?_
            refine z_iload_n S (pc := 180) dX8_readStep_180 rfl (lv_at hl 0 rfl) ?_
            refine z_iast S (pc := 181) B 2 1 rfl rfl (k := ((2 * sm) + 1).toNat) (by omega) (by omega) (by decide) dX8_readStep_181 (wn := [cMod a p1 p2 p3 p4 p5 p6 pm ig mo ((mrng χ pm (rd + 1)).2.2) (if (mrng χ pm (rd + 1)).1 = 1 then 1 else wr) sm, cInt E p5 60 χ, cInt E p6 120 (up (up ψ (2 * sm).toNat (chr0 χ pm rd)) ((2 * sm) + 1).toNat ((mrng χ pm (rd + 1)).2.1))]) (by rw [iat_up]; rfl) (fun H locs B => ?_)
            refine z_aload_n S (pc := 182) dX8_readStep_182 rfl (lv_at hl 2 rfl) ?_
            refine lv_dup S.1 S.2.1 (pc := 183) dX8_readStep_183 rfl ?_
            refine z_get S (pc := 184) B iX8_readStep_X8 0 rfl rfl 11 (by decide) rfl rfl (by decide +kernel) dX8_readStep_184 ?_
            refine z_iconst S (pc := 187) dX8_readStep_187 ?_
            refine z_iadd S (pc := 188) dX8_readStep_188 ?_
            refine z_put S (pc := 189) B iX8_readStep_X8 tyX8_ok nmX8 0 rfl rfl 11 (by decide) rfl (by decide +kernel) (ty := .int) (by decide +kernel) rfl rfl (Nat.le_of_ble_eq_true rfl) dX8_readStep_189 (wn := [cMod a p1 p2 p3 p4 p5 p6 pm ig mo ((mrng χ pm (rd + 1)).2.2) (if (mrng χ pm (rd + 1)).1 = 1 then 1 else wr) (sm + 1), cInt E p5 60 χ, cInt E p6 120 (up (up ψ (2 * sm).toNat (chr0 χ pm rd)) ((2 * sm) + 1).toNat ((mrng χ pm (rd + 1)).2.1))]) rfl (fun H locs B => ?_)
            have hma : marg χ pm (chr0 χ pm rd) (rd + 1) = (mrng χ pm (rd + 1)) := by unfold marg; rw [if_neg (by omega), if_neg (by omega), if_neg (by omega), if_pos hkd]
            have hms : mstp χ pm rd sm ψ = ((mrng χ pm (rd + 1)).1, (mrng χ pm (rd + 1)).2.2, sm + 1, up (up ψ (2 * sm).toNat (chr0 χ pm rd)) (2 * sm + 1).toNat (mrng χ pm (rd + 1)).2.1) := by unfold mstp; rw [if_pos hK, hma]
            have hw1 := marg_bd (kd := chr0 χ pm rd) (i := rd + 1) hX hn (by omega)
            rw [hma] at hw1
            have hw2 : (if (mrng χ pm (rd + 1)).1 = 1 then 1 else wr) = (mrng χ pm (rd + 1)).1 := by split <;> omega
            rw [hw2] at B
            exact z_return S hr hlk B () trivial rfl (by rw [hms]) (pc := 192) dX8_readStep_192
        · refine z_iload_n S (pc := 29) dX8_readStep_29 rfl (lv_at hl 0 rfl) ?_
          refine z_bipush S (pc := 30) dX8_readStep_30 rfl ?_
          refine z_icmp_eq S (pc := 32) (tgt := 41) (by omega) (by omega) dX8_readStep_32 rfl (fun c9 => ?_) (fun c9 => ?_)
          · have hK : isK (chr0 χ pm rd) := by omega
            have hin := chr0_lt (χ := χ) (n := pm) (i := rd) (by omega)
            have hc2 := chr0_bd (i := rd + 1) hX hn.2
            refine z_aload_n S (pc := 41) dX8_readStep_41 rfl (lv_at hl 1 rfl) ?_
            refine lv_dup S.1 S.2.1 (pc := 42) dX8_readStep_42 rfl ?_
            refine z_get S (pc := 43) B iX8_readStep_X8 0 rfl rfl 8 (by decide) rfl rfl (by decide +kernel) dX8_readStep_43 ?_
            refine z_iconst S (pc := 46) dX8_readStep_46 ?_
            refine z_iadd S (pc := 47) dX8_readStep_47 ?_
            refine z_put S (pc := 48) B iX8_readStep_X8 tyX8_ok nmX8 0 rfl rfl 8 (by decide) rfl (by decide +kernel) (ty := .int) (by decide +kernel) rfl rfl (Nat.le_of_ble_eq_true rfl) dX8_readStep_48 (wn := [cMod a p1 p2 p3 p4 p5 p6 pm ig mo (rd + 1) wr sm, cInt E p5 60 χ, cInt E p6 120 ψ]) rfl (fun H locs B => ?_)
            refine z_iconst S (pc := 51) dX8_readStep_51 ?_
            refine lv_istore_n (lv' := [(2, .int (iI 0)), (1, .int (iI (chr0 χ pm rd))), (0, .ref a)]) S.1 S.2.1 (pc := 52) dX8_readStep_52 rfl hl (by decide) rfl (fun ls hl => ?_)
            refine z_iload_n S (pc := 53) dX8_readStep_53 rfl (lv_at hl 1 rfl) ?_
            rcases id hK with hkd | hkd | hkd | hkd | hkd
            · have hl : lv_has ls 3 [(2, .int (iI 0)), (1, .int (iI (chr0 χ pm rd))), (0, .ref a)] := hl
              rw [show Value.int (iI (chr0 χ pm rd)) = Value.int (iI 114) from by rw [hkd]]
              refine z_lsw S (pc := 54) (tgt := 96) (by omega) dX8_readStep_54 (by decide) rfl rfl ?_
              refine z_aload_n S (pc := 96) dX8_readStep_96 rfl (lv_at hl 2 rfl) ?_
              refine z_callV S (pc := 97) B (wr := [cInt E p6 120 ψ]) (wn := fun _ => [cMod a p1 p2 p3 p4 p5 p6 pm ig mo (rd + 1) wr sm, cInt E p5 60 χ, cInt E p6 120 ψ]) (st1 := fun _ => [.int (iI (chr0 χ pm (rd + 1)))]) (As := []) (mX8_nextSign l E a p1 p2 p3 p4 p5 p6 (fun _ => 0) (fun _ => 0) pm ig mo (rd + 1) wr sm χ (show 0 ≤ pm ∧ pm ≤ 60 from by omega) (show 0 ≤ (rd + 1) ∧ (rd + 1) ≤ pm from by omega) (show inX χ from by assumption)) gX8_readStep_X8_nextSign 0 rfl (by decide +kernel) ⟨Nat.le_of_ble_eq_true rfl, Nat.le_of_ble_eq_true rfl, Nat.le_of_ble_eq_true rfl, Nat.le_of_ble_eq_true rfl⟩ 0 rfl (q := (RX8, TX8, 12)) rfl rfl [0, 1] [2] [1, 2, 0] rfl rfl ⟨rfl, rfl, rfl, by decide⟩ (fun _ => rfl) rfl (fun _ => rfl) hl.1 (Nat.le_of_ble_eq_true rfl) rfl dX8_readStep_97 (fun _ _ H locs B => ?_)
              refine z_i2l S (pc := 100) (by omega) dX8_readStep_100 ?_
              refine z_ldc2 S (pc := 101) (x := 49) (by decide +kernel) rfl dX8_readStep_101 ?_
              refine z_ldc2 S (pc := 104) (x := 57) (by decide +kernel) rfl dX8_readStep_104 ?_
              refine z_callS S (pc := 107) B (wr := [cMod a p1 p2 p3 p4 p5 p6 pm ig mo (rd + 1) wr sm, cInt E p5 60 χ, cInt E p6 120 ψ]) (wn := fun _ => [cMod a p1 p2 p3 p4 p5 p6 pm ig mo (rd + 1) wr sm, cInt E p5 60 χ, cInt E p6 120 ψ]) (st1 := fun _ => [.int (iI (bI (49 ≤ chr0 χ pm (rd + 1) ∧ chr0 χ pm (rd + 1) ≤ 57)))]) (As := [.long (iL (chr0 χ pm (rd + 1))), .long (iL 49), .long (iL 57)]) (mX8_in l E (chr0 χ pm (rd + 1)) 49 57 (show inL (chr0 χ pm (rd + 1)) from by omega) (show inL 49 from by omega) (show inL 57 from by omega)) gX8_readStep_X8_in 3 rfl (by decide +kernel) ⟨Nat.le_of_ble_eq_true rfl, Nat.le_of_ble_eq_true rfl, Nat.le_of_ble_eq_true rfl, Nat.le_of_ble_eq_true rfl⟩ [] [0, 1, 2] [0, 1, 2] rfl rfl ⟨rfl, rfl, rfl, by decide⟩ (fun _ => rfl) rfl (fun _ => rfl) hl.1 (Nat.le_of_ble_eq_true rfl) rfl dX8_readStep_107 (fun _ _ H locs B => ?_)
              refine z_ifeq_b S (pc := 110) (tgt := 123) dX8_readStep_110 rfl (fun c10 => ?_) (fun c10 => ?_)
              · refine z_iconst S (pc := 123) dX8_readStep_123 ?_
                refine lv_istore_n (lv' := [(2, .int (iI 1)), (1, .int (iI (chr0 χ pm rd))), (0, .ref a)]) S.1 S.2.1 (pc := 124) dX8_readStep_124 rfl hl (by decide) rfl (fun ls hl => ?_)
                refine lv_goto S.1 S.2.1 (pc := 125) (tgt := 156) dX8_readStep_125 rfl ?_
                refine z_aload_n S (pc := 156) dX8_readStep_156 rfl (lv_at hl 2 rfl) ?_
                refine z_get S (pc := 157) B iX8_readStep_X8 0 rfl rfl 10 (by decide) rfl rfl (by decide +kernel) dX8_readStep_157 ?_
                refine z_iconst S (pc := 160) dX8_readStep_160 ?_
                refine z_aload_n S (pc := 161) dX8_readStep_161 rfl (lv_at hl 2 rfl) ?_
                refine z_get S (pc := 162) B iX8_readStep_X8 0 rfl rfl 11 (by decide) rfl rfl (by decide +kernel) dX8_readStep_162 ?_
                refine z_imul S (pc := 165) dX8_readStep_165 ?_
                refine z_iload_n S (pc := 166) dX8_readStep_166 rfl (lv_at hl 1 rfl) ?_
                refine z_iast S (pc := 167) B 2 1 rfl rfl (k := (2 * sm).toNat) (by omega) (by omega) (by decide) dX8_readStep_167 (wn := [cMod a p1 p2 p3 p4 p5 p6 pm ig mo (rd + 1) wr sm, cInt E p5 60 χ, cInt E p6 120 (up ψ (2 * sm).toNat (chr0 χ pm rd))]) (by rw [iat_up]; rfl) (fun H locs B => ?_)
                refine z_aload_n S (pc := 168) dX8_readStep_168 rfl (lv_at hl 2 rfl) ?_
                refine z_get S (pc := 169) B iX8_readStep_X8 0 rfl rfl 10 (by decide) rfl rfl (by decide +kernel) dX8_readStep_169 ?_
                refine z_iconst S (pc := 172) dX8_readStep_172 ?_
                refine z_aload_n S (pc := 173) dX8_readStep_173 rfl (lv_at hl 2 rfl) ?_
                refine z_get S (pc := 174) B iX8_readStep_X8 0 rfl rfl 11 (by decide) rfl rfl (by decide +kernel) dX8_readStep_174 ?_
                refine z_imul S (pc := 177) dX8_readStep_177 ?_
                refine z_iconst S (pc := 178) dX8_readStep_178 ?_
                refine z_iadd S (pc := 179) dX8_readStep_179 ?_
                refine z_iload_n S (pc := 180) dX8_readStep_180 rfl (lv_at hl 0 rfl) ?_
                refine z_iast S (pc := 181) B 2 1 rfl rfl (k := ((2 * sm) + 1).toNat) (by omega) (by omega) (by decide) dX8_readStep_181 (wn := [cMod a p1 p2 p3 p4 p5 p6 pm ig mo (rd + 1) wr sm, cInt E p5 60 χ, cInt E p6 120 (up (up ψ (2 * sm).toNat (chr0 χ pm rd)) ((2 * sm) + 1).toNat 1)]) (by rw [iat_up]; rfl) (fun H locs B => ?_)
                refine z_aload_n S (pc := 182) dX8_readStep_182 rfl (lv_at hl 2 rfl) ?_
                refine lv_dup S.1 S.2.1 (pc := 183) dX8_readStep_183 rfl ?_
                refine z_get S (pc := 184) B iX8_readStep_X8 0 rfl rfl 11 (by decide) rfl rfl (by decide +kernel) dX8_readStep_184 ?_
                refine z_iconst S (pc := 187) dX8_readStep_187 ?_
                refine z_iadd S (pc := 188) dX8_readStep_188 ?_
                refine z_put S (pc := 189) B iX8_readStep_X8 tyX8_ok nmX8 0 rfl rfl 11 (by decide) rfl (by decide +kernel) (ty := .int) (by decide +kernel) rfl rfl (Nat.le_of_ble_eq_true rfl) dX8_readStep_189 (wn := [cMod a p1 p2 p3 p4 p5 p6 pm ig mo (rd + 1) wr (sm + 1), cInt E p5 60 χ, cInt E p6 120 (up (up ψ (2 * sm).toNat (chr0 χ pm rd)) ((2 * sm) + 1).toNat 1)]) rfl (fun H locs B => ?_)
                have hma : marg χ pm (chr0 χ pm rd) (rd + 1) = (0, 1, rd + 1) := by unfold marg; rw [if_pos hkd, if_neg (by omega)]
                have hms : mstp χ pm rd sm ψ = ((0, 1, rd + 1).1, (0, 1, rd + 1).2.2, sm + 1, up (up ψ (2 * sm).toNat (chr0 χ pm rd)) (2 * sm + 1).toNat (0, 1, rd + 1).2.1) := by unfold mstp; rw [if_pos hK, hma]
                rw [hw0] at B
                exact z_return S hr hlk B () trivial rfl (by rw [hms]) (pc := 192) dX8_readStep_192
              · refine z_aload_n S (pc := 113) dX8_readStep_113 rfl (lv_at hl 2 rfl) ?_
                refine z_iconst S (pc := 114) dX8_readStep_114 ?_
                refine z_bipush S (pc := 115) dX8_readStep_115 rfl ?_
                refine z_callV S (pc := 117) B (wr := [cInt E p6 120 ψ]) (wn := fun _ => [cMod a p1 p2 p3 p4 p5 p6 pm ig mo ((mnum χ pm 1 99 (rd + 1)).2.2) (if (mnum χ pm 1 99 (rd + 1)).1 = 1 then 1 else wr) sm, cInt E p5 60 χ, cInt E p6 120 ψ]) (st1 := fun _ => [.int (iI ((mnum χ pm 1 99 (rd + 1)).2.1))]) (As := [.int (iI 1), .int (iI 99)]) (mX8_takeNumber l E a p1 p2 p3 p4 p5 p6 (fun _ => 0) (fun _ => 0) pm ig mo (rd + 1) wr sm χ 1 99 (show 0 ≤ pm ∧ pm ≤ 60 from by omega) (show 0 ≤ (rd + 1) ∧ (rd + 1) ≤ pm from by omega) (show inX χ from by assumption) (show 0 ≤ 1 ∧ 1 ≤ 1 from by omega) (show 9 ≤ 99 ∧ 99 ≤ 3000000 from by omega)) gX8_readStep_X8_takeNumber 2 rfl (by decide +kernel) ⟨Nat.le_of_ble_eq_true rfl, Nat.le_of_ble_eq_true rfl, Nat.le_of_ble_eq_true rfl, Nat.le_of_ble_eq_true rfl⟩ 0 rfl (q := (RX8, TX8, 12)) rfl rfl [0, 1] [2] [1, 2, 0] rfl rfl ⟨rfl, rfl, rfl, by decide⟩ (fun _ => rfl) rfl (fun _ => rfl) hl.1 (Nat.le_of_ble_eq_true rfl) rfl dX8_readStep_117 (fun _ _ H locs B => ?_)
                refine lv_goto S.1 S.2.1 (pc := 120) (tgt := 124) dX8_readStep_120 rfl ?_
                refine lv_istore_n (lv' := [(2, .int (iI ((mnum χ pm 1 99 (rd + 1)).2.1))), (1, .int (iI (chr0 χ pm rd))), (0, .ref a)]) S.1 S.2.1 (pc := 124) dX8_readStep_124 rfl hl (by decide) rfl (fun ls hl => ?_)
                refine lv_goto S.1 S.2.1 (pc := 125) (tgt := 156) dX8_readStep_125 rfl ?_
                refine z_aload_n S (pc := 156) dX8_readStep_156 rfl (lv_at hl 2 rfl) ?_
                refine z_get S (pc := 157) B iX8_readStep_X8 0 rfl rfl 10 (by decide) rfl rfl (by decide +kernel) dX8_readStep_157 ?_
                refine z_iconst S (pc := 160) dX8_readStep_160 ?_
                refine z_aload_n S (pc := 161) dX8_readStep_161 rfl (lv_at hl 2 rfl) ?_
                refine z_get S (pc := 162) B iX8_readStep_X8 0 rfl rfl 11 (by decide) rfl rfl (by decide +kernel) dX8_readStep_162 ?_
                refine z_imul S (pc := 165) dX8_readStep_165 ?_
                refine z_iload_n S (pc := 166) dX8_readStep_166 rfl (lv_at hl 1 rfl) ?_
                refine z_iast S (pc := 167) B 2 1 rfl rfl (k := (2 * sm).toNat) (by omega) (by omega) (by decide) dX8_readStep_167 (wn := [cMod a p1 p2 p3 p4 p5 p6 pm ig mo ((mnum χ pm 1 99 (rd + 1)).2.2) (if (mnum χ pm 1 99 (rd + 1)).1 = 1 then 1 else wr) sm, cInt E p5 60 χ, cInt E p6 120 (up ψ (2 * sm).toNat (chr0 χ pm rd))]) (by rw [iat_up]; rfl) (fun H locs B => ?_)
                refine z_aload_n S (pc := 168) dX8_readStep_168 rfl (lv_at hl 2 rfl) ?_
                refine z_get S (pc := 169) B iX8_readStep_X8 0 rfl rfl 10 (by decide) rfl rfl (by decide +kernel) dX8_readStep_169 ?_
                refine z_iconst S (pc := 172) dX8_readStep_172 ?_
                refine z_aload_n S (pc := 173) dX8_readStep_173 rfl (lv_at hl 2 rfl) ?_
                refine z_get S (pc := 174) B iX8_readStep_X8 0 rfl rfl 11 (by decide) rfl rfl (by decide +kernel) dX8_readStep_174 ?_
                refine z_imul S (pc := 177) dX8_readStep_177 ?_
                refine z_iconst S (pc := 178) dX8_readStep_178 ?_
                refine z_iadd S (pc := 179) dX8_readStep_179 ?_
                refine z_iload_n S (pc := 180) dX8_readStep_180 rfl (lv_at hl 0 rfl) ?_
                refine z_iast S (pc := 181) B 2 1 rfl rfl (k := ((2 * sm) + 1).toNat) (by omega) (by omega) (by decide) dX8_readStep_181 (wn := [cMod a p1 p2 p3 p4 p5 p6 pm ig mo ((mnum χ pm 1 99 (rd + 1)).2.2) (if (mnum χ pm 1 99 (rd + 1)).1 = 1 then 1 else wr) sm, cInt E p5 60 χ, cInt E p6 120 (up (up ψ (2 * sm).toNat (chr0 χ pm rd)) ((2 * sm) + 1).toNat ((mnum χ pm 1 99 (rd + 1)).2.1))]) (by rw [iat_up]; rfl) (fun H locs B => ?_)
                refine z_aload_n S (pc := 182) dX8_readStep_182 rfl (lv_at hl 2 rfl) ?_
                refine lv_dup S.1 S.2.1 (pc := 183) dX8_readStep_183 rfl ?_
                refine z_get S (pc := 184) B iX8_readStep_X8 0 rfl rfl 11 (by decide) rfl rfl (by decide +kernel) dX8_readStep_184 ?_
                refine z_iconst S (pc := 187) dX8_readStep_187 ?_
                refine z_iadd S (pc := 188) dX8_readStep_188 ?_
                refine z_put S (pc := 189) B iX8_readStep_X8 tyX8_ok nmX8 0 rfl rfl 11 (by decide) rfl (by decide +kernel) (ty := .int) (by decide +kernel) rfl rfl (Nat.le_of_ble_eq_true rfl) dX8_readStep_189 (wn := [cMod a p1 p2 p3 p4 p5 p6 pm ig mo ((mnum χ pm 1 99 (rd + 1)).2.2) (if (mnum χ pm 1 99 (rd + 1)).1 = 1 then 1 else wr) (sm + 1), cInt E p5 60 χ, cInt E p6 120 (up (up ψ (2 * sm).toNat (chr0 χ pm rd)) ((2 * sm) + 1).toNat ((mnum χ pm 1 99 (rd + 1)).2.1))]) rfl (fun H locs B => ?_)
                have hma : marg χ pm (chr0 χ pm rd) (rd + 1) = (mnum χ pm 1 99 (rd + 1)) := by unfold marg; rw [if_pos hkd, if_pos (by omega)]
                have hms : mstp χ pm rd sm ψ = ((mnum χ pm 1 99 (rd + 1)).1, (mnum χ pm 1 99 (rd + 1)).2.2, sm + 1, up (up ψ (2 * sm).toNat (chr0 χ pm rd)) (2 * sm + 1).toNat (mnum χ pm 1 99 (rd + 1)).2.1) := by unfold mstp; rw [if_pos hK, hma]
                have hw1 := marg_bd (kd := chr0 χ pm rd) (i := rd + 1) hX hn (by omega)
                rw [hma] at hw1
                have hw2 : (if (mnum χ pm 1 99 (rd + 1)).1 = 1 then 1 else wr) = (mnum χ pm 1 99 (rd + 1)).1 := by split <;> omega
                rw [hw2] at B
                exact z_return S hr hlk B () trivial rfl (by rw [hms]) (pc := 192) dX8_readStep_192
            · have hl : lv_has ls 3 [(2, .int (iI 0)), (1, .int (iI (chr0 χ pm rd))), (0, .ref a)] := hl
              rw [show Value.int (iI (chr0 χ pm rd)) = Value.int (iI 122) from by rw [hkd]]
              refine z_lsw S (pc := 54) (tgt := 156) (by omega) dX8_readStep_54 (by decide) rfl rfl ?_
              refine z_aload_n S (pc := 156) dX8_readStep_156 rfl (lv_at hl 2 rfl) ?_
              refine z_get S (pc := 157) B iX8_readStep_X8 0 rfl rfl 10 (by decide) rfl rfl (by decide +kernel) dX8_readStep_157 ?_
              refine z_iconst S (pc := 160) dX8_readStep_160 ?_
              refine z_aload_n S (pc := 161) dX8_readStep_161 rfl (lv_at hl 2 rfl) ?_
              refine z_get S (pc := 162) B iX8_readStep_X8 0 rfl rfl 11 (by decide) rfl rfl (by decide +kernel) dX8_readStep_162 ?_
              refine z_imul S (pc := 165) dX8_readStep_165 ?_
              refine z_iload_n S (pc := 166) dX8_readStep_166 rfl (lv_at hl 1 rfl) ?_
              refine z_iast S (pc := 167) B 2 1 rfl rfl (k := (2 * sm).toNat) (by omega) (by omega) (by decide) dX8_readStep_167 (wn := [cMod a p1 p2 p3 p4 p5 p6 pm ig mo (rd + 1) wr sm, cInt E p5 60 χ, cInt E p6 120 (up ψ (2 * sm).toNat (chr0 χ pm rd))]) (by rw [iat_up]; rfl) (fun H locs B => ?_)
              refine z_aload_n S (pc := 168) dX8_readStep_168 rfl (lv_at hl 2 rfl) ?_
              refine z_get S (pc := 169) B iX8_readStep_X8 0 rfl rfl 10 (by decide) rfl rfl (by decide +kernel) dX8_readStep_169 ?_
              refine z_iconst S (pc := 172) dX8_readStep_172 ?_
              refine z_aload_n S (pc := 173) dX8_readStep_173 rfl (lv_at hl 2 rfl) ?_
              refine z_get S (pc := 174) B iX8_readStep_X8 0 rfl rfl 11 (by decide) rfl rfl (by decide +kernel) dX8_readStep_174 ?_
              refine z_imul S (pc := 177) dX8_readStep_177 ?_
              refine z_iconst S (pc := 178) dX8_readStep_178 ?_
              refine z_iadd S (pc := 179) dX8_readStep_179 ?_
              refine z_iload_n S (pc := 180) dX8_readStep_180 rfl (lv_at hl 0 rfl) ?_
              refine z_iast S (pc := 181) B 2 1 rfl rfl (k := ((2 * sm) + 1).toNat) (by omega) (by omega) (by decide) dX8_readStep_181 (wn := [cMod a p1 p2 p3 p4 p5 p6 pm ig mo (rd + 1) wr sm, cInt E p5 60 χ, cInt E p6 120 (up (up ψ (2 * sm).toNat (chr0 χ pm rd)) ((2 * sm) + 1).toNat 0)]) (by rw [iat_up]; rfl) (fun H locs B => ?_)
              refine z_aload_n S (pc := 182) dX8_readStep_182 rfl (lv_at hl 2 rfl) ?_
              refine lv_dup S.1 S.2.1 (pc := 183) dX8_readStep_183 rfl ?_
              refine z_get S (pc := 184) B iX8_readStep_X8 0 rfl rfl 11 (by decide) rfl rfl (by decide +kernel) dX8_readStep_184 ?_
              refine z_iconst S (pc := 187) dX8_readStep_187 ?_
              refine z_iadd S (pc := 188) dX8_readStep_188 ?_
              refine z_put S (pc := 189) B iX8_readStep_X8 tyX8_ok nmX8 0 rfl rfl 11 (by decide) rfl (by decide +kernel) (ty := .int) (by decide +kernel) rfl rfl (Nat.le_of_ble_eq_true rfl) dX8_readStep_189 (wn := [cMod a p1 p2 p3 p4 p5 p6 pm ig mo (rd + 1) wr (sm + 1), cInt E p5 60 χ, cInt E p6 120 (up (up ψ (2 * sm).toNat (chr0 χ pm rd)) ((2 * sm) + 1).toNat 0)]) rfl (fun H locs B => ?_)
              have hma : marg χ pm (chr0 χ pm rd) (rd + 1) = (0, 0, rd + 1) := by unfold marg; rw [if_neg (by omega), if_neg (by omega), if_neg (by omega), if_neg (by omega)]
              have hms : mstp χ pm rd sm ψ = ((0, 0, rd + 1).1, (0, 0, rd + 1).2.2, sm + 1, up (up ψ (2 * sm).toNat (chr0 χ pm rd)) (2 * sm + 1).toNat (0, 0, rd + 1).2.1) := by unfold mstp; rw [if_pos hK, hma]
              rw [hw0] at B
              exact z_return S hr hlk B () trivial rfl (by rw [hms]) (pc := 192) dX8_readStep_192
            · have hl : lv_has ls 3 [(2, .int (iI 0)), (1, .int (iI (chr0 χ pm rd))), (0, .ref a)] := hl
              rw [show Value.int (iI (chr0 χ pm rd)) = Value.int (iI 119) from by rw [hkd]]
              refine z_lsw S (pc := 54) (tgt := 128) (by omega) dX8_readStep_54 (by decide) rfl rfl ?_
              refine z_aload_n S (pc := 128) dX8_readStep_128 rfl (lv_at hl 2 rfl) ?_
              refine z_iconst S (pc := 129) dX8_readStep_129 ?_
              refine z_sipush S (pc := 130) dX8_readStep_130 rfl ?_
              refine z_callV S (pc := 133) B (wr := [cInt E p6 120 ψ]) (wn := fun _ => [cMod a p1 p2 p3 p4 p5 p6 pm ig mo ((mnum χ pm 1 9999 (rd + 1)).2.2) (if (mnum χ pm 1 9999 (rd + 1)).1 = 1 then 1 else wr) sm, cInt E p5 60 χ, cInt E p6 120 ψ]) (st1 := fun _ => [.int (iI ((mnum χ pm 1 9999 (rd + 1)).2.1))]) (As := [.int (iI 1), .int (iI 9999)]) (mX8_takeNumber l E a p1 p2 p3 p4 p5 p6 (fun _ => 0) (fun _ => 0) pm ig mo (rd + 1) wr sm χ 1 9999 (show 0 ≤ pm ∧ pm ≤ 60 from by omega) (show 0 ≤ (rd + 1) ∧ (rd + 1) ≤ pm from by omega) (show inX χ from by assumption) (show 0 ≤ 1 ∧ 1 ≤ 1 from by omega) (show 9 ≤ 9999 ∧ 9999 ≤ 3000000 from by omega)) gX8_readStep_X8_takeNumber 2 rfl (by decide +kernel) ⟨Nat.le_of_ble_eq_true rfl, Nat.le_of_ble_eq_true rfl, Nat.le_of_ble_eq_true rfl, Nat.le_of_ble_eq_true rfl⟩ 0 rfl (q := (RX8, TX8, 12)) rfl rfl [0, 1] [2] [1, 2, 0] rfl rfl ⟨rfl, rfl, rfl, by decide⟩ (fun _ => rfl) rfl (fun _ => rfl) hl.1 (Nat.le_of_ble_eq_true rfl) rfl dX8_readStep_133 (fun _ _ H locs B => ?_)
              refine lv_istore_n (lv' := [(2, .int (iI ((mnum χ pm 1 9999 (rd + 1)).2.1))), (1, .int (iI (chr0 χ pm rd))), (0, .ref a)]) S.1 S.2.1 (pc := 136) dX8_readStep_136 rfl hl (by decide) rfl (fun ls hl => ?_)
              refine lv_goto S.1 S.2.1 (pc := 137) (tgt := 156) dX8_readStep_137 rfl ?_
              refine z_aload_n S (pc := 156) dX8_readStep_156 rfl (lv_at hl 2 rfl) ?_
              refine z_get S (pc := 157) B iX8_readStep_X8 0 rfl rfl 10 (by decide) rfl rfl (by decide +kernel) dX8_readStep_157 ?_
              refine z_iconst S (pc := 160) dX8_readStep_160 ?_
              refine z_aload_n S (pc := 161) dX8_readStep_161 rfl (lv_at hl 2 rfl) ?_
              refine z_get S (pc := 162) B iX8_readStep_X8 0 rfl rfl 11 (by decide) rfl rfl (by decide +kernel) dX8_readStep_162 ?_
              refine z_imul S (pc := 165) dX8_readStep_165 ?_
              refine z_iload_n S (pc := 166) dX8_readStep_166 rfl (lv_at hl 1 rfl) ?_
              refine z_iast S (pc := 167) B 2 1 rfl rfl (k := (2 * sm).toNat) (by omega) (by omega) (by decide) dX8_readStep_167 (wn := [cMod a p1 p2 p3 p4 p5 p6 pm ig mo ((mnum χ pm 1 9999 (rd + 1)).2.2) (if (mnum χ pm 1 9999 (rd + 1)).1 = 1 then 1 else wr) sm, cInt E p5 60 χ, cInt E p6 120 (up ψ (2 * sm).toNat (chr0 χ pm rd))]) (by rw [iat_up]; rfl) (fun H locs B => ?_)
              refine z_aload_n S (pc := 168) dX8_readStep_168 rfl (lv_at hl 2 rfl) ?_
              refine z_get S (pc := 169) B iX8_readStep_X8 0 rfl rfl 10 (by decide) rfl rfl (by decide +kernel) dX8_readStep_169 ?_
              refine z_iconst S (pc := 172) dX8_readStep_172 ?_
              refine z_aload_n S (pc := 173) dX8_readStep_173 rfl (lv_at hl 2 rfl) ?_
              refine z_get S (pc := 174) B iX8_readStep_X8 0 rfl rfl 11 (by decide) rfl rfl (by decide +kernel) dX8_readStep_174 ?_
              refine z_imul S (pc := 177) dX8_readStep_177 ?_
              refine z_iconst S (pc := 178) dX8_readStep_178 ?_
              refine z_iadd S (pc := 179) dX8_readStep_179 ?_
              refine z_iload_n S (pc := 180) dX8_readStep_180 rfl (lv_at hl 0 rfl) ?_
              refine z_iast S (pc := 181) B 2 1 rfl rfl (k := ((2 * sm) + 1).toNat) (by omega) (by omega) (by decide) dX8_readStep_181 (wn := [cMod a p1 p2 p3 p4 p5 p6 pm ig mo ((mnum χ pm 1 9999 (rd + 1)).2.2) (if (mnum χ pm 1 9999 (rd + 1)).1 = 1 then 1 else wr) sm, cInt E p5 60 χ, cInt E p6 120 (up (up ψ (2 * sm).toNat (chr0 χ pm rd)) ((2 * sm) + 1).toNat ((mnum χ pm 1 9999 (rd + 1)).2.1))]) (by rw [iat_up]; rfl) (fun H locs B => ?_)
              refine z_aload_n S (pc := 182) dX8_readStep_182 rfl (lv_at hl 2 rfl) ?_
              refine lv_dup S.1 S.2.1 (pc := 183) dX8_readStep_183 rfl ?_
              refine z_get S (pc := 184) B iX8_readStep_X8 0 rfl rfl 11 (by decide) rfl rfl (by decide +kernel) dX8_readStep_184 ?_
              refine z_iconst S (pc := 187) dX8_readStep_187 ?_
              refine z_iadd S (pc := 188) dX8_readStep_188 ?_
              refine z_put S (pc := 189) B iX8_readStep_X8 tyX8_ok nmX8 0 rfl rfl 11 (by decide) rfl (by decide +kernel) (ty := .int) (by decide +kernel) rfl rfl (Nat.le_of_ble_eq_true rfl) dX8_readStep_189 (wn := [cMod a p1 p2 p3 p4 p5 p6 pm ig mo ((mnum χ pm 1 9999 (rd + 1)).2.2) (if (mnum χ pm 1 9999 (rd + 1)).1 = 1 then 1 else wr) (sm + 1), cInt E p5 60 χ, cInt E p6 120 (up (up ψ (2 * sm).toNat (chr0 χ pm rd)) ((2 * sm) + 1).toNat ((mnum χ pm 1 9999 (rd + 1)).2.1))]) rfl (fun H locs B => ?_)
              have hma : marg χ pm (chr0 χ pm rd) (rd + 1) = (mnum χ pm 1 9999 (rd + 1)) := by unfold marg; rw [if_neg (by omega), if_pos hkd]
              have hms : mstp χ pm rd sm ψ = ((mnum χ pm 1 9999 (rd + 1)).1, (mnum χ pm 1 9999 (rd + 1)).2.2, sm + 1, up (up ψ (2 * sm).toNat (chr0 χ pm rd)) (2 * sm + 1).toNat (mnum χ pm 1 9999 (rd + 1)).2.1) := by unfold mstp; rw [if_pos hK, hma]
              have hw1 := marg_bd (kd := chr0 χ pm rd) (i := rd + 1) hX hn (by omega)
              rw [hma] at hw1
              have hw2 : (if (mnum χ pm 1 9999 (rd + 1)).1 = 1 then 1 else wr) = (mnum χ pm 1 9999 (rd + 1)).1 := by split <;> omega
              rw [hw2] at B
              exact z_return S hr hlk B () trivial rfl (by rw [hms]) (pc := 192) dX8_readStep_192
            · have hl : lv_has ls 3 [(2, .int (iI 0)), (1, .int (iI (chr0 χ pm rd))), (0, .ref a)] := hl
              rw [show Value.int (iI (chr0 χ pm rd)) = Value.int (iI 108) from by rw [hkd]]
              refine z_lsw S (pc := 54) (tgt := 140) (by omega) dX8_readStep_54 (by decide) rfl rfl ?_
              refine z_aload_n S (pc := 140) dX8_readStep_140 rfl (lv_at hl 2 rfl) ?_
              refine z_callV S (pc := 141) B (wr := [cInt E p6 120 ψ]) (wn := fun _ => [cMod a p1 p2 p3 p4 p5 p6 pm ig mo ((mlev χ pm (rd + 1)).2.2) (if (mlev χ pm (rd + 1)).1 = 1 then 1 else wr) sm, cInt E p5 60 χ, cInt E p6 120 ψ]) (st1 := fun _ => [.int (iI ((mlev χ pm (rd + 1)).2.1))]) (As := []) (mX8_takeLevel l E a p1 p2 p3 p4 p5 p6 (fun _ => 0) (fun _ => 0) pm ig mo (rd + 1) wr sm χ (show 0 ≤ pm ∧ pm ≤ 60 from by omega) (show 0 ≤ (rd + 1) ∧ (rd + 1) ≤ pm from by omega) (show inX χ from by assumption)) gX8_readStep_X8_takeLevel 0 rfl (by decide +kernel) ⟨Nat.le_of_ble_eq_true rfl, Nat.le_of_ble_eq_true rfl, Nat.le_of_ble_eq_true rfl, Nat.le_of_ble_eq_true rfl⟩ 0 rfl (q := (RX8, TX8, 12)) rfl rfl [0, 1] [2] [1, 2, 0] rfl rfl ⟨rfl, rfl, rfl, by decide⟩ (fun _ => rfl) rfl (fun _ => rfl) hl.1 (Nat.le_of_ble_eq_true rfl) rfl dX8_readStep_141 (fun _ _ H locs B => ?_)
              refine lv_istore_n (lv' := [(2, .int (iI ((mlev χ pm (rd + 1)).2.1))), (1, .int (iI (chr0 χ pm rd))), (0, .ref a)]) S.1 S.2.1 (pc := 144) dX8_readStep_144 rfl hl (by decide) rfl (fun ls hl => ?_)
              refine lv_goto S.1 S.2.1 (pc := 145) (tgt := 156) dX8_readStep_145 rfl ?_
              refine z_aload_n S (pc := 156) dX8_readStep_156 rfl (lv_at hl 2 rfl) ?_
              refine z_get S (pc := 157) B iX8_readStep_X8 0 rfl rfl 10 (by decide) rfl rfl (by decide +kernel) dX8_readStep_157 ?_
              refine z_iconst S (pc := 160) dX8_readStep_160 ?_
              refine z_aload_n S (pc := 161) dX8_readStep_161 rfl (lv_at hl 2 rfl) ?_
              refine z_get S (pc := 162) B iX8_readStep_X8 0 rfl rfl 11 (by decide) rfl rfl (by decide +kernel) dX8_readStep_162 ?_
              refine z_imul S (pc := 165) dX8_readStep_165 ?_
              refine z_iload_n S (pc := 166) dX8_readStep_166 rfl (lv_at hl 1 rfl) ?_
              refine z_iast S (pc := 167) B 2 1 rfl rfl (k := (2 * sm).toNat) (by omega) (by omega) (by decide) dX8_readStep_167 (wn := [cMod a p1 p2 p3 p4 p5 p6 pm ig mo ((mlev χ pm (rd + 1)).2.2) (if (mlev χ pm (rd + 1)).1 = 1 then 1 else wr) sm, cInt E p5 60 χ, cInt E p6 120 (up ψ (2 * sm).toNat (chr0 χ pm rd))]) (by rw [iat_up]; rfl) (fun H locs B => ?_)
              refine z_aload_n S (pc := 168) dX8_readStep_168 rfl (lv_at hl 2 rfl) ?_
              refine z_get S (pc := 169) B iX8_readStep_X8 0 rfl rfl 10 (by decide) rfl rfl (by decide +kernel) dX8_readStep_169 ?_
              refine z_iconst S (pc := 172) dX8_readStep_172 ?_
              refine z_aload_n S (pc := 173) dX8_readStep_173 rfl (lv_at hl 2 rfl) ?_
              refine z_get S (pc := 174) B iX8_readStep_X8 0 rfl rfl 11 (by decide) rfl rfl (by decide +kernel) dX8_readStep_174 ?_
              refine z_imul S (pc := 177) dX8_readStep_177 ?_
              refine z_iconst S (pc := 178) dX8_readStep_178 ?_
              refine z_iadd S (pc := 179) dX8_readStep_179 ?_
              refine z_iload_n S (pc := 180) dX8_readStep_180 rfl (lv_at hl 0 rfl) ?_
              refine z_iast S (pc := 181) B 2 1 rfl rfl (k := ((2 * sm) + 1).toNat) (by omega) (by omega) (by decide) dX8_readStep_181 (wn := [cMod a p1 p2 p3 p4 p5 p6 pm ig mo ((mlev χ pm (rd + 1)).2.2) (if (mlev χ pm (rd + 1)).1 = 1 then 1 else wr) sm, cInt E p5 60 χ, cInt E p6 120 (up (up ψ (2 * sm).toNat (chr0 χ pm rd)) ((2 * sm) + 1).toNat ((mlev χ pm (rd + 1)).2.1))]) (by rw [iat_up]; rfl) (fun H locs B => ?_)
              refine z_aload_n S (pc := 182) dX8_readStep_182 rfl (lv_at hl 2 rfl) ?_
              refine lv_dup S.1 S.2.1 (pc := 183) dX8_readStep_183 rfl ?_
              refine z_get S (pc := 184) B iX8_readStep_X8 0 rfl rfl 11 (by decide) rfl rfl (by decide +kernel) dX8_readStep_184 ?_
              refine z_iconst S (pc := 187) dX8_readStep_187 ?_
              refine z_iadd S (pc := 188) dX8_readStep_188 ?_
              refine z_put S (pc := 189) B iX8_readStep_X8 tyX8_ok nmX8 0 rfl rfl 11 (by decide) rfl (by decide +kernel) (ty := .int) (by decide +kernel) rfl rfl (Nat.le_of_ble_eq_true rfl) dX8_readStep_189 (wn := [cMod a p1 p2 p3 p4 p5 p6 pm ig mo ((mlev χ pm (rd + 1)).2.2) (if (mlev χ pm (rd + 1)).1 = 1 then 1 else wr) (sm + 1), cInt E p5 60 χ, cInt E p6 120 (up (up ψ (2 * sm).toNat (chr0 χ pm rd)) ((2 * sm) + 1).toNat ((mlev χ pm (rd + 1)).2.1))]) rfl (fun H locs B => ?_)
              have hma : marg χ pm (chr0 χ pm rd) (rd + 1) = (mlev χ pm (rd + 1)) := by unfold marg; rw [if_neg (by omega), if_neg (by omega), if_pos hkd]
              have hms : mstp χ pm rd sm ψ = ((mlev χ pm (rd + 1)).1, (mlev χ pm (rd + 1)).2.2, sm + 1, up (up ψ (2 * sm).toNat (chr0 χ pm rd)) (2 * sm + 1).toNat (mlev χ pm (rd + 1)).2.1) := by unfold mstp; rw [if_pos hK, hma]
              have hw1 := marg_bd (kd := chr0 χ pm rd) (i := rd + 1) hX hn (by omega)
              rw [hma] at hw1
              have hw2 : (if (mlev χ pm (rd + 1)).1 = 1 then 1 else wr) = (mlev χ pm (rd + 1)).1 := by split <;> omega
              rw [hw2] at B
              exact z_return S hr hlk B () trivial rfl (by rw [hms]) (pc := 192) dX8_readStep_192
            · have hl : lv_has ls 3 [(2, .int (iI 0)), (1, .int (iI (chr0 χ pm rd))), (0, .ref a)] := hl
              rw [show Value.int (iI (chr0 χ pm rd)) = Value.int (iI 103) from by rw [hkd]]
              refine z_lsw S (pc := 54) (tgt := 148) (by omega) dX8_readStep_54 (by decide) rfl rfl ?_
              refine z_aload_n S (pc := 148) dX8_readStep_148 rfl (lv_at hl 2 rfl) ?_
              refine z_callV S (pc := 149) B (wr := [cInt E p6 120 ψ]) (wn := fun _ => [cMod a p1 p2 p3 p4 p5 p6 pm ig mo ((mrng χ pm (rd + 1)).2.2) (if (mrng χ pm (rd + 1)).1 = 1 then 1 else wr) sm, cInt E p5 60 χ, cInt E p6 120 ψ]) (st1 := fun _ => [.int (iI ((mrng χ pm (rd + 1)).2.1))]) (As := []) (mX8_takeRange l E a p1 p2 p3 p4 p5 p6 (fun _ => 0) (fun _ => 0) pm ig mo (rd + 1) wr sm χ (show 0 ≤ pm ∧ pm ≤ 60 from by omega) (show 0 ≤ (rd + 1) ∧ (rd + 1) ≤ pm from by omega) (show inX χ from by assumption)) gX8_readStep_X8_takeRange 0 rfl (by decide +kernel) ⟨Nat.le_of_ble_eq_true rfl, Nat.le_of_ble_eq_true rfl, Nat.le_of_ble_eq_true rfl, Nat.le_of_ble_eq_true rfl⟩ 0 rfl (q := (RX8, TX8, 12)) rfl rfl [0, 1] [2] [1, 2, 0] rfl rfl ⟨rfl, rfl, rfl, by decide⟩ (fun _ => rfl) rfl (fun _ => rfl) hl.1 (Nat.le_of_ble_eq_true rfl) rfl dX8_readStep_149 (fun _ _ H locs B => ?_)
              refine lv_istore_n (lv' := [(2, .int (iI ((mrng χ pm (rd + 1)).2.1))), (1, .int (iI (chr0 χ pm rd))), (0, .ref a)]) S.1 S.2.1 (pc := 152) dX8_readStep_152 rfl hl (by decide) rfl (fun ls hl => ?_)
              refine lv_goto S.1 S.2.1 (pc := 153) (tgt := 156) dX8_readStep_153 rfl ?_
              refine z_aload_n S (pc := 156) dX8_readStep_156 rfl (lv_at hl 2 rfl) ?_
              refine z_get S (pc := 157) B iX8_readStep_X8 0 rfl rfl 10 (by decide) rfl rfl (by decide +kernel) dX8_readStep_157 ?_
              refine z_iconst S (pc := 160) dX8_readStep_160 ?_
              refine z_aload_n S (pc := 161) dX8_readStep_161 rfl (lv_at hl 2 rfl) ?_
              refine z_get S (pc := 162) B iX8_readStep_X8 0 rfl rfl 11 (by decide) rfl rfl (by decide +kernel) dX8_readStep_162 ?_
              refine z_imul S (pc := 165) dX8_readStep_165 ?_
              refine z_iload_n S (pc := 166) dX8_readStep_166 rfl (lv_at hl 1 rfl) ?_
              refine z_iast S (pc := 167) B 2 1 rfl rfl (k := (2 * sm).toNat) (by omega) (by omega) (by decide) dX8_readStep_167 (wn := [cMod a p1 p2 p3 p4 p5 p6 pm ig mo ((mrng χ pm (rd + 1)).2.2) (if (mrng χ pm (rd + 1)).1 = 1 then 1 else wr) sm, cInt E p5 60 χ, cInt E p6 120 (up ψ (2 * sm).toNat (chr0 χ pm rd))]) (by rw [iat_up]; rfl) (fun H locs B => ?_)
              refine z_aload_n S (pc := 168) dX8_readStep_168 rfl (lv_at hl 2 rfl) ?_
              refine z_get S (pc := 169) B iX8_readStep_X8 0 rfl rfl 10 (by decide) rfl rfl (by decide +kernel) dX8_readStep_169 ?_
              refine z_iconst S (pc := 172) dX8_readStep_172 ?_
              refine z_aload_n S (pc := 173) dX8_readStep_173 rfl (lv_at hl 2 rfl) ?_
              refine z_get S (pc := 174) B iX8_readStep_X8 0 rfl rfl 11 (by decide) rfl rfl (by decide +kernel) dX8_readStep_174 ?_
              refine z_imul S (pc := 177) dX8_readStep_177 ?_
              refine z_iconst S (pc := 178) dX8_readStep_178 ?_
              refine z_iadd S (pc := 179) dX8_readStep_179 ?_
              refine z_iload_n S (pc := 180) dX8_readStep_180 rfl (lv_at hl 0 rfl) ?_
              refine z_iast S (pc := 181) B 2 1 rfl rfl (k := ((2 * sm) + 1).toNat) (by omega) (by omega) (by decide) dX8_readStep_181 (wn := [cMod a p1 p2 p3 p4 p5 p6 pm ig mo ((mrng χ pm (rd + 1)).2.2) (if (mrng χ pm (rd + 1)).1 = 1 then 1 else wr) sm, cInt E p5 60 χ, cInt E p6 120 (up (up ψ (2 * sm).toNat (chr0 χ pm rd)) ((2 * sm) + 1).toNat ((mrng χ pm (rd + 1)).2.1))]) (by rw [iat_up]; rfl) (fun H locs B => ?_)
              refine z_aload_n S (pc := 182) dX8_readStep_182 rfl (lv_at hl 2 rfl) ?_
              refine lv_dup S.1 S.2.1 (pc := 183) dX8_readStep_183 rfl ?_
              refine z_get S (pc := 184) B iX8_readStep_X8 0 rfl rfl 11 (by decide) rfl rfl (by decide +kernel) dX8_readStep_184 ?_
              refine z_iconst S (pc := 187) dX8_readStep_187 ?_
              refine z_iadd S (pc := 188) dX8_readStep_188 ?_
              refine z_put S (pc := 189) B iX8_readStep_X8 tyX8_ok nmX8 0 rfl rfl 11 (by decide) rfl (by decide +kernel) (ty := .int) (by decide +kernel) rfl rfl (Nat.le_of_ble_eq_true rfl) dX8_readStep_189 (wn := [cMod a p1 p2 p3 p4 p5 p6 pm ig mo ((mrng χ pm (rd + 1)).2.2) (if (mrng χ pm (rd + 1)).1 = 1 then 1 else wr) (sm + 1), cInt E p5 60 χ, cInt E p6 120 (up (up ψ (2 * sm).toNat (chr0 χ pm rd)) ((2 * sm) + 1).toNat ((mrng χ pm (rd + 1)).2.1))]) rfl (fun H locs B => ?_)
              have hma : marg χ pm (chr0 χ pm rd) (rd + 1) = (mrng χ pm (rd + 1)) := by unfold marg; rw [if_neg (by omega), if_neg (by omega), if_neg (by omega), if_pos hkd]
              have hms : mstp χ pm rd sm ψ = ((mrng χ pm (rd + 1)).1, (mrng χ pm (rd + 1)).2.2, sm + 1, up (up ψ (2 * sm).toNat (chr0 χ pm rd)) (2 * sm + 1).toNat (mrng χ pm (rd + 1)).2.1) := by unfold mstp; rw [if_pos hK, hma]
              have hw1 := marg_bd (kd := chr0 χ pm rd) (i := rd + 1) hX hn (by omega)
              rw [hma] at hw1
              have hw2 : (if (mrng χ pm (rd + 1)).1 = 1 then 1 else wr) = (mrng χ pm (rd + 1)).1 := by split <;> omega
              rw [hw2] at B
              exact z_return S hr hlk B () trivial rfl (by rw [hms]) (pc := 192) dX8_readStep_192
          · refine z_aload_n S (pc := 35) dX8_readStep_35 rfl (lv_at hl 1 rfl) ?_
            refine z_iconst S (pc := 36) dX8_readStep_36 ?_
            refine z_put S (pc := 37) B iX8_readStep_X8 tyX8_ok nmX8 0 rfl rfl 9 (by decide) rfl (by decide +kernel) (ty := .boolean) (by decide +kernel) rfl rfl (Nat.le_of_ble_eq_true rfl) dX8_readStep_37 (wn := [cMod a p1 p2 p3 p4 p5 p6 pm ig mo rd 1 sm, cInt E p5 60 χ, cInt E p6 120 ψ]) rfl (fun H locs B => ?_)
            have hms : mstp χ pm rd sm ψ = (1, rd, sm, ψ) := by unfold mstp; rw [if_neg (by omega)]
            exact z_return S hr hlk B () trivial rfl (by rw [hms]) (pc := 40) dX8_readStep_40
theorem iX8_fault_X8 : ∀ w ∈ wsX80, w ∈ wsX8_fault := by decide +kernel
set_option maxHeartbeats 4000000 in
set_option maxRecDepth 100000 in
theorem lpX8_fault {p : Program} {l : Launch} {e : Env} {s : State} {m : MethodId} {args : Array Value} {below : List Frame} {meth : Method} {c : Code} {Q : State → Prop} {A : Nat → Prop} (E : gT) (S : CallFix p m c cX8_fault 1 s args wsX8_fault RX8) (a : Nat) (p1 : Nat) (p2 : Nat) (p3 : Nat) (p4 : Nat) (p5 : Nat) (p6 : Nat) (σ : Nat → Int) (ρ : Nat → Int) (pm : Int) (ig : Int) (mo : Int) (χ : Nat → Int) (hn : 0 ≤ pm ∧ pm ≤ 60) (hX : inX χ) :
    ∀ (n : Nat) (w0 : Int) (i : Int) (sm : Int) (ψ : Nat → Int) (hw : w0 = 0 ∨ w0 = 1) (hi : 0 ≤ i ∧ i ≤ pm) (hs : 0 ≤ sm ∧ 2 * sm ≤ i + 1) (hk : pm < i + (n : Int)) (res : Int × Int × Int × (Nat → Int)) (hres : mfl χ pm n w0 i sm ψ = res) (hx : ∀  (H : Heap) (locs : List Loc) (ls : Array Slot), bw E A s H locs [cMod a p1 p2 p3 p4 p5 p6 pm ig mo res.2.1 res.1 res.2.2.1, cInt E p5 60 χ, cInt E p6 120 res.2.2.2] → lv_has ls 1 [(0, .ref a)] → W p l e ({ frames := 4, cells := 0, slots := 0, locals := 92 } : Room) s m args below meth c H locs 0 0 Q (F0 m 52 ls [])) (H : Heap) (locs : List Loc) (ls : Array Slot) (B : bw E A s H locs [cMod a p1 p2 p3 p4 p5 p6 pm ig mo i w0 sm, cInt E p5 60 χ, cInt E p6 120 ψ]) (hl : lv_has ls 1 [(0, .ref a)]), W p l e ({ frames := 4, cells := 0, slots := 0, locals := 92 } : Room) s m args below meth c H locs 0 0 Q (F0 m 19 ls []) := by
  intro n
  induction n with
  | zero =>
    intro w0 i sm ψ hw hi hs hk res hres hx H locs ls B hl
    have hc := chr0_bd (i := i) hX hn.2
    have hc0 : chr0 χ pm i ≠ 0 → 0 ≤ i ∧ i < pm := chr0_lt
    refine z_aload_n S (pc := 19) dX8_fault_19 rfl (lv_at hl 0 rfl) ?_
    refine z_get S (pc := 20) B iX8_fault_X8 0 rfl rfl 9 (by decide) rfl rfl (by decide +kernel) dX8_fault_20 ?_
    refine z_if_ne S (pc := 23) (tgt := 52) (by omega) dX8_fault_23 rfl (fun c1 => ?_) (fun c1 => ?_)
    · exact absurd hk (by omega)
    · refine z_aload_n S (pc := 26) dX8_fault_26 rfl (lv_at hl 0 rfl) ?_
      refine z_callV S (pc := 27) B (wr := [cInt E p6 120 ψ]) (wn := fun _ => [cMod a p1 p2 p3 p4 p5 p6 pm ig mo i w0 sm, cInt E p5 60 χ, cInt E p6 120 ψ]) (st1 := fun _ => [.int (iI (chr0 χ pm i))]) (As := []) (mX8_nextSign l E a p1 p2 p3 p4 p5 p6 (fun _ => 0) (fun _ => 0) pm ig mo i w0 sm χ (show 0 ≤ pm ∧ pm ≤ 60 from by omega) (show 0 ≤ i ∧ i ≤ pm from by omega) (show inX χ from by assumption)) gX8_fault_X8_nextSign 0 rfl (by decide +kernel) ⟨Nat.le_of_ble_eq_true rfl, Nat.le_of_ble_eq_true rfl, Nat.le_of_ble_eq_true rfl, Nat.le_of_ble_eq_true rfl⟩ 0 rfl (q := (RX8, TX8, 12)) rfl rfl [0, 1] [2] [1, 2, 0] rfl rfl ⟨rfl, rfl, rfl, by decide⟩ (fun _ => rfl) rfl (fun _ => rfl) hl.1 (Nat.le_of_ble_eq_true rfl) rfl dX8_fault_27 (fun _ _ H locs B => ?_)
      refine z_bipush S (pc := 30) dX8_fault_30 rfl ?_
      refine z_icmp_ne S (pc := 32) (tgt := 52) (by omega) (by omega) dX8_fault_32 rfl (fun c2 => ?_) (fun c2 => ?_)
      · exact absurd hk (by omega)
      · refine z_aload_n S (pc := 35) dX8_fault_35 rfl (lv_at hl 0 rfl) ?_
        refine lv_dup S.1 S.2.1 (pc := 36) dX8_fault_36 rfl ?_
        refine z_get S (pc := 37) B iX8_fault_X8 0 rfl rfl 8 (by decide) rfl rfl (by decide +kernel) dX8_fault_37 ?_
        refine z_iconst S (pc := 40) dX8_fault_40 ?_
        refine z_iadd S (pc := 41) dX8_fault_41 ?_
        refine z_put S (pc := 42) B iX8_fault_X8 tyX8_ok nmX8 0 rfl rfl 8 (by decide) rfl (by decide +kernel) (ty := .int) (by decide +kernel) rfl rfl (Nat.le_of_ble_eq_true rfl) dX8_fault_42 (wn := [cMod a p1 p2 p3 p4 p5 p6 pm ig mo (i + 1) w0 sm, cInt E p5 60 χ, cInt E p6 120 ψ]) rfl (fun H locs B => ?_)
        have hi2 := hc0 (by omega)
        refine z_aload_n S (pc := 45) dX8_fault_45 rfl (lv_at hl 0 rfl) ?_
        refine z_callV S (pc := 46) B (wr := []) (wn := fun _ => [cMod a p1 p2 p3 p4 p5 p6 pm ig mo ((mstp χ pm (i + 1) sm ψ).2.1) ((mstp χ pm (i + 1) sm ψ).1) ((mstp χ pm (i + 1) sm ψ).2.2.1), cInt E p5 60 χ, cInt E p6 120 ((mstp χ pm (i + 1) sm ψ).2.2.2)]) (st1 := fun _ => []) (As := []) (mX8_readStep l E a p1 p2 p3 p4 p5 p6 (fun _ => 0) (fun _ => 0) pm ig mo (i + 1) w0 sm χ ψ (show 0 ≤ pm ∧ pm ≤ 60 from by omega) (show 0 ≤ (i + 1) ∧ (i + 1) ≤ pm from by omega) (show inX χ from by assumption) (show 0 ≤ sm ∧ 2 * sm ≤ (i + 1) from by omega) (show w0 = 0 from by omega)) gX8_fault_X8_readStep 0 rfl (by decide +kernel) ⟨Nat.le_of_ble_eq_true rfl, Nat.le_of_ble_eq_true rfl, Nat.le_of_ble_eq_true rfl, Nat.le_of_ble_eq_true rfl⟩ 0 rfl (q := (RX8, TX8, 12)) rfl rfl [0, 1, 2] [] [0, 1, 2] rfl rfl ⟨rfl, rfl, rfl, by decide⟩ (fun _ => rfl) rfl (fun _ => rfl) hl.1 (Nat.le_of_ble_eq_true rfl) rfl dX8_fault_46 (fun _ _ H locs B => ?_)
        refine lv_goto S.1 S.2.1 (pc := 49) (tgt := 19) dX8_fault_49 rfl ?_
        exact absurd hk (by omega)
  | succ n ih =>
    intro w0 i sm ψ hw hi hs hk res hres hx H locs ls B hl
    have hc := chr0_bd (i := i) hX hn.2
    have hc0 : chr0 χ pm i ≠ 0 → 0 ≤ i ∧ i < pm := chr0_lt
    refine z_aload_n S (pc := 19) dX8_fault_19 rfl (lv_at hl 0 rfl) ?_
    refine z_get S (pc := 20) B iX8_fault_X8 0 rfl rfl 9 (by decide) rfl rfl (by decide +kernel) dX8_fault_20 ?_
    refine z_if_ne S (pc := 23) (tgt := 52) (by omega) dX8_fault_23 rfl (fun c1 => ?_) (fun c1 => ?_)
    · have hres : (w0, i, sm, ψ) = res := by rw [← hres]; simp only [mfl]; rw [if_neg (fun z => by omega)]
      subst hres
      exact hx _ _ _ B (lv_sub hl [0] rfl)
    · refine z_aload_n S (pc := 26) dX8_fault_26 rfl (lv_at hl 0 rfl) ?_
      refine z_callV S (pc := 27) B (wr := [cInt E p6 120 ψ]) (wn := fun _ => [cMod a p1 p2 p3 p4 p5 p6 pm ig mo i w0 sm, cInt E p5 60 χ, cInt E p6 120 ψ]) (st1 := fun _ => [.int (iI (chr0 χ pm i))]) (As := []) (mX8_nextSign l E a p1 p2 p3 p4 p5 p6 (fun _ => 0) (fun _ => 0) pm ig mo i w0 sm χ (show 0 ≤ pm ∧ pm ≤ 60 from by omega) (show 0 ≤ i ∧ i ≤ pm from by omega) (show inX χ from by assumption)) gX8_fault_X8_nextSign 0 rfl (by decide +kernel) ⟨Nat.le_of_ble_eq_true rfl, Nat.le_of_ble_eq_true rfl, Nat.le_of_ble_eq_true rfl, Nat.le_of_ble_eq_true rfl⟩ 0 rfl (q := (RX8, TX8, 12)) rfl rfl [0, 1] [2] [1, 2, 0] rfl rfl ⟨rfl, rfl, rfl, by decide⟩ (fun _ => rfl) rfl (fun _ => rfl) hl.1 (Nat.le_of_ble_eq_true rfl) rfl dX8_fault_27 (fun _ _ H locs B => ?_)
      refine z_bipush S (pc := 30) dX8_fault_30 rfl ?_
      refine z_icmp_ne S (pc := 32) (tgt := 52) (by omega) (by omega) dX8_fault_32 rfl (fun c2 => ?_) (fun c2 => ?_)
      · have hres : (w0, i, sm, ψ) = res := by rw [← hres]; simp only [mfl]; rw [if_neg (fun z => by omega)]
        subst hres
        exact hx _ _ _ B (lv_sub hl [0] rfl)
      · refine z_aload_n S (pc := 35) dX8_fault_35 rfl (lv_at hl 0 rfl) ?_
        refine lv_dup S.1 S.2.1 (pc := 36) dX8_fault_36 rfl ?_
        refine z_get S (pc := 37) B iX8_fault_X8 0 rfl rfl 8 (by decide) rfl rfl (by decide +kernel) dX8_fault_37 ?_
        refine z_iconst S (pc := 40) dX8_fault_40 ?_
        refine z_iadd S (pc := 41) dX8_fault_41 ?_
        refine z_put S (pc := 42) B iX8_fault_X8 tyX8_ok nmX8 0 rfl rfl 8 (by decide) rfl (by decide +kernel) (ty := .int) (by decide +kernel) rfl rfl (Nat.le_of_ble_eq_true rfl) dX8_fault_42 (wn := [cMod a p1 p2 p3 p4 p5 p6 pm ig mo (i + 1) w0 sm, cInt E p5 60 χ, cInt E p6 120 ψ]) rfl (fun H locs B => ?_)
        have hi2 := hc0 (by omega)
        refine z_aload_n S (pc := 45) dX8_fault_45 rfl (lv_at hl 0 rfl) ?_
        refine z_callV S (pc := 46) B (wr := []) (wn := fun _ => [cMod a p1 p2 p3 p4 p5 p6 pm ig mo ((mstp χ pm (i + 1) sm ψ).2.1) ((mstp χ pm (i + 1) sm ψ).1) ((mstp χ pm (i + 1) sm ψ).2.2.1), cInt E p5 60 χ, cInt E p6 120 ((mstp χ pm (i + 1) sm ψ).2.2.2)]) (st1 := fun _ => []) (As := []) (mX8_readStep l E a p1 p2 p3 p4 p5 p6 (fun _ => 0) (fun _ => 0) pm ig mo (i + 1) w0 sm χ ψ (show 0 ≤ pm ∧ pm ≤ 60 from by omega) (show 0 ≤ (i + 1) ∧ (i + 1) ≤ pm from by omega) (show inX χ from by assumption) (show 0 ≤ sm ∧ 2 * sm ≤ (i + 1) from by omega) (show w0 = 0 from by omega)) gX8_fault_X8_readStep 0 rfl (by decide +kernel) ⟨Nat.le_of_ble_eq_true rfl, Nat.le_of_ble_eq_true rfl, Nat.le_of_ble_eq_true rfl, Nat.le_of_ble_eq_true rfl⟩ 0 rfl (q := (RX8, TX8, 12)) rfl rfl [0, 1, 2] [] [0, 1, 2] rfl rfl ⟨rfl, rfl, rfl, by decide⟩ (fun _ => rfl) rfl (fun _ => rfl) hl.1 (Nat.le_of_ble_eq_true rfl) rfl dX8_fault_46 (fun _ _ H locs B => ?_)
        refine lv_goto S.1 S.2.1 (pc := 49) (tgt := 19) dX8_fault_49 rfl ?_
        have hb := mstp_bd (ψ := ψ) (i := i + 1) (sm := sm) hX hn (by omega) (by omega)
        exact ih (mstp χ pm (i + 1) sm ψ).1 (mstp χ pm (i + 1) sm ψ).2.1 (mstp χ pm (i + 1) sm ψ).2.2.1 (mstp χ pm (i + 1) sm ψ).2.2.2 hb.1 (by omega) (by omega) (by omega) res (by rw [← hres]; simp only [mfl]; rw [if_pos ⟨by omega, by omega⟩]) hx _ _ _ B (lv_sub hl [0] rfl)
theorem mfl_bd {χ : Nat → Int} {n : Int} (hX : inX χ) (hn : 0 ≤ n ∧ n ≤ 60) : ∀ (k : Nat) (w i sm : Int) (ψ : Nat → Int), (w = 0 ∨ w = 1) → (0 ≤ i ∧ i ≤ n) → (0 ≤ sm ∧ 2 * sm ≤ i + 1) → ((mfl χ n k w i sm ψ).1 = 0 ∨ (mfl χ n k w i sm ψ).1 = 1) ∧ (0 ≤ (mfl χ n k w i sm ψ).2.1 ∧ (mfl χ n k w i sm ψ).2.1 ≤ n) ∧ 0 ≤ (mfl χ n k w i sm ψ).2.2.1 ∧ 2 * (mfl χ n k w i sm ψ).2.2.1 ≤ (mfl χ n k w i sm ψ).2.1 + 1 := by
  intro k
  induction k with
  | zero => intro w i sm ψ hw hi hs; exact ⟨hw, hi, hs⟩
  | succ k ih =>
    intro w i sm ψ hw hi hs
    simp only [mfl]
    split
    · rename_i h
      have hin := chr0_lt (χ := χ) (n := n) (i := i) (by omega)
      have b := mstp_bd (ψ := ψ) (i := i + 1) (sm := sm) hX hn (by omega) (by omega)
      exact ih _ _ _ _ b.1 ⟨by omega, b.2.1.2⟩ b.2.2
    · exact ⟨hw, hi, hs⟩
theorem mfa_bd {χ : Nat → Int} {n : Int} (ψ : Nat → Int) (hX : inX χ) (hn : 0 ≤ n ∧ n ≤ 60) : ((mfa χ n ψ).1 = 0 ∨ (mfa χ n ψ).1 = 1) ∧ (0 ≤ (mfa χ n ψ).2.1 ∧ (mfa χ n ψ).2.1 ≤ n) ∧ 0 ≤ (mfa χ n ψ).2.2.1 ∧ 2 * (mfa χ n ψ).2.2.1 ≤ (mfa χ n ψ).2.1 + 1 := by
  have b := mstp_bd (ψ := ψ) (i := 0) (sm := 0) hX hn (by omega) (by omega)
  exact mfl_bd hX hn 61 _ _ _ _ b.1 ⟨by omega, b.2.1.2⟩ b.2.2
set_option maxHeartbeats 4000000 in
set_option maxRecDepth 100000 in
theorem mX8_fault (l : Launch) (E : gT) (a : Nat) (p1 : Nat) (p2 : Nat) (p3 : Nat) (p4 : Nat) (p5 : Nat) (p6 : Nat) (σ : Nat → Int) (ρ : Nat → Int) (pm : Int) (ig : Int) (mo : Int) (rd : Int) (wr : Int) (sm : Int) (χ : Nat → Int) (ψ : Nat → Int) (hn : 0 ≤ pm ∧ pm ≤ 60) (hX : inX χ) : Cd l E yX8_fault wsX8_fault 4 92 0 0 [.ref a] [cMod a p1 p2 p3 p4 p5 p6 pm ig mo rd wr sm, cInt E p5 60 χ, cInt E p6 120 ψ] (some (.int (iI (mfr pm (mfa χ pm ψ))))) [cMod a p1 p2 p3 p4 p5 p6 pm ig mo ((mfa χ pm ψ).2.1) ((mfa χ pm ψ).1) ((mfa χ pm ψ).2.2.1), cInt E p5 60 χ, cInt E p6 120 ((mfa χ pm ψ).2.2.2)] := by
  refine Ct.mk (cc := cX8_fault) (maxL := 1) (ret := (some .int)) (plainFor_of_name (by decide)) rfl (Nat.le_of_ble_eq_true rfl) ?_
  intro p e s m below meth c A ls H locs S hr hlk hnm B hl
  have S : CallFix p m c cX8_fault 1 s #[.ref a] wsX8_fault RX8 := S
  have hl : lv_has ls 1 [(0, .ref a)] := hl
  refine z_aload_n S (pc := 0) dX8_fault_0 rfl (lv_at hl 0 rfl) ?_
  refine z_iconst S (pc := 1) dX8_fault_1 ?_
  refine z_put S (pc := 2) B iX8_fault_X8 tyX8_ok nmX8 0 rfl rfl 8 (by decide) rfl (by decide +kernel) (ty := .int) (by decide +kernel) rfl rfl (Nat.le_of_ble_eq_true rfl) dX8_fault_2 (wn := [cMod a p1 p2 p3 p4 p5 p6 pm ig mo 0 wr sm, cInt E p5 60 χ, cInt E p6 120 ψ]) rfl (fun H locs B => ?_)
  refine z_aload_n S (pc := 5) dX8_fault_5 rfl (lv_at hl 0 rfl) ?_
  refine z_iconst S (pc := 6) dX8_fault_6 ?_
  refine z_put S (pc := 7) B iX8_fault_X8 tyX8_ok nmX8 0 rfl rfl 9 (by decide) rfl (by decide +kernel) (ty := .boolean) (by decide +kernel) rfl rfl (Nat.le_of_ble_eq_true rfl) dX8_fault_7 (wn := [cMod a p1 p2 p3 p4 p5 p6 pm ig mo 0 0 sm, cInt E p5 60 χ, cInt E p6 120 ψ]) rfl (fun H locs B => ?_)
  refine z_aload_n S (pc := 10) dX8_fault_10 rfl (lv_at hl 0 rfl) ?_
  refine z_iconst S (pc := 11) dX8_fault_11 ?_
  refine z_put S (pc := 12) B iX8_fault_X8 tyX8_ok nmX8 0 rfl rfl 11 (by decide) rfl (by decide +kernel) (ty := .int) (by decide +kernel) rfl rfl (Nat.le_of_ble_eq_true rfl) dX8_fault_12 (wn := [cMod a p1 p2 p3 p4 p5 p6 pm ig mo 0 0 0, cInt E p5 60 χ, cInt E p6 120 ψ]) rfl (fun H locs B => ?_)
  refine z_aload_n S (pc := 15) dX8_fault_15 rfl (lv_at hl 0 rfl) ?_
  refine z_callV S (pc := 16) B (wr := []) (wn := fun _ => [cMod a p1 p2 p3 p4 p5 p6 pm ig mo ((mstp χ pm 0 0 ψ).2.1) ((mstp χ pm 0 0 ψ).1) ((mstp χ pm 0 0 ψ).2.2.1), cInt E p5 60 χ, cInt E p6 120 ((mstp χ pm 0 0 ψ).2.2.2)]) (st1 := fun _ => []) (As := []) (mX8_readStep l E a p1 p2 p3 p4 p5 p6 (fun _ => 0) (fun _ => 0) pm ig mo 0 0 0 χ ψ (show 0 ≤ pm ∧ pm ≤ 60 from by omega) (show 0 ≤ 0 ∧ 0 ≤ pm from by omega) (show inX χ from by assumption) (show 0 ≤ 0 ∧ 2 * 0 ≤ 0 from by omega) (show 0 = 0 from by omega)) gX8_fault_X8_readStep 0 rfl (by decide +kernel) ⟨Nat.le_of_ble_eq_true rfl, Nat.le_of_ble_eq_true rfl, Nat.le_of_ble_eq_true rfl, Nat.le_of_ble_eq_true rfl⟩ 0 rfl (q := (RX8, TX8, 12)) rfl rfl [0, 1, 2] [] [0, 1, 2] rfl rfl ⟨rfl, rfl, rfl, by decide⟩ (fun _ => rfl) rfl (fun _ => rfl) hl.1 (Nat.le_of_ble_eq_true rfl) rfl dX8_fault_16 (fun _ _ H locs B => ?_)
  have hb := mstp_bd (ψ := ψ) (i := 0) (sm := 0) hX hn (by omega) (by omega)
  have hfb := mfa_bd ψ hX hn
  obtain ⟨z, hz⟩ : ∃ z, mfa χ pm ψ = z := ⟨_, rfl⟩
  rw [hz] at hfb
  refine lpX8_fault E S a p1 p2 p3 p4 p5 p6 σ ρ pm ig mo χ hn hX 61 (mstp χ pm 0 0 ψ).1 (mstp χ pm 0 0 ψ).2.1 (mstp χ pm 0 0 ψ).2.2.1 (mstp χ pm 0 0 ψ).2.2.2 hb.1 (by omega) (by omega) (by omega) z hz (fun H locs ls B hl => ?_) _ _ _ B (lv_sub hl [0] rfl)
  refine z_aload_n S (pc := 52) dX8_fault_52 rfl (lv_at hl 0 rfl) ?_
  refine z_get S (pc := 53) B iX8_fault_X8 0 rfl rfl 9 (by decide) rfl rfl (by decide +kernel) dX8_fault_53 ?_
  refine z_if_ne S (pc := 56) (tgt := 70) (by omega) dX8_fault_56 rfl (fun c1 => ?_) (fun c1 => ?_)
  · refine z_aload_n S (pc := 70) dX8_fault_70 rfl (lv_at hl 0 rfl) ?_
    refine z_get S (pc := 71) B iX8_fault_X8 0 rfl rfl 8 (by decide) rfl rfl (by decide +kernel) dX8_fault_71 ?_
    refine lv_goto S.1 S.2.1 (pc := 74) (tgt := 79) dX8_fault_74 rfl ?_
    exact z_ireturn S hr hlk B () trivial (by rw [hz]; unfold mfr; rw [if_pos (by omega)]) (by rw [hz]) (pc := 79) dX8_fault_79
  · refine z_aload_n S (pc := 59) dX8_fault_59 rfl (lv_at hl 0 rfl) ?_
    refine z_get S (pc := 60) B iX8_fault_X8 0 rfl rfl 8 (by decide) rfl rfl (by decide +kernel) dX8_fault_60 ?_
    refine z_aload_n S (pc := 63) dX8_fault_63 rfl (lv_at hl 0 rfl) ?_
    refine z_get S (pc := 64) B iX8_fault_X8 0 rfl rfl 5 (by decide) rfl rfl (by decide +kernel) dX8_fault_64 ?_
    refine z_icmp_ge S (pc := 67) (tgt := 77) (by omega) (by omega) dX8_fault_67 rfl (fun c2 => ?_) (fun c2 => ?_)
    · refine z_bipush S (pc := 77) dX8_fault_77 rfl ?_
      exact z_ireturn S hr hlk B () trivial (by rw [hz]; unfold mfr; rw [if_neg (by omega)]) (by rw [hz]) (pc := 79) dX8_fault_79
    · refine z_aload_n S (pc := 70) dX8_fault_70 rfl (lv_at hl 0 rfl) ?_
      refine z_get S (pc := 71) B iX8_fault_X8 0 rfl rfl 8 (by decide) rfl rfl (by decide +kernel) dX8_fault_71 ?_
      refine lv_goto S.1 S.2.1 (pc := 74) (tgt := 79) dX8_fault_74 rfl ?_
      exact z_ireturn S hr hlk B () trivial (by rw [hz]; unfold mfr; rw [if_pos (by omega)]) (by rw [hz]) (pc := 79) dX8_fault_79
/-! END run 2 -/
