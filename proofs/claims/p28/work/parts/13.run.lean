set_option linter.unusedVariables false
/-! the pad's program -/
theorem i2c_nn {x : Int} (h : 0 ≤ x ∧ x ≤ 126) : ((iI x).toUInt32 % 65536).toInt32 = iI x := by
  have e : ∀ k : Fin 127, ((iI ((k : Nat) : Int)).toUInt32 % 65536).toInt32 = iI ((k : Nat) : Int) := by decide +kernel
  have q := e ⟨x.toNat, by omega⟩
  rw [show (((⟨x.toNat, by omega⟩ : Fin 127) : Nat) : Int) = x from by show ((x.toNat : Nat) : Int) = x; omega] at q
  exact q
def rdN : Nat → (Nat → Int) → (Nat → Int) → (Nat → Int) × (Nat → Int)
  | 0, σ, ρ => (σ, ρ)
  | m + 1, σ, ρ => rdN m (rdS σ) (rowS σ ρ)
def zrS (σ : Nat → Int) : Nat → Int := up (cvt σ 0) 12 (cnt σ 0)
def stp1 (kd nm : Int) (σ ρ : Nat → Int) : Int × (Nat → Int) × (Nat → Int) :=
  if kd = 114 then (1, rdN nm.toNat σ ρ) else if kd = 122 then (1, zrS σ, ρ) else if kd = 119 then (if σ 11 + nm ≤ 1000000000 then (1, up σ 11 (σ 11 + nm), ρ) else (0, σ, ρ)) else if kd = 108 then (1, up σ 0 nm, ρ) else if kd = 103 then (1, up σ 10 nm, ρ) else (1, σ, ρ)
def exeL (κ ν : Nat → Int) : Nat → Int → (Nat → Int) → (Nat → Int) → Int × (Nat → Int) × (Nat → Int)
  | 0, _, σ, ρ => (1, σ, ρ)
  | m + 1, k, σ, ρ => if (stp1 (κ k.toNat) (ν k.toNat) σ ρ).1 = 0 then stp1 (κ k.toNat) (ν k.toNat) σ ρ else exeL κ ν m (k + 1) (stp1 (κ k.toNat) (ν k.toNat) σ ρ).2.1 (stp1 (κ k.toNat) (ν k.toNat) σ ρ).2.2
abbrev okS (kd nm : Int) : Prop := isK kd ∧ (kd = 114 → 1 ≤ nm ∧ nm ≤ 99) ∧ (kd = 119 → 1 ≤ nm ∧ nm ≤ 9999) ∧ (kd = 108 → -3000000 ≤ nm ∧ nm ≤ 3000000) ∧ (kd = 103 → 0 ≤ nm ∧ nm ≤ 3)
abbrev okP (κ ν : Nat → Int) (m : Int) : Prop := ∀ z : Nat, (z : Int) < m → okS (κ z) (ν z)
theorem rdS_sets {σ : Nat → Int} (h : Sets σ) : Sets (rdS σ) := rdM_sets h
theorem rdS_nums {σ : Nat → Int} (h : Sets σ) (hn : Nums σ) (hr : σ 14 < 20000) : Nums (rdS σ) := by
  obtain ⟨a, b, c, d⟩ := rdM_nums h hn
  have c2 := hn.2.2.1
  exact ⟨a, b, show 0 ≤ σ 14 + 1 ∧ σ 14 + 1 ≤ 20000 from by omega, d⟩
theorem rdS_14 (σ : Nat → Int) : rdS σ 14 = σ 14 + 1 := rfl
theorem rdS_time {σ : Nat → Int} (h : Sets σ) : σ 11 ≤ rdS σ 11 ∧ rdS σ 11 ≤ σ 11 + 3232 := rdM_time h
theorem zrS_sets {σ : Nat → Int} (h : Sets σ) : Sets (zrS σ) := h
theorem zrS_nums {σ : Nat → Int} (h : Sets σ) (hn : Nums σ) : Nums (zrS σ) := by
  obtain ⟨a, b⟩ := cvt_nums 0 h hn
  have c := cnt_bd σ 0 h.2.2.2.2.2.1
  exact ⟨show -60000 ≤ cnt σ 0 ∧ cnt σ 0 ≤ 60000 from by omega, b⟩
theorem zrS_time {σ : Nat → Int} (h : Sets σ) : σ 11 ≤ zrS σ 11 ∧ zrS σ 11 ≤ σ 11 + 1616 := cvt_time 0 h
theorem rdN_inv : ∀ (n : Nat) (σ ρ : Nat → Int), Sets σ → Nums σ → σ 14 + n ≤ 20000 → Sets (rdN n σ ρ).1 ∧ Nums (rdN n σ ρ).1 ∧ (rdN n σ ρ).1 14 = σ 14 + n ∧ σ 11 ≤ (rdN n σ ρ).1 11 ∧ (rdN n σ ρ).1 11 ≤ σ 11 + 3232 * n := by
  intro n
  induction n with
  | zero => intro σ ρ h hn hr; exact ⟨h, hn, by show σ 14 = σ 14 + ((0 : Nat) : Int); omega, Int.le_refl _, by show σ 11 ≤ σ 11 + 3232 * ((0 : Nat) : Int); omega⟩
  | succ n ih =>
    intro σ ρ h hn hr
    have e := rdS_14 σ
    have t := rdS_time h
    obtain ⟨a1, a2, a3, a4, a5⟩ := ih (rdS σ) (rowS σ ρ) (rdS_sets h) (rdS_nums h hn (by omega)) (by omega)
    refine ⟨a1, a2, ?_, ?_, ?_⟩
    · show (rdN n (rdS σ) (rowS σ ρ)).1 14 = _; omega
    · show _ ≤ (rdN n (rdS σ) (rowS σ ρ)).1 11; omega
    · show (rdN n (rdS σ) (rowS σ ρ)).1 11 ≤ _; omega
theorem sumS_ge {κ ν : Nat → Int} {st : Int} (hok : okP κ ν st) : ∀ (n : Nat) (k x : Int), 0 ≤ k → k + n ≤ st → x ≤ sumS κ ν n k x ∧ sumS κ ν n k x ≤ x + 99 * n := by
  intro n
  induction n with
  | zero => intro k x hk h; simp only [sumS]; omega
  | succ n ih =>
    intro k x hk h
    have o := (hok k.toNat (by omega)).2.1
    simp only [sumS]
    split
    · rename_i hc
      have := ih (k + 1) (x + ν k.toNat) (by omega) (by omega)
      have := o hc
      omega
    · have := ih (k + 1) x (by omega) (by omega)
      omega
theorem sumS_add {κ ν : Nat → Int} : ∀ (n : Nat) (k x y : Int), sumS κ ν n k (x + y) = x + sumS κ ν n k y := by
  intro n
  induction n with
  | zero => intro k x y; rfl
  | succ n ih =>
    intro k x y
    simp only [sumS]
    split
    · rw [Int.add_assoc]; exact ih _ _ _
    · exact ih _ _ _
theorem iX7_say_X3 : ∀ w ∈ wsX30, w ∈ wsX7_say := by decide +kernel
theorem iX7_say_X7 : ∀ w ∈ wsX70, w ∈ wsX7_say := by decide +kernel
set_option maxHeartbeats 4000000 in
set_option maxRecDepth 100000 in
theorem mX7_say (l : Launch) (E : gT) (u : Nat) (o : Nat) (x1 : Nat) (x2 : Nat) (x3 : Nat) (x4 : Nat) (pa : Nat) (q1 : Nat) (q2 : Nat) (q3 : Nat) (pn : Int) (ps : Int) (pt : Int) (pm : Int) (χ : Nat → Int) (κ : Nat → Int) (ν : Nat → Int) (x : Int) (hpn : 0 ≤ pn ∧ pn < 60) (hv : 33 ≤ x ∧ x ≤ 126) : Cd l E yX7_say wsX7_say 1 22 0 0 [.ref u, .int (iI x)] [cSlo u o x1 x2 x3 x4 pa, cPad pa q1 q2 q3 pn ps pt pm, cChr E q1 χ] (some (.int (iI (pn + 1)))) [cSlo u o x1 x2 x3 x4 pa, cPad pa q1 q2 q3 (pn + 1) ps pt pm, cChr E q1 (up χ pn.toNat x)] := by
  refine Ct.mk (cc := cX7_say) (maxL := 2) (ret := (some .int)) (plainFor_of_name (by decide)) rfl (Nat.le_of_ble_eq_true rfl) ?_
  intro p e s m below meth c A ls H locs S hr hlk hnm B hl
  have S : CallFix p m c cX7_say 2 s #[.ref u, .int (iI x)] wsX7_say RX7 := S
  have hl : lv_has ls 2 [(0, .ref u), (1, .int (iI x))] := hl
  refine z_iload_n S (pc := 0) dX7_say_0 rfl (lv_at hl 1 rfl) ?_
  refine z_bipush S (pc := 1) dX7_say_1 rfl ?_
  refine z_bipush S (pc := 3) dX7_say_3 rfl ?_
  refine z_callS S (pc := 5) B (wr := [cSlo u o x1 x2 x3 x4 pa, cPad pa q1 q2 q3 pn ps pt pm, cChr E q1 χ]) (wn := fun _ => [cSlo u o x1 x2 x3 x4 pa, cPad pa q1 q2 q3 pn ps pt pm, cChr E q1 χ]) (st1 := fun _ => [.int (iI (bI (x < 33 ∨ 126 < x)))]) (As := [.int (iI x), .int (iI 33), .int (iI 126)]) (mX7_isOutside l E x 33 126 (show inI x ∧ inI 33 ∧ inI 126 from by omega)) gX7_say_X7_isOutside 3 rfl (by decide +kernel) ⟨Nat.le_of_ble_eq_true rfl, Nat.le_of_ble_eq_true rfl, Nat.le_of_ble_eq_true rfl, Nat.le_of_ble_eq_true rfl⟩ [] [0, 1, 2] [0, 1, 2] rfl rfl ⟨rfl, rfl, rfl, by decide⟩ (fun _ => rfl) rfl (fun _ => rfl) hl.1 (Nat.le_of_ble_eq_true rfl) rfl dX7_say_5 (fun _ _ H locs B => ?_)
  refine z_ifeq_b S (pc := 8) (tgt := 14) dX7_say_8 rfl (fun c1 => ?_) (fun c1 => absurd c1 (by omega))
  refine z_aload_n S (pc := 14) dX7_say_14 rfl (lv_at hl 0 rfl) ?_
  refine z_get S (pc := 15) B iX7_say_X7 0 rfl rfl 5 (by decide) rfl rfl (by decide +kernel) dX7_say_15 ?_
  refine z_iload_n S (pc := 18) dX7_say_18 rfl (lv_at hl 1 rfl) ?_
  refine lv_i2c S.1 S.2.1 (pc := 19) (v := iI x) dX7_say_19 (i2c_nn (by omega)) ?_
  refine z_callV S (pc := 20) B (wr := [cSlo u o x1 x2 x3 x4 pa]) (wn := fun _ => [cSlo u o x1 x2 x3 x4 pa, cPad pa q1 q2 q3 (pn + 1) ps pt pm, cChr E q1 (up χ pn.toNat x)]) (st1 := fun _ => [.int (iI 1)]) (As := [.int (iI x)]) (mX3_append l E pa q1 q2 q3 pn ps pt pm χ (fun _ => 0) (fun _ => 0) x (show 0 ≤ pn ∧ pn < 60 from by omega) (show 0 ≤ x ∧ x ≤ 126 from by omega)) gX7_say_X3_append 1 rfl (by decide +kernel) ⟨Nat.le_of_ble_eq_true rfl, Nat.le_of_ble_eq_true rfl, Nat.le_of_ble_eq_true rfl, Nat.le_of_ble_eq_true rfl⟩ 0 rfl (q := (RX3, TX3, 7)) rfl rfl [1, 2] [0] [0, 1, 2] rfl rfl ⟨rfl, rfl, rfl, by decide⟩ (fun _ => rfl) rfl (fun _ => rfl) hl.1 (Nat.le_of_ble_eq_true rfl) rfl dX7_say_20 (fun _ _ H locs B => ?_)
  refine z_if_eq S (pc := 23) (tgt := 36) (by omega) dX7_say_23 rfl (fun c2 => absurd c2 (by omega)) (fun c2 => ?_)
  refine z_aload_n S (pc := 26) dX7_say_26 rfl (lv_at hl 0 rfl) ?_
  refine z_get S (pc := 27) B iX7_say_X7 0 rfl rfl 5 (by decide) rfl rfl (by decide +kernel) dX7_say_27 ?_
  refine z_get S (pc := 30) B iX7_say_X3 1 rfl rfl 1 (by decide) rfl rfl (by decide +kernel) dX7_say_30 ?_
  refine lv_goto S.1 S.2.1 (pc := 33) (tgt := 38) dX7_say_33 rfl ?_
  exact z_ireturn S hr hlk B () trivial rfl rfl (pc := 38) dX7_say_38
set_option maxHeartbeats 4000000 in
set_option maxRecDepth 100000 in
theorem mX7_say_m (l : Launch) (E : gT) (u : Nat) (o : Nat) (x1 : Nat) (x2 : Nat) (x3 : Nat) (x4 : Nat) (pa : Nat) (q1 : Nat) (q2 : Nat) (q3 : Nat) (pn : Int) (ps : Int) (pt : Int) (pm : Int) (χ : Nat → Int) (κ : Nat → Int) (ν : Nat → Int) (x : Int) (hpn : pn = 60) (hv : 33 ≤ x ∧ x ≤ 126) : Cd l E yX7_say wsX7_say 1 22 0 0 [.ref u, .int (iI x)] [cSlo u o x1 x2 x3 x4 pa, cPad pa q1 q2 q3 pn ps pt pm, cChr E q1 χ] (some (.int (iI (-4)))) [cSlo u o x1 x2 x3 x4 pa, cPad pa q1 q2 q3 pn ps pt pm, cChr E q1 χ] := by
  refine Ct.mk (cc := cX7_say) (maxL := 2) (ret := (some .int)) (plainFor_of_name (by decide)) rfl (Nat.le_of_ble_eq_true rfl) ?_
  intro p e s m below meth c A ls H locs S hr hlk hnm B hl
  have S : CallFix p m c cX7_say 2 s #[.ref u, .int (iI x)] wsX7_say RX7 := S
  have hl : lv_has ls 2 [(0, .ref u), (1, .int (iI x))] := hl
  refine z_iload_n S (pc := 0) dX7_say_0 rfl (lv_at hl 1 rfl) ?_
  refine z_bipush S (pc := 1) dX7_say_1 rfl ?_
  refine z_bipush S (pc := 3) dX7_say_3 rfl ?_
  refine z_callS S (pc := 5) B (wr := [cSlo u o x1 x2 x3 x4 pa, cPad pa q1 q2 q3 pn ps pt pm, cChr E q1 χ]) (wn := fun _ => [cSlo u o x1 x2 x3 x4 pa, cPad pa q1 q2 q3 pn ps pt pm, cChr E q1 χ]) (st1 := fun _ => [.int (iI (bI (x < 33 ∨ 126 < x)))]) (As := [.int (iI x), .int (iI 33), .int (iI 126)]) (mX7_isOutside l E x 33 126 (show inI x ∧ inI 33 ∧ inI 126 from by omega)) gX7_say_X7_isOutside 3 rfl (by decide +kernel) ⟨Nat.le_of_ble_eq_true rfl, Nat.le_of_ble_eq_true rfl, Nat.le_of_ble_eq_true rfl, Nat.le_of_ble_eq_true rfl⟩ [] [0, 1, 2] [0, 1, 2] rfl rfl ⟨rfl, rfl, rfl, by decide⟩ (fun _ => rfl) rfl (fun _ => rfl) hl.1 (Nat.le_of_ble_eq_true rfl) rfl dX7_say_5 (fun _ _ H locs B => ?_)
  refine z_ifeq_b S (pc := 8) (tgt := 14) dX7_say_8 rfl (fun c1 => ?_) (fun c1 => absurd c1 (by omega))
  refine z_aload_n S (pc := 14) dX7_say_14 rfl (lv_at hl 0 rfl) ?_
  refine z_get S (pc := 15) B iX7_say_X7 0 rfl rfl 5 (by decide) rfl rfl (by decide +kernel) dX7_say_15 ?_
  refine z_iload_n S (pc := 18) dX7_say_18 rfl (lv_at hl 1 rfl) ?_
  refine lv_i2c S.1 S.2.1 (pc := 19) (v := iI x) dX7_say_19 (i2c_nn (by omega)) ?_
  refine z_callV S (pc := 20) B (wr := [cSlo u o x1 x2 x3 x4 pa]) (wn := fun _ => [cSlo u o x1 x2 x3 x4 pa, cPad pa q1 q2 q3 pn ps pt pm, cChr E q1 χ]) (st1 := fun _ => [.int (iI 0)]) (As := [.int (iI x)]) (mX3_append_m l E pa q1 q2 q3 pn ps pt pm χ (fun _ => 0) (fun _ => 0) x (show pn = 60 from by omega) (show 0 ≤ x ∧ x ≤ 126 from by omega)) gX7_say_X3_append 1 rfl (by decide +kernel) ⟨Nat.le_of_ble_eq_true rfl, Nat.le_of_ble_eq_true rfl, Nat.le_of_ble_eq_true rfl, Nat.le_of_ble_eq_true rfl⟩ 0 rfl (q := (RX3, TX3, 7)) rfl rfl [1, 2] [0] [0, 1, 2] rfl rfl ⟨rfl, rfl, rfl, by decide⟩ (fun _ => rfl) rfl (fun _ => rfl) hl.1 (Nat.le_of_ble_eq_true rfl) rfl dX7_say_20 (fun _ _ H locs B => ?_)
  refine z_if_eq S (pc := 23) (tgt := 36) (by omega) dX7_say_23 rfl (fun c2 => ?_) (fun c2 => absurd c2 (by omega))
  refine z_bipush S (pc := 36) dX7_say_36 rfl ?_
  exact z_ireturn S hr hlk B () trivial rfl rfl (pc := 38) dX7_say_38
set_option maxHeartbeats 4000000 in
set_option maxRecDepth 100000 in
theorem mX7_say_b (l : Launch) (E : gT) (u : Nat) (o : Nat) (x1 : Nat) (x2 : Nat) (x3 : Nat) (x4 : Nat) (x5 : Nat) (x : Int) (hI : inI x) (hbad : (x < 33 ∨ 126 < x)) : Cd l E yX7_say wsX7_say 1 22 0 0 [.ref u, .int (iI x)] [cSlo u o x1 x2 x3 x4 x5] (some (.int (iI (-2)))) [cSlo u o x1 x2 x3 x4 x5] := by
  refine Ct.mk (cc := cX7_say) (maxL := 2) (ret := (some .int)) (plainFor_of_name (by decide)) rfl (Nat.le_of_ble_eq_true rfl) ?_
  intro p e s m below meth c A ls H locs S hr hlk hnm B hl
  have S : CallFix p m c cX7_say 2 s #[.ref u, .int (iI x)] wsX7_say RX7 := S
  have hl : lv_has ls 2 [(0, .ref u), (1, .int (iI x))] := hl
  refine z_iload_n S (pc := 0) dX7_say_0 rfl (lv_at hl 1 rfl) ?_
  refine z_bipush S (pc := 1) dX7_say_1 rfl ?_
  refine z_bipush S (pc := 3) dX7_say_3 rfl ?_
  refine z_callS S (pc := 5) B (wr := [cSlo u o x1 x2 x3 x4 x5]) (wn := fun _ => [cSlo u o x1 x2 x3 x4 x5]) (st1 := fun _ => [.int (iI (bI (x < 33 ∨ 126 < x)))]) (As := [.int (iI x), .int (iI 33), .int (iI 126)]) (mX7_isOutside l E x 33 126 (show inI x ∧ inI 33 ∧ inI 126 from by omega)) gX7_say_X7_isOutside 3 rfl (by decide +kernel) ⟨Nat.le_of_ble_eq_true rfl, Nat.le_of_ble_eq_true rfl, Nat.le_of_ble_eq_true rfl, Nat.le_of_ble_eq_true rfl⟩ [] [0] [0] rfl rfl ⟨rfl, rfl, rfl, by decide⟩ (fun _ => rfl) rfl (fun _ => rfl) hl.1 (Nat.le_of_ble_eq_true rfl) rfl dX7_say_5 (fun _ _ H locs B => ?_)
  refine z_ifeq_b S (pc := 8) (tgt := 14) dX7_say_8 rfl (fun c1 => ?_) (fun c1 => ?_)
  · exact absurd hbad (by omega)
  · refine z_bipush S (pc := 11) dX7_say_11 rfl ?_
    exact z_ireturn S hr hlk B () trivial rfl rfl (pc := 13) dX7_say_13
theorem iX7_wipe_X3 : ∀ w ∈ wsX30, w ∈ wsX7_wipe := by decide +kernel
theorem iX7_wipe_X7 : ∀ w ∈ wsX70, w ∈ wsX7_wipe := by decide +kernel
set_option maxHeartbeats 4000000 in
set_option maxRecDepth 100000 in
theorem mX7_wipe (l : Launch) (E : gT) (u : Nat) (o : Nat) (x1 : Nat) (x2 : Nat) (x3 : Nat) (x4 : Nat) (pa : Nat) (q1 : Nat) (q2 : Nat) (q3 : Nat) (pn : Int) (ps : Int) (pt : Int) (pm : Int) (χ : Nat → Int) (κ : Nat → Int) (ν : Nat → Int)  : Cd l E yX7_wipe wsX7_wipe 0 0 0 0 [.ref u] [cSlo u o x1 x2 x3 x4 pa, cPad pa q1 q2 q3 pn ps pt pm] (some (.int (iI pn))) [cSlo u o x1 x2 x3 x4 pa, cPad pa q1 q2 q3 0 ps pt pm] := by
  refine Ct.mk (cc := cX7_wipe) (maxL := 2) (ret := (some .int)) (plainFor_of_name (by decide)) rfl (Nat.le_of_ble_eq_true rfl) ?_
  intro p e s m below meth c A ls H locs S hr hlk hnm B hl
  have S : CallFix p m c cX7_wipe 2 s #[.ref u] wsX7_wipe RX7 := S
  have hl : lv_has ls 2 [(0, .ref u)] := hl
  refine z_aload_n S (pc := 0) dX7_wipe_0 rfl (lv_at hl 0 rfl) ?_
  refine z_get S (pc := 1) B iX7_wipe_X7 0 rfl rfl 5 (by decide) rfl rfl (by decide +kernel) dX7_wipe_1 ?_
  refine z_get S (pc := 4) B iX7_wipe_X3 1 rfl rfl 1 (by decide) rfl rfl (by decide +kernel) dX7_wipe_4 ?_
  refine lv_istore_n (lv' := [(1, .int (iI pn)), (0, .ref u)]) S.1 S.2.1 (pc := 7) dX7_wipe_7 rfl hl (by decide) rfl (fun ls hl => ?_)
  refine z_aload_n S (pc := 8) dX7_wipe_8 rfl (lv_at hl 1 rfl) ?_
  refine z_get S (pc := 9) B iX7_wipe_X7 0 rfl rfl 5 (by decide) rfl rfl (by decide +kernel) dX7_wipe_9 ?_
  refine z_iconst S (pc := 12) dX7_wipe_12 ?_
  refine z_put S (pc := 13) B iX7_wipe_X3 tyX3_ok nmX3 1 rfl rfl 1 (by decide) rfl (by decide +kernel) (ty := .int) (by decide +kernel) rfl rfl (Nat.le_of_ble_eq_true rfl) dX7_wipe_13 (wn := [cSlo u o x1 x2 x3 x4 pa, cPad pa q1 q2 q3 0 ps pt pm]) rfl (fun H locs B => ?_)
  refine z_iload_n S (pc := 16) dX7_wipe_16 rfl (lv_at hl 0 rfl) ?_
  exact z_ireturn S hr hlk B () trivial rfl rfl (pc := 17) dX7_wipe_17
theorem iX7_fault_X7 : ∀ w ∈ wsX70, w ∈ wsX7_fault := by decide +kernel
set_option maxHeartbeats 4000000 in
set_option maxRecDepth 100000 in
theorem mX7_fault (l : Launch) (E : gT) (u : Nat) (o : Nat) (x1 : Nat) (x2 : Nat) (x3 : Nat) (x4 : Nat) (pa : Nat) (q1 : Nat) (q2 : Nat) (q3 : Nat) (pn : Int) (ps : Int) (pt : Int) (pm : Int) (χ : Nat → Int) (κ : Nat → Int) (ν : Nat → Int) (hpn : 0 ≤ pn ∧ pn ≤ 60) (hX : inX χ) : Cd l E yX7_fault wsX7_fault 7 150 0 0 [.ref u] [cSlo u o x1 x2 x3 x4 pa, cPad pa q1 q2 q3 pn ps pt pm, cChr E q1 χ, cInt E q2 60 κ, cInt E q3 60 ν] (some (.int (iI ((cfl χ pn 61 0 pm 0 κ ν).1)))) [cSlo u o x1 x2 x3 x4 pa, cPad pa q1 q2 q3 pn ((cfl χ pn 61 0 pm 0 κ ν).2.2.2.1) ((cfl χ pn 61 0 pm 0 κ ν).2.2.1) ((cfl χ pn 61 0 pm 0 κ ν).2.1), cChr E q1 χ, cInt E q2 60 ((cfl χ pn 61 0 pm 0 κ ν).2.2.2.2.1), cInt E q3 60 ((cfl χ pn 61 0 pm 0 κ ν).2.2.2.2.2)] := by
  refine Ct.mk (cc := cX7_fault) (maxL := 1) (ret := (some .int)) (plainFor_of_name (by decide)) rfl (Nat.le_of_ble_eq_true rfl) ?_
  intro p e s m below meth c A ls H locs S hr hlk hnm B hl
  have S : CallFix p m c cX7_fault 1 s #[.ref u] wsX7_fault RX7 := S
  have hl : lv_has ls 1 [(0, .ref u)] := hl
  refine z_aload_n S (pc := 0) dX7_fault_0 rfl (lv_at hl 0 rfl) ?_
  refine z_get S (pc := 1) B iX7_fault_X7 0 rfl rfl 5 (by decide) rfl rfl (by decide +kernel) dX7_fault_1 ?_
  refine z_callV S (pc := 4) B (wr := [cSlo u o x1 x2 x3 x4 pa]) (wn := fun _ => [cSlo u o x1 x2 x3 x4 pa, cPad pa q1 q2 q3 pn ((cfl χ pn 61 0 pm 0 κ ν).2.2.2.1) ((cfl χ pn 61 0 pm 0 κ ν).2.2.1) ((cfl χ pn 61 0 pm 0 κ ν).2.1), cChr E q1 χ, cInt E q2 60 ((cfl χ pn 61 0 pm 0 κ ν).2.2.2.2.1), cInt E q3 60 ((cfl χ pn 61 0 pm 0 κ ν).2.2.2.2.2)]) (st1 := fun _ => [.int (iI ((cfl χ pn 61 0 pm 0 κ ν).1))]) (As := []) (mX3_findFault l E pa q1 q2 q3 pn ps pt pm χ κ ν (show 0 ≤ pn ∧ pn ≤ 60 from by omega) (show inX χ from by assumption)) gX7_fault_X3_findFault 0 rfl (by decide +kernel) ⟨Nat.le_of_ble_eq_true rfl, Nat.le_of_ble_eq_true rfl, Nat.le_of_ble_eq_true rfl, Nat.le_of_ble_eq_true rfl⟩ 0 rfl (q := (RX3, TX3, 7)) rfl rfl [1, 2, 3, 4] [0] [0, 1, 2, 3, 4] rfl rfl ⟨rfl, rfl, rfl, by decide⟩ (fun _ => rfl) rfl (fun _ => rfl) hl.1 (Nat.le_of_ble_eq_true rfl) rfl dX7_fault_4 (fun _ _ H locs B => ?_)
  exact z_ireturn S hr hlk B () trivial rfl rfl (pc := 7) dX7_fault_7
theorem iX7_count_X3 : ∀ w ∈ wsX30, w ∈ wsX7_count := by decide +kernel
set_option maxHeartbeats 4000000 in
set_option maxRecDepth 100000 in
theorem mX7_count_5 (l : Launch) (E : gT) (u : Nat) (o : Nat) (x1 : Nat) (x2 : Nat) (x3 : Nat) (x4 : Nat) (pa : Nat) (q1 : Nat) (q2 : Nat) (q3 : Nat) (pn : Int) (ps : Int) (pt : Int) (pm : Int) (χ : Nat → Int) (κ : Nat → Int) (ν : Nat → Int)  : Cd l E yX7_count wsX7_count 0 0 0 0 [.ref u, .int (iI 5)] [cSlo u o x1 x2 x3 x4 pa, cPad pa q1 q2 q3 pn ps pt pm] (some (.int (iI pn))) [cSlo u o x1 x2 x3 x4 pa, cPad pa q1 q2 q3 pn ps pt pm] := by
  refine Ct.mk (cc := cX7_count) (maxL := 2) (ret := (some .int)) (plainFor_of_name (by decide)) rfl (Nat.le_of_ble_eq_true rfl) ?_
  intro p e s m below meth c A ls H locs S hr hlk hnm B hl
  have S : CallFix p m c cX7_count 2 s #[.ref u, .int (iI 5)] wsX7_count RX7 := S
  have hl : lv_has ls 2 [(0, .ref u), (1, .int (iI 5))] := hl
  refine z_iload_n S (pc := 0) dX7_count_0 rfl (lv_at hl 1 rfl) ?_
  · refine z_tsw S (pc := 1) (tgt := 125) (by omega) dX7_count_1 (by omega) rfl rfl ?_
    refine z_aload_n S (pc := 125) dX7_count_125 rfl (lv_at hl 0 rfl) ?_
    refine z_get S (pc := 126) B iX7_count_X7 0 rfl rfl 5 (by decide) rfl rfl (by decide +kernel) dX7_count_126 ?_
    refine z_get S (pc := 129) B iX7_count_X3 1 rfl rfl 1 (by decide) rfl rfl (by decide +kernel) dX7_count_129 ?_
    exact z_ireturn S hr hlk B () trivial rfl rfl (pc := 132) dX7_count_132
theorem iX7_carryOutPad_X7 : ∀ w ∈ wsX70, w ∈ wsX7_carryOutPad := by decide +kernel
set_option maxHeartbeats 4000000 in
set_option maxRecDepth 100000 in
theorem lpX7_carryOutPad_r {p : Program} {l : Launch} {e : Env} {s : State} {m : MethodId} {args : Array Value} {below : List Frame} {meth : Method} {c : Code} {Q : State → Prop} {A : Nat → Prop} (E : gT) (S : CallFix p m c cX7_carryOutPad 4 s args wsX7_carryOutPad RX7) (u : Nat) (o : Nat) (x1 : Nat) (x2 : Nat) (x3 : Nat) (x4 : Nat) (a : Nat) (b : Nat) (f : Nat) (g : Nat) (h : Nat) (i : Nat) (pa : Nat) (q1 : Nat) (q2 : Nat) (q3 : Nat) (pn : Int) (ps : Int) (pt : Int) (pm : Int) (χ : Nat → Int) (κ : Nat → Int) (ν : Nat → Int) (k : Int) (nm : Int) (hnm : 0 ≤ nm ∧ nm ≤ 99) :
    ∀ (n : Nat) (j : Int) (σ : Nat → Int) (ρ : Nat → Int) (ov : Int) (rr : Int) (rb : Int) (rn : Int) (hj : 0 ≤ j ∧ j + (n : Int) = nm) (hs : Sets σ) (hn : Nums σ) (ht : 0 ≤ σ 11 ∧ σ 11 + 3232 * (n : Int) ≤ 2000000000 ∧ σ 14 + (n : Int) ≤ 20000) (ho : ov = 0 ∨ ov = 1) (res : (Nat → Int) × (Nat → Int)) (hres : rdN n σ ρ = res) (hx : ∀ (u0 : Int × Int × Int × Int) (hu0 : u0.1 = 0 ∨ u0.1 = 1) (H : Heap) (locs : List Loc) (ls : Array Slot), bw E A s H locs [cSlo u o x1 x2 x3 x4 pa, cSta o a h, cMet a b f g res.1 u0.2.1 u0.2.2.1 u0.2.2.2, cSig b res.1, cSet f res.1, cCon g res.1 u0.1, cLog h i res.1, cRow E i res.2, cPad pa q1 q2 q3 pn ps pt pm, cInt E q2 60 κ, cInt E q3 60 ν] → lv_has ls 4 [(0, .ref u), (1, .int (iI k)), (2, .int (iI nm))] → W p l e ({ frames := 6, cells := 0, slots := 0, locals := 137 } : Room) s m args below meth c H locs 0 0 Q (F0 m 101 ls [])) (H : Heap) (locs : List Loc) (ls : Array Slot) (B : bw E A s H locs [cSlo u o x1 x2 x3 x4 pa, cSta o a h, cMet a b f g σ rr rb rn, cSig b σ, cSet f σ, cCon g σ ov, cLog h i σ, cRow E i ρ, cPad pa q1 q2 q3 pn ps pt pm, cInt E q2 60 κ, cInt E q3 60 ν]) (hl : lv_has ls 4 [(0, .ref u), (1, .int (iI k)), (2, .int (iI nm)), (3, .int (iI j))]), W p l e ({ frames := 6, cells := 0, slots := 0, locals := 137 } : Room) s m args below meth c H locs 0 0 Q (F0 m 82 ls []) := by
  intro n
  induction n with
  | zero =>
    intro j σ ρ ov rr rb rn hj hs hn ht ho res hres hx H locs ls B hl
    refine z_iload_n S (pc := 82) dX7_carryOutPad_82 rfl (lv_at hl 3 rfl) ?_
    refine z_iload_n S (pc := 83) dX7_carryOutPad_83 rfl (lv_at hl 2 rfl) ?_
    refine z_icmp_ge S (pc := 84) (tgt := 101) (by omega) (by omega) dX7_carryOutPad_84 rfl (fun c1 => ?_) (fun c1 => absurd c1 (by omega))
    subst hres
    exact hx ⟨ov, rr, rb, rn⟩ ho _ _ _ B (lv_sub hl [0, 1, 2] rfl)
  | succ n ih =>
    intro j σ ρ ov rr rb rn hj hs hn ht ho res hres hx H locs ls B hl
    refine z_iload_n S (pc := 82) dX7_carryOutPad_82 rfl (lv_at hl 3 rfl) ?_
    refine z_iload_n S (pc := 83) dX7_carryOutPad_83 rfl (lv_at hl 2 rfl) ?_
    refine z_icmp_ge S (pc := 84) (tgt := 101) (by omega) (by omega) dX7_carryOutPad_84 rfl (fun c1 => ?_) (fun c1 => ?_)
    · exact absurd c1 (by omega)
    · refine z_aload_n S (pc := 87) dX7_carryOutPad_87 rfl (lv_at hl 0 rfl) ?_
      refine z_get S (pc := 88) B iX7_carryOutPad_X7 0 rfl rfl 0 (by decide) rfl rfl (by decide +kernel) dX7_carryOutPad_88 ?_
      refine z_callV S (pc := 91) B (wr := [cSlo u o x1 x2 x3 x4 pa, cPad pa q1 q2 q3 pn ps pt pm, cInt E q2 60 κ, cInt E q3 60 ν]) (wn := fun _ => [cSlo u o x1 x2 x3 x4 pa, cSta o a h, cMet a b f g (rdS σ) (rz σ 10) (rz σ 11) (net0 (rz σ)), cSig b (rdS σ), cSet f (rdS σ), cCon g (rdS σ) (ov0 (rz σ)), cLog h i (rdS σ), cRow E i (rowS σ ρ), cPad pa q1 q2 q3 pn ps pt pm, cInt E q2 60 κ, cInt E q3 60 ν]) (st1 := fun _ => [.long (iL (val0 (rz σ)))]) (As := []) (mX6_makeReading l E o a b f g σ ov rr rb rn h i ρ (show Sets σ from by assumption) (show Nums σ from by assumption) (show 0 ≤ σ 11 ∧ σ 11 ≤ 2000000000 from by omega)) gX7_carryOutPad_X6_makeReading 0 rfl (by decide +kernel) ⟨Nat.le_of_ble_eq_true rfl, Nat.le_of_ble_eq_true rfl, Nat.le_of_ble_eq_true rfl, Nat.le_of_ble_eq_true rfl⟩ 0 rfl (q := (RX6, TX6, 2)) rfl rfl [1, 2, 3, 4, 5, 6, 7] [0, 8, 9, 10] [0, 4, 5, 6, 7, 8, 9, 10, 1, 2, 3] rfl rfl ⟨rfl, rfl, rfl, by decide⟩ (fun _ => rfl) rfl (fun _ => rfl) hl.1 (Nat.le_of_ble_eq_true rfl) rfl dX7_carryOutPad_91 (fun _ _ H locs B => ?_)
      refine lv_pop2_2 S.1 S.2.1 (pc := 94) dX7_carryOutPad_94 rfl ?_
      refine lv_iinc (v := iI (j + 1)) (lv' := [(3, .int (iI (j + 1))), (0, .ref u), (1, .int (iI k)), (2, .int (iI nm))]) S.1 S.2.1 (pc := 95) dX7_carryOutPad_95 hl (k := 3) rfl (iI_add _ _) (by decide) rfl (fun ls hl => ?_)
      refine lv_goto S.1 S.2.1 (pc := 98) (tgt := 82) dX7_carryOutPad_98 rfl ?_
      exact ih (j + 1) (rdS σ) (rowS σ ρ) (ov0 (rz σ)) (rz σ 10) (rz σ 11) (net0 (rz σ)) (by omega) (rdS_sets hs) (rdS_nums hs hn (by omega)) (by have e14 := rdS_14 σ; have t14 := rdS_time hs; omega) (ovr_01 _ _) res hres hx _ _ _ B (lv_sub hl [1, 2, 3, 0] rfl)
theorem sets_g {σ : Nat → Int} {v : Int} (h : Sets σ) (hv : 0 ≤ v ∧ v ≤ 3) : Sets (up σ 10 v) := by
  obtain ⟨h0, h1, h2, h3, h4, h5, h6, h7, h8, h9, -⟩ := h
  exact ⟨h0, h1, h2, h3, h4, h5, h6, h7, h8, h9, hv⟩
theorem iX7_carryOutPad_X2 : ∀ w ∈ wsX20, w ∈ wsX7_carryOutPad := by decide +kernel
theorem iX7_carryOutPad_X3 : ∀ w ∈ wsX30, w ∈ wsX7_carryOutPad := by decide +kernel
theorem iX7_carryOutPad_X4 : ∀ w ∈ wsX40, w ∈ wsX7_carryOutPad := by decide +kernel
theorem iX7_carryOutPad_X5 : ∀ w ∈ wsX50, w ∈ wsX7_carryOutPad := by decide +kernel
theorem iX7_carryOutPad_X6 : ∀ w ∈ wsX60, w ∈ wsX7_carryOutPad := by decide +kernel
set_option maxHeartbeats 8000000 in
set_option maxRecDepth 100000 in
theorem lpX7_carryOutPad {p : Program} {l : Launch} {e : Env} {s : State} {m : MethodId} {args : Array Value} {below : List Frame} {meth : Method} {c : Code} {Q : State → Prop} {A : Nat → Prop} (E : gT) (S : CallFix p m c cX7_carryOutPad 4 s args wsX7_carryOutPad RX7) (u : Nat) (o : Nat) (x1 : Nat) (x2 : Nat) (x3 : Nat) (x4 : Nat) (a : Nat) (b : Nat) (f : Nat) (g : Nat) (h : Nat) (i : Nat) (pa : Nat) (q1 : Nat) (q2 : Nat) (q3 : Nat) (pn : Int) (ps : Int) (pt : Int) (pm : Int) (χ : Nat → Int) (κ : Nat → Int) (ν : Nat → Int) (hps : 0 ≤ ps ∧ ps ≤ 59) (hok : okP κ ν ps) :
    ∀ (n : Nat) (k : Int) (σ : Nat → Int) (ρ : Nat → Int) (ov : Int) (rr : Int) (rb : Int) (rn : Int) (hk : 0 ≤ k ∧ k + (n : Int) = ps) (hs : Sets σ) (hn : Nums σ) (ho : ov = 0 ∨ ov = 1) (hr : sumS κ ν n k (σ 14) ≤ 10000) (ht : 0 ≤ σ 11 ∧ σ 11 + 3300 * (10000 - σ 14) + 1650 * (n : Int) ≤ 1900000000) (res : Int × (Nat → Int) × (Nat → Int)) (hres : exeL κ ν n k σ ρ = res) (hx : ∀ (u0 : Int × Int × Int × Int) (hu0 : u0.1 = 0 ∨ u0.1 = 1) (H : Heap) (locs : List Loc) (ls : Array Slot) (pc : Nat), bw E A s H locs [cSlo u o x1 x2 x3 x4 pa, cSta o a h, cMet a b f g res.2.1 u0.2.1 u0.2.2.1 u0.2.2.2, cSig b res.2.1, cSet f res.2.1, cCon g res.2.1 u0.1, cLog h i res.2.1, cRow E i res.2.2, cPad pa q1 q2 q3 pn ps pt pm, cInt E q2 60 κ, cInt E q3 60 ν] → ((pc = 132 ∧ res.1 = 0) ∨ (pc = 193 ∧ res.1 = 1)) → W p l e ({ frames := 6, cells := 0, slots := 0, locals := 137 } : Room) s m args below meth c H locs 0 0 Q (F0 m pc ls [.int (iI res.1)])) (H : Heap) (locs : List Loc) (ls : Array Slot) (B : bw E A s H locs [cSlo u o x1 x2 x3 x4 pa, cSta o a h, cMet a b f g σ rr rb rn, cSig b σ, cSet f σ, cCon g σ ov, cLog h i σ, cRow E i ρ, cPad pa q1 q2 q3 pn ps pt pm, cInt E q2 60 κ, cInt E q3 60 ν]) (hl : lv_has ls 4 [(0, .ref u), (1, .int (iI k))]), W p l e ({ frames := 6, cells := 0, slots := 0, locals := 137 } : Room) s m args below meth c H locs 0 0 Q (F0 m 2 ls []) := by
  intro n
  induction n with
  | zero =>
    intro k σ ρ ov rr rb rn hk hs hn ho hr ht res hres hx H locs ls B hl
    have hn14 := hn.2.2.1
    refine z_iload_n S (pc := 2) dX7_carryOutPad_2 rfl (lv_at hl 1 rfl) ?_
    refine z_aload_n S (pc := 3) dX7_carryOutPad_3 rfl (lv_at hl 0 rfl) ?_
    refine z_get S (pc := 4) B iX7_carryOutPad_X7 0 rfl rfl 5 (by decide) rfl rfl (by decide +kernel) dX7_carryOutPad_4 ?_
    refine z_get S (pc := 7) B iX7_carryOutPad_X3 8 rfl rfl 4 (by decide) rfl rfl (by decide +kernel) dX7_carryOutPad_7 ?_
    refine z_icmp_ge S (pc := 10) (tgt := 192) (by omega) (by omega) dX7_carryOutPad_10 rfl (fun c1 => ?_) (fun c1 => absurd c1 (by omega))
    refine z_iconst S (pc := 192) dX7_carryOutPad_192 ?_
    subst hres
    exact hx ⟨ov, rr, rb, rn⟩ ho _ _ _ 193 B (Or.inr ⟨rfl, rfl⟩)
  | succ n ih =>
    intro k σ ρ ov rr rb rn hk hs hn ho hr ht res hres hx H locs ls B hl
    have hn14 := hn.2.2.1
    have hokk := hok k.toNat (by omega)
    have hge := sumS_ge hok n (k + 1) (if κ k.toNat = 114 then σ 14 + ν k.toNat else σ 14) (by omega) (by omega)
    have hr2 : sumS κ ν n (k + 1) (if κ k.toNat = 114 then σ 14 + ν k.toNat else σ 14) ≤ 10000 := by simp only [sumS] at hr; exact hr
    refine z_iload_n S (pc := 2) dX7_carryOutPad_2 rfl (lv_at hl 1 rfl) ?_
    refine z_aload_n S (pc := 3) dX7_carryOutPad_3 rfl (lv_at hl 0 rfl) ?_
    refine z_get S (pc := 4) B iX7_carryOutPad_X7 0 rfl rfl 5 (by decide) rfl rfl (by decide +kernel) dX7_carryOutPad_4 ?_
    refine z_get S (pc := 7) B iX7_carryOutPad_X3 8 rfl rfl 4 (by decide) rfl rfl (by decide +kernel) dX7_carryOutPad_7 ?_
    refine z_icmp_ge S (pc := 10) (tgt := 192) (by omega) (by omega) dX7_carryOutPad_10 rfl (fun c1 => absurd c1 (by omega)) (fun c1 => ?_)
    refine z_aload_n S (pc := 13) dX7_carryOutPad_13 rfl (lv_at hl 0 rfl) ?_
    refine z_get S (pc := 14) B iX7_carryOutPad_X7 0 rfl rfl 5 (by decide) rfl rfl (by decide +kernel) dX7_carryOutPad_14 ?_
    refine z_iload_n S (pc := 17) dX7_carryOutPad_17 rfl (lv_at hl 1 rfl) ?_
    refine z_callV S (pc := 18) B (wr := [cSlo u o x1 x2 x3 x4 pa, cSta o a h, cMet a b f g σ rr rb rn, cSig b σ, cSet f σ, cCon g σ ov, cLog h i σ, cRow E i ρ, cInt E q2 60 κ]) (wn := fun _ => [cSlo u o x1 x2 x3 x4 pa, cSta o a h, cMet a b f g σ rr rb rn, cSig b σ, cSet f σ, cCon g σ ov, cLog h i σ, cRow E i ρ, cPad pa q1 q2 q3 pn ps pt pm, cInt E q2 60 κ, cInt E q3 60 ν]) (st1 := fun _ => [.int (iI (ν k.toNat))]) (As := [.int (iI k)]) (mX3_numberOf l E pa q1 q2 q3 pn ps pt pm (fun _ => 0) κ ν k (show 0 ≤ k ∧ k < 60 from by omega)) gX7_carryOutPad_X3_numberOf 1 rfl (by decide +kernel) ⟨Nat.le_of_ble_eq_true rfl, Nat.le_of_ble_eq_true rfl, Nat.le_of_ble_eq_true rfl, Nat.le_of_ble_eq_true rfl⟩ 0 rfl (q := (RX3, TX3, 7)) rfl rfl [8, 10] [0, 1, 2, 3, 4, 5, 6, 7, 9] [0, 1, 2, 3, 4, 5, 6, 7, 9, 8, 10] rfl rfl ⟨rfl, rfl, rfl, by decide⟩ (fun _ => rfl) rfl (fun _ => rfl) hl.1 (Nat.le_of_ble_eq_true rfl) rfl dX7_carryOutPad_18 (fun _ _ H locs B => ?_)
    refine lv_istore_n (lv' := [(2, .int (iI (ν k.toNat))), (0, .ref u), (1, .int (iI k))]) S.1 S.2.1 (pc := 21) dX7_carryOutPad_21 rfl hl (by decide) rfl (fun ls hl => ?_)
    refine z_aload_n S (pc := 22) dX7_carryOutPad_22 rfl (lv_at hl 1 rfl) ?_
    refine z_get S (pc := 23) B iX7_carryOutPad_X7 0 rfl rfl 5 (by decide) rfl rfl (by decide +kernel) dX7_carryOutPad_23 ?_
    refine z_iload_n S (pc := 26) dX7_carryOutPad_26 rfl (lv_at hl 2 rfl) ?_
    refine z_callV S (pc := 27) B (wr := [cSlo u o x1 x2 x3 x4 pa, cSta o a h, cMet a b f g σ rr rb rn, cSig b σ, cSet f σ, cCon g σ ov, cLog h i σ, cRow E i ρ, cInt E q3 60 ν]) (wn := fun _ => [cSlo u o x1 x2 x3 x4 pa, cSta o a h, cMet a b f g σ rr rb rn, cSig b σ, cSet f σ, cCon g σ ov, cLog h i σ, cRow E i ρ, cPad pa q1 q2 q3 pn ps pt pm, cInt E q2 60 κ, cInt E q3 60 ν]) (st1 := fun _ => [.int (iI (κ k.toNat))]) (As := [.int (iI k)]) (mX3_kindOf l E pa q1 q2 q3 pn ps pt pm (fun _ => 0) κ ν k (show 0 ≤ k ∧ k < 60 from by omega)) gX7_carryOutPad_X3_kindOf 1 rfl (by decide +kernel) ⟨Nat.le_of_ble_eq_true rfl, Nat.le_of_ble_eq_true rfl, Nat.le_of_ble_eq_true rfl, Nat.le_of_ble_eq_true rfl⟩ 0 rfl (q := (RX3, TX3, 7)) rfl rfl [8, 9] [0, 1, 2, 3, 4, 5, 6, 7, 10] [0, 1, 2, 3, 4, 5, 6, 7, 9, 10, 8] rfl rfl ⟨rfl, rfl, rfl, by decide⟩ (fun _ => rfl) rfl (fun _ => rfl) hl.1 (Nat.le_of_ble_eq_true rfl) rfl dX7_carryOutPad_27 (fun _ _ H locs B => ?_)
    rcases hokk.1 with hkd | hkd | hkd | hkd | hkd
    · rw [hkd]
      refine z_lsw S (pc := 30) (tgt := 80) (by omega) dX7_carryOutPad_30 (by decide) rfl rfl ?_
      refine z_iconst S (pc := 80) dX7_carryOutPad_80 ?_
      refine lv_istore_n (lv' := [(3, .int (iI 0)), (2, .int (iI (ν k.toNat))), (0, .ref u), (1, .int (iI k))]) S.1 S.2.1 (pc := 81) dX7_carryOutPad_81 rfl hl (by decide) rfl (fun ls hl => ?_)
      have hnu := hokk.2.1 hkd
      rw [if_pos hkd] at hge hr2
      obtain ⟨z, hz⟩ : ∃ z, rdN (ν k.toNat).toNat σ ρ = z := ⟨_, rfl⟩
      have hzi := rdN_inv (ν k.toNat).toNat σ ρ hs hn (by omega)
      rw [hz] at hzi
      obtain ⟨hzs, hzn, hz14, hzt, hzt2⟩ := hzi
      have hst1 : stp1 (κ k.toNat) (ν k.toNat) σ ρ = (1, z) := by unfold stp1; rw [if_pos hkd, hz]
      refine lpX7_carryOutPad_r E S u o x1 x2 x3 x4 a b f g h i pa q1 q2 q3 pn ps pt pm χ κ ν k (ν k.toNat) (by omega) (ν k.toNat).toNat 0 σ ρ ov rr rb rn (by omega) hs hn (by omega) ho z hz (fun u0 hu0 H locs ls B hl => ?_) _ _ _ B (lv_sub hl [2, 3, 1, 0] rfl)
      refine lv_goto S.1 S.2.1 (pc := 101) (tgt := 186) dX7_carryOutPad_101 rfl ?_
      refine lv_iinc (v := iI (k + 1)) (lv' := [(1, .int (iI (k + 1))), (0, .ref u), (2, .int (iI (ν k.toNat)))]) S.1 S.2.1 (pc := 186) dX7_carryOutPad_186 hl (k := 1) rfl (iI_add _ _) (by decide) rfl (fun ls hl => ?_)
      refine lv_goto S.1 S.2.1 (pc := 189) (tgt := 2) dX7_carryOutPad_189 rfl ?_
      exact ih (k + 1) z.1 z.2 u0.1 u0.2.1 u0.2.2.1 u0.2.2.2 (by omega) hzs hzn hu0 (by rw [hz14, show (((ν k.toNat).toNat : Nat) : Int) = ν k.toNat from by omega]; exact hr2) (by omega) res (by rw [← hres]; simp only [exeL]; rw [hst1, if_neg (by show ¬ (1 : Int) = 0; omega)]) hx _ _ _ B (lv_sub hl [1, 0] rfl)
    · rw [hkd]
      refine z_lsw S (pc := 30) (tgt := 104) (by omega) dX7_carryOutPad_30 (by decide) rfl rfl ?_
      refine z_aload_n S (pc := 104) dX7_carryOutPad_104 rfl (lv_at hl 1 rfl) ?_
      refine z_get S (pc := 105) B iX7_carryOutPad_X7 0 rfl rfl 0 (by decide) rfl rfl (by decide +kernel) dX7_carryOutPad_105 ?_
      refine z_get S (pc := 108) B iX7_carryOutPad_X6 1 rfl rfl 0 (by decide) rfl rfl (by decide +kernel) dX7_carryOutPad_108 ?_
      refine z_callV S (pc := 111) B (wr := [cSlo u o x1 x2 x3 x4 pa, cSta o a h, cLog h i σ, cRow E i ρ, cPad pa q1 q2 q3 pn ps pt pm, cInt E q2 60 κ, cInt E q3 60 ν]) (wn := fun _ => [cSlo u o x1 x2 x3 x4 pa, cSta o a h, (a, .inr (2, [.ref b, .ref f, .ref g, .int (iI ((cvt σ 0) 11)), .int (iI (cnt σ 0)), .int (iI (σ 13)), .int (iI rr), .int (iI rb), .long (iL rn)])), cSig b σ, cSet f σ, cCon g (cvt σ 0) (ovr σ 0), cLog h i σ, cRow E i ρ, cPad pa q1 q2 q3 pn ps pt pm, cInt E q2 60 κ, cInt E q3 60 ν]) (st1 := fun _ => []) (As := []) (mX2_convertZero l E a b f g σ ov rr rb rn (show Sets σ from by assumption) (show 0 ≤ σ 11 ∧ σ 11 ≤ 2100000000 from by omega)) gX7_carryOutPad_X2_convertZero 0 rfl (by decide +kernel) ⟨Nat.le_of_ble_eq_true rfl, Nat.le_of_ble_eq_true rfl, Nat.le_of_ble_eq_true rfl, Nat.le_of_ble_eq_true rfl⟩ 0 rfl (q := (RX2, TX2, 9)) rfl rfl [2, 3, 4, 5] [0, 1, 6, 7, 8, 9, 10] [0, 1, 7, 8, 9, 10, 2, 3, 4, 5, 6] rfl rfl ⟨rfl, rfl, rfl, by decide⟩ (fun _ => rfl) rfl (fun _ => rfl) hl.1 (Nat.le_of_ble_eq_true rfl) rfl dX7_carryOutPad_111 (fun _ _ H locs B => ?_)
      refine lv_goto S.1 S.2.1 (pc := 114) (tgt := 186) dX7_carryOutPad_114 rfl ?_
      refine lv_iinc (v := iI (k + 1)) (lv' := [(1, .int (iI (k + 1))), (2, .int (iI (ν k.toNat))), (0, .ref u)]) S.1 S.2.1 (pc := 186) dX7_carryOutPad_186 hl (k := 2) rfl (iI_add _ _) (by decide) rfl (fun ls hl => ?_)
      refine lv_goto S.1 S.2.1 (pc := 189) (tgt := 2) dX7_carryOutPad_189 rfl ?_
      rw [if_neg (show ¬ κ k.toNat = 114 from by omega)] at hge hr2
      have hst1 : stp1 (κ k.toNat) (ν k.toNat) σ ρ = (1, zrS σ, ρ) := by unfold stp1; rw [if_neg (by omega), if_pos hkd]
      exact ih (k + 1) (zrS σ) ρ (ovr σ 0) rr rb rn (by omega) (zrS_sets hs) (zrS_nums hs hn) (ovr_01 _ _) hr2 (by have t14 := zrS_time hs; have e14 : zrS σ 14 = σ 14 := rfl; omega) res (by rw [← hres]; simp only [exeL]; rw [hst1, if_neg (by show ¬ (1 : Int) = 0; omega)]) hx _ _ _ B (lv_sub hl [2, 0] rfl)
    · rw [hkd]
      refine z_lsw S (pc := 30) (tgt := 117) (by omega) dX7_carryOutPad_30 (by decide) rfl rfl ?_
      have hnu := hokk.2.2.1 hkd
      refine z_aload_n S (pc := 117) dX7_carryOutPad_117 rfl (lv_at hl 1 rfl) ?_
      refine z_get S (pc := 118) B iX7_carryOutPad_X7 0 rfl rfl 0 (by decide) rfl rfl (by decide +kernel) dX7_carryOutPad_118 ?_
      refine z_get S (pc := 121) B iX7_carryOutPad_X6 1 rfl rfl 0 (by decide) rfl rfl (by decide +kernel) dX7_carryOutPad_121 ?_
      refine z_iload_n S (pc := 124) dX7_carryOutPad_124 rfl (lv_at hl 0 rfl) ?_
      refine z_callV S (pc := 125) B (wr := [cSlo u o x1 x2 x3 x4 pa, cSta o a h, cSig b σ, cSet f σ, cCon g σ ov, cLog h i σ, cRow E i ρ, cPad pa q1 q2 q3 pn ps pt pm, cInt E q2 60 κ, cInt E q3 60 ν]) (wn := fun _ => [cSlo u o x1 x2 x3 x4 pa, cSta o a h, cMet a b f g σ rr rb rn, cSig b σ, cSet f σ, cCon g σ ov, cLog h i σ, cRow E i ρ, cPad pa q1 q2 q3 pn ps pt pm, cInt E q2 60 κ, cInt E q3 60 ν]) (st1 := fun _ => [.int (iI (bI (σ 11 + (ν k.toNat) ≤ 1000000000)))]) (As := [.int (iI (ν k.toNat))]) (mX2_canWait l E a b f g σ ov rr rb rn (ν k.toNat) (show 0 ≤ σ 11 ∧ σ 11 ≤ 2100000000 from by omega) (show 0 ≤ (ν k.toNat) ∧ (ν k.toNat) ≤ 1000000 from by omega)) gX7_carryOutPad_X2_canWait 1 rfl (by decide +kernel) ⟨Nat.le_of_ble_eq_true rfl, Nat.le_of_ble_eq_true rfl, Nat.le_of_ble_eq_true rfl, Nat.le_of_ble_eq_true rfl⟩ 0 rfl (q := (RX2, TX2, 9)) rfl rfl [2] [0, 1, 3, 4, 5, 6, 7, 8, 9, 10] [0, 1, 10, 2, 3, 4, 5, 6, 7, 8, 9] rfl rfl ⟨rfl, rfl, rfl, by decide⟩ (fun _ => rfl) rfl (fun _ => rfl) hl.1 (Nat.le_of_ble_eq_true rfl) rfl dX7_carryOutPad_125 (fun _ _ H locs B => ?_)
      refine z_ifne_b S (pc := 128) (tgt := 133) dX7_carryOutPad_128 rfl (fun c2 => ?_) (fun c2 => ?_)
      · refine z_aload_n S (pc := 133) dX7_carryOutPad_133 rfl (lv_at hl 1 rfl) ?_
        refine z_get S (pc := 134) B iX7_carryOutPad_X7 0 rfl rfl 0 (by decide) rfl rfl (by decide +kernel) dX7_carryOutPad_134 ?_
        refine z_get S (pc := 137) B iX7_carryOutPad_X6 1 rfl rfl 0 (by decide) rfl rfl (by decide +kernel) dX7_carryOutPad_137 ?_
        refine lv_dup S.1 S.2.1 (pc := 140) dX7_carryOutPad_140 rfl ?_
        refine z_get S (pc := 141) B iX7_carryOutPad_X2 2 rfl rfl 3 (by decide) rfl rfl (by decide +kernel) dX7_carryOutPad_141 ?_
        refine z_iload_n S (pc := 144) dX7_carryOutPad_144 rfl (lv_at hl 0 rfl) ?_
        refine z_iadd S (pc := 145) dX7_carryOutPad_145 ?_
        refine z_put S (pc := 146) B iX7_carryOutPad_X2 tyX2_ok nmX2 2 rfl rfl 3 (by decide) rfl (by decide +kernel) (ty := .int) (by decide +kernel) rfl rfl (Nat.le_of_ble_eq_true rfl) dX7_carryOutPad_146 (wn := [cSlo u o x1 x2 x3 x4 pa, cSta o a h, (a, .inr (2, [.ref b, .ref f, .ref g, .int (iI ((σ 11) + (ν k.toNat))), .int (iI (σ 12)), .int (iI (σ 13)), .int (iI rr), .int (iI rb), .long (iL rn)])), cSig b σ, cSet f σ, cCon g σ ov, cLog h i σ, cRow E i ρ, cPad pa q1 q2 q3 pn ps pt pm, cInt E q2 60 κ, cInt E q3 60 ν]) rfl (fun H locs B => ?_)
        refine lv_goto S.1 S.2.1 (pc := 149) (tgt := 186) dX7_carryOutPad_149 rfl ?_
        refine lv_iinc (v := iI (k + 1)) (lv' := [(1, .int (iI (k + 1))), (2, .int (iI (ν k.toNat))), (0, .ref u)]) S.1 S.2.1 (pc := 186) dX7_carryOutPad_186 hl (k := 2) rfl (iI_add _ _) (by decide) rfl (fun ls hl => ?_)
        refine lv_goto S.1 S.2.1 (pc := 189) (tgt := 2) dX7_carryOutPad_189 rfl ?_
        rw [if_neg (show ¬ κ k.toNat = 114 from by omega)] at hge hr2
        have hnu := hokk.2.2.1 hkd
        have hst1 : stp1 (κ k.toNat) (ν k.toNat) σ ρ = (1, up σ 11 (σ 11 + ν k.toNat), ρ) := by unfold stp1; rw [if_neg (by omega), if_neg (by omega), if_pos hkd, if_pos (by omega)]
        exact ih (k + 1) (up σ 11 (σ 11 + ν k.toNat)) ρ ov rr rb rn (by omega) (hs) (hn) (ho) hr2 (by have e11 : (up σ 11 (σ 11 + ν k.toNat)) 11 = σ 11 + ν k.toNat := rfl; have e14 : (up σ 11 (σ 11 + ν k.toNat)) 14 = σ 14 := rfl; omega) res (by rw [← hres]; simp only [exeL]; rw [hst1, if_neg (by show ¬ (1 : Int) = 0; omega)]) hx _ _ _ B (lv_sub hl [2, 0] rfl)
      · refine z_iconst S (pc := 131) dX7_carryOutPad_131 ?_
        rw [if_neg (show ¬ κ k.toNat = 114 from by omega)] at hge hr2
        have hst1 : stp1 (κ k.toNat) (ν k.toNat) σ ρ = (0, σ, ρ) := by unfold stp1; rw [if_neg (by omega), if_neg (by omega), if_pos hkd, if_neg (by omega)]
        have hres : ((0 : Int), σ, ρ) = res := by rw [← hres]; simp only [exeL]; rw [hst1, if_pos rfl]
        subst hres
        exact hx ⟨ov, rr, rb, rn⟩ ho _ _ _ 132 B (Or.inl ⟨rfl, rfl⟩)
    · rw [hkd]
      refine z_lsw S (pc := 30) (tgt := 152) (by omega) dX7_carryOutPad_30 (by decide) rfl rfl ?_
      refine z_aload_n S (pc := 152) dX7_carryOutPad_152 rfl (lv_at hl 1 rfl) ?_
      refine z_get S (pc := 153) B iX7_carryOutPad_X7 0 rfl rfl 0 (by decide) rfl rfl (by decide +kernel) dX7_carryOutPad_153 ?_
      refine z_get S (pc := 156) B iX7_carryOutPad_X6 1 rfl rfl 0 (by decide) rfl rfl (by decide +kernel) dX7_carryOutPad_156 ?_
      refine z_get S (pc := 159) B iX7_carryOutPad_X2 2 rfl rfl 0 (by decide) rfl rfl (by decide +kernel) dX7_carryOutPad_159 ?_
      refine z_iload_n S (pc := 162) dX7_carryOutPad_162 rfl (lv_at hl 0 rfl) ?_
      refine z_put S (pc := 163) B iX7_carryOutPad_X5 tyX5_ok nmX5 3 rfl rfl 0 (by decide) rfl (by decide +kernel) (ty := .int) (by decide +kernel) rfl rfl (Nat.le_of_ble_eq_true rfl) dX7_carryOutPad_163 (wn := [cSlo u o x1 x2 x3 x4 pa, cSta o a h, cMet a b f g σ rr rb rn, (b, .inr (5, [.int (iI (ν k.toNat)), .int (iI (σ 1)), .int (iI (σ 2)), .int (iI (σ 3)), .int (iI (σ 4))])), cSet f σ, cCon g σ ov, cLog h i σ, cRow E i ρ, cPad pa q1 q2 q3 pn ps pt pm, cInt E q2 60 κ, cInt E q3 60 ν]) rfl (fun H locs B => ?_)
      refine lv_goto S.1 S.2.1 (pc := 166) (tgt := 186) dX7_carryOutPad_166 rfl ?_
      refine lv_iinc (v := iI (k + 1)) (lv' := [(1, .int (iI (k + 1))), (2, .int (iI (ν k.toNat))), (0, .ref u)]) S.1 S.2.1 (pc := 186) dX7_carryOutPad_186 hl (k := 2) rfl (iI_add _ _) (by decide) rfl (fun ls hl => ?_)
      refine lv_goto S.1 S.2.1 (pc := 189) (tgt := 2) dX7_carryOutPad_189 rfl ?_
      rw [if_neg (show ¬ κ k.toNat = 114 from by omega)] at hge hr2
      have hst1 : stp1 (κ k.toNat) (ν k.toNat) σ ρ = (1, up σ 0 (ν k.toNat), ρ) := by unfold stp1; rw [if_neg (by omega), if_neg (by omega), if_neg (by omega), if_pos hkd]
      exact ih (k + 1) (up σ 0 (ν k.toNat)) ρ ov rr rb rn (by omega) (sets_l hs (hokk.2.2.2.1 hkd)) (hn) (ho) hr2 (by have e11 : (up σ 0 (ν k.toNat)) 11 = σ 11 := rfl; have e14 : (up σ 0 (ν k.toNat)) 14 = σ 14 := rfl; omega) res (by rw [← hres]; simp only [exeL]; rw [hst1, if_neg (by show ¬ (1 : Int) = 0; omega)]) hx _ _ _ B (lv_sub hl [2, 0] rfl)
    · rw [hkd]
      refine z_lsw S (pc := 30) (tgt := 169) (by omega) dX7_carryOutPad_30 (by decide) rfl rfl ?_
      refine z_aload_n S (pc := 169) dX7_carryOutPad_169 rfl (lv_at hl 1 rfl) ?_
      refine z_get S (pc := 170) B iX7_carryOutPad_X7 0 rfl rfl 0 (by decide) rfl rfl (by decide +kernel) dX7_carryOutPad_170 ?_
      refine z_get S (pc := 173) B iX7_carryOutPad_X6 1 rfl rfl 0 (by decide) rfl rfl (by decide +kernel) dX7_carryOutPad_173 ?_
      refine z_get S (pc := 176) B iX7_carryOutPad_X2 2 rfl rfl 1 (by decide) rfl rfl (by decide +kernel) dX7_carryOutPad_176 ?_
      refine z_iload_n S (pc := 179) dX7_carryOutPad_179 rfl (lv_at hl 0 rfl) ?_
      refine z_put S (pc := 180) B iX7_carryOutPad_X4 tyX4_ok nmX4 4 rfl rfl 5 (by decide) rfl (by decide +kernel) (ty := .int) (by decide +kernel) rfl rfl (Nat.le_of_ble_eq_true rfl) dX7_carryOutPad_180 (wn := [cSlo u o x1 x2 x3 x4 pa, cSta o a h, cMet a b f g σ rr rb rn, cSig b σ, (f, .inr (4, [.int (iI (σ 5)), .int (iI (σ 6)), .int (iI (σ 7)), .int (iI (σ 8)), .int (iI (σ 9)), .int (iI (ν k.toNat))])), cCon g σ ov, cLog h i σ, cRow E i ρ, cPad pa q1 q2 q3 pn ps pt pm, cInt E q2 60 κ, cInt E q3 60 ν]) rfl (fun H locs B => ?_)
      refine lv_goto S.1 S.2.1 (pc := 183) (tgt := 186) dX7_carryOutPad_183 rfl ?_
      refine lv_iinc (v := iI (k + 1)) (lv' := [(1, .int (iI (k + 1))), (2, .int (iI (ν k.toNat))), (0, .ref u)]) S.1 S.2.1 (pc := 186) dX7_carryOutPad_186 hl (k := 2) rfl (iI_add _ _) (by decide) rfl (fun ls hl => ?_)
      refine lv_goto S.1 S.2.1 (pc := 189) (tgt := 2) dX7_carryOutPad_189 rfl ?_
      rw [if_neg (show ¬ κ k.toNat = 114 from by omega)] at hge hr2
      have hst1 : stp1 (κ k.toNat) (ν k.toNat) σ ρ = (1, up σ 10 (ν k.toNat), ρ) := by unfold stp1; rw [if_neg (by omega), if_neg (by omega), if_neg (by omega), if_neg (by omega), if_pos hkd]
      exact ih (k + 1) (up σ 10 (ν k.toNat)) ρ ov rr rb rn (by omega) (sets_g hs (hokk.2.2.2.2 hkd)) (hn) (ho) hr2 (by have e11 : (up σ 10 (ν k.toNat)) 11 = σ 11 := rfl; have e14 : (up σ 10 (ν k.toNat)) 14 = σ 14 := rfl; omega) res (by rw [← hres]; simp only [exeL]; rw [hst1, if_neg (by show ¬ (1 : Int) = 0; omega)]) hx _ _ _ B (lv_sub hl [2, 0] rfl)
set_option maxHeartbeats 4000000 in
set_option maxRecDepth 100000 in
theorem mX7_carryOutPad (l : Launch) (E : gT) (u : Nat) (o : Nat) (x1 : Nat) (x2 : Nat) (x3 : Nat) (x4 : Nat) (a : Nat) (b : Nat) (f : Nat) (g : Nat) (σ : Nat → Int) (ov : Int) (rr : Int) (rb : Int) (rn : Int) (h : Nat) (i : Nat) (ρ : Nat → Int) (pa : Nat) (q1 : Nat) (q2 : Nat) (q3 : Nat) (pn : Int) (ps : Int) (pt : Int) (pm : Int) (χ : Nat → Int) (κ : Nat → Int) (ν : Nat → Int) (hps : 0 ≤ ps ∧ ps ≤ 59) (hok : okP κ ν ps) (hs : Sets σ) (hn : Nums σ) (ho : ov = 0 ∨ ov = 1) (hrd : sumS κ ν ps.toNat 0 (σ 14) ≤ 10000) (ht : 0 ≤ σ 11 ∧ σ 11 + 3300 * (10000 - σ 14) + 1650 * ps ≤ 1900000000) : Ct l E yX7_carryOutPad wsX7_carryOutPad 6 137 0 0 [.ref u] [cSlo u o x1 x2 x3 x4 pa, cSta o a h, cMet a b f g σ rr rb rn, cSig b σ, cSet f σ, cCon g σ ov, cLog h i σ, cRow E i ρ, cPad pa q1 q2 q3 pn ps pt pm, cInt E q2 60 κ, cInt E q3 60 ν] (S0 := Int × Int × Int × Int) (fun u0 => u0.1 = 0 ∨ u0.1 = 1) (fun _ => (some (.int (iI ((exeL κ ν ps.toNat 0 σ ρ).1))))) (fun u0 => [cSlo u o x1 x2 x3 x4 pa, cSta o a h, cMet a b f g ((exeL κ ν ps.toNat 0 σ ρ).2.1) u0.2.1 u0.2.2.1 u0.2.2.2, cSig b ((exeL κ ν ps.toNat 0 σ ρ).2.1), cSet f ((exeL κ ν ps.toNat 0 σ ρ).2.1), cCon g ((exeL κ ν ps.toNat 0 σ ρ).2.1) u0.1, cLog h i ((exeL κ ν ps.toNat 0 σ ρ).2.1), cRow E i ((exeL κ ν ps.toNat 0 σ ρ).2.2), cPad pa q1 q2 q3 pn ps pt pm, cInt E q2 60 κ, cInt E q3 60 ν]) := by
  refine Ct.mk (cc := cX7_carryOutPad) (maxL := 4) (ret := (some .boolean)) (plainFor_of_name (by decide)) rfl (Nat.le_of_ble_eq_true rfl) ?_
  intro p e s m below meth c A ls H locs S hr hlk hnm B hl
  have S : CallFix p m c cX7_carryOutPad 4 s #[.ref u] wsX7_carryOutPad RX7 := S
  have hl : lv_has ls 4 [(0, .ref u)] := hl
  have hr0 := hr
  have hr := hrd
  refine z_iconst S (pc := 0) dX7_carryOutPad_0 ?_
  refine lv_istore_n (lv' := [(1, .int (iI 0)), (0, .ref u)]) S.1 S.2.1 (pc := 1) dX7_carryOutPad_1 rfl hl (by decide) rfl (fun ls hl => ?_)
  refine lpX7_carryOutPad E S u o x1 x2 x3 x4 a b f g h i pa q1 q2 q3 pn ps pt pm χ κ ν hps hok ps.toNat 0 σ ρ ov rr rb rn (by omega) hs hn ho hr (by omega) (exeL κ ν ps.toNat 0 σ ρ) rfl (fun u0 hu0 H locs ls pc B hp => ?_) _ _ _ B (lv_sub hl [1, 0] rfl)
  rcases hp with ⟨rfl, hp⟩ | ⟨rfl, hp⟩
  · exact z_zreturn S (by omega) hr0 hlk B u0 hu0 rfl rfl (pc := 132) dX7_carryOutPad_132
  · exact z_zreturn S (by omega) hr0 hlk B u0 hu0 rfl rfl (pc := 193) dX7_carryOutPad_193
theorem iX7_run_X7 : ∀ w ∈ wsX70, w ∈ wsX7_run := by decide +kernel
set_option maxHeartbeats 4000000 in
set_option maxRecDepth 100000 in
theorem mX7_run_b (l : Launch) (E : gT) (u : Nat) (o : Nat) (x1 : Nat) (x2 : Nat) (x3 : Nat) (x4 : Nat) (pa : Nat) (q1 : Nat) (q2 : Nat) (q3 : Nat) (pn : Int) (ps : Int) (pt : Int) (pm : Int) (χ : Nat → Int) (κ : Nat → Int) (ν : Nat → Int) (hpn : 0 ≤ pn ∧ pn ≤ 60) (hX : inX χ) (hf : (cfl χ pn 61 0 pm 0 κ ν).1 ≠ -6) (hfb : -6 ≤ (cfl χ pn 61 0 pm 0 κ ν).1 ∧ (cfl χ pn 61 0 pm 0 κ ν).1 ≤ 60) : Cd l E yX7_run wsX7_run 7 160 0 0 [.ref u] [cSlo u o x1 x2 x3 x4 pa, cPad pa q1 q2 q3 pn ps pt pm, cChr E q1 χ, cInt E q2 60 κ, cInt E q3 60 ν] (some (.int (iI (-3)))) [cSlo u o x1 x2 x3 x4 pa, cPad pa q1 q2 q3 pn ((cfl χ pn 61 0 pm 0 κ ν).2.2.2.1) ((cfl χ pn 61 0 pm 0 κ ν).2.2.1) ((cfl χ pn 61 0 pm 0 κ ν).2.1), cChr E q1 χ, cInt E q2 60 ((cfl χ pn 61 0 pm 0 κ ν).2.2.2.2.1), cInt E q3 60 ((cfl χ pn 61 0 pm 0 κ ν).2.2.2.2.2)] := by
  refine Ct.mk (cc := cX7_run) (maxL := 2) (ret := (some .int)) (plainFor_of_name (by decide)) rfl (Nat.le_of_ble_eq_true rfl) ?_
  intro p e s m below meth c A ls H locs S hr hlk hnm B hl
  have S : CallFix p m c cX7_run 2 s #[.ref u] wsX7_run RX7 := S
  have hl : lv_has ls 2 [(0, .ref u)] := hl
  refine z_aload_n S (pc := 0) dX7_run_0 rfl (lv_at hl 0 rfl) ?_
  refine z_get S (pc := 1) B iX7_run_X7 0 rfl rfl 5 (by decide) rfl rfl (by decide +kernel) dX7_run_1 ?_
  refine z_callV S (pc := 4) B (wr := [cSlo u o x1 x2 x3 x4 pa]) (wn := fun _ => [cSlo u o x1 x2 x3 x4 pa, cPad pa q1 q2 q3 pn ((cfl χ pn 61 0 pm 0 κ ν).2.2.2.1) ((cfl χ pn 61 0 pm 0 κ ν).2.2.1) ((cfl χ pn 61 0 pm 0 κ ν).2.1), cChr E q1 χ, cInt E q2 60 ((cfl χ pn 61 0 pm 0 κ ν).2.2.2.2.1), cInt E q3 60 ((cfl χ pn 61 0 pm 0 κ ν).2.2.2.2.2)]) (st1 := fun _ => [.int (iI ((cfl χ pn 61 0 pm 0 κ ν).1))]) (As := []) (mX3_findFault l E pa q1 q2 q3 pn ps pt pm χ κ ν (show 0 ≤ pn ∧ pn ≤ 60 from by omega) (show inX χ from by assumption)) gX7_run_X3_findFault 0 rfl (by decide +kernel) ⟨Nat.le_of_ble_eq_true rfl, Nat.le_of_ble_eq_true rfl, Nat.le_of_ble_eq_true rfl, Nat.le_of_ble_eq_true rfl⟩ 0 rfl (q := (RX3, TX3, 7)) rfl rfl [1, 2, 3, 4] [0] [0, 1, 2, 3, 4] rfl rfl ⟨rfl, rfl, rfl, by decide⟩ (fun _ => rfl) rfl (fun _ => rfl) hl.1 (Nat.le_of_ble_eq_true rfl) rfl dX7_run_4 (fun _ _ H locs B => ?_)
  refine z_bipush S (pc := 7) dX7_run_7 rfl ?_
  refine z_icmp_eq S (pc := 9) (tgt := 15) (by omega) (by omega) dX7_run_9 rfl (fun c1 => absurd c1 (by omega)) (fun c1 => ?_)
  refine z_bipush S (pc := 12) dX7_run_12 rfl ?_
  exact z_ireturn S hr hlk B () trivial rfl rfl (pc := 14) dX7_run_14
theorem iX7_run_X1 : ∀ w ∈ wsX10, w ∈ wsX7_run := by decide +kernel
theorem iX7_run_X6 : ∀ w ∈ wsX60, w ∈ wsX7_run := by decide +kernel
set_option maxHeartbeats 4000000 in
set_option maxRecDepth 100000 in
theorem mX7_run_m (l : Launch) (E : gT) (u : Nat) (o : Nat) (x1 : Nat) (x2 : Nat) (x3 : Nat) (x4 : Nat) (a : Nat) (b : Nat) (f : Nat) (g : Nat) (σ : Nat → Int) (ov : Int) (rr : Int) (rb : Int) (rn : Int) (h : Nat) (i : Nat) (ρ : Nat → Int) (pa : Nat) (q1 : Nat) (q2 : Nat) (q3 : Nat) (pn : Int) (ps : Int) (pt : Int) (pm : Int) (χ : Nat → Int) (κ : Nat → Int) (ν : Nat → Int) (hpn : 0 ≤ pn ∧ pn ≤ 60) (hX : inX χ) (hf : (cfl χ pn 61 0 pm 0 κ ν).1 = -6) (hps : 0 ≤ (cfl χ pn 61 0 pm 0 κ ν).2.2.2.1 ∧ (cfl χ pn 61 0 pm 0 κ ν).2.2.2.1 ≤ 59) (hok : okP ((cfl χ pn 61 0 pm 0 κ ν).2.2.2.2.1) ((cfl χ pn 61 0 pm 0 κ ν).2.2.2.2.2) ((cfl χ pn 61 0 pm 0 κ ν).2.2.2.1)) (h14 : 0 ≤ σ 14 ∧ σ 14 ≤ 20000) (hmany : 10000 < σ 14 + sumS ((cfl χ pn 61 0 pm 0 κ ν).2.2.2.2.1) ((cfl χ pn 61 0 pm 0 κ ν).2.2.2.2.2) ((cfl χ pn 61 0 pm 0 κ ν).2.2.2.1).toNat 0 0) : Cd l E yX7_run wsX7_run 7 160 0 0 [.ref u] [cSlo u o x1 x2 x3 x4 pa, cSta o a h, cLog h i σ, cPad pa q1 q2 q3 pn ps pt pm, cChr E q1 χ, cInt E q2 60 κ, cInt E q3 60 ν] (some (.int (iI (-4)))) [cSlo u o x1 x2 x3 x4 pa, cSta o a h, cLog h i σ, cPad pa q1 q2 q3 pn ((cfl χ pn 61 0 pm 0 κ ν).2.2.2.1) ((cfl χ pn 61 0 pm 0 κ ν).2.2.1) ((cfl χ pn 61 0 pm 0 κ ν).2.1), cChr E q1 χ, cInt E q2 60 ((cfl χ pn 61 0 pm 0 κ ν).2.2.2.2.1), cInt E q3 60 ((cfl χ pn 61 0 pm 0 κ ν).2.2.2.2.2)] := by
  refine Ct.mk (cc := cX7_run) (maxL := 2) (ret := (some .int)) (plainFor_of_name (by decide)) rfl (Nat.le_of_ble_eq_true rfl) ?_
  intro p e s m below meth c A ls H locs S hr hlk hnm B hl
  have S : CallFix p m c cX7_run 2 s #[.ref u] wsX7_run RX7 := S
  have hl : lv_has ls 2 [(0, .ref u)] := hl
  have hkk : ∀ z : Nat, (z : Int) < (cfl χ pn 61 0 pm 0 κ ν).2.2.2.1 → 0 ≤ (cfl χ pn 61 0 pm 0 κ ν).2.2.2.2.1 z ∧ (cfl χ pn 61 0 pm 0 κ ν).2.2.2.2.1 z ≤ 126 := fun z hz => by have := (hok z hz).1; omega
  have hge := sumS_ge hok ((cfl χ pn 61 0 pm 0 κ ν).2.2.2.1).toNat 0 0 (by omega) (by omega)
  refine z_aload_n S (pc := 0) dX7_run_0 rfl (lv_at hl 0 rfl) ?_
  refine z_get S (pc := 1) B iX7_run_X7 0 rfl rfl 5 (by decide) rfl rfl (by decide +kernel) dX7_run_1 ?_
  refine z_callV S (pc := 4) B (wr := [cSlo u o x1 x2 x3 x4 pa, cSta o a h, cLog h i σ]) (wn := fun _ => [cSlo u o x1 x2 x3 x4 pa, cSta o a h, cLog h i σ, cPad pa q1 q2 q3 pn ((cfl χ pn 61 0 pm 0 κ ν).2.2.2.1) ((cfl χ pn 61 0 pm 0 κ ν).2.2.1) ((cfl χ pn 61 0 pm 0 κ ν).2.1), cChr E q1 χ, cInt E q2 60 ((cfl χ pn 61 0 pm 0 κ ν).2.2.2.2.1), cInt E q3 60 ((cfl χ pn 61 0 pm 0 κ ν).2.2.2.2.2)]) (st1 := fun _ => [.int (iI ((cfl χ pn 61 0 pm 0 κ ν).1))]) (As := []) (mX3_findFault l E pa q1 q2 q3 pn ps pt pm χ κ ν (show 0 ≤ pn ∧ pn ≤ 60 from by omega) (show inX χ from by assumption)) gX7_run_X3_findFault 0 rfl (by decide +kernel) ⟨Nat.le_of_ble_eq_true rfl, Nat.le_of_ble_eq_true rfl, Nat.le_of_ble_eq_true rfl, Nat.le_of_ble_eq_true rfl⟩ 0 rfl (q := (RX3, TX3, 7)) rfl rfl [3, 4, 5, 6] [0, 1, 2] [0, 1, 2, 3, 4, 5, 6] rfl rfl ⟨rfl, rfl, rfl, by decide⟩ (fun _ => rfl) rfl (fun _ => rfl) hl.1 (Nat.le_of_ble_eq_true rfl) rfl dX7_run_4 (fun _ _ H locs B => ?_)
  refine z_bipush S (pc := 7) dX7_run_7 rfl ?_
  refine z_icmp_eq S (pc := 9) (tgt := 15) (by omega) (by omega) dX7_run_9 rfl (fun c1 => ?_) (fun c1 => absurd c1 (by omega))
  refine z_aload_n S (pc := 15) dX7_run_15 rfl (lv_at hl 0 rfl) ?_
  refine z_get S (pc := 16) B iX7_run_X7 0 rfl rfl 5 (by decide) rfl rfl (by decide +kernel) dX7_run_16 ?_
  refine z_callV S (pc := 19) B (wr := [cSlo u o x1 x2 x3 x4 pa, cSta o a h, cLog h i σ, cChr E q1 χ]) (wn := fun _ => [cSlo u o x1 x2 x3 x4 pa, cSta o a h, cLog h i σ, cPad pa q1 q2 q3 pn ((cfl χ pn 61 0 pm 0 κ ν).2.2.2.1) ((cfl χ pn 61 0 pm 0 κ ν).2.2.1) ((cfl χ pn 61 0 pm 0 κ ν).2.1), cChr E q1 χ, cInt E q2 60 ((cfl χ pn 61 0 pm 0 κ ν).2.2.2.2.1), cInt E q3 60 ((cfl χ pn 61 0 pm 0 κ ν).2.2.2.2.2)]) (st1 := fun _ => [.int (iI (sumS ((cfl χ pn 61 0 pm 0 κ ν).2.2.2.2.1) ((cfl χ pn 61 0 pm 0 κ ν).2.2.2.2.2) ((cfl χ pn 61 0 pm 0 κ ν).2.2.2.1).toNat 0 0))]) (As := []) (mX3_countReadings l E pa q1 q2 q3 pn ((cfl χ pn 61 0 pm 0 κ ν).2.2.2.1) ((cfl χ pn 61 0 pm 0 κ ν).2.2.1) ((cfl χ pn 61 0 pm 0 κ ν).2.1) χ ((cfl χ pn 61 0 pm 0 κ ν).2.2.2.2.1) ((cfl χ pn 61 0 pm 0 κ ν).2.2.2.2.2) (show 0 ≤ ((cfl χ pn 61 0 pm 0 κ ν).2.2.2.1) ∧ ((cfl χ pn 61 0 pm 0 κ ν).2.2.2.1) ≤ 59 from by omega) (show ∀ z : Nat, (z : Int) < ((cfl χ pn 61 0 pm 0 κ ν).2.2.2.1) → 0 ≤ ((cfl χ pn 61 0 pm 0 κ ν).2.2.2.2.1) z ∧ ((cfl χ pn 61 0 pm 0 κ ν).2.2.2.2.1) z ≤ 126 from by assumption)) gX7_run_X3_countReadings 0 rfl (by decide +kernel) ⟨Nat.le_of_ble_eq_true rfl, Nat.le_of_ble_eq_true rfl, Nat.le_of_ble_eq_true rfl, Nat.le_of_ble_eq_true rfl⟩ 0 rfl (q := (RX3, TX3, 7)) rfl rfl [3, 5, 6] [0, 1, 2, 4] [0, 1, 2, 4, 3, 5, 6] rfl rfl ⟨rfl, rfl, rfl, by decide⟩ (fun _ => rfl) rfl (fun _ => rfl) hl.1 (Nat.le_of_ble_eq_true rfl) rfl dX7_run_19 (fun _ _ H locs B => ?_)
  refine lv_istore_n (lv' := [(1, .int (iI (sumS ((cfl χ pn 61 0 pm 0 κ ν).2.2.2.2.1) ((cfl χ pn 61 0 pm 0 κ ν).2.2.2.2.2) ((cfl χ pn 61 0 pm 0 κ ν).2.2.2.1).toNat 0 0))), (0, .ref u)]) S.1 S.2.1 (pc := 22) dX7_run_22 rfl hl (by decide) rfl (fun ls hl => ?_)
  refine z_aload_n S (pc := 23) dX7_run_23 rfl (lv_at hl 1 rfl) ?_
  refine z_get S (pc := 24) B iX7_run_X7 0 rfl rfl 0 (by decide) rfl rfl (by decide +kernel) dX7_run_24 ?_
  refine z_get S (pc := 27) B iX7_run_X6 1 rfl rfl 1 (by decide) rfl rfl (by decide +kernel) dX7_run_27 ?_
  refine z_get S (pc := 30) B iX7_run_X1 2 rfl rfl 1 (by decide) rfl rfl (by decide +kernel) dX7_run_30 ?_
  refine z_iload_n S (pc := 33) dX7_run_33 rfl (lv_at hl 0 rfl) ?_
  refine z_iadd S (pc := 34) dX7_run_34 ?_
  refine z_sipush S (pc := 35) dX7_run_35 rfl ?_
  refine z_icmp_le S (pc := 38) (tgt := 44) (by omega) (by omega) dX7_run_38 rfl (fun c2 => absurd c2 (by omega)) (fun c2 => ?_)
  refine z_bipush S (pc := 41) dX7_run_41 rfl ?_
  exact z_ireturn S hr hlk B () trivial rfl rfl (pc := 43) dX7_run_43
theorem iX7_run_X3 : ∀ w ∈ wsX30, w ∈ wsX7_run := by decide +kernel
set_option maxHeartbeats 4000000 in
set_option maxRecDepth 100000 in
theorem mX7_run (l : Launch) (E : gT) (u : Nat) (o : Nat) (x1 : Nat) (x2 : Nat) (x3 : Nat) (x4 : Nat) (a : Nat) (b : Nat) (f : Nat) (g : Nat) (σ : Nat → Int) (ov : Int) (rr : Int) (rb : Int) (rn : Int) (h : Nat) (i : Nat) (ρ : Nat → Int) (pa : Nat) (q1 : Nat) (q2 : Nat) (q3 : Nat) (pn : Int) (ps : Int) (pt : Int) (pm : Int) (χ : Nat → Int) (κ : Nat → Int) (ν : Nat → Int) (a9 : Nat) (b9 : Nat) (f9 : Nat) (g9 : Nat) (σ9 : Nat → Int) (ov9 : Int) (rr9 : Int) (rb9 : Int) (rn9 : Int) (h9 : Nat) (i9 : Nat) (ρ9 : Nat → Int) (hpn : 0 ≤ pn ∧ pn ≤ 60) (hX : inX χ) (hf : (cfl χ pn 61 0 pm 0 κ ν).1 = -6) (hps : 0 ≤ (cfl χ pn 61 0 pm 0 κ ν).2.2.2.1 ∧ (cfl χ pn 61 0 pm 0 κ ν).2.2.2.1 ≤ 59) (hok : okP ((cfl χ pn 61 0 pm 0 κ ν).2.2.2.2.1) ((cfl χ pn 61 0 pm 0 κ ν).2.2.2.2.2) ((cfl χ pn 61 0 pm 0 κ ν).2.2.2.1)) (hs : Sets σ) (hn : Nums σ) (ho : ov = 0 ∨ ov = 1) (hmany : σ 14 + sumS ((cfl χ pn 61 0 pm 0 κ ν).2.2.2.2.1) ((cfl χ pn 61 0 pm 0 κ ν).2.2.2.2.2) ((cfl χ pn 61 0 pm 0 κ ν).2.2.2.1).toNat 0 0 ≤ 10000) (ht : 0 ≤ σ 11 ∧ σ 11 + 3300 * (10000 - σ 14) ≤ 1800000000) (hex : (exeL ((cfl χ pn 61 0 pm 0 κ ν).2.2.2.2.1) ((cfl χ pn 61 0 pm 0 κ ν).2.2.2.2.2) ((cfl χ pn 61 0 pm 0 κ ν).2.2.2.1).toNat 0 σ ρ).1 = 1) : Ct l E yX7_run wsX7_run 7 160 0 0 [.ref u] [cSlo u o x1 x2 x3 x4 pa, cSta o a h, cMet a b f g σ rr rb rn, cSig b σ, cSet f σ, cCon g σ ov, cLog h i σ, cRow E i ρ, cSta x1 a9 h9, cMet a9 b9 f9 g9 σ9 rr9 rb9 rn9, cSig b9 σ9, cSet f9 σ9, cCon g9 σ9 ov9, cLog h9 i9 σ9, cRow E i9 ρ9, cPad pa q1 q2 q3 pn ps pt pm, cChr E q1 χ, cInt E q2 60 κ, cInt E q3 60 ν] (S0 := Int × Int × Int × Int) (fun u0 => u0.1 = 0 ∨ u0.1 = 1) (fun _ => (some (.int (iI (sumS ((cfl χ pn 61 0 pm 0 κ ν).2.2.2.2.1) ((cfl χ pn 61 0 pm 0 κ ν).2.2.2.2.2) ((cfl χ pn 61 0 pm 0 κ ν).2.2.2.1).toNat 0 0))))) (fun u0 => [cSlo u o x1 x2 x3 x4 pa, cSta o a h, cMet a b f g ((exeL ((cfl χ pn 61 0 pm 0 κ ν).2.2.2.2.1) ((cfl χ pn 61 0 pm 0 κ ν).2.2.2.2.2) ((cfl χ pn 61 0 pm 0 κ ν).2.2.2.1).toNat 0 σ ρ).2.1) u0.2.1 u0.2.2.1 u0.2.2.2, cSig b ((exeL ((cfl χ pn 61 0 pm 0 κ ν).2.2.2.2.1) ((cfl χ pn 61 0 pm 0 κ ν).2.2.2.2.2) ((cfl χ pn 61 0 pm 0 κ ν).2.2.2.1).toNat 0 σ ρ).2.1), cSet f ((exeL ((cfl χ pn 61 0 pm 0 κ ν).2.2.2.2.1) ((cfl χ pn 61 0 pm 0 κ ν).2.2.2.2.2) ((cfl χ pn 61 0 pm 0 κ ν).2.2.2.1).toNat 0 σ ρ).2.1), cCon g ((exeL ((cfl χ pn 61 0 pm 0 κ ν).2.2.2.2.1) ((cfl χ pn 61 0 pm 0 κ ν).2.2.2.2.2) ((cfl χ pn 61 0 pm 0 κ ν).2.2.2.1).toNat 0 σ ρ).2.1) u0.1, cLog h i ((exeL ((cfl χ pn 61 0 pm 0 κ ν).2.2.2.2.1) ((cfl χ pn 61 0 pm 0 κ ν).2.2.2.2.2) ((cfl χ pn 61 0 pm 0 κ ν).2.2.2.1).toNat 0 σ ρ).2.1), cRow E i ((exeL ((cfl χ pn 61 0 pm 0 κ ν).2.2.2.2.1) ((cfl χ pn 61 0 pm 0 κ ν).2.2.2.2.2) ((cfl χ pn 61 0 pm 0 κ ν).2.2.2.1).toNat 0 σ ρ).2.2), cSta x1 a9 h9, cMet a9 b9 f9 g9 σ rr rb rn, cSig b9 σ, cSet f9 σ, cCon g9 σ ov, cLog h9 i9 σ, cRow E i9 ρ, cPad pa q1 q2 q3 0 ((cfl χ pn 61 0 pm 0 κ ν).2.2.2.1) ((cfl χ pn 61 0 pm 0 κ ν).2.2.1) ((cfl χ pn 61 0 pm 0 κ ν).2.1), cChr E q1 χ, cInt E q2 60 ((cfl χ pn 61 0 pm 0 κ ν).2.2.2.2.1), cInt E q3 60 ((cfl χ pn 61 0 pm 0 κ ν).2.2.2.2.2)]) := by
  refine Ct.mk (cc := cX7_run) (maxL := 2) (ret := (some .int)) (plainFor_of_name (by decide)) rfl (Nat.le_of_ble_eq_true rfl) ?_
  intro p e s m below meth c A ls H locs S hr hlk hnm B hl
  have S : CallFix p m c cX7_run 2 s #[.ref u] wsX7_run RX7 := S
  have hl : lv_has ls 2 [(0, .ref u)] := hl
  have hkk : ∀ z : Nat, (z : Int) < (cfl χ pn 61 0 pm 0 κ ν).2.2.2.1 → 0 ≤ (cfl χ pn 61 0 pm 0 κ ν).2.2.2.2.1 z ∧ (cfl χ pn 61 0 pm 0 κ ν).2.2.2.2.1 z ≤ 126 := fun z hz => by have := (hok z hz).1; omega
  have hge := sumS_ge hok ((cfl χ pn 61 0 pm 0 κ ν).2.2.2.1).toNat 0 0 (by omega) (by omega)
  obtain ⟨n12, n13, n14, n15, n16, n17, n18, n19, n20, n21, n22⟩ := id hn
  have hsm : sumS (cfl χ pn 61 0 pm 0 κ ν).2.2.2.2.1 (cfl χ pn 61 0 pm 0 κ ν).2.2.2.2.2 ((cfl χ pn 61 0 pm 0 κ ν).2.2.2.1).toNat 0 (σ 14) ≤ 10000 := by have e := sumS_add (κ := (cfl χ pn 61 0 pm 0 κ ν).2.2.2.2.1) (ν := (cfl χ pn 61 0 pm 0 κ ν).2.2.2.2.2) ((cfl χ pn 61 0 pm 0 κ ν).2.2.2.1).toNat 0 (σ 14) 0; rw [Int.add_zero] at e; omega
  refine z_aload_n S (pc := 0) dX7_run_0 rfl (lv_at hl 0 rfl) ?_
  refine z_get S (pc := 1) B iX7_run_X7 0 rfl rfl 5 (by decide) rfl rfl (by decide +kernel) dX7_run_1 ?_
  refine z_callV S (pc := 4) B (wr := [cSlo u o x1 x2 x3 x4 pa, cSta o a h, cMet a b f g σ rr rb rn, cSig b σ, cSet f σ, cCon g σ ov, cLog h i σ, cRow E i ρ, cSta x1 a9 h9, cMet a9 b9 f9 g9 σ9 rr9 rb9 rn9, cSig b9 σ9, cSet f9 σ9, cCon g9 σ9 ov9, cLog h9 i9 σ9, cRow E i9 ρ9]) (wn := fun _ => [cSlo u o x1 x2 x3 x4 pa, cSta o a h, cMet a b f g σ rr rb rn, cSig b σ, cSet f σ, cCon g σ ov, cLog h i σ, cRow E i ρ, cSta x1 a9 h9, cMet a9 b9 f9 g9 σ9 rr9 rb9 rn9, cSig b9 σ9, cSet f9 σ9, cCon g9 σ9 ov9, cLog h9 i9 σ9, cRow E i9 ρ9, cPad pa q1 q2 q3 pn ((cfl χ pn 61 0 pm 0 κ ν).2.2.2.1) ((cfl χ pn 61 0 pm 0 κ ν).2.2.1) ((cfl χ pn 61 0 pm 0 κ ν).2.1), cChr E q1 χ, cInt E q2 60 ((cfl χ pn 61 0 pm 0 κ ν).2.2.2.2.1), cInt E q3 60 ((cfl χ pn 61 0 pm 0 κ ν).2.2.2.2.2)]) (st1 := fun _ => [.int (iI ((cfl χ pn 61 0 pm 0 κ ν).1))]) (As := []) (mX3_findFault l E pa q1 q2 q3 pn ps pt pm χ κ ν (show 0 ≤ pn ∧ pn ≤ 60 from by omega) (show inX χ from by assumption)) gX7_run_X3_findFault 0 rfl (by decide +kernel) ⟨Nat.le_of_ble_eq_true rfl, Nat.le_of_ble_eq_true rfl, Nat.le_of_ble_eq_true rfl, Nat.le_of_ble_eq_true rfl⟩ 0 rfl (q := (RX3, TX3, 7)) rfl rfl [15, 16, 17, 18] [0, 1, 2, 3, 4, 5, 6, 7, 8, 9, 10, 11, 12, 13, 14] [0, 1, 2, 3, 4, 5, 6, 7, 8, 9, 10, 11, 12, 13, 14, 15, 16, 17, 18] rfl rfl ⟨rfl, rfl, rfl, by decide⟩ (fun _ => rfl) rfl (fun _ => rfl) hl.1 (Nat.le_of_ble_eq_true rfl) rfl dX7_run_4 (fun _ _ H locs B => ?_)
  refine z_bipush S (pc := 7) dX7_run_7 rfl ?_
  refine z_icmp_eq S (pc := 9) (tgt := 15) (by omega) (by omega) dX7_run_9 rfl (fun c1 => ?_) (fun c1 => absurd c1 (by omega))
  refine z_aload_n S (pc := 15) dX7_run_15 rfl (lv_at hl 0 rfl) ?_
  refine z_get S (pc := 16) B iX7_run_X7 0 rfl rfl 5 (by decide) rfl rfl (by decide +kernel) dX7_run_16 ?_
  refine z_callV S (pc := 19) B (wr := [cSlo u o x1 x2 x3 x4 pa, cSta o a h, cMet a b f g σ rr rb rn, cSig b σ, cSet f σ, cCon g σ ov, cLog h i σ, cRow E i ρ, cSta x1 a9 h9, cMet a9 b9 f9 g9 σ9 rr9 rb9 rn9, cSig b9 σ9, cSet f9 σ9, cCon g9 σ9 ov9, cLog h9 i9 σ9, cRow E i9 ρ9, cChr E q1 χ]) (wn := fun _ => [cSlo u o x1 x2 x3 x4 pa, cSta o a h, cMet a b f g σ rr rb rn, cSig b σ, cSet f σ, cCon g σ ov, cLog h i σ, cRow E i ρ, cSta x1 a9 h9, cMet a9 b9 f9 g9 σ9 rr9 rb9 rn9, cSig b9 σ9, cSet f9 σ9, cCon g9 σ9 ov9, cLog h9 i9 σ9, cRow E i9 ρ9, cPad pa q1 q2 q3 pn ((cfl χ pn 61 0 pm 0 κ ν).2.2.2.1) ((cfl χ pn 61 0 pm 0 κ ν).2.2.1) ((cfl χ pn 61 0 pm 0 κ ν).2.1), cChr E q1 χ, cInt E q2 60 ((cfl χ pn 61 0 pm 0 κ ν).2.2.2.2.1), cInt E q3 60 ((cfl χ pn 61 0 pm 0 κ ν).2.2.2.2.2)]) (st1 := fun _ => [.int (iI (sumS ((cfl χ pn 61 0 pm 0 κ ν).2.2.2.2.1) ((cfl χ pn 61 0 pm 0 κ ν).2.2.2.2.2) ((cfl χ pn 61 0 pm 0 κ ν).2.2.2.1).toNat 0 0))]) (As := []) (mX3_countReadings l E pa q1 q2 q3 pn ((cfl χ pn 61 0 pm 0 κ ν).2.2.2.1) ((cfl χ pn 61 0 pm 0 κ ν).2.2.1) ((cfl χ pn 61 0 pm 0 κ ν).2.1) χ ((cfl χ pn 61 0 pm 0 κ ν).2.2.2.2.1) ((cfl χ pn 61 0 pm 0 κ ν).2.2.2.2.2) (show 0 ≤ ((cfl χ pn 61 0 pm 0 κ ν).2.2.2.1) ∧ ((cfl χ pn 61 0 pm 0 κ ν).2.2.2.1) ≤ 59 from by omega) (show ∀ z : Nat, (z : Int) < ((cfl χ pn 61 0 pm 0 κ ν).2.2.2.1) → 0 ≤ ((cfl χ pn 61 0 pm 0 κ ν).2.2.2.2.1) z ∧ ((cfl χ pn 61 0 pm 0 κ ν).2.2.2.2.1) z ≤ 126 from by assumption)) gX7_run_X3_countReadings 0 rfl (by decide +kernel) ⟨Nat.le_of_ble_eq_true rfl, Nat.le_of_ble_eq_true rfl, Nat.le_of_ble_eq_true rfl, Nat.le_of_ble_eq_true rfl⟩ 0 rfl (q := (RX3, TX3, 7)) rfl rfl [15, 17, 18] [0, 1, 2, 3, 4, 5, 6, 7, 8, 9, 10, 11, 12, 13, 14, 16] [0, 1, 2, 3, 4, 5, 6, 7, 8, 9, 10, 11, 12, 13, 14, 16, 15, 17, 18] rfl rfl ⟨rfl, rfl, rfl, by decide⟩ (fun _ => rfl) rfl (fun _ => rfl) hl.1 (Nat.le_of_ble_eq_true rfl) rfl dX7_run_19 (fun _ _ H locs B => ?_)
  refine lv_istore_n (lv' := [(1, .int (iI (sumS ((cfl χ pn 61 0 pm 0 κ ν).2.2.2.2.1) ((cfl χ pn 61 0 pm 0 κ ν).2.2.2.2.2) ((cfl χ pn 61 0 pm 0 κ ν).2.2.2.1).toNat 0 0))), (0, .ref u)]) S.1 S.2.1 (pc := 22) dX7_run_22 rfl hl (by decide) rfl (fun ls hl => ?_)
  refine z_aload_n S (pc := 23) dX7_run_23 rfl (lv_at hl 1 rfl) ?_
  refine z_get S (pc := 24) B iX7_run_X7 0 rfl rfl 0 (by decide) rfl rfl (by decide +kernel) dX7_run_24 ?_
  refine z_get S (pc := 27) B iX7_run_X6 1 rfl rfl 1 (by decide) rfl rfl (by decide +kernel) dX7_run_27 ?_
  refine z_get S (pc := 30) B iX7_run_X1 6 rfl rfl 1 (by decide) rfl rfl (by decide +kernel) dX7_run_30 ?_
  refine z_iload_n S (pc := 33) dX7_run_33 rfl (lv_at hl 0 rfl) ?_
  refine z_iadd S (pc := 34) dX7_run_34 ?_
  refine z_sipush S (pc := 35) dX7_run_35 rfl ?_
  refine z_icmp_le S (pc := 38) (tgt := 44) (by omega) (by omega) dX7_run_38 rfl (fun c2 => ?_) (fun c2 => absurd c2 (by omega))
  refine z_aload_n S (pc := 44) dX7_run_44 rfl (lv_at hl 1 rfl) ?_
  refine z_get S (pc := 45) B iX7_run_X7 0 rfl rfl 1 (by decide) rfl rfl (by decide +kernel) dX7_run_45 ?_
  refine z_aload_n S (pc := 48) dX7_run_48 rfl (lv_at hl 1 rfl) ?_
  refine z_get S (pc := 49) B iX7_run_X7 0 rfl rfl 0 (by decide) rfl rfl (by decide +kernel) dX7_run_49 ?_
  refine z_callV S (pc := 52) B (wr := [cSlo u o x1 x2 x3 x4 pa, cPad pa q1 q2 q3 pn ((cfl χ pn 61 0 pm 0 κ ν).2.2.2.1) ((cfl χ pn 61 0 pm 0 κ ν).2.2.1) ((cfl χ pn 61 0 pm 0 κ ν).2.1), cChr E q1 χ, cInt E q2 60 ((cfl χ pn 61 0 pm 0 κ ν).2.2.2.2.1), cInt E q3 60 ((cfl χ pn 61 0 pm 0 κ ν).2.2.2.2.2)]) (wn := fun _ => [cSlo u o x1 x2 x3 x4 pa, cSta o a h, cMet a b f g σ rr rb rn, cSig b σ, cSet f σ, cCon g σ ov, cLog h i σ, cRow E i ρ, cSta x1 a9 h9, cMet a9 b9 f9 g9 σ rr rb rn, cSig b9 σ, cSet f9 σ, cCon g9 σ ov, cLog h9 i9 σ, cRow E i9 ρ, cPad pa q1 q2 q3 pn ((cfl χ pn 61 0 pm 0 κ ν).2.2.2.1) ((cfl χ pn 61 0 pm 0 κ ν).2.2.1) ((cfl χ pn 61 0 pm 0 κ ν).2.1), cChr E q1 χ, cInt E q2 60 ((cfl χ pn 61 0 pm 0 κ ν).2.2.2.2.1), cInt E q3 60 ((cfl χ pn 61 0 pm 0 κ ν).2.2.2.2.2)]) (st1 := fun _ => []) (As := [.ref o]) (mX6_copyFrom l E x1 a9 b9 f9 g9 σ9 ov9 rr9 rb9 rn9 h9 i9 ρ9 o a b f g σ ov rr rb rn h i ρ (show σ 22 = 0 ∨ σ 22 = 1 from by omega) (show ov = 0 ∨ ov = 1 from by omega)) gX7_run_X6_copyFrom 1 rfl (by decide +kernel) ⟨Nat.le_of_ble_eq_true rfl, Nat.le_of_ble_eq_true rfl, Nat.le_of_ble_eq_true rfl, Nat.le_of_ble_eq_true rfl⟩ 0 rfl (q := (RX6, TX6, 2)) rfl rfl [8, 9, 10, 11, 12, 13, 14, 1, 2, 3, 4, 5, 6, 7] [0, 15, 16, 17, 18] [0, 12, 13, 14, 15, 16, 17, 18, 5, 6, 7, 8, 9, 10, 11, 1, 2, 3, 4] rfl rfl ⟨rfl, rfl, rfl, by decide⟩ (fun _ => rfl) rfl (fun _ => rfl) hl.1 (Nat.le_of_ble_eq_true rfl) rfl dX7_run_52 (fun _ _ H locs B => ?_)
  refine z_aload_n S (pc := 55) dX7_run_55 rfl (lv_at hl 1 rfl) ?_
  refine z_callV S (pc := 56) B (wr := [cSta x1 a9 h9, cMet a9 b9 f9 g9 σ rr rb rn, cSig b9 σ, cSet f9 σ, cCon g9 σ ov, cLog h9 i9 σ, cRow E i9 ρ, cChr E q1 χ]) (wn := fun u3 => [cSlo u o x1 x2 x3 x4 pa, cSta o a h, cMet a b f g ((exeL ((cfl χ pn 61 0 pm 0 κ ν).2.2.2.2.1) ((cfl χ pn 61 0 pm 0 κ ν).2.2.2.2.2) ((cfl χ pn 61 0 pm 0 κ ν).2.2.2.1).toNat 0 σ ρ).2.1) u3.2.1 u3.2.2.1 u3.2.2.2, cSig b ((exeL ((cfl χ pn 61 0 pm 0 κ ν).2.2.2.2.1) ((cfl χ pn 61 0 pm 0 κ ν).2.2.2.2.2) ((cfl χ pn 61 0 pm 0 κ ν).2.2.2.1).toNat 0 σ ρ).2.1), cSet f ((exeL ((cfl χ pn 61 0 pm 0 κ ν).2.2.2.2.1) ((cfl χ pn 61 0 pm 0 κ ν).2.2.2.2.2) ((cfl χ pn 61 0 pm 0 κ ν).2.2.2.1).toNat 0 σ ρ).2.1), cCon g ((exeL ((cfl χ pn 61 0 pm 0 κ ν).2.2.2.2.1) ((cfl χ pn 61 0 pm 0 κ ν).2.2.2.2.2) ((cfl χ pn 61 0 pm 0 κ ν).2.2.2.1).toNat 0 σ ρ).2.1) u3.1, cLog h i ((exeL ((cfl χ pn 61 0 pm 0 κ ν).2.2.2.2.1) ((cfl χ pn 61 0 pm 0 κ ν).2.2.2.2.2) ((cfl χ pn 61 0 pm 0 κ ν).2.2.2.1).toNat 0 σ ρ).2.1), cRow E i ((exeL ((cfl χ pn 61 0 pm 0 κ ν).2.2.2.2.1) ((cfl χ pn 61 0 pm 0 κ ν).2.2.2.2.2) ((cfl χ pn 61 0 pm 0 κ ν).2.2.2.1).toNat 0 σ ρ).2.2), cSta x1 a9 h9, cMet a9 b9 f9 g9 σ rr rb rn, cSig b9 σ, cSet f9 σ, cCon g9 σ ov, cLog h9 i9 σ, cRow E i9 ρ, cPad pa q1 q2 q3 pn ((cfl χ pn 61 0 pm 0 κ ν).2.2.2.1) ((cfl χ pn 61 0 pm 0 κ ν).2.2.1) ((cfl χ pn 61 0 pm 0 κ ν).2.1), cChr E q1 χ, cInt E q2 60 ((cfl χ pn 61 0 pm 0 κ ν).2.2.2.2.1), cInt E q3 60 ((cfl χ pn 61 0 pm 0 κ ν).2.2.2.2.2)]) (st1 := fun _ => [.int (iI ((exeL ((cfl χ pn 61 0 pm 0 κ ν).2.2.2.2.1) ((cfl χ pn 61 0 pm 0 κ ν).2.2.2.2.2) ((cfl χ pn 61 0 pm 0 κ ν).2.2.2.1).toNat 0 σ ρ).1))]) (As := []) (mX7_carryOutPad l E u o x1 x2 x3 x4 a b f g σ ov rr rb rn h i ρ pa q1 q2 q3 pn ((cfl χ pn 61 0 pm 0 κ ν).2.2.2.1) ((cfl χ pn 61 0 pm 0 κ ν).2.2.1) ((cfl χ pn 61 0 pm 0 κ ν).2.1) (fun _ => 0) ((cfl χ pn 61 0 pm 0 κ ν).2.2.2.2.1) ((cfl χ pn 61 0 pm 0 κ ν).2.2.2.2.2) (show 0 ≤ ((cfl χ pn 61 0 pm 0 κ ν).2.2.2.1) ∧ ((cfl χ pn 61 0 pm 0 κ ν).2.2.2.1) ≤ 59 from by omega) (show okP ((cfl χ pn 61 0 pm 0 κ ν).2.2.2.2.1) ((cfl χ pn 61 0 pm 0 κ ν).2.2.2.2.2) ((cfl χ pn 61 0 pm 0 κ ν).2.2.2.1) from by assumption) (show Sets σ from by assumption) (show Nums σ from by assumption) (show ov = 0 ∨ ov = 1 from by omega) (show sumS ((cfl χ pn 61 0 pm 0 κ ν).2.2.2.2.1) ((cfl χ pn 61 0 pm 0 κ ν).2.2.2.2.2) ((cfl χ pn 61 0 pm 0 κ ν).2.2.2.1).toNat 0 (σ 14) ≤ 10000 from by omega) (show 0 ≤ σ 11 ∧ σ 11 + 3300 * (10000 - σ 14) + 1650 * ((cfl χ pn 61 0 pm 0 κ ν).2.2.2.1) ≤ 1900000000 from by omega)) gX7_run_X7_carryOutPad 0 rfl (by decide +kernel) ⟨Nat.le_of_ble_eq_true rfl, Nat.le_of_ble_eq_true rfl, Nat.le_of_ble_eq_true rfl, Nat.le_of_ble_eq_true rfl⟩ 0 rfl (q := (RX7, TX7, 6)) rfl rfl [0, 1, 2, 3, 4, 5, 6, 7, 15, 17, 18] [8, 9, 10, 11, 12, 13, 14, 16] [8, 9, 10, 11, 12, 13, 14, 15, 0, 1, 2, 3, 4, 5, 6, 16, 7, 17, 18] rfl rfl ⟨rfl, rfl, rfl, by decide⟩ (fun _ => rfl) rfl (fun _ => rfl) hl.1 (Nat.le_of_ble_eq_true rfl) rfl dX7_run_56 (fun u3 hu3 H locs B => ?_)
  refine z_if_ne S (pc := 59) (tgt := 76) (by omega) dX7_run_59 rfl (fun c4 => ?_) (fun c4 => absurd c4 (by omega))
  refine z_aload_n S (pc := 76) dX7_run_76 rfl (lv_at hl 1 rfl) ?_
  refine z_get S (pc := 77) B iX7_run_X7 0 rfl rfl 5 (by decide) rfl rfl (by decide +kernel) dX7_run_77 ?_
  refine z_iconst S (pc := 80) dX7_run_80 ?_
  refine z_put S (pc := 81) B iX7_run_X3 tyX3_ok nmX3 15 rfl rfl 1 (by decide) rfl (by decide +kernel) (ty := .int) (by decide +kernel) rfl rfl (Nat.le_of_ble_eq_true rfl) dX7_run_81 (wn := [cSlo u o x1 x2 x3 x4 pa, cSta o a h, cMet a b f g ((exeL ((cfl χ pn 61 0 pm 0 κ ν).2.2.2.2.1) ((cfl χ pn 61 0 pm 0 κ ν).2.2.2.2.2) ((cfl χ pn 61 0 pm 0 κ ν).2.2.2.1).toNat 0 σ ρ).2.1) u3.2.1 u3.2.2.1 u3.2.2.2, cSig b ((exeL ((cfl χ pn 61 0 pm 0 κ ν).2.2.2.2.1) ((cfl χ pn 61 0 pm 0 κ ν).2.2.2.2.2) ((cfl χ pn 61 0 pm 0 κ ν).2.2.2.1).toNat 0 σ ρ).2.1), cSet f ((exeL ((cfl χ pn 61 0 pm 0 κ ν).2.2.2.2.1) ((cfl χ pn 61 0 pm 0 κ ν).2.2.2.2.2) ((cfl χ pn 61 0 pm 0 κ ν).2.2.2.1).toNat 0 σ ρ).2.1), cCon g ((exeL ((cfl χ pn 61 0 pm 0 κ ν).2.2.2.2.1) ((cfl χ pn 61 0 pm 0 κ ν).2.2.2.2.2) ((cfl χ pn 61 0 pm 0 κ ν).2.2.2.1).toNat 0 σ ρ).2.1) u3.1, cLog h i ((exeL ((cfl χ pn 61 0 pm 0 κ ν).2.2.2.2.1) ((cfl χ pn 61 0 pm 0 κ ν).2.2.2.2.2) ((cfl χ pn 61 0 pm 0 κ ν).2.2.2.1).toNat 0 σ ρ).2.1), cRow E i ((exeL ((cfl χ pn 61 0 pm 0 κ ν).2.2.2.2.1) ((cfl χ pn 61 0 pm 0 κ ν).2.2.2.2.2) ((cfl χ pn 61 0 pm 0 κ ν).2.2.2.1).toNat 0 σ ρ).2.2), cSta x1 a9 h9, cMet a9 b9 f9 g9 σ rr rb rn, cSig b9 σ, cSet f9 σ, cCon g9 σ ov, cLog h9 i9 σ, cRow E i9 ρ, cPad pa q1 q2 q3 0 ((cfl χ pn 61 0 pm 0 κ ν).2.2.2.1) ((cfl χ pn 61 0 pm 0 κ ν).2.2.1) ((cfl χ pn 61 0 pm 0 κ ν).2.1), cChr E q1 χ, cInt E q2 60 ((cfl χ pn 61 0 pm 0 κ ν).2.2.2.2.1), cInt E q3 60 ((cfl χ pn 61 0 pm 0 κ ν).2.2.2.2.2)]) rfl (fun H locs B => ?_)
  refine z_iload_n S (pc := 84) dX7_run_84 rfl (lv_at hl 0 rfl) ?_
  exact z_ireturn S hr hlk B ⟨u3.1, u3.2.1, u3.2.2.1, u3.2.2.2⟩ hu3 rfl rfl (pc := 85) dX7_run_85
set_option maxHeartbeats 4000000 in
set_option maxRecDepth 100000 in
theorem mX7_run_n (l : Launch) (E : gT) (u : Nat) (o : Nat) (x1 : Nat) (x2 : Nat) (x3 : Nat) (x4 : Nat) (a : Nat) (b : Nat) (f : Nat) (g : Nat) (σ : Nat → Int) (ov : Int) (rr : Int) (rb : Int) (rn : Int) (h : Nat) (i : Nat) (ρ : Nat → Int) (pa : Nat) (q1 : Nat) (q2 : Nat) (q3 : Nat) (pn : Int) (ps : Int) (pt : Int) (pm : Int) (χ : Nat → Int) (κ : Nat → Int) (ν : Nat → Int) (a9 : Nat) (b9 : Nat) (f9 : Nat) (g9 : Nat) (σ9 : Nat → Int) (ov9 : Int) (rr9 : Int) (rb9 : Int) (rn9 : Int) (h9 : Nat) (i9 : Nat) (ρ9 : Nat → Int) (hpn : 0 ≤ pn ∧ pn ≤ 60) (hX : inX χ) (hf : (cfl χ pn 61 0 pm 0 κ ν).1 = -6) (hps : 0 ≤ (cfl χ pn 61 0 pm 0 κ ν).2.2.2.1 ∧ (cfl χ pn 61 0 pm 0 κ ν).2.2.2.1 ≤ 59) (hok : okP ((cfl χ pn 61 0 pm 0 κ ν).2.2.2.2.1) ((cfl χ pn 61 0 pm 0 κ ν).2.2.2.2.2) ((cfl χ pn 61 0 pm 0 κ ν).2.2.2.1)) (hs : Sets σ) (hn : Nums σ) (ho : ov = 0 ∨ ov = 1) (hmany : σ 14 + sumS ((cfl χ pn 61 0 pm 0 κ ν).2.2.2.2.1) ((cfl χ pn 61 0 pm 0 κ ν).2.2.2.2.2) ((cfl χ pn 61 0 pm 0 κ ν).2.2.2.1).toNat 0 0 ≤ 10000) (ht : 0 ≤ σ 11 ∧ σ 11 + 3300 * (10000 - σ 14) ≤ 1800000000) (hex : (exeL ((cfl χ pn 61 0 pm 0 κ ν).2.2.2.2.1) ((cfl χ pn 61 0 pm 0 κ ν).2.2.2.2.2) ((cfl χ pn 61 0 pm 0 κ ν).2.2.2.1).toNat 0 σ ρ).1 = 0) : Cd l E yX7_run wsX7_run 7 160 0 0 [.ref u] [cSlo u o x1 x2 x3 x4 pa, cSta o a h, cMet a b f g σ rr rb rn, cSig b σ, cSet f σ, cCon g σ ov, cLog h i σ, cRow E i ρ, cSta x1 a9 h9, cMet a9 b9 f9 g9 σ9 rr9 rb9 rn9, cSig b9 σ9, cSet f9 σ9, cCon g9 σ9 ov9, cLog h9 i9 σ9, cRow E i9 ρ9, cPad pa q1 q2 q3 pn ps pt pm, cChr E q1 χ, cInt E q2 60 κ, cInt E q3 60 ν] (some (.int (iI (-5)))) [cSlo u o x1 x2 x3 x4 pa, cSta o a h, cMet a b f g σ rr rb rn, cSig b σ, cSet f σ, cCon g σ ov, cLog h i σ, cRow E i ρ, cSta x1 a9 h9, cMet a9 b9 f9 g9 σ rr rb rn, cSig b9 σ, cSet f9 σ, cCon g9 σ ov, cLog h9 i9 σ, cRow E i9 ρ, cPad pa q1 q2 q3 pn ((cfl χ pn 61 0 pm 0 κ ν).2.2.2.1) ((cfl χ pn 61 0 pm 0 κ ν).2.2.1) ((cfl χ pn 61 0 pm 0 κ ν).2.1), cChr E q1 χ, cInt E q2 60 ((cfl χ pn 61 0 pm 0 κ ν).2.2.2.2.1), cInt E q3 60 ((cfl χ pn 61 0 pm 0 κ ν).2.2.2.2.2)] := by
  refine Ct.mk (cc := cX7_run) (maxL := 2) (ret := (some .int)) (plainFor_of_name (by decide)) rfl (Nat.le_of_ble_eq_true rfl) ?_
  intro p e s m below meth c A ls H locs S hr hlk hnm B hl
  have S : CallFix p m c cX7_run 2 s #[.ref u] wsX7_run RX7 := S
  have hl : lv_has ls 2 [(0, .ref u)] := hl
  have hkk : ∀ z : Nat, (z : Int) < (cfl χ pn 61 0 pm 0 κ ν).2.2.2.1 → 0 ≤ (cfl χ pn 61 0 pm 0 κ ν).2.2.2.2.1 z ∧ (cfl χ pn 61 0 pm 0 κ ν).2.2.2.2.1 z ≤ 126 := fun z hz => by have := (hok z hz).1; omega
  have hge := sumS_ge hok ((cfl χ pn 61 0 pm 0 κ ν).2.2.2.1).toNat 0 0 (by omega) (by omega)
  obtain ⟨n12, n13, n14, n15, n16, n17, n18, n19, n20, n21, n22⟩ := id hn
  have hsm : sumS (cfl χ pn 61 0 pm 0 κ ν).2.2.2.2.1 (cfl χ pn 61 0 pm 0 κ ν).2.2.2.2.2 ((cfl χ pn 61 0 pm 0 κ ν).2.2.2.1).toNat 0 (σ 14) ≤ 10000 := by have e := sumS_add (κ := (cfl χ pn 61 0 pm 0 κ ν).2.2.2.2.1) (ν := (cfl χ pn 61 0 pm 0 κ ν).2.2.2.2.2) ((cfl χ pn 61 0 pm 0 κ ν).2.2.2.1).toNat 0 (σ 14) 0; rw [Int.add_zero] at e; omega
  refine z_aload_n S (pc := 0) dX7_run_0 rfl (lv_at hl 0 rfl) ?_
  refine z_get S (pc := 1) B iX7_run_X7 0 rfl rfl 5 (by decide) rfl rfl (by decide +kernel) dX7_run_1 ?_
  refine z_callV S (pc := 4) B (wr := [cSlo u o x1 x2 x3 x4 pa, cSta o a h, cMet a b f g σ rr rb rn, cSig b σ, cSet f σ, cCon g σ ov, cLog h i σ, cRow E i ρ, cSta x1 a9 h9, cMet a9 b9 f9 g9 σ9 rr9 rb9 rn9, cSig b9 σ9, cSet f9 σ9, cCon g9 σ9 ov9, cLog h9 i9 σ9, cRow E i9 ρ9]) (wn := fun _ => [cSlo u o x1 x2 x3 x4 pa, cSta o a h, cMet a b f g σ rr rb rn, cSig b σ, cSet f σ, cCon g σ ov, cLog h i σ, cRow E i ρ, cSta x1 a9 h9, cMet a9 b9 f9 g9 σ9 rr9 rb9 rn9, cSig b9 σ9, cSet f9 σ9, cCon g9 σ9 ov9, cLog h9 i9 σ9, cRow E i9 ρ9, cPad pa q1 q2 q3 pn ((cfl χ pn 61 0 pm 0 κ ν).2.2.2.1) ((cfl χ pn 61 0 pm 0 κ ν).2.2.1) ((cfl χ pn 61 0 pm 0 κ ν).2.1), cChr E q1 χ, cInt E q2 60 ((cfl χ pn 61 0 pm 0 κ ν).2.2.2.2.1), cInt E q3 60 ((cfl χ pn 61 0 pm 0 κ ν).2.2.2.2.2)]) (st1 := fun _ => [.int (iI ((cfl χ pn 61 0 pm 0 κ ν).1))]) (As := []) (mX3_findFault l E pa q1 q2 q3 pn ps pt pm χ κ ν (show 0 ≤ pn ∧ pn ≤ 60 from by omega) (show inX χ from by assumption)) gX7_run_X3_findFault 0 rfl (by decide +kernel) ⟨Nat.le_of_ble_eq_true rfl, Nat.le_of_ble_eq_true rfl, Nat.le_of_ble_eq_true rfl, Nat.le_of_ble_eq_true rfl⟩ 0 rfl (q := (RX3, TX3, 7)) rfl rfl [15, 16, 17, 18] [0, 1, 2, 3, 4, 5, 6, 7, 8, 9, 10, 11, 12, 13, 14] [0, 1, 2, 3, 4, 5, 6, 7, 8, 9, 10, 11, 12, 13, 14, 15, 16, 17, 18] rfl rfl ⟨rfl, rfl, rfl, by decide⟩ (fun _ => rfl) rfl (fun _ => rfl) hl.1 (Nat.le_of_ble_eq_true rfl) rfl dX7_run_4 (fun _ _ H locs B => ?_)
  refine z_bipush S (pc := 7) dX7_run_7 rfl ?_
  refine z_icmp_eq S (pc := 9) (tgt := 15) (by omega) (by omega) dX7_run_9 rfl (fun c1 => ?_) (fun c1 => absurd c1 (by omega))
  refine z_aload_n S (pc := 15) dX7_run_15 rfl (lv_at hl 0 rfl) ?_
  refine z_get S (pc := 16) B iX7_run_X7 0 rfl rfl 5 (by decide) rfl rfl (by decide +kernel) dX7_run_16 ?_
  refine z_callV S (pc := 19) B (wr := [cSlo u o x1 x2 x3 x4 pa, cSta o a h, cMet a b f g σ rr rb rn, cSig b σ, cSet f σ, cCon g σ ov, cLog h i σ, cRow E i ρ, cSta x1 a9 h9, cMet a9 b9 f9 g9 σ9 rr9 rb9 rn9, cSig b9 σ9, cSet f9 σ9, cCon g9 σ9 ov9, cLog h9 i9 σ9, cRow E i9 ρ9, cChr E q1 χ]) (wn := fun _ => [cSlo u o x1 x2 x3 x4 pa, cSta o a h, cMet a b f g σ rr rb rn, cSig b σ, cSet f σ, cCon g σ ov, cLog h i σ, cRow E i ρ, cSta x1 a9 h9, cMet a9 b9 f9 g9 σ9 rr9 rb9 rn9, cSig b9 σ9, cSet f9 σ9, cCon g9 σ9 ov9, cLog h9 i9 σ9, cRow E i9 ρ9, cPad pa q1 q2 q3 pn ((cfl χ pn 61 0 pm 0 κ ν).2.2.2.1) ((cfl χ pn 61 0 pm 0 κ ν).2.2.1) ((cfl χ pn 61 0 pm 0 κ ν).2.1), cChr E q1 χ, cInt E q2 60 ((cfl χ pn 61 0 pm 0 κ ν).2.2.2.2.1), cInt E q3 60 ((cfl χ pn 61 0 pm 0 κ ν).2.2.2.2.2)]) (st1 := fun _ => [.int (iI (sumS ((cfl χ pn 61 0 pm 0 κ ν).2.2.2.2.1) ((cfl χ pn 61 0 pm 0 κ ν).2.2.2.2.2) ((cfl χ pn 61 0 pm 0 κ ν).2.2.2.1).toNat 0 0))]) (As := []) (mX3_countReadings l E pa q1 q2 q3 pn ((cfl χ pn 61 0 pm 0 κ ν).2.2.2.1) ((cfl χ pn 61 0 pm 0 κ ν).2.2.1) ((cfl χ pn 61 0 pm 0 κ ν).2.1) χ ((cfl χ pn 61 0 pm 0 κ ν).2.2.2.2.1) ((cfl χ pn 61 0 pm 0 κ ν).2.2.2.2.2) (show 0 ≤ ((cfl χ pn 61 0 pm 0 κ ν).2.2.2.1) ∧ ((cfl χ pn 61 0 pm 0 κ ν).2.2.2.1) ≤ 59 from by omega) (show ∀ z : Nat, (z : Int) < ((cfl χ pn 61 0 pm 0 κ ν).2.2.2.1) → 0 ≤ ((cfl χ pn 61 0 pm 0 κ ν).2.2.2.2.1) z ∧ ((cfl χ pn 61 0 pm 0 κ ν).2.2.2.2.1) z ≤ 126 from by assumption)) gX7_run_X3_countReadings 0 rfl (by decide +kernel) ⟨Nat.le_of_ble_eq_true rfl, Nat.le_of_ble_eq_true rfl, Nat.le_of_ble_eq_true rfl, Nat.le_of_ble_eq_true rfl⟩ 0 rfl (q := (RX3, TX3, 7)) rfl rfl [15, 17, 18] [0, 1, 2, 3, 4, 5, 6, 7, 8, 9, 10, 11, 12, 13, 14, 16] [0, 1, 2, 3, 4, 5, 6, 7, 8, 9, 10, 11, 12, 13, 14, 16, 15, 17, 18] rfl rfl ⟨rfl, rfl, rfl, by decide⟩ (fun _ => rfl) rfl (fun _ => rfl) hl.1 (Nat.le_of_ble_eq_true rfl) rfl dX7_run_19 (fun _ _ H locs B => ?_)
  refine lv_istore_n (lv' := [(1, .int (iI (sumS ((cfl χ pn 61 0 pm 0 κ ν).2.2.2.2.1) ((cfl χ pn 61 0 pm 0 κ ν).2.2.2.2.2) ((cfl χ pn 61 0 pm 0 κ ν).2.2.2.1).toNat 0 0))), (0, .ref u)]) S.1 S.2.1 (pc := 22) dX7_run_22 rfl hl (by decide) rfl (fun ls hl => ?_)
  refine z_aload_n S (pc := 23) dX7_run_23 rfl (lv_at hl 1 rfl) ?_
  refine z_get S (pc := 24) B iX7_run_X7 0 rfl rfl 0 (by decide) rfl rfl (by decide +kernel) dX7_run_24 ?_
  refine z_get S (pc := 27) B iX7_run_X6 1 rfl rfl 1 (by decide) rfl rfl (by decide +kernel) dX7_run_27 ?_
  refine z_get S (pc := 30) B iX7_run_X1 6 rfl rfl 1 (by decide) rfl rfl (by decide +kernel) dX7_run_30 ?_
  refine z_iload_n S (pc := 33) dX7_run_33 rfl (lv_at hl 0 rfl) ?_
  refine z_iadd S (pc := 34) dX7_run_34 ?_
  refine z_sipush S (pc := 35) dX7_run_35 rfl ?_
  refine z_icmp_le S (pc := 38) (tgt := 44) (by omega) (by omega) dX7_run_38 rfl (fun c2 => ?_) (fun c2 => absurd c2 (by omega))
  refine z_aload_n S (pc := 44) dX7_run_44 rfl (lv_at hl 1 rfl) ?_
  refine z_get S (pc := 45) B iX7_run_X7 0 rfl rfl 1 (by decide) rfl rfl (by decide +kernel) dX7_run_45 ?_
  refine z_aload_n S (pc := 48) dX7_run_48 rfl (lv_at hl 1 rfl) ?_
  refine z_get S (pc := 49) B iX7_run_X7 0 rfl rfl 0 (by decide) rfl rfl (by decide +kernel) dX7_run_49 ?_
  refine z_callV S (pc := 52) B (wr := [cSlo u o x1 x2 x3 x4 pa, cPad pa q1 q2 q3 pn ((cfl χ pn 61 0 pm 0 κ ν).2.2.2.1) ((cfl χ pn 61 0 pm 0 κ ν).2.2.1) ((cfl χ pn 61 0 pm 0 κ ν).2.1), cChr E q1 χ, cInt E q2 60 ((cfl χ pn 61 0 pm 0 κ ν).2.2.2.2.1), cInt E q3 60 ((cfl χ pn 61 0 pm 0 κ ν).2.2.2.2.2)]) (wn := fun _ => [cSlo u o x1 x2 x3 x4 pa, cSta o a h, cMet a b f g σ rr rb rn, cSig b σ, cSet f σ, cCon g σ ov, cLog h i σ, cRow E i ρ, cSta x1 a9 h9, cMet a9 b9 f9 g9 σ rr rb rn, cSig b9 σ, cSet f9 σ, cCon g9 σ ov, cLog h9 i9 σ, cRow E i9 ρ, cPad pa q1 q2 q3 pn ((cfl χ pn 61 0 pm 0 κ ν).2.2.2.1) ((cfl χ pn 61 0 pm 0 κ ν).2.2.1) ((cfl χ pn 61 0 pm 0 κ ν).2.1), cChr E q1 χ, cInt E q2 60 ((cfl χ pn 61 0 pm 0 κ ν).2.2.2.2.1), cInt E q3 60 ((cfl χ pn 61 0 pm 0 κ ν).2.2.2.2.2)]) (st1 := fun _ => []) (As := [.ref o]) (mX6_copyFrom l E x1 a9 b9 f9 g9 σ9 ov9 rr9 rb9 rn9 h9 i9 ρ9 o a b f g σ ov rr rb rn h i ρ (show σ 22 = 0 ∨ σ 22 = 1 from by omega) (show ov = 0 ∨ ov = 1 from by omega)) gX7_run_X6_copyFrom 1 rfl (by decide +kernel) ⟨Nat.le_of_ble_eq_true rfl, Nat.le_of_ble_eq_true rfl, Nat.le_of_ble_eq_true rfl, Nat.le_of_ble_eq_true rfl⟩ 0 rfl (q := (RX6, TX6, 2)) rfl rfl [8, 9, 10, 11, 12, 13, 14, 1, 2, 3, 4, 5, 6, 7] [0, 15, 16, 17, 18] [0, 12, 13, 14, 15, 16, 17, 18, 5, 6, 7, 8, 9, 10, 11, 1, 2, 3, 4] rfl rfl ⟨rfl, rfl, rfl, by decide⟩ (fun _ => rfl) rfl (fun _ => rfl) hl.1 (Nat.le_of_ble_eq_true rfl) rfl dX7_run_52 (fun _ _ H locs B => ?_)
  refine z_aload_n S (pc := 55) dX7_run_55 rfl (lv_at hl 1 rfl) ?_
  refine z_callV S (pc := 56) B (wr := [cSta x1 a9 h9, cMet a9 b9 f9 g9 σ rr rb rn, cSig b9 σ, cSet f9 σ, cCon g9 σ ov, cLog h9 i9 σ, cRow E i9 ρ, cChr E q1 χ]) (wn := fun u3 => [cSlo u o x1 x2 x3 x4 pa, cSta o a h, cMet a b f g ((exeL ((cfl χ pn 61 0 pm 0 κ ν).2.2.2.2.1) ((cfl χ pn 61 0 pm 0 κ ν).2.2.2.2.2) ((cfl χ pn 61 0 pm 0 κ ν).2.2.2.1).toNat 0 σ ρ).2.1) u3.2.1 u3.2.2.1 u3.2.2.2, cSig b ((exeL ((cfl χ pn 61 0 pm 0 κ ν).2.2.2.2.1) ((cfl χ pn 61 0 pm 0 κ ν).2.2.2.2.2) ((cfl χ pn 61 0 pm 0 κ ν).2.2.2.1).toNat 0 σ ρ).2.1), cSet f ((exeL ((cfl χ pn 61 0 pm 0 κ ν).2.2.2.2.1) ((cfl χ pn 61 0 pm 0 κ ν).2.2.2.2.2) ((cfl χ pn 61 0 pm 0 κ ν).2.2.2.1).toNat 0 σ ρ).2.1), cCon g ((exeL ((cfl χ pn 61 0 pm 0 κ ν).2.2.2.2.1) ((cfl χ pn 61 0 pm 0 κ ν).2.2.2.2.2) ((cfl χ pn 61 0 pm 0 κ ν).2.2.2.1).toNat 0 σ ρ).2.1) u3.1, cLog h i ((exeL ((cfl χ pn 61 0 pm 0 κ ν).2.2.2.2.1) ((cfl χ pn 61 0 pm 0 κ ν).2.2.2.2.2) ((cfl χ pn 61 0 pm 0 κ ν).2.2.2.1).toNat 0 σ ρ).2.1), cRow E i ((exeL ((cfl χ pn 61 0 pm 0 κ ν).2.2.2.2.1) ((cfl χ pn 61 0 pm 0 κ ν).2.2.2.2.2) ((cfl χ pn 61 0 pm 0 κ ν).2.2.2.1).toNat 0 σ ρ).2.2), cSta x1 a9 h9, cMet a9 b9 f9 g9 σ rr rb rn, cSig b9 σ, cSet f9 σ, cCon g9 σ ov, cLog h9 i9 σ, cRow E i9 ρ, cPad pa q1 q2 q3 pn ((cfl χ pn 61 0 pm 0 κ ν).2.2.2.1) ((cfl χ pn 61 0 pm 0 κ ν).2.2.1) ((cfl χ pn 61 0 pm 0 κ ν).2.1), cChr E q1 χ, cInt E q2 60 ((cfl χ pn 61 0 pm 0 κ ν).2.2.2.2.1), cInt E q3 60 ((cfl χ pn 61 0 pm 0 κ ν).2.2.2.2.2)]) (st1 := fun _ => [.int (iI ((exeL ((cfl χ pn 61 0 pm 0 κ ν).2.2.2.2.1) ((cfl χ pn 61 0 pm 0 κ ν).2.2.2.2.2) ((cfl χ pn 61 0 pm 0 κ ν).2.2.2.1).toNat 0 σ ρ).1))]) (As := []) (mX7_carryOutPad l E u o x1 x2 x3 x4 a b f g σ ov rr rb rn h i ρ pa q1 q2 q3 pn ((cfl χ pn 61 0 pm 0 κ ν).2.2.2.1) ((cfl χ pn 61 0 pm 0 κ ν).2.2.1) ((cfl χ pn 61 0 pm 0 κ ν).2.1) (fun _ => 0) ((cfl χ pn 61 0 pm 0 κ ν).2.2.2.2.1) ((cfl χ pn 61 0 pm 0 κ ν).2.2.2.2.2) (show 0 ≤ ((cfl χ pn 61 0 pm 0 κ ν).2.2.2.1) ∧ ((cfl χ pn 61 0 pm 0 κ ν).2.2.2.1) ≤ 59 from by omega) (show okP ((cfl χ pn 61 0 pm 0 κ ν).2.2.2.2.1) ((cfl χ pn 61 0 pm 0 κ ν).2.2.2.2.2) ((cfl χ pn 61 0 pm 0 κ ν).2.2.2.1) from by assumption) (show Sets σ from by assumption) (show Nums σ from by assumption) (show ov = 0 ∨ ov = 1 from by omega) (show sumS ((cfl χ pn 61 0 pm 0 κ ν).2.2.2.2.1) ((cfl χ pn 61 0 pm 0 κ ν).2.2.2.2.2) ((cfl χ pn 61 0 pm 0 κ ν).2.2.2.1).toNat 0 (σ 14) ≤ 10000 from by omega) (show 0 ≤ σ 11 ∧ σ 11 + 3300 * (10000 - σ 14) + 1650 * ((cfl χ pn 61 0 pm 0 κ ν).2.2.2.1) ≤ 1900000000 from by omega)) gX7_run_X7_carryOutPad 0 rfl (by decide +kernel) ⟨Nat.le_of_ble_eq_true rfl, Nat.le_of_ble_eq_true rfl, Nat.le_of_ble_eq_true rfl, Nat.le_of_ble_eq_true rfl⟩ 0 rfl (q := (RX7, TX7, 6)) rfl rfl [0, 1, 2, 3, 4, 5, 6, 7, 15, 17, 18] [8, 9, 10, 11, 12, 13, 14, 16] [8, 9, 10, 11, 12, 13, 14, 15, 0, 1, 2, 3, 4, 5, 6, 16, 7, 17, 18] rfl rfl ⟨rfl, rfl, rfl, by decide⟩ (fun _ => rfl) rfl (fun _ => rfl) hl.1 (Nat.le_of_ble_eq_true rfl) rfl dX7_run_56 (fun u3 hu3 H locs B => ?_)
  refine z_if_ne S (pc := 59) (tgt := 76) (by omega) dX7_run_59 rfl (fun c4 => absurd c4 (by omega)) (fun c4 => ?_)
  refine z_aload_n S (pc := 62) dX7_run_62 rfl (lv_at hl 1 rfl) ?_
  refine z_get S (pc := 63) B iX7_run_X7 0 rfl rfl 0 (by decide) rfl rfl (by decide +kernel) dX7_run_63 ?_
  refine z_aload_n S (pc := 66) dX7_run_66 rfl (lv_at hl 1 rfl) ?_
  refine z_get S (pc := 67) B iX7_run_X7 0 rfl rfl 1 (by decide) rfl rfl (by decide +kernel) dX7_run_67 ?_
  refine z_callV S (pc := 70) B (wr := [cSlo u o x1 x2 x3 x4 pa, cPad pa q1 q2 q3 pn ((cfl χ pn 61 0 pm 0 κ ν).2.2.2.1) ((cfl χ pn 61 0 pm 0 κ ν).2.2.1) ((cfl χ pn 61 0 pm 0 κ ν).2.1), cChr E q1 χ, cInt E q2 60 ((cfl χ pn 61 0 pm 0 κ ν).2.2.2.2.1), cInt E q3 60 ((cfl χ pn 61 0 pm 0 κ ν).2.2.2.2.2)]) (wn := fun _ => [cSlo u o x1 x2 x3 x4 pa, cSta o a h, cMet a b f g σ rr rb rn, cSig b σ, cSet f σ, cCon g σ ov, cLog h i σ, cRow E i ρ, cSta x1 a9 h9, cMet a9 b9 f9 g9 σ rr rb rn, cSig b9 σ, cSet f9 σ, cCon g9 σ ov, cLog h9 i9 σ, cRow E i9 ρ, cPad pa q1 q2 q3 pn ((cfl χ pn 61 0 pm 0 κ ν).2.2.2.1) ((cfl χ pn 61 0 pm 0 κ ν).2.2.1) ((cfl χ pn 61 0 pm 0 κ ν).2.1), cChr E q1 χ, cInt E q2 60 ((cfl χ pn 61 0 pm 0 κ ν).2.2.2.2.1), cInt E q3 60 ((cfl χ pn 61 0 pm 0 κ ν).2.2.2.2.2)]) (st1 := fun _ => []) (As := [.ref x1]) (mX6_copyFrom l E o a b f g ((exeL ((cfl χ pn 61 0 pm 0 κ ν).2.2.2.2.1) ((cfl χ pn 61 0 pm 0 κ ν).2.2.2.2.2) ((cfl χ pn 61 0 pm 0 κ ν).2.2.2.1).toNat 0 σ ρ).2.1) u3.1 u3.2.1 u3.2.2.1 u3.2.2.2 h i ((exeL ((cfl χ pn 61 0 pm 0 κ ν).2.2.2.2.1) ((cfl χ pn 61 0 pm 0 κ ν).2.2.2.2.2) ((cfl χ pn 61 0 pm 0 κ ν).2.2.2.1).toNat 0 σ ρ).2.2) x1 a9 b9 f9 g9 σ ov rr rb rn h9 i9 ρ (show σ 22 = 0 ∨ σ 22 = 1 from by omega) (show ov = 0 ∨ ov = 1 from by omega)) gX7_run_X6_copyFrom 1 rfl (by decide +kernel) ⟨Nat.le_of_ble_eq_true rfl, Nat.le_of_ble_eq_true rfl, Nat.le_of_ble_eq_true rfl, Nat.le_of_ble_eq_true rfl⟩ 0 rfl (q := (RX6, TX6, 2)) rfl rfl [1, 2, 3, 4, 5, 6, 7, 8, 9, 10, 11, 12, 13, 14] [0, 15, 16, 17, 18] [0, 5, 6, 7, 8, 9, 10, 11, 12, 13, 14, 15, 16, 17, 18, 1, 2, 3, 4] rfl rfl ⟨rfl, rfl, rfl, by decide⟩ (fun _ => rfl) rfl (fun _ => rfl) hl.1 (Nat.le_of_ble_eq_true rfl) rfl dX7_run_70 (fun _ _ H locs B => ?_)
  refine z_bipush S (pc := 73) dX7_run_73 rfl ?_
  exact z_ireturn S hr hlk B () trivial rfl rfl (pc := 75) dX7_run_75
theorem iX7_isNoSlot_X7 : ∀ w ∈ wsX70, w ∈ wsX7_isNoSlot := by decide +kernel
set_option maxHeartbeats 4000000 in
set_option maxRecDepth 100000 in
theorem mX7_isNoSlot_0 (l : Launch) (E : gT) (u : Nat) (o : Nat) (x1 : Nat) (x2 : Nat) (x3 : Nat) (x4 : Nat) (x5 : Nat) (o2 : Nat) (s9 : Nat) (β : Nat → Int)  : Cd l E yX7_isNoSlot wsX7_isNoSlot 0 0 0 0 [.ref u, .int (iI 0)] [cSlo u o x1 x2 x3 x4 x5, cSav E x2 o2 s9, cIsv E x3 β] (some (.int (iI 0))) [cSlo u o x1 x2 x3 x4 x5, cSav E x2 o2 s9, cIsv E x3 β] := by
  refine Ct.mk (cc := cX7_isNoSlot) (maxL := 2) (ret := (some .boolean)) (plainFor_of_name (by decide)) rfl (Nat.le_of_ble_eq_true rfl) ?_
  intro p e s m below meth c A ls H locs S hr hlk hnm B hl
  have S : CallFix p m c cX7_isNoSlot 2 s #[.ref u, .int (iI 0)] wsX7_isNoSlot RX7 := S
  have hl : lv_has ls 2 [(0, .ref u), (1, .int (iI 0))] := hl
  refine z_iload_n S (pc := 0) dX7_isNoSlot_0 rfl (lv_at hl 1 rfl) ?_
  refine z_if_lt S (pc := 1) (tgt := 31) (by omega) dX7_isNoSlot_1 rfl (fun c1 => absurd c1 (by omega)) (fun c1 => ?_)
  refine z_iload_n S (pc := 4) dX7_isNoSlot_4 rfl (lv_at hl 1 rfl) ?_
  refine z_aload_n S (pc := 5) dX7_isNoSlot_5 rfl (lv_at hl 0 rfl) ?_
  refine z_get S (pc := 6) B iX7_isNoSlot_X7 0 rfl rfl 2 (by decide) rfl rfl (by decide +kernel) dX7_isNoSlot_6 ?_
  refine z_alen S (pc := 9) B 1 4 rfl rfl (n := 2) rfl dX7_isNoSlot_9 ?_
  refine z_icmp_ge S (pc := 10) (tgt := 31) (by omega) (by omega) dX7_isNoSlot_10 rfl (fun c2 => absurd c2 (by omega)) (fun c2 => ?_)
  refine z_iload_n S (pc := 13) dX7_isNoSlot_13 rfl (lv_at hl 1 rfl) ?_
  refine z_aload_n S (pc := 14) dX7_isNoSlot_14 rfl (lv_at hl 0 rfl) ?_
  refine z_get S (pc := 15) B iX7_isNoSlot_X7 0 rfl rfl 3 (by decide) rfl rfl (by decide +kernel) dX7_isNoSlot_15 ?_
  refine z_alen S (pc := 18) B 2 3 rfl rfl (n := 2) rfl dX7_isNoSlot_18 ?_
  refine z_icmp_ge S (pc := 19) (tgt := 31) (by omega) (by omega) dX7_isNoSlot_19 rfl (fun c3 => absurd c3 (by omega)) (fun c3 => ?_)
  refine z_aload_n S (pc := 22) dX7_isNoSlot_22 rfl (lv_at hl 0 rfl) ?_
  refine z_get S (pc := 23) B iX7_isNoSlot_X7 0 rfl rfl 2 (by decide) rfl rfl (by decide +kernel) dX7_isNoSlot_23 ?_
  refine z_iload_n S (pc := 26) dX7_isNoSlot_26 rfl (lv_at hl 1 rfl) ?_
  refine z_aald S (pc := 27) B 1 4 rfl rfl (k := 0) rfl (by decide) (by decide) (v := .ref o2) rfl dX7_isNoSlot_27 ?_
  refine lv_ifnonnull S.1 S.2.1 (pc := 28) (tgt := 35) dX7_isNoSlot_28 rfl ?_
  refine z_iconst S (pc := 35) dX7_isNoSlot_35 ?_
  exact z_zreturn S (by omega) hr hlk B () trivial rfl rfl (pc := 36) dX7_isNoSlot_36
theorem iX7_save_X1 : ∀ w ∈ wsX10, w ∈ wsX7_save := by decide +kernel
theorem iX7_save_X6 : ∀ w ∈ wsX60, w ∈ wsX7_save := by decide +kernel
theorem iX7_save_X7 : ∀ w ∈ wsX70, w ∈ wsX7_save := by decide +kernel
set_option maxHeartbeats 4000000 in
set_option maxRecDepth 100000 in
theorem mX7_save_0 (l : Launch) (E : gT) (u : Nat) (o : Nat) (x1 : Nat) (x2 : Nat) (x3 : Nat) (x4 : Nat) (x5 : Nat) (a : Nat) (b : Nat) (f : Nat) (g : Nat) (σ : Nat → Int) (ov : Int) (rr : Int) (rb : Int) (rn : Int) (h : Nat) (i : Nat) (ρ : Nat → Int) (o2 : Nat) (a2 : Nat) (b2 : Nat) (f2 : Nat) (g2 : Nat) (σ2 : Nat → Int) (ov2 : Int) (rr2 : Int) (rb2 : Int) (rn2 : Int) (h2 : Nat) (i2 : Nat) (ρ2 : Nat → Int) (s9 : Nat) (β : Nat → Int) (h22 : σ 22 = 0 ∨ σ 22 = 1) (ho : ov = 0 ∨ ov = 1) : Cd l E yX7_save wsX7_save 3 102 0 0 [.ref u, .int (iI 0)] [cSlo u o x1 x2 x3 x4 x5, cSav E x2 o2 s9, cIsv E x3 β, cSta o a h, cMet a b f g σ rr rb rn, cSig b σ, cSet f σ, cCon g σ ov, cLog h i σ, cRow E i ρ, cSta o2 a2 h2, cMet a2 b2 f2 g2 σ2 rr2 rb2 rn2, cSig b2 σ2, cSet f2 σ2, cCon g2 σ2 ov2, cLog h2 i2 σ2, cRow E i2 ρ2] (some (.int (iI (σ 14)))) [cSlo u o x1 x2 x3 x4 x5, cSav E x2 o2 s9, cIsv E x3 (up β 0 1), cSta o a h, cMet a b f g σ rr rb rn, cSig b σ, cSet f σ, cCon g σ ov, cLog h i σ, cRow E i ρ, cSta o2 a2 h2, cMet a2 b2 f2 g2 σ rr rb rn, cSig b2 σ, cSet f2 σ, cCon g2 σ ov, cLog h2 i2 σ, cRow E i2 ρ] := by
  refine Ct.mk (cc := cX7_save) (maxL := 2) (ret := (some .int)) (plainFor_of_name (by decide)) rfl (Nat.le_of_ble_eq_true rfl) ?_
  intro p e s m below meth c A ls H locs S hr hlk hnm B hl
  have S : CallFix p m c cX7_save 2 s #[.ref u, .int (iI 0)] wsX7_save RX7 := S
  have hl : lv_has ls 2 [(0, .ref u), (1, .int (iI 0))] := hl
  refine z_aload_n S (pc := 0) dX7_save_0 rfl (lv_at hl 0 rfl) ?_
  refine z_iload_n S (pc := 1) dX7_save_1 rfl (lv_at hl 1 rfl) ?_
  refine z_callV S (pc := 2) B (wr := [cSta o a h, cMet a b f g σ rr rb rn, cSig b σ, cSet f σ, cCon g σ ov, cLog h i σ, cRow E i ρ, cSta o2 a2 h2, cMet a2 b2 f2 g2 σ2 rr2 rb2 rn2, cSig b2 σ2, cSet f2 σ2, cCon g2 σ2 ov2, cLog h2 i2 σ2, cRow E i2 ρ2]) (wn := fun _ => [cSlo u o x1 x2 x3 x4 x5, cSav E x2 o2 s9, cIsv E x3 β, cSta o a h, cMet a b f g σ rr rb rn, cSig b σ, cSet f σ, cCon g σ ov, cLog h i σ, cRow E i ρ, cSta o2 a2 h2, cMet a2 b2 f2 g2 σ2 rr2 rb2 rn2, cSig b2 σ2, cSet f2 σ2, cCon g2 σ2 ov2, cLog h2 i2 σ2, cRow E i2 ρ2]) (st1 := fun _ => [.int (iI 0)]) (As := [.int (iI 0)]) (mX7_isNoSlot_0 l E u o x1 x2 x3 x4 x5 o2 s9 β ) gX7_save_X7_isNoSlot 1 rfl (by decide +kernel) ⟨Nat.le_of_ble_eq_true rfl, Nat.le_of_ble_eq_true rfl, Nat.le_of_ble_eq_true rfl, Nat.le_of_ble_eq_true rfl⟩ 0 rfl (q := (RX7, TX7, 6)) rfl rfl [0, 1, 2] [3, 4, 5, 6, 7, 8, 9, 10, 11, 12, 13, 14, 15, 16] [14, 15, 16, 0, 1, 2, 3, 4, 5, 6, 7, 8, 9, 10, 11, 12, 13] rfl rfl ⟨rfl, rfl, rfl, by decide⟩ (fun _ => rfl) rfl (fun _ => rfl) hl.1 (Nat.le_of_ble_eq_true rfl) rfl dX7_save_2 (fun _ _ H locs B => ?_)
  refine z_if_eq S (pc := 5) (tgt := 11) (by omega) dX7_save_5 rfl (fun c1 => ?_) (fun c1 => absurd c1 (by omega))
  refine z_aload_n S (pc := 11) dX7_save_11 rfl (lv_at hl 0 rfl) ?_
  refine z_get S (pc := 12) B iX7_save_X7 0 rfl rfl 2 (by decide) rfl rfl (by decide +kernel) dX7_save_12 ?_
  refine z_iload_n S (pc := 15) dX7_save_15 rfl (lv_at hl 1 rfl) ?_
  refine z_aald S (pc := 16) B 1 4 rfl rfl (k := 0) rfl (by decide) (by decide) (v := .ref o2) rfl dX7_save_16 ?_
  refine z_aload_n S (pc := 17) dX7_save_17 rfl (lv_at hl 0 rfl) ?_
  refine z_get S (pc := 18) B iX7_save_X7 0 rfl rfl 0 (by decide) rfl rfl (by decide +kernel) dX7_save_18 ?_
  refine z_callV S (pc := 21) B (wr := [cSlo u o x1 x2 x3 x4 x5, cSav E x2 o2 s9, cIsv E x3 β]) (wn := fun _ => [cSlo u o x1 x2 x3 x4 x5, cSav E x2 o2 s9, cIsv E x3 β, cSta o a h, cMet a b f g σ rr rb rn, cSig b σ, cSet f σ, cCon g σ ov, cLog h i σ, cRow E i ρ, cSta o2 a2 h2, cMet a2 b2 f2 g2 σ rr rb rn, cSig b2 σ, cSet f2 σ, cCon g2 σ ov, cLog h2 i2 σ, cRow E i2 ρ]) (st1 := fun _ => []) (As := [.ref o]) (mX6_copyFrom l E o2 a2 b2 f2 g2 σ2 ov2 rr2 rb2 rn2 h2 i2 ρ2 o a b f g σ ov rr rb rn h i ρ (show σ 22 = 0 ∨ σ 22 = 1 from by omega) (show ov = 0 ∨ ov = 1 from by omega)) gX7_save_X6_copyFrom 1 rfl (by decide +kernel) ⟨Nat.le_of_ble_eq_true rfl, Nat.le_of_ble_eq_true rfl, Nat.le_of_ble_eq_true rfl, Nat.le_of_ble_eq_true rfl⟩ 0 rfl (q := (RX6, TX6, 2)) rfl rfl [10, 11, 12, 13, 14, 15, 16, 3, 4, 5, 6, 7, 8, 9] [0, 1, 2] [0, 1, 2, 10, 11, 12, 13, 14, 15, 16, 3, 4, 5, 6, 7, 8, 9] rfl rfl ⟨rfl, rfl, rfl, by decide⟩ (fun _ => rfl) rfl (fun _ => rfl) hl.1 (Nat.le_of_ble_eq_true rfl) rfl dX7_save_21 (fun _ _ H locs B => ?_)
  refine z_aload_n S (pc := 24) dX7_save_24 rfl (lv_at hl 0 rfl) ?_
  refine z_get S (pc := 25) B iX7_save_X7 0 rfl rfl 3 (by decide) rfl rfl (by decide +kernel) dX7_save_25 ?_
  refine z_iload_n S (pc := 28) dX7_save_28 rfl (lv_at hl 1 rfl) ?_
  refine z_iconst S (pc := 29) dX7_save_29 ?_
  refine z_zast S (pc := 30) B 2 3 rfl rfl (k := 0) rfl (by decide) (by decide) rfl dX7_save_30 (wn := [cSlo u o x1 x2 x3 x4 x5, cSav E x2 o2 s9, cIsv E x3 (up β 0 1), cSta o a h, cMet a b f g σ rr rb rn, cSig b σ, cSet f σ, cCon g σ ov, cLog h i σ, cRow E i ρ, cSta o2 a2 h2, cMet a2 b2 f2 g2 σ rr rb rn, cSig b2 σ, cSet f2 σ, cCon g2 σ ov, cLog h2 i2 σ, cRow E i2 ρ]) (by rw [iat_up]; rfl) (fun H locs B => ?_)
  refine z_aload_n S (pc := 31) dX7_save_31 rfl (lv_at hl 0 rfl) ?_
  refine z_get S (pc := 32) B iX7_save_X7 0 rfl rfl 0 (by decide) rfl rfl (by decide +kernel) dX7_save_32 ?_
  refine z_get S (pc := 35) B iX7_save_X6 3 rfl rfl 1 (by decide) rfl rfl (by decide +kernel) dX7_save_35 ?_
  refine z_get S (pc := 38) B iX7_save_X1 8 rfl rfl 1 (by decide) rfl rfl (by decide +kernel) dX7_save_38 ?_
  exact z_ireturn S hr hlk B () trivial rfl rfl (pc := 41) dX7_save_41
theorem iX7_restore_X1 : ∀ w ∈ wsX10, w ∈ wsX7_restore := by decide +kernel
theorem iX7_restore_X6 : ∀ w ∈ wsX60, w ∈ wsX7_restore := by decide +kernel
theorem iX7_restore_X7 : ∀ w ∈ wsX70, w ∈ wsX7_restore := by decide +kernel
set_option maxHeartbeats 4000000 in
set_option maxRecDepth 100000 in
theorem mX7_restore_0 (l : Launch) (E : gT) (u : Nat) (o : Nat) (x1 : Nat) (x2 : Nat) (x3 : Nat) (x4 : Nat) (x5 : Nat) (a : Nat) (b : Nat) (f : Nat) (g : Nat) (σ : Nat → Int) (ov : Int) (rr : Int) (rb : Int) (rn : Int) (h : Nat) (i : Nat) (ρ : Nat → Int) (o2 : Nat) (a2 : Nat) (b2 : Nat) (f2 : Nat) (g2 : Nat) (σ2 : Nat → Int) (ov2 : Int) (rr2 : Int) (rb2 : Int) (rn2 : Int) (h2 : Nat) (i2 : Nat) (ρ2 : Nat → Int) (s9 : Nat) (β : Nat → Int) (h22 : σ2 22 = 0 ∨ σ2 22 = 1) (ho : ov2 = 0 ∨ ov2 = 1) (hb : β 0 = 1) : Cd l E yX7_restore wsX7_restore 3 102 0 0 [.ref u, .int (iI 0)] [cSlo u o x1 x2 x3 x4 x5, cSav E x2 o2 s9, cIsv E x3 β, cSta o a h, cMet a b f g σ rr rb rn, cSig b σ, cSet f σ, cCon g σ ov, cLog h i σ, cRow E i ρ, cSta o2 a2 h2, cMet a2 b2 f2 g2 σ2 rr2 rb2 rn2, cSig b2 σ2, cSet f2 σ2, cCon g2 σ2 ov2, cLog h2 i2 σ2, cRow E i2 ρ2] (some (.int (iI (σ2 14)))) [cSlo u o x1 x2 x3 x4 x5, cSav E x2 o2 s9, cIsv E x3 β, cSta o a h, cMet a b f g σ2 rr2 rb2 rn2, cSig b σ2, cSet f σ2, cCon g σ2 ov2, cLog h i σ2, cRow E i ρ2, cSta o2 a2 h2, cMet a2 b2 f2 g2 σ2 rr2 rb2 rn2, cSig b2 σ2, cSet f2 σ2, cCon g2 σ2 ov2, cLog h2 i2 σ2, cRow E i2 ρ2] := by
  refine Ct.mk (cc := cX7_restore) (maxL := 2) (ret := (some .int)) (plainFor_of_name (by decide)) rfl (Nat.le_of_ble_eq_true rfl) ?_
  intro p e s m below meth c A ls H locs S hr hlk hnm B hl
  have S : CallFix p m c cX7_restore 2 s #[.ref u, .int (iI 0)] wsX7_restore RX7 := S
  have hl : lv_has ls 2 [(0, .ref u), (1, .int (iI 0))] := hl
  refine z_aload_n S (pc := 0) dX7_restore_0 rfl (lv_at hl 0 rfl) ?_
  refine z_iload_n S (pc := 1) dX7_restore_1 rfl (lv_at hl 1 rfl) ?_
  refine z_callV S (pc := 2) B (wr := [cSta o a h, cMet a b f g σ rr rb rn, cSig b σ, cSet f σ, cCon g σ ov, cLog h i σ, cRow E i ρ, cSta o2 a2 h2, cMet a2 b2 f2 g2 σ2 rr2 rb2 rn2, cSig b2 σ2, cSet f2 σ2, cCon g2 σ2 ov2, cLog h2 i2 σ2, cRow E i2 ρ2]) (wn := fun _ => [cSlo u o x1 x2 x3 x4 x5, cSav E x2 o2 s9, cIsv E x3 β, cSta o a h, cMet a b f g σ rr rb rn, cSig b σ, cSet f σ, cCon g σ ov, cLog h i σ, cRow E i ρ, cSta o2 a2 h2, cMet a2 b2 f2 g2 σ2 rr2 rb2 rn2, cSig b2 σ2, cSet f2 σ2, cCon g2 σ2 ov2, cLog h2 i2 σ2, cRow E i2 ρ2]) (st1 := fun _ => [.int (iI 0)]) (As := [.int (iI 0)]) (mX7_isNoSlot_0 l E u o x1 x2 x3 x4 x5 o2 s9 β ) gX7_restore_X7_isNoSlot 1 rfl (by decide +kernel) ⟨Nat.le_of_ble_eq_true rfl, Nat.le_of_ble_eq_true rfl, Nat.le_of_ble_eq_true rfl, Nat.le_of_ble_eq_true rfl⟩ 0 rfl (q := (RX7, TX7, 6)) rfl rfl [0, 1, 2] [3, 4, 5, 6, 7, 8, 9, 10, 11, 12, 13, 14, 15, 16] [14, 15, 16, 0, 1, 2, 3, 4, 5, 6, 7, 8, 9, 10, 11, 12, 13] rfl rfl ⟨rfl, rfl, rfl, by decide⟩ (fun _ => rfl) rfl (fun _ => rfl) hl.1 (Nat.le_of_ble_eq_true rfl) rfl dX7_restore_2 (fun _ _ H locs B => ?_)
  refine z_if_eq S (pc := 5) (tgt := 11) (by omega) dX7_restore_5 rfl (fun c1 => ?_) (fun c1 => absurd c1 (by omega))
  refine z_aload_n S (pc := 11) dX7_restore_11 rfl (lv_at hl 0 rfl) ?_
  refine z_get S (pc := 12) B iX7_restore_X7 0 rfl rfl 3 (by decide) rfl rfl (by decide +kernel) dX7_restore_12 ?_
  refine z_iload_n S (pc := 15) dX7_restore_15 rfl (lv_at hl 1 rfl) ?_
  refine z_zald S (pc := 16) B 2 3 rfl rfl (k := 0) rfl (by decide) (by decide) (v := .int (iI (β 0))) rfl dX7_restore_16 ?_
  refine z_if_ne S (pc := 17) (tgt := 23) (by omega) dX7_restore_17 rfl (fun c2 => ?_) (fun c2 => absurd c2 (by omega))
  refine z_aload_n S (pc := 23) dX7_restore_23 rfl (lv_at hl 0 rfl) ?_
  refine z_get S (pc := 24) B iX7_restore_X7 0 rfl rfl 0 (by decide) rfl rfl (by decide +kernel) dX7_restore_24 ?_
  refine z_aload_n S (pc := 27) dX7_restore_27 rfl (lv_at hl 0 rfl) ?_
  refine z_get S (pc := 28) B iX7_restore_X7 0 rfl rfl 2 (by decide) rfl rfl (by decide +kernel) dX7_restore_28 ?_
  refine z_iload_n S (pc := 31) dX7_restore_31 rfl (lv_at hl 1 rfl) ?_
  refine z_aald S (pc := 32) B 1 4 rfl rfl (k := 0) rfl (by decide) (by decide) (v := .ref o2) rfl dX7_restore_32 ?_
  refine z_callV S (pc := 33) B (wr := [cSlo u o x1 x2 x3 x4 x5, cSav E x2 o2 s9, cIsv E x3 β]) (wn := fun _ => [cSlo u o x1 x2 x3 x4 x5, cSav E x2 o2 s9, cIsv E x3 β, cSta o a h, cMet a b f g σ2 rr2 rb2 rn2, cSig b σ2, cSet f σ2, cCon g σ2 ov2, cLog h i σ2, cRow E i ρ2, cSta o2 a2 h2, cMet a2 b2 f2 g2 σ2 rr2 rb2 rn2, cSig b2 σ2, cSet f2 σ2, cCon g2 σ2 ov2, cLog h2 i2 σ2, cRow E i2 ρ2]) (st1 := fun _ => []) (As := [.ref o2]) (mX6_copyFrom l E o a b f g σ ov rr rb rn h i ρ o2 a2 b2 f2 g2 σ2 ov2 rr2 rb2 rn2 h2 i2 ρ2 (show σ2 22 = 0 ∨ σ2 22 = 1 from by omega) (show ov2 = 0 ∨ ov2 = 1 from by omega)) gX7_restore_X6_copyFrom 1 rfl (by decide +kernel) ⟨Nat.le_of_ble_eq_true rfl, Nat.le_of_ble_eq_true rfl, Nat.le_of_ble_eq_true rfl, Nat.le_of_ble_eq_true rfl⟩ 0 rfl (q := (RX6, TX6, 2)) rfl rfl [3, 4, 5, 6, 7, 8, 9, 10, 11, 12, 13, 14, 15, 16] [0, 1, 2] [0, 1, 2, 3, 4, 5, 6, 7, 8, 9, 10, 11, 12, 13, 14, 15, 16] rfl rfl ⟨rfl, rfl, rfl, by decide⟩ (fun _ => rfl) rfl (fun _ => rfl) hl.1 (Nat.le_of_ble_eq_true rfl) rfl dX7_restore_33 (fun _ _ H locs B => ?_)
  refine z_aload_n S (pc := 36) dX7_restore_36 rfl (lv_at hl 0 rfl) ?_
  refine z_get S (pc := 37) B iX7_restore_X7 0 rfl rfl 0 (by decide) rfl rfl (by decide +kernel) dX7_restore_37 ?_
  refine z_get S (pc := 40) B iX7_restore_X6 3 rfl rfl 1 (by decide) rfl rfl (by decide +kernel) dX7_restore_40 ?_
  refine z_get S (pc := 43) B iX7_restore_X1 8 rfl rfl 1 (by decide) rfl rfl (by decide +kernel) dX7_restore_43 ?_
  exact z_ireturn S hr hlk B () trivial rfl rfl (pc := 46) dX7_restore_46
set_option maxHeartbeats 4000000 in
set_option maxRecDepth 100000 in
theorem mX7_restore_0n (l : Launch) (E : gT) (u : Nat) (o : Nat) (x1 : Nat) (x2 : Nat) (x3 : Nat) (x4 : Nat) (x5 : Nat) (o2 : Nat) (s9 : Nat) (β : Nat → Int) (hb : β 0 = 0) : Cd l E yX7_restore wsX7_restore 3 102 0 0 [.ref u, .int (iI 0)] [cSlo u o x1 x2 x3 x4 x5, cSav E x2 o2 s9, cIsv E x3 β] (some (.int (iI (-5)))) [cSlo u o x1 x2 x3 x4 x5, cSav E x2 o2 s9, cIsv E x3 β] := by
  refine Ct.mk (cc := cX7_restore) (maxL := 2) (ret := (some .int)) (plainFor_of_name (by decide)) rfl (Nat.le_of_ble_eq_true rfl) ?_
  intro p e s m below meth c A ls H locs S hr hlk hnm B hl
  have S : CallFix p m c cX7_restore 2 s #[.ref u, .int (iI 0)] wsX7_restore RX7 := S
  have hl : lv_has ls 2 [(0, .ref u), (1, .int (iI 0))] := hl
  refine z_aload_n S (pc := 0) dX7_restore_0 rfl (lv_at hl 0 rfl) ?_
  refine z_iload_n S (pc := 1) dX7_restore_1 rfl (lv_at hl 1 rfl) ?_
  refine z_callV S (pc := 2) B (wr := []) (wn := fun _ => [cSlo u o x1 x2 x3 x4 x5, cSav E x2 o2 s9, cIsv E x3 β]) (st1 := fun _ => [.int (iI 0)]) (As := [.int (iI 0)]) (mX7_isNoSlot_0 l E u o x1 x2 x3 x4 x5 o2 s9 β ) gX7_restore_X7_isNoSlot 1 rfl (by decide +kernel) ⟨Nat.le_of_ble_eq_true rfl, Nat.le_of_ble_eq_true rfl, Nat.le_of_ble_eq_true rfl, Nat.le_of_ble_eq_true rfl⟩ 0 rfl (q := (RX7, TX7, 6)) rfl rfl [0, 1, 2] [] [0, 1, 2] rfl rfl ⟨rfl, rfl, rfl, by decide⟩ (fun _ => rfl) rfl (fun _ => rfl) hl.1 (Nat.le_of_ble_eq_true rfl) rfl dX7_restore_2 (fun _ _ H locs B => ?_)
  refine z_if_eq S (pc := 5) (tgt := 11) (by omega) dX7_restore_5 rfl (fun c1 => ?_) (fun c1 => absurd c1 (by omega))
  refine z_aload_n S (pc := 11) dX7_restore_11 rfl (lv_at hl 0 rfl) ?_
  refine z_get S (pc := 12) B iX7_restore_X7 0 rfl rfl 3 (by decide) rfl rfl (by decide +kernel) dX7_restore_12 ?_
  refine z_iload_n S (pc := 15) dX7_restore_15 rfl (lv_at hl 1 rfl) ?_
  refine z_zald S (pc := 16) B 2 3 rfl rfl (k := 0) rfl (by decide) (by decide) (v := .int (iI (β 0))) rfl dX7_restore_16 ?_
  refine z_if_ne S (pc := 17) (tgt := 23) (by omega) dX7_restore_17 rfl (fun c2 => absurd c2 (by omega)) (fun c2 => ?_)
  refine z_bipush S (pc := 20) dX7_restore_20 rfl ?_
  exact z_ireturn S hr hlk B () trivial rfl rfl (pc := 22) dX7_restore_22
set_option maxHeartbeats 4000000 in
set_option maxRecDepth 100000 in
theorem mX7_isNoSlot_1 (l : Launch) (E : gT) (u : Nat) (o : Nat) (x1 : Nat) (x2 : Nat) (x3 : Nat) (x4 : Nat) (x5 : Nat) (o2 : Nat) (s9 : Nat) (β : Nat → Int)  : Cd l E yX7_isNoSlot wsX7_isNoSlot 0 0 0 0 [.ref u, .int (iI 1)] [cSlo u o x1 x2 x3 x4 x5, cSav E x2 s9 o2, cIsv E x3 β] (some (.int (iI 0))) [cSlo u o x1 x2 x3 x4 x5, cSav E x2 s9 o2, cIsv E x3 β] := by
  refine Ct.mk (cc := cX7_isNoSlot) (maxL := 2) (ret := (some .boolean)) (plainFor_of_name (by decide)) rfl (Nat.le_of_ble_eq_true rfl) ?_
  intro p e s m below meth c A ls H locs S hr hlk hnm B hl
  have S : CallFix p m c cX7_isNoSlot 2 s #[.ref u, .int (iI 1)] wsX7_isNoSlot RX7 := S
  have hl : lv_has ls 2 [(0, .ref u), (1, .int (iI 1))] := hl
  refine z_iload_n S (pc := 0) dX7_isNoSlot_0 rfl (lv_at hl 1 rfl) ?_
  refine z_if_lt S (pc := 1) (tgt := 31) (by omega) dX7_isNoSlot_1 rfl (fun c1 => absurd c1 (by omega)) (fun c1 => ?_)
  refine z_iload_n S (pc := 4) dX7_isNoSlot_4 rfl (lv_at hl 1 rfl) ?_
  refine z_aload_n S (pc := 5) dX7_isNoSlot_5 rfl (lv_at hl 0 rfl) ?_
  refine z_get S (pc := 6) B iX7_isNoSlot_X7 0 rfl rfl 2 (by decide) rfl rfl (by decide +kernel) dX7_isNoSlot_6 ?_
  refine z_alen S (pc := 9) B 1 4 rfl rfl (n := 2) rfl dX7_isNoSlot_9 ?_
  refine z_icmp_ge S (pc := 10) (tgt := 31) (by omega) (by omega) dX7_isNoSlot_10 rfl (fun c2 => absurd c2 (by omega)) (fun c2 => ?_)
  refine z_iload_n S (pc := 13) dX7_isNoSlot_13 rfl (lv_at hl 1 rfl) ?_
  refine z_aload_n S (pc := 14) dX7_isNoSlot_14 rfl (lv_at hl 0 rfl) ?_
  refine z_get S (pc := 15) B iX7_isNoSlot_X7 0 rfl rfl 3 (by decide) rfl rfl (by decide +kernel) dX7_isNoSlot_15 ?_
  refine z_alen S (pc := 18) B 2 3 rfl rfl (n := 2) rfl dX7_isNoSlot_18 ?_
  refine z_icmp_ge S (pc := 19) (tgt := 31) (by omega) (by omega) dX7_isNoSlot_19 rfl (fun c3 => absurd c3 (by omega)) (fun c3 => ?_)
  refine z_aload_n S (pc := 22) dX7_isNoSlot_22 rfl (lv_at hl 0 rfl) ?_
  refine z_get S (pc := 23) B iX7_isNoSlot_X7 0 rfl rfl 2 (by decide) rfl rfl (by decide +kernel) dX7_isNoSlot_23 ?_
  refine z_iload_n S (pc := 26) dX7_isNoSlot_26 rfl (lv_at hl 1 rfl) ?_
  refine z_aald S (pc := 27) B 1 4 rfl rfl (k := 1) rfl (by decide) (by decide) (v := .ref o2) rfl dX7_isNoSlot_27 ?_
  refine lv_ifnonnull S.1 S.2.1 (pc := 28) (tgt := 35) dX7_isNoSlot_28 rfl ?_
  refine z_iconst S (pc := 35) dX7_isNoSlot_35 ?_
  exact z_zreturn S (by omega) hr hlk B () trivial rfl rfl (pc := 36) dX7_isNoSlot_36
set_option maxHeartbeats 4000000 in
set_option maxRecDepth 100000 in
theorem mX7_save_1 (l : Launch) (E : gT) (u : Nat) (o : Nat) (x1 : Nat) (x2 : Nat) (x3 : Nat) (x4 : Nat) (x5 : Nat) (a : Nat) (b : Nat) (f : Nat) (g : Nat) (σ : Nat → Int) (ov : Int) (rr : Int) (rb : Int) (rn : Int) (h : Nat) (i : Nat) (ρ : Nat → Int) (o2 : Nat) (a2 : Nat) (b2 : Nat) (f2 : Nat) (g2 : Nat) (σ2 : Nat → Int) (ov2 : Int) (rr2 : Int) (rb2 : Int) (rn2 : Int) (h2 : Nat) (i2 : Nat) (ρ2 : Nat → Int) (s9 : Nat) (β : Nat → Int) (h22 : σ 22 = 0 ∨ σ 22 = 1) (ho : ov = 0 ∨ ov = 1) : Cd l E yX7_save wsX7_save 3 102 0 0 [.ref u, .int (iI 1)] [cSlo u o x1 x2 x3 x4 x5, cSav E x2 s9 o2, cIsv E x3 β, cSta o a h, cMet a b f g σ rr rb rn, cSig b σ, cSet f σ, cCon g σ ov, cLog h i σ, cRow E i ρ, cSta o2 a2 h2, cMet a2 b2 f2 g2 σ2 rr2 rb2 rn2, cSig b2 σ2, cSet f2 σ2, cCon g2 σ2 ov2, cLog h2 i2 σ2, cRow E i2 ρ2] (some (.int (iI (σ 14)))) [cSlo u o x1 x2 x3 x4 x5, cSav E x2 s9 o2, cIsv E x3 (up β 1 1), cSta o a h, cMet a b f g σ rr rb rn, cSig b σ, cSet f σ, cCon g σ ov, cLog h i σ, cRow E i ρ, cSta o2 a2 h2, cMet a2 b2 f2 g2 σ rr rb rn, cSig b2 σ, cSet f2 σ, cCon g2 σ ov, cLog h2 i2 σ, cRow E i2 ρ] := by
  refine Ct.mk (cc := cX7_save) (maxL := 2) (ret := (some .int)) (plainFor_of_name (by decide)) rfl (Nat.le_of_ble_eq_true rfl) ?_
  intro p e s m below meth c A ls H locs S hr hlk hnm B hl
  have S : CallFix p m c cX7_save 2 s #[.ref u, .int (iI 1)] wsX7_save RX7 := S
  have hl : lv_has ls 2 [(0, .ref u), (1, .int (iI 1))] := hl
  refine z_aload_n S (pc := 0) dX7_save_0 rfl (lv_at hl 0 rfl) ?_
  refine z_iload_n S (pc := 1) dX7_save_1 rfl (lv_at hl 1 rfl) ?_
  refine z_callV S (pc := 2) B (wr := [cSta o a h, cMet a b f g σ rr rb rn, cSig b σ, cSet f σ, cCon g σ ov, cLog h i σ, cRow E i ρ, cSta o2 a2 h2, cMet a2 b2 f2 g2 σ2 rr2 rb2 rn2, cSig b2 σ2, cSet f2 σ2, cCon g2 σ2 ov2, cLog h2 i2 σ2, cRow E i2 ρ2]) (wn := fun _ => [cSlo u o x1 x2 x3 x4 x5, cSav E x2 s9 o2, cIsv E x3 β, cSta o a h, cMet a b f g σ rr rb rn, cSig b σ, cSet f σ, cCon g σ ov, cLog h i σ, cRow E i ρ, cSta o2 a2 h2, cMet a2 b2 f2 g2 σ2 rr2 rb2 rn2, cSig b2 σ2, cSet f2 σ2, cCon g2 σ2 ov2, cLog h2 i2 σ2, cRow E i2 ρ2]) (st1 := fun _ => [.int (iI 0)]) (As := [.int (iI 1)]) (mX7_isNoSlot_1 l E u o x1 x2 x3 x4 x5 o2 s9 β ) gX7_save_X7_isNoSlot 1 rfl (by decide +kernel) ⟨Nat.le_of_ble_eq_true rfl, Nat.le_of_ble_eq_true rfl, Nat.le_of_ble_eq_true rfl, Nat.le_of_ble_eq_true rfl⟩ 0 rfl (q := (RX7, TX7, 6)) rfl rfl [0, 1, 2] [3, 4, 5, 6, 7, 8, 9, 10, 11, 12, 13, 14, 15, 16] [14, 15, 16, 0, 1, 2, 3, 4, 5, 6, 7, 8, 9, 10, 11, 12, 13] rfl rfl ⟨rfl, rfl, rfl, by decide⟩ (fun _ => rfl) rfl (fun _ => rfl) hl.1 (Nat.le_of_ble_eq_true rfl) rfl dX7_save_2 (fun _ _ H locs B => ?_)
  refine z_if_eq S (pc := 5) (tgt := 11) (by omega) dX7_save_5 rfl (fun c1 => ?_) (fun c1 => absurd c1 (by omega))
  refine z_aload_n S (pc := 11) dX7_save_11 rfl (lv_at hl 0 rfl) ?_
  refine z_get S (pc := 12) B iX7_save_X7 0 rfl rfl 2 (by decide) rfl rfl (by decide +kernel) dX7_save_12 ?_
  refine z_iload_n S (pc := 15) dX7_save_15 rfl (lv_at hl 1 rfl) ?_
  refine z_aald S (pc := 16) B 1 4 rfl rfl (k := 1) rfl (by decide) (by decide) (v := .ref o2) rfl dX7_save_16 ?_
  refine z_aload_n S (pc := 17) dX7_save_17 rfl (lv_at hl 0 rfl) ?_
  refine z_get S (pc := 18) B iX7_save_X7 0 rfl rfl 0 (by decide) rfl rfl (by decide +kernel) dX7_save_18 ?_
  refine z_callV S (pc := 21) B (wr := [cSlo u o x1 x2 x3 x4 x5, cSav E x2 s9 o2, cIsv E x3 β]) (wn := fun _ => [cSlo u o x1 x2 x3 x4 x5, cSav E x2 s9 o2, cIsv E x3 β, cSta o a h, cMet a b f g σ rr rb rn, cSig b σ, cSet f σ, cCon g σ ov, cLog h i σ, cRow E i ρ, cSta o2 a2 h2, cMet a2 b2 f2 g2 σ rr rb rn, cSig b2 σ, cSet f2 σ, cCon g2 σ ov, cLog h2 i2 σ, cRow E i2 ρ]) (st1 := fun _ => []) (As := [.ref o]) (mX6_copyFrom l E o2 a2 b2 f2 g2 σ2 ov2 rr2 rb2 rn2 h2 i2 ρ2 o a b f g σ ov rr rb rn h i ρ (show σ 22 = 0 ∨ σ 22 = 1 from by omega) (show ov = 0 ∨ ov = 1 from by omega)) gX7_save_X6_copyFrom 1 rfl (by decide +kernel) ⟨Nat.le_of_ble_eq_true rfl, Nat.le_of_ble_eq_true rfl, Nat.le_of_ble_eq_true rfl, Nat.le_of_ble_eq_true rfl⟩ 0 rfl (q := (RX6, TX6, 2)) rfl rfl [10, 11, 12, 13, 14, 15, 16, 3, 4, 5, 6, 7, 8, 9] [0, 1, 2] [0, 1, 2, 10, 11, 12, 13, 14, 15, 16, 3, 4, 5, 6, 7, 8, 9] rfl rfl ⟨rfl, rfl, rfl, by decide⟩ (fun _ => rfl) rfl (fun _ => rfl) hl.1 (Nat.le_of_ble_eq_true rfl) rfl dX7_save_21 (fun _ _ H locs B => ?_)
  refine z_aload_n S (pc := 24) dX7_save_24 rfl (lv_at hl 0 rfl) ?_
  refine z_get S (pc := 25) B iX7_save_X7 0 rfl rfl 3 (by decide) rfl rfl (by decide +kernel) dX7_save_25 ?_
  refine z_iload_n S (pc := 28) dX7_save_28 rfl (lv_at hl 1 rfl) ?_
  refine z_iconst S (pc := 29) dX7_save_29 ?_
  refine z_zast S (pc := 30) B 2 3 rfl rfl (k := 1) rfl (by decide) (by decide) rfl dX7_save_30 (wn := [cSlo u o x1 x2 x3 x4 x5, cSav E x2 s9 o2, cIsv E x3 (up β 1 1), cSta o a h, cMet a b f g σ rr rb rn, cSig b σ, cSet f σ, cCon g σ ov, cLog h i σ, cRow E i ρ, cSta o2 a2 h2, cMet a2 b2 f2 g2 σ rr rb rn, cSig b2 σ, cSet f2 σ, cCon g2 σ ov, cLog h2 i2 σ, cRow E i2 ρ]) (by rw [iat_up]; rfl) (fun H locs B => ?_)
  refine z_aload_n S (pc := 31) dX7_save_31 rfl (lv_at hl 0 rfl) ?_
  refine z_get S (pc := 32) B iX7_save_X7 0 rfl rfl 0 (by decide) rfl rfl (by decide +kernel) dX7_save_32 ?_
  refine z_get S (pc := 35) B iX7_save_X6 3 rfl rfl 1 (by decide) rfl rfl (by decide +kernel) dX7_save_35 ?_
  refine z_get S (pc := 38) B iX7_save_X1 8 rfl rfl 1 (by decide) rfl rfl (by decide +kernel) dX7_save_38 ?_
  exact z_ireturn S hr hlk B () trivial rfl rfl (pc := 41) dX7_save_41
set_option maxHeartbeats 4000000 in
set_option maxRecDepth 100000 in
theorem mX7_restore_1 (l : Launch) (E : gT) (u : Nat) (o : Nat) (x1 : Nat) (x2 : Nat) (x3 : Nat) (x4 : Nat) (x5 : Nat) (a : Nat) (b : Nat) (f : Nat) (g : Nat) (σ : Nat → Int) (ov : Int) (rr : Int) (rb : Int) (rn : Int) (h : Nat) (i : Nat) (ρ : Nat → Int) (o2 : Nat) (a2 : Nat) (b2 : Nat) (f2 : Nat) (g2 : Nat) (σ2 : Nat → Int) (ov2 : Int) (rr2 : Int) (rb2 : Int) (rn2 : Int) (h2 : Nat) (i2 : Nat) (ρ2 : Nat → Int) (s9 : Nat) (β : Nat → Int) (h22 : σ2 22 = 0 ∨ σ2 22 = 1) (ho : ov2 = 0 ∨ ov2 = 1) (hb : β 1 = 1) : Cd l E yX7_restore wsX7_restore 3 102 0 0 [.ref u, .int (iI 1)] [cSlo u o x1 x2 x3 x4 x5, cSav E x2 s9 o2, cIsv E x3 β, cSta o a h, cMet a b f g σ rr rb rn, cSig b σ, cSet f σ, cCon g σ ov, cLog h i σ, cRow E i ρ, cSta o2 a2 h2, cMet a2 b2 f2 g2 σ2 rr2 rb2 rn2, cSig b2 σ2, cSet f2 σ2, cCon g2 σ2 ov2, cLog h2 i2 σ2, cRow E i2 ρ2] (some (.int (iI (σ2 14)))) [cSlo u o x1 x2 x3 x4 x5, cSav E x2 s9 o2, cIsv E x3 β, cSta o a h, cMet a b f g σ2 rr2 rb2 rn2, cSig b σ2, cSet f σ2, cCon g σ2 ov2, cLog h i σ2, cRow E i ρ2, cSta o2 a2 h2, cMet a2 b2 f2 g2 σ2 rr2 rb2 rn2, cSig b2 σ2, cSet f2 σ2, cCon g2 σ2 ov2, cLog h2 i2 σ2, cRow E i2 ρ2] := by
  refine Ct.mk (cc := cX7_restore) (maxL := 2) (ret := (some .int)) (plainFor_of_name (by decide)) rfl (Nat.le_of_ble_eq_true rfl) ?_
  intro p e s m below meth c A ls H locs S hr hlk hnm B hl
  have S : CallFix p m c cX7_restore 2 s #[.ref u, .int (iI 1)] wsX7_restore RX7 := S
  have hl : lv_has ls 2 [(0, .ref u), (1, .int (iI 1))] := hl
  refine z_aload_n S (pc := 0) dX7_restore_0 rfl (lv_at hl 0 rfl) ?_
  refine z_iload_n S (pc := 1) dX7_restore_1 rfl (lv_at hl 1 rfl) ?_
  refine z_callV S (pc := 2) B (wr := [cSta o a h, cMet a b f g σ rr rb rn, cSig b σ, cSet f σ, cCon g σ ov, cLog h i σ, cRow E i ρ, cSta o2 a2 h2, cMet a2 b2 f2 g2 σ2 rr2 rb2 rn2, cSig b2 σ2, cSet f2 σ2, cCon g2 σ2 ov2, cLog h2 i2 σ2, cRow E i2 ρ2]) (wn := fun _ => [cSlo u o x1 x2 x3 x4 x5, cSav E x2 s9 o2, cIsv E x3 β, cSta o a h, cMet a b f g σ rr rb rn, cSig b σ, cSet f σ, cCon g σ ov, cLog h i σ, cRow E i ρ, cSta o2 a2 h2, cMet a2 b2 f2 g2 σ2 rr2 rb2 rn2, cSig b2 σ2, cSet f2 σ2, cCon g2 σ2 ov2, cLog h2 i2 σ2, cRow E i2 ρ2]) (st1 := fun _ => [.int (iI 0)]) (As := [.int (iI 1)]) (mX7_isNoSlot_1 l E u o x1 x2 x3 x4 x5 o2 s9 β ) gX7_restore_X7_isNoSlot 1 rfl (by decide +kernel) ⟨Nat.le_of_ble_eq_true rfl, Nat.le_of_ble_eq_true rfl, Nat.le_of_ble_eq_true rfl, Nat.le_of_ble_eq_true rfl⟩ 0 rfl (q := (RX7, TX7, 6)) rfl rfl [0, 1, 2] [3, 4, 5, 6, 7, 8, 9, 10, 11, 12, 13, 14, 15, 16] [14, 15, 16, 0, 1, 2, 3, 4, 5, 6, 7, 8, 9, 10, 11, 12, 13] rfl rfl ⟨rfl, rfl, rfl, by decide⟩ (fun _ => rfl) rfl (fun _ => rfl) hl.1 (Nat.le_of_ble_eq_true rfl) rfl dX7_restore_2 (fun _ _ H locs B => ?_)
  refine z_if_eq S (pc := 5) (tgt := 11) (by omega) dX7_restore_5 rfl (fun c1 => ?_) (fun c1 => absurd c1 (by omega))
  refine z_aload_n S (pc := 11) dX7_restore_11 rfl (lv_at hl 0 rfl) ?_
  refine z_get S (pc := 12) B iX7_restore_X7 0 rfl rfl 3 (by decide) rfl rfl (by decide +kernel) dX7_restore_12 ?_
  refine z_iload_n S (pc := 15) dX7_restore_15 rfl (lv_at hl 1 rfl) ?_
  refine z_zald S (pc := 16) B 2 3 rfl rfl (k := 1) rfl (by decide) (by decide) (v := .int (iI (β 1))) rfl dX7_restore_16 ?_
  refine z_if_ne S (pc := 17) (tgt := 23) (by omega) dX7_restore_17 rfl (fun c2 => ?_) (fun c2 => absurd c2 (by omega))
  refine z_aload_n S (pc := 23) dX7_restore_23 rfl (lv_at hl 0 rfl) ?_
  refine z_get S (pc := 24) B iX7_restore_X7 0 rfl rfl 0 (by decide) rfl rfl (by decide +kernel) dX7_restore_24 ?_
  refine z_aload_n S (pc := 27) dX7_restore_27 rfl (lv_at hl 0 rfl) ?_
  refine z_get S (pc := 28) B iX7_restore_X7 0 rfl rfl 2 (by decide) rfl rfl (by decide +kernel) dX7_restore_28 ?_
  refine z_iload_n S (pc := 31) dX7_restore_31 rfl (lv_at hl 1 rfl) ?_
  refine z_aald S (pc := 32) B 1 4 rfl rfl (k := 1) rfl (by decide) (by decide) (v := .ref o2) rfl dX7_restore_32 ?_
  refine z_callV S (pc := 33) B (wr := [cSlo u o x1 x2 x3 x4 x5, cSav E x2 s9 o2, cIsv E x3 β]) (wn := fun _ => [cSlo u o x1 x2 x3 x4 x5, cSav E x2 s9 o2, cIsv E x3 β, cSta o a h, cMet a b f g σ2 rr2 rb2 rn2, cSig b σ2, cSet f σ2, cCon g σ2 ov2, cLog h i σ2, cRow E i ρ2, cSta o2 a2 h2, cMet a2 b2 f2 g2 σ2 rr2 rb2 rn2, cSig b2 σ2, cSet f2 σ2, cCon g2 σ2 ov2, cLog h2 i2 σ2, cRow E i2 ρ2]) (st1 := fun _ => []) (As := [.ref o2]) (mX6_copyFrom l E o a b f g σ ov rr rb rn h i ρ o2 a2 b2 f2 g2 σ2 ov2 rr2 rb2 rn2 h2 i2 ρ2 (show σ2 22 = 0 ∨ σ2 22 = 1 from by omega) (show ov2 = 0 ∨ ov2 = 1 from by omega)) gX7_restore_X6_copyFrom 1 rfl (by decide +kernel) ⟨Nat.le_of_ble_eq_true rfl, Nat.le_of_ble_eq_true rfl, Nat.le_of_ble_eq_true rfl, Nat.le_of_ble_eq_true rfl⟩ 0 rfl (q := (RX6, TX6, 2)) rfl rfl [3, 4, 5, 6, 7, 8, 9, 10, 11, 12, 13, 14, 15, 16] [0, 1, 2] [0, 1, 2, 3, 4, 5, 6, 7, 8, 9, 10, 11, 12, 13, 14, 15, 16] rfl rfl ⟨rfl, rfl, rfl, by decide⟩ (fun _ => rfl) rfl (fun _ => rfl) hl.1 (Nat.le_of_ble_eq_true rfl) rfl dX7_restore_33 (fun _ _ H locs B => ?_)
  refine z_aload_n S (pc := 36) dX7_restore_36 rfl (lv_at hl 0 rfl) ?_
  refine z_get S (pc := 37) B iX7_restore_X7 0 rfl rfl 0 (by decide) rfl rfl (by decide +kernel) dX7_restore_37 ?_
  refine z_get S (pc := 40) B iX7_restore_X6 3 rfl rfl 1 (by decide) rfl rfl (by decide +kernel) dX7_restore_40 ?_
  refine z_get S (pc := 43) B iX7_restore_X1 8 rfl rfl 1 (by decide) rfl rfl (by decide +kernel) dX7_restore_43 ?_
  exact z_ireturn S hr hlk B () trivial rfl rfl (pc := 46) dX7_restore_46
set_option maxHeartbeats 4000000 in
set_option maxRecDepth 100000 in
theorem mX7_restore_1n (l : Launch) (E : gT) (u : Nat) (o : Nat) (x1 : Nat) (x2 : Nat) (x3 : Nat) (x4 : Nat) (x5 : Nat) (o2 : Nat) (s9 : Nat) (β : Nat → Int) (hb : β 1 = 0) : Cd l E yX7_restore wsX7_restore 3 102 0 0 [.ref u, .int (iI 1)] [cSlo u o x1 x2 x3 x4 x5, cSav E x2 s9 o2, cIsv E x3 β] (some (.int (iI (-5)))) [cSlo u o x1 x2 x3 x4 x5, cSav E x2 s9 o2, cIsv E x3 β] := by
  refine Ct.mk (cc := cX7_restore) (maxL := 2) (ret := (some .int)) (plainFor_of_name (by decide)) rfl (Nat.le_of_ble_eq_true rfl) ?_
  intro p e s m below meth c A ls H locs S hr hlk hnm B hl
  have S : CallFix p m c cX7_restore 2 s #[.ref u, .int (iI 1)] wsX7_restore RX7 := S
  have hl : lv_has ls 2 [(0, .ref u), (1, .int (iI 1))] := hl
  refine z_aload_n S (pc := 0) dX7_restore_0 rfl (lv_at hl 0 rfl) ?_
  refine z_iload_n S (pc := 1) dX7_restore_1 rfl (lv_at hl 1 rfl) ?_
  refine z_callV S (pc := 2) B (wr := []) (wn := fun _ => [cSlo u o x1 x2 x3 x4 x5, cSav E x2 s9 o2, cIsv E x3 β]) (st1 := fun _ => [.int (iI 0)]) (As := [.int (iI 1)]) (mX7_isNoSlot_1 l E u o x1 x2 x3 x4 x5 o2 s9 β ) gX7_restore_X7_isNoSlot 1 rfl (by decide +kernel) ⟨Nat.le_of_ble_eq_true rfl, Nat.le_of_ble_eq_true rfl, Nat.le_of_ble_eq_true rfl, Nat.le_of_ble_eq_true rfl⟩ 0 rfl (q := (RX7, TX7, 6)) rfl rfl [0, 1, 2] [] [0, 1, 2] rfl rfl ⟨rfl, rfl, rfl, by decide⟩ (fun _ => rfl) rfl (fun _ => rfl) hl.1 (Nat.le_of_ble_eq_true rfl) rfl dX7_restore_2 (fun _ _ H locs B => ?_)
  refine z_if_eq S (pc := 5) (tgt := 11) (by omega) dX7_restore_5 rfl (fun c1 => ?_) (fun c1 => absurd c1 (by omega))
  refine z_aload_n S (pc := 11) dX7_restore_11 rfl (lv_at hl 0 rfl) ?_
  refine z_get S (pc := 12) B iX7_restore_X7 0 rfl rfl 3 (by decide) rfl rfl (by decide +kernel) dX7_restore_12 ?_
  refine z_iload_n S (pc := 15) dX7_restore_15 rfl (lv_at hl 1 rfl) ?_
  refine z_zald S (pc := 16) B 2 3 rfl rfl (k := 1) rfl (by decide) (by decide) (v := .int (iI (β 1))) rfl dX7_restore_16 ?_
  refine z_if_ne S (pc := 17) (tgt := 23) (by omega) dX7_restore_17 rfl (fun c2 => absurd c2 (by omega)) (fun c2 => ?_)
  refine z_bipush S (pc := 20) dX7_restore_20 rfl ?_
  exact z_ireturn S hr hlk B () trivial rfl rfl (pc := 22) dX7_restore_22
set_option maxHeartbeats 4000000 in
set_option maxRecDepth 100000 in
theorem mX7_isNoSlot_b (l : Launch) (E : gT) (u : Nat) (o : Nat) (x1 : Nat) (x2 : Nat) (x3 : Nat) (x4 : Nat) (x5 : Nat) (s8 : Nat) (s9 : Nat) (β : Nat → Int) (k : Int) (hI : inI k) (hbad : (k < 0 ∨ 1 < k)) : Cd l E yX7_isNoSlot wsX7_isNoSlot 0 0 0 0 [.ref u, .int (iI k)] [cSlo u o x1 x2 x3 x4 x5, cSav E x2 s8 s9, cIsv E x3 β] (some (.int (iI 1))) [cSlo u o x1 x2 x3 x4 x5, cSav E x2 s8 s9, cIsv E x3 β] := by
  refine Ct.mk (cc := cX7_isNoSlot) (maxL := 2) (ret := (some .boolean)) (plainFor_of_name (by decide)) rfl (Nat.le_of_ble_eq_true rfl) ?_
  intro p e s m below meth c A ls H locs S hr hlk hnm B hl
  have S : CallFix p m c cX7_isNoSlot 2 s #[.ref u, .int (iI k)] wsX7_isNoSlot RX7 := S
  have hl : lv_has ls 2 [(0, .ref u), (1, .int (iI k))] := hl
  refine z_iload_n S (pc := 0) dX7_isNoSlot_0 rfl (lv_at hl 1 rfl) ?_
  refine z_if_lt S (pc := 1) (tgt := 31) (by omega) dX7_isNoSlot_1 rfl (fun c1 => ?_) (fun c1 => ?_)
  · refine z_iconst S (pc := 31) dX7_isNoSlot_31 ?_
    refine lv_goto S.1 S.2.1 (pc := 32) (tgt := 36) dX7_isNoSlot_32 rfl ?_
    exact z_zreturn S (by omega) hr hlk B () trivial rfl rfl (pc := 36) dX7_isNoSlot_36
  · refine z_iload_n S (pc := 4) dX7_isNoSlot_4 rfl (lv_at hl 1 rfl) ?_
    refine z_aload_n S (pc := 5) dX7_isNoSlot_5 rfl (lv_at hl 0 rfl) ?_
    refine z_get S (pc := 6) B iX7_isNoSlot_X7 0 rfl rfl 2 (by decide) rfl rfl (by decide +kernel) dX7_isNoSlot_6 ?_
    refine z_alen S (pc := 9) B 1 4 rfl rfl (n := 2) rfl dX7_isNoSlot_9 ?_
    refine z_icmp_ge S (pc := 10) (tgt := 31) (by omega) (by omega) dX7_isNoSlot_10 rfl (fun c2 => ?_) (fun c2 => ?_)
    · refine z_iconst S (pc := 31) dX7_isNoSlot_31 ?_
      refine lv_goto S.1 S.2.1 (pc := 32) (tgt := 36) dX7_isNoSlot_32 rfl ?_
      exact z_zreturn S (by omega) hr hlk B () trivial rfl rfl (pc := 36) dX7_isNoSlot_36
    · refine z_iload_n S (pc := 13) dX7_isNoSlot_13 rfl (lv_at hl 1 rfl) ?_
      refine z_aload_n S (pc := 14) dX7_isNoSlot_14 rfl (lv_at hl 0 rfl) ?_
      refine z_get S (pc := 15) B iX7_isNoSlot_X7 0 rfl rfl 3 (by decide) rfl rfl (by decide +kernel) dX7_isNoSlot_15 ?_
      refine z_alen S (pc := 18) B 2 3 rfl rfl (n := 2) rfl dX7_isNoSlot_18 ?_
      refine z_icmp_ge S (pc := 19) (tgt := 31) (by omega) (by omega) dX7_isNoSlot_19 rfl (fun c3 => ?_) (fun c3 => ?_)
      · refine z_iconst S (pc := 31) dX7_isNoSlot_31 ?_
        refine lv_goto S.1 S.2.1 (pc := 32) (tgt := 36) dX7_isNoSlot_32 rfl ?_
        exact z_zreturn S (by omega) hr hlk B () trivial rfl rfl (pc := 36) dX7_isNoSlot_36
      · exact absurd hbad (by omega)
set_option maxHeartbeats 4000000 in
set_option maxRecDepth 100000 in
theorem mX7_save_b (l : Launch) (E : gT) (u : Nat) (o : Nat) (x1 : Nat) (x2 : Nat) (x3 : Nat) (x4 : Nat) (x5 : Nat) (s8 : Nat) (s9 : Nat) (β : Nat → Int) (k : Int) (hI : inI k) (hbad : (k < 0 ∨ 1 < k)) : Cd l E yX7_save wsX7_save 3 102 0 0 [.ref u, .int (iI k)] [cSlo u o x1 x2 x3 x4 x5, cSav E x2 s8 s9, cIsv E x3 β] (some (.int (iI (-2)))) [cSlo u o x1 x2 x3 x4 x5, cSav E x2 s8 s9, cIsv E x3 β] := by
  refine Ct.mk (cc := cX7_save) (maxL := 2) (ret := (some .int)) (plainFor_of_name (by decide)) rfl (Nat.le_of_ble_eq_true rfl) ?_
  intro p e s m below meth c A ls H locs S hr hlk hnm B hl
  have S : CallFix p m c cX7_save 2 s #[.ref u, .int (iI k)] wsX7_save RX7 := S
  have hl : lv_has ls 2 [(0, .ref u), (1, .int (iI k))] := hl
  refine z_aload_n S (pc := 0) dX7_save_0 rfl (lv_at hl 0 rfl) ?_
  refine z_iload_n S (pc := 1) dX7_save_1 rfl (lv_at hl 1 rfl) ?_
  refine z_callV S (pc := 2) B (wr := []) (wn := fun _ => [cSlo u o x1 x2 x3 x4 x5, cSav E x2 s8 s9, cIsv E x3 β]) (st1 := fun _ => [.int (iI 1)]) (As := [.int (iI k)]) (mX7_isNoSlot_b l E u o x1 x2 x3 x4 x5 s8 s9 β k (show inI k from by omega) (show (k < 0 ∨ 1 < k) from by omega)) gX7_save_X7_isNoSlot 1 rfl (by decide +kernel) ⟨Nat.le_of_ble_eq_true rfl, Nat.le_of_ble_eq_true rfl, Nat.le_of_ble_eq_true rfl, Nat.le_of_ble_eq_true rfl⟩ 0 rfl (q := (RX7, TX7, 6)) rfl rfl [0, 1, 2] [] [0, 1, 2] rfl rfl ⟨rfl, rfl, rfl, by decide⟩ (fun _ => rfl) rfl (fun _ => rfl) hl.1 (Nat.le_of_ble_eq_true rfl) rfl dX7_save_2 (fun _ _ H locs B => ?_)
  refine z_if_eq S (pc := 5) (tgt := 11) (by omega) dX7_save_5 rfl (fun c1 => absurd c1 (by omega)) (fun c1 => ?_)
  refine z_bipush S (pc := 8) dX7_save_8 rfl ?_
  exact z_ireturn S hr hlk B () trivial rfl rfl (pc := 10) dX7_save_10
set_option maxHeartbeats 4000000 in
set_option maxRecDepth 100000 in
theorem mX7_restore_b (l : Launch) (E : gT) (u : Nat) (o : Nat) (x1 : Nat) (x2 : Nat) (x3 : Nat) (x4 : Nat) (x5 : Nat) (s8 : Nat) (s9 : Nat) (β : Nat → Int) (k : Int) (hI : inI k) (hbad : (k < 0 ∨ 1 < k)) : Cd l E yX7_restore wsX7_restore 3 102 0 0 [.ref u, .int (iI k)] [cSlo u o x1 x2 x3 x4 x5, cSav E x2 s8 s9, cIsv E x3 β] (some (.int (iI (-2)))) [cSlo u o x1 x2 x3 x4 x5, cSav E x2 s8 s9, cIsv E x3 β] := by
  refine Ct.mk (cc := cX7_restore) (maxL := 2) (ret := (some .int)) (plainFor_of_name (by decide)) rfl (Nat.le_of_ble_eq_true rfl) ?_
  intro p e s m below meth c A ls H locs S hr hlk hnm B hl
  have S : CallFix p m c cX7_restore 2 s #[.ref u, .int (iI k)] wsX7_restore RX7 := S
  have hl : lv_has ls 2 [(0, .ref u), (1, .int (iI k))] := hl
  refine z_aload_n S (pc := 0) dX7_restore_0 rfl (lv_at hl 0 rfl) ?_
  refine z_iload_n S (pc := 1) dX7_restore_1 rfl (lv_at hl 1 rfl) ?_
  refine z_callV S (pc := 2) B (wr := []) (wn := fun _ => [cSlo u o x1 x2 x3 x4 x5, cSav E x2 s8 s9, cIsv E x3 β]) (st1 := fun _ => [.int (iI 1)]) (As := [.int (iI k)]) (mX7_isNoSlot_b l E u o x1 x2 x3 x4 x5 s8 s9 β k (show inI k from by omega) (show (k < 0 ∨ 1 < k) from by omega)) gX7_restore_X7_isNoSlot 1 rfl (by decide +kernel) ⟨Nat.le_of_ble_eq_true rfl, Nat.le_of_ble_eq_true rfl, Nat.le_of_ble_eq_true rfl, Nat.le_of_ble_eq_true rfl⟩ 0 rfl (q := (RX7, TX7, 6)) rfl rfl [0, 1, 2] [] [0, 1, 2] rfl rfl ⟨rfl, rfl, rfl, by decide⟩ (fun _ => rfl) rfl (fun _ => rfl) hl.1 (Nat.le_of_ble_eq_true rfl) rfl dX7_restore_2 (fun _ _ H locs B => ?_)
  refine z_if_eq S (pc := 5) (tgt := 11) (by omega) dX7_restore_5 rfl (fun c1 => absurd c1 (by omega)) (fun c1 => ?_)
  refine z_bipush S (pc := 8) dX7_restore_8 rfl ?_
  exact z_ireturn S hr hlk B () trivial rfl rfl (pc := 10) dX7_restore_10
/-! END run -/
