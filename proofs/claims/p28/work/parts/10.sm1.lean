set_option linter.unusedVariables false
theorem iX7_setLevel_X1 : ∀ w ∈ wsX10, w ∈ wsX7_setLevel := by decide +kernel
theorem iX7_setLevel_X2 : ∀ w ∈ wsX20, w ∈ wsX7_setLevel := by decide +kernel
theorem iX7_setLevel_X5 : ∀ w ∈ wsX50, w ∈ wsX7_setLevel := by decide +kernel
theorem iX7_setLevel_X6 : ∀ w ∈ wsX60, w ∈ wsX7_setLevel := by decide +kernel
theorem iX7_setLevel_X7 : ∀ w ∈ wsX70, w ∈ wsX7_setLevel := by decide +kernel
set_option maxHeartbeats 4000000 in
set_option maxRecDepth 100000 in
theorem mX7_setLevel (l : Launch) (E : gT) (u : Nat) (o : Nat) (x1 : Nat) (x2 : Nat) (x3 : Nat) (x4 : Nat) (x5 : Nat) (a : Nat) (b : Nat) (f : Nat) (g : Nat) (σ : Nat → Int) (ov : Int) (rr : Int) (rb : Int) (rn : Int) (h : Nat) (i : Nat) (ρ : Nat → Int) (v : Int) (hv : -3000000 ≤ v ∧ v ≤ 3000000) : Cd l E yX7_setLevel wsX7_setLevel 1 22 0 0 [.ref u, .int (iI v)] [cSlo u o x1 x2 x3 x4 x5, cSta o a h, cMet a b f g σ rr rb rn, cSig b σ, cLog h i σ] (some (.int (iI (σ 14)))) [cSlo u o x1 x2 x3 x4 x5, cSta o a h, cMet a b f g σ rr rb rn, (b, .inr (5, [.int (iI v), .int (iI (σ 1)), .int (iI (σ 2)), .int (iI (σ 3)), .int (iI (σ 4))])), cLog h i σ] := by
  refine Ct.mk (cc := cX7_setLevel) (maxL := 2) (ret := (some .int)) (plainFor_of_name (by decide)) rfl (Nat.le_of_ble_eq_true rfl) ?_
  intro p e s m below meth c A ls H locs S hr hlk hnm B hl
  have S : CallFix p m c cX7_setLevel 2 s #[.ref u, .int (iI v)] wsX7_setLevel RX7 := S
  have hl : lv_has ls 2 [(0, .ref u), (1, .int (iI v))] := hl
  refine z_iload_n S (pc := 0) dX7_setLevel_0 rfl (lv_at hl 1 rfl) ?_
  refine z_ldc S (pc := 1) (x := (-3000000)) (by decide +kernel) rfl dX7_setLevel_1 ?_
  refine z_ldc S (pc := 3) (x := 3000000) (by decide +kernel) rfl dX7_setLevel_3 ?_
  refine z_callS S (pc := 5) B (wr := [cSlo u o x1 x2 x3 x4 x5, cSta o a h, cMet a b f g σ rr rb rn, cSig b σ, cLog h i σ]) (wn := fun _ => [cSlo u o x1 x2 x3 x4 x5, cSta o a h, cMet a b f g σ rr rb rn, cSig b σ, cLog h i σ]) (st1 := fun _ => [.int (iI (bI (v < (-3000000) ∨ 3000000 < v)))]) (As := [.int (iI v), .int (iI (-3000000)), .int (iI 3000000)]) (mX7_isOutside l E v (-3000000) 3000000 (show inI v ∧ inI (-3000000) ∧ inI 3000000 from by omega)) gX7_setLevel_X7_isOutside 3 rfl (by decide +kernel) ⟨Nat.le_of_ble_eq_true rfl, Nat.le_of_ble_eq_true rfl, Nat.le_of_ble_eq_true rfl, Nat.le_of_ble_eq_true rfl⟩ [] [0, 1, 2, 3, 4] [0, 1, 2, 3, 4] rfl rfl ⟨rfl, rfl, rfl, by decide⟩ (fun _ => rfl) rfl (fun _ => rfl) hl.1 (Nat.le_of_ble_eq_true rfl) rfl dX7_setLevel_5 (fun _ _ H locs B => ?_)
  refine z_ifeq_b S (pc := 8) (tgt := 14) dX7_setLevel_8 rfl (fun c1 => ?_) (fun c1 => absurd c1 (by omega))
  refine z_aload_n S (pc := 14) dX7_setLevel_14 rfl (lv_at hl 0 rfl) ?_
  refine z_get S (pc := 15) B iX7_setLevel_X7 0 rfl rfl 0 (by decide) rfl rfl (by decide +kernel) dX7_setLevel_15 ?_
  refine z_get S (pc := 18) B iX7_setLevel_X6 1 rfl rfl 0 (by decide) rfl rfl (by decide +kernel) dX7_setLevel_18 ?_
  refine z_get S (pc := 21) B iX7_setLevel_X2 2 rfl rfl 0 (by decide) rfl rfl (by decide +kernel) dX7_setLevel_21 ?_
  refine z_iload_n S (pc := 24) dX7_setLevel_24 rfl (lv_at hl 1 rfl) ?_
  refine z_put S (pc := 25) B iX7_setLevel_X5 tyX5_ok nmX5 3 rfl rfl 0 (by decide) rfl (by decide +kernel) (ty := .int) (by decide +kernel) rfl rfl (Nat.le_of_ble_eq_true rfl) dX7_setLevel_25 (wn := [cSlo u o x1 x2 x3 x4 x5, cSta o a h, cMet a b f g σ rr rb rn, (b, .inr (5, [.int (iI v), .int (iI (σ 1)), .int (iI (σ 2)), .int (iI (σ 3)), .int (iI (σ 4))])), cLog h i σ]) rfl (fun H locs B => ?_)
  refine z_aload_n S (pc := 28) dX7_setLevel_28 rfl (lv_at hl 0 rfl) ?_
  refine z_get S (pc := 29) B iX7_setLevel_X7 0 rfl rfl 0 (by decide) rfl rfl (by decide +kernel) dX7_setLevel_29 ?_
  refine z_get S (pc := 32) B iX7_setLevel_X6 1 rfl rfl 1 (by decide) rfl rfl (by decide +kernel) dX7_setLevel_32 ?_
  refine z_get S (pc := 35) B iX7_setLevel_X1 4 rfl rfl 1 (by decide) rfl rfl (by decide +kernel) dX7_setLevel_35 ?_
  exact z_ireturn S hr hlk B () trivial rfl rfl (pc := 38) dX7_setLevel_38
set_option maxHeartbeats 4000000 in
set_option maxRecDepth 100000 in
theorem mX7_setLevel_b (l : Launch) (E : gT) (u : Nat) (o : Nat) (x1 : Nat) (x2 : Nat) (x3 : Nat) (x4 : Nat) (x5 : Nat) (v : Int) (hI : inI v) (hbad : (v < -3000000 ∨ 3000000 < v)) : Cd l E yX7_setLevel wsX7_setLevel 1 22 0 0 [.ref u, .int (iI v)] [cSlo u o x1 x2 x3 x4 x5] (some (.int (iI (-2)))) [cSlo u o x1 x2 x3 x4 x5] := by
  refine Ct.mk (cc := cX7_setLevel) (maxL := 2) (ret := (some .int)) (plainFor_of_name (by decide)) rfl (Nat.le_of_ble_eq_true rfl) ?_
  intro p e s m below meth c A ls H locs S hr hlk hnm B hl
  have S : CallFix p m c cX7_setLevel 2 s #[.ref u, .int (iI v)] wsX7_setLevel RX7 := S
  have hl : lv_has ls 2 [(0, .ref u), (1, .int (iI v))] := hl
  refine z_iload_n S (pc := 0) dX7_setLevel_0 rfl (lv_at hl 1 rfl) ?_
  refine z_ldc S (pc := 1) (x := (-3000000)) (by decide +kernel) rfl dX7_setLevel_1 ?_
  refine z_ldc S (pc := 3) (x := 3000000) (by decide +kernel) rfl dX7_setLevel_3 ?_
  refine z_callS S (pc := 5) B (wr := [cSlo u o x1 x2 x3 x4 x5]) (wn := fun _ => [cSlo u o x1 x2 x3 x4 x5]) (st1 := fun _ => [.int (iI (bI (v < (-3000000) ∨ 3000000 < v)))]) (As := [.int (iI v), .int (iI (-3000000)), .int (iI 3000000)]) (mX7_isOutside l E v (-3000000) 3000000 (show inI v ∧ inI (-3000000) ∧ inI 3000000 from by omega)) gX7_setLevel_X7_isOutside 3 rfl (by decide +kernel) ⟨Nat.le_of_ble_eq_true rfl, Nat.le_of_ble_eq_true rfl, Nat.le_of_ble_eq_true rfl, Nat.le_of_ble_eq_true rfl⟩ [] [0] [0] rfl rfl ⟨rfl, rfl, rfl, by decide⟩ (fun _ => rfl) rfl (fun _ => rfl) hl.1 (Nat.le_of_ble_eq_true rfl) rfl dX7_setLevel_5 (fun _ _ H locs B => ?_)
  refine z_ifeq_b S (pc := 8) (tgt := 14) dX7_setLevel_8 rfl (fun c1 => ?_) (fun c1 => ?_)
  · exact absurd hbad (by omega)
  · refine z_bipush S (pc := 11) dX7_setLevel_11 rfl ?_
    exact z_ireturn S hr hlk B () trivial rfl rfl (pc := 13) dX7_setLevel_13
theorem iX7_setHum_X2 : ∀ w ∈ wsX20, w ∈ wsX7_setHum := by decide +kernel
theorem iX7_setHum_X5 : ∀ w ∈ wsX50, w ∈ wsX7_setHum := by decide +kernel
theorem iX7_setHum_X6 : ∀ w ∈ wsX60, w ∈ wsX7_setHum := by decide +kernel
theorem iX7_setHum_X7 : ∀ w ∈ wsX70, w ∈ wsX7_setHum := by decide +kernel
set_option maxHeartbeats 4000000 in
set_option maxRecDepth 100000 in
theorem mX7_setHum (l : Launch) (E : gT) (u : Nat) (o : Nat) (x1 : Nat) (x2 : Nat) (x3 : Nat) (x4 : Nat) (x5 : Nat) (a : Nat) (b : Nat) (f : Nat) (g : Nat) (σ : Nat → Int) (ov : Int) (rr : Int) (rb : Int) (rn : Int) (h : Nat) (i : Nat) (ρ : Nat → Int) (am : Int) (pe : Int) (hv : 0 ≤ am ∧ am ≤ 1000000) (hp : inPe pe) : Cd l E yX7_setHum wsX7_setHum 1 22 0 0 [.ref u, .int (iI am), .int (iI pe)] [cSlo u o x1 x2 x3 x4 x5, cSta o a h, cMet a b f g σ rr rb rn, cSig b σ] (some (.int (iI (σ 2)))) [cSlo u o x1 x2 x3 x4 x5, cSta o a h, cMet a b f g σ rr rb rn, (b, .inr (5, [.int (iI (σ 0)), .int (iI am), .int (iI pe), .int (iI (σ 3)), .int (iI (σ 4))]))] := by
  refine Ct.mk (cc := cX7_setHum) (maxL := 5) (ret := (some .int)) (plainFor_of_name (by decide)) rfl (Nat.le_of_ble_eq_true rfl) ?_
  intro p e s m below meth c A ls H locs S hr hlk hnm B hl
  have S : CallFix p m c cX7_setHum 5 s #[.ref u, .int (iI am), .int (iI pe)] wsX7_setHum RX7 := S
  have hl : lv_has ls 5 [(0, .ref u), (1, .int (iI am)), (2, .int (iI pe))] := hl
  have q1 : pe.tmod 4 = pe % 4 := tmod_n (by omega)
  have q2 := tdiv_bd (a := pe) (q := 4) (B := 400) (by omega) (by omega) (by omega)
  refine z_iload_n S (pc := 0) dX7_setHum_0 rfl (lv_at hl 1 rfl) ?_
  refine z_iconst S (pc := 1) dX7_setHum_1 ?_
  refine z_ldc S (pc := 2) (x := 1000000) (by decide +kernel) rfl dX7_setHum_2 ?_
  refine z_callS S (pc := 4) B (wr := [cSlo u o x1 x2 x3 x4 x5, cSta o a h, cMet a b f g σ rr rb rn, cSig b σ]) (wn := fun _ => [cSlo u o x1 x2 x3 x4 x5, cSta o a h, cMet a b f g σ rr rb rn, cSig b σ]) (st1 := fun _ => [.int (iI (bI (am < 0 ∨ 1000000 < am)))]) (As := [.int (iI am), .int (iI 0), .int (iI 1000000)]) (mX7_isOutside l E am 0 1000000 (show inI am ∧ inI 0 ∧ inI 1000000 from by omega)) gX7_setHum_X7_isOutside 3 rfl (by decide +kernel) ⟨Nat.le_of_ble_eq_true rfl, Nat.le_of_ble_eq_true rfl, Nat.le_of_ble_eq_true rfl, Nat.le_of_ble_eq_true rfl⟩ [] [0, 1, 2, 3] [0, 1, 2, 3] rfl rfl ⟨rfl, rfl, rfl, by decide⟩ (fun _ => rfl) rfl (fun _ => rfl) hl.1 (Nat.le_of_ble_eq_true rfl) rfl dX7_setHum_4 (fun _ _ H locs B => ?_)
  refine z_ifne_b S (pc := 7) (tgt := 27) dX7_setHum_7 rfl (fun c1 => absurd c1 (by omega)) (fun c1 => ?_)
  refine z_iload_n S (pc := 10) dX7_setHum_10 rfl (lv_at hl 2 rfl) ?_
  refine z_iconst S (pc := 11) dX7_setHum_11 ?_
  refine z_sipush S (pc := 12) dX7_setHum_12 rfl ?_
  refine z_callS S (pc := 15) B (wr := [cSlo u o x1 x2 x3 x4 x5, cSta o a h, cMet a b f g σ rr rb rn, cSig b σ]) (wn := fun _ => [cSlo u o x1 x2 x3 x4 x5, cSta o a h, cMet a b f g σ rr rb rn, cSig b σ]) (st1 := fun _ => [.int (iI (bI (pe < 4 ∨ 400 < pe)))]) (As := [.int (iI pe), .int (iI 4), .int (iI 400)]) (mX7_isOutside l E pe 4 400 (show inI pe ∧ inI 4 ∧ inI 400 from by omega)) gX7_setHum_X7_isOutside 3 rfl (by decide +kernel) ⟨Nat.le_of_ble_eq_true rfl, Nat.le_of_ble_eq_true rfl, Nat.le_of_ble_eq_true rfl, Nat.le_of_ble_eq_true rfl⟩ [] [0, 1, 2, 3] [0, 1, 2, 3] rfl rfl ⟨rfl, rfl, rfl, by decide⟩ (fun _ => rfl) rfl (fun _ => rfl) hl.1 (Nat.le_of_ble_eq_true rfl) rfl dX7_setHum_15 (fun _ _ H locs B => ?_)
  refine z_ifne_b S (pc := 18) (tgt := 27) dX7_setHum_18 rfl (fun c2 => absurd c2 (by omega)) (fun c2 => ?_)
  refine z_iload_n S (pc := 21) dX7_setHum_21 rfl (lv_at hl 2 rfl) ?_
  refine z_iconst S (pc := 22) dX7_setHum_22 ?_
  refine z_irem S (pc := 23) (by omega) (by omega) (by omega) (by omega) dX7_setHum_23 ?_
  refine z_if_eq S (pc := 24) (tgt := 30) (by omega) dX7_setHum_24 rfl (fun c3 => ?_) (fun c3 => absurd c3 (by omega))
  refine z_aload_n S (pc := 30) dX7_setHum_30 rfl (lv_at hl 0 rfl) ?_
  refine z_get S (pc := 31) B iX7_setHum_X7 0 rfl rfl 0 (by decide) rfl rfl (by decide +kernel) dX7_setHum_31 ?_
  refine z_get S (pc := 34) B iX7_setHum_X6 1 rfl rfl 0 (by decide) rfl rfl (by decide +kernel) dX7_setHum_34 ?_
  refine z_get S (pc := 37) B iX7_setHum_X2 2 rfl rfl 0 (by decide) rfl rfl (by decide +kernel) dX7_setHum_37 ?_
  refine lv_astore_n (lv' := [(3, .ref b), (0, .ref u), (1, .int (iI am)), (2, .int (iI pe))]) S.1 S.2.1 (pc := 40) dX7_setHum_40 rfl hl (by decide) rfl (fun ls hl => ?_)
  refine z_aload_n S (pc := 41) dX7_setHum_41 rfl (lv_at hl 0 rfl) ?_
  refine z_get S (pc := 42) B iX7_setHum_X5 3 rfl rfl 2 (by decide) rfl rfl (by decide +kernel) dX7_setHum_42 ?_
  refine lv_istore (lv' := [(4, .int (iI (σ 2))), (3, .ref b), (0, .ref u), (1, .int (iI am)), (2, .int (iI pe))]) S.1 S.2.1 (pc := 45) dX7_setHum_45 hl (by decide) rfl (fun ls hl => ?_)
  refine z_aload_n S (pc := 47) dX7_setHum_47 rfl (lv_at hl 1 rfl) ?_
  refine z_iload_n S (pc := 48) dX7_setHum_48 rfl (lv_at hl 3 rfl) ?_
  refine z_put S (pc := 49) B iX7_setHum_X5 tyX5_ok nmX5 3 rfl rfl 1 (by decide) rfl (by decide +kernel) (ty := .int) (by decide +kernel) rfl rfl (Nat.le_of_ble_eq_true rfl) dX7_setHum_49 (wn := [cSlo u o x1 x2 x3 x4 x5, cSta o a h, cMet a b f g σ rr rb rn, (b, .inr (5, [.int (iI (σ 0)), .int (iI am), .int (iI (σ 2)), .int (iI (σ 3)), .int (iI (σ 4))]))]) rfl (fun H locs B => ?_)
  refine z_aload_n S (pc := 52) dX7_setHum_52 rfl (lv_at hl 1 rfl) ?_
  refine z_iload_n S (pc := 53) dX7_setHum_53 rfl (lv_at hl 4 rfl) ?_
  refine z_put S (pc := 54) B iX7_setHum_X5 tyX5_ok nmX5 3 rfl rfl 2 (by decide) rfl (by decide +kernel) (ty := .int) (by decide +kernel) rfl rfl (Nat.le_of_ble_eq_true rfl) dX7_setHum_54 (wn := [cSlo u o x1 x2 x3 x4 x5, cSta o a h, cMet a b f g σ rr rb rn, (b, .inr (5, [.int (iI (σ 0)), .int (iI am), .int (iI pe), .int (iI (σ 3)), .int (iI (σ 4))]))]) rfl (fun H locs B => ?_)
  refine z_iload S (pc := 57) dX7_setHum_57 (lv_at hl 0 rfl) ?_
  exact z_ireturn S hr hlk B () trivial rfl rfl (pc := 59) dX7_setHum_59
set_option maxHeartbeats 4000000 in
set_option maxRecDepth 100000 in
theorem mX7_setHum_b (l : Launch) (E : gT) (u : Nat) (o : Nat) (x1 : Nat) (x2 : Nat) (x3 : Nat) (x4 : Nat) (x5 : Nat) (am : Int) (pe : Int) (hI : inI am ∧ inI pe) (hbad : (am < 0 ∨ 1000000 < am ∨ ¬ inPe pe)) : Cd l E yX7_setHum wsX7_setHum 1 22 0 0 [.ref u, .int (iI am), .int (iI pe)] [cSlo u o x1 x2 x3 x4 x5] (some (.int (iI (-2)))) [cSlo u o x1 x2 x3 x4 x5] := by
  refine Ct.mk (cc := cX7_setHum) (maxL := 5) (ret := (some .int)) (plainFor_of_name (by decide)) rfl (Nat.le_of_ble_eq_true rfl) ?_
  intro p e s m below meth c A ls H locs S hr hlk hnm B hl
  have S : CallFix p m c cX7_setHum 5 s #[.ref u, .int (iI am), .int (iI pe)] wsX7_setHum RX7 := S
  have hl : lv_has ls 5 [(0, .ref u), (1, .int (iI am)), (2, .int (iI pe))] := hl
  refine z_iload_n S (pc := 0) dX7_setHum_0 rfl (lv_at hl 1 rfl) ?_
  refine z_iconst S (pc := 1) dX7_setHum_1 ?_
  refine z_ldc S (pc := 2) (x := 1000000) (by decide +kernel) rfl dX7_setHum_2 ?_
  refine z_callS S (pc := 4) B (wr := [cSlo u o x1 x2 x3 x4 x5]) (wn := fun _ => [cSlo u o x1 x2 x3 x4 x5]) (st1 := fun _ => [.int (iI (bI (am < 0 ∨ 1000000 < am)))]) (As := [.int (iI am), .int (iI 0), .int (iI 1000000)]) (mX7_isOutside l E am 0 1000000 (show inI am ∧ inI 0 ∧ inI 1000000 from by omega)) gX7_setHum_X7_isOutside 3 rfl (by decide +kernel) ⟨Nat.le_of_ble_eq_true rfl, Nat.le_of_ble_eq_true rfl, Nat.le_of_ble_eq_true rfl, Nat.le_of_ble_eq_true rfl⟩ [] [0] [0] rfl rfl ⟨rfl, rfl, rfl, by decide⟩ (fun _ => rfl) rfl (fun _ => rfl) hl.1 (Nat.le_of_ble_eq_true rfl) rfl dX7_setHum_4 (fun _ _ H locs B => ?_)
  refine z_ifne_b S (pc := 7) (tgt := 27) dX7_setHum_7 rfl (fun c1 => ?_) (fun c1 => ?_)
  · refine z_bipush S (pc := 27) dX7_setHum_27 rfl ?_
    exact z_ireturn S hr hlk B () trivial rfl rfl (pc := 29) dX7_setHum_29
  · refine z_iload_n S (pc := 10) dX7_setHum_10 rfl (lv_at hl 2 rfl) ?_
    refine z_iconst S (pc := 11) dX7_setHum_11 ?_
    refine z_sipush S (pc := 12) dX7_setHum_12 rfl ?_
    refine z_callS S (pc := 15) B (wr := [cSlo u o x1 x2 x3 x4 x5]) (wn := fun _ => [cSlo u o x1 x2 x3 x4 x5]) (st1 := fun _ => [.int (iI (bI (pe < 4 ∨ 400 < pe)))]) (As := [.int (iI pe), .int (iI 4), .int (iI 400)]) (mX7_isOutside l E pe 4 400 (show inI pe ∧ inI 4 ∧ inI 400 from by omega)) gX7_setHum_X7_isOutside 3 rfl (by decide +kernel) ⟨Nat.le_of_ble_eq_true rfl, Nat.le_of_ble_eq_true rfl, Nat.le_of_ble_eq_true rfl, Nat.le_of_ble_eq_true rfl⟩ [] [0] [0] rfl rfl ⟨rfl, rfl, rfl, by decide⟩ (fun _ => rfl) rfl (fun _ => rfl) hl.1 (Nat.le_of_ble_eq_true rfl) rfl dX7_setHum_15 (fun _ _ H locs B => ?_)
    refine z_ifne_b S (pc := 18) (tgt := 27) dX7_setHum_18 rfl (fun c2 => ?_) (fun c2 => ?_)
    · refine z_bipush S (pc := 27) dX7_setHum_27 rfl ?_
      exact z_ireturn S hr hlk B () trivial rfl rfl (pc := 29) dX7_setHum_29
    · refine z_iload_n S (pc := 21) dX7_setHum_21 rfl (lv_at hl 2 rfl) ?_
      refine z_iconst S (pc := 22) dX7_setHum_22 ?_
      refine z_iremn S (pc := 23) (by omega) (by omega) dX7_setHum_23 ?_
      refine z_if_eq S (pc := 24) (tgt := 30) (by omega) dX7_setHum_24 rfl (fun c3 => ?_) (fun c3 => ?_)
      · exact absurd hbad (by omega)
      · refine z_bipush S (pc := 27) dX7_setHum_27 rfl ?_
        exact z_ireturn S hr hlk B () trivial rfl rfl (pc := 29) dX7_setHum_29
theorem iX7_setOffset_X2 : ∀ w ∈ wsX20, w ∈ wsX7_setOffset := by decide +kernel
theorem iX7_setOffset_X5 : ∀ w ∈ wsX50, w ∈ wsX7_setOffset := by decide +kernel
theorem iX7_setOffset_X6 : ∀ w ∈ wsX60, w ∈ wsX7_setOffset := by decide +kernel
theorem iX7_setOffset_X7 : ∀ w ∈ wsX70, w ∈ wsX7_setOffset := by decide +kernel
set_option maxHeartbeats 4000000 in
set_option maxRecDepth 100000 in
theorem mX7_setOffset (l : Launch) (E : gT) (u : Nat) (o : Nat) (x1 : Nat) (x2 : Nat) (x3 : Nat) (x4 : Nat) (x5 : Nat) (a : Nat) (b : Nat) (f : Nat) (g : Nat) (σ : Nat → Int) (ov : Int) (rr : Int) (rb : Int) (rn : Int) (h : Nat) (i : Nat) (ρ : Nat → Int) (bi : Int) (dr : Int) (hv : -100000 ≤ bi ∧ bi ≤ 100000) (hd : -1000 ≤ dr ∧ dr ≤ 1000) (h11 : 0 ≤ σ 11 ∧ σ 11 ≤ 2000000000) : Cd l E yX7_setOffset wsX7_setOffset 2 44 0 0 [.ref u, .int (iI bi), .int (iI dr)] [cSlo u o x1 x2 x3 x4 x5, cSta o a h, cMet a b f g σ rr rb rn, cSig b σ] (some (.int (iI (offs bi dr (σ 11) + 100000000)))) [cSlo u o x1 x2 x3 x4 x5, cSta o a h, cMet a b f g σ rr rb rn, (b, .inr (5, [.int (iI (σ 0)), .int (iI (σ 1)), .int (iI (σ 2)), .int (iI bi), .int (iI dr)]))] := by
  refine Ct.mk (cc := cX7_setOffset) (maxL := 4) (ret := (some .int)) (plainFor_of_name (by decide)) rfl (Nat.le_of_ble_eq_true rfl) ?_
  intro p e s m below meth c A ls H locs S hr hlk hnm B hl
  have S : CallFix p m c cX7_setOffset 4 s #[.ref u, .int (iI bi), .int (iI dr)] wsX7_setOffset RX7 := S
  have hl : lv_has ls 4 [(0, .ref u), (1, .int (iI bi)), (2, .int (iI dr))] := hl
  refine z_iload_n S (pc := 0) dX7_setOffset_0 rfl (lv_at hl 1 rfl) ?_
  refine z_ldc S (pc := 1) (x := (-100000)) (by decide +kernel) rfl dX7_setOffset_1 ?_
  refine z_ldc S (pc := 3) (x := 100000) (by decide +kernel) rfl dX7_setOffset_3 ?_
  refine z_callS S (pc := 5) B (wr := [cSlo u o x1 x2 x3 x4 x5, cSta o a h, cMet a b f g σ rr rb rn, cSig b σ]) (wn := fun _ => [cSlo u o x1 x2 x3 x4 x5, cSta o a h, cMet a b f g σ rr rb rn, cSig b σ]) (st1 := fun _ => [.int (iI (bI (bi < (-100000) ∨ 100000 < bi)))]) (As := [.int (iI bi), .int (iI (-100000)), .int (iI 100000)]) (mX7_isOutside l E bi (-100000) 100000 (show inI bi ∧ inI (-100000) ∧ inI 100000 from by omega)) gX7_setOffset_X7_isOutside 3 rfl (by decide +kernel) ⟨Nat.le_of_ble_eq_true rfl, Nat.le_of_ble_eq_true rfl, Nat.le_of_ble_eq_true rfl, Nat.le_of_ble_eq_true rfl⟩ [] [0, 1, 2, 3] [0, 1, 2, 3] rfl rfl ⟨rfl, rfl, rfl, by decide⟩ (fun _ => rfl) rfl (fun _ => rfl) hl.1 (Nat.le_of_ble_eq_true rfl) rfl dX7_setOffset_5 (fun _ _ H locs B => ?_)
  refine z_ifne_b S (pc := 8) (tgt := 24) dX7_setOffset_8 rfl (fun c1 => absurd c1 (by omega)) (fun c1 => ?_)
  refine z_iload_n S (pc := 11) dX7_setOffset_11 rfl (lv_at hl 2 rfl) ?_
  refine z_sipush S (pc := 12) dX7_setOffset_12 rfl ?_
  refine z_sipush S (pc := 15) dX7_setOffset_15 rfl ?_
  refine z_callS S (pc := 18) B (wr := [cSlo u o x1 x2 x3 x4 x5, cSta o a h, cMet a b f g σ rr rb rn, cSig b σ]) (wn := fun _ => [cSlo u o x1 x2 x3 x4 x5, cSta o a h, cMet a b f g σ rr rb rn, cSig b σ]) (st1 := fun _ => [.int (iI (bI (dr < (-1000) ∨ 1000 < dr)))]) (As := [.int (iI dr), .int (iI (-1000)), .int (iI 1000)]) (mX7_isOutside l E dr (-1000) 1000 (show inI dr ∧ inI (-1000) ∧ inI 1000 from by omega)) gX7_setOffset_X7_isOutside 3 rfl (by decide +kernel) ⟨Nat.le_of_ble_eq_true rfl, Nat.le_of_ble_eq_true rfl, Nat.le_of_ble_eq_true rfl, Nat.le_of_ble_eq_true rfl⟩ [] [0, 1, 2, 3] [0, 1, 2, 3] rfl rfl ⟨rfl, rfl, rfl, by decide⟩ (fun _ => rfl) rfl (fun _ => rfl) hl.1 (Nat.le_of_ble_eq_true rfl) rfl dX7_setOffset_18 (fun _ _ H locs B => ?_)
  refine z_ifeq_b S (pc := 21) (tgt := 27) dX7_setOffset_21 rfl (fun c2 => ?_) (fun c2 => absurd c2 (by omega))
  refine z_aload_n S (pc := 27) dX7_setOffset_27 rfl (lv_at hl 0 rfl) ?_
  refine z_get S (pc := 28) B iX7_setOffset_X7 0 rfl rfl 0 (by decide) rfl rfl (by decide +kernel) dX7_setOffset_28 ?_
  refine z_get S (pc := 31) B iX7_setOffset_X6 1 rfl rfl 0 (by decide) rfl rfl (by decide +kernel) dX7_setOffset_31 ?_
  refine z_get S (pc := 34) B iX7_setOffset_X2 2 rfl rfl 0 (by decide) rfl rfl (by decide +kernel) dX7_setOffset_34 ?_
  refine lv_astore_n (lv' := [(3, .ref b), (0, .ref u), (1, .int (iI bi)), (2, .int (iI dr))]) S.1 S.2.1 (pc := 37) dX7_setOffset_37 rfl hl (by decide) rfl (fun ls hl => ?_)
  refine z_aload_n S (pc := 38) dX7_setOffset_38 rfl (lv_at hl 0 rfl) ?_
  refine z_iload_n S (pc := 39) dX7_setOffset_39 rfl (lv_at hl 2 rfl) ?_
  refine z_put S (pc := 40) B iX7_setOffset_X5 tyX5_ok nmX5 3 rfl rfl 3 (by decide) rfl (by decide +kernel) (ty := .int) (by decide +kernel) rfl rfl (Nat.le_of_ble_eq_true rfl) dX7_setOffset_40 (wn := [cSlo u o x1 x2 x3 x4 x5, cSta o a h, cMet a b f g σ rr rb rn, (b, .inr (5, [.int (iI (σ 0)), .int (iI (σ 1)), .int (iI (σ 2)), .int (iI bi), .int (iI (σ 4))]))]) rfl (fun H locs B => ?_)
  refine z_aload_n S (pc := 43) dX7_setOffset_43 rfl (lv_at hl 0 rfl) ?_
  refine z_iload_n S (pc := 44) dX7_setOffset_44 rfl (lv_at hl 3 rfl) ?_
  refine z_put S (pc := 45) B iX7_setOffset_X5 tyX5_ok nmX5 3 rfl rfl 4 (by decide) rfl (by decide +kernel) (ty := .int) (by decide +kernel) rfl rfl (Nat.le_of_ble_eq_true rfl) dX7_setOffset_45 (wn := [cSlo u o x1 x2 x3 x4 x5, cSta o a h, cMet a b f g σ rr rb rn, (b, .inr (5, [.int (iI (σ 0)), .int (iI (σ 1)), .int (iI (σ 2)), .int (iI bi), .int (iI dr)]))]) rfl (fun H locs B => ?_)
  refine z_aload_n S (pc := 48) dX7_setOffset_48 rfl (lv_at hl 0 rfl) ?_
  refine z_aload_n S (pc := 49) dX7_setOffset_49 rfl (lv_at hl 1 rfl) ?_
  refine z_get S (pc := 50) B iX7_setOffset_X7 0 rfl rfl 0 (by decide) rfl rfl (by decide +kernel) dX7_setOffset_50 ?_
  refine z_get S (pc := 53) B iX7_setOffset_X6 1 rfl rfl 0 (by decide) rfl rfl (by decide +kernel) dX7_setOffset_53 ?_
  refine z_get S (pc := 56) B iX7_setOffset_X2 2 rfl rfl 3 (by decide) rfl rfl (by decide +kernel) dX7_setOffset_56 ?_
  refine z_callV S (pc := 59) B (wr := [cSlo u o x1 x2 x3 x4 x5, cSta o a h, cMet a b f g σ rr rb rn]) (wn := fun _ => [cSlo u o x1 x2 x3 x4 x5, cSta o a h, cMet a b f g σ rr rb rn, (b, .inr (5, [.int (iI (σ 0)), .int (iI (σ 1)), .int (iI (σ 2)), .int (iI bi), .int (iI dr)]))]) (st1 := fun _ => [.long (iL (offs bi dr (σ 11)))]) (As := [.int (iI (σ 11))]) (mX5_offsetAt l E b (up (up σ 3 bi) 4 dr) (σ 11) (show -100000 ≤ bi ∧ bi ≤ 100000 from by omega) (show -1000 ≤ dr ∧ dr ≤ 1000 from by omega) (show 0 ≤ (σ 11) ∧ (σ 11) ≤ 2147483647 from by omega)) gX7_setOffset_X5_offsetAt 1 rfl (by decide +kernel) ⟨Nat.le_of_ble_eq_true rfl, Nat.le_of_ble_eq_true rfl, Nat.le_of_ble_eq_true rfl, Nat.le_of_ble_eq_true rfl⟩ 0 rfl (q := (RX5, TX5, 5)) rfl rfl [3] [0, 1, 2] [0, 1, 2, 3] rfl rfl ⟨rfl, rfl, rfl, by decide⟩ (fun _ => rfl) rfl (fun _ => rfl) hl.1 (Nat.le_of_ble_eq_true rfl) rfl dX7_setOffset_59 (fun _ _ H locs B => ?_)
  refine z_l2i S (pc := 62) dX7_setOffset_62 ?_
  refine z_ldc S (pc := 63) (x := 100000000) (by decide +kernel) rfl dX7_setOffset_63 ?_
  refine z_iadd S (pc := 65) dX7_setOffset_65 ?_
  exact z_ireturn S hr hlk B () trivial rfl rfl (pc := 66) dX7_setOffset_66
set_option maxHeartbeats 4000000 in
set_option maxRecDepth 100000 in
theorem mX7_setOffset_b (l : Launch) (E : gT) (u : Nat) (o : Nat) (x1 : Nat) (x2 : Nat) (x3 : Nat) (x4 : Nat) (x5 : Nat) (bi : Int) (dr : Int) (hI : inI bi ∧ inI dr) (hbad : (bi < -100000 ∨ 100000 < bi ∨ dr < -1000 ∨ 1000 < dr)) : Cd l E yX7_setOffset wsX7_setOffset 2 44 0 0 [.ref u, .int (iI bi), .int (iI dr)] [cSlo u o x1 x2 x3 x4 x5] (some (.int (iI (-2)))) [cSlo u o x1 x2 x3 x4 x5] := by
  refine Ct.mk (cc := cX7_setOffset) (maxL := 4) (ret := (some .int)) (plainFor_of_name (by decide)) rfl (Nat.le_of_ble_eq_true rfl) ?_
  intro p e s m below meth c A ls H locs S hr hlk hnm B hl
  have S : CallFix p m c cX7_setOffset 4 s #[.ref u, .int (iI bi), .int (iI dr)] wsX7_setOffset RX7 := S
  have hl : lv_has ls 4 [(0, .ref u), (1, .int (iI bi)), (2, .int (iI dr))] := hl
  refine z_iload_n S (pc := 0) dX7_setOffset_0 rfl (lv_at hl 1 rfl) ?_
  refine z_ldc S (pc := 1) (x := (-100000)) (by decide +kernel) rfl dX7_setOffset_1 ?_
  refine z_ldc S (pc := 3) (x := 100000) (by decide +kernel) rfl dX7_setOffset_3 ?_
  refine z_callS S (pc := 5) B (wr := [cSlo u o x1 x2 x3 x4 x5]) (wn := fun _ => [cSlo u o x1 x2 x3 x4 x5]) (st1 := fun _ => [.int (iI (bI (bi < (-100000) ∨ 100000 < bi)))]) (As := [.int (iI bi), .int (iI (-100000)), .int (iI 100000)]) (mX7_isOutside l E bi (-100000) 100000 (show inI bi ∧ inI (-100000) ∧ inI 100000 from by omega)) gX7_setOffset_X7_isOutside 3 rfl (by decide +kernel) ⟨Nat.le_of_ble_eq_true rfl, Nat.le_of_ble_eq_true rfl, Nat.le_of_ble_eq_true rfl, Nat.le_of_ble_eq_true rfl⟩ [] [0] [0] rfl rfl ⟨rfl, rfl, rfl, by decide⟩ (fun _ => rfl) rfl (fun _ => rfl) hl.1 (Nat.le_of_ble_eq_true rfl) rfl dX7_setOffset_5 (fun _ _ H locs B => ?_)
  refine z_ifne_b S (pc := 8) (tgt := 24) dX7_setOffset_8 rfl (fun c1 => ?_) (fun c1 => ?_)
  · refine z_bipush S (pc := 24) dX7_setOffset_24 rfl ?_
    exact z_ireturn S hr hlk B () trivial rfl rfl (pc := 26) dX7_setOffset_26
  · refine z_iload_n S (pc := 11) dX7_setOffset_11 rfl (lv_at hl 2 rfl) ?_
    refine z_sipush S (pc := 12) dX7_setOffset_12 rfl ?_
    refine z_sipush S (pc := 15) dX7_setOffset_15 rfl ?_
    refine z_callS S (pc := 18) B (wr := [cSlo u o x1 x2 x3 x4 x5]) (wn := fun _ => [cSlo u o x1 x2 x3 x4 x5]) (st1 := fun _ => [.int (iI (bI (dr < (-1000) ∨ 1000 < dr)))]) (As := [.int (iI dr), .int (iI (-1000)), .int (iI 1000)]) (mX7_isOutside l E dr (-1000) 1000 (show inI dr ∧ inI (-1000) ∧ inI 1000 from by omega)) gX7_setOffset_X7_isOutside 3 rfl (by decide +kernel) ⟨Nat.le_of_ble_eq_true rfl, Nat.le_of_ble_eq_true rfl, Nat.le_of_ble_eq_true rfl, Nat.le_of_ble_eq_true rfl⟩ [] [0] [0] rfl rfl ⟨rfl, rfl, rfl, by decide⟩ (fun _ => rfl) rfl (fun _ => rfl) hl.1 (Nat.le_of_ble_eq_true rfl) rfl dX7_setOffset_18 (fun _ _ H locs B => ?_)
    refine z_ifeq_b S (pc := 21) (tgt := 27) dX7_setOffset_21 rfl (fun c2 => ?_) (fun c2 => ?_)
    · exact absurd hbad (by omega)
    · refine z_bipush S (pc := 24) dX7_setOffset_24 rfl ?_
      exact z_ireturn S hr hlk B () trivial rfl rfl (pc := 26) dX7_setOffset_26
theorem iX7_set_X2 : ∀ w ∈ wsX20, w ∈ wsX7_set := by decide +kernel
theorem iX7_set_X6 : ∀ w ∈ wsX60, w ∈ wsX7_set := by decide +kernel
theorem iX7_set_X7 : ∀ w ∈ wsX70, w ∈ wsX7_set := by decide +kernel
set_option maxHeartbeats 4000000 in
set_option maxRecDepth 100000 in
theorem mX7_set_0 (l : Launch) (E : gT) (u : Nat) (o : Nat) (x1 : Nat) (x2 : Nat) (x3 : Nat) (x4 : Nat) (x5 : Nat) (a : Nat) (b : Nat) (f : Nat) (g : Nat) (σ : Nat → Int) (ov : Int) (rr : Int) (rb : Int) (rn : Int) (h : Nat) (i : Nat) (ρ : Nat → Int) (x : Int) (hv : 4 ≤ x ∧ x ≤ 400) : Cd l E yX7_set wsX7_set 2 40 0 0 [.ref u, .int (iI 0), .int (iI x)] [cSlo u o x1 x2 x3 x4 x5, cSta o a h, cMet a b f g σ rr rb rn, cSet f σ] (some (.int (iI (σ 5)))) [cSlo u o x1 x2 x3 x4 x5, cSta o a h, cMet a b f g σ rr rb rn, (f, .inr (4, [.int (iI x), .int (iI (σ 6)), .int (iI (σ 7)), .int (iI (σ 8)), .int (iI (σ 9)), .int (iI (σ 10))]))] := by
  refine Ct.mk (cc := cX7_set) (maxL := 4) (ret := (some .int)) (plainFor_of_name (by decide)) rfl (Nat.le_of_ble_eq_true rfl) ?_
  intro p e s m below meth c A ls H locs S hr hlk hnm B hl
  have S : CallFix p m c cX7_set 4 s #[.ref u, .int (iI 0), .int (iI x)] wsX7_set RX7 := S
  have hl : lv_has ls 4 [(0, .ref u), (1, .int (iI 0)), (2, .int (iI x))] := hl
  refine z_iload_n S (pc := 0) dX7_set_0 rfl (lv_at hl 1 rfl) ?_
  refine z_callS S (pc := 1) B (wr := [cSlo u o x1 x2 x3 x4 x5, cSta o a h, cMet a b f g σ rr rb rn, cSet f σ]) (wn := fun _ => [cSlo u o x1 x2 x3 x4 x5, cSta o a h, cMet a b f g σ rr rb rn, cSet f σ]) (st1 := fun _ => [.int (iI (bI (0 < 0 ∨ 6 ≤ 0)))]) (As := [.int (iI 0)]) (mX7_isNoSetting l E 0 (show inI 0 from by omega)) gX7_set_X7_isNoSetting 1 rfl (by decide +kernel) ⟨Nat.le_of_ble_eq_true rfl, Nat.le_of_ble_eq_true rfl, Nat.le_of_ble_eq_true rfl, Nat.le_of_ble_eq_true rfl⟩ [] [0, 1, 2, 3] [0, 1, 2, 3] rfl rfl ⟨rfl, rfl, rfl, by decide⟩ (fun _ => rfl) rfl (fun _ => rfl) hl.1 (Nat.le_of_ble_eq_true rfl) rfl dX7_set_1 (fun _ _ H locs B => ?_)
  refine z_ifne_b S (pc := 4) (tgt := 22) dX7_set_4 rfl (fun c1 => absurd c1 (by omega)) (fun c1 => ?_)
  refine z_iload_n S (pc := 7) dX7_set_7 rfl (lv_at hl 2 rfl) ?_
  refine z_iload_n S (pc := 8) dX7_set_8 rfl (lv_at hl 1 rfl) ?_
  refine z_callS S (pc := 9) B (wr := [cSlo u o x1 x2 x3 x4 x5, cSta o a h, cMet a b f g σ rr rb rn, cSet f σ]) (wn := fun _ => [cSlo u o x1 x2 x3 x4 x5, cSta o a h, cMet a b f g σ rr rb rn, cSet f σ]) (st1 := fun _ => [.int (iI (loS 0)), .int (iI x)]) (As := [.int (iI 0)]) (mX7_leastOf l E 0 (show inI 0 from by omega)) gX7_set_X7_leastOf 1 rfl (by decide +kernel) ⟨Nat.le_of_ble_eq_true rfl, Nat.le_of_ble_eq_true rfl, Nat.le_of_ble_eq_true rfl, Nat.le_of_ble_eq_true rfl⟩ [] [0, 1, 2, 3] [0, 1, 2, 3] rfl rfl ⟨rfl, rfl, rfl, by decide⟩ (fun _ => rfl) rfl (fun _ => rfl) hl.1 (Nat.le_of_ble_eq_true rfl) rfl dX7_set_9 (fun _ _ H locs B => ?_)
  rw [show loS 0 = 4 from rfl]
  refine z_iload_n S (pc := 12) dX7_set_12 rfl (lv_at hl 1 rfl) ?_
  refine z_callS S (pc := 13) B (wr := [cSlo u o x1 x2 x3 x4 x5, cSta o a h, cMet a b f g σ rr rb rn, cSet f σ]) (wn := fun _ => [cSlo u o x1 x2 x3 x4 x5, cSta o a h, cMet a b f g σ rr rb rn, cSet f σ]) (st1 := fun _ => [.int (iI (hiS 0)), .int (iI 4), .int (iI x)]) (As := [.int (iI 0)]) (mX7_mostOf l E 0 (show inI 0 from by omega)) gX7_set_X7_mostOf 1 rfl (by decide +kernel) ⟨Nat.le_of_ble_eq_true rfl, Nat.le_of_ble_eq_true rfl, Nat.le_of_ble_eq_true rfl, Nat.le_of_ble_eq_true rfl⟩ [] [0, 1, 2, 3] [0, 1, 2, 3] rfl rfl ⟨rfl, rfl, rfl, by decide⟩ (fun _ => rfl) rfl (fun _ => rfl) hl.1 (Nat.le_of_ble_eq_true rfl) rfl dX7_set_13 (fun _ _ H locs B => ?_)
  rw [show hiS 0 = 400 from rfl]
  refine z_callS S (pc := 16) B (wr := [cSlo u o x1 x2 x3 x4 x5, cSta o a h, cMet a b f g σ rr rb rn, cSet f σ]) (wn := fun _ => [cSlo u o x1 x2 x3 x4 x5, cSta o a h, cMet a b f g σ rr rb rn, cSet f σ]) (st1 := fun _ => [.int (iI (bI (x < 4 ∨ 400 < x)))]) (As := [.int (iI x), .int (iI 4), .int (iI 400)]) (mX7_isOutside l E x 4 400 (show inI x ∧ inI 4 ∧ inI 400 from by omega)) gX7_set_X7_isOutside 3 rfl (by decide +kernel) ⟨Nat.le_of_ble_eq_true rfl, Nat.le_of_ble_eq_true rfl, Nat.le_of_ble_eq_true rfl, Nat.le_of_ble_eq_true rfl⟩ [] [0, 1, 2, 3] [0, 1, 2, 3] rfl rfl ⟨rfl, rfl, rfl, by decide⟩ (fun _ => rfl) rfl (fun _ => rfl) hl.1 (Nat.le_of_ble_eq_true rfl) rfl dX7_set_16 (fun _ _ H locs B => ?_)
  refine z_ifeq_b S (pc := 19) (tgt := 25) dX7_set_19 rfl (fun c2 => ?_) (fun c2 => absurd c2 (by omega))
  refine z_aload_n S (pc := 25) dX7_set_25 rfl (lv_at hl 0 rfl) ?_
  refine z_get S (pc := 26) B iX7_set_X7 0 rfl rfl 0 (by decide) rfl rfl (by decide +kernel) dX7_set_26 ?_
  refine z_get S (pc := 29) B iX7_set_X6 1 rfl rfl 0 (by decide) rfl rfl (by decide +kernel) dX7_set_29 ?_
  refine z_get S (pc := 32) B iX7_set_X2 2 rfl rfl 1 (by decide) rfl rfl (by decide +kernel) dX7_set_32 ?_
  refine z_iload_n S (pc := 35) dX7_set_35 rfl (lv_at hl 1 rfl) ?_
  refine z_callV S (pc := 36) B (wr := [cSlo u o x1 x2 x3 x4 x5, cSta o a h, cMet a b f g σ rr rb rn]) (wn := fun _ => [cSlo u o x1 x2 x3 x4 x5, cSta o a h, cMet a b f g σ rr rb rn, cSet f σ]) (st1 := fun _ => [.int (iI (σ 5))]) (As := [.int (iI 0)]) (mX4_valueOf l E f σ 0 (show 0 ≤ 0 ∧ 0 ≤ 5 from by omega)) gX7_set_X4_valueOf 1 rfl (by decide +kernel) ⟨Nat.le_of_ble_eq_true rfl, Nat.le_of_ble_eq_true rfl, Nat.le_of_ble_eq_true rfl, Nat.le_of_ble_eq_true rfl⟩ 0 rfl (q := (RX4, TX4, 6)) rfl rfl [3] [0, 1, 2] [0, 1, 2, 3] rfl rfl ⟨rfl, rfl, rfl, by decide⟩ (fun _ => rfl) rfl (fun _ => rfl) hl.1 (Nat.le_of_ble_eq_true rfl) rfl dX7_set_36 (fun _ _ H locs B => ?_)
  refine lv_istore_n (lv' := [(3, .int (iI (σ 5))), (0, .ref u), (1, .int (iI 0)), (2, .int (iI x))]) S.1 S.2.1 (pc := 39) dX7_set_39 rfl hl (by decide) rfl (fun ls hl => ?_)
  refine z_aload_n S (pc := 40) dX7_set_40 rfl (lv_at hl 1 rfl) ?_
  refine z_get S (pc := 41) B iX7_set_X7 0 rfl rfl 0 (by decide) rfl rfl (by decide +kernel) dX7_set_41 ?_
  refine z_get S (pc := 44) B iX7_set_X6 1 rfl rfl 0 (by decide) rfl rfl (by decide +kernel) dX7_set_44 ?_
  refine z_get S (pc := 47) B iX7_set_X2 2 rfl rfl 1 (by decide) rfl rfl (by decide +kernel) dX7_set_47 ?_
  refine z_iload_n S (pc := 50) dX7_set_50 rfl (lv_at hl 2 rfl) ?_
  refine z_iload_n S (pc := 51) dX7_set_51 rfl (lv_at hl 3 rfl) ?_
  refine z_callV S (pc := 52) B (wr := [cSlo u o x1 x2 x3 x4 x5, cSta o a h, cMet a b f g σ rr rb rn]) (wn := fun _ => [cSlo u o x1 x2 x3 x4 x5, cSta o a h, cMet a b f g σ rr rb rn, (f, .inr (4, [.int (iI x), .int (iI (σ 6)), .int (iI (σ 7)), .int (iI (σ 8)), .int (iI (σ 9)), .int (iI (σ 10))]))]) (st1 := fun _ => []) (As := [.int (iI 0), .int (iI x)]) (mX4_change l E f σ 0 x (show 0 ≤ 0 ∧ 0 ≤ 5 from by omega)) gX7_set_X4_change 2 rfl (by decide +kernel) ⟨Nat.le_of_ble_eq_true rfl, Nat.le_of_ble_eq_true rfl, Nat.le_of_ble_eq_true rfl, Nat.le_of_ble_eq_true rfl⟩ 0 rfl (q := (RX4, TX4, 6)) rfl rfl [3] [0, 1, 2] [0, 1, 2, 3] rfl rfl ⟨rfl, rfl, rfl, by decide⟩ (fun _ => rfl) rfl (fun _ => rfl) hl.1 (Nat.le_of_ble_eq_true rfl) rfl dX7_set_52 (fun _ _ H locs B => ?_)
  refine z_iload_n S (pc := 55) dX7_set_55 rfl (lv_at hl 2 rfl) ?_
  refine z_iconst S (pc := 56) dX7_set_56 ?_
  refine z_icmp_ne S (pc := 57) (tgt := 71) (by omega) (by omega) dX7_set_57 rfl (fun c3 => ?_) (fun c3 => absurd c3 (by omega))
  refine z_iload_n S (pc := 71) dX7_set_71 rfl (lv_at hl 0 rfl) ?_
  exact z_ireturn S hr hlk B () trivial rfl rfl (pc := 72) dX7_set_72
set_option maxHeartbeats 4000000 in
set_option maxRecDepth 100000 in
theorem mX7_set_0b (l : Launch) (E : gT) (u : Nat) (o : Nat) (x1 : Nat) (x2 : Nat) (x3 : Nat) (x4 : Nat) (x5 : Nat) (x : Int) (hI : inI x) (hbad : (x < 4 ∨ 400 < x)) : Cd l E yX7_set wsX7_set 2 40 0 0 [.ref u, .int (iI 0), .int (iI x)] [cSlo u o x1 x2 x3 x4 x5] (some (.int (iI (-2)))) [cSlo u o x1 x2 x3 x4 x5] := by
  refine Ct.mk (cc := cX7_set) (maxL := 4) (ret := (some .int)) (plainFor_of_name (by decide)) rfl (Nat.le_of_ble_eq_true rfl) ?_
  intro p e s m below meth c A ls H locs S hr hlk hnm B hl
  have S : CallFix p m c cX7_set 4 s #[.ref u, .int (iI 0), .int (iI x)] wsX7_set RX7 := S
  have hl : lv_has ls 4 [(0, .ref u), (1, .int (iI 0)), (2, .int (iI x))] := hl
  refine z_iload_n S (pc := 0) dX7_set_0 rfl (lv_at hl 1 rfl) ?_
  refine z_callS S (pc := 1) B (wr := [cSlo u o x1 x2 x3 x4 x5]) (wn := fun _ => [cSlo u o x1 x2 x3 x4 x5]) (st1 := fun _ => [.int (iI (bI (0 < 0 ∨ 6 ≤ 0)))]) (As := [.int (iI 0)]) (mX7_isNoSetting l E 0 (show inI 0 from by omega)) gX7_set_X7_isNoSetting 1 rfl (by decide +kernel) ⟨Nat.le_of_ble_eq_true rfl, Nat.le_of_ble_eq_true rfl, Nat.le_of_ble_eq_true rfl, Nat.le_of_ble_eq_true rfl⟩ [] [0] [0] rfl rfl ⟨rfl, rfl, rfl, by decide⟩ (fun _ => rfl) rfl (fun _ => rfl) hl.1 (Nat.le_of_ble_eq_true rfl) rfl dX7_set_1 (fun _ _ H locs B => ?_)
  refine z_ifne_b S (pc := 4) (tgt := 22) dX7_set_4 rfl (fun c1 => absurd c1 (by omega)) (fun c1 => ?_)
  refine z_iload_n S (pc := 7) dX7_set_7 rfl (lv_at hl 2 rfl) ?_
  refine z_iload_n S (pc := 8) dX7_set_8 rfl (lv_at hl 1 rfl) ?_
  refine z_callS S (pc := 9) B (wr := [cSlo u o x1 x2 x3 x4 x5]) (wn := fun _ => [cSlo u o x1 x2 x3 x4 x5]) (st1 := fun _ => [.int (iI (loS 0)), .int (iI x)]) (As := [.int (iI 0)]) (mX7_leastOf l E 0 (show inI 0 from by omega)) gX7_set_X7_leastOf 1 rfl (by decide +kernel) ⟨Nat.le_of_ble_eq_true rfl, Nat.le_of_ble_eq_true rfl, Nat.le_of_ble_eq_true rfl, Nat.le_of_ble_eq_true rfl⟩ [] [0] [0] rfl rfl ⟨rfl, rfl, rfl, by decide⟩ (fun _ => rfl) rfl (fun _ => rfl) hl.1 (Nat.le_of_ble_eq_true rfl) rfl dX7_set_9 (fun _ _ H locs B => ?_)
  rw [show loS 0 = 4 from rfl]
  refine z_iload_n S (pc := 12) dX7_set_12 rfl (lv_at hl 1 rfl) ?_
  refine z_callS S (pc := 13) B (wr := [cSlo u o x1 x2 x3 x4 x5]) (wn := fun _ => [cSlo u o x1 x2 x3 x4 x5]) (st1 := fun _ => [.int (iI (hiS 0)), .int (iI 4), .int (iI x)]) (As := [.int (iI 0)]) (mX7_mostOf l E 0 (show inI 0 from by omega)) gX7_set_X7_mostOf 1 rfl (by decide +kernel) ⟨Nat.le_of_ble_eq_true rfl, Nat.le_of_ble_eq_true rfl, Nat.le_of_ble_eq_true rfl, Nat.le_of_ble_eq_true rfl⟩ [] [0] [0] rfl rfl ⟨rfl, rfl, rfl, by decide⟩ (fun _ => rfl) rfl (fun _ => rfl) hl.1 (Nat.le_of_ble_eq_true rfl) rfl dX7_set_13 (fun _ _ H locs B => ?_)
  rw [show hiS 0 = 400 from rfl]
  refine z_callS S (pc := 16) B (wr := [cSlo u o x1 x2 x3 x4 x5]) (wn := fun _ => [cSlo u o x1 x2 x3 x4 x5]) (st1 := fun _ => [.int (iI (bI (x < 4 ∨ 400 < x)))]) (As := [.int (iI x), .int (iI 4), .int (iI 400)]) (mX7_isOutside l E x 4 400 (show inI x ∧ inI 4 ∧ inI 400 from by omega)) gX7_set_X7_isOutside 3 rfl (by decide +kernel) ⟨Nat.le_of_ble_eq_true rfl, Nat.le_of_ble_eq_true rfl, Nat.le_of_ble_eq_true rfl, Nat.le_of_ble_eq_true rfl⟩ [] [0] [0] rfl rfl ⟨rfl, rfl, rfl, by decide⟩ (fun _ => rfl) rfl (fun _ => rfl) hl.1 (Nat.le_of_ble_eq_true rfl) rfl dX7_set_16 (fun _ _ H locs B => ?_)
  refine z_ifeq_b S (pc := 19) (tgt := 25) dX7_set_19 rfl (fun c2 => ?_) (fun c2 => ?_)
  · exact absurd hbad (by omega)
  · refine z_bipush S (pc := 22) dX7_set_22 rfl ?_
    exact z_ireturn S hr hlk B () trivial rfl rfl (pc := 24) dX7_set_24
set_option maxHeartbeats 4000000 in
set_option maxRecDepth 100000 in
theorem mX7_set_1 (l : Launch) (E : gT) (u : Nat) (o : Nat) (x1 : Nat) (x2 : Nat) (x3 : Nat) (x4 : Nat) (x5 : Nat) (a : Nat) (b : Nat) (f : Nat) (g : Nat) (σ : Nat → Int) (ov : Int) (rr : Int) (rb : Int) (rn : Int) (h : Nat) (i : Nat) (ρ : Nat → Int) (x : Int) (hv : 1 ≤ x ∧ x ≤ 50) : Cd l E yX7_set wsX7_set 2 40 0 0 [.ref u, .int (iI 1), .int (iI x)] [cSlo u o x1 x2 x3 x4 x5, cSta o a h, cMet a b f g σ rr rb rn, cSet f σ] (some (.int (iI (σ 6)))) [cSlo u o x1 x2 x3 x4 x5, cSta o a h, cMet a b f g σ rr rb rn, (f, .inr (4, [.int (iI (σ 5)), .int (iI x), .int (iI (σ 7)), .int (iI (σ 8)), .int (iI (σ 9)), .int (iI (σ 10))]))] := by
  refine Ct.mk (cc := cX7_set) (maxL := 4) (ret := (some .int)) (plainFor_of_name (by decide)) rfl (Nat.le_of_ble_eq_true rfl) ?_
  intro p e s m below meth c A ls H locs S hr hlk hnm B hl
  have S : CallFix p m c cX7_set 4 s #[.ref u, .int (iI 1), .int (iI x)] wsX7_set RX7 := S
  have hl : lv_has ls 4 [(0, .ref u), (1, .int (iI 1)), (2, .int (iI x))] := hl
  refine z_iload_n S (pc := 0) dX7_set_0 rfl (lv_at hl 1 rfl) ?_
  refine z_callS S (pc := 1) B (wr := [cSlo u o x1 x2 x3 x4 x5, cSta o a h, cMet a b f g σ rr rb rn, cSet f σ]) (wn := fun _ => [cSlo u o x1 x2 x3 x4 x5, cSta o a h, cMet a b f g σ rr rb rn, cSet f σ]) (st1 := fun _ => [.int (iI (bI (1 < 0 ∨ 6 ≤ 1)))]) (As := [.int (iI 1)]) (mX7_isNoSetting l E 1 (show inI 1 from by omega)) gX7_set_X7_isNoSetting 1 rfl (by decide +kernel) ⟨Nat.le_of_ble_eq_true rfl, Nat.le_of_ble_eq_true rfl, Nat.le_of_ble_eq_true rfl, Nat.le_of_ble_eq_true rfl⟩ [] [0, 1, 2, 3] [0, 1, 2, 3] rfl rfl ⟨rfl, rfl, rfl, by decide⟩ (fun _ => rfl) rfl (fun _ => rfl) hl.1 (Nat.le_of_ble_eq_true rfl) rfl dX7_set_1 (fun _ _ H locs B => ?_)
  refine z_ifne_b S (pc := 4) (tgt := 22) dX7_set_4 rfl (fun c1 => absurd c1 (by omega)) (fun c1 => ?_)
  refine z_iload_n S (pc := 7) dX7_set_7 rfl (lv_at hl 2 rfl) ?_
  refine z_iload_n S (pc := 8) dX7_set_8 rfl (lv_at hl 1 rfl) ?_
  refine z_callS S (pc := 9) B (wr := [cSlo u o x1 x2 x3 x4 x5, cSta o a h, cMet a b f g σ rr rb rn, cSet f σ]) (wn := fun _ => [cSlo u o x1 x2 x3 x4 x5, cSta o a h, cMet a b f g σ rr rb rn, cSet f σ]) (st1 := fun _ => [.int (iI (loS 1)), .int (iI x)]) (As := [.int (iI 1)]) (mX7_leastOf l E 1 (show inI 1 from by omega)) gX7_set_X7_leastOf 1 rfl (by decide +kernel) ⟨Nat.le_of_ble_eq_true rfl, Nat.le_of_ble_eq_true rfl, Nat.le_of_ble_eq_true rfl, Nat.le_of_ble_eq_true rfl⟩ [] [0, 1, 2, 3] [0, 1, 2, 3] rfl rfl ⟨rfl, rfl, rfl, by decide⟩ (fun _ => rfl) rfl (fun _ => rfl) hl.1 (Nat.le_of_ble_eq_true rfl) rfl dX7_set_9 (fun _ _ H locs B => ?_)
  rw [show loS 1 = 1 from rfl]
  refine z_iload_n S (pc := 12) dX7_set_12 rfl (lv_at hl 1 rfl) ?_
  refine z_callS S (pc := 13) B (wr := [cSlo u o x1 x2 x3 x4 x5, cSta o a h, cMet a b f g σ rr rb rn, cSet f σ]) (wn := fun _ => [cSlo u o x1 x2 x3 x4 x5, cSta o a h, cMet a b f g σ rr rb rn, cSet f σ]) (st1 := fun _ => [.int (iI (hiS 1)), .int (iI 1), .int (iI x)]) (As := [.int (iI 1)]) (mX7_mostOf l E 1 (show inI 1 from by omega)) gX7_set_X7_mostOf 1 rfl (by decide +kernel) ⟨Nat.le_of_ble_eq_true rfl, Nat.le_of_ble_eq_true rfl, Nat.le_of_ble_eq_true rfl, Nat.le_of_ble_eq_true rfl⟩ [] [0, 1, 2, 3] [0, 1, 2, 3] rfl rfl ⟨rfl, rfl, rfl, by decide⟩ (fun _ => rfl) rfl (fun _ => rfl) hl.1 (Nat.le_of_ble_eq_true rfl) rfl dX7_set_13 (fun _ _ H locs B => ?_)
  rw [show hiS 1 = 50 from rfl]
  refine z_callS S (pc := 16) B (wr := [cSlo u o x1 x2 x3 x4 x5, cSta o a h, cMet a b f g σ rr rb rn, cSet f σ]) (wn := fun _ => [cSlo u o x1 x2 x3 x4 x5, cSta o a h, cMet a b f g σ rr rb rn, cSet f σ]) (st1 := fun _ => [.int (iI (bI (x < 1 ∨ 50 < x)))]) (As := [.int (iI x), .int (iI 1), .int (iI 50)]) (mX7_isOutside l E x 1 50 (show inI x ∧ inI 1 ∧ inI 50 from by omega)) gX7_set_X7_isOutside 3 rfl (by decide +kernel) ⟨Nat.le_of_ble_eq_true rfl, Nat.le_of_ble_eq_true rfl, Nat.le_of_ble_eq_true rfl, Nat.le_of_ble_eq_true rfl⟩ [] [0, 1, 2, 3] [0, 1, 2, 3] rfl rfl ⟨rfl, rfl, rfl, by decide⟩ (fun _ => rfl) rfl (fun _ => rfl) hl.1 (Nat.le_of_ble_eq_true rfl) rfl dX7_set_16 (fun _ _ H locs B => ?_)
  refine z_ifeq_b S (pc := 19) (tgt := 25) dX7_set_19 rfl (fun c2 => ?_) (fun c2 => absurd c2 (by omega))
  refine z_aload_n S (pc := 25) dX7_set_25 rfl (lv_at hl 0 rfl) ?_
  refine z_get S (pc := 26) B iX7_set_X7 0 rfl rfl 0 (by decide) rfl rfl (by decide +kernel) dX7_set_26 ?_
  refine z_get S (pc := 29) B iX7_set_X6 1 rfl rfl 0 (by decide) rfl rfl (by decide +kernel) dX7_set_29 ?_
  refine z_get S (pc := 32) B iX7_set_X2 2 rfl rfl 1 (by decide) rfl rfl (by decide +kernel) dX7_set_32 ?_
  refine z_iload_n S (pc := 35) dX7_set_35 rfl (lv_at hl 1 rfl) ?_
  refine z_callV S (pc := 36) B (wr := [cSlo u o x1 x2 x3 x4 x5, cSta o a h, cMet a b f g σ rr rb rn]) (wn := fun _ => [cSlo u o x1 x2 x3 x4 x5, cSta o a h, cMet a b f g σ rr rb rn, cSet f σ]) (st1 := fun _ => [.int (iI (σ 6))]) (As := [.int (iI 1)]) (mX4_valueOf l E f σ 1 (show 0 ≤ 1 ∧ 1 ≤ 5 from by omega)) gX7_set_X4_valueOf 1 rfl (by decide +kernel) ⟨Nat.le_of_ble_eq_true rfl, Nat.le_of_ble_eq_true rfl, Nat.le_of_ble_eq_true rfl, Nat.le_of_ble_eq_true rfl⟩ 0 rfl (q := (RX4, TX4, 6)) rfl rfl [3] [0, 1, 2] [0, 1, 2, 3] rfl rfl ⟨rfl, rfl, rfl, by decide⟩ (fun _ => rfl) rfl (fun _ => rfl) hl.1 (Nat.le_of_ble_eq_true rfl) rfl dX7_set_36 (fun _ _ H locs B => ?_)
  refine lv_istore_n (lv' := [(3, .int (iI (σ 6))), (0, .ref u), (1, .int (iI 1)), (2, .int (iI x))]) S.1 S.2.1 (pc := 39) dX7_set_39 rfl hl (by decide) rfl (fun ls hl => ?_)
  refine z_aload_n S (pc := 40) dX7_set_40 rfl (lv_at hl 1 rfl) ?_
  refine z_get S (pc := 41) B iX7_set_X7 0 rfl rfl 0 (by decide) rfl rfl (by decide +kernel) dX7_set_41 ?_
  refine z_get S (pc := 44) B iX7_set_X6 1 rfl rfl 0 (by decide) rfl rfl (by decide +kernel) dX7_set_44 ?_
  refine z_get S (pc := 47) B iX7_set_X2 2 rfl rfl 1 (by decide) rfl rfl (by decide +kernel) dX7_set_47 ?_
  refine z_iload_n S (pc := 50) dX7_set_50 rfl (lv_at hl 2 rfl) ?_
  refine z_iload_n S (pc := 51) dX7_set_51 rfl (lv_at hl 3 rfl) ?_
  refine z_callV S (pc := 52) B (wr := [cSlo u o x1 x2 x3 x4 x5, cSta o a h, cMet a b f g σ rr rb rn]) (wn := fun _ => [cSlo u o x1 x2 x3 x4 x5, cSta o a h, cMet a b f g σ rr rb rn, (f, .inr (4, [.int (iI (σ 5)), .int (iI x), .int (iI (σ 7)), .int (iI (σ 8)), .int (iI (σ 9)), .int (iI (σ 10))]))]) (st1 := fun _ => []) (As := [.int (iI 1), .int (iI x)]) (mX4_change l E f σ 1 x (show 0 ≤ 1 ∧ 1 ≤ 5 from by omega)) gX7_set_X4_change 2 rfl (by decide +kernel) ⟨Nat.le_of_ble_eq_true rfl, Nat.le_of_ble_eq_true rfl, Nat.le_of_ble_eq_true rfl, Nat.le_of_ble_eq_true rfl⟩ 0 rfl (q := (RX4, TX4, 6)) rfl rfl [3] [0, 1, 2] [0, 1, 2, 3] rfl rfl ⟨rfl, rfl, rfl, by decide⟩ (fun _ => rfl) rfl (fun _ => rfl) hl.1 (Nat.le_of_ble_eq_true rfl) rfl dX7_set_52 (fun _ _ H locs B => ?_)
  refine z_iload_n S (pc := 55) dX7_set_55 rfl (lv_at hl 2 rfl) ?_
  refine z_iconst S (pc := 56) dX7_set_56 ?_
  refine z_icmp_ne S (pc := 57) (tgt := 71) (by omega) (by omega) dX7_set_57 rfl (fun c3 => ?_) (fun c3 => absurd c3 (by omega))
  refine z_iload_n S (pc := 71) dX7_set_71 rfl (lv_at hl 0 rfl) ?_
  exact z_ireturn S hr hlk B () trivial rfl rfl (pc := 72) dX7_set_72
set_option maxHeartbeats 4000000 in
set_option maxRecDepth 100000 in
theorem mX7_set_1b (l : Launch) (E : gT) (u : Nat) (o : Nat) (x1 : Nat) (x2 : Nat) (x3 : Nat) (x4 : Nat) (x5 : Nat) (x : Int) (hI : inI x) (hbad : (x < 1 ∨ 50 < x)) : Cd l E yX7_set wsX7_set 2 40 0 0 [.ref u, .int (iI 1), .int (iI x)] [cSlo u o x1 x2 x3 x4 x5] (some (.int (iI (-2)))) [cSlo u o x1 x2 x3 x4 x5] := by
  refine Ct.mk (cc := cX7_set) (maxL := 4) (ret := (some .int)) (plainFor_of_name (by decide)) rfl (Nat.le_of_ble_eq_true rfl) ?_
  intro p e s m below meth c A ls H locs S hr hlk hnm B hl
  have S : CallFix p m c cX7_set 4 s #[.ref u, .int (iI 1), .int (iI x)] wsX7_set RX7 := S
  have hl : lv_has ls 4 [(0, .ref u), (1, .int (iI 1)), (2, .int (iI x))] := hl
  refine z_iload_n S (pc := 0) dX7_set_0 rfl (lv_at hl 1 rfl) ?_
  refine z_callS S (pc := 1) B (wr := [cSlo u o x1 x2 x3 x4 x5]) (wn := fun _ => [cSlo u o x1 x2 x3 x4 x5]) (st1 := fun _ => [.int (iI (bI (1 < 0 ∨ 6 ≤ 1)))]) (As := [.int (iI 1)]) (mX7_isNoSetting l E 1 (show inI 1 from by omega)) gX7_set_X7_isNoSetting 1 rfl (by decide +kernel) ⟨Nat.le_of_ble_eq_true rfl, Nat.le_of_ble_eq_true rfl, Nat.le_of_ble_eq_true rfl, Nat.le_of_ble_eq_true rfl⟩ [] [0] [0] rfl rfl ⟨rfl, rfl, rfl, by decide⟩ (fun _ => rfl) rfl (fun _ => rfl) hl.1 (Nat.le_of_ble_eq_true rfl) rfl dX7_set_1 (fun _ _ H locs B => ?_)
  refine z_ifne_b S (pc := 4) (tgt := 22) dX7_set_4 rfl (fun c1 => absurd c1 (by omega)) (fun c1 => ?_)
  refine z_iload_n S (pc := 7) dX7_set_7 rfl (lv_at hl 2 rfl) ?_
  refine z_iload_n S (pc := 8) dX7_set_8 rfl (lv_at hl 1 rfl) ?_
  refine z_callS S (pc := 9) B (wr := [cSlo u o x1 x2 x3 x4 x5]) (wn := fun _ => [cSlo u o x1 x2 x3 x4 x5]) (st1 := fun _ => [.int (iI (loS 1)), .int (iI x)]) (As := [.int (iI 1)]) (mX7_leastOf l E 1 (show inI 1 from by omega)) gX7_set_X7_leastOf 1 rfl (by decide +kernel) ⟨Nat.le_of_ble_eq_true rfl, Nat.le_of_ble_eq_true rfl, Nat.le_of_ble_eq_true rfl, Nat.le_of_ble_eq_true rfl⟩ [] [0] [0] rfl rfl ⟨rfl, rfl, rfl, by decide⟩ (fun _ => rfl) rfl (fun _ => rfl) hl.1 (Nat.le_of_ble_eq_true rfl) rfl dX7_set_9 (fun _ _ H locs B => ?_)
  rw [show loS 1 = 1 from rfl]
  refine z_iload_n S (pc := 12) dX7_set_12 rfl (lv_at hl 1 rfl) ?_
  refine z_callS S (pc := 13) B (wr := [cSlo u o x1 x2 x3 x4 x5]) (wn := fun _ => [cSlo u o x1 x2 x3 x4 x5]) (st1 := fun _ => [.int (iI (hiS 1)), .int (iI 1), .int (iI x)]) (As := [.int (iI 1)]) (mX7_mostOf l E 1 (show inI 1 from by omega)) gX7_set_X7_mostOf 1 rfl (by decide +kernel) ⟨Nat.le_of_ble_eq_true rfl, Nat.le_of_ble_eq_true rfl, Nat.le_of_ble_eq_true rfl, Nat.le_of_ble_eq_true rfl⟩ [] [0] [0] rfl rfl ⟨rfl, rfl, rfl, by decide⟩ (fun _ => rfl) rfl (fun _ => rfl) hl.1 (Nat.le_of_ble_eq_true rfl) rfl dX7_set_13 (fun _ _ H locs B => ?_)
  rw [show hiS 1 = 50 from rfl]
  refine z_callS S (pc := 16) B (wr := [cSlo u o x1 x2 x3 x4 x5]) (wn := fun _ => [cSlo u o x1 x2 x3 x4 x5]) (st1 := fun _ => [.int (iI (bI (x < 1 ∨ 50 < x)))]) (As := [.int (iI x), .int (iI 1), .int (iI 50)]) (mX7_isOutside l E x 1 50 (show inI x ∧ inI 1 ∧ inI 50 from by omega)) gX7_set_X7_isOutside 3 rfl (by decide +kernel) ⟨Nat.le_of_ble_eq_true rfl, Nat.le_of_ble_eq_true rfl, Nat.le_of_ble_eq_true rfl, Nat.le_of_ble_eq_true rfl⟩ [] [0] [0] rfl rfl ⟨rfl, rfl, rfl, by decide⟩ (fun _ => rfl) rfl (fun _ => rfl) hl.1 (Nat.le_of_ble_eq_true rfl) rfl dX7_set_16 (fun _ _ H locs B => ?_)
  refine z_ifeq_b S (pc := 19) (tgt := 25) dX7_set_19 rfl (fun c2 => ?_) (fun c2 => ?_)
  · exact absurd hbad (by omega)
  · refine z_bipush S (pc := 22) dX7_set_22 rfl ?_
    exact z_ireturn S hr hlk B () trivial rfl rfl (pc := 24) dX7_set_24
set_option maxHeartbeats 4000000 in
set_option maxRecDepth 100000 in
theorem mX7_set_2 (l : Launch) (E : gT) (u : Nat) (o : Nat) (x1 : Nat) (x2 : Nat) (x3 : Nat) (x4 : Nat) (x5 : Nat) (a : Nat) (b : Nat) (f : Nat) (g : Nat) (σ : Nat → Int) (ov : Int) (rr : Int) (rb : Int) (rn : Int) (h : Nat) (i : Nat) (ρ : Nat → Int) (x : Int) (hv : 0 ≤ x ∧ x ≤ 1) : Cd l E yX7_set wsX7_set 2 40 0 0 [.ref u, .int (iI 2), .int (iI x)] [cSlo u o x1 x2 x3 x4 x5, cSta o a h, cMet a b f g σ rr rb rn, cSet f σ] (some (.int (iI (σ 7)))) [cSlo u o x1 x2 x3 x4 x5, cSta o a h, cMet a b f g σ rr rb rn, (f, .inr (4, [.int (iI (σ 5)), .int (iI (σ 6)), .int (iI x), .int (iI (σ 8)), .int (iI (σ 9)), .int (iI (σ 10))]))] := by
  refine Ct.mk (cc := cX7_set) (maxL := 4) (ret := (some .int)) (plainFor_of_name (by decide)) rfl (Nat.le_of_ble_eq_true rfl) ?_
  intro p e s m below meth c A ls H locs S hr hlk hnm B hl
  have S : CallFix p m c cX7_set 4 s #[.ref u, .int (iI 2), .int (iI x)] wsX7_set RX7 := S
  have hl : lv_has ls 4 [(0, .ref u), (1, .int (iI 2)), (2, .int (iI x))] := hl
  refine z_iload_n S (pc := 0) dX7_set_0 rfl (lv_at hl 1 rfl) ?_
  refine z_callS S (pc := 1) B (wr := [cSlo u o x1 x2 x3 x4 x5, cSta o a h, cMet a b f g σ rr rb rn, cSet f σ]) (wn := fun _ => [cSlo u o x1 x2 x3 x4 x5, cSta o a h, cMet a b f g σ rr rb rn, cSet f σ]) (st1 := fun _ => [.int (iI (bI (2 < 0 ∨ 6 ≤ 2)))]) (As := [.int (iI 2)]) (mX7_isNoSetting l E 2 (show inI 2 from by omega)) gX7_set_X7_isNoSetting 1 rfl (by decide +kernel) ⟨Nat.le_of_ble_eq_true rfl, Nat.le_of_ble_eq_true rfl, Nat.le_of_ble_eq_true rfl, Nat.le_of_ble_eq_true rfl⟩ [] [0, 1, 2, 3] [0, 1, 2, 3] rfl rfl ⟨rfl, rfl, rfl, by decide⟩ (fun _ => rfl) rfl (fun _ => rfl) hl.1 (Nat.le_of_ble_eq_true rfl) rfl dX7_set_1 (fun _ _ H locs B => ?_)
  refine z_ifne_b S (pc := 4) (tgt := 22) dX7_set_4 rfl (fun c1 => absurd c1 (by omega)) (fun c1 => ?_)
  refine z_iload_n S (pc := 7) dX7_set_7 rfl (lv_at hl 2 rfl) ?_
  refine z_iload_n S (pc := 8) dX7_set_8 rfl (lv_at hl 1 rfl) ?_
  refine z_callS S (pc := 9) B (wr := [cSlo u o x1 x2 x3 x4 x5, cSta o a h, cMet a b f g σ rr rb rn, cSet f σ]) (wn := fun _ => [cSlo u o x1 x2 x3 x4 x5, cSta o a h, cMet a b f g σ rr rb rn, cSet f σ]) (st1 := fun _ => [.int (iI (loS 2)), .int (iI x)]) (As := [.int (iI 2)]) (mX7_leastOf l E 2 (show inI 2 from by omega)) gX7_set_X7_leastOf 1 rfl (by decide +kernel) ⟨Nat.le_of_ble_eq_true rfl, Nat.le_of_ble_eq_true rfl, Nat.le_of_ble_eq_true rfl, Nat.le_of_ble_eq_true rfl⟩ [] [0, 1, 2, 3] [0, 1, 2, 3] rfl rfl ⟨rfl, rfl, rfl, by decide⟩ (fun _ => rfl) rfl (fun _ => rfl) hl.1 (Nat.le_of_ble_eq_true rfl) rfl dX7_set_9 (fun _ _ H locs B => ?_)
  rw [show loS 2 = 0 from rfl]
  refine z_iload_n S (pc := 12) dX7_set_12 rfl (lv_at hl 1 rfl) ?_
  refine z_callS S (pc := 13) B (wr := [cSlo u o x1 x2 x3 x4 x5, cSta o a h, cMet a b f g σ rr rb rn, cSet f σ]) (wn := fun _ => [cSlo u o x1 x2 x3 x4 x5, cSta o a h, cMet a b f g σ rr rb rn, cSet f σ]) (st1 := fun _ => [.int (iI (hiS 2)), .int (iI 0), .int (iI x)]) (As := [.int (iI 2)]) (mX7_mostOf l E 2 (show inI 2 from by omega)) gX7_set_X7_mostOf 1 rfl (by decide +kernel) ⟨Nat.le_of_ble_eq_true rfl, Nat.le_of_ble_eq_true rfl, Nat.le_of_ble_eq_true rfl, Nat.le_of_ble_eq_true rfl⟩ [] [0, 1, 2, 3] [0, 1, 2, 3] rfl rfl ⟨rfl, rfl, rfl, by decide⟩ (fun _ => rfl) rfl (fun _ => rfl) hl.1 (Nat.le_of_ble_eq_true rfl) rfl dX7_set_13 (fun _ _ H locs B => ?_)
  rw [show hiS 2 = 1 from rfl]
  refine z_callS S (pc := 16) B (wr := [cSlo u o x1 x2 x3 x4 x5, cSta o a h, cMet a b f g σ rr rb rn, cSet f σ]) (wn := fun _ => [cSlo u o x1 x2 x3 x4 x5, cSta o a h, cMet a b f g σ rr rb rn, cSet f σ]) (st1 := fun _ => [.int (iI (bI (x < 0 ∨ 1 < x)))]) (As := [.int (iI x), .int (iI 0), .int (iI 1)]) (mX7_isOutside l E x 0 1 (show inI x ∧ inI 0 ∧ inI 1 from by omega)) gX7_set_X7_isOutside 3 rfl (by decide +kernel) ⟨Nat.le_of_ble_eq_true rfl, Nat.le_of_ble_eq_true rfl, Nat.le_of_ble_eq_true rfl, Nat.le_of_ble_eq_true rfl⟩ [] [0, 1, 2, 3] [0, 1, 2, 3] rfl rfl ⟨rfl, rfl, rfl, by decide⟩ (fun _ => rfl) rfl (fun _ => rfl) hl.1 (Nat.le_of_ble_eq_true rfl) rfl dX7_set_16 (fun _ _ H locs B => ?_)
  refine z_ifeq_b S (pc := 19) (tgt := 25) dX7_set_19 rfl (fun c2 => ?_) (fun c2 => absurd c2 (by omega))
  refine z_aload_n S (pc := 25) dX7_set_25 rfl (lv_at hl 0 rfl) ?_
  refine z_get S (pc := 26) B iX7_set_X7 0 rfl rfl 0 (by decide) rfl rfl (by decide +kernel) dX7_set_26 ?_
  refine z_get S (pc := 29) B iX7_set_X6 1 rfl rfl 0 (by decide) rfl rfl (by decide +kernel) dX7_set_29 ?_
  refine z_get S (pc := 32) B iX7_set_X2 2 rfl rfl 1 (by decide) rfl rfl (by decide +kernel) dX7_set_32 ?_
  refine z_iload_n S (pc := 35) dX7_set_35 rfl (lv_at hl 1 rfl) ?_
  refine z_callV S (pc := 36) B (wr := [cSlo u o x1 x2 x3 x4 x5, cSta o a h, cMet a b f g σ rr rb rn]) (wn := fun _ => [cSlo u o x1 x2 x3 x4 x5, cSta o a h, cMet a b f g σ rr rb rn, cSet f σ]) (st1 := fun _ => [.int (iI (σ 7))]) (As := [.int (iI 2)]) (mX4_valueOf l E f σ 2 (show 0 ≤ 2 ∧ 2 ≤ 5 from by omega)) gX7_set_X4_valueOf 1 rfl (by decide +kernel) ⟨Nat.le_of_ble_eq_true rfl, Nat.le_of_ble_eq_true rfl, Nat.le_of_ble_eq_true rfl, Nat.le_of_ble_eq_true rfl⟩ 0 rfl (q := (RX4, TX4, 6)) rfl rfl [3] [0, 1, 2] [0, 1, 2, 3] rfl rfl ⟨rfl, rfl, rfl, by decide⟩ (fun _ => rfl) rfl (fun _ => rfl) hl.1 (Nat.le_of_ble_eq_true rfl) rfl dX7_set_36 (fun _ _ H locs B => ?_)
  refine lv_istore_n (lv' := [(3, .int (iI (σ 7))), (0, .ref u), (1, .int (iI 2)), (2, .int (iI x))]) S.1 S.2.1 (pc := 39) dX7_set_39 rfl hl (by decide) rfl (fun ls hl => ?_)
  refine z_aload_n S (pc := 40) dX7_set_40 rfl (lv_at hl 1 rfl) ?_
  refine z_get S (pc := 41) B iX7_set_X7 0 rfl rfl 0 (by decide) rfl rfl (by decide +kernel) dX7_set_41 ?_
  refine z_get S (pc := 44) B iX7_set_X6 1 rfl rfl 0 (by decide) rfl rfl (by decide +kernel) dX7_set_44 ?_
  refine z_get S (pc := 47) B iX7_set_X2 2 rfl rfl 1 (by decide) rfl rfl (by decide +kernel) dX7_set_47 ?_
  refine z_iload_n S (pc := 50) dX7_set_50 rfl (lv_at hl 2 rfl) ?_
  refine z_iload_n S (pc := 51) dX7_set_51 rfl (lv_at hl 3 rfl) ?_
  refine z_callV S (pc := 52) B (wr := [cSlo u o x1 x2 x3 x4 x5, cSta o a h, cMet a b f g σ rr rb rn]) (wn := fun _ => [cSlo u o x1 x2 x3 x4 x5, cSta o a h, cMet a b f g σ rr rb rn, (f, .inr (4, [.int (iI (σ 5)), .int (iI (σ 6)), .int (iI x), .int (iI (σ 8)), .int (iI (σ 9)), .int (iI (σ 10))]))]) (st1 := fun _ => []) (As := [.int (iI 2), .int (iI x)]) (mX4_change l E f σ 2 x (show 0 ≤ 2 ∧ 2 ≤ 5 from by omega)) gX7_set_X4_change 2 rfl (by decide +kernel) ⟨Nat.le_of_ble_eq_true rfl, Nat.le_of_ble_eq_true rfl, Nat.le_of_ble_eq_true rfl, Nat.le_of_ble_eq_true rfl⟩ 0 rfl (q := (RX4, TX4, 6)) rfl rfl [3] [0, 1, 2] [0, 1, 2, 3] rfl rfl ⟨rfl, rfl, rfl, by decide⟩ (fun _ => rfl) rfl (fun _ => rfl) hl.1 (Nat.le_of_ble_eq_true rfl) rfl dX7_set_52 (fun _ _ H locs B => ?_)
  refine z_iload_n S (pc := 55) dX7_set_55 rfl (lv_at hl 2 rfl) ?_
  refine z_iconst S (pc := 56) dX7_set_56 ?_
  refine z_icmp_ne S (pc := 57) (tgt := 71) (by omega) (by omega) dX7_set_57 rfl (fun c3 => ?_) (fun c3 => absurd c3 (by omega))
  refine z_iload_n S (pc := 71) dX7_set_71 rfl (lv_at hl 0 rfl) ?_
  exact z_ireturn S hr hlk B () trivial rfl rfl (pc := 72) dX7_set_72
set_option maxHeartbeats 4000000 in
set_option maxRecDepth 100000 in
theorem mX7_set_2b (l : Launch) (E : gT) (u : Nat) (o : Nat) (x1 : Nat) (x2 : Nat) (x3 : Nat) (x4 : Nat) (x5 : Nat) (x : Int) (hI : inI x) (hbad : (x < 0 ∨ 1 < x)) : Cd l E yX7_set wsX7_set 2 40 0 0 [.ref u, .int (iI 2), .int (iI x)] [cSlo u o x1 x2 x3 x4 x5] (some (.int (iI (-2)))) [cSlo u o x1 x2 x3 x4 x5] := by
  refine Ct.mk (cc := cX7_set) (maxL := 4) (ret := (some .int)) (plainFor_of_name (by decide)) rfl (Nat.le_of_ble_eq_true rfl) ?_
  intro p e s m below meth c A ls H locs S hr hlk hnm B hl
  have S : CallFix p m c cX7_set 4 s #[.ref u, .int (iI 2), .int (iI x)] wsX7_set RX7 := S
  have hl : lv_has ls 4 [(0, .ref u), (1, .int (iI 2)), (2, .int (iI x))] := hl
  refine z_iload_n S (pc := 0) dX7_set_0 rfl (lv_at hl 1 rfl) ?_
  refine z_callS S (pc := 1) B (wr := [cSlo u o x1 x2 x3 x4 x5]) (wn := fun _ => [cSlo u o x1 x2 x3 x4 x5]) (st1 := fun _ => [.int (iI (bI (2 < 0 ∨ 6 ≤ 2)))]) (As := [.int (iI 2)]) (mX7_isNoSetting l E 2 (show inI 2 from by omega)) gX7_set_X7_isNoSetting 1 rfl (by decide +kernel) ⟨Nat.le_of_ble_eq_true rfl, Nat.le_of_ble_eq_true rfl, Nat.le_of_ble_eq_true rfl, Nat.le_of_ble_eq_true rfl⟩ [] [0] [0] rfl rfl ⟨rfl, rfl, rfl, by decide⟩ (fun _ => rfl) rfl (fun _ => rfl) hl.1 (Nat.le_of_ble_eq_true rfl) rfl dX7_set_1 (fun _ _ H locs B => ?_)
  refine z_ifne_b S (pc := 4) (tgt := 22) dX7_set_4 rfl (fun c1 => absurd c1 (by omega)) (fun c1 => ?_)
  refine z_iload_n S (pc := 7) dX7_set_7 rfl (lv_at hl 2 rfl) ?_
  refine z_iload_n S (pc := 8) dX7_set_8 rfl (lv_at hl 1 rfl) ?_
  refine z_callS S (pc := 9) B (wr := [cSlo u o x1 x2 x3 x4 x5]) (wn := fun _ => [cSlo u o x1 x2 x3 x4 x5]) (st1 := fun _ => [.int (iI (loS 2)), .int (iI x)]) (As := [.int (iI 2)]) (mX7_leastOf l E 2 (show inI 2 from by omega)) gX7_set_X7_leastOf 1 rfl (by decide +kernel) ⟨Nat.le_of_ble_eq_true rfl, Nat.le_of_ble_eq_true rfl, Nat.le_of_ble_eq_true rfl, Nat.le_of_ble_eq_true rfl⟩ [] [0] [0] rfl rfl ⟨rfl, rfl, rfl, by decide⟩ (fun _ => rfl) rfl (fun _ => rfl) hl.1 (Nat.le_of_ble_eq_true rfl) rfl dX7_set_9 (fun _ _ H locs B => ?_)
  rw [show loS 2 = 0 from rfl]
  refine z_iload_n S (pc := 12) dX7_set_12 rfl (lv_at hl 1 rfl) ?_
  refine z_callS S (pc := 13) B (wr := [cSlo u o x1 x2 x3 x4 x5]) (wn := fun _ => [cSlo u o x1 x2 x3 x4 x5]) (st1 := fun _ => [.int (iI (hiS 2)), .int (iI 0), .int (iI x)]) (As := [.int (iI 2)]) (mX7_mostOf l E 2 (show inI 2 from by omega)) gX7_set_X7_mostOf 1 rfl (by decide +kernel) ⟨Nat.le_of_ble_eq_true rfl, Nat.le_of_ble_eq_true rfl, Nat.le_of_ble_eq_true rfl, Nat.le_of_ble_eq_true rfl⟩ [] [0] [0] rfl rfl ⟨rfl, rfl, rfl, by decide⟩ (fun _ => rfl) rfl (fun _ => rfl) hl.1 (Nat.le_of_ble_eq_true rfl) rfl dX7_set_13 (fun _ _ H locs B => ?_)
  rw [show hiS 2 = 1 from rfl]
  refine z_callS S (pc := 16) B (wr := [cSlo u o x1 x2 x3 x4 x5]) (wn := fun _ => [cSlo u o x1 x2 x3 x4 x5]) (st1 := fun _ => [.int (iI (bI (x < 0 ∨ 1 < x)))]) (As := [.int (iI x), .int (iI 0), .int (iI 1)]) (mX7_isOutside l E x 0 1 (show inI x ∧ inI 0 ∧ inI 1 from by omega)) gX7_set_X7_isOutside 3 rfl (by decide +kernel) ⟨Nat.le_of_ble_eq_true rfl, Nat.le_of_ble_eq_true rfl, Nat.le_of_ble_eq_true rfl, Nat.le_of_ble_eq_true rfl⟩ [] [0] [0] rfl rfl ⟨rfl, rfl, rfl, by decide⟩ (fun _ => rfl) rfl (fun _ => rfl) hl.1 (Nat.le_of_ble_eq_true rfl) rfl dX7_set_16 (fun _ _ H locs B => ?_)
  refine z_ifeq_b S (pc := 19) (tgt := 25) dX7_set_19 rfl (fun c2 => ?_) (fun c2 => ?_)
  · exact absurd hbad (by omega)
  · refine z_bipush S (pc := 22) dX7_set_22 rfl ?_
    exact z_ireturn S hr hlk B () trivial rfl rfl (pc := 24) dX7_set_24
set_option maxHeartbeats 4000000 in
set_option maxRecDepth 100000 in
theorem mX7_set_3 (l : Launch) (E : gT) (u : Nat) (o : Nat) (x1 : Nat) (x2 : Nat) (x3 : Nat) (x4 : Nat) (x5 : Nat) (a : Nat) (b : Nat) (f : Nat) (g : Nat) (σ : Nat → Int) (ov : Int) (rr : Int) (rb : Int) (rn : Int) (h : Nat) (i : Nat) (ρ : Nat → Int) (x : Int) (hv : 0 ≤ x ∧ x ≤ 10) : Cd l E yX7_set wsX7_set 2 40 0 0 [.ref u, .int (iI 3), .int (iI x)] [cSlo u o x1 x2 x3 x4 x5, cSta o a h, cMet a b f g σ rr rb rn, cSet f σ] (some (.int (iI (σ 8)))) [cSlo u o x1 x2 x3 x4 x5, cSta o a h, (a, .inr (2, [.ref b, .ref f, .ref g, .int (iI (σ 11)), .int (iI (σ 12)), .int (iI 0), .int (iI rr), .int (iI rb), .long (iL rn)])), (f, .inr (4, [.int (iI (σ 5)), .int (iI (σ 6)), .int (iI (σ 7)), .int (iI x), .int (iI (σ 9)), .int (iI (σ 10))]))] := by
  refine Ct.mk (cc := cX7_set) (maxL := 4) (ret := (some .int)) (plainFor_of_name (by decide)) rfl (Nat.le_of_ble_eq_true rfl) ?_
  intro p e s m below meth c A ls H locs S hr hlk hnm B hl
  have S : CallFix p m c cX7_set 4 s #[.ref u, .int (iI 3), .int (iI x)] wsX7_set RX7 := S
  have hl : lv_has ls 4 [(0, .ref u), (1, .int (iI 3)), (2, .int (iI x))] := hl
  refine z_iload_n S (pc := 0) dX7_set_0 rfl (lv_at hl 1 rfl) ?_
  refine z_callS S (pc := 1) B (wr := [cSlo u o x1 x2 x3 x4 x5, cSta o a h, cMet a b f g σ rr rb rn, cSet f σ]) (wn := fun _ => [cSlo u o x1 x2 x3 x4 x5, cSta o a h, cMet a b f g σ rr rb rn, cSet f σ]) (st1 := fun _ => [.int (iI (bI (3 < 0 ∨ 6 ≤ 3)))]) (As := [.int (iI 3)]) (mX7_isNoSetting l E 3 (show inI 3 from by omega)) gX7_set_X7_isNoSetting 1 rfl (by decide +kernel) ⟨Nat.le_of_ble_eq_true rfl, Nat.le_of_ble_eq_true rfl, Nat.le_of_ble_eq_true rfl, Nat.le_of_ble_eq_true rfl⟩ [] [0, 1, 2, 3] [0, 1, 2, 3] rfl rfl ⟨rfl, rfl, rfl, by decide⟩ (fun _ => rfl) rfl (fun _ => rfl) hl.1 (Nat.le_of_ble_eq_true rfl) rfl dX7_set_1 (fun _ _ H locs B => ?_)
  refine z_ifne_b S (pc := 4) (tgt := 22) dX7_set_4 rfl (fun c1 => absurd c1 (by omega)) (fun c1 => ?_)
  refine z_iload_n S (pc := 7) dX7_set_7 rfl (lv_at hl 2 rfl) ?_
  refine z_iload_n S (pc := 8) dX7_set_8 rfl (lv_at hl 1 rfl) ?_
  refine z_callS S (pc := 9) B (wr := [cSlo u o x1 x2 x3 x4 x5, cSta o a h, cMet a b f g σ rr rb rn, cSet f σ]) (wn := fun _ => [cSlo u o x1 x2 x3 x4 x5, cSta o a h, cMet a b f g σ rr rb rn, cSet f σ]) (st1 := fun _ => [.int (iI (loS 3)), .int (iI x)]) (As := [.int (iI 3)]) (mX7_leastOf l E 3 (show inI 3 from by omega)) gX7_set_X7_leastOf 1 rfl (by decide +kernel) ⟨Nat.le_of_ble_eq_true rfl, Nat.le_of_ble_eq_true rfl, Nat.le_of_ble_eq_true rfl, Nat.le_of_ble_eq_true rfl⟩ [] [0, 1, 2, 3] [0, 1, 2, 3] rfl rfl ⟨rfl, rfl, rfl, by decide⟩ (fun _ => rfl) rfl (fun _ => rfl) hl.1 (Nat.le_of_ble_eq_true rfl) rfl dX7_set_9 (fun _ _ H locs B => ?_)
  rw [show loS 3 = 0 from rfl]
  refine z_iload_n S (pc := 12) dX7_set_12 rfl (lv_at hl 1 rfl) ?_
  refine z_callS S (pc := 13) B (wr := [cSlo u o x1 x2 x3 x4 x5, cSta o a h, cMet a b f g σ rr rb rn, cSet f σ]) (wn := fun _ => [cSlo u o x1 x2 x3 x4 x5, cSta o a h, cMet a b f g σ rr rb rn, cSet f σ]) (st1 := fun _ => [.int (iI (hiS 3)), .int (iI 0), .int (iI x)]) (As := [.int (iI 3)]) (mX7_mostOf l E 3 (show inI 3 from by omega)) gX7_set_X7_mostOf 1 rfl (by decide +kernel) ⟨Nat.le_of_ble_eq_true rfl, Nat.le_of_ble_eq_true rfl, Nat.le_of_ble_eq_true rfl, Nat.le_of_ble_eq_true rfl⟩ [] [0, 1, 2, 3] [0, 1, 2, 3] rfl rfl ⟨rfl, rfl, rfl, by decide⟩ (fun _ => rfl) rfl (fun _ => rfl) hl.1 (Nat.le_of_ble_eq_true rfl) rfl dX7_set_13 (fun _ _ H locs B => ?_)
  rw [show hiS 3 = 10 from rfl]
  refine z_callS S (pc := 16) B (wr := [cSlo u o x1 x2 x3 x4 x5, cSta o a h, cMet a b f g σ rr rb rn, cSet f σ]) (wn := fun _ => [cSlo u o x1 x2 x3 x4 x5, cSta o a h, cMet a b f g σ rr rb rn, cSet f σ]) (st1 := fun _ => [.int (iI (bI (x < 0 ∨ 10 < x)))]) (As := [.int (iI x), .int (iI 0), .int (iI 10)]) (mX7_isOutside l E x 0 10 (show inI x ∧ inI 0 ∧ inI 10 from by omega)) gX7_set_X7_isOutside 3 rfl (by decide +kernel) ⟨Nat.le_of_ble_eq_true rfl, Nat.le_of_ble_eq_true rfl, Nat.le_of_ble_eq_true rfl, Nat.le_of_ble_eq_true rfl⟩ [] [0, 1, 2, 3] [0, 1, 2, 3] rfl rfl ⟨rfl, rfl, rfl, by decide⟩ (fun _ => rfl) rfl (fun _ => rfl) hl.1 (Nat.le_of_ble_eq_true rfl) rfl dX7_set_16 (fun _ _ H locs B => ?_)
  refine z_ifeq_b S (pc := 19) (tgt := 25) dX7_set_19 rfl (fun c2 => ?_) (fun c2 => absurd c2 (by omega))
  refine z_aload_n S (pc := 25) dX7_set_25 rfl (lv_at hl 0 rfl) ?_
  refine z_get S (pc := 26) B iX7_set_X7 0 rfl rfl 0 (by decide) rfl rfl (by decide +kernel) dX7_set_26 ?_
  refine z_get S (pc := 29) B iX7_set_X6 1 rfl rfl 0 (by decide) rfl rfl (by decide +kernel) dX7_set_29 ?_
  refine z_get S (pc := 32) B iX7_set_X2 2 rfl rfl 1 (by decide) rfl rfl (by decide +kernel) dX7_set_32 ?_
  refine z_iload_n S (pc := 35) dX7_set_35 rfl (lv_at hl 1 rfl) ?_
  refine z_callV S (pc := 36) B (wr := [cSlo u o x1 x2 x3 x4 x5, cSta o a h, cMet a b f g σ rr rb rn]) (wn := fun _ => [cSlo u o x1 x2 x3 x4 x5, cSta o a h, cMet a b f g σ rr rb rn, cSet f σ]) (st1 := fun _ => [.int (iI (σ 8))]) (As := [.int (iI 3)]) (mX4_valueOf l E f σ 3 (show 0 ≤ 3 ∧ 3 ≤ 5 from by omega)) gX7_set_X4_valueOf 1 rfl (by decide +kernel) ⟨Nat.le_of_ble_eq_true rfl, Nat.le_of_ble_eq_true rfl, Nat.le_of_ble_eq_true rfl, Nat.le_of_ble_eq_true rfl⟩ 0 rfl (q := (RX4, TX4, 6)) rfl rfl [3] [0, 1, 2] [0, 1, 2, 3] rfl rfl ⟨rfl, rfl, rfl, by decide⟩ (fun _ => rfl) rfl (fun _ => rfl) hl.1 (Nat.le_of_ble_eq_true rfl) rfl dX7_set_36 (fun _ _ H locs B => ?_)
  refine lv_istore_n (lv' := [(3, .int (iI (σ 8))), (0, .ref u), (1, .int (iI 3)), (2, .int (iI x))]) S.1 S.2.1 (pc := 39) dX7_set_39 rfl hl (by decide) rfl (fun ls hl => ?_)
  refine z_aload_n S (pc := 40) dX7_set_40 rfl (lv_at hl 1 rfl) ?_
  refine z_get S (pc := 41) B iX7_set_X7 0 rfl rfl 0 (by decide) rfl rfl (by decide +kernel) dX7_set_41 ?_
  refine z_get S (pc := 44) B iX7_set_X6 1 rfl rfl 0 (by decide) rfl rfl (by decide +kernel) dX7_set_44 ?_
  refine z_get S (pc := 47) B iX7_set_X2 2 rfl rfl 1 (by decide) rfl rfl (by decide +kernel) dX7_set_47 ?_
  refine z_iload_n S (pc := 50) dX7_set_50 rfl (lv_at hl 2 rfl) ?_
  refine z_iload_n S (pc := 51) dX7_set_51 rfl (lv_at hl 3 rfl) ?_
  refine z_callV S (pc := 52) B (wr := [cSlo u o x1 x2 x3 x4 x5, cSta o a h, cMet a b f g σ rr rb rn]) (wn := fun _ => [cSlo u o x1 x2 x3 x4 x5, cSta o a h, cMet a b f g σ rr rb rn, (f, .inr (4, [.int (iI (σ 5)), .int (iI (σ 6)), .int (iI (σ 7)), .int (iI x), .int (iI (σ 9)), .int (iI (σ 10))]))]) (st1 := fun _ => []) (As := [.int (iI 3), .int (iI x)]) (mX4_change l E f σ 3 x (show 0 ≤ 3 ∧ 3 ≤ 5 from by omega)) gX7_set_X4_change 2 rfl (by decide +kernel) ⟨Nat.le_of_ble_eq_true rfl, Nat.le_of_ble_eq_true rfl, Nat.le_of_ble_eq_true rfl, Nat.le_of_ble_eq_true rfl⟩ 0 rfl (q := (RX4, TX4, 6)) rfl rfl [3] [0, 1, 2] [0, 1, 2, 3] rfl rfl ⟨rfl, rfl, rfl, by decide⟩ (fun _ => rfl) rfl (fun _ => rfl) hl.1 (Nat.le_of_ble_eq_true rfl) rfl dX7_set_52 (fun _ _ H locs B => ?_)
  refine z_iload_n S (pc := 55) dX7_set_55 rfl (lv_at hl 2 rfl) ?_
  refine z_iconst S (pc := 56) dX7_set_56 ?_
  refine z_icmp_ne S (pc := 57) (tgt := 71) (by omega) (by omega) dX7_set_57 rfl (fun c3 => absurd c3 (by omega)) (fun c3 => ?_)
  refine z_aload_n S (pc := 60) dX7_set_60 rfl (lv_at hl 1 rfl) ?_
  refine z_get S (pc := 61) B iX7_set_X7 0 rfl rfl 0 (by decide) rfl rfl (by decide +kernel) dX7_set_61 ?_
  refine z_get S (pc := 64) B iX7_set_X6 1 rfl rfl 0 (by decide) rfl rfl (by decide +kernel) dX7_set_64 ?_
  refine z_iconst S (pc := 67) dX7_set_67 ?_
  refine z_put S (pc := 68) B iX7_set_X2 tyX2_ok nmX2 2 rfl rfl 5 (by decide) rfl (by decide +kernel) (ty := .int) (by decide +kernel) rfl rfl (Nat.le_of_ble_eq_true rfl) dX7_set_68 (wn := [cSlo u o x1 x2 x3 x4 x5, cSta o a h, (a, .inr (2, [.ref b, .ref f, .ref g, .int (iI (σ 11)), .int (iI (σ 12)), .int (iI 0), .int (iI rr), .int (iI rb), .long (iL rn)])), (f, .inr (4, [.int (iI (σ 5)), .int (iI (σ 6)), .int (iI (σ 7)), .int (iI x), .int (iI (σ 9)), .int (iI (σ 10))]))]) rfl (fun H locs B => ?_)
  refine z_iload_n S (pc := 71) dX7_set_71 rfl (lv_at hl 0 rfl) ?_
  exact z_ireturn S hr hlk B () trivial rfl rfl (pc := 72) dX7_set_72
set_option maxHeartbeats 4000000 in
set_option maxRecDepth 100000 in
theorem mX7_set_3b (l : Launch) (E : gT) (u : Nat) (o : Nat) (x1 : Nat) (x2 : Nat) (x3 : Nat) (x4 : Nat) (x5 : Nat) (x : Int) (hI : inI x) (hbad : (x < 0 ∨ 10 < x)) : Cd l E yX7_set wsX7_set 2 40 0 0 [.ref u, .int (iI 3), .int (iI x)] [cSlo u o x1 x2 x3 x4 x5] (some (.int (iI (-2)))) [cSlo u o x1 x2 x3 x4 x5] := by
  refine Ct.mk (cc := cX7_set) (maxL := 4) (ret := (some .int)) (plainFor_of_name (by decide)) rfl (Nat.le_of_ble_eq_true rfl) ?_
  intro p e s m below meth c A ls H locs S hr hlk hnm B hl
  have S : CallFix p m c cX7_set 4 s #[.ref u, .int (iI 3), .int (iI x)] wsX7_set RX7 := S
  have hl : lv_has ls 4 [(0, .ref u), (1, .int (iI 3)), (2, .int (iI x))] := hl
  refine z_iload_n S (pc := 0) dX7_set_0 rfl (lv_at hl 1 rfl) ?_
  refine z_callS S (pc := 1) B (wr := [cSlo u o x1 x2 x3 x4 x5]) (wn := fun _ => [cSlo u o x1 x2 x3 x4 x5]) (st1 := fun _ => [.int (iI (bI (3 < 0 ∨ 6 ≤ 3)))]) (As := [.int (iI 3)]) (mX7_isNoSetting l E 3 (show inI 3 from by omega)) gX7_set_X7_isNoSetting 1 rfl (by decide +kernel) ⟨Nat.le_of_ble_eq_true rfl, Nat.le_of_ble_eq_true rfl, Nat.le_of_ble_eq_true rfl, Nat.le_of_ble_eq_true rfl⟩ [] [0] [0] rfl rfl ⟨rfl, rfl, rfl, by decide⟩ (fun _ => rfl) rfl (fun _ => rfl) hl.1 (Nat.le_of_ble_eq_true rfl) rfl dX7_set_1 (fun _ _ H locs B => ?_)
  refine z_ifne_b S (pc := 4) (tgt := 22) dX7_set_4 rfl (fun c1 => absurd c1 (by omega)) (fun c1 => ?_)
  refine z_iload_n S (pc := 7) dX7_set_7 rfl (lv_at hl 2 rfl) ?_
  refine z_iload_n S (pc := 8) dX7_set_8 rfl (lv_at hl 1 rfl) ?_
  refine z_callS S (pc := 9) B (wr := [cSlo u o x1 x2 x3 x4 x5]) (wn := fun _ => [cSlo u o x1 x2 x3 x4 x5]) (st1 := fun _ => [.int (iI (loS 3)), .int (iI x)]) (As := [.int (iI 3)]) (mX7_leastOf l E 3 (show inI 3 from by omega)) gX7_set_X7_leastOf 1 rfl (by decide +kernel) ⟨Nat.le_of_ble_eq_true rfl, Nat.le_of_ble_eq_true rfl, Nat.le_of_ble_eq_true rfl, Nat.le_of_ble_eq_true rfl⟩ [] [0] [0] rfl rfl ⟨rfl, rfl, rfl, by decide⟩ (fun _ => rfl) rfl (fun _ => rfl) hl.1 (Nat.le_of_ble_eq_true rfl) rfl dX7_set_9 (fun _ _ H locs B => ?_)
  rw [show loS 3 = 0 from rfl]
  refine z_iload_n S (pc := 12) dX7_set_12 rfl (lv_at hl 1 rfl) ?_
  refine z_callS S (pc := 13) B (wr := [cSlo u o x1 x2 x3 x4 x5]) (wn := fun _ => [cSlo u o x1 x2 x3 x4 x5]) (st1 := fun _ => [.int (iI (hiS 3)), .int (iI 0), .int (iI x)]) (As := [.int (iI 3)]) (mX7_mostOf l E 3 (show inI 3 from by omega)) gX7_set_X7_mostOf 1 rfl (by decide +kernel) ⟨Nat.le_of_ble_eq_true rfl, Nat.le_of_ble_eq_true rfl, Nat.le_of_ble_eq_true rfl, Nat.le_of_ble_eq_true rfl⟩ [] [0] [0] rfl rfl ⟨rfl, rfl, rfl, by decide⟩ (fun _ => rfl) rfl (fun _ => rfl) hl.1 (Nat.le_of_ble_eq_true rfl) rfl dX7_set_13 (fun _ _ H locs B => ?_)
  rw [show hiS 3 = 10 from rfl]
  refine z_callS S (pc := 16) B (wr := [cSlo u o x1 x2 x3 x4 x5]) (wn := fun _ => [cSlo u o x1 x2 x3 x4 x5]) (st1 := fun _ => [.int (iI (bI (x < 0 ∨ 10 < x)))]) (As := [.int (iI x), .int (iI 0), .int (iI 10)]) (mX7_isOutside l E x 0 10 (show inI x ∧ inI 0 ∧ inI 10 from by omega)) gX7_set_X7_isOutside 3 rfl (by decide +kernel) ⟨Nat.le_of_ble_eq_true rfl, Nat.le_of_ble_eq_true rfl, Nat.le_of_ble_eq_true rfl, Nat.le_of_ble_eq_true rfl⟩ [] [0] [0] rfl rfl ⟨rfl, rfl, rfl, by decide⟩ (fun _ => rfl) rfl (fun _ => rfl) hl.1 (Nat.le_of_ble_eq_true rfl) rfl dX7_set_16 (fun _ _ H locs B => ?_)
  refine z_ifeq_b S (pc := 19) (tgt := 25) dX7_set_19 rfl (fun c2 => ?_) (fun c2 => ?_)
  · exact absurd hbad (by omega)
  · refine z_bipush S (pc := 22) dX7_set_22 rfl ?_
    exact z_ireturn S hr hlk B () trivial rfl rfl (pc := 24) dX7_set_24
set_option maxHeartbeats 4000000 in
set_option maxRecDepth 100000 in
theorem mX7_set_4 (l : Launch) (E : gT) (u : Nat) (o : Nat) (x1 : Nat) (x2 : Nat) (x3 : Nat) (x4 : Nat) (x5 : Nat) (a : Nat) (b : Nat) (f : Nat) (g : Nat) (σ : Nat → Int) (ov : Int) (rr : Int) (rb : Int) (rn : Int) (h : Nat) (i : Nat) (ρ : Nat → Int) (x : Int) (hv : 0 ≤ x ∧ x ≤ 1) : Cd l E yX7_set wsX7_set 2 40 0 0 [.ref u, .int (iI 4), .int (iI x)] [cSlo u o x1 x2 x3 x4 x5, cSta o a h, cMet a b f g σ rr rb rn, cSet f σ] (some (.int (iI (σ 9)))) [cSlo u o x1 x2 x3 x4 x5, cSta o a h, cMet a b f g σ rr rb rn, (f, .inr (4, [.int (iI (σ 5)), .int (iI (σ 6)), .int (iI (σ 7)), .int (iI (σ 8)), .int (iI x), .int (iI (σ 10))]))] := by
  refine Ct.mk (cc := cX7_set) (maxL := 4) (ret := (some .int)) (plainFor_of_name (by decide)) rfl (Nat.le_of_ble_eq_true rfl) ?_
  intro p e s m below meth c A ls H locs S hr hlk hnm B hl
  have S : CallFix p m c cX7_set 4 s #[.ref u, .int (iI 4), .int (iI x)] wsX7_set RX7 := S
  have hl : lv_has ls 4 [(0, .ref u), (1, .int (iI 4)), (2, .int (iI x))] := hl
  refine z_iload_n S (pc := 0) dX7_set_0 rfl (lv_at hl 1 rfl) ?_
  refine z_callS S (pc := 1) B (wr := [cSlo u o x1 x2 x3 x4 x5, cSta o a h, cMet a b f g σ rr rb rn, cSet f σ]) (wn := fun _ => [cSlo u o x1 x2 x3 x4 x5, cSta o a h, cMet a b f g σ rr rb rn, cSet f σ]) (st1 := fun _ => [.int (iI (bI (4 < 0 ∨ 6 ≤ 4)))]) (As := [.int (iI 4)]) (mX7_isNoSetting l E 4 (show inI 4 from by omega)) gX7_set_X7_isNoSetting 1 rfl (by decide +kernel) ⟨Nat.le_of_ble_eq_true rfl, Nat.le_of_ble_eq_true rfl, Nat.le_of_ble_eq_true rfl, Nat.le_of_ble_eq_true rfl⟩ [] [0, 1, 2, 3] [0, 1, 2, 3] rfl rfl ⟨rfl, rfl, rfl, by decide⟩ (fun _ => rfl) rfl (fun _ => rfl) hl.1 (Nat.le_of_ble_eq_true rfl) rfl dX7_set_1 (fun _ _ H locs B => ?_)
  refine z_ifne_b S (pc := 4) (tgt := 22) dX7_set_4 rfl (fun c1 => absurd c1 (by omega)) (fun c1 => ?_)
  refine z_iload_n S (pc := 7) dX7_set_7 rfl (lv_at hl 2 rfl) ?_
  refine z_iload_n S (pc := 8) dX7_set_8 rfl (lv_at hl 1 rfl) ?_
  refine z_callS S (pc := 9) B (wr := [cSlo u o x1 x2 x3 x4 x5, cSta o a h, cMet a b f g σ rr rb rn, cSet f σ]) (wn := fun _ => [cSlo u o x1 x2 x3 x4 x5, cSta o a h, cMet a b f g σ rr rb rn, cSet f σ]) (st1 := fun _ => [.int (iI (loS 4)), .int (iI x)]) (As := [.int (iI 4)]) (mX7_leastOf l E 4 (show inI 4 from by omega)) gX7_set_X7_leastOf 1 rfl (by decide +kernel) ⟨Nat.le_of_ble_eq_true rfl, Nat.le_of_ble_eq_true rfl, Nat.le_of_ble_eq_true rfl, Nat.le_of_ble_eq_true rfl⟩ [] [0, 1, 2, 3] [0, 1, 2, 3] rfl rfl ⟨rfl, rfl, rfl, by decide⟩ (fun _ => rfl) rfl (fun _ => rfl) hl.1 (Nat.le_of_ble_eq_true rfl) rfl dX7_set_9 (fun _ _ H locs B => ?_)
  rw [show loS 4 = 0 from rfl]
  refine z_iload_n S (pc := 12) dX7_set_12 rfl (lv_at hl 1 rfl) ?_
  refine z_callS S (pc := 13) B (wr := [cSlo u o x1 x2 x3 x4 x5, cSta o a h, cMet a b f g σ rr rb rn, cSet f σ]) (wn := fun _ => [cSlo u o x1 x2 x3 x4 x5, cSta o a h, cMet a b f g σ rr rb rn, cSet f σ]) (st1 := fun _ => [.int (iI (hiS 4)), .int (iI 0), .int (iI x)]) (As := [.int (iI 4)]) (mX7_mostOf l E 4 (show inI 4 from by omega)) gX7_set_X7_mostOf 1 rfl (by decide +kernel) ⟨Nat.le_of_ble_eq_true rfl, Nat.le_of_ble_eq_true rfl, Nat.le_of_ble_eq_true rfl, Nat.le_of_ble_eq_true rfl⟩ [] [0, 1, 2, 3] [0, 1, 2, 3] rfl rfl ⟨rfl, rfl, rfl, by decide⟩ (fun _ => rfl) rfl (fun _ => rfl) hl.1 (Nat.le_of_ble_eq_true rfl) rfl dX7_set_13 (fun _ _ H locs B => ?_)
  rw [show hiS 4 = 1 from rfl]
  refine z_callS S (pc := 16) B (wr := [cSlo u o x1 x2 x3 x4 x5, cSta o a h, cMet a b f g σ rr rb rn, cSet f σ]) (wn := fun _ => [cSlo u o x1 x2 x3 x4 x5, cSta o a h, cMet a b f g σ rr rb rn, cSet f σ]) (st1 := fun _ => [.int (iI (bI (x < 0 ∨ 1 < x)))]) (As := [.int (iI x), .int (iI 0), .int (iI 1)]) (mX7_isOutside l E x 0 1 (show inI x ∧ inI 0 ∧ inI 1 from by omega)) gX7_set_X7_isOutside 3 rfl (by decide +kernel) ⟨Nat.le_of_ble_eq_true rfl, Nat.le_of_ble_eq_true rfl, Nat.le_of_ble_eq_true rfl, Nat.le_of_ble_eq_true rfl⟩ [] [0, 1, 2, 3] [0, 1, 2, 3] rfl rfl ⟨rfl, rfl, rfl, by decide⟩ (fun _ => rfl) rfl (fun _ => rfl) hl.1 (Nat.le_of_ble_eq_true rfl) rfl dX7_set_16 (fun _ _ H locs B => ?_)
  refine z_ifeq_b S (pc := 19) (tgt := 25) dX7_set_19 rfl (fun c2 => ?_) (fun c2 => absurd c2 (by omega))
  refine z_aload_n S (pc := 25) dX7_set_25 rfl (lv_at hl 0 rfl) ?_
  refine z_get S (pc := 26) B iX7_set_X7 0 rfl rfl 0 (by decide) rfl rfl (by decide +kernel) dX7_set_26 ?_
  refine z_get S (pc := 29) B iX7_set_X6 1 rfl rfl 0 (by decide) rfl rfl (by decide +kernel) dX7_set_29 ?_
  refine z_get S (pc := 32) B iX7_set_X2 2 rfl rfl 1 (by decide) rfl rfl (by decide +kernel) dX7_set_32 ?_
  refine z_iload_n S (pc := 35) dX7_set_35 rfl (lv_at hl 1 rfl) ?_
  refine z_callV S (pc := 36) B (wr := [cSlo u o x1 x2 x3 x4 x5, cSta o a h, cMet a b f g σ rr rb rn]) (wn := fun _ => [cSlo u o x1 x2 x3 x4 x5, cSta o a h, cMet a b f g σ rr rb rn, cSet f σ]) (st1 := fun _ => [.int (iI (σ 9))]) (As := [.int (iI 4)]) (mX4_valueOf l E f σ 4 (show 0 ≤ 4 ∧ 4 ≤ 5 from by omega)) gX7_set_X4_valueOf 1 rfl (by decide +kernel) ⟨Nat.le_of_ble_eq_true rfl, Nat.le_of_ble_eq_true rfl, Nat.le_of_ble_eq_true rfl, Nat.le_of_ble_eq_true rfl⟩ 0 rfl (q := (RX4, TX4, 6)) rfl rfl [3] [0, 1, 2] [0, 1, 2, 3] rfl rfl ⟨rfl, rfl, rfl, by decide⟩ (fun _ => rfl) rfl (fun _ => rfl) hl.1 (Nat.le_of_ble_eq_true rfl) rfl dX7_set_36 (fun _ _ H locs B => ?_)
  refine lv_istore_n (lv' := [(3, .int (iI (σ 9))), (0, .ref u), (1, .int (iI 4)), (2, .int (iI x))]) S.1 S.2.1 (pc := 39) dX7_set_39 rfl hl (by decide) rfl (fun ls hl => ?_)
  refine z_aload_n S (pc := 40) dX7_set_40 rfl (lv_at hl 1 rfl) ?_
  refine z_get S (pc := 41) B iX7_set_X7 0 rfl rfl 0 (by decide) rfl rfl (by decide +kernel) dX7_set_41 ?_
  refine z_get S (pc := 44) B iX7_set_X6 1 rfl rfl 0 (by decide) rfl rfl (by decide +kernel) dX7_set_44 ?_
  refine z_get S (pc := 47) B iX7_set_X2 2 rfl rfl 1 (by decide) rfl rfl (by decide +kernel) dX7_set_47 ?_
  refine z_iload_n S (pc := 50) dX7_set_50 rfl (lv_at hl 2 rfl) ?_
  refine z_iload_n S (pc := 51) dX7_set_51 rfl (lv_at hl 3 rfl) ?_
  refine z_callV S (pc := 52) B (wr := [cSlo u o x1 x2 x3 x4 x5, cSta o a h, cMet a b f g σ rr rb rn]) (wn := fun _ => [cSlo u o x1 x2 x3 x4 x5, cSta o a h, cMet a b f g σ rr rb rn, (f, .inr (4, [.int (iI (σ 5)), .int (iI (σ 6)), .int (iI (σ 7)), .int (iI (σ 8)), .int (iI x), .int (iI (σ 10))]))]) (st1 := fun _ => []) (As := [.int (iI 4), .int (iI x)]) (mX4_change l E f σ 4 x (show 0 ≤ 4 ∧ 4 ≤ 5 from by omega)) gX7_set_X4_change 2 rfl (by decide +kernel) ⟨Nat.le_of_ble_eq_true rfl, Nat.le_of_ble_eq_true rfl, Nat.le_of_ble_eq_true rfl, Nat.le_of_ble_eq_true rfl⟩ 0 rfl (q := (RX4, TX4, 6)) rfl rfl [3] [0, 1, 2] [0, 1, 2, 3] rfl rfl ⟨rfl, rfl, rfl, by decide⟩ (fun _ => rfl) rfl (fun _ => rfl) hl.1 (Nat.le_of_ble_eq_true rfl) rfl dX7_set_52 (fun _ _ H locs B => ?_)
  refine z_iload_n S (pc := 55) dX7_set_55 rfl (lv_at hl 2 rfl) ?_
  refine z_iconst S (pc := 56) dX7_set_56 ?_
  refine z_icmp_ne S (pc := 57) (tgt := 71) (by omega) (by omega) dX7_set_57 rfl (fun c3 => ?_) (fun c3 => absurd c3 (by omega))
  refine z_iload_n S (pc := 71) dX7_set_71 rfl (lv_at hl 0 rfl) ?_
  exact z_ireturn S hr hlk B () trivial rfl rfl (pc := 72) dX7_set_72
set_option maxHeartbeats 4000000 in
set_option maxRecDepth 100000 in
theorem mX7_set_4b (l : Launch) (E : gT) (u : Nat) (o : Nat) (x1 : Nat) (x2 : Nat) (x3 : Nat) (x4 : Nat) (x5 : Nat) (x : Int) (hI : inI x) (hbad : (x < 0 ∨ 1 < x)) : Cd l E yX7_set wsX7_set 2 40 0 0 [.ref u, .int (iI 4), .int (iI x)] [cSlo u o x1 x2 x3 x4 x5] (some (.int (iI (-2)))) [cSlo u o x1 x2 x3 x4 x5] := by
  refine Ct.mk (cc := cX7_set) (maxL := 4) (ret := (some .int)) (plainFor_of_name (by decide)) rfl (Nat.le_of_ble_eq_true rfl) ?_
  intro p e s m below meth c A ls H locs S hr hlk hnm B hl
  have S : CallFix p m c cX7_set 4 s #[.ref u, .int (iI 4), .int (iI x)] wsX7_set RX7 := S
  have hl : lv_has ls 4 [(0, .ref u), (1, .int (iI 4)), (2, .int (iI x))] := hl
  refine z_iload_n S (pc := 0) dX7_set_0 rfl (lv_at hl 1 rfl) ?_
  refine z_callS S (pc := 1) B (wr := [cSlo u o x1 x2 x3 x4 x5]) (wn := fun _ => [cSlo u o x1 x2 x3 x4 x5]) (st1 := fun _ => [.int (iI (bI (4 < 0 ∨ 6 ≤ 4)))]) (As := [.int (iI 4)]) (mX7_isNoSetting l E 4 (show inI 4 from by omega)) gX7_set_X7_isNoSetting 1 rfl (by decide +kernel) ⟨Nat.le_of_ble_eq_true rfl, Nat.le_of_ble_eq_true rfl, Nat.le_of_ble_eq_true rfl, Nat.le_of_ble_eq_true rfl⟩ [] [0] [0] rfl rfl ⟨rfl, rfl, rfl, by decide⟩ (fun _ => rfl) rfl (fun _ => rfl) hl.1 (Nat.le_of_ble_eq_true rfl) rfl dX7_set_1 (fun _ _ H locs B => ?_)
  refine z_ifne_b S (pc := 4) (tgt := 22) dX7_set_4 rfl (fun c1 => absurd c1 (by omega)) (fun c1 => ?_)
  refine z_iload_n S (pc := 7) dX7_set_7 rfl (lv_at hl 2 rfl) ?_
  refine z_iload_n S (pc := 8) dX7_set_8 rfl (lv_at hl 1 rfl) ?_
  refine z_callS S (pc := 9) B (wr := [cSlo u o x1 x2 x3 x4 x5]) (wn := fun _ => [cSlo u o x1 x2 x3 x4 x5]) (st1 := fun _ => [.int (iI (loS 4)), .int (iI x)]) (As := [.int (iI 4)]) (mX7_leastOf l E 4 (show inI 4 from by omega)) gX7_set_X7_leastOf 1 rfl (by decide +kernel) ⟨Nat.le_of_ble_eq_true rfl, Nat.le_of_ble_eq_true rfl, Nat.le_of_ble_eq_true rfl, Nat.le_of_ble_eq_true rfl⟩ [] [0] [0] rfl rfl ⟨rfl, rfl, rfl, by decide⟩ (fun _ => rfl) rfl (fun _ => rfl) hl.1 (Nat.le_of_ble_eq_true rfl) rfl dX7_set_9 (fun _ _ H locs B => ?_)
  rw [show loS 4 = 0 from rfl]
  refine z_iload_n S (pc := 12) dX7_set_12 rfl (lv_at hl 1 rfl) ?_
  refine z_callS S (pc := 13) B (wr := [cSlo u o x1 x2 x3 x4 x5]) (wn := fun _ => [cSlo u o x1 x2 x3 x4 x5]) (st1 := fun _ => [.int (iI (hiS 4)), .int (iI 0), .int (iI x)]) (As := [.int (iI 4)]) (mX7_mostOf l E 4 (show inI 4 from by omega)) gX7_set_X7_mostOf 1 rfl (by decide +kernel) ⟨Nat.le_of_ble_eq_true rfl, Nat.le_of_ble_eq_true rfl, Nat.le_of_ble_eq_true rfl, Nat.le_of_ble_eq_true rfl⟩ [] [0] [0] rfl rfl ⟨rfl, rfl, rfl, by decide⟩ (fun _ => rfl) rfl (fun _ => rfl) hl.1 (Nat.le_of_ble_eq_true rfl) rfl dX7_set_13 (fun _ _ H locs B => ?_)
  rw [show hiS 4 = 1 from rfl]
  refine z_callS S (pc := 16) B (wr := [cSlo u o x1 x2 x3 x4 x5]) (wn := fun _ => [cSlo u o x1 x2 x3 x4 x5]) (st1 := fun _ => [.int (iI (bI (x < 0 ∨ 1 < x)))]) (As := [.int (iI x), .int (iI 0), .int (iI 1)]) (mX7_isOutside l E x 0 1 (show inI x ∧ inI 0 ∧ inI 1 from by omega)) gX7_set_X7_isOutside 3 rfl (by decide +kernel) ⟨Nat.le_of_ble_eq_true rfl, Nat.le_of_ble_eq_true rfl, Nat.le_of_ble_eq_true rfl, Nat.le_of_ble_eq_true rfl⟩ [] [0] [0] rfl rfl ⟨rfl, rfl, rfl, by decide⟩ (fun _ => rfl) rfl (fun _ => rfl) hl.1 (Nat.le_of_ble_eq_true rfl) rfl dX7_set_16 (fun _ _ H locs B => ?_)
  refine z_ifeq_b S (pc := 19) (tgt := 25) dX7_set_19 rfl (fun c2 => ?_) (fun c2 => ?_)
  · exact absurd hbad (by omega)
  · refine z_bipush S (pc := 22) dX7_set_22 rfl ?_
    exact z_ireturn S hr hlk B () trivial rfl rfl (pc := 24) dX7_set_24
set_option maxHeartbeats 4000000 in
set_option maxRecDepth 100000 in
theorem mX7_set_5 (l : Launch) (E : gT) (u : Nat) (o : Nat) (x1 : Nat) (x2 : Nat) (x3 : Nat) (x4 : Nat) (x5 : Nat) (a : Nat) (b : Nat) (f : Nat) (g : Nat) (σ : Nat → Int) (ov : Int) (rr : Int) (rb : Int) (rn : Int) (h : Nat) (i : Nat) (ρ : Nat → Int) (x : Int) (hv : 0 ≤ x ∧ x ≤ 3) : Cd l E yX7_set wsX7_set 2 40 0 0 [.ref u, .int (iI 5), .int (iI x)] [cSlo u o x1 x2 x3 x4 x5, cSta o a h, cMet a b f g σ rr rb rn, cSet f σ] (some (.int (iI (σ 10)))) [cSlo u o x1 x2 x3 x4 x5, cSta o a h, cMet a b f g σ rr rb rn, (f, .inr (4, [.int (iI (σ 5)), .int (iI (σ 6)), .int (iI (σ 7)), .int (iI (σ 8)), .int (iI (σ 9)), .int (iI x)]))] := by
  refine Ct.mk (cc := cX7_set) (maxL := 4) (ret := (some .int)) (plainFor_of_name (by decide)) rfl (Nat.le_of_ble_eq_true rfl) ?_
  intro p e s m below meth c A ls H locs S hr hlk hnm B hl
  have S : CallFix p m c cX7_set 4 s #[.ref u, .int (iI 5), .int (iI x)] wsX7_set RX7 := S
  have hl : lv_has ls 4 [(0, .ref u), (1, .int (iI 5)), (2, .int (iI x))] := hl
  refine z_iload_n S (pc := 0) dX7_set_0 rfl (lv_at hl 1 rfl) ?_
  refine z_callS S (pc := 1) B (wr := [cSlo u o x1 x2 x3 x4 x5, cSta o a h, cMet a b f g σ rr rb rn, cSet f σ]) (wn := fun _ => [cSlo u o x1 x2 x3 x4 x5, cSta o a h, cMet a b f g σ rr rb rn, cSet f σ]) (st1 := fun _ => [.int (iI (bI (5 < 0 ∨ 6 ≤ 5)))]) (As := [.int (iI 5)]) (mX7_isNoSetting l E 5 (show inI 5 from by omega)) gX7_set_X7_isNoSetting 1 rfl (by decide +kernel) ⟨Nat.le_of_ble_eq_true rfl, Nat.le_of_ble_eq_true rfl, Nat.le_of_ble_eq_true rfl, Nat.le_of_ble_eq_true rfl⟩ [] [0, 1, 2, 3] [0, 1, 2, 3] rfl rfl ⟨rfl, rfl, rfl, by decide⟩ (fun _ => rfl) rfl (fun _ => rfl) hl.1 (Nat.le_of_ble_eq_true rfl) rfl dX7_set_1 (fun _ _ H locs B => ?_)
  refine z_ifne_b S (pc := 4) (tgt := 22) dX7_set_4 rfl (fun c1 => absurd c1 (by omega)) (fun c1 => ?_)
  refine z_iload_n S (pc := 7) dX7_set_7 rfl (lv_at hl 2 rfl) ?_
  refine z_iload_n S (pc := 8) dX7_set_8 rfl (lv_at hl 1 rfl) ?_
  refine z_callS S (pc := 9) B (wr := [cSlo u o x1 x2 x3 x4 x5, cSta o a h, cMet a b f g σ rr rb rn, cSet f σ]) (wn := fun _ => [cSlo u o x1 x2 x3 x4 x5, cSta o a h, cMet a b f g σ rr rb rn, cSet f σ]) (st1 := fun _ => [.int (iI (loS 5)), .int (iI x)]) (As := [.int (iI 5)]) (mX7_leastOf l E 5 (show inI 5 from by omega)) gX7_set_X7_leastOf 1 rfl (by decide +kernel) ⟨Nat.le_of_ble_eq_true rfl, Nat.le_of_ble_eq_true rfl, Nat.le_of_ble_eq_true rfl, Nat.le_of_ble_eq_true rfl⟩ [] [0, 1, 2, 3] [0, 1, 2, 3] rfl rfl ⟨rfl, rfl, rfl, by decide⟩ (fun _ => rfl) rfl (fun _ => rfl) hl.1 (Nat.le_of_ble_eq_true rfl) rfl dX7_set_9 (fun _ _ H locs B => ?_)
  rw [show loS 5 = 0 from rfl]
  refine z_iload_n S (pc := 12) dX7_set_12 rfl (lv_at hl 1 rfl) ?_
  refine z_callS S (pc := 13) B (wr := [cSlo u o x1 x2 x3 x4 x5, cSta o a h, cMet a b f g σ rr rb rn, cSet f σ]) (wn := fun _ => [cSlo u o x1 x2 x3 x4 x5, cSta o a h, cMet a b f g σ rr rb rn, cSet f σ]) (st1 := fun _ => [.int (iI (hiS 5)), .int (iI 0), .int (iI x)]) (As := [.int (iI 5)]) (mX7_mostOf l E 5 (show inI 5 from by omega)) gX7_set_X7_mostOf 1 rfl (by decide +kernel) ⟨Nat.le_of_ble_eq_true rfl, Nat.le_of_ble_eq_true rfl, Nat.le_of_ble_eq_true rfl, Nat.le_of_ble_eq_true rfl⟩ [] [0, 1, 2, 3] [0, 1, 2, 3] rfl rfl ⟨rfl, rfl, rfl, by decide⟩ (fun _ => rfl) rfl (fun _ => rfl) hl.1 (Nat.le_of_ble_eq_true rfl) rfl dX7_set_13 (fun _ _ H locs B => ?_)
  rw [show hiS 5 = 3 from rfl]
  refine z_callS S (pc := 16) B (wr := [cSlo u o x1 x2 x3 x4 x5, cSta o a h, cMet a b f g σ rr rb rn, cSet f σ]) (wn := fun _ => [cSlo u o x1 x2 x3 x4 x5, cSta o a h, cMet a b f g σ rr rb rn, cSet f σ]) (st1 := fun _ => [.int (iI (bI (x < 0 ∨ 3 < x)))]) (As := [.int (iI x), .int (iI 0), .int (iI 3)]) (mX7_isOutside l E x 0 3 (show inI x ∧ inI 0 ∧ inI 3 from by omega)) gX7_set_X7_isOutside 3 rfl (by decide +kernel) ⟨Nat.le_of_ble_eq_true rfl, Nat.le_of_ble_eq_true rfl, Nat.le_of_ble_eq_true rfl, Nat.le_of_ble_eq_true rfl⟩ [] [0, 1, 2, 3] [0, 1, 2, 3] rfl rfl ⟨rfl, rfl, rfl, by decide⟩ (fun _ => rfl) rfl (fun _ => rfl) hl.1 (Nat.le_of_ble_eq_true rfl) rfl dX7_set_16 (fun _ _ H locs B => ?_)
  refine z_ifeq_b S (pc := 19) (tgt := 25) dX7_set_19 rfl (fun c2 => ?_) (fun c2 => absurd c2 (by omega))
  refine z_aload_n S (pc := 25) dX7_set_25 rfl (lv_at hl 0 rfl) ?_
  refine z_get S (pc := 26) B iX7_set_X7 0 rfl rfl 0 (by decide) rfl rfl (by decide +kernel) dX7_set_26 ?_
  refine z_get S (pc := 29) B iX7_set_X6 1 rfl rfl 0 (by decide) rfl rfl (by decide +kernel) dX7_set_29 ?_
  refine z_get S (pc := 32) B iX7_set_X2 2 rfl rfl 1 (by decide) rfl rfl (by decide +kernel) dX7_set_32 ?_
  refine z_iload_n S (pc := 35) dX7_set_35 rfl (lv_at hl 1 rfl) ?_
  refine z_callV S (pc := 36) B (wr := [cSlo u o x1 x2 x3 x4 x5, cSta o a h, cMet a b f g σ rr rb rn]) (wn := fun _ => [cSlo u o x1 x2 x3 x4 x5, cSta o a h, cMet a b f g σ rr rb rn, cSet f σ]) (st1 := fun _ => [.int (iI (σ 10))]) (As := [.int (iI 5)]) (mX4_valueOf l E f σ 5 (show 0 ≤ 5 ∧ 5 ≤ 5 from by omega)) gX7_set_X4_valueOf 1 rfl (by decide +kernel) ⟨Nat.le_of_ble_eq_true rfl, Nat.le_of_ble_eq_true rfl, Nat.le_of_ble_eq_true rfl, Nat.le_of_ble_eq_true rfl⟩ 0 rfl (q := (RX4, TX4, 6)) rfl rfl [3] [0, 1, 2] [0, 1, 2, 3] rfl rfl ⟨rfl, rfl, rfl, by decide⟩ (fun _ => rfl) rfl (fun _ => rfl) hl.1 (Nat.le_of_ble_eq_true rfl) rfl dX7_set_36 (fun _ _ H locs B => ?_)
  refine lv_istore_n (lv' := [(3, .int (iI (σ 10))), (0, .ref u), (1, .int (iI 5)), (2, .int (iI x))]) S.1 S.2.1 (pc := 39) dX7_set_39 rfl hl (by decide) rfl (fun ls hl => ?_)
  refine z_aload_n S (pc := 40) dX7_set_40 rfl (lv_at hl 1 rfl) ?_
  refine z_get S (pc := 41) B iX7_set_X7 0 rfl rfl 0 (by decide) rfl rfl (by decide +kernel) dX7_set_41 ?_
  refine z_get S (pc := 44) B iX7_set_X6 1 rfl rfl 0 (by decide) rfl rfl (by decide +kernel) dX7_set_44 ?_
  refine z_get S (pc := 47) B iX7_set_X2 2 rfl rfl 1 (by decide) rfl rfl (by decide +kernel) dX7_set_47 ?_
  refine z_iload_n S (pc := 50) dX7_set_50 rfl (lv_at hl 2 rfl) ?_
  refine z_iload_n S (pc := 51) dX7_set_51 rfl (lv_at hl 3 rfl) ?_
  refine z_callV S (pc := 52) B (wr := [cSlo u o x1 x2 x3 x4 x5, cSta o a h, cMet a b f g σ rr rb rn]) (wn := fun _ => [cSlo u o x1 x2 x3 x4 x5, cSta o a h, cMet a b f g σ rr rb rn, (f, .inr (4, [.int (iI (σ 5)), .int (iI (σ 6)), .int (iI (σ 7)), .int (iI (σ 8)), .int (iI (σ 9)), .int (iI x)]))]) (st1 := fun _ => []) (As := [.int (iI 5), .int (iI x)]) (mX4_change l E f σ 5 x (show 0 ≤ 5 ∧ 5 ≤ 5 from by omega)) gX7_set_X4_change 2 rfl (by decide +kernel) ⟨Nat.le_of_ble_eq_true rfl, Nat.le_of_ble_eq_true rfl, Nat.le_of_ble_eq_true rfl, Nat.le_of_ble_eq_true rfl⟩ 0 rfl (q := (RX4, TX4, 6)) rfl rfl [3] [0, 1, 2] [0, 1, 2, 3] rfl rfl ⟨rfl, rfl, rfl, by decide⟩ (fun _ => rfl) rfl (fun _ => rfl) hl.1 (Nat.le_of_ble_eq_true rfl) rfl dX7_set_52 (fun _ _ H locs B => ?_)
  refine z_iload_n S (pc := 55) dX7_set_55 rfl (lv_at hl 2 rfl) ?_
  refine z_iconst S (pc := 56) dX7_set_56 ?_
  refine z_icmp_ne S (pc := 57) (tgt := 71) (by omega) (by omega) dX7_set_57 rfl (fun c3 => ?_) (fun c3 => absurd c3 (by omega))
  refine z_iload_n S (pc := 71) dX7_set_71 rfl (lv_at hl 0 rfl) ?_
  exact z_ireturn S hr hlk B () trivial rfl rfl (pc := 72) dX7_set_72
set_option maxHeartbeats 4000000 in
set_option maxRecDepth 100000 in
theorem mX7_set_5b (l : Launch) (E : gT) (u : Nat) (o : Nat) (x1 : Nat) (x2 : Nat) (x3 : Nat) (x4 : Nat) (x5 : Nat) (x : Int) (hI : inI x) (hbad : (x < 0 ∨ 3 < x)) : Cd l E yX7_set wsX7_set 2 40 0 0 [.ref u, .int (iI 5), .int (iI x)] [cSlo u o x1 x2 x3 x4 x5] (some (.int (iI (-2)))) [cSlo u o x1 x2 x3 x4 x5] := by
  refine Ct.mk (cc := cX7_set) (maxL := 4) (ret := (some .int)) (plainFor_of_name (by decide)) rfl (Nat.le_of_ble_eq_true rfl) ?_
  intro p e s m below meth c A ls H locs S hr hlk hnm B hl
  have S : CallFix p m c cX7_set 4 s #[.ref u, .int (iI 5), .int (iI x)] wsX7_set RX7 := S
  have hl : lv_has ls 4 [(0, .ref u), (1, .int (iI 5)), (2, .int (iI x))] := hl
  refine z_iload_n S (pc := 0) dX7_set_0 rfl (lv_at hl 1 rfl) ?_
  refine z_callS S (pc := 1) B (wr := [cSlo u o x1 x2 x3 x4 x5]) (wn := fun _ => [cSlo u o x1 x2 x3 x4 x5]) (st1 := fun _ => [.int (iI (bI (5 < 0 ∨ 6 ≤ 5)))]) (As := [.int (iI 5)]) (mX7_isNoSetting l E 5 (show inI 5 from by omega)) gX7_set_X7_isNoSetting 1 rfl (by decide +kernel) ⟨Nat.le_of_ble_eq_true rfl, Nat.le_of_ble_eq_true rfl, Nat.le_of_ble_eq_true rfl, Nat.le_of_ble_eq_true rfl⟩ [] [0] [0] rfl rfl ⟨rfl, rfl, rfl, by decide⟩ (fun _ => rfl) rfl (fun _ => rfl) hl.1 (Nat.le_of_ble_eq_true rfl) rfl dX7_set_1 (fun _ _ H locs B => ?_)
  refine z_ifne_b S (pc := 4) (tgt := 22) dX7_set_4 rfl (fun c1 => absurd c1 (by omega)) (fun c1 => ?_)
  refine z_iload_n S (pc := 7) dX7_set_7 rfl (lv_at hl 2 rfl) ?_
  refine z_iload_n S (pc := 8) dX7_set_8 rfl (lv_at hl 1 rfl) ?_
  refine z_callS S (pc := 9) B (wr := [cSlo u o x1 x2 x3 x4 x5]) (wn := fun _ => [cSlo u o x1 x2 x3 x4 x5]) (st1 := fun _ => [.int (iI (loS 5)), .int (iI x)]) (As := [.int (iI 5)]) (mX7_leastOf l E 5 (show inI 5 from by omega)) gX7_set_X7_leastOf 1 rfl (by decide +kernel) ⟨Nat.le_of_ble_eq_true rfl, Nat.le_of_ble_eq_true rfl, Nat.le_of_ble_eq_true rfl, Nat.le_of_ble_eq_true rfl⟩ [] [0] [0] rfl rfl ⟨rfl, rfl, rfl, by decide⟩ (fun _ => rfl) rfl (fun _ => rfl) hl.1 (Nat.le_of_ble_eq_true rfl) rfl dX7_set_9 (fun _ _ H locs B => ?_)
  rw [show loS 5 = 0 from rfl]
  refine z_iload_n S (pc := 12) dX7_set_12 rfl (lv_at hl 1 rfl) ?_
  refine z_callS S (pc := 13) B (wr := [cSlo u o x1 x2 x3 x4 x5]) (wn := fun _ => [cSlo u o x1 x2 x3 x4 x5]) (st1 := fun _ => [.int (iI (hiS 5)), .int (iI 0), .int (iI x)]) (As := [.int (iI 5)]) (mX7_mostOf l E 5 (show inI 5 from by omega)) gX7_set_X7_mostOf 1 rfl (by decide +kernel) ⟨Nat.le_of_ble_eq_true rfl, Nat.le_of_ble_eq_true rfl, Nat.le_of_ble_eq_true rfl, Nat.le_of_ble_eq_true rfl⟩ [] [0] [0] rfl rfl ⟨rfl, rfl, rfl, by decide⟩ (fun _ => rfl) rfl (fun _ => rfl) hl.1 (Nat.le_of_ble_eq_true rfl) rfl dX7_set_13 (fun _ _ H locs B => ?_)
  rw [show hiS 5 = 3 from rfl]
  refine z_callS S (pc := 16) B (wr := [cSlo u o x1 x2 x3 x4 x5]) (wn := fun _ => [cSlo u o x1 x2 x3 x4 x5]) (st1 := fun _ => [.int (iI (bI (x < 0 ∨ 3 < x)))]) (As := [.int (iI x), .int (iI 0), .int (iI 3)]) (mX7_isOutside l E x 0 3 (show inI x ∧ inI 0 ∧ inI 3 from by omega)) gX7_set_X7_isOutside 3 rfl (by decide +kernel) ⟨Nat.le_of_ble_eq_true rfl, Nat.le_of_ble_eq_true rfl, Nat.le_of_ble_eq_true rfl, Nat.le_of_ble_eq_true rfl⟩ [] [0] [0] rfl rfl ⟨rfl, rfl, rfl, by decide⟩ (fun _ => rfl) rfl (fun _ => rfl) hl.1 (Nat.le_of_ble_eq_true rfl) rfl dX7_set_16 (fun _ _ H locs B => ?_)
  refine z_ifeq_b S (pc := 19) (tgt := 25) dX7_set_19 rfl (fun c2 => ?_) (fun c2 => ?_)
  · exact absurd hbad (by omega)
  · refine z_bipush S (pc := 22) dX7_set_22 rfl ?_
    exact z_ireturn S hr hlk B () trivial rfl rfl (pc := 24) dX7_set_24
set_option maxHeartbeats 4000000 in
set_option maxRecDepth 100000 in
theorem mX7_set_b (l : Launch) (E : gT) (u : Nat) (o : Nat) (x1 : Nat) (x2 : Nat) (x3 : Nat) (x4 : Nat) (x5 : Nat) (k : Int) (x : Int) (hI : inI k ∧ inI x) (hbad : (k < 0 ∨ 5 < k)) : Cd l E yX7_set wsX7_set 2 40 0 0 [.ref u, .int (iI k), .int (iI x)] [cSlo u o x1 x2 x3 x4 x5] (some (.int (iI (-2)))) [cSlo u o x1 x2 x3 x4 x5] := by
  refine Ct.mk (cc := cX7_set) (maxL := 4) (ret := (some .int)) (plainFor_of_name (by decide)) rfl (Nat.le_of_ble_eq_true rfl) ?_
  intro p e s m below meth c A ls H locs S hr hlk hnm B hl
  have S : CallFix p m c cX7_set 4 s #[.ref u, .int (iI k), .int (iI x)] wsX7_set RX7 := S
  have hl : lv_has ls 4 [(0, .ref u), (1, .int (iI k)), (2, .int (iI x))] := hl
  refine z_iload_n S (pc := 0) dX7_set_0 rfl (lv_at hl 1 rfl) ?_
  refine z_callS S (pc := 1) B (wr := [cSlo u o x1 x2 x3 x4 x5]) (wn := fun _ => [cSlo u o x1 x2 x3 x4 x5]) (st1 := fun _ => [.int (iI (bI (k < 0 ∨ 6 ≤ k)))]) (As := [.int (iI k)]) (mX7_isNoSetting l E k (show inI k from by omega)) gX7_set_X7_isNoSetting 1 rfl (by decide +kernel) ⟨Nat.le_of_ble_eq_true rfl, Nat.le_of_ble_eq_true rfl, Nat.le_of_ble_eq_true rfl, Nat.le_of_ble_eq_true rfl⟩ [] [0] [0] rfl rfl ⟨rfl, rfl, rfl, by decide⟩ (fun _ => rfl) rfl (fun _ => rfl) hl.1 (Nat.le_of_ble_eq_true rfl) rfl dX7_set_1 (fun _ _ H locs B => ?_)
  refine z_ifne_b S (pc := 4) (tgt := 22) dX7_set_4 rfl (fun c1 => ?_) (fun c1 => ?_)
  · refine z_bipush S (pc := 22) dX7_set_22 rfl ?_
    exact z_ireturn S hr hlk B () trivial rfl rfl (pc := 24) dX7_set_24
  · exact absurd hbad (by omega)
theorem iX7_get_X2 : ∀ w ∈ wsX20, w ∈ wsX7_get := by decide +kernel
theorem iX7_get_X6 : ∀ w ∈ wsX60, w ∈ wsX7_get := by decide +kernel
theorem iX7_get_X7 : ∀ w ∈ wsX70, w ∈ wsX7_get := by decide +kernel
set_option maxHeartbeats 4000000 in
set_option maxRecDepth 100000 in
theorem mX7_get (l : Launch) (E : gT) (u : Nat) (o : Nat) (x1 : Nat) (x2 : Nat) (x3 : Nat) (x4 : Nat) (x5 : Nat) (a : Nat) (b : Nat) (f : Nat) (g : Nat) (σ : Nat → Int) (ov : Int) (rr : Int) (rb : Int) (rn : Int) (h : Nat) (i : Nat) (ρ : Nat → Int) (k : Int) (hv : 0 ≤ k ∧ k ≤ 5) : Cd l E yX7_get wsX7_get 1 21 0 0 [.ref u, .int (iI k)] [cSlo u o x1 x2 x3 x4 x5, cSta o a h, cMet a b f g σ rr rb rn, cSet f σ] (some (.int (iI (σ (5 + k.toNat))))) [cSlo u o x1 x2 x3 x4 x5, cSta o a h, cMet a b f g σ rr rb rn, cSet f σ] := by
  refine Ct.mk (cc := cX7_get) (maxL := 2) (ret := (some .int)) (plainFor_of_name (by decide)) rfl (Nat.le_of_ble_eq_true rfl) ?_
  intro p e s m below meth c A ls H locs S hr hlk hnm B hl
  have S : CallFix p m c cX7_get 2 s #[.ref u, .int (iI k)] wsX7_get RX7 := S
  have hl : lv_has ls 2 [(0, .ref u), (1, .int (iI k))] := hl
  refine z_iload_n S (pc := 0) dX7_get_0 rfl (lv_at hl 1 rfl) ?_
  refine z_callS S (pc := 1) B (wr := [cSlo u o x1 x2 x3 x4 x5, cSta o a h, cMet a b f g σ rr rb rn, cSet f σ]) (wn := fun _ => [cSlo u o x1 x2 x3 x4 x5, cSta o a h, cMet a b f g σ rr rb rn, cSet f σ]) (st1 := fun _ => [.int (iI (bI (k < 0 ∨ 6 ≤ k)))]) (As := [.int (iI k)]) (mX7_isNoSetting l E k (show inI k from by omega)) gX7_get_X7_isNoSetting 1 rfl (by decide +kernel) ⟨Nat.le_of_ble_eq_true rfl, Nat.le_of_ble_eq_true rfl, Nat.le_of_ble_eq_true rfl, Nat.le_of_ble_eq_true rfl⟩ [] [0, 1, 2, 3] [0, 1, 2, 3] rfl rfl ⟨rfl, rfl, rfl, by decide⟩ (fun _ => rfl) rfl (fun _ => rfl) hl.1 (Nat.le_of_ble_eq_true rfl) rfl dX7_get_1 (fun _ _ H locs B => ?_)
  refine z_ifeq_b S (pc := 4) (tgt := 10) dX7_get_4 rfl (fun c1 => ?_) (fun c1 => absurd c1 (by omega))
  refine z_aload_n S (pc := 10) dX7_get_10 rfl (lv_at hl 0 rfl) ?_
  refine z_get S (pc := 11) B iX7_get_X7 0 rfl rfl 0 (by decide) rfl rfl (by decide +kernel) dX7_get_11 ?_
  refine z_get S (pc := 14) B iX7_get_X6 1 rfl rfl 0 (by decide) rfl rfl (by decide +kernel) dX7_get_14 ?_
  refine z_get S (pc := 17) B iX7_get_X2 2 rfl rfl 1 (by decide) rfl rfl (by decide +kernel) dX7_get_17 ?_
  refine z_iload_n S (pc := 20) dX7_get_20 rfl (lv_at hl 1 rfl) ?_
  refine z_callV S (pc := 21) B (wr := [cSlo u o x1 x2 x3 x4 x5, cSta o a h, cMet a b f g σ rr rb rn]) (wn := fun _ => [cSlo u o x1 x2 x3 x4 x5, cSta o a h, cMet a b f g σ rr rb rn, cSet f σ]) (st1 := fun _ => [.int (iI (σ (5 + k.toNat)))]) (As := [.int (iI k)]) (mX4_valueOf l E f σ k (show 0 ≤ k ∧ k ≤ 5 from by omega)) gX7_get_X4_valueOf 1 rfl (by decide +kernel) ⟨Nat.le_of_ble_eq_true rfl, Nat.le_of_ble_eq_true rfl, Nat.le_of_ble_eq_true rfl, Nat.le_of_ble_eq_true rfl⟩ 0 rfl (q := (RX4, TX4, 6)) rfl rfl [3] [0, 1, 2] [0, 1, 2, 3] rfl rfl ⟨rfl, rfl, rfl, by decide⟩ (fun _ => rfl) rfl (fun _ => rfl) hl.1 (Nat.le_of_ble_eq_true rfl) rfl dX7_get_21 (fun _ _ H locs B => ?_)
  exact z_ireturn S hr hlk B () trivial rfl rfl (pc := 24) dX7_get_24
set_option maxHeartbeats 4000000 in
set_option maxRecDepth 100000 in
theorem mX7_get_b (l : Launch) (E : gT) (u : Nat) (o : Nat) (x1 : Nat) (x2 : Nat) (x3 : Nat) (x4 : Nat) (x5 : Nat) (k : Int) (hI : inI k) (hbad : (k < 0 ∨ 5 < k)) : Cd l E yX7_get wsX7_get 1 21 0 0 [.ref u, .int (iI k)] [cSlo u o x1 x2 x3 x4 x5] (some (.int (iI (-2)))) [cSlo u o x1 x2 x3 x4 x5] := by
  refine Ct.mk (cc := cX7_get) (maxL := 2) (ret := (some .int)) (plainFor_of_name (by decide)) rfl (Nat.le_of_ble_eq_true rfl) ?_
  intro p e s m below meth c A ls H locs S hr hlk hnm B hl
  have S : CallFix p m c cX7_get 2 s #[.ref u, .int (iI k)] wsX7_get RX7 := S
  have hl : lv_has ls 2 [(0, .ref u), (1, .int (iI k))] := hl
  refine z_iload_n S (pc := 0) dX7_get_0 rfl (lv_at hl 1 rfl) ?_
  refine z_callS S (pc := 1) B (wr := [cSlo u o x1 x2 x3 x4 x5]) (wn := fun _ => [cSlo u o x1 x2 x3 x4 x5]) (st1 := fun _ => [.int (iI (bI (k < 0 ∨ 6 ≤ k)))]) (As := [.int (iI k)]) (mX7_isNoSetting l E k (show inI k from by omega)) gX7_get_X7_isNoSetting 1 rfl (by decide +kernel) ⟨Nat.le_of_ble_eq_true rfl, Nat.le_of_ble_eq_true rfl, Nat.le_of_ble_eq_true rfl, Nat.le_of_ble_eq_true rfl⟩ [] [0] [0] rfl rfl ⟨rfl, rfl, rfl, by decide⟩ (fun _ => rfl) rfl (fun _ => rfl) hl.1 (Nat.le_of_ble_eq_true rfl) rfl dX7_get_1 (fun _ _ H locs B => ?_)
  refine z_ifeq_b S (pc := 4) (tgt := 10) dX7_get_4 rfl (fun c1 => ?_) (fun c1 => ?_)
  · exact absurd hbad (by omega)
  · refine z_bipush S (pc := 7) dX7_get_7 rfl ?_
    exact z_ireturn S hr hlk B () trivial rfl rfl (pc := 9) dX7_get_9
theorem iX7_probe_X2 : ∀ w ∈ wsX20, w ∈ wsX7_probe := by decide +kernel
theorem iX7_probe_X6 : ∀ w ∈ wsX60, w ∈ wsX7_probe := by decide +kernel
theorem iX7_probe_X7 : ∀ w ∈ wsX70, w ∈ wsX7_probe := by decide +kernel
set_option maxHeartbeats 4000000 in
set_option maxRecDepth 100000 in
theorem mX7_probe_0 (l : Launch) (E : gT) (u : Nat) (o : Nat) (x1 : Nat) (x2 : Nat) (x3 : Nat) (x4 : Nat) (x5 : Nat) (a : Nat) (b : Nat) (f : Nat) (g : Nat) (σ : Nat → Int) (ov : Int) (rr : Int) (rb : Int) (rn : Int) (h : Nat) (i : Nat) (ρ : Nat → Int) (n : Int) (hv : 0 ≤ n ∧ n ≤ 100000) (h0 : -3000000 ≤ σ 0 ∧ σ 0 ≤ 3000000) (h1 : 0 ≤ σ 1 ∧ σ 1 ≤ 1000000) (hp : inPe (σ 2)) (h3 : -100000 ≤ σ 3 ∧ σ 3 ≤ 100000) (h4 : -1000 ≤ σ 4 ∧ σ 4 ≤ 1000) (h10 : 0 ≤ σ 10 ∧ σ 10 ≤ 3) (h11 : 0 ≤ σ 11 ∧ σ 11 ≤ 2000000000) : Cd l E yX7_probe wsX7_probe 2 45 0 0 [.ref u, .int (iI n), .int (iI 0)] [cSlo u o x1 x2 x3 x4 x5, cSta o a h, cMet a b f g σ rr rb rn, cSig b σ, cSet f σ] (some (.long (iL (hum (σ 1) (σ 2) (σ 11 + n))))) [cSlo u o x1 x2 x3 x4 x5, cSta o a h, cMet a b f g σ rr rb rn, cSig b σ, cSet f σ] := by
  refine Ct.mk (cc := cX7_probe) (maxL := 5) (ret := (some .long)) (plainFor_of_name (by decide)) rfl (Nat.le_of_ble_eq_true rfl) ?_
  intro p e s m below meth c A ls H locs S hr hlk hnm B hl
  have S : CallFix p m c cX7_probe 5 s #[.ref u, .int (iI n), .int (iI 0)] wsX7_probe RX7 := S
  have hl : lv_has ls 5 [(0, .ref u), (1, .int (iI n)), (2, .int (iI 0))] := hl
  have hb := hum_bd (t := σ 11 + n) h1 hp
  refine z_iload_n S (pc := 0) dX7_probe_0 rfl (lv_at hl 1 rfl) ?_
  refine z_iconst S (pc := 1) dX7_probe_1 ?_
  refine z_ldc S (pc := 2) (x := 100000) (by decide +kernel) rfl dX7_probe_2 ?_
  refine z_callS S (pc := 4) B (wr := [cSlo u o x1 x2 x3 x4 x5, cSta o a h, cMet a b f g σ rr rb rn, cSig b σ, cSet f σ]) (wn := fun _ => [cSlo u o x1 x2 x3 x4 x5, cSta o a h, cMet a b f g σ rr rb rn, cSig b σ, cSet f σ]) (st1 := fun _ => [.int (iI (bI (n < 0 ∨ 100000 < n)))]) (As := [.int (iI n), .int (iI 0), .int (iI 100000)]) (mX7_isOutside l E n 0 100000 (show inI n ∧ inI 0 ∧ inI 100000 from by omega)) gX7_probe_X7_isOutside 3 rfl (by decide +kernel) ⟨Nat.le_of_ble_eq_true rfl, Nat.le_of_ble_eq_true rfl, Nat.le_of_ble_eq_true rfl, Nat.le_of_ble_eq_true rfl⟩ [] [0, 1, 2, 3, 4] [0, 1, 2, 3, 4] rfl rfl ⟨rfl, rfl, rfl, by decide⟩ (fun _ => rfl) rfl (fun _ => rfl) hl.1 (Nat.le_of_ble_eq_true rfl) rfl dX7_probe_4 (fun _ _ H locs B => ?_)
  refine z_ifne_b S (pc := 7) (tgt := 19) dX7_probe_7 rfl (fun c1 => absurd c1 (by omega)) (fun c1 => ?_)
  refine z_iload_n S (pc := 10) dX7_probe_10 rfl (lv_at hl 2 rfl) ?_
  refine z_iconst S (pc := 11) dX7_probe_11 ?_
  refine z_iconst S (pc := 12) dX7_probe_12 ?_
  refine z_callS S (pc := 13) B (wr := [cSlo u o x1 x2 x3 x4 x5, cSta o a h, cMet a b f g σ rr rb rn, cSig b σ, cSet f σ]) (wn := fun _ => [cSlo u o x1 x2 x3 x4 x5, cSta o a h, cMet a b f g σ rr rb rn, cSig b σ, cSet f σ]) (st1 := fun _ => [.int (iI (bI (0 < 0 ∨ 2 < 0)))]) (As := [.int (iI 0), .int (iI 0), .int (iI 2)]) (mX7_isOutside l E 0 0 2 (show inI 0 ∧ inI 0 ∧ inI 2 from by omega)) gX7_probe_X7_isOutside 3 rfl (by decide +kernel) ⟨Nat.le_of_ble_eq_true rfl, Nat.le_of_ble_eq_true rfl, Nat.le_of_ble_eq_true rfl, Nat.le_of_ble_eq_true rfl⟩ [] [0, 1, 2, 3, 4] [0, 1, 2, 3, 4] rfl rfl ⟨rfl, rfl, rfl, by decide⟩ (fun _ => rfl) rfl (fun _ => rfl) hl.1 (Nat.le_of_ble_eq_true rfl) rfl dX7_probe_13 (fun _ _ H locs B => ?_)
  refine z_ifeq_b S (pc := 16) (tgt := 23) dX7_probe_16 rfl (fun c2 => ?_) (fun c2 => absurd c2 (by omega))
  refine z_aload_n S (pc := 23) dX7_probe_23 rfl (lv_at hl 0 rfl) ?_
  refine z_get S (pc := 24) B iX7_probe_X7 0 rfl rfl 0 (by decide) rfl rfl (by decide +kernel) dX7_probe_24 ?_
  refine z_get S (pc := 27) B iX7_probe_X6 1 rfl rfl 0 (by decide) rfl rfl (by decide +kernel) dX7_probe_27 ?_
  refine z_get S (pc := 30) B iX7_probe_X2 2 rfl rfl 0 (by decide) rfl rfl (by decide +kernel) dX7_probe_30 ?_
  refine lv_astore_n (lv' := [(3, .ref b), (0, .ref u), (1, .int (iI n)), (2, .int (iI 0))]) S.1 S.2.1 (pc := 33) dX7_probe_33 rfl hl (by decide) rfl (fun ls hl => ?_)
  refine z_aload_n S (pc := 34) dX7_probe_34 rfl (lv_at hl 1 rfl) ?_
  refine z_get S (pc := 35) B iX7_probe_X7 0 rfl rfl 0 (by decide) rfl rfl (by decide +kernel) dX7_probe_35 ?_
  refine z_get S (pc := 38) B iX7_probe_X6 1 rfl rfl 0 (by decide) rfl rfl (by decide +kernel) dX7_probe_38 ?_
  refine z_get S (pc := 41) B iX7_probe_X2 2 rfl rfl 3 (by decide) rfl rfl (by decide +kernel) dX7_probe_41 ?_
  refine z_iload_n S (pc := 44) dX7_probe_44 rfl (lv_at hl 2 rfl) ?_
  refine z_iadd S (pc := 45) dX7_probe_45 ?_
  refine lv_istore (lv' := [(4, .int (iI ((σ 11) + n))), (3, .ref b), (0, .ref u), (1, .int (iI n)), (2, .int (iI 0))]) S.1 S.2.1 (pc := 46) dX7_probe_46 hl (by decide) rfl (fun ls hl => ?_)
  refine z_iload_n S (pc := 48) dX7_probe_48 rfl (lv_at hl 4 rfl) ?_
  refine z_if_ne S (pc := 49) (tgt := 60) (by omega) dX7_probe_49 rfl (fun c3 => absurd c3 (by omega)) (fun c3 => ?_)
  refine z_aload_n S (pc := 52) dX7_probe_52 rfl (lv_at hl 1 rfl) ?_
  refine z_iload S (pc := 53) dX7_probe_53 (lv_at hl 0 rfl) ?_
  refine z_callV S (pc := 55) B (wr := [cSlo u o x1 x2 x3 x4 x5, cSta o a h, cMet a b f g σ rr rb rn, cSet f σ]) (wn := fun _ => [cSlo u o x1 x2 x3 x4 x5, cSta o a h, cMet a b f g σ rr rb rn, cSig b σ, cSet f σ]) (st1 := fun _ => [.int (iI (hum (σ 1) (σ 2) ((σ 11) + n)))]) (As := [.int (iI ((σ 11) + n))]) (mX5_humAt l E b σ ((σ 11) + n) (show 0 ≤ σ 1 ∧ σ 1 ≤ 1000000 from by omega) (show inPe (σ 2) from by omega) (show 0 ≤ ((σ 11) + n) ∧ ((σ 11) + n) ≤ 2147483647 from by omega)) gX7_probe_X5_humAt 1 rfl (by decide +kernel) ⟨Nat.le_of_ble_eq_true rfl, Nat.le_of_ble_eq_true rfl, Nat.le_of_ble_eq_true rfl, Nat.le_of_ble_eq_true rfl⟩ 0 rfl (q := (RX5, TX5, 5)) rfl rfl [3] [0, 1, 2, 4] [0, 1, 2, 4, 3] rfl rfl ⟨rfl, rfl, rfl, by decide⟩ (fun _ => rfl) rfl (fun _ => rfl) hl.1 (Nat.le_of_ble_eq_true rfl) rfl dX7_probe_55 (fun _ _ H locs B => ?_)
  refine z_i2l S (pc := 58) (by omega) dX7_probe_58 ?_
  exact z_lreturn S hr hlk B () trivial rfl rfl (pc := 59) dX7_probe_59
theorem iX7_probe_X4 : ∀ w ∈ wsX40, w ∈ wsX7_probe := by decide +kernel
set_option maxHeartbeats 4000000 in
set_option maxRecDepth 100000 in
theorem mX7_probe_1 (l : Launch) (E : gT) (u : Nat) (o : Nat) (x1 : Nat) (x2 : Nat) (x3 : Nat) (x4 : Nat) (x5 : Nat) (a : Nat) (b : Nat) (f : Nat) (g : Nat) (σ : Nat → Int) (ov : Int) (rr : Int) (rb : Int) (rn : Int) (h : Nat) (i : Nat) (ρ : Nat → Int) (n : Int) (hv : 0 ≤ n ∧ n ≤ 100000) (h0 : -3000000 ≤ σ 0 ∧ σ 0 ≤ 3000000) (h1 : 0 ≤ σ 1 ∧ σ 1 ≤ 1000000) (hp : inPe (σ 2)) (h3 : -100000 ≤ σ 3 ∧ σ 3 ≤ 100000) (h4 : -1000 ≤ σ 4 ∧ σ 4 ≤ 1000) (h10 : 0 ≤ σ 10 ∧ σ 10 ≤ 3) (h11 : 0 ≤ σ 11 ∧ σ 11 ≤ 2000000000) : Cd l E yX7_probe wsX7_probe 2 45 0 0 [.ref u, .int (iI n), .int (iI 1)] [cSlo u o x1 x2 x3 x4 x5, cSta o a h, cMet a b f g σ rr rb rn, cSig b σ, cSet f σ] (some (.long (iL (inpg (σ 0) (σ 1) (σ 2) (σ 11 + n) (gn (σ 10)))))) [cSlo u o x1 x2 x3 x4 x5, cSta o a h, cMet a b f g σ rr rb rn, cSig b σ, cSet f σ] := by
  refine Ct.mk (cc := cX7_probe) (maxL := 5) (ret := (some .long)) (plainFor_of_name (by decide)) rfl (Nat.le_of_ble_eq_true rfl) ?_
  intro p e s m below meth c A ls H locs S hr hlk hnm B hl
  have S : CallFix p m c cX7_probe 5 s #[.ref u, .int (iI n), .int (iI 1)] wsX7_probe RX7 := S
  have hl : lv_has ls 5 [(0, .ref u), (1, .int (iI n)), (2, .int (iI 1))] := hl
  have hb := hum_bd (t := σ 11 + n) h1 hp
  refine z_iload_n S (pc := 0) dX7_probe_0 rfl (lv_at hl 1 rfl) ?_
  refine z_iconst S (pc := 1) dX7_probe_1 ?_
  refine z_ldc S (pc := 2) (x := 100000) (by decide +kernel) rfl dX7_probe_2 ?_
  refine z_callS S (pc := 4) B (wr := [cSlo u o x1 x2 x3 x4 x5, cSta o a h, cMet a b f g σ rr rb rn, cSig b σ, cSet f σ]) (wn := fun _ => [cSlo u o x1 x2 x3 x4 x5, cSta o a h, cMet a b f g σ rr rb rn, cSig b σ, cSet f σ]) (st1 := fun _ => [.int (iI (bI (n < 0 ∨ 100000 < n)))]) (As := [.int (iI n), .int (iI 0), .int (iI 100000)]) (mX7_isOutside l E n 0 100000 (show inI n ∧ inI 0 ∧ inI 100000 from by omega)) gX7_probe_X7_isOutside 3 rfl (by decide +kernel) ⟨Nat.le_of_ble_eq_true rfl, Nat.le_of_ble_eq_true rfl, Nat.le_of_ble_eq_true rfl, Nat.le_of_ble_eq_true rfl⟩ [] [0, 1, 2, 3, 4] [0, 1, 2, 3, 4] rfl rfl ⟨rfl, rfl, rfl, by decide⟩ (fun _ => rfl) rfl (fun _ => rfl) hl.1 (Nat.le_of_ble_eq_true rfl) rfl dX7_probe_4 (fun _ _ H locs B => ?_)
  refine z_ifne_b S (pc := 7) (tgt := 19) dX7_probe_7 rfl (fun c1 => absurd c1 (by omega)) (fun c1 => ?_)
  refine z_iload_n S (pc := 10) dX7_probe_10 rfl (lv_at hl 2 rfl) ?_
  refine z_iconst S (pc := 11) dX7_probe_11 ?_
  refine z_iconst S (pc := 12) dX7_probe_12 ?_
  refine z_callS S (pc := 13) B (wr := [cSlo u o x1 x2 x3 x4 x5, cSta o a h, cMet a b f g σ rr rb rn, cSig b σ, cSet f σ]) (wn := fun _ => [cSlo u o x1 x2 x3 x4 x5, cSta o a h, cMet a b f g σ rr rb rn, cSig b σ, cSet f σ]) (st1 := fun _ => [.int (iI (bI (1 < 0 ∨ 2 < 1)))]) (As := [.int (iI 1), .int (iI 0), .int (iI 2)]) (mX7_isOutside l E 1 0 2 (show inI 1 ∧ inI 0 ∧ inI 2 from by omega)) gX7_probe_X7_isOutside 3 rfl (by decide +kernel) ⟨Nat.le_of_ble_eq_true rfl, Nat.le_of_ble_eq_true rfl, Nat.le_of_ble_eq_true rfl, Nat.le_of_ble_eq_true rfl⟩ [] [0, 1, 2, 3, 4] [0, 1, 2, 3, 4] rfl rfl ⟨rfl, rfl, rfl, by decide⟩ (fun _ => rfl) rfl (fun _ => rfl) hl.1 (Nat.le_of_ble_eq_true rfl) rfl dX7_probe_13 (fun _ _ H locs B => ?_)
  refine z_ifeq_b S (pc := 16) (tgt := 23) dX7_probe_16 rfl (fun c2 => ?_) (fun c2 => absurd c2 (by omega))
  refine z_aload_n S (pc := 23) dX7_probe_23 rfl (lv_at hl 0 rfl) ?_
  refine z_get S (pc := 24) B iX7_probe_X7 0 rfl rfl 0 (by decide) rfl rfl (by decide +kernel) dX7_probe_24 ?_
  refine z_get S (pc := 27) B iX7_probe_X6 1 rfl rfl 0 (by decide) rfl rfl (by decide +kernel) dX7_probe_27 ?_
  refine z_get S (pc := 30) B iX7_probe_X2 2 rfl rfl 0 (by decide) rfl rfl (by decide +kernel) dX7_probe_30 ?_
  refine lv_astore_n (lv' := [(3, .ref b), (0, .ref u), (1, .int (iI n)), (2, .int (iI 1))]) S.1 S.2.1 (pc := 33) dX7_probe_33 rfl hl (by decide) rfl (fun ls hl => ?_)
  refine z_aload_n S (pc := 34) dX7_probe_34 rfl (lv_at hl 1 rfl) ?_
  refine z_get S (pc := 35) B iX7_probe_X7 0 rfl rfl 0 (by decide) rfl rfl (by decide +kernel) dX7_probe_35 ?_
  refine z_get S (pc := 38) B iX7_probe_X6 1 rfl rfl 0 (by decide) rfl rfl (by decide +kernel) dX7_probe_38 ?_
  refine z_get S (pc := 41) B iX7_probe_X2 2 rfl rfl 3 (by decide) rfl rfl (by decide +kernel) dX7_probe_41 ?_
  refine z_iload_n S (pc := 44) dX7_probe_44 rfl (lv_at hl 2 rfl) ?_
  refine z_iadd S (pc := 45) dX7_probe_45 ?_
  refine lv_istore (lv' := [(4, .int (iI ((σ 11) + n))), (3, .ref b), (0, .ref u), (1, .int (iI n)), (2, .int (iI 1))]) S.1 S.2.1 (pc := 46) dX7_probe_46 hl (by decide) rfl (fun ls hl => ?_)
  refine z_iload_n S (pc := 48) dX7_probe_48 rfl (lv_at hl 4 rfl) ?_
  refine z_if_ne S (pc := 49) (tgt := 60) (by omega) dX7_probe_49 rfl (fun c3 => ?_) (fun c3 => absurd c3 (by omega))
  refine z_iload_n S (pc := 60) dX7_probe_60 rfl (lv_at hl 4 rfl) ?_
  refine z_iconst S (pc := 61) dX7_probe_61 ?_
  refine z_icmp_ne S (pc := 62) (tgt := 88) (by omega) (by omega) dX7_probe_62 rfl (fun c4 => absurd c4 (by omega)) (fun c4 => ?_)
  refine z_aload_n S (pc := 65) dX7_probe_65 rfl (lv_at hl 1 rfl) ?_
  refine z_iload S (pc := 66) dX7_probe_66 (lv_at hl 0 rfl) ?_
  refine z_aload_n S (pc := 68) dX7_probe_68 rfl (lv_at hl 2 rfl) ?_
  refine z_get S (pc := 69) B iX7_probe_X7 0 rfl rfl 0 (by decide) rfl rfl (by decide +kernel) dX7_probe_69 ?_
  refine z_get S (pc := 72) B iX7_probe_X6 1 rfl rfl 0 (by decide) rfl rfl (by decide +kernel) dX7_probe_72 ?_
  refine z_get S (pc := 75) B iX7_probe_X2 2 rfl rfl 1 (by decide) rfl rfl (by decide +kernel) dX7_probe_75 ?_
  refine z_get S (pc := 78) B iX7_probe_X4 4 rfl rfl 5 (by decide) rfl rfl (by decide +kernel) dX7_probe_78 ?_
  refine z_callS S (pc := 81) B (wr := [cSlo u o x1 x2 x3 x4 x5, cSta o a h, cMet a b f g σ rr rb rn, cSig b σ, cSet f σ]) (wn := fun _ => [cSlo u o x1 x2 x3 x4 x5, cSta o a h, cMet a b f g σ rr rb rn, cSig b σ, cSet f σ]) (st1 := fun _ => [.int (iI (gnS (σ 10))), .int (iI ((σ 11) + n)), .ref b]) (As := [.int (iI (σ 10))]) (mX7_gainOf l E (σ 10) (show inI (σ 10) from by omega)) gX7_probe_X7_gainOf 1 rfl (by decide +kernel) ⟨Nat.le_of_ble_eq_true rfl, Nat.le_of_ble_eq_true rfl, Nat.le_of_ble_eq_true rfl, Nat.le_of_ble_eq_true rfl⟩ [] [0, 1, 2, 3, 4] [0, 1, 2, 3, 4] rfl rfl ⟨rfl, rfl, rfl, by decide⟩ (fun _ => rfl) rfl (fun _ => rfl) hl.1 (Nat.le_of_ble_eq_true rfl) rfl dX7_probe_81 (fun _ _ H locs B => ?_)
  rw [gnS_gn (x := σ 10) (by omega)]
  have hg := gn_bd (σ 10)
  refine z_callV S (pc := 84) B (wr := [cSlo u o x1 x2 x3 x4 x5, cSta o a h, cMet a b f g σ rr rb rn, cSet f σ]) (wn := fun _ => [cSlo u o x1 x2 x3 x4 x5, cSta o a h, cMet a b f g σ rr rb rn, cSig b σ, cSet f σ]) (st1 := fun _ => [.long (iL (inpg (σ 0) (σ 1) (σ 2) ((σ 11) + n) (gn (σ 10))))]) (As := [.int (iI ((σ 11) + n)), .int (iI (gn (σ 10)))]) (mX5_inputAt l E b σ ((σ 11) + n) (gn (σ 10)) (show -4000000 ≤ σ 0 ∧ σ 0 ≤ 4000000 from by omega) (show 0 ≤ σ 1 ∧ σ 1 ≤ 1000000 from by omega) (show inPe (σ 2) from by omega) (show 0 ≤ ((σ 11) + n) ∧ ((σ 11) + n) ≤ 2147483647 from by omega) (show 0 ≤ (gn (σ 10)) ∧ (gn (σ 10)) ≤ 1000 from by omega)) gX7_probe_X5_inputAt 2 rfl (by decide +kernel) ⟨Nat.le_of_ble_eq_true rfl, Nat.le_of_ble_eq_true rfl, Nat.le_of_ble_eq_true rfl, Nat.le_of_ble_eq_true rfl⟩ 0 rfl (q := (RX5, TX5, 5)) rfl rfl [3] [0, 1, 2, 4] [0, 1, 2, 4, 3] rfl rfl ⟨rfl, rfl, rfl, by decide⟩ (fun _ => rfl) rfl (fun _ => rfl) hl.1 (Nat.le_of_ble_eq_true rfl) rfl dX7_probe_84 (fun _ _ H locs B => ?_)
  exact z_lreturn S hr hlk B () trivial rfl rfl (pc := 87) dX7_probe_87
set_option maxHeartbeats 4000000 in
set_option maxRecDepth 100000 in
theorem mX7_probe_2 (l : Launch) (E : gT) (u : Nat) (o : Nat) (x1 : Nat) (x2 : Nat) (x3 : Nat) (x4 : Nat) (x5 : Nat) (a : Nat) (b : Nat) (f : Nat) (g : Nat) (σ : Nat → Int) (ov : Int) (rr : Int) (rb : Int) (rn : Int) (h : Nat) (i : Nat) (ρ : Nat → Int) (n : Int) (hv : 0 ≤ n ∧ n ≤ 100000) (h0 : -3000000 ≤ σ 0 ∧ σ 0 ≤ 3000000) (h1 : 0 ≤ σ 1 ∧ σ 1 ≤ 1000000) (hp : inPe (σ 2)) (h3 : -100000 ≤ σ 3 ∧ σ 3 ≤ 100000) (h4 : -1000 ≤ σ 4 ∧ σ 4 ≤ 1000) (h10 : 0 ≤ σ 10 ∧ σ 10 ≤ 3) (h11 : 0 ≤ σ 11 ∧ σ 11 ≤ 2000000000) : Cd l E yX7_probe wsX7_probe 2 45 0 0 [.ref u, .int (iI n), .int (iI 2)] [cSlo u o x1 x2 x3 x4 x5, cSta o a h, cMet a b f g σ rr rb rn, cSig b σ, cSet f σ] (some (.long (iL (offs (σ 3) (σ 4) (σ 11 + n))))) [cSlo u o x1 x2 x3 x4 x5, cSta o a h, cMet a b f g σ rr rb rn, cSig b σ, cSet f σ] := by
  refine Ct.mk (cc := cX7_probe) (maxL := 5) (ret := (some .long)) (plainFor_of_name (by decide)) rfl (Nat.le_of_ble_eq_true rfl) ?_
  intro p e s m below meth c A ls H locs S hr hlk hnm B hl
  have S : CallFix p m c cX7_probe 5 s #[.ref u, .int (iI n), .int (iI 2)] wsX7_probe RX7 := S
  have hl : lv_has ls 5 [(0, .ref u), (1, .int (iI n)), (2, .int (iI 2))] := hl
  have hb := hum_bd (t := σ 11 + n) h1 hp
  refine z_iload_n S (pc := 0) dX7_probe_0 rfl (lv_at hl 1 rfl) ?_
  refine z_iconst S (pc := 1) dX7_probe_1 ?_
  refine z_ldc S (pc := 2) (x := 100000) (by decide +kernel) rfl dX7_probe_2 ?_
  refine z_callS S (pc := 4) B (wr := [cSlo u o x1 x2 x3 x4 x5, cSta o a h, cMet a b f g σ rr rb rn, cSig b σ, cSet f σ]) (wn := fun _ => [cSlo u o x1 x2 x3 x4 x5, cSta o a h, cMet a b f g σ rr rb rn, cSig b σ, cSet f σ]) (st1 := fun _ => [.int (iI (bI (n < 0 ∨ 100000 < n)))]) (As := [.int (iI n), .int (iI 0), .int (iI 100000)]) (mX7_isOutside l E n 0 100000 (show inI n ∧ inI 0 ∧ inI 100000 from by omega)) gX7_probe_X7_isOutside 3 rfl (by decide +kernel) ⟨Nat.le_of_ble_eq_true rfl, Nat.le_of_ble_eq_true rfl, Nat.le_of_ble_eq_true rfl, Nat.le_of_ble_eq_true rfl⟩ [] [0, 1, 2, 3, 4] [0, 1, 2, 3, 4] rfl rfl ⟨rfl, rfl, rfl, by decide⟩ (fun _ => rfl) rfl (fun _ => rfl) hl.1 (Nat.le_of_ble_eq_true rfl) rfl dX7_probe_4 (fun _ _ H locs B => ?_)
  refine z_ifne_b S (pc := 7) (tgt := 19) dX7_probe_7 rfl (fun c1 => absurd c1 (by omega)) (fun c1 => ?_)
  refine z_iload_n S (pc := 10) dX7_probe_10 rfl (lv_at hl 2 rfl) ?_
  refine z_iconst S (pc := 11) dX7_probe_11 ?_
  refine z_iconst S (pc := 12) dX7_probe_12 ?_
  refine z_callS S (pc := 13) B (wr := [cSlo u o x1 x2 x3 x4 x5, cSta o a h, cMet a b f g σ rr rb rn, cSig b σ, cSet f σ]) (wn := fun _ => [cSlo u o x1 x2 x3 x4 x5, cSta o a h, cMet a b f g σ rr rb rn, cSig b σ, cSet f σ]) (st1 := fun _ => [.int (iI (bI (2 < 0 ∨ 2 < 2)))]) (As := [.int (iI 2), .int (iI 0), .int (iI 2)]) (mX7_isOutside l E 2 0 2 (show inI 2 ∧ inI 0 ∧ inI 2 from by omega)) gX7_probe_X7_isOutside 3 rfl (by decide +kernel) ⟨Nat.le_of_ble_eq_true rfl, Nat.le_of_ble_eq_true rfl, Nat.le_of_ble_eq_true rfl, Nat.le_of_ble_eq_true rfl⟩ [] [0, 1, 2, 3, 4] [0, 1, 2, 3, 4] rfl rfl ⟨rfl, rfl, rfl, by decide⟩ (fun _ => rfl) rfl (fun _ => rfl) hl.1 (Nat.le_of_ble_eq_true rfl) rfl dX7_probe_13 (fun _ _ H locs B => ?_)
  refine z_ifeq_b S (pc := 16) (tgt := 23) dX7_probe_16 rfl (fun c2 => ?_) (fun c2 => absurd c2 (by omega))
  refine z_aload_n S (pc := 23) dX7_probe_23 rfl (lv_at hl 0 rfl) ?_
  refine z_get S (pc := 24) B iX7_probe_X7 0 rfl rfl 0 (by decide) rfl rfl (by decide +kernel) dX7_probe_24 ?_
  refine z_get S (pc := 27) B iX7_probe_X6 1 rfl rfl 0 (by decide) rfl rfl (by decide +kernel) dX7_probe_27 ?_
  refine z_get S (pc := 30) B iX7_probe_X2 2 rfl rfl 0 (by decide) rfl rfl (by decide +kernel) dX7_probe_30 ?_
  refine lv_astore_n (lv' := [(3, .ref b), (0, .ref u), (1, .int (iI n)), (2, .int (iI 2))]) S.1 S.2.1 (pc := 33) dX7_probe_33 rfl hl (by decide) rfl (fun ls hl => ?_)
  refine z_aload_n S (pc := 34) dX7_probe_34 rfl (lv_at hl 1 rfl) ?_
  refine z_get S (pc := 35) B iX7_probe_X7 0 rfl rfl 0 (by decide) rfl rfl (by decide +kernel) dX7_probe_35 ?_
  refine z_get S (pc := 38) B iX7_probe_X6 1 rfl rfl 0 (by decide) rfl rfl (by decide +kernel) dX7_probe_38 ?_
  refine z_get S (pc := 41) B iX7_probe_X2 2 rfl rfl 3 (by decide) rfl rfl (by decide +kernel) dX7_probe_41 ?_
  refine z_iload_n S (pc := 44) dX7_probe_44 rfl (lv_at hl 2 rfl) ?_
  refine z_iadd S (pc := 45) dX7_probe_45 ?_
  refine lv_istore (lv' := [(4, .int (iI ((σ 11) + n))), (3, .ref b), (0, .ref u), (1, .int (iI n)), (2, .int (iI 2))]) S.1 S.2.1 (pc := 46) dX7_probe_46 hl (by decide) rfl (fun ls hl => ?_)
  refine z_iload_n S (pc := 48) dX7_probe_48 rfl (lv_at hl 4 rfl) ?_
  refine z_if_ne S (pc := 49) (tgt := 60) (by omega) dX7_probe_49 rfl (fun c3 => ?_) (fun c3 => absurd c3 (by omega))
  refine z_iload_n S (pc := 60) dX7_probe_60 rfl (lv_at hl 4 rfl) ?_
  refine z_iconst S (pc := 61) dX7_probe_61 ?_
  refine z_icmp_ne S (pc := 62) (tgt := 88) (by omega) (by omega) dX7_probe_62 rfl (fun c4 => ?_) (fun c4 => absurd c4 (by omega))
  refine z_aload_n S (pc := 88) dX7_probe_88 rfl (lv_at hl 1 rfl) ?_
  refine z_iload S (pc := 89) dX7_probe_89 (lv_at hl 0 rfl) ?_
  refine z_callV S (pc := 91) B (wr := [cSlo u o x1 x2 x3 x4 x5, cSta o a h, cMet a b f g σ rr rb rn, cSet f σ]) (wn := fun _ => [cSlo u o x1 x2 x3 x4 x5, cSta o a h, cMet a b f g σ rr rb rn, cSig b σ, cSet f σ]) (st1 := fun _ => [.long (iL (offs (σ 3) (σ 4) ((σ 11) + n)))]) (As := [.int (iI ((σ 11) + n))]) (mX5_offsetAt l E b σ ((σ 11) + n) (show -100000 ≤ σ 3 ∧ σ 3 ≤ 100000 from by omega) (show -1000 ≤ σ 4 ∧ σ 4 ≤ 1000 from by omega) (show 0 ≤ ((σ 11) + n) ∧ ((σ 11) + n) ≤ 2147483647 from by omega)) gX7_probe_X5_offsetAt 1 rfl (by decide +kernel) ⟨Nat.le_of_ble_eq_true rfl, Nat.le_of_ble_eq_true rfl, Nat.le_of_ble_eq_true rfl, Nat.le_of_ble_eq_true rfl⟩ 0 rfl (q := (RX5, TX5, 5)) rfl rfl [3] [0, 1, 2, 4] [0, 1, 2, 4, 3] rfl rfl ⟨rfl, rfl, rfl, by decide⟩ (fun _ => rfl) rfl (fun _ => rfl) hl.1 (Nat.le_of_ble_eq_true rfl) rfl dX7_probe_91 (fun _ _ H locs B => ?_)
  exact z_lreturn S hr hlk B () trivial rfl rfl (pc := 94) dX7_probe_94
set_option maxHeartbeats 4000000 in
set_option maxRecDepth 100000 in
theorem mX7_probe_b (l : Launch) (E : gT) (u : Nat) (o : Nat) (x1 : Nat) (x2 : Nat) (x3 : Nat) (x4 : Nat) (x5 : Nat) (n : Int) (k : Int) (hI : inI n ∧ inI k) (hbad : (n < 0 ∨ 100000 < n ∨ k < 0 ∨ 2 < k)) : Cd l E yX7_probe wsX7_probe 2 45 0 0 [.ref u, .int (iI n), .int (iI k)] [cSlo u o x1 x2 x3 x4 x5] (some (.long (iL (-1000000000000000002)))) [cSlo u o x1 x2 x3 x4 x5] := by
  refine Ct.mk (cc := cX7_probe) (maxL := 5) (ret := (some .long)) (plainFor_of_name (by decide)) rfl (Nat.le_of_ble_eq_true rfl) ?_
  intro p e s m below meth c A ls H locs S hr hlk hnm B hl
  have S : CallFix p m c cX7_probe 5 s #[.ref u, .int (iI n), .int (iI k)] wsX7_probe RX7 := S
  have hl : lv_has ls 5 [(0, .ref u), (1, .int (iI n)), (2, .int (iI k))] := hl
  refine z_iload_n S (pc := 0) dX7_probe_0 rfl (lv_at hl 1 rfl) ?_
  refine z_iconst S (pc := 1) dX7_probe_1 ?_
  refine z_ldc S (pc := 2) (x := 100000) (by decide +kernel) rfl dX7_probe_2 ?_
  refine z_callS S (pc := 4) B (wr := [cSlo u o x1 x2 x3 x4 x5]) (wn := fun _ => [cSlo u o x1 x2 x3 x4 x5]) (st1 := fun _ => [.int (iI (bI (n < 0 ∨ 100000 < n)))]) (As := [.int (iI n), .int (iI 0), .int (iI 100000)]) (mX7_isOutside l E n 0 100000 (show inI n ∧ inI 0 ∧ inI 100000 from by omega)) gX7_probe_X7_isOutside 3 rfl (by decide +kernel) ⟨Nat.le_of_ble_eq_true rfl, Nat.le_of_ble_eq_true rfl, Nat.le_of_ble_eq_true rfl, Nat.le_of_ble_eq_true rfl⟩ [] [0] [0] rfl rfl ⟨rfl, rfl, rfl, by decide⟩ (fun _ => rfl) rfl (fun _ => rfl) hl.1 (Nat.le_of_ble_eq_true rfl) rfl dX7_probe_4 (fun _ _ H locs B => ?_)
  refine z_ifne_b S (pc := 7) (tgt := 19) dX7_probe_7 rfl (fun c1 => ?_) (fun c1 => ?_)
  · refine z_ldc2 S (pc := 19) (x := (-1000000000000000002)) (by decide +kernel) rfl dX7_probe_19 ?_
    exact z_lreturn S hr hlk B () trivial rfl rfl (pc := 22) dX7_probe_22
  · refine z_iload_n S (pc := 10) dX7_probe_10 rfl (lv_at hl 2 rfl) ?_
    refine z_iconst S (pc := 11) dX7_probe_11 ?_
    refine z_iconst S (pc := 12) dX7_probe_12 ?_
    refine z_callS S (pc := 13) B (wr := [cSlo u o x1 x2 x3 x4 x5]) (wn := fun _ => [cSlo u o x1 x2 x3 x4 x5]) (st1 := fun _ => [.int (iI (bI (k < 0 ∨ 2 < k)))]) (As := [.int (iI k), .int (iI 0), .int (iI 2)]) (mX7_isOutside l E k 0 2 (show inI k ∧ inI 0 ∧ inI 2 from by omega)) gX7_probe_X7_isOutside 3 rfl (by decide +kernel) ⟨Nat.le_of_ble_eq_true rfl, Nat.le_of_ble_eq_true rfl, Nat.le_of_ble_eq_true rfl, Nat.le_of_ble_eq_true rfl⟩ [] [0] [0] rfl rfl ⟨rfl, rfl, rfl, by decide⟩ (fun _ => rfl) rfl (fun _ => rfl) hl.1 (Nat.le_of_ble_eq_true rfl) rfl dX7_probe_13 (fun _ _ H locs B => ?_)
    refine z_ifeq_b S (pc := 16) (tgt := 23) dX7_probe_16 rfl (fun c2 => ?_) (fun c2 => ?_)
    · exact absurd hbad (by omega)
    · refine z_ldc2 S (pc := 19) (x := (-1000000000000000002)) (by decide +kernel) rfl dX7_probe_19 ?_
      exact z_lreturn S hr hlk B () trivial rfl rfl (pc := 22) dX7_probe_22
theorem iX7_read_X1 : ∀ w ∈ wsX10, w ∈ wsX7_read := by decide +kernel
theorem iX7_read_X6 : ∀ w ∈ wsX60, w ∈ wsX7_read := by decide +kernel
theorem iX7_read_X7 : ∀ w ∈ wsX70, w ∈ wsX7_read := by decide +kernel
set_option maxHeartbeats 4000000 in
set_option maxRecDepth 100000 in
theorem mX7_read (l : Launch) (E : gT) (u : Nat) (o : Nat) (x1 : Nat) (x2 : Nat) (x3 : Nat) (x4 : Nat) (x5 : Nat) (a : Nat) (b : Nat) (f : Nat) (g : Nat) (σ : Nat → Int) (ov : Int) (rr : Int) (rb : Int) (rn : Int) (h : Nat) (i : Nat) (ρ : Nat → Int) (hs : Sets σ) (hn : Nums σ) (h11 : 0 ≤ σ 11 ∧ σ 11 ≤ 2000000000) (hr0 : σ 14 < 10000) : Cd l E yX7_read wsX7_read 6 137 0 0 [.ref u] [cSlo u o x1 x2 x3 x4 x5, cSta o a h, cMet a b f g σ rr rb rn, cSig b σ, cSet f σ, cCon g σ ov, cLog h i σ, cRow E i ρ] (some (.long (iL (val0 (rz σ))))) [cSlo u o x1 x2 x3 x4 x5, cSta o a h, cMet a b f g (rdS σ) (rz σ 10) (rz σ 11) (net0 (rz σ)), cSig b (rdS σ), cSet f (rdS σ), cCon g (rdS σ) (ov0 (rz σ)), cLog h i (rdS σ), cRow E i (rowS σ ρ)] := by
  refine Ct.mk (cc := cX7_read) (maxL := 1) (ret := (some .long)) (plainFor_of_name (by decide)) rfl (Nat.le_of_ble_eq_true rfl) ?_
  intro p e s m below meth c A ls H locs S hr hlk hnm B hl
  have S : CallFix p m c cX7_read 1 s #[.ref u] wsX7_read RX7 := S
  have hl : lv_has ls 1 [(0, .ref u)] := hl
  obtain ⟨n12, n13, n14, nrest⟩ := id hn
  refine z_aload_n S (pc := 0) dX7_read_0 rfl (lv_at hl 0 rfl) ?_
  refine z_get S (pc := 1) B iX7_read_X7 0 rfl rfl 0 (by decide) rfl rfl (by decide +kernel) dX7_read_1 ?_
  refine z_get S (pc := 4) B iX7_read_X6 1 rfl rfl 1 (by decide) rfl rfl (by decide +kernel) dX7_read_4 ?_
  refine z_get S (pc := 7) B iX7_read_X1 6 rfl rfl 1 (by decide) rfl rfl (by decide +kernel) dX7_read_7 ?_
  refine z_sipush S (pc := 10) dX7_read_10 rfl ?_
  refine z_icmp_lt S (pc := 13) (tgt := 20) (by omega) (by omega) dX7_read_13 rfl (fun c1 => ?_) (fun c1 => absurd c1 (by omega))
  refine z_aload_n S (pc := 20) dX7_read_20 rfl (lv_at hl 0 rfl) ?_
  refine z_get S (pc := 21) B iX7_read_X7 0 rfl rfl 0 (by decide) rfl rfl (by decide +kernel) dX7_read_21 ?_
  refine z_callV S (pc := 24) B (wr := [cSlo u o x1 x2 x3 x4 x5]) (wn := fun _ => [cSlo u o x1 x2 x3 x4 x5, cSta o a h, cMet a b f g (rdS σ) (rz σ 10) (rz σ 11) (net0 (rz σ)), cSig b (rdS σ), cSet f (rdS σ), cCon g (rdS σ) (ov0 (rz σ)), cLog h i (rdS σ), cRow E i (rowS σ ρ)]) (st1 := fun _ => [.long (iL (val0 (rz σ)))]) (As := []) (mX6_makeReading l E o a b f g σ ov rr rb rn h i ρ (show Sets σ from by assumption) (show Nums σ from by assumption) (show 0 ≤ σ 11 ∧ σ 11 ≤ 2000000000 from by omega)) gX7_read_X6_makeReading 0 rfl (by decide +kernel) ⟨Nat.le_of_ble_eq_true rfl, Nat.le_of_ble_eq_true rfl, Nat.le_of_ble_eq_true rfl, Nat.le_of_ble_eq_true rfl⟩ 0 rfl (q := (RX6, TX6, 2)) rfl rfl [1, 2, 3, 4, 5, 6, 7] [0] [0, 1, 2, 3, 4, 5, 6, 7] rfl rfl ⟨rfl, rfl, rfl, by decide⟩ (fun _ => rfl) rfl (fun _ => rfl) hl.1 (Nat.le_of_ble_eq_true rfl) rfl dX7_read_24 (fun _ _ H locs B => ?_)
  exact z_lreturn S hr hlk B () trivial rfl rfl (pc := 27) dX7_read_27
set_option maxHeartbeats 4000000 in
set_option maxRecDepth 100000 in
theorem mX7_read_m (l : Launch) (E : gT) (u : Nat) (o : Nat) (x1 : Nat) (x2 : Nat) (x3 : Nat) (x4 : Nat) (x5 : Nat) (a : Nat) (b : Nat) (f : Nat) (g : Nat) (σ : Nat → Int) (ov : Int) (rr : Int) (rb : Int) (rn : Int) (h : Nat) (i : Nat) (ρ : Nat → Int) (hr0 : 10000 ≤ σ 14 ∧ σ 14 ≤ 20000) : Cd l E yX7_read wsX7_read 6 137 0 0 [.ref u] [cSlo u o x1 x2 x3 x4 x5, cSta o a h, cLog h i σ] (some (.long (iL (-1000000000000000004)))) [cSlo u o x1 x2 x3 x4 x5, cSta o a h, cLog h i σ] := by
  refine Ct.mk (cc := cX7_read) (maxL := 1) (ret := (some .long)) (plainFor_of_name (by decide)) rfl (Nat.le_of_ble_eq_true rfl) ?_
  intro p e s m below meth c A ls H locs S hr hlk hnm B hl
  have S : CallFix p m c cX7_read 1 s #[.ref u] wsX7_read RX7 := S
  have hl : lv_has ls 1 [(0, .ref u)] := hl
  refine z_aload_n S (pc := 0) dX7_read_0 rfl (lv_at hl 0 rfl) ?_
  refine z_get S (pc := 1) B iX7_read_X7 0 rfl rfl 0 (by decide) rfl rfl (by decide +kernel) dX7_read_1 ?_
  refine z_get S (pc := 4) B iX7_read_X6 1 rfl rfl 1 (by decide) rfl rfl (by decide +kernel) dX7_read_4 ?_
  refine z_get S (pc := 7) B iX7_read_X1 2 rfl rfl 1 (by decide) rfl rfl (by decide +kernel) dX7_read_7 ?_
  refine z_sipush S (pc := 10) dX7_read_10 rfl ?_
  refine z_icmp_lt S (pc := 13) (tgt := 20) (by omega) (by omega) dX7_read_13 rfl (fun c1 => absurd c1 (by omega)) (fun c1 => ?_)
  refine z_ldc2 S (pc := 16) (x := (-1000000000000000004)) (by decide +kernel) rfl dX7_read_16 ?_
  exact z_lreturn S hr hlk B () trivial rfl rfl (pc := 19) dX7_read_19
theorem iX7_zero_X2 : ∀ w ∈ wsX20, w ∈ wsX7_zero := by decide +kernel
theorem iX7_zero_X6 : ∀ w ∈ wsX60, w ∈ wsX7_zero := by decide +kernel
theorem iX7_zero_X7 : ∀ w ∈ wsX70, w ∈ wsX7_zero := by decide +kernel
set_option maxHeartbeats 4000000 in
set_option maxRecDepth 100000 in
theorem mX7_zero (l : Launch) (E : gT) (u : Nat) (o : Nat) (x1 : Nat) (x2 : Nat) (x3 : Nat) (x4 : Nat) (x5 : Nat) (a : Nat) (b : Nat) (f : Nat) (g : Nat) (σ : Nat → Int) (ov : Int) (rr : Int) (rb : Int) (rn : Int) (h : Nat) (i : Nat) (ρ : Nat → Int) (hs : Sets σ) (h11 : 0 ≤ σ 11 ∧ σ 11 ≤ 2000000000) : Cd l E yX7_zero wsX7_zero 4 90 0 0 [.ref u] [cSlo u o x1 x2 x3 x4 x5, cSta o a h, cMet a b f g σ rr rb rn, cSig b σ, cSet f σ, cCon g σ ov] (some (.int (iI (cnt σ 0 + 10000000)))) [cSlo u o x1 x2 x3 x4 x5, cSta o a h, (a, .inr (2, [.ref b, .ref f, .ref g, .int (iI ((cvt σ 0) 11)), .int (iI (cnt σ 0)), .int (iI (σ 13)), .int (iI rr), .int (iI rb), .long (iL rn)])), cSig b σ, cSet f σ, cCon g (cvt σ 0) (ovr σ 0)] := by
  refine Ct.mk (cc := cX7_zero) (maxL := 1) (ret := (some .int)) (plainFor_of_name (by decide)) rfl (Nat.le_of_ble_eq_true rfl) ?_
  intro p e s m below meth c A ls H locs S hr hlk hnm B hl
  have S : CallFix p m c cX7_zero 1 s #[.ref u] wsX7_zero RX7 := S
  have hl : lv_has ls 1 [(0, .ref u)] := hl
  refine z_aload_n S (pc := 0) dX7_zero_0 rfl (lv_at hl 0 rfl) ?_
  refine z_get S (pc := 1) B iX7_zero_X7 0 rfl rfl 0 (by decide) rfl rfl (by decide +kernel) dX7_zero_1 ?_
  refine z_get S (pc := 4) B iX7_zero_X6 1 rfl rfl 0 (by decide) rfl rfl (by decide +kernel) dX7_zero_4 ?_
  refine z_callV S (pc := 7) B (wr := [cSlo u o x1 x2 x3 x4 x5, cSta o a h]) (wn := fun _ => [cSlo u o x1 x2 x3 x4 x5, cSta o a h, (a, .inr (2, [.ref b, .ref f, .ref g, .int (iI ((cvt σ 0) 11)), .int (iI (cnt σ 0)), .int (iI (σ 13)), .int (iI rr), .int (iI rb), .long (iL rn)])), cSig b σ, cSet f σ, cCon g (cvt σ 0) (ovr σ 0)]) (st1 := fun _ => []) (As := []) (mX2_convertZero l E a b f g σ ov rr rb rn (show Sets σ from by assumption) (show 0 ≤ σ 11 ∧ σ 11 ≤ 2100000000 from by omega)) gX7_zero_X2_convertZero 0 rfl (by decide +kernel) ⟨Nat.le_of_ble_eq_true rfl, Nat.le_of_ble_eq_true rfl, Nat.le_of_ble_eq_true rfl, Nat.le_of_ble_eq_true rfl⟩ 0 rfl (q := (RX2, TX2, 9)) rfl rfl [2, 3, 4, 5] [0, 1] [0, 1, 2, 3, 4, 5] rfl rfl ⟨rfl, rfl, rfl, by decide⟩ (fun _ => rfl) rfl (fun _ => rfl) hl.1 (Nat.le_of_ble_eq_true rfl) rfl dX7_zero_7 (fun _ _ H locs B => ?_)
  refine z_aload_n S (pc := 10) dX7_zero_10 rfl (lv_at hl 0 rfl) ?_
  refine z_get S (pc := 11) B iX7_zero_X7 0 rfl rfl 0 (by decide) rfl rfl (by decide +kernel) dX7_zero_11 ?_
  refine z_get S (pc := 14) B iX7_zero_X6 1 rfl rfl 0 (by decide) rfl rfl (by decide +kernel) dX7_zero_14 ?_
  refine z_get S (pc := 17) B iX7_zero_X2 2 rfl rfl 4 (by decide) rfl rfl (by decide +kernel) dX7_zero_17 ?_
  refine z_ldc S (pc := 20) (x := 10000000) (by decide +kernel) rfl dX7_zero_20 ?_
  refine z_iadd S (pc := 22) dX7_zero_22 ?_
  exact z_ireturn S hr hlk B () trivial rfl rfl (pc := 23) dX7_zero_23
theorem iX7_pass_X2 : ∀ w ∈ wsX20, w ∈ wsX7_pass := by decide +kernel
theorem iX7_pass_X6 : ∀ w ∈ wsX60, w ∈ wsX7_pass := by decide +kernel
theorem iX7_pass_X7 : ∀ w ∈ wsX70, w ∈ wsX7_pass := by decide +kernel
set_option maxHeartbeats 4000000 in
set_option maxRecDepth 100000 in
theorem mX7_pass (l : Launch) (E : gT) (u : Nat) (o : Nat) (x1 : Nat) (x2 : Nat) (x3 : Nat) (x4 : Nat) (x5 : Nat) (a : Nat) (b : Nat) (f : Nat) (g : Nat) (σ : Nat → Int) (ov : Int) (rr : Int) (rb : Int) (rn : Int) (h : Nat) (i : Nat) (ρ : Nat → Int) (n : Int) (hv : 1 ≤ n ∧ n ≤ 100000) (h11 : 0 ≤ σ 11 ∧ σ 11 ≤ 2000000000) (hw : σ 11 + n ≤ 1000000000) : Cd l E yX7_pass wsX7_pass 1 22 0 0 [.ref u, .int (iI n)] [cSlo u o x1 x2 x3 x4 x5, cSta o a h, cMet a b f g σ rr rb rn] (some (.int (iI (σ 11 + n)))) [cSlo u o x1 x2 x3 x4 x5, cSta o a h, (a, .inr (2, [.ref b, .ref f, .ref g, .int (iI (σ 11 + n)), .int (iI (σ 12)), .int (iI (σ 13)), .int (iI rr), .int (iI rb), .long (iL rn)]))] := by
  refine Ct.mk (cc := cX7_pass) (maxL := 2) (ret := (some .int)) (plainFor_of_name (by decide)) rfl (Nat.le_of_ble_eq_true rfl) ?_
  intro p e s m below meth c A ls H locs S hr hlk hnm B hl
  have S : CallFix p m c cX7_pass 2 s #[.ref u, .int (iI n)] wsX7_pass RX7 := S
  have hl : lv_has ls 2 [(0, .ref u), (1, .int (iI n))] := hl
  refine z_iload_n S (pc := 0) dX7_pass_0 rfl (lv_at hl 1 rfl) ?_
  refine z_iconst S (pc := 1) dX7_pass_1 ?_
  refine z_ldc S (pc := 2) (x := 100000) (by decide +kernel) rfl dX7_pass_2 ?_
  refine z_callS S (pc := 4) B (wr := [cSlo u o x1 x2 x3 x4 x5, cSta o a h, cMet a b f g σ rr rb rn]) (wn := fun _ => [cSlo u o x1 x2 x3 x4 x5, cSta o a h, cMet a b f g σ rr rb rn]) (st1 := fun _ => [.int (iI (bI (n < 1 ∨ 100000 < n)))]) (As := [.int (iI n), .int (iI 1), .int (iI 100000)]) (mX7_isOutside l E n 1 100000 (show inI n ∧ inI 1 ∧ inI 100000 from by omega)) gX7_pass_X7_isOutside 3 rfl (by decide +kernel) ⟨Nat.le_of_ble_eq_true rfl, Nat.le_of_ble_eq_true rfl, Nat.le_of_ble_eq_true rfl, Nat.le_of_ble_eq_true rfl⟩ [] [0, 1, 2] [0, 1, 2] rfl rfl ⟨rfl, rfl, rfl, by decide⟩ (fun _ => rfl) rfl (fun _ => rfl) hl.1 (Nat.le_of_ble_eq_true rfl) rfl dX7_pass_4 (fun _ _ H locs B => ?_)
  refine z_ifeq_b S (pc := 7) (tgt := 13) dX7_pass_7 rfl (fun c1 => ?_) (fun c1 => absurd c1 (by omega))
  refine z_aload_n S (pc := 13) dX7_pass_13 rfl (lv_at hl 0 rfl) ?_
  refine z_get S (pc := 14) B iX7_pass_X7 0 rfl rfl 0 (by decide) rfl rfl (by decide +kernel) dX7_pass_14 ?_
  refine z_get S (pc := 17) B iX7_pass_X6 1 rfl rfl 0 (by decide) rfl rfl (by decide +kernel) dX7_pass_17 ?_
  refine z_iload_n S (pc := 20) dX7_pass_20 rfl (lv_at hl 1 rfl) ?_
  refine z_callV S (pc := 21) B (wr := [cSlo u o x1 x2 x3 x4 x5, cSta o a h]) (wn := fun _ => [cSlo u o x1 x2 x3 x4 x5, cSta o a h, cMet a b f g σ rr rb rn]) (st1 := fun _ => [.int (iI (bI (σ 11 + n ≤ 1000000000)))]) (As := [.int (iI n)]) (mX2_canWait l E a b f g σ ov rr rb rn n (show 0 ≤ σ 11 ∧ σ 11 ≤ 2100000000 from by omega) (show 0 ≤ n ∧ n ≤ 1000000 from by omega)) gX7_pass_X2_canWait 1 rfl (by decide +kernel) ⟨Nat.le_of_ble_eq_true rfl, Nat.le_of_ble_eq_true rfl, Nat.le_of_ble_eq_true rfl, Nat.le_of_ble_eq_true rfl⟩ 0 rfl (q := (RX2, TX2, 9)) rfl rfl [2] [0, 1] [0, 1, 2] rfl rfl ⟨rfl, rfl, rfl, by decide⟩ (fun _ => rfl) rfl (fun _ => rfl) hl.1 (Nat.le_of_ble_eq_true rfl) rfl dX7_pass_21 (fun _ _ H locs B => ?_)
  refine z_ifne_b S (pc := 24) (tgt := 30) dX7_pass_24 rfl (fun c2 => ?_) (fun c2 => absurd c2 (by omega))
  refine z_aload_n S (pc := 30) dX7_pass_30 rfl (lv_at hl 0 rfl) ?_
  refine z_get S (pc := 31) B iX7_pass_X7 0 rfl rfl 0 (by decide) rfl rfl (by decide +kernel) dX7_pass_31 ?_
  refine z_get S (pc := 34) B iX7_pass_X6 1 rfl rfl 0 (by decide) rfl rfl (by decide +kernel) dX7_pass_34 ?_
  refine lv_dup S.1 S.2.1 (pc := 37) dX7_pass_37 rfl ?_
  refine z_get S (pc := 38) B iX7_pass_X2 2 rfl rfl 3 (by decide) rfl rfl (by decide +kernel) dX7_pass_38 ?_
  refine z_iload_n S (pc := 41) dX7_pass_41 rfl (lv_at hl 1 rfl) ?_
  refine z_iadd S (pc := 42) dX7_pass_42 ?_
  refine z_put S (pc := 43) B iX7_pass_X2 tyX2_ok nmX2 2 rfl rfl 3 (by decide) rfl (by decide +kernel) (ty := .int) (by decide +kernel) rfl rfl (Nat.le_of_ble_eq_true rfl) dX7_pass_43 (wn := [cSlo u o x1 x2 x3 x4 x5, cSta o a h, (a, .inr (2, [.ref b, .ref f, .ref g, .int (iI ((σ 11) + n)), .int (iI (σ 12)), .int (iI (σ 13)), .int (iI rr), .int (iI rb), .long (iL rn)]))]) rfl (fun H locs B => ?_)
  refine z_aload_n S (pc := 46) dX7_pass_46 rfl (lv_at hl 0 rfl) ?_
  refine z_get S (pc := 47) B iX7_pass_X7 0 rfl rfl 0 (by decide) rfl rfl (by decide +kernel) dX7_pass_47 ?_
  refine z_get S (pc := 50) B iX7_pass_X6 1 rfl rfl 0 (by decide) rfl rfl (by decide +kernel) dX7_pass_50 ?_
  refine z_get S (pc := 53) B iX7_pass_X2 2 rfl rfl 3 (by decide) rfl rfl (by decide +kernel) dX7_pass_53 ?_
  exact z_ireturn S hr hlk B () trivial rfl rfl (pc := 56) dX7_pass_56
set_option maxHeartbeats 4000000 in
set_option maxRecDepth 100000 in
theorem mX7_pass_m (l : Launch) (E : gT) (u : Nat) (o : Nat) (x1 : Nat) (x2 : Nat) (x3 : Nat) (x4 : Nat) (x5 : Nat) (a : Nat) (b : Nat) (f : Nat) (g : Nat) (σ : Nat → Int) (ov : Int) (rr : Int) (rb : Int) (rn : Int) (h : Nat) (i : Nat) (ρ : Nat → Int) (n : Int) (hv : 1 ≤ n ∧ n ≤ 100000) (h11 : 0 ≤ σ 11 ∧ σ 11 ≤ 2000000000) (hw : 1000000000 < σ 11 + n) : Cd l E yX7_pass wsX7_pass 1 22 0 0 [.ref u, .int (iI n)] [cSlo u o x1 x2 x3 x4 x5, cSta o a h, cMet a b f g σ rr rb rn] (some (.int (iI (-5)))) [cSlo u o x1 x2 x3 x4 x5, cSta o a h, cMet a b f g σ rr rb rn] := by
  refine Ct.mk (cc := cX7_pass) (maxL := 2) (ret := (some .int)) (plainFor_of_name (by decide)) rfl (Nat.le_of_ble_eq_true rfl) ?_
  intro p e s m below meth c A ls H locs S hr hlk hnm B hl
  have S : CallFix p m c cX7_pass 2 s #[.ref u, .int (iI n)] wsX7_pass RX7 := S
  have hl : lv_has ls 2 [(0, .ref u), (1, .int (iI n))] := hl
  refine z_iload_n S (pc := 0) dX7_pass_0 rfl (lv_at hl 1 rfl) ?_
  refine z_iconst S (pc := 1) dX7_pass_1 ?_
  refine z_ldc S (pc := 2) (x := 100000) (by decide +kernel) rfl dX7_pass_2 ?_
  refine z_callS S (pc := 4) B (wr := [cSlo u o x1 x2 x3 x4 x5, cSta o a h, cMet a b f g σ rr rb rn]) (wn := fun _ => [cSlo u o x1 x2 x3 x4 x5, cSta o a h, cMet a b f g σ rr rb rn]) (st1 := fun _ => [.int (iI (bI (n < 1 ∨ 100000 < n)))]) (As := [.int (iI n), .int (iI 1), .int (iI 100000)]) (mX7_isOutside l E n 1 100000 (show inI n ∧ inI 1 ∧ inI 100000 from by omega)) gX7_pass_X7_isOutside 3 rfl (by decide +kernel) ⟨Nat.le_of_ble_eq_true rfl, Nat.le_of_ble_eq_true rfl, Nat.le_of_ble_eq_true rfl, Nat.le_of_ble_eq_true rfl⟩ [] [0, 1, 2] [0, 1, 2] rfl rfl ⟨rfl, rfl, rfl, by decide⟩ (fun _ => rfl) rfl (fun _ => rfl) hl.1 (Nat.le_of_ble_eq_true rfl) rfl dX7_pass_4 (fun _ _ H locs B => ?_)
  refine z_ifeq_b S (pc := 7) (tgt := 13) dX7_pass_7 rfl (fun c1 => ?_) (fun c1 => absurd c1 (by omega))
  refine z_aload_n S (pc := 13) dX7_pass_13 rfl (lv_at hl 0 rfl) ?_
  refine z_get S (pc := 14) B iX7_pass_X7 0 rfl rfl 0 (by decide) rfl rfl (by decide +kernel) dX7_pass_14 ?_
  refine z_get S (pc := 17) B iX7_pass_X6 1 rfl rfl 0 (by decide) rfl rfl (by decide +kernel) dX7_pass_17 ?_
  refine z_iload_n S (pc := 20) dX7_pass_20 rfl (lv_at hl 1 rfl) ?_
  refine z_callV S (pc := 21) B (wr := [cSlo u o x1 x2 x3 x4 x5, cSta o a h]) (wn := fun _ => [cSlo u o x1 x2 x3 x4 x5, cSta o a h, cMet a b f g σ rr rb rn]) (st1 := fun _ => [.int (iI (bI (σ 11 + n ≤ 1000000000)))]) (As := [.int (iI n)]) (mX2_canWait l E a b f g σ ov rr rb rn n (show 0 ≤ σ 11 ∧ σ 11 ≤ 2100000000 from by omega) (show 0 ≤ n ∧ n ≤ 1000000 from by omega)) gX7_pass_X2_canWait 1 rfl (by decide +kernel) ⟨Nat.le_of_ble_eq_true rfl, Nat.le_of_ble_eq_true rfl, Nat.le_of_ble_eq_true rfl, Nat.le_of_ble_eq_true rfl⟩ 0 rfl (q := (RX2, TX2, 9)) rfl rfl [2] [0, 1] [0, 1, 2] rfl rfl ⟨rfl, rfl, rfl, by decide⟩ (fun _ => rfl) rfl (fun _ => rfl) hl.1 (Nat.le_of_ble_eq_true rfl) rfl dX7_pass_21 (fun _ _ H locs B => ?_)
  refine z_ifne_b S (pc := 24) (tgt := 30) dX7_pass_24 rfl (fun c2 => absurd c2 (by omega)) (fun c2 => ?_)
  refine z_bipush S (pc := 27) dX7_pass_27 rfl ?_
  exact z_ireturn S hr hlk B () trivial rfl rfl (pc := 29) dX7_pass_29
set_option maxHeartbeats 4000000 in
set_option maxRecDepth 100000 in
theorem mX7_pass_b (l : Launch) (E : gT) (u : Nat) (o : Nat) (x1 : Nat) (x2 : Nat) (x3 : Nat) (x4 : Nat) (x5 : Nat) (n : Int) (hI : inI n) (hbad : (n < 1 ∨ 100000 < n)) : Cd l E yX7_pass wsX7_pass 1 22 0 0 [.ref u, .int (iI n)] [cSlo u o x1 x2 x3 x4 x5] (some (.int (iI (-2)))) [cSlo u o x1 x2 x3 x4 x5] := by
  refine Ct.mk (cc := cX7_pass) (maxL := 2) (ret := (some .int)) (plainFor_of_name (by decide)) rfl (Nat.le_of_ble_eq_true rfl) ?_
  intro p e s m below meth c A ls H locs S hr hlk hnm B hl
  have S : CallFix p m c cX7_pass 2 s #[.ref u, .int (iI n)] wsX7_pass RX7 := S
  have hl : lv_has ls 2 [(0, .ref u), (1, .int (iI n))] := hl
  refine z_iload_n S (pc := 0) dX7_pass_0 rfl (lv_at hl 1 rfl) ?_
  refine z_iconst S (pc := 1) dX7_pass_1 ?_
  refine z_ldc S (pc := 2) (x := 100000) (by decide +kernel) rfl dX7_pass_2 ?_
  refine z_callS S (pc := 4) B (wr := [cSlo u o x1 x2 x3 x4 x5]) (wn := fun _ => [cSlo u o x1 x2 x3 x4 x5]) (st1 := fun _ => [.int (iI (bI (n < 1 ∨ 100000 < n)))]) (As := [.int (iI n), .int (iI 1), .int (iI 100000)]) (mX7_isOutside l E n 1 100000 (show inI n ∧ inI 1 ∧ inI 100000 from by omega)) gX7_pass_X7_isOutside 3 rfl (by decide +kernel) ⟨Nat.le_of_ble_eq_true rfl, Nat.le_of_ble_eq_true rfl, Nat.le_of_ble_eq_true rfl, Nat.le_of_ble_eq_true rfl⟩ [] [0] [0] rfl rfl ⟨rfl, rfl, rfl, by decide⟩ (fun _ => rfl) rfl (fun _ => rfl) hl.1 (Nat.le_of_ble_eq_true rfl) rfl dX7_pass_4 (fun _ _ H locs B => ?_)
  refine z_ifeq_b S (pc := 7) (tgt := 13) dX7_pass_7 rfl (fun c1 => ?_) (fun c1 => ?_)
  · exact absurd hbad (by omega)
  · refine z_bipush S (pc := 10) dX7_pass_10 rfl ?_
    exact z_ireturn S hr hlk B () trivial rfl rfl (pc := 12) dX7_pass_12
theorem iX7_log_X6 : ∀ w ∈ wsX60, w ∈ wsX7_log := by decide +kernel
theorem iX7_log_X7 : ∀ w ∈ wsX70, w ∈ wsX7_log := by decide +kernel
set_option maxHeartbeats 4000000 in
set_option maxRecDepth 100000 in
theorem mX7_log (l : Launch) (E : gT) (u : Nat) (o : Nat) (x1 : Nat) (x2 : Nat) (x3 : Nat) (x4 : Nat) (x5 : Nat) (a : Nat) (b : Nat) (f : Nat) (g : Nat) (σ : Nat → Int) (ov : Int) (rr : Int) (rb : Int) (rn : Int) (h : Nat) (i : Nat) (ρ : Nat → Int) (r : Int) (k : Nat) (hI : inI r) (hk : k ≤ 6) (h14 : 0 ≤ σ 14 ∧ σ 14 ≤ 20000) (hl0 : ffr (σ 14) 0 ≤ r ∧ r < σ 14) : Cd l E yX7_log wsX7_log 3 66 0 0 [.ref u, .int (iI r), .int (iI (k : Int))] [cSlo u o x1 x2 x3 x4 x5, cSta o a h, cLog h i σ, cRow E i ρ] (some (.long (iL (lrow ρ r k)))) [cSlo u o x1 x2 x3 x4 x5, cSta o a h, cLog h i σ, cRow E i ρ] := by
  refine Ct.mk (cc := cX7_log) (maxL := 3) (ret := (some .long)) (plainFor_of_name (by decide)) rfl (Nat.le_of_ble_eq_true rfl) ?_
  intro p e s m below meth c A ls H locs S hr hlk hnm B hl
  have S : CallFix p m c cX7_log 3 s #[.ref u, .int (iI r), .int (iI (k : Int))] wsX7_log RX7 := S
  have hl : lv_has ls 3 [(0, .ref u), (1, .int (iI r)), (2, .int (iI (k : Int)))] := hl
  have hff := ffr_bd (n := σ 14) (f := 0) h14
  refine z_iload_n S (pc := 0) dX7_log_0 rfl (lv_at hl 2 rfl) ?_
  refine z_iconst S (pc := 1) dX7_log_1 ?_
  refine z_bipush S (pc := 2) dX7_log_2 rfl ?_
  refine z_callS S (pc := 4) B (wr := [cSlo u o x1 x2 x3 x4 x5, cSta o a h, cLog h i σ, cRow E i ρ]) (wn := fun _ => [cSlo u o x1 x2 x3 x4 x5, cSta o a h, cLog h i σ, cRow E i ρ]) (st1 := fun _ => [.int (iI (bI ((k : Int) < 0 ∨ 6 < (k : Int))))]) (As := [.int (iI (k : Int)), .int (iI 0), .int (iI 6)]) (mX7_isOutside l E (k : Int) 0 6 (show inI (k : Int) ∧ inI 0 ∧ inI 6 from by omega)) gX7_log_X7_isOutside 3 rfl (by decide +kernel) ⟨Nat.le_of_ble_eq_true rfl, Nat.le_of_ble_eq_true rfl, Nat.le_of_ble_eq_true rfl, Nat.le_of_ble_eq_true rfl⟩ [] [0, 1, 2, 3] [0, 1, 2, 3] rfl rfl ⟨rfl, rfl, rfl, by decide⟩ (fun _ => rfl) rfl (fun _ => rfl) hl.1 (Nat.le_of_ble_eq_true rfl) rfl dX7_log_4 (fun _ _ H locs B => ?_)
  refine z_ifeq_b S (pc := 7) (tgt := 14) dX7_log_7 rfl (fun c1 => ?_) (fun c1 => absurd c1 (by omega))
  refine z_aload_n S (pc := 14) dX7_log_14 rfl (lv_at hl 0 rfl) ?_
  refine z_get S (pc := 15) B iX7_log_X7 0 rfl rfl 0 (by decide) rfl rfl (by decide +kernel) dX7_log_15 ?_
  refine z_get S (pc := 18) B iX7_log_X6 1 rfl rfl 1 (by decide) rfl rfl (by decide +kernel) dX7_log_18 ?_
  refine z_iload_n S (pc := 21) dX7_log_21 rfl (lv_at hl 1 rfl) ?_
  refine z_callV S (pc := 22) B (wr := [cSlo u o x1 x2 x3 x4 x5, cSta o a h, cRow E i ρ]) (wn := fun _ => [cSlo u o x1 x2 x3 x4 x5, cSta o a h, cLog h i σ, cRow E i ρ]) (st1 := fun _ => [.int (iI (bI (ffr (σ 14) 0 ≤ r ∧ r < σ 14)))]) (As := [.int (iI r)]) (mX1_keeps l E h i σ r (show 0 ≤ σ 14 ∧ σ 14 ≤ 20000 from by omega) (show inI r from by omega)) gX7_log_X1_keeps 1 rfl (by decide +kernel) ⟨Nat.le_of_ble_eq_true rfl, Nat.le_of_ble_eq_true rfl, Nat.le_of_ble_eq_true rfl, Nat.le_of_ble_eq_true rfl⟩ 0 rfl (q := (RX1, TX1, 2)) rfl rfl [2] [0, 1, 3] [0, 1, 3, 2] rfl rfl ⟨rfl, rfl, rfl, by decide⟩ (fun _ => rfl) rfl (fun _ => rfl) hl.1 (Nat.le_of_ble_eq_true rfl) rfl dX7_log_22 (fun _ _ H locs B => ?_)
  refine z_ifne_b S (pc := 25) (tgt := 32) dX7_log_25 rfl (fun c2 => ?_) (fun c2 => absurd c2 (by omega))
  refine z_aload_n S (pc := 32) dX7_log_32 rfl (lv_at hl 0 rfl) ?_
  refine z_get S (pc := 33) B iX7_log_X7 0 rfl rfl 0 (by decide) rfl rfl (by decide +kernel) dX7_log_33 ?_
  refine z_get S (pc := 36) B iX7_log_X6 1 rfl rfl 1 (by decide) rfl rfl (by decide +kernel) dX7_log_36 ?_
  refine z_iload_n S (pc := 39) dX7_log_39 rfl (lv_at hl 1 rfl) ?_
  refine z_iload_n S (pc := 40) dX7_log_40 rfl (lv_at hl 2 rfl) ?_
  refine z_callV S (pc := 41) B (wr := [cSlo u o x1 x2 x3 x4 x5, cSta o a h]) (wn := fun _ => [cSlo u o x1 x2 x3 x4 x5, cSta o a h, cLog h i σ, cRow E i ρ]) (st1 := fun _ => [.long (iL (lrow ρ r k))]) (As := [.int (iI r), .int (iI (k : Int))]) (mX1_numberOf l E h i σ ρ r k (show 0 ≤ r ∧ r ≤ 2147483647 from by omega) (show k ≤ 6 from by omega)) gX7_log_X1_numberOf 2 rfl (by decide +kernel) ⟨Nat.le_of_ble_eq_true rfl, Nat.le_of_ble_eq_true rfl, Nat.le_of_ble_eq_true rfl, Nat.le_of_ble_eq_true rfl⟩ 0 rfl (q := (RX1, TX1, 2)) rfl rfl [2, 3] [0, 1] [0, 1, 2, 3] rfl rfl ⟨rfl, rfl, rfl, by decide⟩ (fun _ => rfl) rfl (fun _ => rfl) hl.1 (Nat.le_of_ble_eq_true rfl) rfl dX7_log_41 (fun _ _ H locs B => ?_)
  exact z_lreturn S hr hlk B () trivial rfl rfl (pc := 44) dX7_log_44
set_option maxHeartbeats 4000000 in
set_option maxRecDepth 100000 in
theorem mX7_log_m (l : Launch) (E : gT) (u : Nat) (o : Nat) (x1 : Nat) (x2 : Nat) (x3 : Nat) (x4 : Nat) (x5 : Nat) (a : Nat) (b : Nat) (f : Nat) (g : Nat) (σ : Nat → Int) (ov : Int) (rr : Int) (rb : Int) (rn : Int) (h : Nat) (i : Nat) (ρ : Nat → Int) (r : Int) (k : Nat) (hI : inI r) (hk : k ≤ 6) (h14 : 0 ≤ σ 14 ∧ σ 14 ≤ 20000) (hl0 : ¬ (ffr (σ 14) 0 ≤ r ∧ r < σ 14)) : Cd l E yX7_log wsX7_log 3 66 0 0 [.ref u, .int (iI r), .int (iI (k : Int))] [cSlo u o x1 x2 x3 x4 x5, cSta o a h, cLog h i σ] (some (.long (iL (-1000000000000000006)))) [cSlo u o x1 x2 x3 x4 x5, cSta o a h, cLog h i σ] := by
  refine Ct.mk (cc := cX7_log) (maxL := 3) (ret := (some .long)) (plainFor_of_name (by decide)) rfl (Nat.le_of_ble_eq_true rfl) ?_
  intro p e s m below meth c A ls H locs S hr hlk hnm B hl
  have S : CallFix p m c cX7_log 3 s #[.ref u, .int (iI r), .int (iI (k : Int))] wsX7_log RX7 := S
  have hl : lv_has ls 3 [(0, .ref u), (1, .int (iI r)), (2, .int (iI (k : Int)))] := hl
  refine z_iload_n S (pc := 0) dX7_log_0 rfl (lv_at hl 2 rfl) ?_
  refine z_iconst S (pc := 1) dX7_log_1 ?_
  refine z_bipush S (pc := 2) dX7_log_2 rfl ?_
  refine z_callS S (pc := 4) B (wr := [cSlo u o x1 x2 x3 x4 x5, cSta o a h, cLog h i σ]) (wn := fun _ => [cSlo u o x1 x2 x3 x4 x5, cSta o a h, cLog h i σ]) (st1 := fun _ => [.int (iI (bI ((k : Int) < 0 ∨ 6 < (k : Int))))]) (As := [.int (iI (k : Int)), .int (iI 0), .int (iI 6)]) (mX7_isOutside l E (k : Int) 0 6 (show inI (k : Int) ∧ inI 0 ∧ inI 6 from by omega)) gX7_log_X7_isOutside 3 rfl (by decide +kernel) ⟨Nat.le_of_ble_eq_true rfl, Nat.le_of_ble_eq_true rfl, Nat.le_of_ble_eq_true rfl, Nat.le_of_ble_eq_true rfl⟩ [] [0, 1, 2] [0, 1, 2] rfl rfl ⟨rfl, rfl, rfl, by decide⟩ (fun _ => rfl) rfl (fun _ => rfl) hl.1 (Nat.le_of_ble_eq_true rfl) rfl dX7_log_4 (fun _ _ H locs B => ?_)
  refine z_ifeq_b S (pc := 7) (tgt := 14) dX7_log_7 rfl (fun c1 => ?_) (fun c1 => absurd c1 (by omega))
  refine z_aload_n S (pc := 14) dX7_log_14 rfl (lv_at hl 0 rfl) ?_
  refine z_get S (pc := 15) B iX7_log_X7 0 rfl rfl 0 (by decide) rfl rfl (by decide +kernel) dX7_log_15 ?_
  refine z_get S (pc := 18) B iX7_log_X6 1 rfl rfl 1 (by decide) rfl rfl (by decide +kernel) dX7_log_18 ?_
  refine z_iload_n S (pc := 21) dX7_log_21 rfl (lv_at hl 1 rfl) ?_
  refine z_callV S (pc := 22) B (wr := [cSlo u o x1 x2 x3 x4 x5, cSta o a h]) (wn := fun _ => [cSlo u o x1 x2 x3 x4 x5, cSta o a h, cLog h i σ]) (st1 := fun _ => [.int (iI (bI (ffr (σ 14) 0 ≤ r ∧ r < σ 14)))]) (As := [.int (iI r)]) (mX1_keeps l E h i σ r (show 0 ≤ σ 14 ∧ σ 14 ≤ 20000 from by omega) (show inI r from by omega)) gX7_log_X1_keeps 1 rfl (by decide +kernel) ⟨Nat.le_of_ble_eq_true rfl, Nat.le_of_ble_eq_true rfl, Nat.le_of_ble_eq_true rfl, Nat.le_of_ble_eq_true rfl⟩ 0 rfl (q := (RX1, TX1, 2)) rfl rfl [2] [0, 1] [0, 1, 2] rfl rfl ⟨rfl, rfl, rfl, by decide⟩ (fun _ => rfl) rfl (fun _ => rfl) hl.1 (Nat.le_of_ble_eq_true rfl) rfl dX7_log_22 (fun _ _ H locs B => ?_)
  refine z_ifne_b S (pc := 25) (tgt := 32) dX7_log_25 rfl (fun c2 => absurd c2 (by omega)) (fun c2 => ?_)
  refine z_ldc2 S (pc := 28) (x := (-1000000000000000006)) (by decide +kernel) rfl dX7_log_28 ?_
  exact z_lreturn S hr hlk B () trivial rfl rfl (pc := 31) dX7_log_31
set_option maxHeartbeats 4000000 in
set_option maxRecDepth 100000 in
theorem mX7_log_b (l : Launch) (E : gT) (u : Nat) (o : Nat) (x1 : Nat) (x2 : Nat) (x3 : Nat) (x4 : Nat) (x5 : Nat) (r : Int) (k : Int) (hI : inI r ∧ inI k) (hbad : (k < 0 ∨ 6 < k)) : Cd l E yX7_log wsX7_log 3 66 0 0 [.ref u, .int (iI r), .int (iI k)] [cSlo u o x1 x2 x3 x4 x5] (some (.long (iL (-1000000000000000002)))) [cSlo u o x1 x2 x3 x4 x5] := by
  refine Ct.mk (cc := cX7_log) (maxL := 3) (ret := (some .long)) (plainFor_of_name (by decide)) rfl (Nat.le_of_ble_eq_true rfl) ?_
  intro p e s m below meth c A ls H locs S hr hlk hnm B hl
  have S : CallFix p m c cX7_log 3 s #[.ref u, .int (iI r), .int (iI k)] wsX7_log RX7 := S
  have hl : lv_has ls 3 [(0, .ref u), (1, .int (iI r)), (2, .int (iI k))] := hl
  refine z_iload_n S (pc := 0) dX7_log_0 rfl (lv_at hl 2 rfl) ?_
  refine z_iconst S (pc := 1) dX7_log_1 ?_
  refine z_bipush S (pc := 2) dX7_log_2 rfl ?_
  refine z_callS S (pc := 4) B (wr := [cSlo u o x1 x2 x3 x4 x5]) (wn := fun _ => [cSlo u o x1 x2 x3 x4 x5]) (st1 := fun _ => [.int (iI (bI (k < 0 ∨ 6 < k)))]) (As := [.int (iI k), .int (iI 0), .int (iI 6)]) (mX7_isOutside l E k 0 6 (show inI k ∧ inI 0 ∧ inI 6 from by omega)) gX7_log_X7_isOutside 3 rfl (by decide +kernel) ⟨Nat.le_of_ble_eq_true rfl, Nat.le_of_ble_eq_true rfl, Nat.le_of_ble_eq_true rfl, Nat.le_of_ble_eq_true rfl⟩ [] [0] [0] rfl rfl ⟨rfl, rfl, rfl, by decide⟩ (fun _ => rfl) rfl (fun _ => rfl) hl.1 (Nat.le_of_ble_eq_true rfl) rfl dX7_log_4 (fun _ _ H locs B => ?_)
  refine z_ifeq_b S (pc := 7) (tgt := 14) dX7_log_7 rfl (fun c1 => ?_) (fun c1 => ?_)
  · exact absurd hbad (by omega)
  · refine z_ldc2 S (pc := 10) (x := (-1000000000000000002)) (by decide +kernel) rfl dX7_log_10 ?_
    exact z_lreturn S hr hlk B () trivial rfl rfl (pc := 13) dX7_log_13
theorem iX7_latest_X0 : ∀ w ∈ wsX00, w ∈ wsX7_latest := by decide +kernel
theorem iX7_latest_X2 : ∀ w ∈ wsX20, w ∈ wsX7_latest := by decide +kernel
theorem iX7_latest_X6 : ∀ w ∈ wsX60, w ∈ wsX7_latest := by decide +kernel
theorem iX7_latest_X7 : ∀ w ∈ wsX70, w ∈ wsX7_latest := by decide +kernel
set_option maxHeartbeats 4000000 in
set_option maxRecDepth 100000 in
theorem mX7_latest (l : Launch) (E : gT) (u : Nat) (o : Nat) (x1 : Nat) (x2 : Nat) (x3 : Nat) (x4 : Nat) (x5 : Nat) (a : Nat) (b : Nat) (f : Nat) (g : Nat) (σ : Nat → Int) (ov : Int) (rr : Int) (rb : Int) (rn : Int) (h : Nat) (i : Nat) (ρ : Nat → Int) (k : Int) (hv : 0 ≤ k ∧ k ≤ 6) (hn : Nums σ) (h22 : σ 22 = 1) : Cd l E yX7_latest wsX7_latest 1 22 0 0 [.ref u, .int (iI k)] [cSlo u o x1 x2 x3 x4 x5, cSta o a h, cMet a b f g σ rr rb rn, cCon g σ ov] (some (.long (iL (σ (15 + k.toNat))))) [cSlo u o x1 x2 x3 x4 x5, cSta o a h, cMet a b f g σ rr rb rn, cCon g σ ov] := by
  refine Ct.mk (cc := cX7_latest) (maxL := 2) (ret := (some .long)) (plainFor_of_name (by decide)) rfl (Nat.le_of_ble_eq_true rfl) ?_
  intro p e s m below meth c A ls H locs S hr hlk hnm B hl
  have S : CallFix p m c cX7_latest 2 s #[.ref u, .int (iI k)] wsX7_latest RX7 := S
  have hl : lv_has ls 2 [(0, .ref u), (1, .int (iI k))] := hl
  obtain ⟨n12, n13, n14, n15, n16, n17, n18, n19, n20, n21, n22⟩ := id hn
  refine z_iload_n S (pc := 0) dX7_latest_0 rfl (lv_at hl 1 rfl) ?_
  refine z_iconst S (pc := 1) dX7_latest_1 ?_
  refine z_bipush S (pc := 2) dX7_latest_2 rfl ?_
  refine z_callS S (pc := 4) B (wr := [cSlo u o x1 x2 x3 x4 x5, cSta o a h, cMet a b f g σ rr rb rn, cCon g σ ov]) (wn := fun _ => [cSlo u o x1 x2 x3 x4 x5, cSta o a h, cMet a b f g σ rr rb rn, cCon g σ ov]) (st1 := fun _ => [.int (iI (bI (k < 0 ∨ 6 < k)))]) (As := [.int (iI k), .int (iI 0), .int (iI 6)]) (mX7_isOutside l E k 0 6 (show inI k ∧ inI 0 ∧ inI 6 from by omega)) gX7_latest_X7_isOutside 3 rfl (by decide +kernel) ⟨Nat.le_of_ble_eq_true rfl, Nat.le_of_ble_eq_true rfl, Nat.le_of_ble_eq_true rfl, Nat.le_of_ble_eq_true rfl⟩ [] [0, 1, 2, 3] [0, 1, 2, 3] rfl rfl ⟨rfl, rfl, rfl, by decide⟩ (fun _ => rfl) rfl (fun _ => rfl) hl.1 (Nat.le_of_ble_eq_true rfl) rfl dX7_latest_4 (fun _ _ H locs B => ?_)
  refine z_ifeq_b S (pc := 7) (tgt := 14) dX7_latest_7 rfl (fun c1 => ?_) (fun c1 => absurd c1 (by omega))
  refine z_aload_n S (pc := 14) dX7_latest_14 rfl (lv_at hl 0 rfl) ?_
  refine z_get S (pc := 15) B iX7_latest_X7 0 rfl rfl 0 (by decide) rfl rfl (by decide +kernel) dX7_latest_15 ?_
  refine z_get S (pc := 18) B iX7_latest_X6 1 rfl rfl 0 (by decide) rfl rfl (by decide +kernel) dX7_latest_18 ?_
  refine z_get S (pc := 21) B iX7_latest_X2 2 rfl rfl 2 (by decide) rfl rfl (by decide +kernel) dX7_latest_21 ?_
  refine z_get S (pc := 24) B iX7_latest_X0 3 rfl rfl 0 (by decide) rfl rfl (by decide +kernel) dX7_latest_24 ?_
  refine z_if_ne S (pc := 27) (tgt := 34) (by omega) dX7_latest_27 rfl (fun c2 => ?_) (fun c2 => absurd c2 (by omega))
  refine z_aload_n S (pc := 34) dX7_latest_34 rfl (lv_at hl 0 rfl) ?_
  refine z_get S (pc := 35) B iX7_latest_X7 0 rfl rfl 0 (by decide) rfl rfl (by decide +kernel) dX7_latest_35 ?_
  refine z_get S (pc := 38) B iX7_latest_X6 1 rfl rfl 0 (by decide) rfl rfl (by decide +kernel) dX7_latest_38 ?_
  refine z_get S (pc := 41) B iX7_latest_X2 2 rfl rfl 2 (by decide) rfl rfl (by decide +kernel) dX7_latest_41 ?_
  refine z_iload_n S (pc := 44) dX7_latest_44 rfl (lv_at hl 1 rfl) ?_
  refine z_callV S (pc := 45) B (wr := [cSlo u o x1 x2 x3 x4 x5, cSta o a h, cMet a b f g σ rr rb rn]) (wn := fun _ => [cSlo u o x1 x2 x3 x4 x5, cSta o a h, cMet a b f g σ rr rb rn, cCon g σ ov]) (st1 := fun _ => [.long (iL (σ (15 + k.toNat)))]) (As := [.int (iI k)]) (mX0_numberOf l E g σ ov k (show 0 ≤ k ∧ k ≤ 6 from by omega) (show inI (σ 15) ∧ inI (σ 16) ∧ inI (σ 17) ∧ inI (σ 18) ∧ inI (σ 19) from by omega)) gX7_latest_X0_numberOf 1 rfl (by decide +kernel) ⟨Nat.le_of_ble_eq_true rfl, Nat.le_of_ble_eq_true rfl, Nat.le_of_ble_eq_true rfl, Nat.le_of_ble_eq_true rfl⟩ 0 rfl (q := (RX0, TX0, 9)) rfl rfl [3] [0, 1, 2] [0, 1, 2, 3] rfl rfl ⟨rfl, rfl, rfl, by decide⟩ (fun _ => rfl) rfl (fun _ => rfl) hl.1 (Nat.le_of_ble_eq_true rfl) rfl dX7_latest_45 (fun _ _ H locs B => ?_)
  exact z_lreturn S hr hlk B () trivial rfl rfl (pc := 48) dX7_latest_48
set_option maxHeartbeats 4000000 in
set_option maxRecDepth 100000 in
theorem mX7_latest_m (l : Launch) (E : gT) (u : Nat) (o : Nat) (x1 : Nat) (x2 : Nat) (x3 : Nat) (x4 : Nat) (x5 : Nat) (a : Nat) (b : Nat) (f : Nat) (g : Nat) (σ : Nat → Int) (ov : Int) (rr : Int) (rb : Int) (rn : Int) (h : Nat) (i : Nat) (ρ : Nat → Int) (k : Int) (hv : 0 ≤ k ∧ k ≤ 6) (h22 : σ 22 = 0) : Cd l E yX7_latest wsX7_latest 1 22 0 0 [.ref u, .int (iI k)] [cSlo u o x1 x2 x3 x4 x5, cSta o a h, cMet a b f g σ rr rb rn, cCon g σ ov] (some (.long (iL (-1000000000000000005)))) [cSlo u o x1 x2 x3 x4 x5, cSta o a h, cMet a b f g σ rr rb rn, cCon g σ ov] := by
  refine Ct.mk (cc := cX7_latest) (maxL := 2) (ret := (some .long)) (plainFor_of_name (by decide)) rfl (Nat.le_of_ble_eq_true rfl) ?_
  intro p e s m below meth c A ls H locs S hr hlk hnm B hl
  have S : CallFix p m c cX7_latest 2 s #[.ref u, .int (iI k)] wsX7_latest RX7 := S
  have hl : lv_has ls 2 [(0, .ref u), (1, .int (iI k))] := hl
  refine z_iload_n S (pc := 0) dX7_latest_0 rfl (lv_at hl 1 rfl) ?_
  refine z_iconst S (pc := 1) dX7_latest_1 ?_
  refine z_bipush S (pc := 2) dX7_latest_2 rfl ?_
  refine z_callS S (pc := 4) B (wr := [cSlo u o x1 x2 x3 x4 x5, cSta o a h, cMet a b f g σ rr rb rn, cCon g σ ov]) (wn := fun _ => [cSlo u o x1 x2 x3 x4 x5, cSta o a h, cMet a b f g σ rr rb rn, cCon g σ ov]) (st1 := fun _ => [.int (iI (bI (k < 0 ∨ 6 < k)))]) (As := [.int (iI k), .int (iI 0), .int (iI 6)]) (mX7_isOutside l E k 0 6 (show inI k ∧ inI 0 ∧ inI 6 from by omega)) gX7_latest_X7_isOutside 3 rfl (by decide +kernel) ⟨Nat.le_of_ble_eq_true rfl, Nat.le_of_ble_eq_true rfl, Nat.le_of_ble_eq_true rfl, Nat.le_of_ble_eq_true rfl⟩ [] [0, 1, 2, 3] [0, 1, 2, 3] rfl rfl ⟨rfl, rfl, rfl, by decide⟩ (fun _ => rfl) rfl (fun _ => rfl) hl.1 (Nat.le_of_ble_eq_true rfl) rfl dX7_latest_4 (fun _ _ H locs B => ?_)
  refine z_ifeq_b S (pc := 7) (tgt := 14) dX7_latest_7 rfl (fun c1 => ?_) (fun c1 => absurd c1 (by omega))
  refine z_aload_n S (pc := 14) dX7_latest_14 rfl (lv_at hl 0 rfl) ?_
  refine z_get S (pc := 15) B iX7_latest_X7 0 rfl rfl 0 (by decide) rfl rfl (by decide +kernel) dX7_latest_15 ?_
  refine z_get S (pc := 18) B iX7_latest_X6 1 rfl rfl 0 (by decide) rfl rfl (by decide +kernel) dX7_latest_18 ?_
  refine z_get S (pc := 21) B iX7_latest_X2 2 rfl rfl 2 (by decide) rfl rfl (by decide +kernel) dX7_latest_21 ?_
  refine z_get S (pc := 24) B iX7_latest_X0 3 rfl rfl 0 (by decide) rfl rfl (by decide +kernel) dX7_latest_24 ?_
  refine z_if_ne S (pc := 27) (tgt := 34) (by omega) dX7_latest_27 rfl (fun c2 => absurd c2 (by omega)) (fun c2 => ?_)
  refine z_ldc2 S (pc := 30) (x := (-1000000000000000005)) (by decide +kernel) rfl dX7_latest_30 ?_
  exact z_lreturn S hr hlk B () trivial rfl rfl (pc := 33) dX7_latest_33
set_option maxHeartbeats 4000000 in
set_option maxRecDepth 100000 in
theorem mX7_latest_b (l : Launch) (E : gT) (u : Nat) (o : Nat) (x1 : Nat) (x2 : Nat) (x3 : Nat) (x4 : Nat) (x5 : Nat) (k : Int) (hI : inI k) (hbad : (k < 0 ∨ 6 < k)) : Cd l E yX7_latest wsX7_latest 1 22 0 0 [.ref u, .int (iI k)] [cSlo u o x1 x2 x3 x4 x5] (some (.long (iL (-1000000000000000002)))) [cSlo u o x1 x2 x3 x4 x5] := by
  refine Ct.mk (cc := cX7_latest) (maxL := 2) (ret := (some .long)) (plainFor_of_name (by decide)) rfl (Nat.le_of_ble_eq_true rfl) ?_
  intro p e s m below meth c A ls H locs S hr hlk hnm B hl
  have S : CallFix p m c cX7_latest 2 s #[.ref u, .int (iI k)] wsX7_latest RX7 := S
  have hl : lv_has ls 2 [(0, .ref u), (1, .int (iI k))] := hl
  refine z_iload_n S (pc := 0) dX7_latest_0 rfl (lv_at hl 1 rfl) ?_
  refine z_iconst S (pc := 1) dX7_latest_1 ?_
  refine z_bipush S (pc := 2) dX7_latest_2 rfl ?_
  refine z_callS S (pc := 4) B (wr := [cSlo u o x1 x2 x3 x4 x5]) (wn := fun _ => [cSlo u o x1 x2 x3 x4 x5]) (st1 := fun _ => [.int (iI (bI (k < 0 ∨ 6 < k)))]) (As := [.int (iI k), .int (iI 0), .int (iI 6)]) (mX7_isOutside l E k 0 6 (show inI k ∧ inI 0 ∧ inI 6 from by omega)) gX7_latest_X7_isOutside 3 rfl (by decide +kernel) ⟨Nat.le_of_ble_eq_true rfl, Nat.le_of_ble_eq_true rfl, Nat.le_of_ble_eq_true rfl, Nat.le_of_ble_eq_true rfl⟩ [] [0] [0] rfl rfl ⟨rfl, rfl, rfl, by decide⟩ (fun _ => rfl) rfl (fun _ => rfl) hl.1 (Nat.le_of_ble_eq_true rfl) rfl dX7_latest_4 (fun _ _ H locs B => ?_)
  refine z_ifeq_b S (pc := 7) (tgt := 14) dX7_latest_7 rfl (fun c1 => ?_) (fun c1 => ?_)
  · exact absurd hbad (by omega)
  · refine z_ldc2 S (pc := 10) (x := (-1000000000000000002)) (by decide +kernel) rfl dX7_latest_10 ?_
    exact z_lreturn S hr hlk B () trivial rfl rfl (pc := 13) dX7_latest_13
theorem iX7_statistic_X6 : ∀ w ∈ wsX60, w ∈ wsX7_statistic := by decide +kernel
theorem iX7_statistic_X7 : ∀ w ∈ wsX70, w ∈ wsX7_statistic := by decide +kernel
set_option maxHeartbeats 4000000 in
set_option maxRecDepth 100000 in
theorem mX7_statistic_0 (l : Launch) (E : gT) (u : Nat) (o : Nat) (x1 : Nat) (x2 : Nat) (x3 : Nat) (x4 : Nat) (x5 : Nat) (a : Nat) (b : Nat) (f : Nat) (g : Nat) (σ : Nat → Int) (ov : Int) (rr : Int) (rb : Int) (rn : Int) (h : Nat) (i : Nat) (ρ : Nat → Int) (fro : Int) (hf : 0 ≤ fro ∧ fro ≤ 2147483647) (h14 : 0 ≤ σ 14 ∧ σ 14 ≤ 20000) : Cd l E yX7_statistic wsX7_statistic 5 113 0 0 [.ref u, .int (iI fro), .int (iI 0)] [cSlo u o x1 x2 x3 x4 x5, cSta o a h, cLog h i σ] (some (.long (iL (nfr (σ 14) fro)))) [cSlo u o x1 x2 x3 x4 x5, cSta o a h, cLog h i σ] := by
  refine Ct.mk (cc := cX7_statistic) (maxL := 3) (ret := (some .long)) (plainFor_of_name (by decide)) rfl (Nat.le_of_ble_eq_true rfl) ?_
  intro p e s m below meth c A ls H locs S hr hlk hnm B hl
  have S : CallFix p m c cX7_statistic 3 s #[.ref u, .int (iI fro), .int (iI 0)] wsX7_statistic RX7 := S
  have hl : lv_has ls 3 [(0, .ref u), (1, .int (iI fro)), (2, .int (iI 0))] := hl
  have hff := ffr_bd (n := σ 14) (f := fro) h14
  have hnf : 0 ≤ nfr (σ 14) fro ∧ nfr (σ 14) fro ≤ 20000 := by unfold nfr; omega
  refine z_iload_n S (pc := 0) dX7_statistic_0 rfl (lv_at hl 1 rfl) ?_
  refine z_if_lt S (pc := 1) (tgt := 13) (by omega) dX7_statistic_1 rfl (fun c1 => absurd c1 (by omega)) (fun c1 => ?_)
  refine z_iload_n S (pc := 4) dX7_statistic_4 rfl (lv_at hl 2 rfl) ?_
  refine z_iconst S (pc := 5) dX7_statistic_5 ?_
  refine z_iconst S (pc := 6) dX7_statistic_6 ?_
  refine z_callS S (pc := 7) B (wr := [cSlo u o x1 x2 x3 x4 x5, cSta o a h, cLog h i σ]) (wn := fun _ => [cSlo u o x1 x2 x3 x4 x5, cSta o a h, cLog h i σ]) (st1 := fun _ => [.int (iI (bI (0 < 0 ∨ 4 < 0)))]) (As := [.int (iI 0), .int (iI 0), .int (iI 4)]) (mX7_isOutside l E 0 0 4 (show inI 0 ∧ inI 0 ∧ inI 4 from by omega)) gX7_statistic_X7_isOutside 3 rfl (by decide +kernel) ⟨Nat.le_of_ble_eq_true rfl, Nat.le_of_ble_eq_true rfl, Nat.le_of_ble_eq_true rfl, Nat.le_of_ble_eq_true rfl⟩ [] [0, 1, 2] [0, 1, 2] rfl rfl ⟨rfl, rfl, rfl, by decide⟩ (fun _ => rfl) rfl (fun _ => rfl) hl.1 (Nat.le_of_ble_eq_true rfl) rfl dX7_statistic_7 (fun _ _ H locs B => ?_)
  refine z_ifeq_b S (pc := 10) (tgt := 17) dX7_statistic_10 rfl (fun c2 => ?_) (fun c2 => absurd c2 (by omega))
  refine z_iload_n S (pc := 17) dX7_statistic_17 rfl (lv_at hl 2 rfl) ?_
  refine z_if_ne S (pc := 18) (tgt := 34) (by omega) dX7_statistic_18 rfl (fun c3 => absurd c3 (by omega)) (fun c3 => ?_)
  refine z_aload_n S (pc := 21) dX7_statistic_21 rfl (lv_at hl 0 rfl) ?_
  refine z_get S (pc := 22) B iX7_statistic_X7 0 rfl rfl 0 (by decide) rfl rfl (by decide +kernel) dX7_statistic_22 ?_
  refine z_get S (pc := 25) B iX7_statistic_X6 1 rfl rfl 1 (by decide) rfl rfl (by decide +kernel) dX7_statistic_25 ?_
  refine z_iload_n S (pc := 28) dX7_statistic_28 rfl (lv_at hl 1 rfl) ?_
  refine z_callV S (pc := 29) B (wr := [cSlo u o x1 x2 x3 x4 x5, cSta o a h]) (wn := fun _ => [cSlo u o x1 x2 x3 x4 x5, cSta o a h, cLog h i σ]) (st1 := fun _ => [.int (iI (nfr (σ 14) fro))]) (As := [.int (iI fro)]) (mX1_numberFrom l E h i σ fro (show 0 ≤ σ 14 ∧ σ 14 ≤ 20000 from by omega) (show inI fro from by omega)) gX7_statistic_X1_numberFrom 1 rfl (by decide +kernel) ⟨Nat.le_of_ble_eq_true rfl, Nat.le_of_ble_eq_true rfl, Nat.le_of_ble_eq_true rfl, Nat.le_of_ble_eq_true rfl⟩ 0 rfl (q := (RX1, TX1, 2)) rfl rfl [2] [0, 1] [0, 1, 2] rfl rfl ⟨rfl, rfl, rfl, by decide⟩ (fun _ => rfl) rfl (fun _ => rfl) hl.1 (Nat.le_of_ble_eq_true rfl) rfl dX7_statistic_29 (fun _ _ H locs B => ?_)
  refine z_i2l S (pc := 32) (by omega) dX7_statistic_32 ?_
  exact z_lreturn S hr hlk B () trivial rfl rfl (pc := 33) dX7_statistic_33
set_option maxHeartbeats 4000000 in
set_option maxRecDepth 100000 in
theorem mX7_statistic_4 (l : Launch) (E : gT) (u : Nat) (o : Nat) (x1 : Nat) (x2 : Nat) (x3 : Nat) (x4 : Nat) (x5 : Nat) (a : Nat) (b : Nat) (f : Nat) (g : Nat) (σ : Nat → Int) (ov : Int) (rr : Int) (rb : Int) (rn : Int) (h : Nat) (i : Nat) (ρ : Nat → Int) (fro : Int) (hf : 0 ≤ fro ∧ fro ≤ 2147483647) (h14 : 0 ≤ σ 14 ∧ σ 14 ≤ 20000) : Cd l E yX7_statistic wsX7_statistic 5 113 0 0 [.ref u, .int (iI fro), .int (iI 4)] [cSlo u o x1 x2 x3 x4 x5, cSta o a h, cLog h i σ, cRow E i ρ] (some (.long (iL (sumL ρ 3 (nfr (σ 14) fro).toNat (ffr (σ 14) fro) 0)))) [cSlo u o x1 x2 x3 x4 x5, cSta o a h, cLog h i σ, cRow E i ρ] := by
  refine Ct.mk (cc := cX7_statistic) (maxL := 3) (ret := (some .long)) (plainFor_of_name (by decide)) rfl (Nat.le_of_ble_eq_true rfl) ?_
  intro p e s m below meth c A ls H locs S hr hlk hnm B hl
  have S : CallFix p m c cX7_statistic 3 s #[.ref u, .int (iI fro), .int (iI 4)] wsX7_statistic RX7 := S
  have hl : lv_has ls 3 [(0, .ref u), (1, .int (iI fro)), (2, .int (iI 4))] := hl
  have hff := ffr_bd (n := σ 14) (f := fro) h14
  have hnf : 0 ≤ nfr (σ 14) fro ∧ nfr (σ 14) fro ≤ 20000 := by unfold nfr; omega
  refine z_iload_n S (pc := 0) dX7_statistic_0 rfl (lv_at hl 1 rfl) ?_
  refine z_if_lt S (pc := 1) (tgt := 13) (by omega) dX7_statistic_1 rfl (fun c1 => absurd c1 (by omega)) (fun c1 => ?_)
  refine z_iload_n S (pc := 4) dX7_statistic_4 rfl (lv_at hl 2 rfl) ?_
  refine z_iconst S (pc := 5) dX7_statistic_5 ?_
  refine z_iconst S (pc := 6) dX7_statistic_6 ?_
  refine z_callS S (pc := 7) B (wr := [cSlo u o x1 x2 x3 x4 x5, cSta o a h, cLog h i σ, cRow E i ρ]) (wn := fun _ => [cSlo u o x1 x2 x3 x4 x5, cSta o a h, cLog h i σ, cRow E i ρ]) (st1 := fun _ => [.int (iI (bI (4 < 0 ∨ 4 < 4)))]) (As := [.int (iI 4), .int (iI 0), .int (iI 4)]) (mX7_isOutside l E 4 0 4 (show inI 4 ∧ inI 0 ∧ inI 4 from by omega)) gX7_statistic_X7_isOutside 3 rfl (by decide +kernel) ⟨Nat.le_of_ble_eq_true rfl, Nat.le_of_ble_eq_true rfl, Nat.le_of_ble_eq_true rfl, Nat.le_of_ble_eq_true rfl⟩ [] [0, 1, 2, 3] [0, 1, 2, 3] rfl rfl ⟨rfl, rfl, rfl, by decide⟩ (fun _ => rfl) rfl (fun _ => rfl) hl.1 (Nat.le_of_ble_eq_true rfl) rfl dX7_statistic_7 (fun _ _ H locs B => ?_)
  refine z_ifeq_b S (pc := 10) (tgt := 17) dX7_statistic_10 rfl (fun c2 => ?_) (fun c2 => absurd c2 (by omega))
  refine z_iload_n S (pc := 17) dX7_statistic_17 rfl (lv_at hl 2 rfl) ?_
  refine z_if_ne S (pc := 18) (tgt := 34) (by omega) dX7_statistic_18 rfl (fun c3 => ?_) (fun c3 => absurd c3 (by omega))
  refine z_iload_n S (pc := 34) dX7_statistic_34 rfl (lv_at hl 2 rfl) ?_
  refine z_iconst S (pc := 35) dX7_statistic_35 ?_
  refine z_icmp_ne S (pc := 36) (tgt := 52) (by omega) (by omega) dX7_statistic_36 rfl (fun c4 => absurd c4 (by omega)) (fun c4 => ?_)
  refine z_aload_n S (pc := 39) dX7_statistic_39 rfl (lv_at hl 0 rfl) ?_
  refine z_get S (pc := 40) B iX7_statistic_X7 0 rfl rfl 0 (by decide) rfl rfl (by decide +kernel) dX7_statistic_40 ?_
  refine z_get S (pc := 43) B iX7_statistic_X6 1 rfl rfl 1 (by decide) rfl rfl (by decide +kernel) dX7_statistic_43 ?_
  refine z_iload_n S (pc := 46) dX7_statistic_46 rfl (lv_at hl 1 rfl) ?_
  refine z_iconst S (pc := 47) dX7_statistic_47 ?_
  refine z_callV S (pc := 48) B (wr := [cSlo u o x1 x2 x3 x4 x5, cSta o a h]) (wn := fun _ => [cSlo u o x1 x2 x3 x4 x5, cSta o a h, cLog h i σ, cRow E i ρ]) (st1 := fun _ => [.long (iL (sumL ρ 3 (nfr (σ 14) fro).toNat (ffr (σ 14) fro) 0))]) (As := [.int (iI fro), .int (iI 3)]) (mX1_sumFrom l E h i σ ρ fro 3 (show 0 ≤ σ 14 ∧ σ 14 ≤ 20000 from by omega) (show inI fro from by omega) (show 3 ≤ 6 from by omega)) gX7_statistic_X1_sumFrom 2 rfl (by decide +kernel) ⟨Nat.le_of_ble_eq_true rfl, Nat.le_of_ble_eq_true rfl, Nat.le_of_ble_eq_true rfl, Nat.le_of_ble_eq_true rfl⟩ 0 rfl (q := (RX1, TX1, 2)) rfl rfl [2, 3] [0, 1] [0, 1, 2, 3] rfl rfl ⟨rfl, rfl, rfl, by decide⟩ (fun _ => rfl) rfl (fun _ => rfl) hl.1 (Nat.le_of_ble_eq_true rfl) rfl dX7_statistic_48 (fun _ _ H locs B => ?_)
  exact z_lreturn S hr hlk B () trivial rfl rfl (pc := 51) dX7_statistic_51
set_option maxHeartbeats 4000000 in
set_option maxRecDepth 100000 in
theorem mX7_statistic_1n (l : Launch) (E : gT) (u : Nat) (o : Nat) (x1 : Nat) (x2 : Nat) (x3 : Nat) (x4 : Nat) (x5 : Nat) (a : Nat) (b : Nat) (f : Nat) (g : Nat) (σ : Nat → Int) (ov : Int) (rr : Int) (rb : Int) (rn : Int) (h : Nat) (i : Nat) (ρ : Nat → Int) (fro : Int) (hf : 0 ≤ fro ∧ fro ≤ 2147483647) (h14 : 0 ≤ σ 14 ∧ σ 14 ≤ 20000) (hnz : nfr (σ 14) fro = 0) : Cd l E yX7_statistic wsX7_statistic 5 113 0 0 [.ref u, .int (iI fro), .int (iI 1)] [cSlo u o x1 x2 x3 x4 x5, cSta o a h, cLog h i σ] (some (.long (iL (-1000000000000000006)))) [cSlo u o x1 x2 x3 x4 x5, cSta o a h, cLog h i σ] := by
  refine Ct.mk (cc := cX7_statistic) (maxL := 3) (ret := (some .long)) (plainFor_of_name (by decide)) rfl (Nat.le_of_ble_eq_true rfl) ?_
  intro p e s m below meth c A ls H locs S hr hlk hnm B hl
  have S : CallFix p m c cX7_statistic 3 s #[.ref u, .int (iI fro), .int (iI 1)] wsX7_statistic RX7 := S
  have hl : lv_has ls 3 [(0, .ref u), (1, .int (iI fro)), (2, .int (iI 1))] := hl
  have hff := ffr_bd (n := σ 14) (f := fro) h14
  have hnf : 0 ≤ nfr (σ 14) fro ∧ nfr (σ 14) fro ≤ 20000 := by unfold nfr; omega
  refine z_iload_n S (pc := 0) dX7_statistic_0 rfl (lv_at hl 1 rfl) ?_
  refine z_if_lt S (pc := 1) (tgt := 13) (by omega) dX7_statistic_1 rfl (fun c1 => absurd c1 (by omega)) (fun c1 => ?_)
  refine z_iload_n S (pc := 4) dX7_statistic_4 rfl (lv_at hl 2 rfl) ?_
  refine z_iconst S (pc := 5) dX7_statistic_5 ?_
  refine z_iconst S (pc := 6) dX7_statistic_6 ?_
  refine z_callS S (pc := 7) B (wr := [cSlo u o x1 x2 x3 x4 x5, cSta o a h, cLog h i σ]) (wn := fun _ => [cSlo u o x1 x2 x3 x4 x5, cSta o a h, cLog h i σ]) (st1 := fun _ => [.int (iI (bI (1 < 0 ∨ 4 < 1)))]) (As := [.int (iI 1), .int (iI 0), .int (iI 4)]) (mX7_isOutside l E 1 0 4 (show inI 1 ∧ inI 0 ∧ inI 4 from by omega)) gX7_statistic_X7_isOutside 3 rfl (by decide +kernel) ⟨Nat.le_of_ble_eq_true rfl, Nat.le_of_ble_eq_true rfl, Nat.le_of_ble_eq_true rfl, Nat.le_of_ble_eq_true rfl⟩ [] [0, 1, 2] [0, 1, 2] rfl rfl ⟨rfl, rfl, rfl, by decide⟩ (fun _ => rfl) rfl (fun _ => rfl) hl.1 (Nat.le_of_ble_eq_true rfl) rfl dX7_statistic_7 (fun _ _ H locs B => ?_)
  refine z_ifeq_b S (pc := 10) (tgt := 17) dX7_statistic_10 rfl (fun c2 => ?_) (fun c2 => absurd c2 (by omega))
  refine z_iload_n S (pc := 17) dX7_statistic_17 rfl (lv_at hl 2 rfl) ?_
  refine z_if_ne S (pc := 18) (tgt := 34) (by omega) dX7_statistic_18 rfl (fun c3 => ?_) (fun c3 => absurd c3 (by omega))
  refine z_iload_n S (pc := 34) dX7_statistic_34 rfl (lv_at hl 2 rfl) ?_
  refine z_iconst S (pc := 35) dX7_statistic_35 ?_
  refine z_icmp_ne S (pc := 36) (tgt := 52) (by omega) (by omega) dX7_statistic_36 rfl (fun c4 => ?_) (fun c4 => absurd c4 (by omega))
  refine z_aload_n S (pc := 52) dX7_statistic_52 rfl (lv_at hl 0 rfl) ?_
  refine z_get S (pc := 53) B iX7_statistic_X7 0 rfl rfl 0 (by decide) rfl rfl (by decide +kernel) dX7_statistic_53 ?_
  refine z_get S (pc := 56) B iX7_statistic_X6 1 rfl rfl 1 (by decide) rfl rfl (by decide +kernel) dX7_statistic_56 ?_
  refine z_iload_n S (pc := 59) dX7_statistic_59 rfl (lv_at hl 1 rfl) ?_
  refine z_callV S (pc := 60) B (wr := [cSlo u o x1 x2 x3 x4 x5, cSta o a h]) (wn := fun _ => [cSlo u o x1 x2 x3 x4 x5, cSta o a h, cLog h i σ]) (st1 := fun _ => [.int (iI (nfr (σ 14) fro))]) (As := [.int (iI fro)]) (mX1_numberFrom l E h i σ fro (show 0 ≤ σ 14 ∧ σ 14 ≤ 20000 from by omega) (show inI fro from by omega)) gX7_statistic_X1_numberFrom 1 rfl (by decide +kernel) ⟨Nat.le_of_ble_eq_true rfl, Nat.le_of_ble_eq_true rfl, Nat.le_of_ble_eq_true rfl, Nat.le_of_ble_eq_true rfl⟩ 0 rfl (q := (RX1, TX1, 2)) rfl rfl [2] [0, 1] [0, 1, 2] rfl rfl ⟨rfl, rfl, rfl, by decide⟩ (fun _ => rfl) rfl (fun _ => rfl) hl.1 (Nat.le_of_ble_eq_true rfl) rfl dX7_statistic_60 (fun _ _ H locs B => ?_)
  refine z_if_ne S (pc := 63) (tgt := 70) (by omega) dX7_statistic_63 rfl (fun c5 => absurd c5 (by omega)) (fun c5 => ?_)
  refine z_ldc2 S (pc := 66) (x := (-1000000000000000006)) (by decide +kernel) rfl dX7_statistic_66 ?_
  exact z_lreturn S hr hlk B () trivial rfl rfl (pc := 69) dX7_statistic_69
set_option maxHeartbeats 4000000 in
set_option maxRecDepth 100000 in
theorem mX7_statistic_2n (l : Launch) (E : gT) (u : Nat) (o : Nat) (x1 : Nat) (x2 : Nat) (x3 : Nat) (x4 : Nat) (x5 : Nat) (a : Nat) (b : Nat) (f : Nat) (g : Nat) (σ : Nat → Int) (ov : Int) (rr : Int) (rb : Int) (rn : Int) (h : Nat) (i : Nat) (ρ : Nat → Int) (fro : Int) (hf : 0 ≤ fro ∧ fro ≤ 2147483647) (h14 : 0 ≤ σ 14 ∧ σ 14 ≤ 20000) (hnz : nfr (σ 14) fro = 0) : Cd l E yX7_statistic wsX7_statistic 5 113 0 0 [.ref u, .int (iI fro), .int (iI 2)] [cSlo u o x1 x2 x3 x4 x5, cSta o a h, cLog h i σ] (some (.long (iL (-1000000000000000006)))) [cSlo u o x1 x2 x3 x4 x5, cSta o a h, cLog h i σ] := by
  refine Ct.mk (cc := cX7_statistic) (maxL := 3) (ret := (some .long)) (plainFor_of_name (by decide)) rfl (Nat.le_of_ble_eq_true rfl) ?_
  intro p e s m below meth c A ls H locs S hr hlk hnm B hl
  have S : CallFix p m c cX7_statistic 3 s #[.ref u, .int (iI fro), .int (iI 2)] wsX7_statistic RX7 := S
  have hl : lv_has ls 3 [(0, .ref u), (1, .int (iI fro)), (2, .int (iI 2))] := hl
  have hff := ffr_bd (n := σ 14) (f := fro) h14
  have hnf : 0 ≤ nfr (σ 14) fro ∧ nfr (σ 14) fro ≤ 20000 := by unfold nfr; omega
  refine z_iload_n S (pc := 0) dX7_statistic_0 rfl (lv_at hl 1 rfl) ?_
  refine z_if_lt S (pc := 1) (tgt := 13) (by omega) dX7_statistic_1 rfl (fun c1 => absurd c1 (by omega)) (fun c1 => ?_)
  refine z_iload_n S (pc := 4) dX7_statistic_4 rfl (lv_at hl 2 rfl) ?_
  refine z_iconst S (pc := 5) dX7_statistic_5 ?_
  refine z_iconst S (pc := 6) dX7_statistic_6 ?_
  refine z_callS S (pc := 7) B (wr := [cSlo u o x1 x2 x3 x4 x5, cSta o a h, cLog h i σ]) (wn := fun _ => [cSlo u o x1 x2 x3 x4 x5, cSta o a h, cLog h i σ]) (st1 := fun _ => [.int (iI (bI (2 < 0 ∨ 4 < 2)))]) (As := [.int (iI 2), .int (iI 0), .int (iI 4)]) (mX7_isOutside l E 2 0 4 (show inI 2 ∧ inI 0 ∧ inI 4 from by omega)) gX7_statistic_X7_isOutside 3 rfl (by decide +kernel) ⟨Nat.le_of_ble_eq_true rfl, Nat.le_of_ble_eq_true rfl, Nat.le_of_ble_eq_true rfl, Nat.le_of_ble_eq_true rfl⟩ [] [0, 1, 2] [0, 1, 2] rfl rfl ⟨rfl, rfl, rfl, by decide⟩ (fun _ => rfl) rfl (fun _ => rfl) hl.1 (Nat.le_of_ble_eq_true rfl) rfl dX7_statistic_7 (fun _ _ H locs B => ?_)
  refine z_ifeq_b S (pc := 10) (tgt := 17) dX7_statistic_10 rfl (fun c2 => ?_) (fun c2 => absurd c2 (by omega))
  refine z_iload_n S (pc := 17) dX7_statistic_17 rfl (lv_at hl 2 rfl) ?_
  refine z_if_ne S (pc := 18) (tgt := 34) (by omega) dX7_statistic_18 rfl (fun c3 => ?_) (fun c3 => absurd c3 (by omega))
  refine z_iload_n S (pc := 34) dX7_statistic_34 rfl (lv_at hl 2 rfl) ?_
  refine z_iconst S (pc := 35) dX7_statistic_35 ?_
  refine z_icmp_ne S (pc := 36) (tgt := 52) (by omega) (by omega) dX7_statistic_36 rfl (fun c4 => ?_) (fun c4 => absurd c4 (by omega))
  refine z_aload_n S (pc := 52) dX7_statistic_52 rfl (lv_at hl 0 rfl) ?_
  refine z_get S (pc := 53) B iX7_statistic_X7 0 rfl rfl 0 (by decide) rfl rfl (by decide +kernel) dX7_statistic_53 ?_
  refine z_get S (pc := 56) B iX7_statistic_X6 1 rfl rfl 1 (by decide) rfl rfl (by decide +kernel) dX7_statistic_56 ?_
  refine z_iload_n S (pc := 59) dX7_statistic_59 rfl (lv_at hl 1 rfl) ?_
  refine z_callV S (pc := 60) B (wr := [cSlo u o x1 x2 x3 x4 x5, cSta o a h]) (wn := fun _ => [cSlo u o x1 x2 x3 x4 x5, cSta o a h, cLog h i σ]) (st1 := fun _ => [.int (iI (nfr (σ 14) fro))]) (As := [.int (iI fro)]) (mX1_numberFrom l E h i σ fro (show 0 ≤ σ 14 ∧ σ 14 ≤ 20000 from by omega) (show inI fro from by omega)) gX7_statistic_X1_numberFrom 1 rfl (by decide +kernel) ⟨Nat.le_of_ble_eq_true rfl, Nat.le_of_ble_eq_true rfl, Nat.le_of_ble_eq_true rfl, Nat.le_of_ble_eq_true rfl⟩ 0 rfl (q := (RX1, TX1, 2)) rfl rfl [2] [0, 1] [0, 1, 2] rfl rfl ⟨rfl, rfl, rfl, by decide⟩ (fun _ => rfl) rfl (fun _ => rfl) hl.1 (Nat.le_of_ble_eq_true rfl) rfl dX7_statistic_60 (fun _ _ H locs B => ?_)
  refine z_if_ne S (pc := 63) (tgt := 70) (by omega) dX7_statistic_63 rfl (fun c5 => absurd c5 (by omega)) (fun c5 => ?_)
  refine z_ldc2 S (pc := 66) (x := (-1000000000000000006)) (by decide +kernel) rfl dX7_statistic_66 ?_
  exact z_lreturn S hr hlk B () trivial rfl rfl (pc := 69) dX7_statistic_69
set_option maxHeartbeats 4000000 in
set_option maxRecDepth 100000 in
theorem mX7_statistic_3n (l : Launch) (E : gT) (u : Nat) (o : Nat) (x1 : Nat) (x2 : Nat) (x3 : Nat) (x4 : Nat) (x5 : Nat) (a : Nat) (b : Nat) (f : Nat) (g : Nat) (σ : Nat → Int) (ov : Int) (rr : Int) (rb : Int) (rn : Int) (h : Nat) (i : Nat) (ρ : Nat → Int) (fro : Int) (hf : 0 ≤ fro ∧ fro ≤ 2147483647) (h14 : 0 ≤ σ 14 ∧ σ 14 ≤ 20000) (hnz : nfr (σ 14) fro = 0) : Cd l E yX7_statistic wsX7_statistic 5 113 0 0 [.ref u, .int (iI fro), .int (iI 3)] [cSlo u o x1 x2 x3 x4 x5, cSta o a h, cLog h i σ] (some (.long (iL (-1000000000000000006)))) [cSlo u o x1 x2 x3 x4 x5, cSta o a h, cLog h i σ] := by
  refine Ct.mk (cc := cX7_statistic) (maxL := 3) (ret := (some .long)) (plainFor_of_name (by decide)) rfl (Nat.le_of_ble_eq_true rfl) ?_
  intro p e s m below meth c A ls H locs S hr hlk hnm B hl
  have S : CallFix p m c cX7_statistic 3 s #[.ref u, .int (iI fro), .int (iI 3)] wsX7_statistic RX7 := S
  have hl : lv_has ls 3 [(0, .ref u), (1, .int (iI fro)), (2, .int (iI 3))] := hl
  have hff := ffr_bd (n := σ 14) (f := fro) h14
  have hnf : 0 ≤ nfr (σ 14) fro ∧ nfr (σ 14) fro ≤ 20000 := by unfold nfr; omega
  refine z_iload_n S (pc := 0) dX7_statistic_0 rfl (lv_at hl 1 rfl) ?_
  refine z_if_lt S (pc := 1) (tgt := 13) (by omega) dX7_statistic_1 rfl (fun c1 => absurd c1 (by omega)) (fun c1 => ?_)
  refine z_iload_n S (pc := 4) dX7_statistic_4 rfl (lv_at hl 2 rfl) ?_
  refine z_iconst S (pc := 5) dX7_statistic_5 ?_
  refine z_iconst S (pc := 6) dX7_statistic_6 ?_
  refine z_callS S (pc := 7) B (wr := [cSlo u o x1 x2 x3 x4 x5, cSta o a h, cLog h i σ]) (wn := fun _ => [cSlo u o x1 x2 x3 x4 x5, cSta o a h, cLog h i σ]) (st1 := fun _ => [.int (iI (bI (3 < 0 ∨ 4 < 3)))]) (As := [.int (iI 3), .int (iI 0), .int (iI 4)]) (mX7_isOutside l E 3 0 4 (show inI 3 ∧ inI 0 ∧ inI 4 from by omega)) gX7_statistic_X7_isOutside 3 rfl (by decide +kernel) ⟨Nat.le_of_ble_eq_true rfl, Nat.le_of_ble_eq_true rfl, Nat.le_of_ble_eq_true rfl, Nat.le_of_ble_eq_true rfl⟩ [] [0, 1, 2] [0, 1, 2] rfl rfl ⟨rfl, rfl, rfl, by decide⟩ (fun _ => rfl) rfl (fun _ => rfl) hl.1 (Nat.le_of_ble_eq_true rfl) rfl dX7_statistic_7 (fun _ _ H locs B => ?_)
  refine z_ifeq_b S (pc := 10) (tgt := 17) dX7_statistic_10 rfl (fun c2 => ?_) (fun c2 => absurd c2 (by omega))
  refine z_iload_n S (pc := 17) dX7_statistic_17 rfl (lv_at hl 2 rfl) ?_
  refine z_if_ne S (pc := 18) (tgt := 34) (by omega) dX7_statistic_18 rfl (fun c3 => ?_) (fun c3 => absurd c3 (by omega))
  refine z_iload_n S (pc := 34) dX7_statistic_34 rfl (lv_at hl 2 rfl) ?_
  refine z_iconst S (pc := 35) dX7_statistic_35 ?_
  refine z_icmp_ne S (pc := 36) (tgt := 52) (by omega) (by omega) dX7_statistic_36 rfl (fun c4 => ?_) (fun c4 => absurd c4 (by omega))
  refine z_aload_n S (pc := 52) dX7_statistic_52 rfl (lv_at hl 0 rfl) ?_
  refine z_get S (pc := 53) B iX7_statistic_X7 0 rfl rfl 0 (by decide) rfl rfl (by decide +kernel) dX7_statistic_53 ?_
  refine z_get S (pc := 56) B iX7_statistic_X6 1 rfl rfl 1 (by decide) rfl rfl (by decide +kernel) dX7_statistic_56 ?_
  refine z_iload_n S (pc := 59) dX7_statistic_59 rfl (lv_at hl 1 rfl) ?_
  refine z_callV S (pc := 60) B (wr := [cSlo u o x1 x2 x3 x4 x5, cSta o a h]) (wn := fun _ => [cSlo u o x1 x2 x3 x4 x5, cSta o a h, cLog h i σ]) (st1 := fun _ => [.int (iI (nfr (σ 14) fro))]) (As := [.int (iI fro)]) (mX1_numberFrom l E h i σ fro (show 0 ≤ σ 14 ∧ σ 14 ≤ 20000 from by omega) (show inI fro from by omega)) gX7_statistic_X1_numberFrom 1 rfl (by decide +kernel) ⟨Nat.le_of_ble_eq_true rfl, Nat.le_of_ble_eq_true rfl, Nat.le_of_ble_eq_true rfl, Nat.le_of_ble_eq_true rfl⟩ 0 rfl (q := (RX1, TX1, 2)) rfl rfl [2] [0, 1] [0, 1, 2] rfl rfl ⟨rfl, rfl, rfl, by decide⟩ (fun _ => rfl) rfl (fun _ => rfl) hl.1 (Nat.le_of_ble_eq_true rfl) rfl dX7_statistic_60 (fun _ _ H locs B => ?_)
  refine z_if_ne S (pc := 63) (tgt := 70) (by omega) dX7_statistic_63 rfl (fun c5 => absurd c5 (by omega)) (fun c5 => ?_)
  refine z_ldc2 S (pc := 66) (x := (-1000000000000000006)) (by decide +kernel) rfl dX7_statistic_66 ?_
  exact z_lreturn S hr hlk B () trivial rfl rfl (pc := 69) dX7_statistic_69
set_option maxHeartbeats 4000000 in
set_option maxRecDepth 100000 in
theorem mX7_statistic_1 (l : Launch) (E : gT) (u : Nat) (o : Nat) (x1 : Nat) (x2 : Nat) (x3 : Nat) (x4 : Nat) (x5 : Nat) (a : Nat) (b : Nat) (f : Nat) (g : Nat) (σ : Nat → Int) (ov : Int) (rr : Int) (rb : Int) (rn : Int) (h : Nat) (i : Nat) (ρ : Nat → Int) (fro : Int) (hf : 0 ≤ fro ∧ fro ≤ 2147483647) (h14 : 0 ≤ σ 14 ∧ σ 14 ≤ 20000) (hR : inR ρ) (hnz : 0 < nfr (σ 14) fro) : Cd l E yX7_statistic wsX7_statistic 5 113 0 0 [.ref u, .int (iI fro), .int (iI 1)] [cSlo u o x1 x2 x3 x4 x5, cSta o a h, cLog h i σ, cRow E i ρ] (some (.long (iL (minL ρ (nfr (σ 14) fro).toNat (ffr (σ 14) fro) (lrow ρ (ffr (σ 14) fro) 0))))) [cSlo u o x1 x2 x3 x4 x5, cSta o a h, cLog h i σ, cRow E i ρ] := by
  refine Ct.mk (cc := cX7_statistic) (maxL := 3) (ret := (some .long)) (plainFor_of_name (by decide)) rfl (Nat.le_of_ble_eq_true rfl) ?_
  intro p e s m below meth c A ls H locs S hr hlk hnm B hl
  have S : CallFix p m c cX7_statistic 3 s #[.ref u, .int (iI fro), .int (iI 1)] wsX7_statistic RX7 := S
  have hl : lv_has ls 3 [(0, .ref u), (1, .int (iI fro)), (2, .int (iI 1))] := hl
  have hff := ffr_bd (n := σ 14) (f := fro) h14
  have hnf : 0 ≤ nfr (σ 14) fro ∧ nfr (σ 14) fro ≤ 20000 := by unfold nfr; omega
  refine z_iload_n S (pc := 0) dX7_statistic_0 rfl (lv_at hl 1 rfl) ?_
  refine z_if_lt S (pc := 1) (tgt := 13) (by omega) dX7_statistic_1 rfl (fun c1 => absurd c1 (by omega)) (fun c1 => ?_)
  refine z_iload_n S (pc := 4) dX7_statistic_4 rfl (lv_at hl 2 rfl) ?_
  refine z_iconst S (pc := 5) dX7_statistic_5 ?_
  refine z_iconst S (pc := 6) dX7_statistic_6 ?_
  refine z_callS S (pc := 7) B (wr := [cSlo u o x1 x2 x3 x4 x5, cSta o a h, cLog h i σ, cRow E i ρ]) (wn := fun _ => [cSlo u o x1 x2 x3 x4 x5, cSta o a h, cLog h i σ, cRow E i ρ]) (st1 := fun _ => [.int (iI (bI (1 < 0 ∨ 4 < 1)))]) (As := [.int (iI 1), .int (iI 0), .int (iI 4)]) (mX7_isOutside l E 1 0 4 (show inI 1 ∧ inI 0 ∧ inI 4 from by omega)) gX7_statistic_X7_isOutside 3 rfl (by decide +kernel) ⟨Nat.le_of_ble_eq_true rfl, Nat.le_of_ble_eq_true rfl, Nat.le_of_ble_eq_true rfl, Nat.le_of_ble_eq_true rfl⟩ [] [0, 1, 2, 3] [0, 1, 2, 3] rfl rfl ⟨rfl, rfl, rfl, by decide⟩ (fun _ => rfl) rfl (fun _ => rfl) hl.1 (Nat.le_of_ble_eq_true rfl) rfl dX7_statistic_7 (fun _ _ H locs B => ?_)
  refine z_ifeq_b S (pc := 10) (tgt := 17) dX7_statistic_10 rfl (fun c2 => ?_) (fun c2 => absurd c2 (by omega))
  refine z_iload_n S (pc := 17) dX7_statistic_17 rfl (lv_at hl 2 rfl) ?_
  refine z_if_ne S (pc := 18) (tgt := 34) (by omega) dX7_statistic_18 rfl (fun c3 => ?_) (fun c3 => absurd c3 (by omega))
  refine z_iload_n S (pc := 34) dX7_statistic_34 rfl (lv_at hl 2 rfl) ?_
  refine z_iconst S (pc := 35) dX7_statistic_35 ?_
  refine z_icmp_ne S (pc := 36) (tgt := 52) (by omega) (by omega) dX7_statistic_36 rfl (fun c4 => ?_) (fun c4 => absurd c4 (by omega))
  refine z_aload_n S (pc := 52) dX7_statistic_52 rfl (lv_at hl 0 rfl) ?_
  refine z_get S (pc := 53) B iX7_statistic_X7 0 rfl rfl 0 (by decide) rfl rfl (by decide +kernel) dX7_statistic_53 ?_
  refine z_get S (pc := 56) B iX7_statistic_X6 1 rfl rfl 1 (by decide) rfl rfl (by decide +kernel) dX7_statistic_56 ?_
  refine z_iload_n S (pc := 59) dX7_statistic_59 rfl (lv_at hl 1 rfl) ?_
  refine z_callV S (pc := 60) B (wr := [cSlo u o x1 x2 x3 x4 x5, cSta o a h, cRow E i ρ]) (wn := fun _ => [cSlo u o x1 x2 x3 x4 x5, cSta o a h, cLog h i σ, cRow E i ρ]) (st1 := fun _ => [.int (iI (nfr (σ 14) fro))]) (As := [.int (iI fro)]) (mX1_numberFrom l E h i σ fro (show 0 ≤ σ 14 ∧ σ 14 ≤ 20000 from by omega) (show inI fro from by omega)) gX7_statistic_X1_numberFrom 1 rfl (by decide +kernel) ⟨Nat.le_of_ble_eq_true rfl, Nat.le_of_ble_eq_true rfl, Nat.le_of_ble_eq_true rfl, Nat.le_of_ble_eq_true rfl⟩ 0 rfl (q := (RX1, TX1, 2)) rfl rfl [2] [0, 1, 3] [0, 1, 3, 2] rfl rfl ⟨rfl, rfl, rfl, by decide⟩ (fun _ => rfl) rfl (fun _ => rfl) hl.1 (Nat.le_of_ble_eq_true rfl) rfl dX7_statistic_60 (fun _ _ H locs B => ?_)
  refine z_if_ne S (pc := 63) (tgt := 70) (by omega) dX7_statistic_63 rfl (fun c5 => ?_) (fun c5 => absurd c5 (by omega))
  refine z_iload_n S (pc := 70) dX7_statistic_70 rfl (lv_at hl 2 rfl) ?_
  refine z_iconst S (pc := 71) dX7_statistic_71 ?_
  refine z_icmp_ne S (pc := 72) (tgt := 87) (by omega) (by omega) dX7_statistic_72 rfl (fun c6 => absurd c6 (by omega)) (fun c6 => ?_)
  refine z_aload_n S (pc := 75) dX7_statistic_75 rfl (lv_at hl 0 rfl) ?_
  refine z_get S (pc := 76) B iX7_statistic_X7 0 rfl rfl 0 (by decide) rfl rfl (by decide +kernel) dX7_statistic_76 ?_
  refine z_get S (pc := 79) B iX7_statistic_X6 1 rfl rfl 1 (by decide) rfl rfl (by decide +kernel) dX7_statistic_79 ?_
  refine z_iload_n S (pc := 82) dX7_statistic_82 rfl (lv_at hl 1 rfl) ?_
  refine z_callV S (pc := 83) B (wr := [cSlo u o x1 x2 x3 x4 x5, cSta o a h]) (wn := fun _ => [cSlo u o x1 x2 x3 x4 x5, cSta o a h, cLog h i σ, cRow E i ρ]) (st1 := fun _ => [.long (iL (minL ρ (nfr (σ 14) fro).toNat (ffr (σ 14) fro) (lrow ρ (ffr (σ 14) fro) 0)))]) (As := [.int (iI fro)]) (mX1_leastFrom l E h i σ ρ fro (show 0 ≤ σ 14 ∧ σ 14 ≤ 20000 from by omega) (show inI fro from by omega) (show inR ρ from by assumption)) gX7_statistic_X1_leastFrom 1 rfl (by decide +kernel) ⟨Nat.le_of_ble_eq_true rfl, Nat.le_of_ble_eq_true rfl, Nat.le_of_ble_eq_true rfl, Nat.le_of_ble_eq_true rfl⟩ 0 rfl (q := (RX1, TX1, 2)) rfl rfl [2, 3] [0, 1] [0, 1, 2, 3] rfl rfl ⟨rfl, rfl, rfl, by decide⟩ (fun _ => rfl) rfl (fun _ => rfl) hl.1 (Nat.le_of_ble_eq_true rfl) rfl dX7_statistic_83 (fun _ _ H locs B => ?_)
  exact z_lreturn S hr hlk B () trivial rfl rfl (pc := 86) dX7_statistic_86
set_option maxHeartbeats 4000000 in
set_option maxRecDepth 100000 in
theorem mX7_statistic_2 (l : Launch) (E : gT) (u : Nat) (o : Nat) (x1 : Nat) (x2 : Nat) (x3 : Nat) (x4 : Nat) (x5 : Nat) (a : Nat) (b : Nat) (f : Nat) (g : Nat) (σ : Nat → Int) (ov : Int) (rr : Int) (rb : Int) (rn : Int) (h : Nat) (i : Nat) (ρ : Nat → Int) (fro : Int) (hf : 0 ≤ fro ∧ fro ≤ 2147483647) (h14 : 0 ≤ σ 14 ∧ σ 14 ≤ 20000) (hR : inR ρ) (hnz : 0 < nfr (σ 14) fro) : Cd l E yX7_statistic wsX7_statistic 5 113 0 0 [.ref u, .int (iI fro), .int (iI 2)] [cSlo u o x1 x2 x3 x4 x5, cSta o a h, cLog h i σ, cRow E i ρ] (some (.long (iL (maxL ρ (nfr (σ 14) fro).toNat (ffr (σ 14) fro) (lrow ρ (ffr (σ 14) fro) 0))))) [cSlo u o x1 x2 x3 x4 x5, cSta o a h, cLog h i σ, cRow E i ρ] := by
  refine Ct.mk (cc := cX7_statistic) (maxL := 3) (ret := (some .long)) (plainFor_of_name (by decide)) rfl (Nat.le_of_ble_eq_true rfl) ?_
  intro p e s m below meth c A ls H locs S hr hlk hnm B hl
  have S : CallFix p m c cX7_statistic 3 s #[.ref u, .int (iI fro), .int (iI 2)] wsX7_statistic RX7 := S
  have hl : lv_has ls 3 [(0, .ref u), (1, .int (iI fro)), (2, .int (iI 2))] := hl
  have hff := ffr_bd (n := σ 14) (f := fro) h14
  have hnf : 0 ≤ nfr (σ 14) fro ∧ nfr (σ 14) fro ≤ 20000 := by unfold nfr; omega
  refine z_iload_n S (pc := 0) dX7_statistic_0 rfl (lv_at hl 1 rfl) ?_
  refine z_if_lt S (pc := 1) (tgt := 13) (by omega) dX7_statistic_1 rfl (fun c1 => absurd c1 (by omega)) (fun c1 => ?_)
  refine z_iload_n S (pc := 4) dX7_statistic_4 rfl (lv_at hl 2 rfl) ?_
  refine z_iconst S (pc := 5) dX7_statistic_5 ?_
  refine z_iconst S (pc := 6) dX7_statistic_6 ?_
  refine z_callS S (pc := 7) B (wr := [cSlo u o x1 x2 x3 x4 x5, cSta o a h, cLog h i σ, cRow E i ρ]) (wn := fun _ => [cSlo u o x1 x2 x3 x4 x5, cSta o a h, cLog h i σ, cRow E i ρ]) (st1 := fun _ => [.int (iI (bI (2 < 0 ∨ 4 < 2)))]) (As := [.int (iI 2), .int (iI 0), .int (iI 4)]) (mX7_isOutside l E 2 0 4 (show inI 2 ∧ inI 0 ∧ inI 4 from by omega)) gX7_statistic_X7_isOutside 3 rfl (by decide +kernel) ⟨Nat.le_of_ble_eq_true rfl, Nat.le_of_ble_eq_true rfl, Nat.le_of_ble_eq_true rfl, Nat.le_of_ble_eq_true rfl⟩ [] [0, 1, 2, 3] [0, 1, 2, 3] rfl rfl ⟨rfl, rfl, rfl, by decide⟩ (fun _ => rfl) rfl (fun _ => rfl) hl.1 (Nat.le_of_ble_eq_true rfl) rfl dX7_statistic_7 (fun _ _ H locs B => ?_)
  refine z_ifeq_b S (pc := 10) (tgt := 17) dX7_statistic_10 rfl (fun c2 => ?_) (fun c2 => absurd c2 (by omega))
  refine z_iload_n S (pc := 17) dX7_statistic_17 rfl (lv_at hl 2 rfl) ?_
  refine z_if_ne S (pc := 18) (tgt := 34) (by omega) dX7_statistic_18 rfl (fun c3 => ?_) (fun c3 => absurd c3 (by omega))
  refine z_iload_n S (pc := 34) dX7_statistic_34 rfl (lv_at hl 2 rfl) ?_
  refine z_iconst S (pc := 35) dX7_statistic_35 ?_
  refine z_icmp_ne S (pc := 36) (tgt := 52) (by omega) (by omega) dX7_statistic_36 rfl (fun c4 => ?_) (fun c4 => absurd c4 (by omega))
  refine z_aload_n S (pc := 52) dX7_statistic_52 rfl (lv_at hl 0 rfl) ?_
  refine z_get S (pc := 53) B iX7_statistic_X7 0 rfl rfl 0 (by decide) rfl rfl (by decide +kernel) dX7_statistic_53 ?_
  refine z_get S (pc := 56) B iX7_statistic_X6 1 rfl rfl 1 (by decide) rfl rfl (by decide +kernel) dX7_statistic_56 ?_
  refine z_iload_n S (pc := 59) dX7_statistic_59 rfl (lv_at hl 1 rfl) ?_
  refine z_callV S (pc := 60) B (wr := [cSlo u o x1 x2 x3 x4 x5, cSta o a h, cRow E i ρ]) (wn := fun _ => [cSlo u o x1 x2 x3 x4 x5, cSta o a h, cLog h i σ, cRow E i ρ]) (st1 := fun _ => [.int (iI (nfr (σ 14) fro))]) (As := [.int (iI fro)]) (mX1_numberFrom l E h i σ fro (show 0 ≤ σ 14 ∧ σ 14 ≤ 20000 from by omega) (show inI fro from by omega)) gX7_statistic_X1_numberFrom 1 rfl (by decide +kernel) ⟨Nat.le_of_ble_eq_true rfl, Nat.le_of_ble_eq_true rfl, Nat.le_of_ble_eq_true rfl, Nat.le_of_ble_eq_true rfl⟩ 0 rfl (q := (RX1, TX1, 2)) rfl rfl [2] [0, 1, 3] [0, 1, 3, 2] rfl rfl ⟨rfl, rfl, rfl, by decide⟩ (fun _ => rfl) rfl (fun _ => rfl) hl.1 (Nat.le_of_ble_eq_true rfl) rfl dX7_statistic_60 (fun _ _ H locs B => ?_)
  refine z_if_ne S (pc := 63) (tgt := 70) (by omega) dX7_statistic_63 rfl (fun c5 => ?_) (fun c5 => absurd c5 (by omega))
  refine z_iload_n S (pc := 70) dX7_statistic_70 rfl (lv_at hl 2 rfl) ?_
  refine z_iconst S (pc := 71) dX7_statistic_71 ?_
  refine z_icmp_ne S (pc := 72) (tgt := 87) (by omega) (by omega) dX7_statistic_72 rfl (fun c6 => ?_) (fun c6 => absurd c6 (by omega))
  refine z_iload_n S (pc := 87) dX7_statistic_87 rfl (lv_at hl 2 rfl) ?_
  refine z_iconst S (pc := 88) dX7_statistic_88 ?_
  refine z_icmp_ne S (pc := 89) (tgt := 106) (by omega) (by omega) dX7_statistic_89 rfl (fun c7 => absurd c7 (by omega)) (fun c7 => ?_)
  refine z_aload_n S (pc := 92) dX7_statistic_92 rfl (lv_at hl 0 rfl) ?_
  refine z_get S (pc := 93) B iX7_statistic_X7 0 rfl rfl 0 (by decide) rfl rfl (by decide +kernel) dX7_statistic_93 ?_
  refine z_get S (pc := 96) B iX7_statistic_X6 1 rfl rfl 1 (by decide) rfl rfl (by decide +kernel) dX7_statistic_96 ?_
  refine z_iload_n S (pc := 99) dX7_statistic_99 rfl (lv_at hl 1 rfl) ?_
  refine z_callV S (pc := 100) B (wr := [cSlo u o x1 x2 x3 x4 x5, cSta o a h]) (wn := fun _ => [cSlo u o x1 x2 x3 x4 x5, cSta o a h, cLog h i σ, cRow E i ρ]) (st1 := fun _ => [.long (iL (maxL ρ (nfr (σ 14) fro).toNat (ffr (σ 14) fro) (lrow ρ (ffr (σ 14) fro) 0)))]) (As := [.int (iI fro)]) (mX1_greatestFrom l E h i σ ρ fro (show 0 ≤ σ 14 ∧ σ 14 ≤ 20000 from by omega) (show inI fro from by omega) (show inR ρ from by assumption)) gX7_statistic_X1_greatestFrom 1 rfl (by decide +kernel) ⟨Nat.le_of_ble_eq_true rfl, Nat.le_of_ble_eq_true rfl, Nat.le_of_ble_eq_true rfl, Nat.le_of_ble_eq_true rfl⟩ 0 rfl (q := (RX1, TX1, 2)) rfl rfl [2, 3] [0, 1] [0, 1, 2, 3] rfl rfl ⟨rfl, rfl, rfl, by decide⟩ (fun _ => rfl) rfl (fun _ => rfl) hl.1 (Nat.le_of_ble_eq_true rfl) rfl dX7_statistic_100 (fun _ _ H locs B => ?_)
  refine lv_goto S.1 S.2.1 (pc := 103) (tgt := 117) dX7_statistic_103 rfl ?_
  exact z_lreturn S hr hlk B () trivial rfl rfl (pc := 117) dX7_statistic_117
set_option maxHeartbeats 4000000 in
set_option maxRecDepth 100000 in
theorem mX7_statistic_3 (l : Launch) (E : gT) (u : Nat) (o : Nat) (x1 : Nat) (x2 : Nat) (x3 : Nat) (x4 : Nat) (x5 : Nat) (a : Nat) (b : Nat) (f : Nat) (g : Nat) (σ : Nat → Int) (ov : Int) (rr : Int) (rb : Int) (rn : Int) (h : Nat) (i : Nat) (ρ : Nat → Int) (fro : Int) (hf : 0 ≤ fro ∧ fro ≤ 2147483647) (h14 : 0 ≤ σ 14 ∧ σ 14 ≤ 20000) (hR : inR ρ) (hnz : 0 < nfr (σ 14) fro) : Cd l E yX7_statistic wsX7_statistic 5 113 0 0 [.ref u, .int (iI fro), .int (iI 3)] [cSlo u o x1 x2 x3 x4 x5, cSta o a h, cLog h i σ, cRow E i ρ] (some (.long (iL ((sumL ρ 0 (nfr (σ 14) fro).toNat (ffr (σ 14) fro) 0).tdiv (nfr (σ 14) fro))))) [cSlo u o x1 x2 x3 x4 x5, cSta o a h, cLog h i σ, cRow E i ρ] := by
  refine Ct.mk (cc := cX7_statistic) (maxL := 3) (ret := (some .long)) (plainFor_of_name (by decide)) rfl (Nat.le_of_ble_eq_true rfl) ?_
  intro p e s m below meth c A ls H locs S hr hlk hnm B hl
  have S : CallFix p m c cX7_statistic 3 s #[.ref u, .int (iI fro), .int (iI 3)] wsX7_statistic RX7 := S
  have hl : lv_has ls 3 [(0, .ref u), (1, .int (iI fro)), (2, .int (iI 3))] := hl
  have hff := ffr_bd (n := σ 14) (f := fro) h14
  have hnf : 0 ≤ nfr (σ 14) fro ∧ nfr (σ 14) fro ≤ 20000 := by unfold nfr; omega
  refine z_iload_n S (pc := 0) dX7_statistic_0 rfl (lv_at hl 1 rfl) ?_
  refine z_if_lt S (pc := 1) (tgt := 13) (by omega) dX7_statistic_1 rfl (fun c1 => absurd c1 (by omega)) (fun c1 => ?_)
  refine z_iload_n S (pc := 4) dX7_statistic_4 rfl (lv_at hl 2 rfl) ?_
  refine z_iconst S (pc := 5) dX7_statistic_5 ?_
  refine z_iconst S (pc := 6) dX7_statistic_6 ?_
  refine z_callS S (pc := 7) B (wr := [cSlo u o x1 x2 x3 x4 x5, cSta o a h, cLog h i σ, cRow E i ρ]) (wn := fun _ => [cSlo u o x1 x2 x3 x4 x5, cSta o a h, cLog h i σ, cRow E i ρ]) (st1 := fun _ => [.int (iI (bI (3 < 0 ∨ 4 < 3)))]) (As := [.int (iI 3), .int (iI 0), .int (iI 4)]) (mX7_isOutside l E 3 0 4 (show inI 3 ∧ inI 0 ∧ inI 4 from by omega)) gX7_statistic_X7_isOutside 3 rfl (by decide +kernel) ⟨Nat.le_of_ble_eq_true rfl, Nat.le_of_ble_eq_true rfl, Nat.le_of_ble_eq_true rfl, Nat.le_of_ble_eq_true rfl⟩ [] [0, 1, 2, 3] [0, 1, 2, 3] rfl rfl ⟨rfl, rfl, rfl, by decide⟩ (fun _ => rfl) rfl (fun _ => rfl) hl.1 (Nat.le_of_ble_eq_true rfl) rfl dX7_statistic_7 (fun _ _ H locs B => ?_)
  refine z_ifeq_b S (pc := 10) (tgt := 17) dX7_statistic_10 rfl (fun c2 => ?_) (fun c2 => absurd c2 (by omega))
  refine z_iload_n S (pc := 17) dX7_statistic_17 rfl (lv_at hl 2 rfl) ?_
  refine z_if_ne S (pc := 18) (tgt := 34) (by omega) dX7_statistic_18 rfl (fun c3 => ?_) (fun c3 => absurd c3 (by omega))
  refine z_iload_n S (pc := 34) dX7_statistic_34 rfl (lv_at hl 2 rfl) ?_
  refine z_iconst S (pc := 35) dX7_statistic_35 ?_
  refine z_icmp_ne S (pc := 36) (tgt := 52) (by omega) (by omega) dX7_statistic_36 rfl (fun c4 => ?_) (fun c4 => absurd c4 (by omega))
  refine z_aload_n S (pc := 52) dX7_statistic_52 rfl (lv_at hl 0 rfl) ?_
  refine z_get S (pc := 53) B iX7_statistic_X7 0 rfl rfl 0 (by decide) rfl rfl (by decide +kernel) dX7_statistic_53 ?_
  refine z_get S (pc := 56) B iX7_statistic_X6 1 rfl rfl 1 (by decide) rfl rfl (by decide +kernel) dX7_statistic_56 ?_
  refine z_iload_n S (pc := 59) dX7_statistic_59 rfl (lv_at hl 1 rfl) ?_
  refine z_callV S (pc := 60) B (wr := [cSlo u o x1 x2 x3 x4 x5, cSta o a h, cRow E i ρ]) (wn := fun _ => [cSlo u o x1 x2 x3 x4 x5, cSta o a h, cLog h i σ, cRow E i ρ]) (st1 := fun _ => [.int (iI (nfr (σ 14) fro))]) (As := [.int (iI fro)]) (mX1_numberFrom l E h i σ fro (show 0 ≤ σ 14 ∧ σ 14 ≤ 20000 from by omega) (show inI fro from by omega)) gX7_statistic_X1_numberFrom 1 rfl (by decide +kernel) ⟨Nat.le_of_ble_eq_true rfl, Nat.le_of_ble_eq_true rfl, Nat.le_of_ble_eq_true rfl, Nat.le_of_ble_eq_true rfl⟩ 0 rfl (q := (RX1, TX1, 2)) rfl rfl [2] [0, 1, 3] [0, 1, 3, 2] rfl rfl ⟨rfl, rfl, rfl, by decide⟩ (fun _ => rfl) rfl (fun _ => rfl) hl.1 (Nat.le_of_ble_eq_true rfl) rfl dX7_statistic_60 (fun _ _ H locs B => ?_)
  refine z_if_ne S (pc := 63) (tgt := 70) (by omega) dX7_statistic_63 rfl (fun c5 => ?_) (fun c5 => absurd c5 (by omega))
  refine z_iload_n S (pc := 70) dX7_statistic_70 rfl (lv_at hl 2 rfl) ?_
  refine z_iconst S (pc := 71) dX7_statistic_71 ?_
  refine z_icmp_ne S (pc := 72) (tgt := 87) (by omega) (by omega) dX7_statistic_72 rfl (fun c6 => ?_) (fun c6 => absurd c6 (by omega))
  refine z_iload_n S (pc := 87) dX7_statistic_87 rfl (lv_at hl 2 rfl) ?_
  refine z_iconst S (pc := 88) dX7_statistic_88 ?_
  refine z_icmp_ne S (pc := 89) (tgt := 106) (by omega) (by omega) dX7_statistic_89 rfl (fun c7 => ?_) (fun c7 => absurd c7 (by omega))
  refine z_aload_n S (pc := 106) dX7_statistic_106 rfl (lv_at hl 0 rfl) ?_
  refine z_get S (pc := 107) B iX7_statistic_X7 0 rfl rfl 0 (by decide) rfl rfl (by decide +kernel) dX7_statistic_107 ?_
  refine z_get S (pc := 110) B iX7_statistic_X6 1 rfl rfl 1 (by decide) rfl rfl (by decide +kernel) dX7_statistic_110 ?_
  refine z_iload_n S (pc := 113) dX7_statistic_113 rfl (lv_at hl 1 rfl) ?_
  refine z_callV S (pc := 114) B (wr := [cSlo u o x1 x2 x3 x4 x5, cSta o a h]) (wn := fun _ => [cSlo u o x1 x2 x3 x4 x5, cSta o a h, cLog h i σ, cRow E i ρ]) (st1 := fun _ => [.long (iL ((sumL ρ 0 (nfr (σ 14) fro).toNat (ffr (σ 14) fro) 0).tdiv (nfr (σ 14) fro)))]) (As := [.int (iI fro)]) (mX1_meanFrom l E h i σ ρ fro (show 0 ≤ σ 14 ∧ σ 14 ≤ 20000 from by omega) (show inI fro from by omega) (show inR ρ from by assumption) (show 0 < nfr (σ 14) fro from by omega)) gX7_statistic_X1_meanFrom 1 rfl (by decide +kernel) ⟨Nat.le_of_ble_eq_true rfl, Nat.le_of_ble_eq_true rfl, Nat.le_of_ble_eq_true rfl, Nat.le_of_ble_eq_true rfl⟩ 0 rfl (q := (RX1, TX1, 2)) rfl rfl [2, 3] [0, 1] [0, 1, 2, 3] rfl rfl ⟨rfl, rfl, rfl, by decide⟩ (fun _ => rfl) rfl (fun _ => rfl) hl.1 (Nat.le_of_ble_eq_true rfl) rfl dX7_statistic_114 (fun _ _ H locs B => ?_)
  exact z_lreturn S hr hlk B () trivial rfl rfl (pc := 117) dX7_statistic_117
set_option maxHeartbeats 4000000 in
set_option maxRecDepth 100000 in
theorem mX7_statistic_b (l : Launch) (E : gT) (u : Nat) (o : Nat) (x1 : Nat) (x2 : Nat) (x3 : Nat) (x4 : Nat) (x5 : Nat) (f : Int) (k : Int) (hI : inI f ∧ inI k) (hbad : (f < 0 ∨ k < 0 ∨ 4 < k)) : Cd l E yX7_statistic wsX7_statistic 5 113 0 0 [.ref u, .int (iI f), .int (iI k)] [cSlo u o x1 x2 x3 x4 x5] (some (.long (iL (-1000000000000000002)))) [cSlo u o x1 x2 x3 x4 x5] := by
  refine Ct.mk (cc := cX7_statistic) (maxL := 3) (ret := (some .long)) (plainFor_of_name (by decide)) rfl (Nat.le_of_ble_eq_true rfl) ?_
  intro p e s m below meth c A ls H locs S hr hlk hnm B hl
  have S : CallFix p m c cX7_statistic 3 s #[.ref u, .int (iI f), .int (iI k)] wsX7_statistic RX7 := S
  have hl : lv_has ls 3 [(0, .ref u), (1, .int (iI f)), (2, .int (iI k))] := hl
  refine z_iload_n S (pc := 0) dX7_statistic_0 rfl (lv_at hl 1 rfl) ?_
  refine z_if_lt S (pc := 1) (tgt := 13) (by omega) dX7_statistic_1 rfl (fun c1 => ?_) (fun c1 => ?_)
  · refine z_ldc2 S (pc := 13) (x := (-1000000000000000002)) (by decide +kernel) rfl dX7_statistic_13 ?_
    exact z_lreturn S hr hlk B () trivial rfl rfl (pc := 16) dX7_statistic_16
  · refine z_iload_n S (pc := 4) dX7_statistic_4 rfl (lv_at hl 2 rfl) ?_
    refine z_iconst S (pc := 5) dX7_statistic_5 ?_
    refine z_iconst S (pc := 6) dX7_statistic_6 ?_
    refine z_callS S (pc := 7) B (wr := [cSlo u o x1 x2 x3 x4 x5]) (wn := fun _ => [cSlo u o x1 x2 x3 x4 x5]) (st1 := fun _ => [.int (iI (bI (k < 0 ∨ 4 < k)))]) (As := [.int (iI k), .int (iI 0), .int (iI 4)]) (mX7_isOutside l E k 0 4 (show inI k ∧ inI 0 ∧ inI 4 from by omega)) gX7_statistic_X7_isOutside 3 rfl (by decide +kernel) ⟨Nat.le_of_ble_eq_true rfl, Nat.le_of_ble_eq_true rfl, Nat.le_of_ble_eq_true rfl, Nat.le_of_ble_eq_true rfl⟩ [] [0] [0] rfl rfl ⟨rfl, rfl, rfl, by decide⟩ (fun _ => rfl) rfl (fun _ => rfl) hl.1 (Nat.le_of_ble_eq_true rfl) rfl dX7_statistic_7 (fun _ _ H locs B => ?_)
    refine z_ifeq_b S (pc := 10) (tgt := 17) dX7_statistic_10 rfl (fun c2 => ?_) (fun c2 => ?_)
    · exact absurd hbad (by omega)
    · refine z_ldc2 S (pc := 13) (x := (-1000000000000000002)) (by decide +kernel) rfl dX7_statistic_13 ?_
      exact z_lreturn S hr hlk B () trivial rfl rfl (pc := 16) dX7_statistic_16
theorem iX7_count_X2 : ∀ w ∈ wsX20, w ∈ wsX7_count := by decide +kernel
theorem iX7_count_X6 : ∀ w ∈ wsX60, w ∈ wsX7_count := by decide +kernel
theorem iX7_count_X7 : ∀ w ∈ wsX70, w ∈ wsX7_count := by decide +kernel
set_option maxHeartbeats 4000000 in
set_option maxRecDepth 100000 in
theorem mX7_count_0 (l : Launch) (E : gT) (u : Nat) (o : Nat) (x1 : Nat) (x2 : Nat) (x3 : Nat) (x4 : Nat) (x5 : Nat) (a : Nat) (b : Nat) (f : Nat) (g : Nat) (σ : Nat → Int) (ov : Int) (rr : Int) (rb : Int) (rn : Int) (h : Nat) (i : Nat) (ρ : Nat → Int)  : Cd l E yX7_count wsX7_count 0 0 0 0 [.ref u, .int (iI 0)] [cSlo u o x1 x2 x3 x4 x5, cSta o a h, cMet a b f g σ rr rb rn] (some (.int (iI (σ 11)))) [cSlo u o x1 x2 x3 x4 x5, cSta o a h, cMet a b f g σ rr rb rn] := by
  refine Ct.mk (cc := cX7_count) (maxL := 2) (ret := (some .int)) (plainFor_of_name (by decide)) rfl (Nat.le_of_ble_eq_true rfl) ?_
  intro p e s m below meth c A ls H locs S hr hlk hnm B hl
  have S : CallFix p m c cX7_count 2 s #[.ref u, .int (iI 0)] wsX7_count RX7 := S
  have hl : lv_has ls 2 [(0, .ref u), (1, .int (iI 0))] := hl
  refine z_iload_n S (pc := 0) dX7_count_0 rfl (lv_at hl 1 rfl) ?_
  · refine z_tsw S (pc := 1) (tgt := 40) (by omega) dX7_count_1 (by omega) rfl rfl ?_
    refine z_aload_n S (pc := 40) dX7_count_40 rfl (lv_at hl 0 rfl) ?_
    refine z_get S (pc := 41) B iX7_count_X7 0 rfl rfl 0 (by decide) rfl rfl (by decide +kernel) dX7_count_41 ?_
    refine z_get S (pc := 44) B iX7_count_X6 1 rfl rfl 0 (by decide) rfl rfl (by decide +kernel) dX7_count_44 ?_
    refine z_get S (pc := 47) B iX7_count_X2 2 rfl rfl 3 (by decide) rfl rfl (by decide +kernel) dX7_count_47 ?_
    exact z_ireturn S hr hlk B () trivial rfl rfl (pc := 50) dX7_count_50
theorem iX7_count_X1 : ∀ w ∈ wsX10, w ∈ wsX7_count := by decide +kernel
set_option maxHeartbeats 4000000 in
set_option maxRecDepth 100000 in
theorem mX7_count_1 (l : Launch) (E : gT) (u : Nat) (o : Nat) (x1 : Nat) (x2 : Nat) (x3 : Nat) (x4 : Nat) (x5 : Nat) (a : Nat) (b : Nat) (f : Nat) (g : Nat) (σ : Nat → Int) (ov : Int) (rr : Int) (rb : Int) (rn : Int) (h : Nat) (i : Nat) (ρ : Nat → Int)  : Cd l E yX7_count wsX7_count 0 0 0 0 [.ref u, .int (iI 1)] [cSlo u o x1 x2 x3 x4 x5, cSta o a h, cLog h i σ] (some (.int (iI (σ 14)))) [cSlo u o x1 x2 x3 x4 x5, cSta o a h, cLog h i σ] := by
  refine Ct.mk (cc := cX7_count) (maxL := 2) (ret := (some .int)) (plainFor_of_name (by decide)) rfl (Nat.le_of_ble_eq_true rfl) ?_
  intro p e s m below meth c A ls H locs S hr hlk hnm B hl
  have S : CallFix p m c cX7_count 2 s #[.ref u, .int (iI 1)] wsX7_count RX7 := S
  have hl : lv_has ls 2 [(0, .ref u), (1, .int (iI 1))] := hl
  refine z_iload_n S (pc := 0) dX7_count_0 rfl (lv_at hl 1 rfl) ?_
  · refine z_tsw S (pc := 1) (tgt := 51) (by omega) dX7_count_1 (by omega) rfl rfl ?_
    refine z_aload_n S (pc := 51) dX7_count_51 rfl (lv_at hl 0 rfl) ?_
    refine z_get S (pc := 52) B iX7_count_X7 0 rfl rfl 0 (by decide) rfl rfl (by decide +kernel) dX7_count_52 ?_
    refine z_get S (pc := 55) B iX7_count_X6 1 rfl rfl 1 (by decide) rfl rfl (by decide +kernel) dX7_count_55 ?_
    refine z_get S (pc := 58) B iX7_count_X1 2 rfl rfl 1 (by decide) rfl rfl (by decide +kernel) dX7_count_58 ?_
    exact z_ireturn S hr hlk B () trivial rfl rfl (pc := 61) dX7_count_61
theorem iX7_count_X5 : ∀ w ∈ wsX50, w ∈ wsX7_count := by decide +kernel
set_option maxHeartbeats 4000000 in
set_option maxRecDepth 100000 in
theorem mX7_count_2 (l : Launch) (E : gT) (u : Nat) (o : Nat) (x1 : Nat) (x2 : Nat) (x3 : Nat) (x4 : Nat) (x5 : Nat) (a : Nat) (b : Nat) (f : Nat) (g : Nat) (σ : Nat → Int) (ov : Int) (rr : Int) (rb : Int) (rn : Int) (h : Nat) (i : Nat) (ρ : Nat → Int)  : Cd l E yX7_count wsX7_count 0 0 0 0 [.ref u, .int (iI 2)] [cSlo u o x1 x2 x3 x4 x5, cSta o a h, cMet a b f g σ rr rb rn, cSig b σ] (some (.int (iI (σ 0 + 10000000)))) [cSlo u o x1 x2 x3 x4 x5, cSta o a h, cMet a b f g σ rr rb rn, cSig b σ] := by
  refine Ct.mk (cc := cX7_count) (maxL := 2) (ret := (some .int)) (plainFor_of_name (by decide)) rfl (Nat.le_of_ble_eq_true rfl) ?_
  intro p e s m below meth c A ls H locs S hr hlk hnm B hl
  have S : CallFix p m c cX7_count 2 s #[.ref u, .int (iI 2)] wsX7_count RX7 := S
  have hl : lv_has ls 2 [(0, .ref u), (1, .int (iI 2))] := hl
  refine z_iload_n S (pc := 0) dX7_count_0 rfl (lv_at hl 1 rfl) ?_
  · refine z_tsw S (pc := 1) (tgt := 62) (by omega) dX7_count_1 (by omega) rfl rfl ?_
    refine z_aload_n S (pc := 62) dX7_count_62 rfl (lv_at hl 0 rfl) ?_
    refine z_get S (pc := 63) B iX7_count_X7 0 rfl rfl 0 (by decide) rfl rfl (by decide +kernel) dX7_count_63 ?_
    refine z_get S (pc := 66) B iX7_count_X6 1 rfl rfl 0 (by decide) rfl rfl (by decide +kernel) dX7_count_66 ?_
    refine z_get S (pc := 69) B iX7_count_X2 2 rfl rfl 0 (by decide) rfl rfl (by decide +kernel) dX7_count_69 ?_
    refine z_get S (pc := 72) B iX7_count_X5 3 rfl rfl 0 (by decide) rfl rfl (by decide +kernel) dX7_count_72 ?_
    refine z_ldc S (pc := 75) (x := 10000000) (by decide +kernel) rfl dX7_count_75 ?_
    refine z_iadd S (pc := 77) dX7_count_77 ?_
    exact z_ireturn S hr hlk B () trivial rfl rfl (pc := 78) dX7_count_78
set_option maxHeartbeats 4000000 in
set_option maxRecDepth 100000 in
theorem mX7_count_3 (l : Launch) (E : gT) (u : Nat) (o : Nat) (x1 : Nat) (x2 : Nat) (x3 : Nat) (x4 : Nat) (x5 : Nat) (a : Nat) (b : Nat) (f : Nat) (g : Nat) (σ : Nat → Int) (ov : Int) (rr : Int) (rb : Int) (rn : Int) (h : Nat) (i : Nat) (ρ : Nat → Int)  : Cd l E yX7_count wsX7_count 0 0 0 0 [.ref u, .int (iI 3)] [cSlo u o x1 x2 x3 x4 x5, cSta o a h, cMet a b f g σ rr rb rn] (some (.int (iI (σ 12 + 10000000)))) [cSlo u o x1 x2 x3 x4 x5, cSta o a h, cMet a b f g σ rr rb rn] := by
  refine Ct.mk (cc := cX7_count) (maxL := 2) (ret := (some .int)) (plainFor_of_name (by decide)) rfl (Nat.le_of_ble_eq_true rfl) ?_
  intro p e s m below meth c A ls H locs S hr hlk hnm B hl
  have S : CallFix p m c cX7_count 2 s #[.ref u, .int (iI 3)] wsX7_count RX7 := S
  have hl : lv_has ls 2 [(0, .ref u), (1, .int (iI 3))] := hl
  refine z_iload_n S (pc := 0) dX7_count_0 rfl (lv_at hl 1 rfl) ?_
  · refine z_tsw S (pc := 1) (tgt := 79) (by omega) dX7_count_1 (by omega) rfl rfl ?_
    refine z_aload_n S (pc := 79) dX7_count_79 rfl (lv_at hl 0 rfl) ?_
    refine z_get S (pc := 80) B iX7_count_X7 0 rfl rfl 0 (by decide) rfl rfl (by decide +kernel) dX7_count_80 ?_
    refine z_get S (pc := 83) B iX7_count_X6 1 rfl rfl 0 (by decide) rfl rfl (by decide +kernel) dX7_count_83 ?_
    refine z_get S (pc := 86) B iX7_count_X2 2 rfl rfl 4 (by decide) rfl rfl (by decide +kernel) dX7_count_86 ?_
    refine z_ldc S (pc := 89) (x := 10000000) (by decide +kernel) rfl dX7_count_89 ?_
    refine z_iadd S (pc := 91) dX7_count_91 ?_
    exact z_ireturn S hr hlk B () trivial rfl rfl (pc := 92) dX7_count_92
theorem iX7_count_X4 : ∀ w ∈ wsX40, w ∈ wsX7_count := by decide +kernel
set_option maxHeartbeats 4000000 in
set_option maxRecDepth 100000 in
theorem mX7_count_4 (l : Launch) (E : gT) (u : Nat) (o : Nat) (x1 : Nat) (x2 : Nat) (x3 : Nat) (x4 : Nat) (x5 : Nat) (a : Nat) (b : Nat) (f : Nat) (g : Nat) (σ : Nat → Int) (ov : Int) (rr : Int) (rb : Int) (rn : Int) (h : Nat) (i : Nat) (ρ : Nat → Int) (h8 : 0 < σ 8 ∧ σ 8 ≤ 10) : Cd l E yX7_count wsX7_count 0 0 0 0 [.ref u, .int (iI 4)] [cSlo u o x1 x2 x3 x4 x5, cSta o a h, cMet a b f g σ rr rb rn, cSet f σ] (some (.int (iI (σ 13)))) [cSlo u o x1 x2 x3 x4 x5, cSta o a h, cMet a b f g σ rr rb rn, cSet f σ] := by
  refine Ct.mk (cc := cX7_count) (maxL := 2) (ret := (some .int)) (plainFor_of_name (by decide)) rfl (Nat.le_of_ble_eq_true rfl) ?_
  intro p e s m below meth c A ls H locs S hr hlk hnm B hl
  have S : CallFix p m c cX7_count 2 s #[.ref u, .int (iI 4)] wsX7_count RX7 := S
  have hl : lv_has ls 2 [(0, .ref u), (1, .int (iI 4))] := hl
  refine z_iload_n S (pc := 0) dX7_count_0 rfl (lv_at hl 1 rfl) ?_
  · refine z_tsw S (pc := 1) (tgt := 93) (by omega) dX7_count_1 (by omega) rfl rfl ?_
    refine z_aload_n S (pc := 93) dX7_count_93 rfl (lv_at hl 0 rfl) ?_
    refine z_get S (pc := 94) B iX7_count_X7 0 rfl rfl 0 (by decide) rfl rfl (by decide +kernel) dX7_count_94 ?_
    refine z_get S (pc := 97) B iX7_count_X6 1 rfl rfl 0 (by decide) rfl rfl (by decide +kernel) dX7_count_97 ?_
    refine z_get S (pc := 100) B iX7_count_X2 2 rfl rfl 1 (by decide) rfl rfl (by decide +kernel) dX7_count_100 ?_
    refine z_get S (pc := 103) B iX7_count_X4 3 rfl rfl 3 (by decide) rfl rfl (by decide +kernel) dX7_count_103 ?_
    refine z_if_ne S (pc := 106) (tgt := 114) (by omega) dX7_count_106 rfl (fun c1 => ?_) (fun c1 => absurd c1 (by omega))
    refine z_aload_n S (pc := 114) dX7_count_114 rfl (lv_at hl 0 rfl) ?_
    refine z_get S (pc := 115) B iX7_count_X7 0 rfl rfl 0 (by decide) rfl rfl (by decide +kernel) dX7_count_115 ?_
    refine z_get S (pc := 118) B iX7_count_X6 1 rfl rfl 0 (by decide) rfl rfl (by decide +kernel) dX7_count_118 ?_
    refine z_get S (pc := 121) B iX7_count_X2 2 rfl rfl 5 (by decide) rfl rfl (by decide +kernel) dX7_count_121 ?_
    exact z_ireturn S hr hlk B () trivial rfl rfl (pc := 124) dX7_count_124
set_option maxHeartbeats 4000000 in
set_option maxRecDepth 100000 in
theorem mX7_count_4n (l : Launch) (E : gT) (u : Nat) (o : Nat) (x1 : Nat) (x2 : Nat) (x3 : Nat) (x4 : Nat) (x5 : Nat) (a : Nat) (b : Nat) (f : Nat) (g : Nat) (σ : Nat → Int) (ov : Int) (rr : Int) (rb : Int) (rn : Int) (h : Nat) (i : Nat) (ρ : Nat → Int) (h8 : σ 8 = 0) : Cd l E yX7_count wsX7_count 0 0 0 0 [.ref u, .int (iI 4)] [cSlo u o x1 x2 x3 x4 x5, cSta o a h, cMet a b f g σ rr rb rn, cSet f σ] (some (.int (iI (-6)))) [cSlo u o x1 x2 x3 x4 x5, cSta o a h, cMet a b f g σ rr rb rn, cSet f σ] := by
  refine Ct.mk (cc := cX7_count) (maxL := 2) (ret := (some .int)) (plainFor_of_name (by decide)) rfl (Nat.le_of_ble_eq_true rfl) ?_
  intro p e s m below meth c A ls H locs S hr hlk hnm B hl
  have S : CallFix p m c cX7_count 2 s #[.ref u, .int (iI 4)] wsX7_count RX7 := S
  have hl : lv_has ls 2 [(0, .ref u), (1, .int (iI 4))] := hl
  refine z_iload_n S (pc := 0) dX7_count_0 rfl (lv_at hl 1 rfl) ?_
  · refine z_tsw S (pc := 1) (tgt := 93) (by omega) dX7_count_1 (by omega) rfl rfl ?_
    refine z_aload_n S (pc := 93) dX7_count_93 rfl (lv_at hl 0 rfl) ?_
    refine z_get S (pc := 94) B iX7_count_X7 0 rfl rfl 0 (by decide) rfl rfl (by decide +kernel) dX7_count_94 ?_
    refine z_get S (pc := 97) B iX7_count_X6 1 rfl rfl 0 (by decide) rfl rfl (by decide +kernel) dX7_count_97 ?_
    refine z_get S (pc := 100) B iX7_count_X2 2 rfl rfl 1 (by decide) rfl rfl (by decide +kernel) dX7_count_100 ?_
    refine z_get S (pc := 103) B iX7_count_X4 3 rfl rfl 3 (by decide) rfl rfl (by decide +kernel) dX7_count_103 ?_
    refine z_if_ne S (pc := 106) (tgt := 114) (by omega) dX7_count_106 rfl (fun c1 => absurd c1 (by omega)) (fun c1 => ?_)
    refine z_bipush S (pc := 109) dX7_count_109 rfl ?_
    refine lv_goto S.1 S.2.1 (pc := 111) (tgt := 124) dX7_count_111 rfl ?_
    exact z_ireturn S hr hlk B () trivial rfl rfl (pc := 124) dX7_count_124
set_option maxHeartbeats 4000000 in
set_option maxRecDepth 100000 in
theorem mX7_count_b (l : Launch) (E : gT) (u : Nat) (o : Nat) (x1 : Nat) (x2 : Nat) (x3 : Nat) (x4 : Nat) (x5 : Nat) (k : Int) (hI : inI k) (hbad : (k < 0 ∨ 5 < k)) : Cd l E yX7_count wsX7_count 0 0 0 0 [.ref u, .int (iI k)] [cSlo u o x1 x2 x3 x4 x5] (some (.int (iI (-2)))) [cSlo u o x1 x2 x3 x4 x5] := by
  refine Ct.mk (cc := cX7_count) (maxL := 2) (ret := (some .int)) (plainFor_of_name (by decide)) rfl (Nat.le_of_ble_eq_true rfl) ?_
  intro p e s m below meth c A ls H locs S hr hlk hnm B hl
  have S : CallFix p m c cX7_count 2 s #[.ref u, .int (iI k)] wsX7_count RX7 := S
  have hl : lv_has ls 2 [(0, .ref u), (1, .int (iI k))] := hl
  refine z_iload_n S (pc := 0) dX7_count_0 rfl (lv_at hl 1 rfl) ?_
  · refine z_tswD S (pc := 1) (tgt := 133) (by omega) dX7_count_1 (by omega) rfl ?_
    refine z_bipush S (pc := 133) dX7_count_133 rfl ?_
    exact z_ireturn S hr hlk B () trivial rfl rfl (pc := 135) dX7_count_135
/-! END meter 1 -/
