set_option linter.unusedVariables false
theorem iX8_setLevel_X8 : ∀ w ∈ wsX80, w ∈ wsX8_setLevel := by decide +kernel
set_option maxHeartbeats 4000000 in
set_option maxRecDepth 100000 in
theorem mX8_setLevel (l : Launch) (E : gT) (a : Nat) (p1 : Nat) (p2 : Nat) (p3 : Nat) (p4 : Nat) (p5 : Nat) (p6 : Nat) (σ : Nat → Int) (ρ : Nat → Int) (pm : Int) (ig : Int) (mo : Int) (rd : Int) (wr : Int) (sm : Int) (v : Int) (hv : -3000000 ≤ v ∧ v ≤ 3000000) : Cd l E yX8_setLevel wsX8_setLevel 2 45 0 0 [.ref a, .int (iI v)] [cMod a p1 p2 p3 p4 p5 p6 pm ig mo rd wr sm, cAt E p1 σ ρ] (some (.int (iI (σ 14)))) [cMod a p1 p2 p3 p4 p5 p6 pm ig mo rd wr sm, cAt E p1 (up σ 0 v) ρ] := by
  refine Ct.mk (cc := cX8_setLevel) (maxL := 2) (ret := (some .int)) (plainFor_of_name (by decide)) rfl (Nat.le_of_ble_eq_true rfl) ?_
  intro p e s m below meth c A ls H locs S hr hlk hnm B hl
  have S : CallFix p m c cX8_setLevel 2 s #[.ref a, .int (iI v)] wsX8_setLevel RX8 := S
  have hl : lv_has ls 2 [(0, .ref a), (1, .int (iI v))] := hl
  refine z_iload_n S (pc := 0) dX8_setLevel_0 rfl (lv_at hl 1 rfl) ?_
  refine z_callS S (pc := 1) B (wr := [cMod a p1 p2 p3 p4 p5 p6 pm ig mo rd wr sm, cAt E p1 σ ρ]) (wn := fun _ => [cMod a p1 p2 p3 p4 p5 p6 pm ig mo rd wr sm, cAt E p1 σ ρ]) (st1 := fun _ => [.int (iI (bI ((-3000000) ≤ v ∧ v ≤ 3000000)))]) (As := [.int (iI v)]) (mX8_isLevel l E v (show inI v from by omega)) gX8_setLevel_X8_isLevel 1 rfl (by decide +kernel) ⟨Nat.le_of_ble_eq_true rfl, Nat.le_of_ble_eq_true rfl, Nat.le_of_ble_eq_true rfl, Nat.le_of_ble_eq_true rfl⟩ [] [0, 1] [0, 1] rfl rfl ⟨rfl, rfl, rfl, by decide⟩ (fun _ => rfl) rfl (fun _ => rfl) hl.1 (Nat.le_of_ble_eq_true rfl) rfl dX8_setLevel_1 (fun _ _ H locs B => ?_)
  refine z_ifne_b S (pc := 4) (tgt := 10) dX8_setLevel_4 rfl (fun c1 => ?_) (fun c1 => absurd c1 (by omega))
  refine z_aload_n S (pc := 10) dX8_setLevel_10 rfl (lv_at hl 0 rfl) ?_
  refine z_get S (pc := 11) B iX8_setLevel_X8 0 rfl rfl 0 (by decide) rfl rfl (by decide +kernel) dX8_setLevel_11 ?_
  refine z_iconst S (pc := 14) dX8_setLevel_14 ?_
  refine z_iload_n S (pc := 15) dX8_setLevel_15 rfl (lv_at hl 1 rfl) ?_
  refine z_i2l S (pc := 16) (by omega) dX8_setLevel_16 ?_
  refine z_last S (pc := 17) B 1 2 rfl rfl (k := 0) rfl (by decide) (by decide) dX8_setLevel_17 (wn := [cMod a p1 p2 p3 p4 p5 p6 pm ig mo rd wr sm, cAt E p1 (up σ 0 v) ρ]) (by rw [lmu _ _ (by decide)]; rfl) (fun H locs B => ?_)
  refine z_aload_n S (pc := 18) dX8_setLevel_18 rfl (lv_at hl 0 rfl) ?_
  refine z_get S (pc := 19) B iX8_setLevel_X8 0 rfl rfl 0 (by decide) rfl rfl (by decide +kernel) dX8_setLevel_19 ?_
  refine z_bipush S (pc := 22) dX8_setLevel_22 rfl ?_
  refine z_lald S (pc := 24) B 1 2 rfl rfl (k := 14) rfl (by decide) (by decide) (v := .long (iL (σ 14))) rfl dX8_setLevel_24 ?_
  refine z_l2i S (pc := 25) dX8_setLevel_25 ?_
  exact z_ireturn S hr hlk B () trivial rfl rfl (pc := 26) dX8_setLevel_26
set_option maxHeartbeats 4000000 in
set_option maxRecDepth 100000 in
theorem mX8_setLevel_b (l : Launch) (E : gT) (a : Nat) (p1 : Nat) (p2 : Nat) (p3 : Nat) (p4 : Nat) (p5 : Nat) (p6 : Nat) (σ : Nat → Int) (ρ : Nat → Int) (pm : Int) (ig : Int) (mo : Int) (rd : Int) (wr : Int) (sm : Int) (v : Int) (hI : inI v) (hbad : (v < -3000000 ∨ 3000000 < v)) : Cd l E yX8_setLevel wsX8_setLevel 2 45 0 0 [.ref a, .int (iI v)] [cMod a p1 p2 p3 p4 p5 p6 pm ig mo rd wr sm] (some (.int (iI (-2)))) [cMod a p1 p2 p3 p4 p5 p6 pm ig mo rd wr sm] := by
  refine Ct.mk (cc := cX8_setLevel) (maxL := 2) (ret := (some .int)) (plainFor_of_name (by decide)) rfl (Nat.le_of_ble_eq_true rfl) ?_
  intro p e s m below meth c A ls H locs S hr hlk hnm B hl
  have S : CallFix p m c cX8_setLevel 2 s #[.ref a, .int (iI v)] wsX8_setLevel RX8 := S
  have hl : lv_has ls 2 [(0, .ref a), (1, .int (iI v))] := hl
  refine z_iload_n S (pc := 0) dX8_setLevel_0 rfl (lv_at hl 1 rfl) ?_
  refine z_callS S (pc := 1) B (wr := [cMod a p1 p2 p3 p4 p5 p6 pm ig mo rd wr sm]) (wn := fun _ => [cMod a p1 p2 p3 p4 p5 p6 pm ig mo rd wr sm]) (st1 := fun _ => [.int (iI (bI ((-3000000) ≤ v ∧ v ≤ 3000000)))]) (As := [.int (iI v)]) (mX8_isLevel l E v (show inI v from by omega)) gX8_setLevel_X8_isLevel 1 rfl (by decide +kernel) ⟨Nat.le_of_ble_eq_true rfl, Nat.le_of_ble_eq_true rfl, Nat.le_of_ble_eq_true rfl, Nat.le_of_ble_eq_true rfl⟩ [] [0] [0] rfl rfl ⟨rfl, rfl, rfl, by decide⟩ (fun _ => rfl) rfl (fun _ => rfl) hl.1 (Nat.le_of_ble_eq_true rfl) rfl dX8_setLevel_1 (fun _ _ H locs B => ?_)
  refine z_ifne_b S (pc := 4) (tgt := 10) dX8_setLevel_4 rfl (fun c1 => absurd c1 (by omega)) (fun c1 => ?_)
  refine z_bipush S (pc := 7) dX8_setLevel_7 rfl ?_
  exact z_ireturn S hr hlk B () trivial rfl rfl (pc := 9) dX8_setLevel_9
theorem iX8_setHum_X8 : ∀ w ∈ wsX80, w ∈ wsX8_setHum := by decide +kernel
set_option maxHeartbeats 4000000 in
set_option maxRecDepth 100000 in
theorem mX8_setHum (l : Launch) (E : gT) (a : Nat) (p1 : Nat) (p2 : Nat) (p3 : Nat) (p4 : Nat) (p5 : Nat) (p6 : Nat) (σ : Nat → Int) (ρ : Nat → Int) (pm : Int) (ig : Int) (mo : Int) (rd : Int) (wr : Int) (sm : Int) (am : Int) (pe : Int) (hv : 0 ≤ am ∧ am ≤ 1000000) (hp : inPe pe) : Cd l E yX8_setHum wsX8_setHum 1 25 0 0 [.ref a, .int (iI am), .int (iI pe)] [cMod a p1 p2 p3 p4 p5 p6 pm ig mo rd wr sm, cAt E p1 σ ρ] (some (.int (iI (σ 2)))) [cMod a p1 p2 p3 p4 p5 p6 pm ig mo rd wr sm, cAt E p1 (up (up σ 1 am) 2 pe) ρ] := by
  refine Ct.mk (cc := cX8_setHum) (maxL := 4) (ret := (some .int)) (plainFor_of_name (by decide)) rfl (Nat.le_of_ble_eq_true rfl) ?_
  intro p e s m below meth c A ls H locs S hr hlk hnm B hl
  have S : CallFix p m c cX8_setHum 4 s #[.ref a, .int (iI am), .int (iI pe)] wsX8_setHum RX8 := S
  have hl : lv_has ls 4 [(0, .ref a), (1, .int (iI am)), (2, .int (iI pe))] := hl
  have q1 : pe.tmod 4 = pe % 4 := tmod_n (by omega)
  have q2 := tdiv_bd (a := pe) (q := 4) (B := 400) (by omega) (by omega) (by omega)
  refine z_iload_n S (pc := 0) dX8_setHum_0 rfl (lv_at hl 1 rfl) ?_
  refine z_i2l S (pc := 1) (by omega) dX8_setHum_1 ?_
  refine z_lconst S (pc := 2) (x := 0) dX8_setHum_2 rfl ?_
  refine z_ldc2 S (pc := 3) (x := 1000000) (by decide +kernel) rfl dX8_setHum_3 ?_
  refine z_callS S (pc := 6) B (wr := [cMod a p1 p2 p3 p4 p5 p6 pm ig mo rd wr sm, cAt E p1 σ ρ]) (wn := fun _ => [cMod a p1 p2 p3 p4 p5 p6 pm ig mo rd wr sm, cAt E p1 σ ρ]) (st1 := fun _ => [.int (iI (bI (0 ≤ am ∧ am ≤ 1000000)))]) (As := [.long (iL am), .long (iL 0), .long (iL 1000000)]) (mX8_in l E am 0 1000000 (show inL am from by omega) (show inL 0 from by omega) (show inL 1000000 from by omega)) gX8_setHum_X8_in 3 rfl (by decide +kernel) ⟨Nat.le_of_ble_eq_true rfl, Nat.le_of_ble_eq_true rfl, Nat.le_of_ble_eq_true rfl, Nat.le_of_ble_eq_true rfl⟩ [] [0, 1] [0, 1] rfl rfl ⟨rfl, rfl, rfl, by decide⟩ (fun _ => rfl) rfl (fun _ => rfl) hl.1 (Nat.le_of_ble_eq_true rfl) rfl dX8_setHum_6 (fun _ _ H locs B => ?_)
  refine z_ifeq_b S (pc := 9) (tgt := 32) dX8_setHum_9 rfl (fun c1 => absurd c1 (by omega)) (fun c1 => ?_)
  refine z_iload_n S (pc := 12) dX8_setHum_12 rfl (lv_at hl 2 rfl) ?_
  refine z_i2l S (pc := 13) (by omega) dX8_setHum_13 ?_
  refine z_ldc2 S (pc := 14) (x := 4) (by decide +kernel) rfl dX8_setHum_14 ?_
  refine z_ldc2 S (pc := 17) (x := 400) (by decide +kernel) rfl dX8_setHum_17 ?_
  refine z_callS S (pc := 20) B (wr := [cMod a p1 p2 p3 p4 p5 p6 pm ig mo rd wr sm, cAt E p1 σ ρ]) (wn := fun _ => [cMod a p1 p2 p3 p4 p5 p6 pm ig mo rd wr sm, cAt E p1 σ ρ]) (st1 := fun _ => [.int (iI (bI (4 ≤ pe ∧ pe ≤ 400)))]) (As := [.long (iL pe), .long (iL 4), .long (iL 400)]) (mX8_in l E pe 4 400 (show inL pe from by omega) (show inL 4 from by omega) (show inL 400 from by omega)) gX8_setHum_X8_in 3 rfl (by decide +kernel) ⟨Nat.le_of_ble_eq_true rfl, Nat.le_of_ble_eq_true rfl, Nat.le_of_ble_eq_true rfl, Nat.le_of_ble_eq_true rfl⟩ [] [0, 1] [0, 1] rfl rfl ⟨rfl, rfl, rfl, by decide⟩ (fun _ => rfl) rfl (fun _ => rfl) hl.1 (Nat.le_of_ble_eq_true rfl) rfl dX8_setHum_20 (fun _ _ H locs B => ?_)
  refine z_ifeq_b S (pc := 23) (tgt := 32) dX8_setHum_23 rfl (fun c2 => absurd c2 (by omega)) (fun c2 => ?_)
  refine z_iload_n S (pc := 26) dX8_setHum_26 rfl (lv_at hl 2 rfl) ?_
  refine z_iconst S (pc := 27) dX8_setHum_27 ?_
  refine z_irem S (pc := 28) (by omega) (by omega) (by omega) (by omega) dX8_setHum_28 ?_
  refine z_if_eq S (pc := 29) (tgt := 35) (by omega) dX8_setHum_29 rfl (fun c3 => ?_) (fun c3 => absurd c3 (by omega))
  refine z_aload_n S (pc := 35) dX8_setHum_35 rfl (lv_at hl 0 rfl) ?_
  refine z_get S (pc := 36) B iX8_setHum_X8 0 rfl rfl 0 (by decide) rfl rfl (by decide +kernel) dX8_setHum_36 ?_
  refine z_iconst S (pc := 39) dX8_setHum_39 ?_
  refine z_lald S (pc := 40) B 1 2 rfl rfl (k := 2) rfl (by decide) (by decide) (v := .long (iL (σ 2))) rfl dX8_setHum_40 ?_
  refine z_l2i S (pc := 41) dX8_setHum_41 ?_
  refine lv_istore_n (lv' := [(3, .int (iI (σ 2))), (0, .ref a), (1, .int (iI am)), (2, .int (iI pe))]) S.1 S.2.1 (pc := 42) dX8_setHum_42 rfl hl (by decide) rfl (fun ls hl => ?_)
  refine z_aload_n S (pc := 43) dX8_setHum_43 rfl (lv_at hl 1 rfl) ?_
  refine z_get S (pc := 44) B iX8_setHum_X8 0 rfl rfl 0 (by decide) rfl rfl (by decide +kernel) dX8_setHum_44 ?_
  refine z_iconst S (pc := 47) dX8_setHum_47 ?_
  refine z_iload_n S (pc := 48) dX8_setHum_48 rfl (lv_at hl 2 rfl) ?_
  refine z_i2l S (pc := 49) (by omega) dX8_setHum_49 ?_
  refine z_last S (pc := 50) B 1 2 rfl rfl (k := 1) rfl (by decide) (by decide) dX8_setHum_50 (wn := [cMod a p1 p2 p3 p4 p5 p6 pm ig mo rd wr sm, cAt E p1 (up σ 1 am) ρ]) (by rw [lmu _ _ (by decide)]; rfl) (fun H locs B => ?_)
  refine z_aload_n S (pc := 51) dX8_setHum_51 rfl (lv_at hl 1 rfl) ?_
  refine z_get S (pc := 52) B iX8_setHum_X8 0 rfl rfl 0 (by decide) rfl rfl (by decide +kernel) dX8_setHum_52 ?_
  refine z_iconst S (pc := 55) dX8_setHum_55 ?_
  refine z_iload_n S (pc := 56) dX8_setHum_56 rfl (lv_at hl 3 rfl) ?_
  refine z_i2l S (pc := 57) (by omega) dX8_setHum_57 ?_
  refine z_last S (pc := 58) B 1 2 rfl rfl (k := 2) rfl (by decide) (by decide) dX8_setHum_58 (wn := [cMod a p1 p2 p3 p4 p5 p6 pm ig mo rd wr sm, cAt E p1 (up (up σ 1 am) 2 pe) ρ]) (by rw [lmu _ _ (by decide)]; rfl) (fun H locs B => ?_)
  refine z_iload_n S (pc := 59) dX8_setHum_59 rfl (lv_at hl 0 rfl) ?_
  exact z_ireturn S hr hlk B () trivial rfl rfl (pc := 60) dX8_setHum_60
set_option maxHeartbeats 4000000 in
set_option maxRecDepth 100000 in
theorem mX8_setHum_b (l : Launch) (E : gT) (a : Nat) (p1 : Nat) (p2 : Nat) (p3 : Nat) (p4 : Nat) (p5 : Nat) (p6 : Nat) (σ : Nat → Int) (ρ : Nat → Int) (pm : Int) (ig : Int) (mo : Int) (rd : Int) (wr : Int) (sm : Int) (am : Int) (pe : Int) (hI : inI am ∧ inI pe) (hbad : (am < 0 ∨ 1000000 < am ∨ ¬ inPe pe)) : Cd l E yX8_setHum wsX8_setHum 1 25 0 0 [.ref a, .int (iI am), .int (iI pe)] [cMod a p1 p2 p3 p4 p5 p6 pm ig mo rd wr sm] (some (.int (iI (-2)))) [cMod a p1 p2 p3 p4 p5 p6 pm ig mo rd wr sm] := by
  refine Ct.mk (cc := cX8_setHum) (maxL := 4) (ret := (some .int)) (plainFor_of_name (by decide)) rfl (Nat.le_of_ble_eq_true rfl) ?_
  intro p e s m below meth c A ls H locs S hr hlk hnm B hl
  have S : CallFix p m c cX8_setHum 4 s #[.ref a, .int (iI am), .int (iI pe)] wsX8_setHum RX8 := S
  have hl : lv_has ls 4 [(0, .ref a), (1, .int (iI am)), (2, .int (iI pe))] := hl
  refine z_iload_n S (pc := 0) dX8_setHum_0 rfl (lv_at hl 1 rfl) ?_
  refine z_i2l S (pc := 1) (by omega) dX8_setHum_1 ?_
  refine z_lconst S (pc := 2) (x := 0) dX8_setHum_2 rfl ?_
  refine z_ldc2 S (pc := 3) (x := 1000000) (by decide +kernel) rfl dX8_setHum_3 ?_
  refine z_callS S (pc := 6) B (wr := [cMod a p1 p2 p3 p4 p5 p6 pm ig mo rd wr sm]) (wn := fun _ => [cMod a p1 p2 p3 p4 p5 p6 pm ig mo rd wr sm]) (st1 := fun _ => [.int (iI (bI (0 ≤ am ∧ am ≤ 1000000)))]) (As := [.long (iL am), .long (iL 0), .long (iL 1000000)]) (mX8_in l E am 0 1000000 (show inL am from by omega) (show inL 0 from by omega) (show inL 1000000 from by omega)) gX8_setHum_X8_in 3 rfl (by decide +kernel) ⟨Nat.le_of_ble_eq_true rfl, Nat.le_of_ble_eq_true rfl, Nat.le_of_ble_eq_true rfl, Nat.le_of_ble_eq_true rfl⟩ [] [0] [0] rfl rfl ⟨rfl, rfl, rfl, by decide⟩ (fun _ => rfl) rfl (fun _ => rfl) hl.1 (Nat.le_of_ble_eq_true rfl) rfl dX8_setHum_6 (fun _ _ H locs B => ?_)
  refine z_ifeq_b S (pc := 9) (tgt := 32) dX8_setHum_9 rfl (fun c1 => ?_) (fun c1 => ?_)
  · refine z_bipush S (pc := 32) dX8_setHum_32 rfl ?_
    exact z_ireturn S hr hlk B () trivial rfl rfl (pc := 34) dX8_setHum_34
  · refine z_iload_n S (pc := 12) dX8_setHum_12 rfl (lv_at hl 2 rfl) ?_
    refine z_i2l S (pc := 13) (by omega) dX8_setHum_13 ?_
    refine z_ldc2 S (pc := 14) (x := 4) (by decide +kernel) rfl dX8_setHum_14 ?_
    refine z_ldc2 S (pc := 17) (x := 400) (by decide +kernel) rfl dX8_setHum_17 ?_
    refine z_callS S (pc := 20) B (wr := [cMod a p1 p2 p3 p4 p5 p6 pm ig mo rd wr sm]) (wn := fun _ => [cMod a p1 p2 p3 p4 p5 p6 pm ig mo rd wr sm]) (st1 := fun _ => [.int (iI (bI (4 ≤ pe ∧ pe ≤ 400)))]) (As := [.long (iL pe), .long (iL 4), .long (iL 400)]) (mX8_in l E pe 4 400 (show inL pe from by omega) (show inL 4 from by omega) (show inL 400 from by omega)) gX8_setHum_X8_in 3 rfl (by decide +kernel) ⟨Nat.le_of_ble_eq_true rfl, Nat.le_of_ble_eq_true rfl, Nat.le_of_ble_eq_true rfl, Nat.le_of_ble_eq_true rfl⟩ [] [0] [0] rfl rfl ⟨rfl, rfl, rfl, by decide⟩ (fun _ => rfl) rfl (fun _ => rfl) hl.1 (Nat.le_of_ble_eq_true rfl) rfl dX8_setHum_20 (fun _ _ H locs B => ?_)
    refine z_ifeq_b S (pc := 23) (tgt := 32) dX8_setHum_23 rfl (fun c2 => ?_) (fun c2 => ?_)
    · refine z_bipush S (pc := 32) dX8_setHum_32 rfl ?_
      exact z_ireturn S hr hlk B () trivial rfl rfl (pc := 34) dX8_setHum_34
    · refine z_iload_n S (pc := 26) dX8_setHum_26 rfl (lv_at hl 2 rfl) ?_
      refine z_iconst S (pc := 27) dX8_setHum_27 ?_
      refine z_iremn S (pc := 28) (by omega) (by omega) dX8_setHum_28 ?_
      refine z_if_eq S (pc := 29) (tgt := 35) (by omega) dX8_setHum_29 rfl (fun c3 => ?_) (fun c3 => ?_)
      · exact absurd hbad (by omega)
      · refine z_bipush S (pc := 32) dX8_setHum_32 rfl ?_
        exact z_ireturn S hr hlk B () trivial rfl rfl (pc := 34) dX8_setHum_34
theorem iX8_setOffset_X8 : ∀ w ∈ wsX80, w ∈ wsX8_setOffset := by decide +kernel
set_option maxHeartbeats 4000000 in
set_option maxRecDepth 100000 in
theorem mX8_setOffset (l : Launch) (E : gT) (a : Nat) (p1 : Nat) (p2 : Nat) (p3 : Nat) (p4 : Nat) (p5 : Nat) (p6 : Nat) (σ : Nat → Int) (ρ : Nat → Int) (pm : Int) (ig : Int) (mo : Int) (rd : Int) (wr : Int) (sm : Int) (bi : Int) (dr : Int) (hv : -100000 ≤ bi ∧ bi ≤ 100000) (hd : -1000 ≤ dr ∧ dr ≤ 1000) (h11 : 0 ≤ σ 11 ∧ σ 11 ≤ 2000000000) : Cd l E yX8_setOffset wsX8_setOffset 2 45 0 0 [.ref a, .int (iI bi), .int (iI dr)] [cMod a p1 p2 p3 p4 p5 p6 pm ig mo rd wr sm, cAt E p1 σ ρ] (some (.int (iI (offs bi dr (σ 11) + 100000000)))) [cMod a p1 p2 p3 p4 p5 p6 pm ig mo rd wr sm, cAt E p1 (up (up σ 3 bi) 4 dr) ρ] := by
  refine Ct.mk (cc := cX8_setOffset) (maxL := 3) (ret := (some .int)) (plainFor_of_name (by decide)) rfl (Nat.le_of_ble_eq_true rfl) ?_
  intro p e s m below meth c A ls H locs S hr hlk hnm B hl
  have S : CallFix p m c cX8_setOffset 3 s #[.ref a, .int (iI bi), .int (iI dr)] wsX8_setOffset RX8 := S
  have hl : lv_has ls 3 [(0, .ref a), (1, .int (iI bi)), (2, .int (iI dr))] := hl
  refine z_iload_n S (pc := 0) dX8_setOffset_0 rfl (lv_at hl 1 rfl) ?_
  refine z_i2l S (pc := 1) (by omega) dX8_setOffset_1 ?_
  refine z_ldc2 S (pc := 2) (x := (-100000)) (by decide +kernel) rfl dX8_setOffset_2 ?_
  refine z_ldc2 S (pc := 5) (x := 100000) (by decide +kernel) rfl dX8_setOffset_5 ?_
  refine z_callS S (pc := 8) B (wr := [cMod a p1 p2 p3 p4 p5 p6 pm ig mo rd wr sm, cAt E p1 σ ρ]) (wn := fun _ => [cMod a p1 p2 p3 p4 p5 p6 pm ig mo rd wr sm, cAt E p1 σ ρ]) (st1 := fun _ => [.int (iI (bI ((-100000) ≤ bi ∧ bi ≤ 100000)))]) (As := [.long (iL bi), .long (iL (-100000)), .long (iL 100000)]) (mX8_in l E bi (-100000) 100000 (show inL bi from by omega) (show inL (-100000) from by omega) (show inL 100000 from by omega)) gX8_setOffset_X8_in 3 rfl (by decide +kernel) ⟨Nat.le_of_ble_eq_true rfl, Nat.le_of_ble_eq_true rfl, Nat.le_of_ble_eq_true rfl, Nat.le_of_ble_eq_true rfl⟩ [] [0, 1] [0, 1] rfl rfl ⟨rfl, rfl, rfl, by decide⟩ (fun _ => rfl) rfl (fun _ => rfl) hl.1 (Nat.le_of_ble_eq_true rfl) rfl dX8_setOffset_8 (fun _ _ H locs B => ?_)
  refine z_ifeq_b S (pc := 11) (tgt := 28) dX8_setOffset_11 rfl (fun c1 => absurd c1 (by omega)) (fun c1 => ?_)
  refine z_iload_n S (pc := 14) dX8_setOffset_14 rfl (lv_at hl 2 rfl) ?_
  refine z_i2l S (pc := 15) (by omega) dX8_setOffset_15 ?_
  refine z_ldc2 S (pc := 16) (x := (-1000)) (by decide +kernel) rfl dX8_setOffset_16 ?_
  refine z_ldc2 S (pc := 19) (x := 1000) (by decide +kernel) rfl dX8_setOffset_19 ?_
  refine z_callS S (pc := 22) B (wr := [cMod a p1 p2 p3 p4 p5 p6 pm ig mo rd wr sm, cAt E p1 σ ρ]) (wn := fun _ => [cMod a p1 p2 p3 p4 p5 p6 pm ig mo rd wr sm, cAt E p1 σ ρ]) (st1 := fun _ => [.int (iI (bI ((-1000) ≤ dr ∧ dr ≤ 1000)))]) (As := [.long (iL dr), .long (iL (-1000)), .long (iL 1000)]) (mX8_in l E dr (-1000) 1000 (show inL dr from by omega) (show inL (-1000) from by omega) (show inL 1000 from by omega)) gX8_setOffset_X8_in 3 rfl (by decide +kernel) ⟨Nat.le_of_ble_eq_true rfl, Nat.le_of_ble_eq_true rfl, Nat.le_of_ble_eq_true rfl, Nat.le_of_ble_eq_true rfl⟩ [] [0, 1] [0, 1] rfl rfl ⟨rfl, rfl, rfl, by decide⟩ (fun _ => rfl) rfl (fun _ => rfl) hl.1 (Nat.le_of_ble_eq_true rfl) rfl dX8_setOffset_22 (fun _ _ H locs B => ?_)
  refine z_ifne_b S (pc := 25) (tgt := 31) dX8_setOffset_25 rfl (fun c2 => ?_) (fun c2 => absurd c2 (by omega))
  refine z_aload_n S (pc := 31) dX8_setOffset_31 rfl (lv_at hl 0 rfl) ?_
  refine z_get S (pc := 32) B iX8_setOffset_X8 0 rfl rfl 0 (by decide) rfl rfl (by decide +kernel) dX8_setOffset_32 ?_
  refine z_iconst S (pc := 35) dX8_setOffset_35 ?_
  refine z_iload_n S (pc := 36) dX8_setOffset_36 rfl (lv_at hl 1 rfl) ?_
  refine z_i2l S (pc := 37) (by omega) dX8_setOffset_37 ?_
  refine z_last S (pc := 38) B 1 2 rfl rfl (k := 3) rfl (by decide) (by decide) dX8_setOffset_38 (wn := [cMod a p1 p2 p3 p4 p5 p6 pm ig mo rd wr sm, cAt E p1 (up σ 3 bi) ρ]) (by rw [lmu _ _ (by decide)]; rfl) (fun H locs B => ?_)
  refine z_aload_n S (pc := 39) dX8_setOffset_39 rfl (lv_at hl 0 rfl) ?_
  refine z_get S (pc := 40) B iX8_setOffset_X8 0 rfl rfl 0 (by decide) rfl rfl (by decide +kernel) dX8_setOffset_40 ?_
  refine z_iconst S (pc := 43) dX8_setOffset_43 ?_
  refine z_iload_n S (pc := 44) dX8_setOffset_44 rfl (lv_at hl 2 rfl) ?_
  refine z_i2l S (pc := 45) (by omega) dX8_setOffset_45 ?_
  refine z_last S (pc := 46) B 1 2 rfl rfl (k := 4) rfl (by decide) (by decide) dX8_setOffset_46 (wn := [cMod a p1 p2 p3 p4 p5 p6 pm ig mo rd wr sm, cAt E p1 (up (up σ 3 bi) 4 dr) ρ]) (by rw [lmu _ _ (by decide)]; rfl) (fun H locs B => ?_)
  refine z_aload_n S (pc := 47) dX8_setOffset_47 rfl (lv_at hl 0 rfl) ?_
  refine z_aload_n S (pc := 48) dX8_setOffset_48 rfl (lv_at hl 0 rfl) ?_
  refine z_get S (pc := 49) B iX8_setOffset_X8 0 rfl rfl 0 (by decide) rfl rfl (by decide +kernel) dX8_setOffset_49 ?_
  refine z_bipush S (pc := 52) dX8_setOffset_52 rfl ?_
  refine z_lald S (pc := 54) B 1 2 rfl rfl (k := 11) rfl (by decide) (by decide) (v := .long (iL (σ 11))) rfl dX8_setOffset_54 ?_
  refine z_callV S (pc := 55) B (wr := []) (wn := fun _ => [cMod a p1 p2 p3 p4 p5 p6 pm ig mo rd wr sm, cAt E p1 (up (up σ 3 bi) 4 dr) ρ]) (st1 := fun _ => [.long (iL (offs bi dr (σ 11)))]) (As := [.long (iL (σ 11))]) (mX8_offset l E a p1 p2 p3 p4 p5 p6 (up (up σ 3 bi) 4 dr) ρ pm ig mo rd wr sm (σ 11) (show -100000 ≤ bi ∧ bi ≤ 100000 from by omega) (show -1000 ≤ dr ∧ dr ≤ 1000 from by omega) (show 0 ≤ (σ 11) ∧ (σ 11) ≤ 2147483647 from by omega)) gX8_setOffset_X8_offset 1 rfl (by decide +kernel) ⟨Nat.le_of_ble_eq_true rfl, Nat.le_of_ble_eq_true rfl, Nat.le_of_ble_eq_true rfl, Nat.le_of_ble_eq_true rfl⟩ 0 rfl (q := (RX8, TX8, 12)) rfl rfl [0, 1] [] [0, 1] rfl rfl ⟨rfl, rfl, rfl, by decide⟩ (fun _ => rfl) rfl (fun _ => rfl) hl.1 (Nat.le_of_ble_eq_true rfl) rfl dX8_setOffset_55 (fun _ _ H locs B => ?_)
  refine z_l2i S (pc := 58) dX8_setOffset_58 ?_
  refine z_ldc S (pc := 59) (x := 100000000) (by decide +kernel) rfl dX8_setOffset_59 ?_
  refine z_iadd S (pc := 61) dX8_setOffset_61 ?_
  exact z_ireturn S hr hlk B () trivial rfl rfl (pc := 62) dX8_setOffset_62
set_option maxHeartbeats 4000000 in
set_option maxRecDepth 100000 in
theorem mX8_setOffset_b (l : Launch) (E : gT) (a : Nat) (p1 : Nat) (p2 : Nat) (p3 : Nat) (p4 : Nat) (p5 : Nat) (p6 : Nat) (σ : Nat → Int) (ρ : Nat → Int) (pm : Int) (ig : Int) (mo : Int) (rd : Int) (wr : Int) (sm : Int) (bi : Int) (dr : Int) (hI : inI bi ∧ inI dr) (hbad : (bi < -100000 ∨ 100000 < bi ∨ dr < -1000 ∨ 1000 < dr)) : Cd l E yX8_setOffset wsX8_setOffset 2 45 0 0 [.ref a, .int (iI bi), .int (iI dr)] [cMod a p1 p2 p3 p4 p5 p6 pm ig mo rd wr sm] (some (.int (iI (-2)))) [cMod a p1 p2 p3 p4 p5 p6 pm ig mo rd wr sm] := by
  refine Ct.mk (cc := cX8_setOffset) (maxL := 3) (ret := (some .int)) (plainFor_of_name (by decide)) rfl (Nat.le_of_ble_eq_true rfl) ?_
  intro p e s m below meth c A ls H locs S hr hlk hnm B hl
  have S : CallFix p m c cX8_setOffset 3 s #[.ref a, .int (iI bi), .int (iI dr)] wsX8_setOffset RX8 := S
  have hl : lv_has ls 3 [(0, .ref a), (1, .int (iI bi)), (2, .int (iI dr))] := hl
  refine z_iload_n S (pc := 0) dX8_setOffset_0 rfl (lv_at hl 1 rfl) ?_
  refine z_i2l S (pc := 1) (by omega) dX8_setOffset_1 ?_
  refine z_ldc2 S (pc := 2) (x := (-100000)) (by decide +kernel) rfl dX8_setOffset_2 ?_
  refine z_ldc2 S (pc := 5) (x := 100000) (by decide +kernel) rfl dX8_setOffset_5 ?_
  refine z_callS S (pc := 8) B (wr := [cMod a p1 p2 p3 p4 p5 p6 pm ig mo rd wr sm]) (wn := fun _ => [cMod a p1 p2 p3 p4 p5 p6 pm ig mo rd wr sm]) (st1 := fun _ => [.int (iI (bI ((-100000) ≤ bi ∧ bi ≤ 100000)))]) (As := [.long (iL bi), .long (iL (-100000)), .long (iL 100000)]) (mX8_in l E bi (-100000) 100000 (show inL bi from by omega) (show inL (-100000) from by omega) (show inL 100000 from by omega)) gX8_setOffset_X8_in 3 rfl (by decide +kernel) ⟨Nat.le_of_ble_eq_true rfl, Nat.le_of_ble_eq_true rfl, Nat.le_of_ble_eq_true rfl, Nat.le_of_ble_eq_true rfl⟩ [] [0] [0] rfl rfl ⟨rfl, rfl, rfl, by decide⟩ (fun _ => rfl) rfl (fun _ => rfl) hl.1 (Nat.le_of_ble_eq_true rfl) rfl dX8_setOffset_8 (fun _ _ H locs B => ?_)
  refine z_ifeq_b S (pc := 11) (tgt := 28) dX8_setOffset_11 rfl (fun c1 => ?_) (fun c1 => ?_)
  · refine z_bipush S (pc := 28) dX8_setOffset_28 rfl ?_
    exact z_ireturn S hr hlk B () trivial rfl rfl (pc := 30) dX8_setOffset_30
  · refine z_iload_n S (pc := 14) dX8_setOffset_14 rfl (lv_at hl 2 rfl) ?_
    refine z_i2l S (pc := 15) (by omega) dX8_setOffset_15 ?_
    refine z_ldc2 S (pc := 16) (x := (-1000)) (by decide +kernel) rfl dX8_setOffset_16 ?_
    refine z_ldc2 S (pc := 19) (x := 1000) (by decide +kernel) rfl dX8_setOffset_19 ?_
    refine z_callS S (pc := 22) B (wr := [cMod a p1 p2 p3 p4 p5 p6 pm ig mo rd wr sm]) (wn := fun _ => [cMod a p1 p2 p3 p4 p5 p6 pm ig mo rd wr sm]) (st1 := fun _ => [.int (iI (bI ((-1000) ≤ dr ∧ dr ≤ 1000)))]) (As := [.long (iL dr), .long (iL (-1000)), .long (iL 1000)]) (mX8_in l E dr (-1000) 1000 (show inL dr from by omega) (show inL (-1000) from by omega) (show inL 1000 from by omega)) gX8_setOffset_X8_in 3 rfl (by decide +kernel) ⟨Nat.le_of_ble_eq_true rfl, Nat.le_of_ble_eq_true rfl, Nat.le_of_ble_eq_true rfl, Nat.le_of_ble_eq_true rfl⟩ [] [0] [0] rfl rfl ⟨rfl, rfl, rfl, by decide⟩ (fun _ => rfl) rfl (fun _ => rfl) hl.1 (Nat.le_of_ble_eq_true rfl) rfl dX8_setOffset_22 (fun _ _ H locs B => ?_)
    refine z_ifne_b S (pc := 25) (tgt := 31) dX8_setOffset_25 rfl (fun c2 => ?_) (fun c2 => ?_)
    · exact absurd hbad (by omega)
    · refine z_bipush S (pc := 28) dX8_setOffset_28 rfl ?_
      exact z_ireturn S hr hlk B () trivial rfl rfl (pc := 30) dX8_setOffset_30
set_option maxHeartbeats 4000000 in
set_option maxRecDepth 100000 in
theorem mX8_takes_0 (l : Launch) (E : gT) (v : Int) (hI : inI v) : Cd l E yX8_takes wsX8_takes 1 25 0 0 [.int (iI 0), .int (iI v)] [] (some (.int (iI (bI (4 ≤ v ∧ v ≤ 400))))) [] := by
  refine Ct.mk (cc := cX8_takes) (maxL := 2) (ret := (some .boolean)) (plainFor_of_name (by decide)) rfl (Nat.le_of_ble_eq_true rfl) ?_
  intro p e s m below meth c A ls H locs S hr hlk hnm B hl
  have S : CallFix p m c cX8_takes 2 s #[.int (iI 0), .int (iI v)] wsX8_takes RX8 := S
  have hl : lv_has ls 2 [(0, .int (iI 0)), (1, .int (iI v))] := hl
  refine z_iload_n S (pc := 0) dX8_takes_0 rfl (lv_at hl 0 rfl) ?_
  · refine z_tsw S (pc := 1) (tgt := 40) (by omega) dX8_takes_1 (by omega) rfl rfl ?_
    refine z_iload_n S (pc := 40) dX8_takes_40 rfl (lv_at hl 1 rfl) ?_
    refine z_i2l S (pc := 41) (by omega) dX8_takes_41 ?_
    refine z_ldc2 S (pc := 42) (x := 4) (by decide +kernel) rfl dX8_takes_42 ?_
    refine z_ldc2 S (pc := 45) (x := 400) (by decide +kernel) rfl dX8_takes_45 ?_
    refine z_callS S (pc := 48) B (wr := []) (wn := fun _ => []) (st1 := fun _ => [.int (iI (bI (4 ≤ v ∧ v ≤ 400)))]) (As := [.long (iL v), .long (iL 4), .long (iL 400)]) (mX8_in l E v 4 400 (show inL v from by omega) (show inL 4 from by omega) (show inL 400 from by omega)) gX8_takes_X8_in 3 rfl (by decide +kernel) ⟨Nat.le_of_ble_eq_true rfl, Nat.le_of_ble_eq_true rfl, Nat.le_of_ble_eq_true rfl, Nat.le_of_ble_eq_true rfl⟩ [] [] [] rfl rfl ⟨rfl, rfl, rfl, by decide⟩ (fun _ => rfl) rfl (fun _ => rfl) hl.1 (Nat.le_of_ble_eq_true rfl) rfl dX8_takes_48 (fun _ _ H locs B => ?_)
    exact z_zreturn S (bI_01 _) hr hlk B () trivial rfl rfl (pc := 51) dX8_takes_51
theorem iX8_set_X8 : ∀ w ∈ wsX80, w ∈ wsX8_set := by decide +kernel
set_option maxHeartbeats 4000000 in
set_option maxRecDepth 100000 in
theorem mX8_set_0 (l : Launch) (E : gT) (a : Nat) (p1 : Nat) (p2 : Nat) (p3 : Nat) (p4 : Nat) (p5 : Nat) (p6 : Nat) (σ : Nat → Int) (ρ : Nat → Int) (pm : Int) (ig : Int) (mo : Int) (rd : Int) (wr : Int) (sm : Int) (x : Int) (hv : 4 ≤ x ∧ x ≤ 400) : Cd l E yX8_set wsX8_set 2 46 0 0 [.ref a, .int (iI 0), .int (iI x)] [cMod a p1 p2 p3 p4 p5 p6 pm ig mo rd wr sm, cAt E p1 σ ρ] (some (.int (iI (σ 5)))) [cMod a p1 p2 p3 p4 p5 p6 pm ig mo rd wr sm, cAt E p1 (up σ 5 x) ρ] := by
  refine Ct.mk (cc := cX8_set) (maxL := 4) (ret := (some .int)) (plainFor_of_name (by decide)) rfl (Nat.le_of_ble_eq_true rfl) ?_
  intro p e s m below meth c A ls H locs S hr hlk hnm B hl
  have S : CallFix p m c cX8_set 4 s #[.ref a, .int (iI 0), .int (iI x)] wsX8_set RX8 := S
  have hl : lv_has ls 4 [(0, .ref a), (1, .int (iI 0)), (2, .int (iI x))] := hl
  refine z_iload_n S (pc := 0) dX8_set_0 rfl (lv_at hl 1 rfl) ?_
  refine z_iload_n S (pc := 1) dX8_set_1 rfl (lv_at hl 2 rfl) ?_
  refine z_callS S (pc := 2) B (wr := [cMod a p1 p2 p3 p4 p5 p6 pm ig mo rd wr sm, cAt E p1 σ ρ]) (wn := fun _ => [cMod a p1 p2 p3 p4 p5 p6 pm ig mo rd wr sm, cAt E p1 σ ρ]) (st1 := fun _ => [.int (iI (bI (4 ≤ x ∧ x ≤ 400)))]) (As := [.int (iI 0), .int (iI x)]) (mX8_takes_0 l E x (show inI x from by omega)) gX8_set_X8_takes 2 rfl (by decide +kernel) ⟨Nat.le_of_ble_eq_true rfl, Nat.le_of_ble_eq_true rfl, Nat.le_of_ble_eq_true rfl, Nat.le_of_ble_eq_true rfl⟩ [] [0, 1] [0, 1] rfl rfl ⟨rfl, rfl, rfl, by decide⟩ (fun _ => rfl) rfl (fun _ => rfl) hl.1 (Nat.le_of_ble_eq_true rfl) rfl dX8_set_2 (fun _ _ H locs B => ?_)
  refine z_ifne_b S (pc := 5) (tgt := 11) dX8_set_5 rfl (fun c1 => ?_) (fun c1 => absurd c1 (by omega))
  refine z_aload_n S (pc := 11) dX8_set_11 rfl (lv_at hl 0 rfl) ?_
  refine z_get S (pc := 12) B iX8_set_X8 0 rfl rfl 0 (by decide) rfl rfl (by decide +kernel) dX8_set_12 ?_
  refine z_iconst S (pc := 15) dX8_set_15 ?_
  refine z_iload_n S (pc := 16) dX8_set_16 rfl (lv_at hl 1 rfl) ?_
  refine z_iadd S (pc := 17) dX8_set_17 ?_
  refine z_lald S (pc := 18) B 1 2 rfl rfl (k := 5) (by decide) (by decide) (by decide) (v := .long (iL (σ 5))) rfl dX8_set_18 ?_
  refine z_l2i S (pc := 19) dX8_set_19 ?_
  refine lv_istore_n (lv' := [(3, .int (iI (σ 5))), (0, .ref a), (1, .int (iI 0)), (2, .int (iI x))]) S.1 S.2.1 (pc := 20) dX8_set_20 rfl hl (by decide) rfl (fun ls hl => ?_)
  refine z_aload_n S (pc := 21) dX8_set_21 rfl (lv_at hl 1 rfl) ?_
  refine z_get S (pc := 22) B iX8_set_X8 0 rfl rfl 0 (by decide) rfl rfl (by decide +kernel) dX8_set_22 ?_
  refine z_iconst S (pc := 25) dX8_set_25 ?_
  refine z_iload_n S (pc := 26) dX8_set_26 rfl (lv_at hl 2 rfl) ?_
  refine z_iadd S (pc := 27) dX8_set_27 ?_
  refine z_iload_n S (pc := 28) dX8_set_28 rfl (lv_at hl 3 rfl) ?_
  refine z_i2l S (pc := 29) (by omega) dX8_set_29 ?_
  refine z_last S (pc := 30) B 1 2 rfl rfl (k := 5) (by decide) (by decide) (by decide) dX8_set_30 (wn := [cMod a p1 p2 p3 p4 p5 p6 pm ig mo rd wr sm, cAt E p1 (up σ 5 x) ρ]) (by rw [lmu _ _ (by decide)]; rfl) (fun H locs B => ?_)
  refine z_iconst S (pc := 31) dX8_set_31 ?_
  refine z_iload_n S (pc := 32) dX8_set_32 rfl (lv_at hl 2 rfl) ?_
  refine z_iadd S (pc := 33) dX8_set_33 ?_
  refine z_bipush S (pc := 34) dX8_set_34 rfl ?_
  refine z_icmp_ne S (pc := 36) (tgt := 47) (by omega) (by omega) dX8_set_36 rfl (fun c2 => ?_) (fun c2 => absurd c2 (by omega))
  refine z_iload_n S (pc := 47) dX8_set_47 rfl (lv_at hl 0 rfl) ?_
  exact z_ireturn S hr hlk B () trivial rfl rfl (pc := 48) dX8_set_48
set_option maxHeartbeats 4000000 in
set_option maxRecDepth 100000 in
theorem mX8_set_0b (l : Launch) (E : gT) (a : Nat) (p1 : Nat) (p2 : Nat) (p3 : Nat) (p4 : Nat) (p5 : Nat) (p6 : Nat) (σ : Nat → Int) (ρ : Nat → Int) (pm : Int) (ig : Int) (mo : Int) (rd : Int) (wr : Int) (sm : Int) (x : Int) (hI : inI x) (hbad : (x < 4 ∨ 400 < x)) : Cd l E yX8_set wsX8_set 2 46 0 0 [.ref a, .int (iI 0), .int (iI x)] [cMod a p1 p2 p3 p4 p5 p6 pm ig mo rd wr sm] (some (.int (iI (-2)))) [cMod a p1 p2 p3 p4 p5 p6 pm ig mo rd wr sm] := by
  refine Ct.mk (cc := cX8_set) (maxL := 4) (ret := (some .int)) (plainFor_of_name (by decide)) rfl (Nat.le_of_ble_eq_true rfl) ?_
  intro p e s m below meth c A ls H locs S hr hlk hnm B hl
  have S : CallFix p m c cX8_set 4 s #[.ref a, .int (iI 0), .int (iI x)] wsX8_set RX8 := S
  have hl : lv_has ls 4 [(0, .ref a), (1, .int (iI 0)), (2, .int (iI x))] := hl
  refine z_iload_n S (pc := 0) dX8_set_0 rfl (lv_at hl 1 rfl) ?_
  refine z_iload_n S (pc := 1) dX8_set_1 rfl (lv_at hl 2 rfl) ?_
  refine z_callS S (pc := 2) B (wr := [cMod a p1 p2 p3 p4 p5 p6 pm ig mo rd wr sm]) (wn := fun _ => [cMod a p1 p2 p3 p4 p5 p6 pm ig mo rd wr sm]) (st1 := fun _ => [.int (iI (bI (4 ≤ x ∧ x ≤ 400)))]) (As := [.int (iI 0), .int (iI x)]) (mX8_takes_0 l E x (show inI x from by omega)) gX8_set_X8_takes 2 rfl (by decide +kernel) ⟨Nat.le_of_ble_eq_true rfl, Nat.le_of_ble_eq_true rfl, Nat.le_of_ble_eq_true rfl, Nat.le_of_ble_eq_true rfl⟩ [] [0] [0] rfl rfl ⟨rfl, rfl, rfl, by decide⟩ (fun _ => rfl) rfl (fun _ => rfl) hl.1 (Nat.le_of_ble_eq_true rfl) rfl dX8_set_2 (fun _ _ H locs B => ?_)
  refine z_ifne_b S (pc := 5) (tgt := 11) dX8_set_5 rfl (fun c1 => absurd c1 (by omega)) (fun c1 => ?_)
  refine z_bipush S (pc := 8) dX8_set_8 rfl ?_
  exact z_ireturn S hr hlk B () trivial rfl rfl (pc := 10) dX8_set_10
set_option maxHeartbeats 4000000 in
set_option maxRecDepth 100000 in
theorem mX8_takes_1 (l : Launch) (E : gT) (v : Int) (hI : inI v) : Cd l E yX8_takes wsX8_takes 1 25 0 0 [.int (iI 1), .int (iI v)] [] (some (.int (iI (bI (1 ≤ v ∧ v ≤ 50))))) [] := by
  refine Ct.mk (cc := cX8_takes) (maxL := 2) (ret := (some .boolean)) (plainFor_of_name (by decide)) rfl (Nat.le_of_ble_eq_true rfl) ?_
  intro p e s m below meth c A ls H locs S hr hlk hnm B hl
  have S : CallFix p m c cX8_takes 2 s #[.int (iI 1), .int (iI v)] wsX8_takes RX8 := S
  have hl : lv_has ls 2 [(0, .int (iI 1)), (1, .int (iI v))] := hl
  refine z_iload_n S (pc := 0) dX8_takes_0 rfl (lv_at hl 0 rfl) ?_
  · refine z_tsw S (pc := 1) (tgt := 52) (by omega) dX8_takes_1 (by omega) rfl rfl ?_
    refine z_iload_n S (pc := 52) dX8_takes_52 rfl (lv_at hl 1 rfl) ?_
    refine z_i2l S (pc := 53) (by omega) dX8_takes_53 ?_
    refine z_lconst S (pc := 54) (x := 1) dX8_takes_54 rfl ?_
    refine z_ldc2 S (pc := 55) (x := 50) (by decide +kernel) rfl dX8_takes_55 ?_
    refine z_callS S (pc := 58) B (wr := []) (wn := fun _ => []) (st1 := fun _ => [.int (iI (bI (1 ≤ v ∧ v ≤ 50)))]) (As := [.long (iL v), .long (iL 1), .long (iL 50)]) (mX8_in l E v 1 50 (show inL v from by omega) (show inL 1 from by omega) (show inL 50 from by omega)) gX8_takes_X8_in 3 rfl (by decide +kernel) ⟨Nat.le_of_ble_eq_true rfl, Nat.le_of_ble_eq_true rfl, Nat.le_of_ble_eq_true rfl, Nat.le_of_ble_eq_true rfl⟩ [] [] [] rfl rfl ⟨rfl, rfl, rfl, by decide⟩ (fun _ => rfl) rfl (fun _ => rfl) hl.1 (Nat.le_of_ble_eq_true rfl) rfl dX8_takes_58 (fun _ _ H locs B => ?_)
    exact z_zreturn S (bI_01 _) hr hlk B () trivial rfl rfl (pc := 61) dX8_takes_61
set_option maxHeartbeats 4000000 in
set_option maxRecDepth 100000 in
theorem mX8_set_1 (l : Launch) (E : gT) (a : Nat) (p1 : Nat) (p2 : Nat) (p3 : Nat) (p4 : Nat) (p5 : Nat) (p6 : Nat) (σ : Nat → Int) (ρ : Nat → Int) (pm : Int) (ig : Int) (mo : Int) (rd : Int) (wr : Int) (sm : Int) (x : Int) (hv : 1 ≤ x ∧ x ≤ 50) : Cd l E yX8_set wsX8_set 2 46 0 0 [.ref a, .int (iI 1), .int (iI x)] [cMod a p1 p2 p3 p4 p5 p6 pm ig mo rd wr sm, cAt E p1 σ ρ] (some (.int (iI (σ 6)))) [cMod a p1 p2 p3 p4 p5 p6 pm ig mo rd wr sm, cAt E p1 (up σ 6 x) ρ] := by
  refine Ct.mk (cc := cX8_set) (maxL := 4) (ret := (some .int)) (plainFor_of_name (by decide)) rfl (Nat.le_of_ble_eq_true rfl) ?_
  intro p e s m below meth c A ls H locs S hr hlk hnm B hl
  have S : CallFix p m c cX8_set 4 s #[.ref a, .int (iI 1), .int (iI x)] wsX8_set RX8 := S
  have hl : lv_has ls 4 [(0, .ref a), (1, .int (iI 1)), (2, .int (iI x))] := hl
  refine z_iload_n S (pc := 0) dX8_set_0 rfl (lv_at hl 1 rfl) ?_
  refine z_iload_n S (pc := 1) dX8_set_1 rfl (lv_at hl 2 rfl) ?_
  refine z_callS S (pc := 2) B (wr := [cMod a p1 p2 p3 p4 p5 p6 pm ig mo rd wr sm, cAt E p1 σ ρ]) (wn := fun _ => [cMod a p1 p2 p3 p4 p5 p6 pm ig mo rd wr sm, cAt E p1 σ ρ]) (st1 := fun _ => [.int (iI (bI (1 ≤ x ∧ x ≤ 50)))]) (As := [.int (iI 1), .int (iI x)]) (mX8_takes_1 l E x (show inI x from by omega)) gX8_set_X8_takes 2 rfl (by decide +kernel) ⟨Nat.le_of_ble_eq_true rfl, Nat.le_of_ble_eq_true rfl, Nat.le_of_ble_eq_true rfl, Nat.le_of_ble_eq_true rfl⟩ [] [0, 1] [0, 1] rfl rfl ⟨rfl, rfl, rfl, by decide⟩ (fun _ => rfl) rfl (fun _ => rfl) hl.1 (Nat.le_of_ble_eq_true rfl) rfl dX8_set_2 (fun _ _ H locs B => ?_)
  refine z_ifne_b S (pc := 5) (tgt := 11) dX8_set_5 rfl (fun c1 => ?_) (fun c1 => absurd c1 (by omega))
  refine z_aload_n S (pc := 11) dX8_set_11 rfl (lv_at hl 0 rfl) ?_
  refine z_get S (pc := 12) B iX8_set_X8 0 rfl rfl 0 (by decide) rfl rfl (by decide +kernel) dX8_set_12 ?_
  refine z_iconst S (pc := 15) dX8_set_15 ?_
  refine z_iload_n S (pc := 16) dX8_set_16 rfl (lv_at hl 1 rfl) ?_
  refine z_iadd S (pc := 17) dX8_set_17 ?_
  refine z_lald S (pc := 18) B 1 2 rfl rfl (k := 6) (by decide) (by decide) (by decide) (v := .long (iL (σ 6))) rfl dX8_set_18 ?_
  refine z_l2i S (pc := 19) dX8_set_19 ?_
  refine lv_istore_n (lv' := [(3, .int (iI (σ 6))), (0, .ref a), (1, .int (iI 1)), (2, .int (iI x))]) S.1 S.2.1 (pc := 20) dX8_set_20 rfl hl (by decide) rfl (fun ls hl => ?_)
  refine z_aload_n S (pc := 21) dX8_set_21 rfl (lv_at hl 1 rfl) ?_
  refine z_get S (pc := 22) B iX8_set_X8 0 rfl rfl 0 (by decide) rfl rfl (by decide +kernel) dX8_set_22 ?_
  refine z_iconst S (pc := 25) dX8_set_25 ?_
  refine z_iload_n S (pc := 26) dX8_set_26 rfl (lv_at hl 2 rfl) ?_
  refine z_iadd S (pc := 27) dX8_set_27 ?_
  refine z_iload_n S (pc := 28) dX8_set_28 rfl (lv_at hl 3 rfl) ?_
  refine z_i2l S (pc := 29) (by omega) dX8_set_29 ?_
  refine z_last S (pc := 30) B 1 2 rfl rfl (k := 6) (by decide) (by decide) (by decide) dX8_set_30 (wn := [cMod a p1 p2 p3 p4 p5 p6 pm ig mo rd wr sm, cAt E p1 (up σ 6 x) ρ]) (by rw [lmu _ _ (by decide)]; rfl) (fun H locs B => ?_)
  refine z_iconst S (pc := 31) dX8_set_31 ?_
  refine z_iload_n S (pc := 32) dX8_set_32 rfl (lv_at hl 2 rfl) ?_
  refine z_iadd S (pc := 33) dX8_set_33 ?_
  refine z_bipush S (pc := 34) dX8_set_34 rfl ?_
  refine z_icmp_ne S (pc := 36) (tgt := 47) (by omega) (by omega) dX8_set_36 rfl (fun c2 => ?_) (fun c2 => absurd c2 (by omega))
  refine z_iload_n S (pc := 47) dX8_set_47 rfl (lv_at hl 0 rfl) ?_
  exact z_ireturn S hr hlk B () trivial rfl rfl (pc := 48) dX8_set_48
set_option maxHeartbeats 4000000 in
set_option maxRecDepth 100000 in
theorem mX8_set_1b (l : Launch) (E : gT) (a : Nat) (p1 : Nat) (p2 : Nat) (p3 : Nat) (p4 : Nat) (p5 : Nat) (p6 : Nat) (σ : Nat → Int) (ρ : Nat → Int) (pm : Int) (ig : Int) (mo : Int) (rd : Int) (wr : Int) (sm : Int) (x : Int) (hI : inI x) (hbad : (x < 1 ∨ 50 < x)) : Cd l E yX8_set wsX8_set 2 46 0 0 [.ref a, .int (iI 1), .int (iI x)] [cMod a p1 p2 p3 p4 p5 p6 pm ig mo rd wr sm] (some (.int (iI (-2)))) [cMod a p1 p2 p3 p4 p5 p6 pm ig mo rd wr sm] := by
  refine Ct.mk (cc := cX8_set) (maxL := 4) (ret := (some .int)) (plainFor_of_name (by decide)) rfl (Nat.le_of_ble_eq_true rfl) ?_
  intro p e s m below meth c A ls H locs S hr hlk hnm B hl
  have S : CallFix p m c cX8_set 4 s #[.ref a, .int (iI 1), .int (iI x)] wsX8_set RX8 := S
  have hl : lv_has ls 4 [(0, .ref a), (1, .int (iI 1)), (2, .int (iI x))] := hl
  refine z_iload_n S (pc := 0) dX8_set_0 rfl (lv_at hl 1 rfl) ?_
  refine z_iload_n S (pc := 1) dX8_set_1 rfl (lv_at hl 2 rfl) ?_
  refine z_callS S (pc := 2) B (wr := [cMod a p1 p2 p3 p4 p5 p6 pm ig mo rd wr sm]) (wn := fun _ => [cMod a p1 p2 p3 p4 p5 p6 pm ig mo rd wr sm]) (st1 := fun _ => [.int (iI (bI (1 ≤ x ∧ x ≤ 50)))]) (As := [.int (iI 1), .int (iI x)]) (mX8_takes_1 l E x (show inI x from by omega)) gX8_set_X8_takes 2 rfl (by decide +kernel) ⟨Nat.le_of_ble_eq_true rfl, Nat.le_of_ble_eq_true rfl, Nat.le_of_ble_eq_true rfl, Nat.le_of_ble_eq_true rfl⟩ [] [0] [0] rfl rfl ⟨rfl, rfl, rfl, by decide⟩ (fun _ => rfl) rfl (fun _ => rfl) hl.1 (Nat.le_of_ble_eq_true rfl) rfl dX8_set_2 (fun _ _ H locs B => ?_)
  refine z_ifne_b S (pc := 5) (tgt := 11) dX8_set_5 rfl (fun c1 => absurd c1 (by omega)) (fun c1 => ?_)
  refine z_bipush S (pc := 8) dX8_set_8 rfl ?_
  exact z_ireturn S hr hlk B () trivial rfl rfl (pc := 10) dX8_set_10
set_option maxHeartbeats 4000000 in
set_option maxRecDepth 100000 in
theorem mX8_takes_2 (l : Launch) (E : gT) (v : Int) (hI : inI v) : Cd l E yX8_takes wsX8_takes 1 25 0 0 [.int (iI 2), .int (iI v)] [] (some (.int (iI (bI (0 ≤ v ∧ v ≤ 1))))) [] := by
  refine Ct.mk (cc := cX8_takes) (maxL := 2) (ret := (some .boolean)) (plainFor_of_name (by decide)) rfl (Nat.le_of_ble_eq_true rfl) ?_
  intro p e s m below meth c A ls H locs S hr hlk hnm B hl
  have S : CallFix p m c cX8_takes 2 s #[.int (iI 2), .int (iI v)] wsX8_takes RX8 := S
  have hl : lv_has ls 2 [(0, .int (iI 2)), (1, .int (iI v))] := hl
  refine z_iload_n S (pc := 0) dX8_takes_0 rfl (lv_at hl 0 rfl) ?_
  · refine z_tsw S (pc := 1) (tgt := 62) (by omega) dX8_takes_1 (by omega) rfl rfl ?_
    refine z_iload_n S (pc := 62) dX8_takes_62 rfl (lv_at hl 1 rfl) ?_
    refine z_i2l S (pc := 63) (by omega) dX8_takes_63 ?_
    refine z_lconst S (pc := 64) (x := 0) dX8_takes_64 rfl ?_
    refine z_lconst S (pc := 65) (x := 1) dX8_takes_65 rfl ?_
    refine z_callS S (pc := 66) B (wr := []) (wn := fun _ => []) (st1 := fun _ => [.int (iI (bI (0 ≤ v ∧ v ≤ 1)))]) (As := [.long (iL v), .long (iL 0), .long (iL 1)]) (mX8_in l E v 0 1 (show inL v from by omega) (show inL 0 from by omega) (show inL 1 from by omega)) gX8_takes_X8_in 3 rfl (by decide +kernel) ⟨Nat.le_of_ble_eq_true rfl, Nat.le_of_ble_eq_true rfl, Nat.le_of_ble_eq_true rfl, Nat.le_of_ble_eq_true rfl⟩ [] [] [] rfl rfl ⟨rfl, rfl, rfl, by decide⟩ (fun _ => rfl) rfl (fun _ => rfl) hl.1 (Nat.le_of_ble_eq_true rfl) rfl dX8_takes_66 (fun _ _ H locs B => ?_)
    exact z_zreturn S (bI_01 _) hr hlk B () trivial rfl rfl (pc := 69) dX8_takes_69
set_option maxHeartbeats 4000000 in
set_option maxRecDepth 100000 in
theorem mX8_set_2 (l : Launch) (E : gT) (a : Nat) (p1 : Nat) (p2 : Nat) (p3 : Nat) (p4 : Nat) (p5 : Nat) (p6 : Nat) (σ : Nat → Int) (ρ : Nat → Int) (pm : Int) (ig : Int) (mo : Int) (rd : Int) (wr : Int) (sm : Int) (x : Int) (hv : 0 ≤ x ∧ x ≤ 1) : Cd l E yX8_set wsX8_set 2 46 0 0 [.ref a, .int (iI 2), .int (iI x)] [cMod a p1 p2 p3 p4 p5 p6 pm ig mo rd wr sm, cAt E p1 σ ρ] (some (.int (iI (σ 7)))) [cMod a p1 p2 p3 p4 p5 p6 pm ig mo rd wr sm, cAt E p1 (up σ 7 x) ρ] := by
  refine Ct.mk (cc := cX8_set) (maxL := 4) (ret := (some .int)) (plainFor_of_name (by decide)) rfl (Nat.le_of_ble_eq_true rfl) ?_
  intro p e s m below meth c A ls H locs S hr hlk hnm B hl
  have S : CallFix p m c cX8_set 4 s #[.ref a, .int (iI 2), .int (iI x)] wsX8_set RX8 := S
  have hl : lv_has ls 4 [(0, .ref a), (1, .int (iI 2)), (2, .int (iI x))] := hl
  refine z_iload_n S (pc := 0) dX8_set_0 rfl (lv_at hl 1 rfl) ?_
  refine z_iload_n S (pc := 1) dX8_set_1 rfl (lv_at hl 2 rfl) ?_
  refine z_callS S (pc := 2) B (wr := [cMod a p1 p2 p3 p4 p5 p6 pm ig mo rd wr sm, cAt E p1 σ ρ]) (wn := fun _ => [cMod a p1 p2 p3 p4 p5 p6 pm ig mo rd wr sm, cAt E p1 σ ρ]) (st1 := fun _ => [.int (iI (bI (0 ≤ x ∧ x ≤ 1)))]) (As := [.int (iI 2), .int (iI x)]) (mX8_takes_2 l E x (show inI x from by omega)) gX8_set_X8_takes 2 rfl (by decide +kernel) ⟨Nat.le_of_ble_eq_true rfl, Nat.le_of_ble_eq_true rfl, Nat.le_of_ble_eq_true rfl, Nat.le_of_ble_eq_true rfl⟩ [] [0, 1] [0, 1] rfl rfl ⟨rfl, rfl, rfl, by decide⟩ (fun _ => rfl) rfl (fun _ => rfl) hl.1 (Nat.le_of_ble_eq_true rfl) rfl dX8_set_2 (fun _ _ H locs B => ?_)
  refine z_ifne_b S (pc := 5) (tgt := 11) dX8_set_5 rfl (fun c1 => ?_) (fun c1 => absurd c1 (by omega))
  refine z_aload_n S (pc := 11) dX8_set_11 rfl (lv_at hl 0 rfl) ?_
  refine z_get S (pc := 12) B iX8_set_X8 0 rfl rfl 0 (by decide) rfl rfl (by decide +kernel) dX8_set_12 ?_
  refine z_iconst S (pc := 15) dX8_set_15 ?_
  refine z_iload_n S (pc := 16) dX8_set_16 rfl (lv_at hl 1 rfl) ?_
  refine z_iadd S (pc := 17) dX8_set_17 ?_
  refine z_lald S (pc := 18) B 1 2 rfl rfl (k := 7) (by decide) (by decide) (by decide) (v := .long (iL (σ 7))) rfl dX8_set_18 ?_
  refine z_l2i S (pc := 19) dX8_set_19 ?_
  refine lv_istore_n (lv' := [(3, .int (iI (σ 7))), (0, .ref a), (1, .int (iI 2)), (2, .int (iI x))]) S.1 S.2.1 (pc := 20) dX8_set_20 rfl hl (by decide) rfl (fun ls hl => ?_)
  refine z_aload_n S (pc := 21) dX8_set_21 rfl (lv_at hl 1 rfl) ?_
  refine z_get S (pc := 22) B iX8_set_X8 0 rfl rfl 0 (by decide) rfl rfl (by decide +kernel) dX8_set_22 ?_
  refine z_iconst S (pc := 25) dX8_set_25 ?_
  refine z_iload_n S (pc := 26) dX8_set_26 rfl (lv_at hl 2 rfl) ?_
  refine z_iadd S (pc := 27) dX8_set_27 ?_
  refine z_iload_n S (pc := 28) dX8_set_28 rfl (lv_at hl 3 rfl) ?_
  refine z_i2l S (pc := 29) (by omega) dX8_set_29 ?_
  refine z_last S (pc := 30) B 1 2 rfl rfl (k := 7) (by decide) (by decide) (by decide) dX8_set_30 (wn := [cMod a p1 p2 p3 p4 p5 p6 pm ig mo rd wr sm, cAt E p1 (up σ 7 x) ρ]) (by rw [lmu _ _ (by decide)]; rfl) (fun H locs B => ?_)
  refine z_iconst S (pc := 31) dX8_set_31 ?_
  refine z_iload_n S (pc := 32) dX8_set_32 rfl (lv_at hl 2 rfl) ?_
  refine z_iadd S (pc := 33) dX8_set_33 ?_
  refine z_bipush S (pc := 34) dX8_set_34 rfl ?_
  refine z_icmp_ne S (pc := 36) (tgt := 47) (by omega) (by omega) dX8_set_36 rfl (fun c2 => ?_) (fun c2 => absurd c2 (by omega))
  refine z_iload_n S (pc := 47) dX8_set_47 rfl (lv_at hl 0 rfl) ?_
  exact z_ireturn S hr hlk B () trivial rfl rfl (pc := 48) dX8_set_48
set_option maxHeartbeats 4000000 in
set_option maxRecDepth 100000 in
theorem mX8_set_2b (l : Launch) (E : gT) (a : Nat) (p1 : Nat) (p2 : Nat) (p3 : Nat) (p4 : Nat) (p5 : Nat) (p6 : Nat) (σ : Nat → Int) (ρ : Nat → Int) (pm : Int) (ig : Int) (mo : Int) (rd : Int) (wr : Int) (sm : Int) (x : Int) (hI : inI x) (hbad : (x < 0 ∨ 1 < x)) : Cd l E yX8_set wsX8_set 2 46 0 0 [.ref a, .int (iI 2), .int (iI x)] [cMod a p1 p2 p3 p4 p5 p6 pm ig mo rd wr sm] (some (.int (iI (-2)))) [cMod a p1 p2 p3 p4 p5 p6 pm ig mo rd wr sm] := by
  refine Ct.mk (cc := cX8_set) (maxL := 4) (ret := (some .int)) (plainFor_of_name (by decide)) rfl (Nat.le_of_ble_eq_true rfl) ?_
  intro p e s m below meth c A ls H locs S hr hlk hnm B hl
  have S : CallFix p m c cX8_set 4 s #[.ref a, .int (iI 2), .int (iI x)] wsX8_set RX8 := S
  have hl : lv_has ls 4 [(0, .ref a), (1, .int (iI 2)), (2, .int (iI x))] := hl
  refine z_iload_n S (pc := 0) dX8_set_0 rfl (lv_at hl 1 rfl) ?_
  refine z_iload_n S (pc := 1) dX8_set_1 rfl (lv_at hl 2 rfl) ?_
  refine z_callS S (pc := 2) B (wr := [cMod a p1 p2 p3 p4 p5 p6 pm ig mo rd wr sm]) (wn := fun _ => [cMod a p1 p2 p3 p4 p5 p6 pm ig mo rd wr sm]) (st1 := fun _ => [.int (iI (bI (0 ≤ x ∧ x ≤ 1)))]) (As := [.int (iI 2), .int (iI x)]) (mX8_takes_2 l E x (show inI x from by omega)) gX8_set_X8_takes 2 rfl (by decide +kernel) ⟨Nat.le_of_ble_eq_true rfl, Nat.le_of_ble_eq_true rfl, Nat.le_of_ble_eq_true rfl, Nat.le_of_ble_eq_true rfl⟩ [] [0] [0] rfl rfl ⟨rfl, rfl, rfl, by decide⟩ (fun _ => rfl) rfl (fun _ => rfl) hl.1 (Nat.le_of_ble_eq_true rfl) rfl dX8_set_2 (fun _ _ H locs B => ?_)
  refine z_ifne_b S (pc := 5) (tgt := 11) dX8_set_5 rfl (fun c1 => absurd c1 (by omega)) (fun c1 => ?_)
  refine z_bipush S (pc := 8) dX8_set_8 rfl ?_
  exact z_ireturn S hr hlk B () trivial rfl rfl (pc := 10) dX8_set_10
set_option maxHeartbeats 4000000 in
set_option maxRecDepth 100000 in
theorem mX8_takes_3 (l : Launch) (E : gT) (v : Int) (hI : inI v) : Cd l E yX8_takes wsX8_takes 1 25 0 0 [.int (iI 3), .int (iI v)] [] (some (.int (iI (bI (0 ≤ v ∧ v ≤ 10))))) [] := by
  refine Ct.mk (cc := cX8_takes) (maxL := 2) (ret := (some .boolean)) (plainFor_of_name (by decide)) rfl (Nat.le_of_ble_eq_true rfl) ?_
  intro p e s m below meth c A ls H locs S hr hlk hnm B hl
  have S : CallFix p m c cX8_takes 2 s #[.int (iI 3), .int (iI v)] wsX8_takes RX8 := S
  have hl : lv_has ls 2 [(0, .int (iI 3)), (1, .int (iI v))] := hl
  refine z_iload_n S (pc := 0) dX8_takes_0 rfl (lv_at hl 0 rfl) ?_
  · refine z_tsw S (pc := 1) (tgt := 70) (by omega) dX8_takes_1 (by omega) rfl rfl ?_
    refine z_iload_n S (pc := 70) dX8_takes_70 rfl (lv_at hl 1 rfl) ?_
    refine z_i2l S (pc := 71) (by omega) dX8_takes_71 ?_
    refine z_lconst S (pc := 72) (x := 0) dX8_takes_72 rfl ?_
    refine z_ldc2 S (pc := 73) (x := 10) (by decide +kernel) rfl dX8_takes_73 ?_
    refine z_callS S (pc := 76) B (wr := []) (wn := fun _ => []) (st1 := fun _ => [.int (iI (bI (0 ≤ v ∧ v ≤ 10)))]) (As := [.long (iL v), .long (iL 0), .long (iL 10)]) (mX8_in l E v 0 10 (show inL v from by omega) (show inL 0 from by omega) (show inL 10 from by omega)) gX8_takes_X8_in 3 rfl (by decide +kernel) ⟨Nat.le_of_ble_eq_true rfl, Nat.le_of_ble_eq_true rfl, Nat.le_of_ble_eq_true rfl, Nat.le_of_ble_eq_true rfl⟩ [] [] [] rfl rfl ⟨rfl, rfl, rfl, by decide⟩ (fun _ => rfl) rfl (fun _ => rfl) hl.1 (Nat.le_of_ble_eq_true rfl) rfl dX8_takes_76 (fun _ _ H locs B => ?_)
    exact z_zreturn S (bI_01 _) hr hlk B () trivial rfl rfl (pc := 79) dX8_takes_79
set_option maxHeartbeats 4000000 in
set_option maxRecDepth 100000 in
theorem mX8_set_3 (l : Launch) (E : gT) (a : Nat) (p1 : Nat) (p2 : Nat) (p3 : Nat) (p4 : Nat) (p5 : Nat) (p6 : Nat) (σ : Nat → Int) (ρ : Nat → Int) (pm : Int) (ig : Int) (mo : Int) (rd : Int) (wr : Int) (sm : Int) (x : Int) (hv : 0 ≤ x ∧ x ≤ 10) : Cd l E yX8_set wsX8_set 2 46 0 0 [.ref a, .int (iI 3), .int (iI x)] [cMod a p1 p2 p3 p4 p5 p6 pm ig mo rd wr sm, cAt E p1 σ ρ] (some (.int (iI (σ 8)))) [cMod a p1 p2 p3 p4 p5 p6 pm ig mo rd wr sm, cAt E p1 (up (up σ 8 x) 13 0) ρ] := by
  refine Ct.mk (cc := cX8_set) (maxL := 4) (ret := (some .int)) (plainFor_of_name (by decide)) rfl (Nat.le_of_ble_eq_true rfl) ?_
  intro p e s m below meth c A ls H locs S hr hlk hnm B hl
  have S : CallFix p m c cX8_set 4 s #[.ref a, .int (iI 3), .int (iI x)] wsX8_set RX8 := S
  have hl : lv_has ls 4 [(0, .ref a), (1, .int (iI 3)), (2, .int (iI x))] := hl
  refine z_iload_n S (pc := 0) dX8_set_0 rfl (lv_at hl 1 rfl) ?_
  refine z_iload_n S (pc := 1) dX8_set_1 rfl (lv_at hl 2 rfl) ?_
  refine z_callS S (pc := 2) B (wr := [cMod a p1 p2 p3 p4 p5 p6 pm ig mo rd wr sm, cAt E p1 σ ρ]) (wn := fun _ => [cMod a p1 p2 p3 p4 p5 p6 pm ig mo rd wr sm, cAt E p1 σ ρ]) (st1 := fun _ => [.int (iI (bI (0 ≤ x ∧ x ≤ 10)))]) (As := [.int (iI 3), .int (iI x)]) (mX8_takes_3 l E x (show inI x from by omega)) gX8_set_X8_takes 2 rfl (by decide +kernel) ⟨Nat.le_of_ble_eq_true rfl, Nat.le_of_ble_eq_true rfl, Nat.le_of_ble_eq_true rfl, Nat.le_of_ble_eq_true rfl⟩ [] [0, 1] [0, 1] rfl rfl ⟨rfl, rfl, rfl, by decide⟩ (fun _ => rfl) rfl (fun _ => rfl) hl.1 (Nat.le_of_ble_eq_true rfl) rfl dX8_set_2 (fun _ _ H locs B => ?_)
  refine z_ifne_b S (pc := 5) (tgt := 11) dX8_set_5 rfl (fun c1 => ?_) (fun c1 => absurd c1 (by omega))
  refine z_aload_n S (pc := 11) dX8_set_11 rfl (lv_at hl 0 rfl) ?_
  refine z_get S (pc := 12) B iX8_set_X8 0 rfl rfl 0 (by decide) rfl rfl (by decide +kernel) dX8_set_12 ?_
  refine z_iconst S (pc := 15) dX8_set_15 ?_
  refine z_iload_n S (pc := 16) dX8_set_16 rfl (lv_at hl 1 rfl) ?_
  refine z_iadd S (pc := 17) dX8_set_17 ?_
  refine z_lald S (pc := 18) B 1 2 rfl rfl (k := 8) (by decide) (by decide) (by decide) (v := .long (iL (σ 8))) rfl dX8_set_18 ?_
  refine z_l2i S (pc := 19) dX8_set_19 ?_
  refine lv_istore_n (lv' := [(3, .int (iI (σ 8))), (0, .ref a), (1, .int (iI 3)), (2, .int (iI x))]) S.1 S.2.1 (pc := 20) dX8_set_20 rfl hl (by decide) rfl (fun ls hl => ?_)
  refine z_aload_n S (pc := 21) dX8_set_21 rfl (lv_at hl 1 rfl) ?_
  refine z_get S (pc := 22) B iX8_set_X8 0 rfl rfl 0 (by decide) rfl rfl (by decide +kernel) dX8_set_22 ?_
  refine z_iconst S (pc := 25) dX8_set_25 ?_
  refine z_iload_n S (pc := 26) dX8_set_26 rfl (lv_at hl 2 rfl) ?_
  refine z_iadd S (pc := 27) dX8_set_27 ?_
  refine z_iload_n S (pc := 28) dX8_set_28 rfl (lv_at hl 3 rfl) ?_
  refine z_i2l S (pc := 29) (by omega) dX8_set_29 ?_
  refine z_last S (pc := 30) B 1 2 rfl rfl (k := 8) (by decide) (by decide) (by decide) dX8_set_30 (wn := [cMod a p1 p2 p3 p4 p5 p6 pm ig mo rd wr sm, cAt E p1 (up σ 8 x) ρ]) (by rw [lmu _ _ (by decide)]; rfl) (fun H locs B => ?_)
  refine z_iconst S (pc := 31) dX8_set_31 ?_
  refine z_iload_n S (pc := 32) dX8_set_32 rfl (lv_at hl 2 rfl) ?_
  refine z_iadd S (pc := 33) dX8_set_33 ?_
  refine z_bipush S (pc := 34) dX8_set_34 rfl ?_
  refine z_icmp_ne S (pc := 36) (tgt := 47) (by omega) (by omega) dX8_set_36 rfl (fun c2 => absurd c2 (by omega)) (fun c2 => ?_)
  refine z_aload_n S (pc := 39) dX8_set_39 rfl (lv_at hl 1 rfl) ?_
  refine z_get S (pc := 40) B iX8_set_X8 0 rfl rfl 0 (by decide) rfl rfl (by decide +kernel) dX8_set_40 ?_
  refine z_bipush S (pc := 43) dX8_set_43 rfl ?_
  refine z_lconst S (pc := 45) (x := 0) dX8_set_45 rfl ?_
  refine z_last S (pc := 46) B 1 2 rfl rfl (k := 13) rfl (by decide) (by decide) dX8_set_46 (wn := [cMod a p1 p2 p3 p4 p5 p6 pm ig mo rd wr sm, cAt E p1 (up (up σ 8 x) 13 0) ρ]) (by rw [lmu _ _ (by decide)]; rfl) (fun H locs B => ?_)
  refine z_iload_n S (pc := 47) dX8_set_47 rfl (lv_at hl 0 rfl) ?_
  exact z_ireturn S hr hlk B () trivial rfl rfl (pc := 48) dX8_set_48
set_option maxHeartbeats 4000000 in
set_option maxRecDepth 100000 in
theorem mX8_set_3b (l : Launch) (E : gT) (a : Nat) (p1 : Nat) (p2 : Nat) (p3 : Nat) (p4 : Nat) (p5 : Nat) (p6 : Nat) (σ : Nat → Int) (ρ : Nat → Int) (pm : Int) (ig : Int) (mo : Int) (rd : Int) (wr : Int) (sm : Int) (x : Int) (hI : inI x) (hbad : (x < 0 ∨ 10 < x)) : Cd l E yX8_set wsX8_set 2 46 0 0 [.ref a, .int (iI 3), .int (iI x)] [cMod a p1 p2 p3 p4 p5 p6 pm ig mo rd wr sm] (some (.int (iI (-2)))) [cMod a p1 p2 p3 p4 p5 p6 pm ig mo rd wr sm] := by
  refine Ct.mk (cc := cX8_set) (maxL := 4) (ret := (some .int)) (plainFor_of_name (by decide)) rfl (Nat.le_of_ble_eq_true rfl) ?_
  intro p e s m below meth c A ls H locs S hr hlk hnm B hl
  have S : CallFix p m c cX8_set 4 s #[.ref a, .int (iI 3), .int (iI x)] wsX8_set RX8 := S
  have hl : lv_has ls 4 [(0, .ref a), (1, .int (iI 3)), (2, .int (iI x))] := hl
  refine z_iload_n S (pc := 0) dX8_set_0 rfl (lv_at hl 1 rfl) ?_
  refine z_iload_n S (pc := 1) dX8_set_1 rfl (lv_at hl 2 rfl) ?_
  refine z_callS S (pc := 2) B (wr := [cMod a p1 p2 p3 p4 p5 p6 pm ig mo rd wr sm]) (wn := fun _ => [cMod a p1 p2 p3 p4 p5 p6 pm ig mo rd wr sm]) (st1 := fun _ => [.int (iI (bI (0 ≤ x ∧ x ≤ 10)))]) (As := [.int (iI 3), .int (iI x)]) (mX8_takes_3 l E x (show inI x from by omega)) gX8_set_X8_takes 2 rfl (by decide +kernel) ⟨Nat.le_of_ble_eq_true rfl, Nat.le_of_ble_eq_true rfl, Nat.le_of_ble_eq_true rfl, Nat.le_of_ble_eq_true rfl⟩ [] [0] [0] rfl rfl ⟨rfl, rfl, rfl, by decide⟩ (fun _ => rfl) rfl (fun _ => rfl) hl.1 (Nat.le_of_ble_eq_true rfl) rfl dX8_set_2 (fun _ _ H locs B => ?_)
  refine z_ifne_b S (pc := 5) (tgt := 11) dX8_set_5 rfl (fun c1 => absurd c1 (by omega)) (fun c1 => ?_)
  refine z_bipush S (pc := 8) dX8_set_8 rfl ?_
  exact z_ireturn S hr hlk B () trivial rfl rfl (pc := 10) dX8_set_10
set_option maxHeartbeats 4000000 in
set_option maxRecDepth 100000 in
theorem mX8_takes_4 (l : Launch) (E : gT) (v : Int) (hI : inI v) : Cd l E yX8_takes wsX8_takes 1 25 0 0 [.int (iI 4), .int (iI v)] [] (some (.int (iI (bI (0 ≤ v ∧ v ≤ 1))))) [] := by
  refine Ct.mk (cc := cX8_takes) (maxL := 2) (ret := (some .boolean)) (plainFor_of_name (by decide)) rfl (Nat.le_of_ble_eq_true rfl) ?_
  intro p e s m below meth c A ls H locs S hr hlk hnm B hl
  have S : CallFix p m c cX8_takes 2 s #[.int (iI 4), .int (iI v)] wsX8_takes RX8 := S
  have hl : lv_has ls 2 [(0, .int (iI 4)), (1, .int (iI v))] := hl
  refine z_iload_n S (pc := 0) dX8_takes_0 rfl (lv_at hl 0 rfl) ?_
  · refine z_tsw S (pc := 1) (tgt := 62) (by omega) dX8_takes_1 (by omega) rfl rfl ?_
    refine z_iload_n S (pc := 62) dX8_takes_62 rfl (lv_at hl 1 rfl) ?_
    refine z_i2l S (pc := 63) (by omega) dX8_takes_63 ?_
    refine z_lconst S (pc := 64) (x := 0) dX8_takes_64 rfl ?_
    refine z_lconst S (pc := 65) (x := 1) dX8_takes_65 rfl ?_
    refine z_callS S (pc := 66) B (wr := []) (wn := fun _ => []) (st1 := fun _ => [.int (iI (bI (0 ≤ v ∧ v ≤ 1)))]) (As := [.long (iL v), .long (iL 0), .long (iL 1)]) (mX8_in l E v 0 1 (show inL v from by omega) (show inL 0 from by omega) (show inL 1 from by omega)) gX8_takes_X8_in 3 rfl (by decide +kernel) ⟨Nat.le_of_ble_eq_true rfl, Nat.le_of_ble_eq_true rfl, Nat.le_of_ble_eq_true rfl, Nat.le_of_ble_eq_true rfl⟩ [] [] [] rfl rfl ⟨rfl, rfl, rfl, by decide⟩ (fun _ => rfl) rfl (fun _ => rfl) hl.1 (Nat.le_of_ble_eq_true rfl) rfl dX8_takes_66 (fun _ _ H locs B => ?_)
    exact z_zreturn S (bI_01 _) hr hlk B () trivial rfl rfl (pc := 69) dX8_takes_69
set_option maxHeartbeats 4000000 in
set_option maxRecDepth 100000 in
theorem mX8_set_4 (l : Launch) (E : gT) (a : Nat) (p1 : Nat) (p2 : Nat) (p3 : Nat) (p4 : Nat) (p5 : Nat) (p6 : Nat) (σ : Nat → Int) (ρ : Nat → Int) (pm : Int) (ig : Int) (mo : Int) (rd : Int) (wr : Int) (sm : Int) (x : Int) (hv : 0 ≤ x ∧ x ≤ 1) : Cd l E yX8_set wsX8_set 2 46 0 0 [.ref a, .int (iI 4), .int (iI x)] [cMod a p1 p2 p3 p4 p5 p6 pm ig mo rd wr sm, cAt E p1 σ ρ] (some (.int (iI (σ 9)))) [cMod a p1 p2 p3 p4 p5 p6 pm ig mo rd wr sm, cAt E p1 (up σ 9 x) ρ] := by
  refine Ct.mk (cc := cX8_set) (maxL := 4) (ret := (some .int)) (plainFor_of_name (by decide)) rfl (Nat.le_of_ble_eq_true rfl) ?_
  intro p e s m below meth c A ls H locs S hr hlk hnm B hl
  have S : CallFix p m c cX8_set 4 s #[.ref a, .int (iI 4), .int (iI x)] wsX8_set RX8 := S
  have hl : lv_has ls 4 [(0, .ref a), (1, .int (iI 4)), (2, .int (iI x))] := hl
  refine z_iload_n S (pc := 0) dX8_set_0 rfl (lv_at hl 1 rfl) ?_
  refine z_iload_n S (pc := 1) dX8_set_1 rfl (lv_at hl 2 rfl) ?_
  refine z_callS S (pc := 2) B (wr := [cMod a p1 p2 p3 p4 p5 p6 pm ig mo rd wr sm, cAt E p1 σ ρ]) (wn := fun _ => [cMod a p1 p2 p3 p4 p5 p6 pm ig mo rd wr sm, cAt E p1 σ ρ]) (st1 := fun _ => [.int (iI (bI (0 ≤ x ∧ x ≤ 1)))]) (As := [.int (iI 4), .int (iI x)]) (mX8_takes_4 l E x (show inI x from by omega)) gX8_set_X8_takes 2 rfl (by decide +kernel) ⟨Nat.le_of_ble_eq_true rfl, Nat.le_of_ble_eq_true rfl, Nat.le_of_ble_eq_true rfl, Nat.le_of_ble_eq_true rfl⟩ [] [0, 1] [0, 1] rfl rfl ⟨rfl, rfl, rfl, by decide⟩ (fun _ => rfl) rfl (fun _ => rfl) hl.1 (Nat.le_of_ble_eq_true rfl) rfl dX8_set_2 (fun _ _ H locs B => ?_)
  refine z_ifne_b S (pc := 5) (tgt := 11) dX8_set_5 rfl (fun c1 => ?_) (fun c1 => absurd c1 (by omega))
  refine z_aload_n S (pc := 11) dX8_set_11 rfl (lv_at hl 0 rfl) ?_
  refine z_get S (pc := 12) B iX8_set_X8 0 rfl rfl 0 (by decide) rfl rfl (by decide +kernel) dX8_set_12 ?_
  refine z_iconst S (pc := 15) dX8_set_15 ?_
  refine z_iload_n S (pc := 16) dX8_set_16 rfl (lv_at hl 1 rfl) ?_
  refine z_iadd S (pc := 17) dX8_set_17 ?_
  refine z_lald S (pc := 18) B 1 2 rfl rfl (k := 9) (by decide) (by decide) (by decide) (v := .long (iL (σ 9))) rfl dX8_set_18 ?_
  refine z_l2i S (pc := 19) dX8_set_19 ?_
  refine lv_istore_n (lv' := [(3, .int (iI (σ 9))), (0, .ref a), (1, .int (iI 4)), (2, .int (iI x))]) S.1 S.2.1 (pc := 20) dX8_set_20 rfl hl (by decide) rfl (fun ls hl => ?_)
  refine z_aload_n S (pc := 21) dX8_set_21 rfl (lv_at hl 1 rfl) ?_
  refine z_get S (pc := 22) B iX8_set_X8 0 rfl rfl 0 (by decide) rfl rfl (by decide +kernel) dX8_set_22 ?_
  refine z_iconst S (pc := 25) dX8_set_25 ?_
  refine z_iload_n S (pc := 26) dX8_set_26 rfl (lv_at hl 2 rfl) ?_
  refine z_iadd S (pc := 27) dX8_set_27 ?_
  refine z_iload_n S (pc := 28) dX8_set_28 rfl (lv_at hl 3 rfl) ?_
  refine z_i2l S (pc := 29) (by omega) dX8_set_29 ?_
  refine z_last S (pc := 30) B 1 2 rfl rfl (k := 9) (by decide) (by decide) (by decide) dX8_set_30 (wn := [cMod a p1 p2 p3 p4 p5 p6 pm ig mo rd wr sm, cAt E p1 (up σ 9 x) ρ]) (by rw [lmu _ _ (by decide)]; rfl) (fun H locs B => ?_)
  refine z_iconst S (pc := 31) dX8_set_31 ?_
  refine z_iload_n S (pc := 32) dX8_set_32 rfl (lv_at hl 2 rfl) ?_
  refine z_iadd S (pc := 33) dX8_set_33 ?_
  refine z_bipush S (pc := 34) dX8_set_34 rfl ?_
  refine z_icmp_ne S (pc := 36) (tgt := 47) (by omega) (by omega) dX8_set_36 rfl (fun c2 => ?_) (fun c2 => absurd c2 (by omega))
  refine z_iload_n S (pc := 47) dX8_set_47 rfl (lv_at hl 0 rfl) ?_
  exact z_ireturn S hr hlk B () trivial rfl rfl (pc := 48) dX8_set_48
set_option maxHeartbeats 4000000 in
set_option maxRecDepth 100000 in
theorem mX8_set_4b (l : Launch) (E : gT) (a : Nat) (p1 : Nat) (p2 : Nat) (p3 : Nat) (p4 : Nat) (p5 : Nat) (p6 : Nat) (σ : Nat → Int) (ρ : Nat → Int) (pm : Int) (ig : Int) (mo : Int) (rd : Int) (wr : Int) (sm : Int) (x : Int) (hI : inI x) (hbad : (x < 0 ∨ 1 < x)) : Cd l E yX8_set wsX8_set 2 46 0 0 [.ref a, .int (iI 4), .int (iI x)] [cMod a p1 p2 p3 p4 p5 p6 pm ig mo rd wr sm] (some (.int (iI (-2)))) [cMod a p1 p2 p3 p4 p5 p6 pm ig mo rd wr sm] := by
  refine Ct.mk (cc := cX8_set) (maxL := 4) (ret := (some .int)) (plainFor_of_name (by decide)) rfl (Nat.le_of_ble_eq_true rfl) ?_
  intro p e s m below meth c A ls H locs S hr hlk hnm B hl
  have S : CallFix p m c cX8_set 4 s #[.ref a, .int (iI 4), .int (iI x)] wsX8_set RX8 := S
  have hl : lv_has ls 4 [(0, .ref a), (1, .int (iI 4)), (2, .int (iI x))] := hl
  refine z_iload_n S (pc := 0) dX8_set_0 rfl (lv_at hl 1 rfl) ?_
  refine z_iload_n S (pc := 1) dX8_set_1 rfl (lv_at hl 2 rfl) ?_
  refine z_callS S (pc := 2) B (wr := [cMod a p1 p2 p3 p4 p5 p6 pm ig mo rd wr sm]) (wn := fun _ => [cMod a p1 p2 p3 p4 p5 p6 pm ig mo rd wr sm]) (st1 := fun _ => [.int (iI (bI (0 ≤ x ∧ x ≤ 1)))]) (As := [.int (iI 4), .int (iI x)]) (mX8_takes_4 l E x (show inI x from by omega)) gX8_set_X8_takes 2 rfl (by decide +kernel) ⟨Nat.le_of_ble_eq_true rfl, Nat.le_of_ble_eq_true rfl, Nat.le_of_ble_eq_true rfl, Nat.le_of_ble_eq_true rfl⟩ [] [0] [0] rfl rfl ⟨rfl, rfl, rfl, by decide⟩ (fun _ => rfl) rfl (fun _ => rfl) hl.1 (Nat.le_of_ble_eq_true rfl) rfl dX8_set_2 (fun _ _ H locs B => ?_)
  refine z_ifne_b S (pc := 5) (tgt := 11) dX8_set_5 rfl (fun c1 => absurd c1 (by omega)) (fun c1 => ?_)
  refine z_bipush S (pc := 8) dX8_set_8 rfl ?_
  exact z_ireturn S hr hlk B () trivial rfl rfl (pc := 10) dX8_set_10
set_option maxHeartbeats 4000000 in
set_option maxRecDepth 100000 in
theorem mX8_takes_5 (l : Launch) (E : gT) (v : Int) (hI : inI v) : Cd l E yX8_takes wsX8_takes 1 25 0 0 [.int (iI 5), .int (iI v)] [] (some (.int (iI (bI (0 ≤ v ∧ v ≤ 3))))) [] := by
  refine Ct.mk (cc := cX8_takes) (maxL := 2) (ret := (some .boolean)) (plainFor_of_name (by decide)) rfl (Nat.le_of_ble_eq_true rfl) ?_
  intro p e s m below meth c A ls H locs S hr hlk hnm B hl
  have S : CallFix p m c cX8_takes 2 s #[.int (iI 5), .int (iI v)] wsX8_takes RX8 := S
  have hl : lv_has ls 2 [(0, .int (iI 5)), (1, .int (iI v))] := hl
  refine z_iload_n S (pc := 0) dX8_takes_0 rfl (lv_at hl 0 rfl) ?_
  · refine z_tsw S (pc := 1) (tgt := 80) (by omega) dX8_takes_1 (by omega) rfl rfl ?_
    refine z_iload_n S (pc := 80) dX8_takes_80 rfl (lv_at hl 1 rfl) ?_
    refine z_i2l S (pc := 81) (by omega) dX8_takes_81 ?_
    refine z_lconst S (pc := 82) (x := 0) dX8_takes_82 rfl ?_
    refine z_ldc2 S (pc := 83) (x := 3) (by decide +kernel) rfl dX8_takes_83 ?_
    refine z_callS S (pc := 86) B (wr := []) (wn := fun _ => []) (st1 := fun _ => [.int (iI (bI (0 ≤ v ∧ v ≤ 3)))]) (As := [.long (iL v), .long (iL 0), .long (iL 3)]) (mX8_in l E v 0 3 (show inL v from by omega) (show inL 0 from by omega) (show inL 3 from by omega)) gX8_takes_X8_in 3 rfl (by decide +kernel) ⟨Nat.le_of_ble_eq_true rfl, Nat.le_of_ble_eq_true rfl, Nat.le_of_ble_eq_true rfl, Nat.le_of_ble_eq_true rfl⟩ [] [] [] rfl rfl ⟨rfl, rfl, rfl, by decide⟩ (fun _ => rfl) rfl (fun _ => rfl) hl.1 (Nat.le_of_ble_eq_true rfl) rfl dX8_takes_86 (fun _ _ H locs B => ?_)
    exact z_zreturn S (bI_01 _) hr hlk B () trivial rfl rfl (pc := 89) dX8_takes_89
set_option maxHeartbeats 4000000 in
set_option maxRecDepth 100000 in
theorem mX8_set_5 (l : Launch) (E : gT) (a : Nat) (p1 : Nat) (p2 : Nat) (p3 : Nat) (p4 : Nat) (p5 : Nat) (p6 : Nat) (σ : Nat → Int) (ρ : Nat → Int) (pm : Int) (ig : Int) (mo : Int) (rd : Int) (wr : Int) (sm : Int) (x : Int) (hv : 0 ≤ x ∧ x ≤ 3) : Cd l E yX8_set wsX8_set 2 46 0 0 [.ref a, .int (iI 5), .int (iI x)] [cMod a p1 p2 p3 p4 p5 p6 pm ig mo rd wr sm, cAt E p1 σ ρ] (some (.int (iI (σ 10)))) [cMod a p1 p2 p3 p4 p5 p6 pm ig mo rd wr sm, cAt E p1 (up σ 10 x) ρ] := by
  refine Ct.mk (cc := cX8_set) (maxL := 4) (ret := (some .int)) (plainFor_of_name (by decide)) rfl (Nat.le_of_ble_eq_true rfl) ?_
  intro p e s m below meth c A ls H locs S hr hlk hnm B hl
  have S : CallFix p m c cX8_set 4 s #[.ref a, .int (iI 5), .int (iI x)] wsX8_set RX8 := S
  have hl : lv_has ls 4 [(0, .ref a), (1, .int (iI 5)), (2, .int (iI x))] := hl
  refine z_iload_n S (pc := 0) dX8_set_0 rfl (lv_at hl 1 rfl) ?_
  refine z_iload_n S (pc := 1) dX8_set_1 rfl (lv_at hl 2 rfl) ?_
  refine z_callS S (pc := 2) B (wr := [cMod a p1 p2 p3 p4 p5 p6 pm ig mo rd wr sm, cAt E p1 σ ρ]) (wn := fun _ => [cMod a p1 p2 p3 p4 p5 p6 pm ig mo rd wr sm, cAt E p1 σ ρ]) (st1 := fun _ => [.int (iI (bI (0 ≤ x ∧ x ≤ 3)))]) (As := [.int (iI 5), .int (iI x)]) (mX8_takes_5 l E x (show inI x from by omega)) gX8_set_X8_takes 2 rfl (by decide +kernel) ⟨Nat.le_of_ble_eq_true rfl, Nat.le_of_ble_eq_true rfl, Nat.le_of_ble_eq_true rfl, Nat.le_of_ble_eq_true rfl⟩ [] [0, 1] [0, 1] rfl rfl ⟨rfl, rfl, rfl, by decide⟩ (fun _ => rfl) rfl (fun _ => rfl) hl.1 (Nat.le_of_ble_eq_true rfl) rfl dX8_set_2 (fun _ _ H locs B => ?_)
  refine z_ifne_b S (pc := 5) (tgt := 11) dX8_set_5 rfl (fun c1 => ?_) (fun c1 => absurd c1 (by omega))
  refine z_aload_n S (pc := 11) dX8_set_11 rfl (lv_at hl 0 rfl) ?_
  refine z_get S (pc := 12) B iX8_set_X8 0 rfl rfl 0 (by decide) rfl rfl (by decide +kernel) dX8_set_12 ?_
  refine z_iconst S (pc := 15) dX8_set_15 ?_
  refine z_iload_n S (pc := 16) dX8_set_16 rfl (lv_at hl 1 rfl) ?_
  refine z_iadd S (pc := 17) dX8_set_17 ?_
  refine z_lald S (pc := 18) B 1 2 rfl rfl (k := 10) (by decide) (by decide) (by decide) (v := .long (iL (σ 10))) rfl dX8_set_18 ?_
  refine z_l2i S (pc := 19) dX8_set_19 ?_
  refine lv_istore_n (lv' := [(3, .int (iI (σ 10))), (0, .ref a), (1, .int (iI 5)), (2, .int (iI x))]) S.1 S.2.1 (pc := 20) dX8_set_20 rfl hl (by decide) rfl (fun ls hl => ?_)
  refine z_aload_n S (pc := 21) dX8_set_21 rfl (lv_at hl 1 rfl) ?_
  refine z_get S (pc := 22) B iX8_set_X8 0 rfl rfl 0 (by decide) rfl rfl (by decide +kernel) dX8_set_22 ?_
  refine z_iconst S (pc := 25) dX8_set_25 ?_
  refine z_iload_n S (pc := 26) dX8_set_26 rfl (lv_at hl 2 rfl) ?_
  refine z_iadd S (pc := 27) dX8_set_27 ?_
  refine z_iload_n S (pc := 28) dX8_set_28 rfl (lv_at hl 3 rfl) ?_
  refine z_i2l S (pc := 29) (by omega) dX8_set_29 ?_
  refine z_last S (pc := 30) B 1 2 rfl rfl (k := 10) (by decide) (by decide) (by decide) dX8_set_30 (wn := [cMod a p1 p2 p3 p4 p5 p6 pm ig mo rd wr sm, cAt E p1 (up σ 10 x) ρ]) (by rw [lmu _ _ (by decide)]; rfl) (fun H locs B => ?_)
  refine z_iconst S (pc := 31) dX8_set_31 ?_
  refine z_iload_n S (pc := 32) dX8_set_32 rfl (lv_at hl 2 rfl) ?_
  refine z_iadd S (pc := 33) dX8_set_33 ?_
  refine z_bipush S (pc := 34) dX8_set_34 rfl ?_
  refine z_icmp_ne S (pc := 36) (tgt := 47) (by omega) (by omega) dX8_set_36 rfl (fun c2 => ?_) (fun c2 => absurd c2 (by omega))
  refine z_iload_n S (pc := 47) dX8_set_47 rfl (lv_at hl 0 rfl) ?_
  exact z_ireturn S hr hlk B () trivial rfl rfl (pc := 48) dX8_set_48
set_option maxHeartbeats 4000000 in
set_option maxRecDepth 100000 in
theorem mX8_set_5b (l : Launch) (E : gT) (a : Nat) (p1 : Nat) (p2 : Nat) (p3 : Nat) (p4 : Nat) (p5 : Nat) (p6 : Nat) (σ : Nat → Int) (ρ : Nat → Int) (pm : Int) (ig : Int) (mo : Int) (rd : Int) (wr : Int) (sm : Int) (x : Int) (hI : inI x) (hbad : (x < 0 ∨ 3 < x)) : Cd l E yX8_set wsX8_set 2 46 0 0 [.ref a, .int (iI 5), .int (iI x)] [cMod a p1 p2 p3 p4 p5 p6 pm ig mo rd wr sm] (some (.int (iI (-2)))) [cMod a p1 p2 p3 p4 p5 p6 pm ig mo rd wr sm] := by
  refine Ct.mk (cc := cX8_set) (maxL := 4) (ret := (some .int)) (plainFor_of_name (by decide)) rfl (Nat.le_of_ble_eq_true rfl) ?_
  intro p e s m below meth c A ls H locs S hr hlk hnm B hl
  have S : CallFix p m c cX8_set 4 s #[.ref a, .int (iI 5), .int (iI x)] wsX8_set RX8 := S
  have hl : lv_has ls 4 [(0, .ref a), (1, .int (iI 5)), (2, .int (iI x))] := hl
  refine z_iload_n S (pc := 0) dX8_set_0 rfl (lv_at hl 1 rfl) ?_
  refine z_iload_n S (pc := 1) dX8_set_1 rfl (lv_at hl 2 rfl) ?_
  refine z_callS S (pc := 2) B (wr := [cMod a p1 p2 p3 p4 p5 p6 pm ig mo rd wr sm]) (wn := fun _ => [cMod a p1 p2 p3 p4 p5 p6 pm ig mo rd wr sm]) (st1 := fun _ => [.int (iI (bI (0 ≤ x ∧ x ≤ 3)))]) (As := [.int (iI 5), .int (iI x)]) (mX8_takes_5 l E x (show inI x from by omega)) gX8_set_X8_takes 2 rfl (by decide +kernel) ⟨Nat.le_of_ble_eq_true rfl, Nat.le_of_ble_eq_true rfl, Nat.le_of_ble_eq_true rfl, Nat.le_of_ble_eq_true rfl⟩ [] [0] [0] rfl rfl ⟨rfl, rfl, rfl, by decide⟩ (fun _ => rfl) rfl (fun _ => rfl) hl.1 (Nat.le_of_ble_eq_true rfl) rfl dX8_set_2 (fun _ _ H locs B => ?_)
  refine z_ifne_b S (pc := 5) (tgt := 11) dX8_set_5 rfl (fun c1 => absurd c1 (by omega)) (fun c1 => ?_)
  refine z_bipush S (pc := 8) dX8_set_8 rfl ?_
  exact z_ireturn S hr hlk B () trivial rfl rfl (pc := 10) dX8_set_10
set_option maxHeartbeats 4000000 in
set_option maxRecDepth 100000 in
theorem mX8_takes_b (l : Launch) (E : gT) (k : Int) (v : Int) (hI : inI k) (hbad : (k < 0 ∨ 5 < k)) : Cd l E yX8_takes wsX8_takes 1 25 0 0 [.int (iI k), .int (iI v)] [] (some (.int (iI 0))) [] := by
  refine Ct.mk (cc := cX8_takes) (maxL := 2) (ret := (some .boolean)) (plainFor_of_name (by decide)) rfl (Nat.le_of_ble_eq_true rfl) ?_
  intro p e s m below meth c A ls H locs S hr hlk hnm B hl
  have S : CallFix p m c cX8_takes 2 s #[.int (iI k), .int (iI v)] wsX8_takes RX8 := S
  have hl : lv_has ls 2 [(0, .int (iI k)), (1, .int (iI v))] := hl
  refine z_iload_n S (pc := 0) dX8_takes_0 rfl (lv_at hl 0 rfl) ?_
  · refine z_tswD S (pc := 1) (tgt := 90) (by omega) dX8_takes_1 (by omega) rfl ?_
    refine z_iconst S (pc := 90) dX8_takes_90 ?_
    exact z_zreturn S (by omega) hr hlk B () trivial rfl rfl (pc := 91) dX8_takes_91
set_option maxHeartbeats 4000000 in
set_option maxRecDepth 100000 in
theorem mX8_set_b (l : Launch) (E : gT) (a : Nat) (p1 : Nat) (p2 : Nat) (p3 : Nat) (p4 : Nat) (p5 : Nat) (p6 : Nat) (σ : Nat → Int) (ρ : Nat → Int) (pm : Int) (ig : Int) (mo : Int) (rd : Int) (wr : Int) (sm : Int) (k : Int) (x : Int) (hI : inI k ∧ inI x) (hbad : (k < 0 ∨ 5 < k)) : Cd l E yX8_set wsX8_set 2 46 0 0 [.ref a, .int (iI k), .int (iI x)] [cMod a p1 p2 p3 p4 p5 p6 pm ig mo rd wr sm] (some (.int (iI (-2)))) [cMod a p1 p2 p3 p4 p5 p6 pm ig mo rd wr sm] := by
  refine Ct.mk (cc := cX8_set) (maxL := 4) (ret := (some .int)) (plainFor_of_name (by decide)) rfl (Nat.le_of_ble_eq_true rfl) ?_
  intro p e s m below meth c A ls H locs S hr hlk hnm B hl
  have S : CallFix p m c cX8_set 4 s #[.ref a, .int (iI k), .int (iI x)] wsX8_set RX8 := S
  have hl : lv_has ls 4 [(0, .ref a), (1, .int (iI k)), (2, .int (iI x))] := hl
  refine z_iload_n S (pc := 0) dX8_set_0 rfl (lv_at hl 1 rfl) ?_
  refine z_iload_n S (pc := 1) dX8_set_1 rfl (lv_at hl 2 rfl) ?_
  refine z_callS S (pc := 2) B (wr := [cMod a p1 p2 p3 p4 p5 p6 pm ig mo rd wr sm]) (wn := fun _ => [cMod a p1 p2 p3 p4 p5 p6 pm ig mo rd wr sm]) (st1 := fun _ => [.int (iI 0)]) (As := [.int (iI k), .int (iI x)]) (mX8_takes_b l E k x (show inI k from by omega) (show (k < 0 ∨ 5 < k) from by omega)) gX8_set_X8_takes 2 rfl (by decide +kernel) ⟨Nat.le_of_ble_eq_true rfl, Nat.le_of_ble_eq_true rfl, Nat.le_of_ble_eq_true rfl, Nat.le_of_ble_eq_true rfl⟩ [] [0] [0] rfl rfl ⟨rfl, rfl, rfl, by decide⟩ (fun _ => rfl) rfl (fun _ => rfl) hl.1 (Nat.le_of_ble_eq_true rfl) rfl dX8_set_2 (fun _ _ H locs B => ?_)
  refine z_if_ne S (pc := 5) (tgt := 11) (by omega) dX8_set_5 rfl (fun c1 => absurd c1 (by omega)) (fun c1 => ?_)
  refine z_bipush S (pc := 8) dX8_set_8 rfl ?_
  exact z_ireturn S hr hlk B () trivial rfl rfl (pc := 10) dX8_set_10
theorem lat_lo {σ ρ : Nat → Int} {k : Nat} (h : k < 23) : lat (mat σ ρ) k = iL (σ k) := by
  show iL (mat σ ρ k) = _
  unfold mat
  rw [if_pos h]
theorem lat_hi (σ ρ : Nat → Int) (k : Nat) : lat (mat σ ρ) (23 + k) = iL (ρ k) := by
  show iL (mat σ ρ (23 + k)) = _
  unfold mat
  rw [if_neg (by omega), show 23 + k - 23 = k from by omega]
theorem iX8_get_X8 : ∀ w ∈ wsX80, w ∈ wsX8_get := by decide +kernel
set_option maxHeartbeats 4000000 in
set_option maxRecDepth 100000 in
theorem mX8_get (l : Launch) (E : gT) (a : Nat) (p1 : Nat) (p2 : Nat) (p3 : Nat) (p4 : Nat) (p5 : Nat) (p6 : Nat) (σ : Nat → Int) (ρ : Nat → Int) (pm : Int) (ig : Int) (mo : Int) (rd : Int) (wr : Int) (sm : Int) (k : Int) (hv : 0 ≤ k ∧ k ≤ 5) : Cd l E yX8_get wsX8_get 1 25 0 0 [.ref a, .int (iI k)] [cMod a p1 p2 p3 p4 p5 p6 pm ig mo rd wr sm, cAt E p1 σ ρ] (some (.int (iI (σ (5 + k.toNat))))) [cMod a p1 p2 p3 p4 p5 p6 pm ig mo rd wr sm, cAt E p1 σ ρ] := by
  refine Ct.mk (cc := cX8_get) (maxL := 2) (ret := (some .int)) (plainFor_of_name (by decide)) rfl (Nat.le_of_ble_eq_true rfl) ?_
  intro p e s m below meth c A ls H locs S hr hlk hnm B hl
  have S : CallFix p m c cX8_get 2 s #[.ref a, .int (iI k)] wsX8_get RX8 := S
  have hl : lv_has ls 2 [(0, .ref a), (1, .int (iI k))] := hl
  refine z_iload_n S (pc := 0) dX8_get_0 rfl (lv_at hl 1 rfl) ?_
  refine z_i2l S (pc := 1) (by omega) dX8_get_1 ?_
  refine z_lconst S (pc := 2) (x := 0) dX8_get_2 rfl ?_
  refine z_ldc2 S (pc := 3) (x := 5) (by decide +kernel) rfl dX8_get_3 ?_
  refine z_callS S (pc := 6) B (wr := [cMod a p1 p2 p3 p4 p5 p6 pm ig mo rd wr sm, cAt E p1 σ ρ]) (wn := fun _ => [cMod a p1 p2 p3 p4 p5 p6 pm ig mo rd wr sm, cAt E p1 σ ρ]) (st1 := fun _ => [.int (iI (bI (0 ≤ k ∧ k ≤ 5)))]) (As := [.long (iL k), .long (iL 0), .long (iL 5)]) (mX8_in l E k 0 5 (show inL k from by omega) (show inL 0 from by omega) (show inL 5 from by omega)) gX8_get_X8_in 3 rfl (by decide +kernel) ⟨Nat.le_of_ble_eq_true rfl, Nat.le_of_ble_eq_true rfl, Nat.le_of_ble_eq_true rfl, Nat.le_of_ble_eq_true rfl⟩ [] [0, 1] [0, 1] rfl rfl ⟨rfl, rfl, rfl, by decide⟩ (fun _ => rfl) rfl (fun _ => rfl) hl.1 (Nat.le_of_ble_eq_true rfl) rfl dX8_get_6 (fun _ _ H locs B => ?_)
  refine z_ifeq_b S (pc := 9) (tgt := 24) dX8_get_9 rfl (fun c1 => absurd c1 (by omega)) (fun c1 => ?_)
  refine z_aload_n S (pc := 12) dX8_get_12 rfl (lv_at hl 0 rfl) ?_
  refine z_get S (pc := 13) B iX8_get_X8 0 rfl rfl 0 (by decide) rfl rfl (by decide +kernel) dX8_get_13 ?_
  refine z_iconst S (pc := 16) dX8_get_16 ?_
  refine z_iload_n S (pc := 17) dX8_get_17 rfl (lv_at hl 1 rfl) ?_
  refine z_iadd S (pc := 18) dX8_get_18 ?_
  refine z_lald S (pc := 19) B 1 2 rfl rfl (k := 5 + k.toNat) (by omega) (by omega) (by decide) (v := .long (iL (σ (5 + k.toNat)))) (by rw [lat_lo (by omega)]) dX8_get_19 ?_
  refine z_l2i S (pc := 20) dX8_get_20 ?_
  refine lv_goto S.1 S.2.1 (pc := 21) (tgt := 26) dX8_get_21 rfl ?_
  exact z_ireturn S hr hlk B () trivial rfl rfl (pc := 26) dX8_get_26
set_option maxHeartbeats 4000000 in
set_option maxRecDepth 100000 in
theorem mX8_get_b (l : Launch) (E : gT) (a : Nat) (p1 : Nat) (p2 : Nat) (p3 : Nat) (p4 : Nat) (p5 : Nat) (p6 : Nat) (σ : Nat → Int) (ρ : Nat → Int) (pm : Int) (ig : Int) (mo : Int) (rd : Int) (wr : Int) (sm : Int) (k : Int) (hI : inI k) (hbad : (k < 0 ∨ 5 < k)) : Cd l E yX8_get wsX8_get 1 25 0 0 [.ref a, .int (iI k)] [cMod a p1 p2 p3 p4 p5 p6 pm ig mo rd wr sm] (some (.int (iI (-2)))) [cMod a p1 p2 p3 p4 p5 p6 pm ig mo rd wr sm] := by
  refine Ct.mk (cc := cX8_get) (maxL := 2) (ret := (some .int)) (plainFor_of_name (by decide)) rfl (Nat.le_of_ble_eq_true rfl) ?_
  intro p e s m below meth c A ls H locs S hr hlk hnm B hl
  have S : CallFix p m c cX8_get 2 s #[.ref a, .int (iI k)] wsX8_get RX8 := S
  have hl : lv_has ls 2 [(0, .ref a), (1, .int (iI k))] := hl
  refine z_iload_n S (pc := 0) dX8_get_0 rfl (lv_at hl 1 rfl) ?_
  refine z_i2l S (pc := 1) (by omega) dX8_get_1 ?_
  refine z_lconst S (pc := 2) (x := 0) dX8_get_2 rfl ?_
  refine z_ldc2 S (pc := 3) (x := 5) (by decide +kernel) rfl dX8_get_3 ?_
  refine z_callS S (pc := 6) B (wr := [cMod a p1 p2 p3 p4 p5 p6 pm ig mo rd wr sm]) (wn := fun _ => [cMod a p1 p2 p3 p4 p5 p6 pm ig mo rd wr sm]) (st1 := fun _ => [.int (iI (bI (0 ≤ k ∧ k ≤ 5)))]) (As := [.long (iL k), .long (iL 0), .long (iL 5)]) (mX8_in l E k 0 5 (show inL k from by omega) (show inL 0 from by omega) (show inL 5 from by omega)) gX8_get_X8_in 3 rfl (by decide +kernel) ⟨Nat.le_of_ble_eq_true rfl, Nat.le_of_ble_eq_true rfl, Nat.le_of_ble_eq_true rfl, Nat.le_of_ble_eq_true rfl⟩ [] [0] [0] rfl rfl ⟨rfl, rfl, rfl, by decide⟩ (fun _ => rfl) rfl (fun _ => rfl) hl.1 (Nat.le_of_ble_eq_true rfl) rfl dX8_get_6 (fun _ _ H locs B => ?_)
  refine z_ifeq_b S (pc := 9) (tgt := 24) dX8_get_9 rfl (fun c1 => ?_) (fun c1 => absurd c1 (by omega))
  refine z_bipush S (pc := 24) dX8_get_24 rfl ?_
  exact z_ireturn S hr hlk B () trivial rfl rfl (pc := 26) dX8_get_26
theorem iX8_probe_X8 : ∀ w ∈ wsX80, w ∈ wsX8_probe := by decide +kernel
set_option maxHeartbeats 4000000 in
set_option maxRecDepth 100000 in
theorem mX8_probe_0 (l : Launch) (E : gT) (a : Nat) (p1 : Nat) (p2 : Nat) (p3 : Nat) (p4 : Nat) (p5 : Nat) (p6 : Nat) (σ : Nat → Int) (ρ : Nat → Int) (pm : Int) (ig : Int) (mo : Int) (rd : Int) (wr : Int) (sm : Int) (n : Int) (hv : 0 ≤ n ∧ n ≤ 100000) (h0 : -3000000 ≤ σ 0 ∧ σ 0 ≤ 3000000) (h1 : 0 ≤ σ 1 ∧ σ 1 ≤ 1000000) (hp : inPe (σ 2)) (h3 : -100000 ≤ σ 3 ∧ σ 3 ≤ 100000) (h4 : -1000 ≤ σ 4 ∧ σ 4 ≤ 1000) (h10 : 0 ≤ σ 10 ∧ σ 10 ≤ 3) (h11 : 0 ≤ σ 11 ∧ σ 11 ≤ 2000000000) : Cd l E yX8_probe wsX8_probe 2 48 0 0 [.ref a, .int (iI n), .int (iI 0)] [cMod a p1 p2 p3 p4 p5 p6 pm ig mo rd wr sm, cAt E p1 σ ρ] (some (.long (iL (hum (σ 1) (σ 2) (σ 11 + n))))) [cMod a p1 p2 p3 p4 p5 p6 pm ig mo rd wr sm, cAt E p1 σ ρ] := by
  refine Ct.mk (cc := cX8_probe) (maxL := 5) (ret := (some .long)) (plainFor_of_name (by decide)) rfl (Nat.le_of_ble_eq_true rfl) ?_
  intro p e s m below meth c A ls H locs S hr hlk hnm B hl
  have S : CallFix p m c cX8_probe 5 s #[.ref a, .int (iI n), .int (iI 0)] wsX8_probe RX8 := S
  have hl : lv_has ls 5 [(0, .ref a), (1, .int (iI n)), (2, .int (iI 0))] := hl
  refine z_iload_n S (pc := 0) dX8_probe_0 rfl (lv_at hl 1 rfl) ?_
  refine z_i2l S (pc := 1) (by omega) dX8_probe_1 ?_
  refine z_lconst S (pc := 2) (x := 0) dX8_probe_2 rfl ?_
  refine z_ldc2 S (pc := 3) (x := 100000) (by decide +kernel) rfl dX8_probe_3 ?_
  refine z_callS S (pc := 6) B (wr := [cMod a p1 p2 p3 p4 p5 p6 pm ig mo rd wr sm, cAt E p1 σ ρ]) (wn := fun _ => [cMod a p1 p2 p3 p4 p5 p6 pm ig mo rd wr sm, cAt E p1 σ ρ]) (st1 := fun _ => [.int (iI (bI (0 ≤ n ∧ n ≤ 100000)))]) (As := [.long (iL n), .long (iL 0), .long (iL 100000)]) (mX8_in l E n 0 100000 (show inL n from by omega) (show inL 0 from by omega) (show inL 100000 from by omega)) gX8_probe_X8_in 3 rfl (by decide +kernel) ⟨Nat.le_of_ble_eq_true rfl, Nat.le_of_ble_eq_true rfl, Nat.le_of_ble_eq_true rfl, Nat.le_of_ble_eq_true rfl⟩ [] [0, 1] [0, 1] rfl rfl ⟨rfl, rfl, rfl, by decide⟩ (fun _ => rfl) rfl (fun _ => rfl) hl.1 (Nat.le_of_ble_eq_true rfl) rfl dX8_probe_6 (fun _ _ H locs B => ?_)
  refine z_ifeq_b S (pc := 9) (tgt := 24) dX8_probe_9 rfl (fun c1 => absurd c1 (by omega)) (fun c1 => ?_)
  refine z_iload_n S (pc := 12) dX8_probe_12 rfl (lv_at hl 2 rfl) ?_
  refine z_i2l S (pc := 13) (by omega) dX8_probe_13 ?_
  refine z_lconst S (pc := 14) (x := 0) dX8_probe_14 rfl ?_
  refine z_ldc2 S (pc := 15) (x := 2) (by decide +kernel) rfl dX8_probe_15 ?_
  refine z_callS S (pc := 18) B (wr := [cMod a p1 p2 p3 p4 p5 p6 pm ig mo rd wr sm, cAt E p1 σ ρ]) (wn := fun _ => [cMod a p1 p2 p3 p4 p5 p6 pm ig mo rd wr sm, cAt E p1 σ ρ]) (st1 := fun _ => [.int (iI (bI (0 ≤ 0 ∧ 0 ≤ 2)))]) (As := [.long (iL 0), .long (iL 0), .long (iL 2)]) (mX8_in l E 0 0 2 (show inL 0 from by omega) (show inL 0 from by omega) (show inL 2 from by omega)) gX8_probe_X8_in 3 rfl (by decide +kernel) ⟨Nat.le_of_ble_eq_true rfl, Nat.le_of_ble_eq_true rfl, Nat.le_of_ble_eq_true rfl, Nat.le_of_ble_eq_true rfl⟩ [] [0, 1] [0, 1] rfl rfl ⟨rfl, rfl, rfl, by decide⟩ (fun _ => rfl) rfl (fun _ => rfl) hl.1 (Nat.le_of_ble_eq_true rfl) rfl dX8_probe_18 (fun _ _ H locs B => ?_)
  refine z_ifne_b S (pc := 21) (tgt := 28) dX8_probe_21 rfl (fun c2 => ?_) (fun c2 => absurd c2 (by omega))
  refine z_aload_n S (pc := 28) dX8_probe_28 rfl (lv_at hl 0 rfl) ?_
  refine z_get S (pc := 29) B iX8_probe_X8 0 rfl rfl 0 (by decide) rfl rfl (by decide +kernel) dX8_probe_29 ?_
  refine z_bipush S (pc := 32) dX8_probe_32 rfl ?_
  refine z_lald S (pc := 34) B 1 2 rfl rfl (k := 11) rfl (by decide) (by decide) (v := .long (iL (σ 11))) rfl dX8_probe_34 ?_
  refine z_iload_n S (pc := 35) dX8_probe_35 rfl (lv_at hl 1 rfl) ?_
  refine z_i2l S (pc := 36) (by omega) dX8_probe_36 ?_
  refine z_ladd S (pc := 37) dX8_probe_37 ?_
  refine lv_lstore_n (lv' := [(3, .long (iL ((σ 11) + n))), (0, .ref a), (1, .int (iI n)), (2, .int (iI 0))]) S.1 S.2.1 (pc := 38) dX8_probe_38 rfl hl (by decide) rfl (fun ls hl => ?_)
  refine z_iload_n S (pc := 39) dX8_probe_39 rfl (lv_at hl 3 rfl) ?_
  refine z_if_ne S (pc := 40) (tgt := 51) (by omega) dX8_probe_40 rfl (fun c3 => absurd c3 (by omega)) (fun c3 => ?_)
  refine z_aload_n S (pc := 43) dX8_probe_43 rfl (lv_at hl 1 rfl) ?_
  refine z_lload_n S (pc := 44) dX8_probe_44 rfl (lv_at hl 0 rfl) ?_
  refine z_callV S (pc := 45) B (wr := []) (wn := fun _ => [cMod a p1 p2 p3 p4 p5 p6 pm ig mo rd wr sm, cAt E p1 σ ρ]) (st1 := fun _ => [.long (iL (hum (σ 1) (σ 2) ((σ 11) + n)))]) (As := [.long (iL ((σ 11) + n))]) (mX8_hum l E a p1 p2 p3 p4 p5 p6 σ ρ pm ig mo rd wr sm ((σ 11) + n) (show 0 ≤ σ 1 ∧ σ 1 ≤ 1000000 from by omega) (show inPe (σ 2) from by omega) (show 0 ≤ ((σ 11) + n) ∧ ((σ 11) + n) ≤ 2147483647 from by omega)) gX8_probe_X8_hum 1 rfl (by decide +kernel) ⟨Nat.le_of_ble_eq_true rfl, Nat.le_of_ble_eq_true rfl, Nat.le_of_ble_eq_true rfl, Nat.le_of_ble_eq_true rfl⟩ 0 rfl (q := (RX8, TX8, 12)) rfl rfl [0, 1] [] [0, 1] rfl rfl ⟨rfl, rfl, rfl, by decide⟩ (fun _ => rfl) rfl (fun _ => rfl) hl.1 (Nat.le_of_ble_eq_true rfl) rfl dX8_probe_45 (fun _ _ H locs B => ?_)
  refine lv_goto S.1 S.2.1 (pc := 48) (tgt := 69) dX8_probe_48 rfl ?_
  exact z_lreturn S hr hlk B () trivial rfl rfl (pc := 69) dX8_probe_69
set_option maxHeartbeats 4000000 in
set_option maxRecDepth 100000 in
theorem mX8_probe_1 (l : Launch) (E : gT) (a : Nat) (p1 : Nat) (p2 : Nat) (p3 : Nat) (p4 : Nat) (p5 : Nat) (p6 : Nat) (σ : Nat → Int) (ρ : Nat → Int) (pm : Int) (ig : Int) (mo : Int) (rd : Int) (wr : Int) (sm : Int) (n : Int) (hv : 0 ≤ n ∧ n ≤ 100000) (h0 : -3000000 ≤ σ 0 ∧ σ 0 ≤ 3000000) (h1 : 0 ≤ σ 1 ∧ σ 1 ≤ 1000000) (hp : inPe (σ 2)) (h3 : -100000 ≤ σ 3 ∧ σ 3 ≤ 100000) (h4 : -1000 ≤ σ 4 ∧ σ 4 ≤ 1000) (h10 : 0 ≤ σ 10 ∧ σ 10 ≤ 3) (h11 : 0 ≤ σ 11 ∧ σ 11 ≤ 2000000000) : Cd l E yX8_probe wsX8_probe 2 48 0 0 [.ref a, .int (iI n), .int (iI 1)] [cMod a p1 p2 p3 p4 p5 p6 pm ig mo rd wr sm, cAt E p1 σ ρ] (some (.long (iL (inpg (σ 0) (σ 1) (σ 2) (σ 11 + n) (gn (σ 10)))))) [cMod a p1 p2 p3 p4 p5 p6 pm ig mo rd wr sm, cAt E p1 σ ρ] := by
  refine Ct.mk (cc := cX8_probe) (maxL := 5) (ret := (some .long)) (plainFor_of_name (by decide)) rfl (Nat.le_of_ble_eq_true rfl) ?_
  intro p e s m below meth c A ls H locs S hr hlk hnm B hl
  have S : CallFix p m c cX8_probe 5 s #[.ref a, .int (iI n), .int (iI 1)] wsX8_probe RX8 := S
  have hl : lv_has ls 5 [(0, .ref a), (1, .int (iI n)), (2, .int (iI 1))] := hl
  refine z_iload_n S (pc := 0) dX8_probe_0 rfl (lv_at hl 1 rfl) ?_
  refine z_i2l S (pc := 1) (by omega) dX8_probe_1 ?_
  refine z_lconst S (pc := 2) (x := 0) dX8_probe_2 rfl ?_
  refine z_ldc2 S (pc := 3) (x := 100000) (by decide +kernel) rfl dX8_probe_3 ?_
  refine z_callS S (pc := 6) B (wr := [cMod a p1 p2 p3 p4 p5 p6 pm ig mo rd wr sm, cAt E p1 σ ρ]) (wn := fun _ => [cMod a p1 p2 p3 p4 p5 p6 pm ig mo rd wr sm, cAt E p1 σ ρ]) (st1 := fun _ => [.int (iI (bI (0 ≤ n ∧ n ≤ 100000)))]) (As := [.long (iL n), .long (iL 0), .long (iL 100000)]) (mX8_in l E n 0 100000 (show inL n from by omega) (show inL 0 from by omega) (show inL 100000 from by omega)) gX8_probe_X8_in 3 rfl (by decide +kernel) ⟨Nat.le_of_ble_eq_true rfl, Nat.le_of_ble_eq_true rfl, Nat.le_of_ble_eq_true rfl, Nat.le_of_ble_eq_true rfl⟩ [] [0, 1] [0, 1] rfl rfl ⟨rfl, rfl, rfl, by decide⟩ (fun _ => rfl) rfl (fun _ => rfl) hl.1 (Nat.le_of_ble_eq_true rfl) rfl dX8_probe_6 (fun _ _ H locs B => ?_)
  refine z_ifeq_b S (pc := 9) (tgt := 24) dX8_probe_9 rfl (fun c1 => absurd c1 (by omega)) (fun c1 => ?_)
  refine z_iload_n S (pc := 12) dX8_probe_12 rfl (lv_at hl 2 rfl) ?_
  refine z_i2l S (pc := 13) (by omega) dX8_probe_13 ?_
  refine z_lconst S (pc := 14) (x := 0) dX8_probe_14 rfl ?_
  refine z_ldc2 S (pc := 15) (x := 2) (by decide +kernel) rfl dX8_probe_15 ?_
  refine z_callS S (pc := 18) B (wr := [cMod a p1 p2 p3 p4 p5 p6 pm ig mo rd wr sm, cAt E p1 σ ρ]) (wn := fun _ => [cMod a p1 p2 p3 p4 p5 p6 pm ig mo rd wr sm, cAt E p1 σ ρ]) (st1 := fun _ => [.int (iI (bI (0 ≤ 1 ∧ 1 ≤ 2)))]) (As := [.long (iL 1), .long (iL 0), .long (iL 2)]) (mX8_in l E 1 0 2 (show inL 1 from by omega) (show inL 0 from by omega) (show inL 2 from by omega)) gX8_probe_X8_in 3 rfl (by decide +kernel) ⟨Nat.le_of_ble_eq_true rfl, Nat.le_of_ble_eq_true rfl, Nat.le_of_ble_eq_true rfl, Nat.le_of_ble_eq_true rfl⟩ [] [0, 1] [0, 1] rfl rfl ⟨rfl, rfl, rfl, by decide⟩ (fun _ => rfl) rfl (fun _ => rfl) hl.1 (Nat.le_of_ble_eq_true rfl) rfl dX8_probe_18 (fun _ _ H locs B => ?_)
  refine z_ifne_b S (pc := 21) (tgt := 28) dX8_probe_21 rfl (fun c2 => ?_) (fun c2 => absurd c2 (by omega))
  refine z_aload_n S (pc := 28) dX8_probe_28 rfl (lv_at hl 0 rfl) ?_
  refine z_get S (pc := 29) B iX8_probe_X8 0 rfl rfl 0 (by decide) rfl rfl (by decide +kernel) dX8_probe_29 ?_
  refine z_bipush S (pc := 32) dX8_probe_32 rfl ?_
  refine z_lald S (pc := 34) B 1 2 rfl rfl (k := 11) rfl (by decide) (by decide) (v := .long (iL (σ 11))) rfl dX8_probe_34 ?_
  refine z_iload_n S (pc := 35) dX8_probe_35 rfl (lv_at hl 1 rfl) ?_
  refine z_i2l S (pc := 36) (by omega) dX8_probe_36 ?_
  refine z_ladd S (pc := 37) dX8_probe_37 ?_
  refine lv_lstore_n (lv' := [(3, .long (iL ((σ 11) + n))), (0, .ref a), (1, .int (iI n)), (2, .int (iI 1))]) S.1 S.2.1 (pc := 38) dX8_probe_38 rfl hl (by decide) rfl (fun ls hl => ?_)
  refine z_iload_n S (pc := 39) dX8_probe_39 rfl (lv_at hl 3 rfl) ?_
  refine z_if_ne S (pc := 40) (tgt := 51) (by omega) dX8_probe_40 rfl (fun c3 => ?_) (fun c3 => absurd c3 (by omega))
  refine z_iload_n S (pc := 51) dX8_probe_51 rfl (lv_at hl 3 rfl) ?_
  refine z_iconst S (pc := 52) dX8_probe_52 ?_
  refine z_icmp_ne S (pc := 53) (tgt := 64) (by omega) (by omega) dX8_probe_53 rfl (fun c4 => absurd c4 (by omega)) (fun c4 => ?_)
  refine z_aload_n S (pc := 56) dX8_probe_56 rfl (lv_at hl 1 rfl) ?_
  refine z_lload_n S (pc := 57) dX8_probe_57 rfl (lv_at hl 0 rfl) ?_
  refine z_callV S (pc := 58) B (wr := []) (wn := fun _ => [cMod a p1 p2 p3 p4 p5 p6 pm ig mo rd wr sm, cAt E p1 σ ρ]) (st1 := fun _ => [.long (iL (inpg (σ 0) (σ 1) (σ 2) ((σ 11) + n) (gn (σ 10))))]) (As := [.long (iL ((σ 11) + n))]) (mX8_input l E a p1 p2 p3 p4 p5 p6 σ ρ pm ig mo rd wr sm ((σ 11) + n) (show -4000000 ≤ σ 0 ∧ σ 0 ≤ 4000000 from by omega) (show 0 ≤ σ 1 ∧ σ 1 ≤ 1000000 from by omega) (show inPe (σ 2) from by omega) (show 0 ≤ σ 10 ∧ σ 10 ≤ 3 from by omega) (show 0 ≤ ((σ 11) + n) ∧ ((σ 11) + n) ≤ 2147483647 from by omega)) gX8_probe_X8_input 1 rfl (by decide +kernel) ⟨Nat.le_of_ble_eq_true rfl, Nat.le_of_ble_eq_true rfl, Nat.le_of_ble_eq_true rfl, Nat.le_of_ble_eq_true rfl⟩ 0 rfl (q := (RX8, TX8, 12)) rfl rfl [0, 1] [] [0, 1] rfl rfl ⟨rfl, rfl, rfl, by decide⟩ (fun _ => rfl) rfl (fun _ => rfl) hl.1 (Nat.le_of_ble_eq_true rfl) rfl dX8_probe_58 (fun _ _ H locs B => ?_)
  refine lv_goto S.1 S.2.1 (pc := 61) (tgt := 69) dX8_probe_61 rfl ?_
  exact z_lreturn S hr hlk B () trivial rfl rfl (pc := 69) dX8_probe_69
set_option maxHeartbeats 4000000 in
set_option maxRecDepth 100000 in
theorem mX8_probe_2 (l : Launch) (E : gT) (a : Nat) (p1 : Nat) (p2 : Nat) (p3 : Nat) (p4 : Nat) (p5 : Nat) (p6 : Nat) (σ : Nat → Int) (ρ : Nat → Int) (pm : Int) (ig : Int) (mo : Int) (rd : Int) (wr : Int) (sm : Int) (n : Int) (hv : 0 ≤ n ∧ n ≤ 100000) (h0 : -3000000 ≤ σ 0 ∧ σ 0 ≤ 3000000) (h1 : 0 ≤ σ 1 ∧ σ 1 ≤ 1000000) (hp : inPe (σ 2)) (h3 : -100000 ≤ σ 3 ∧ σ 3 ≤ 100000) (h4 : -1000 ≤ σ 4 ∧ σ 4 ≤ 1000) (h10 : 0 ≤ σ 10 ∧ σ 10 ≤ 3) (h11 : 0 ≤ σ 11 ∧ σ 11 ≤ 2000000000) : Cd l E yX8_probe wsX8_probe 2 48 0 0 [.ref a, .int (iI n), .int (iI 2)] [cMod a p1 p2 p3 p4 p5 p6 pm ig mo rd wr sm, cAt E p1 σ ρ] (some (.long (iL (offs (σ 3) (σ 4) (σ 11 + n))))) [cMod a p1 p2 p3 p4 p5 p6 pm ig mo rd wr sm, cAt E p1 σ ρ] := by
  refine Ct.mk (cc := cX8_probe) (maxL := 5) (ret := (some .long)) (plainFor_of_name (by decide)) rfl (Nat.le_of_ble_eq_true rfl) ?_
  intro p e s m below meth c A ls H locs S hr hlk hnm B hl
  have S : CallFix p m c cX8_probe 5 s #[.ref a, .int (iI n), .int (iI 2)] wsX8_probe RX8 := S
  have hl : lv_has ls 5 [(0, .ref a), (1, .int (iI n)), (2, .int (iI 2))] := hl
  refine z_iload_n S (pc := 0) dX8_probe_0 rfl (lv_at hl 1 rfl) ?_
  refine z_i2l S (pc := 1) (by omega) dX8_probe_1 ?_
  refine z_lconst S (pc := 2) (x := 0) dX8_probe_2 rfl ?_
  refine z_ldc2 S (pc := 3) (x := 100000) (by decide +kernel) rfl dX8_probe_3 ?_
  refine z_callS S (pc := 6) B (wr := [cMod a p1 p2 p3 p4 p5 p6 pm ig mo rd wr sm, cAt E p1 σ ρ]) (wn := fun _ => [cMod a p1 p2 p3 p4 p5 p6 pm ig mo rd wr sm, cAt E p1 σ ρ]) (st1 := fun _ => [.int (iI (bI (0 ≤ n ∧ n ≤ 100000)))]) (As := [.long (iL n), .long (iL 0), .long (iL 100000)]) (mX8_in l E n 0 100000 (show inL n from by omega) (show inL 0 from by omega) (show inL 100000 from by omega)) gX8_probe_X8_in 3 rfl (by decide +kernel) ⟨Nat.le_of_ble_eq_true rfl, Nat.le_of_ble_eq_true rfl, Nat.le_of_ble_eq_true rfl, Nat.le_of_ble_eq_true rfl⟩ [] [0, 1] [0, 1] rfl rfl ⟨rfl, rfl, rfl, by decide⟩ (fun _ => rfl) rfl (fun _ => rfl) hl.1 (Nat.le_of_ble_eq_true rfl) rfl dX8_probe_6 (fun _ _ H locs B => ?_)
  refine z_ifeq_b S (pc := 9) (tgt := 24) dX8_probe_9 rfl (fun c1 => absurd c1 (by omega)) (fun c1 => ?_)
  refine z_iload_n S (pc := 12) dX8_probe_12 rfl (lv_at hl 2 rfl) ?_
  refine z_i2l S (pc := 13) (by omega) dX8_probe_13 ?_
  refine z_lconst S (pc := 14) (x := 0) dX8_probe_14 rfl ?_
  refine z_ldc2 S (pc := 15) (x := 2) (by decide +kernel) rfl dX8_probe_15 ?_
  refine z_callS S (pc := 18) B (wr := [cMod a p1 p2 p3 p4 p5 p6 pm ig mo rd wr sm, cAt E p1 σ ρ]) (wn := fun _ => [cMod a p1 p2 p3 p4 p5 p6 pm ig mo rd wr sm, cAt E p1 σ ρ]) (st1 := fun _ => [.int (iI (bI (0 ≤ 2 ∧ 2 ≤ 2)))]) (As := [.long (iL 2), .long (iL 0), .long (iL 2)]) (mX8_in l E 2 0 2 (show inL 2 from by omega) (show inL 0 from by omega) (show inL 2 from by omega)) gX8_probe_X8_in 3 rfl (by decide +kernel) ⟨Nat.le_of_ble_eq_true rfl, Nat.le_of_ble_eq_true rfl, Nat.le_of_ble_eq_true rfl, Nat.le_of_ble_eq_true rfl⟩ [] [0, 1] [0, 1] rfl rfl ⟨rfl, rfl, rfl, by decide⟩ (fun _ => rfl) rfl (fun _ => rfl) hl.1 (Nat.le_of_ble_eq_true rfl) rfl dX8_probe_18 (fun _ _ H locs B => ?_)
  refine z_ifne_b S (pc := 21) (tgt := 28) dX8_probe_21 rfl (fun c2 => ?_) (fun c2 => absurd c2 (by omega))
  refine z_aload_n S (pc := 28) dX8_probe_28 rfl (lv_at hl 0 rfl) ?_
  refine z_get S (pc := 29) B iX8_probe_X8 0 rfl rfl 0 (by decide) rfl rfl (by decide +kernel) dX8_probe_29 ?_
  refine z_bipush S (pc := 32) dX8_probe_32 rfl ?_
  refine z_lald S (pc := 34) B 1 2 rfl rfl (k := 11) rfl (by decide) (by decide) (v := .long (iL (σ 11))) rfl dX8_probe_34 ?_
  refine z_iload_n S (pc := 35) dX8_probe_35 rfl (lv_at hl 1 rfl) ?_
  refine z_i2l S (pc := 36) (by omega) dX8_probe_36 ?_
  refine z_ladd S (pc := 37) dX8_probe_37 ?_
  refine lv_lstore_n (lv' := [(3, .long (iL ((σ 11) + n))), (0, .ref a), (1, .int (iI n)), (2, .int (iI 2))]) S.1 S.2.1 (pc := 38) dX8_probe_38 rfl hl (by decide) rfl (fun ls hl => ?_)
  refine z_iload_n S (pc := 39) dX8_probe_39 rfl (lv_at hl 3 rfl) ?_
  refine z_if_ne S (pc := 40) (tgt := 51) (by omega) dX8_probe_40 rfl (fun c3 => ?_) (fun c3 => absurd c3 (by omega))
  refine z_iload_n S (pc := 51) dX8_probe_51 rfl (lv_at hl 3 rfl) ?_
  refine z_iconst S (pc := 52) dX8_probe_52 ?_
  refine z_icmp_ne S (pc := 53) (tgt := 64) (by omega) (by omega) dX8_probe_53 rfl (fun c4 => ?_) (fun c4 => absurd c4 (by omega))
  refine z_aload_n S (pc := 64) dX8_probe_64 rfl (lv_at hl 1 rfl) ?_
  refine z_lload_n S (pc := 65) dX8_probe_65 rfl (lv_at hl 0 rfl) ?_
  refine z_callV S (pc := 66) B (wr := []) (wn := fun _ => [cMod a p1 p2 p3 p4 p5 p6 pm ig mo rd wr sm, cAt E p1 σ ρ]) (st1 := fun _ => [.long (iL (offs (σ 3) (σ 4) ((σ 11) + n)))]) (As := [.long (iL ((σ 11) + n))]) (mX8_offset l E a p1 p2 p3 p4 p5 p6 σ ρ pm ig mo rd wr sm ((σ 11) + n) (show -100000 ≤ σ 3 ∧ σ 3 ≤ 100000 from by omega) (show -1000 ≤ σ 4 ∧ σ 4 ≤ 1000 from by omega) (show 0 ≤ ((σ 11) + n) ∧ ((σ 11) + n) ≤ 2147483647 from by omega)) gX8_probe_X8_offset 1 rfl (by decide +kernel) ⟨Nat.le_of_ble_eq_true rfl, Nat.le_of_ble_eq_true rfl, Nat.le_of_ble_eq_true rfl, Nat.le_of_ble_eq_true rfl⟩ 0 rfl (q := (RX8, TX8, 12)) rfl rfl [0, 1] [] [0, 1] rfl rfl ⟨rfl, rfl, rfl, by decide⟩ (fun _ => rfl) rfl (fun _ => rfl) hl.1 (Nat.le_of_ble_eq_true rfl) rfl dX8_probe_66 (fun _ _ H locs B => ?_)
  exact z_lreturn S hr hlk B () trivial rfl rfl (pc := 69) dX8_probe_69
set_option maxHeartbeats 4000000 in
set_option maxRecDepth 100000 in
theorem mX8_probe_b (l : Launch) (E : gT) (a : Nat) (p1 : Nat) (p2 : Nat) (p3 : Nat) (p4 : Nat) (p5 : Nat) (p6 : Nat) (σ : Nat → Int) (ρ : Nat → Int) (pm : Int) (ig : Int) (mo : Int) (rd : Int) (wr : Int) (sm : Int) (n : Int) (k : Int) (hI : inI n ∧ inI k) (hbad : (n < 0 ∨ 100000 < n ∨ k < 0 ∨ 2 < k)) : Cd l E yX8_probe wsX8_probe 2 48 0 0 [.ref a, .int (iI n), .int (iI k)] [cMod a p1 p2 p3 p4 p5 p6 pm ig mo rd wr sm] (some (.long (iL (-1000000000000000002)))) [cMod a p1 p2 p3 p4 p5 p6 pm ig mo rd wr sm] := by
  refine Ct.mk (cc := cX8_probe) (maxL := 5) (ret := (some .long)) (plainFor_of_name (by decide)) rfl (Nat.le_of_ble_eq_true rfl) ?_
  intro p e s m below meth c A ls H locs S hr hlk hnm B hl
  have S : CallFix p m c cX8_probe 5 s #[.ref a, .int (iI n), .int (iI k)] wsX8_probe RX8 := S
  have hl : lv_has ls 5 [(0, .ref a), (1, .int (iI n)), (2, .int (iI k))] := hl
  refine z_iload_n S (pc := 0) dX8_probe_0 rfl (lv_at hl 1 rfl) ?_
  refine z_i2l S (pc := 1) (by omega) dX8_probe_1 ?_
  refine z_lconst S (pc := 2) (x := 0) dX8_probe_2 rfl ?_
  refine z_ldc2 S (pc := 3) (x := 100000) (by decide +kernel) rfl dX8_probe_3 ?_
  refine z_callS S (pc := 6) B (wr := [cMod a p1 p2 p3 p4 p5 p6 pm ig mo rd wr sm]) (wn := fun _ => [cMod a p1 p2 p3 p4 p5 p6 pm ig mo rd wr sm]) (st1 := fun _ => [.int (iI (bI (0 ≤ n ∧ n ≤ 100000)))]) (As := [.long (iL n), .long (iL 0), .long (iL 100000)]) (mX8_in l E n 0 100000 (show inL n from by omega) (show inL 0 from by omega) (show inL 100000 from by omega)) gX8_probe_X8_in 3 rfl (by decide +kernel) ⟨Nat.le_of_ble_eq_true rfl, Nat.le_of_ble_eq_true rfl, Nat.le_of_ble_eq_true rfl, Nat.le_of_ble_eq_true rfl⟩ [] [0] [0] rfl rfl ⟨rfl, rfl, rfl, by decide⟩ (fun _ => rfl) rfl (fun _ => rfl) hl.1 (Nat.le_of_ble_eq_true rfl) rfl dX8_probe_6 (fun _ _ H locs B => ?_)
  refine z_ifeq_b S (pc := 9) (tgt := 24) dX8_probe_9 rfl (fun c1 => ?_) (fun c1 => ?_)
  · refine z_ldc2 S (pc := 24) (x := (-1000000000000000002)) (by decide +kernel) rfl dX8_probe_24 ?_
    exact z_lreturn S hr hlk B () trivial rfl rfl (pc := 27) dX8_probe_27
  · refine z_iload_n S (pc := 12) dX8_probe_12 rfl (lv_at hl 2 rfl) ?_
    refine z_i2l S (pc := 13) (by omega) dX8_probe_13 ?_
    refine z_lconst S (pc := 14) (x := 0) dX8_probe_14 rfl ?_
    refine z_ldc2 S (pc := 15) (x := 2) (by decide +kernel) rfl dX8_probe_15 ?_
    refine z_callS S (pc := 18) B (wr := [cMod a p1 p2 p3 p4 p5 p6 pm ig mo rd wr sm]) (wn := fun _ => [cMod a p1 p2 p3 p4 p5 p6 pm ig mo rd wr sm]) (st1 := fun _ => [.int (iI (bI (0 ≤ k ∧ k ≤ 2)))]) (As := [.long (iL k), .long (iL 0), .long (iL 2)]) (mX8_in l E k 0 2 (show inL k from by omega) (show inL 0 from by omega) (show inL 2 from by omega)) gX8_probe_X8_in 3 rfl (by decide +kernel) ⟨Nat.le_of_ble_eq_true rfl, Nat.le_of_ble_eq_true rfl, Nat.le_of_ble_eq_true rfl, Nat.le_of_ble_eq_true rfl⟩ [] [0] [0] rfl rfl ⟨rfl, rfl, rfl, by decide⟩ (fun _ => rfl) rfl (fun _ => rfl) hl.1 (Nat.le_of_ble_eq_true rfl) rfl dX8_probe_18 (fun _ _ H locs B => ?_)
    refine z_ifne_b S (pc := 21) (tgt := 28) dX8_probe_21 rfl (fun c2 => ?_) (fun c2 => ?_)
    · exact absurd hbad (by omega)
    · refine z_ldc2 S (pc := 24) (x := (-1000000000000000002)) (by decide +kernel) rfl dX8_probe_24 ?_
      exact z_lreturn S hr hlk B () trivial rfl rfl (pc := 27) dX8_probe_27
theorem iX8_read_X8 : ∀ w ∈ wsX80, w ∈ wsX8_read := by decide +kernel
set_option maxHeartbeats 4000000 in
set_option maxRecDepth 100000 in
theorem mX8_read (l : Launch) (E : gT) (a : Nat) (p1 : Nat) (p2 : Nat) (p3 : Nat) (p4 : Nat) (p5 : Nat) (p6 : Nat) (σ : Nat → Int) (ρ : Nat → Int) (pm : Int) (ig : Int) (mo : Int) (rd : Int) (wr : Int) (sm : Int) (hs : Sets σ) (hn : Nums σ) (h11 : 0 ≤ σ 11 ∧ σ 11 ≤ 2000000000) (hr0 : σ 14 < 10000) : Cd l E yX8_read wsX8_read 5 121 0 0 [.ref a] [cMod a p1 p2 p3 p4 p5 p6 pm ig mo rd wr sm, cAt E p1 σ ρ] (some (.long (iL (val0 (rz σ))))) [cMod a p1 p2 p3 p4 p5 p6 pm ((cvF (rz σ) (gn (rz σ 10))).1) (ov0 (rz σ)) rd wr sm, cAt E p1 (rdS σ) (rowS σ ρ)] := by
  refine Ct.mk (cc := cX8_read) (maxL := 1) (ret := (some .long)) (plainFor_of_name (by decide)) rfl (Nat.le_of_ble_eq_true rfl) ?_
  intro p e s m below meth c A ls H locs S hr hlk hnm B hl
  have S : CallFix p m c cX8_read 1 s #[.ref a] wsX8_read RX8 := S
  have hl : lv_has ls 1 [(0, .ref a)] := hl
  obtain ⟨n12, n13, n14, nrest⟩ := id hn
  refine z_aload_n S (pc := 0) dX8_read_0 rfl (lv_at hl 0 rfl) ?_
  refine z_get S (pc := 1) B iX8_read_X8 0 rfl rfl 0 (by decide) rfl rfl (by decide +kernel) dX8_read_1 ?_
  refine z_bipush S (pc := 4) dX8_read_4 rfl ?_
  refine z_lald S (pc := 6) B 1 2 rfl rfl (k := 14) rfl (by decide) (by decide) (v := .long (iL (σ 14))) rfl dX8_read_6 ?_
  refine z_ldc2 S (pc := 7) (x := 10000) (by decide +kernel) rfl dX8_read_7 ?_
  refine z_lc_ne S (pc := 10) (tgt := 20) (by omega) (by omega) dX8_read_10 dX8_read_11 rfl (fun c1 => ?_) (fun c1 => absurd c1 (by omega))
  refine z_aload_n S (pc := 20) dX8_read_20 rfl (lv_at hl 0 rfl) ?_
  refine z_callV S (pc := 21) B (wr := []) (wn := fun _ => [cMod a p1 p2 p3 p4 p5 p6 pm ((cvF (rz σ) (gn (rz σ 10))).1) (ov0 (rz σ)) rd wr sm, cAt E p1 (rdS σ) (rowS σ ρ)]) (st1 := fun _ => [.long (iL (val0 (rz σ)))]) (As := []) (mX8_makeReading l E a p1 p2 p3 p4 p5 p6 σ ρ pm ig mo rd wr sm (show Sets σ from by assumption) (show Nums σ from by assumption) (show 0 ≤ σ 11 ∧ σ 11 ≤ 2000000000 from by omega)) gX8_read_X8_makeReading 0 rfl (by decide +kernel) ⟨Nat.le_of_ble_eq_true rfl, Nat.le_of_ble_eq_true rfl, Nat.le_of_ble_eq_true rfl, Nat.le_of_ble_eq_true rfl⟩ 0 rfl (q := (RX8, TX8, 12)) rfl rfl [0, 1] [] [0, 1] rfl rfl ⟨rfl, rfl, rfl, by decide⟩ (fun _ => rfl) rfl (fun _ => rfl) hl.1 (Nat.le_of_ble_eq_true rfl) rfl dX8_read_21 (fun _ _ H locs B => ?_)
  exact z_lreturn S hr hlk B () trivial rfl rfl (pc := 24) dX8_read_24
set_option maxHeartbeats 4000000 in
set_option maxRecDepth 100000 in
theorem mX8_read_m (l : Launch) (E : gT) (a : Nat) (p1 : Nat) (p2 : Nat) (p3 : Nat) (p4 : Nat) (p5 : Nat) (p6 : Nat) (σ : Nat → Int) (ρ : Nat → Int) (pm : Int) (ig : Int) (mo : Int) (rd : Int) (wr : Int) (sm : Int) (hr0 : σ 14 = 10000) : Cd l E yX8_read wsX8_read 5 121 0 0 [.ref a] [cMod a p1 p2 p3 p4 p5 p6 pm ig mo rd wr sm, cAt E p1 σ ρ] (some (.long (iL (-1000000000000000004)))) [cMod a p1 p2 p3 p4 p5 p6 pm ig mo rd wr sm, cAt E p1 σ ρ] := by
  refine Ct.mk (cc := cX8_read) (maxL := 1) (ret := (some .long)) (plainFor_of_name (by decide)) rfl (Nat.le_of_ble_eq_true rfl) ?_
  intro p e s m below meth c A ls H locs S hr hlk hnm B hl
  have S : CallFix p m c cX8_read 1 s #[.ref a] wsX8_read RX8 := S
  have hl : lv_has ls 1 [(0, .ref a)] := hl
  refine z_aload_n S (pc := 0) dX8_read_0 rfl (lv_at hl 0 rfl) ?_
  refine z_get S (pc := 1) B iX8_read_X8 0 rfl rfl 0 (by decide) rfl rfl (by decide +kernel) dX8_read_1 ?_
  refine z_bipush S (pc := 4) dX8_read_4 rfl ?_
  refine z_lald S (pc := 6) B 1 2 rfl rfl (k := 14) rfl (by decide) (by decide) (v := .long (iL (σ 14))) rfl dX8_read_6 ?_
  refine z_ldc2 S (pc := 7) (x := 10000) (by decide +kernel) rfl dX8_read_7 ?_
  refine z_lc_ne S (pc := 10) (tgt := 20) (by omega) (by omega) dX8_read_10 dX8_read_11 rfl (fun c1 => absurd c1 (by omega)) (fun c1 => ?_)
  refine z_ldc2 S (pc := 14) (x := (-1000000000000000004)) (by decide +kernel) rfl dX8_read_14 ?_
  refine lv_goto S.1 S.2.1 (pc := 17) (tgt := 24) dX8_read_17 rfl ?_
  exact z_lreturn S hr hlk B () trivial rfl rfl (pc := 24) dX8_read_24
theorem iX8_zero_X8 : ∀ w ∈ wsX80, w ∈ wsX8_zero := by decide +kernel
set_option maxHeartbeats 4000000 in
set_option maxRecDepth 100000 in
theorem mX8_zero (l : Launch) (E : gT) (a : Nat) (p1 : Nat) (p2 : Nat) (p3 : Nat) (p4 : Nat) (p5 : Nat) (p6 : Nat) (σ : Nat → Int) (ρ : Nat → Int) (pm : Int) (ig : Int) (mo : Int) (rd : Int) (wr : Int) (sm : Int) (hs : Sets σ) (h11 : 0 ≤ σ 11 ∧ σ 11 ≤ 2000000000) : Cd l E yX8_zero wsX8_zero 4 94 0 0 [.ref a] [cMod a p1 p2 p3 p4 p5 p6 pm ig mo rd wr sm, cAt E p1 σ ρ] (some (.int (iI (cnt σ 0 + 10000000)))) [cMod a p1 p2 p3 p4 p5 p6 pm ((cvF σ 0).1) (ovr σ 0) rd wr sm, cAt E p1 (up (cvt σ 0) 12 (cnt σ 0)) ρ] := by
  refine Ct.mk (cc := cX8_zero) (maxL := 1) (ret := (some .int)) (plainFor_of_name (by decide)) rfl (Nat.le_of_ble_eq_true rfl) ?_
  intro p e s m below meth c A ls H locs S hr hlk hnm B hl
  have S : CallFix p m c cX8_zero 1 s #[.ref a] wsX8_zero RX8 := S
  have hl : lv_has ls 1 [(0, .ref a)] := hl
  have hc := cnt_bd σ 0 hs.2.2.2.2.2.1
  refine z_aload_n S (pc := 0) dX8_zero_0 rfl (lv_at hl 0 rfl) ?_
  refine z_iconst S (pc := 1) dX8_zero_1 ?_
  refine z_callV S (pc := 2) B (wr := []) (wn := fun _ => [cMod a p1 p2 p3 p4 p5 p6 pm ((cvF σ 0).1) (ovr σ 0) rd wr sm, cAt E p1 (cvt σ 0) ρ]) (st1 := fun _ => []) (As := [.int (iI 1)]) (mX8_convert_1 l E a p1 p2 p3 p4 p5 p6 σ ρ pm ig mo rd wr sm (show Sets σ from by assumption) (show 0 ≤ σ 11 ∧ σ 11 ≤ 2100000000 from by omega)) gX8_zero_X8_convert 1 rfl (by decide +kernel) ⟨Nat.le_of_ble_eq_true rfl, Nat.le_of_ble_eq_true rfl, Nat.le_of_ble_eq_true rfl, Nat.le_of_ble_eq_true rfl⟩ 0 rfl (q := (RX8, TX8, 12)) rfl rfl [0, 1] [] [0, 1] rfl rfl ⟨rfl, rfl, rfl, by decide⟩ (fun _ => rfl) rfl (fun _ => rfl) hl.1 (Nat.le_of_ble_eq_true rfl) rfl dX8_zero_2 (fun _ _ H locs B => ?_)
  refine z_aload_n S (pc := 5) dX8_zero_5 rfl (lv_at hl 0 rfl) ?_
  refine z_get S (pc := 6) B iX8_zero_X8 0 rfl rfl 0 (by decide) rfl rfl (by decide +kernel) dX8_zero_6 ?_
  refine z_bipush S (pc := 9) dX8_zero_9 rfl ?_
  refine z_aload_n S (pc := 11) dX8_zero_11 rfl (lv_at hl 0 rfl) ?_
  refine z_get S (pc := 12) B iX8_zero_X8 0 rfl rfl 0 (by decide) rfl rfl (by decide +kernel) dX8_zero_12 ?_
  refine z_bipush S (pc := 15) dX8_zero_15 rfl ?_
  refine z_lald S (pc := 17) B 1 2 rfl rfl (k := 15) rfl (by decide) (by decide) (v := .long (iL ((cvt σ 0) 15))) rfl dX8_zero_17 ?_
  refine z_last S (pc := 18) B 1 2 rfl rfl (k := 12) rfl (by decide) (by decide) dX8_zero_18 (wn := [cMod a p1 p2 p3 p4 p5 p6 pm ((cvF σ 0).1) (ovr σ 0) rd wr sm, cAt E p1 (up (cvt σ 0) 12 ((cvt σ 0) 15)) ρ]) (by rw [lmu _ _ (by decide)]; rfl) (fun H locs B => ?_)
  refine z_aload_n S (pc := 19) dX8_zero_19 rfl (lv_at hl 0 rfl) ?_
  refine z_get S (pc := 20) B iX8_zero_X8 0 rfl rfl 0 (by decide) rfl rfl (by decide +kernel) dX8_zero_20 ?_
  refine z_bipush S (pc := 23) dX8_zero_23 rfl ?_
  refine z_lald S (pc := 25) B 1 2 rfl rfl (k := 12) rfl (by decide) (by decide) (v := .long (iL ((cvt σ 0) 15))) rfl dX8_zero_25 ?_
  refine z_l2i S (pc := 26) dX8_zero_26 ?_
  refine z_ldc S (pc := 27) (x := 10000000) (by decide +kernel) rfl dX8_zero_27 ?_
  refine z_iadd S (pc := 29) dX8_zero_29 ?_
  exact z_ireturn S hr hlk B () trivial rfl rfl (pc := 30) dX8_zero_30
theorem iX8_pass_X8 : ∀ w ∈ wsX80, w ∈ wsX8_pass := by decide +kernel
set_option maxHeartbeats 4000000 in
set_option maxRecDepth 100000 in
theorem mX8_pass (l : Launch) (E : gT) (a : Nat) (p1 : Nat) (p2 : Nat) (p3 : Nat) (p4 : Nat) (p5 : Nat) (p6 : Nat) (σ : Nat → Int) (ρ : Nat → Int) (pm : Int) (ig : Int) (mo : Int) (rd : Int) (wr : Int) (sm : Int) (n : Int) (hv : 1 ≤ n ∧ n ≤ 100000) (h11 : 0 ≤ σ 11 ∧ σ 11 ≤ 2000000000) (hw : σ 11 + n ≤ 1000000000) : Cd l E yX8_pass wsX8_pass 1 25 0 0 [.ref a, .int (iI n)] [cMod a p1 p2 p3 p4 p5 p6 pm ig mo rd wr sm, cAt E p1 σ ρ] (some (.int (iI (σ 11 + n)))) [cMod a p1 p2 p3 p4 p5 p6 pm ig mo rd wr sm, cAt E p1 (up σ 11 (σ 11 + n)) ρ] := by
  refine Ct.mk (cc := cX8_pass) (maxL := 2) (ret := (some .int)) (plainFor_of_name (by decide)) rfl (Nat.le_of_ble_eq_true rfl) ?_
  intro p e s m below meth c A ls H locs S hr hlk hnm B hl
  have S : CallFix p m c cX8_pass 2 s #[.ref a, .int (iI n)] wsX8_pass RX8 := S
  have hl : lv_has ls 2 [(0, .ref a), (1, .int (iI n))] := hl
  refine z_iload_n S (pc := 0) dX8_pass_0 rfl (lv_at hl 1 rfl) ?_
  refine z_i2l S (pc := 1) (by omega) dX8_pass_1 ?_
  refine z_lconst S (pc := 2) (x := 1) dX8_pass_2 rfl ?_
  refine z_ldc2 S (pc := 3) (x := 100000) (by decide +kernel) rfl dX8_pass_3 ?_
  refine z_callS S (pc := 6) B (wr := [cMod a p1 p2 p3 p4 p5 p6 pm ig mo rd wr sm, cAt E p1 σ ρ]) (wn := fun _ => [cMod a p1 p2 p3 p4 p5 p6 pm ig mo rd wr sm, cAt E p1 σ ρ]) (st1 := fun _ => [.int (iI (bI (1 ≤ n ∧ n ≤ 100000)))]) (As := [.long (iL n), .long (iL 1), .long (iL 100000)]) (mX8_in l E n 1 100000 (show inL n from by omega) (show inL 1 from by omega) (show inL 100000 from by omega)) gX8_pass_X8_in 3 rfl (by decide +kernel) ⟨Nat.le_of_ble_eq_true rfl, Nat.le_of_ble_eq_true rfl, Nat.le_of_ble_eq_true rfl, Nat.le_of_ble_eq_true rfl⟩ [] [0, 1] [0, 1] rfl rfl ⟨rfl, rfl, rfl, by decide⟩ (fun _ => rfl) rfl (fun _ => rfl) hl.1 (Nat.le_of_ble_eq_true rfl) rfl dX8_pass_6 (fun _ _ H locs B => ?_)
  refine z_ifne_b S (pc := 9) (tgt := 15) dX8_pass_9 rfl (fun c1 => ?_) (fun c1 => absurd c1 (by omega))
  refine z_aload_n S (pc := 15) dX8_pass_15 rfl (lv_at hl 0 rfl) ?_
  refine z_get S (pc := 16) B iX8_pass_X8 0 rfl rfl 0 (by decide) rfl rfl (by decide +kernel) dX8_pass_16 ?_
  refine z_bipush S (pc := 19) dX8_pass_19 rfl ?_
  refine z_lald S (pc := 21) B 1 2 rfl rfl (k := 11) rfl (by decide) (by decide) (v := .long (iL (σ 11))) rfl dX8_pass_21 ?_
  refine z_iload_n S (pc := 22) dX8_pass_22 rfl (lv_at hl 1 rfl) ?_
  refine z_i2l S (pc := 23) (by omega) dX8_pass_23 ?_
  refine z_ladd S (pc := 24) dX8_pass_24 ?_
  refine z_ldc2 S (pc := 25) (x := 1000000000) (by decide +kernel) rfl dX8_pass_25 ?_
  refine z_lc_le S (pc := 28) (tgt := 35) (by omega) (by omega) dX8_pass_28 dX8_pass_29 rfl (fun c2 => ?_) (fun c2 => absurd c2 (by omega))
  refine z_aload_n S (pc := 35) dX8_pass_35 rfl (lv_at hl 0 rfl) ?_
  refine z_get S (pc := 36) B iX8_pass_X8 0 rfl rfl 0 (by decide) rfl rfl (by decide +kernel) dX8_pass_36 ?_
  refine z_bipush S (pc := 39) dX8_pass_39 rfl ?_
  refine lv_dup2_11 S.1 S.2.1 (pc := 41) dX8_pass_41 rfl rfl ?_
  refine z_lald S (pc := 42) B 1 2 rfl rfl (k := 11) rfl (by decide) (by decide) (v := .long (iL (σ 11))) rfl dX8_pass_42 ?_
  refine z_iload_n S (pc := 43) dX8_pass_43 rfl (lv_at hl 1 rfl) ?_
  refine z_i2l S (pc := 44) (by omega) dX8_pass_44 ?_
  refine z_ladd S (pc := 45) dX8_pass_45 ?_
  refine z_last S (pc := 46) B 1 2 rfl rfl (k := 11) rfl (by decide) (by decide) dX8_pass_46 (wn := [cMod a p1 p2 p3 p4 p5 p6 pm ig mo rd wr sm, cAt E p1 (up σ 11 ((σ 11) + n)) ρ]) (by rw [lmu _ _ (by decide)]; rfl) (fun H locs B => ?_)
  refine z_aload_n S (pc := 47) dX8_pass_47 rfl (lv_at hl 0 rfl) ?_
  refine z_get S (pc := 48) B iX8_pass_X8 0 rfl rfl 0 (by decide) rfl rfl (by decide +kernel) dX8_pass_48 ?_
  refine z_bipush S (pc := 51) dX8_pass_51 rfl ?_
  refine z_lald S (pc := 53) B 1 2 rfl rfl (k := 11) rfl (by decide) (by decide) (v := .long (iL ((σ 11) + n))) rfl dX8_pass_53 ?_
  refine z_l2i S (pc := 54) dX8_pass_54 ?_
  exact z_ireturn S hr hlk B () trivial rfl rfl (pc := 55) dX8_pass_55
set_option maxHeartbeats 4000000 in
set_option maxRecDepth 100000 in
theorem mX8_pass_m (l : Launch) (E : gT) (a : Nat) (p1 : Nat) (p2 : Nat) (p3 : Nat) (p4 : Nat) (p5 : Nat) (p6 : Nat) (σ : Nat → Int) (ρ : Nat → Int) (pm : Int) (ig : Int) (mo : Int) (rd : Int) (wr : Int) (sm : Int) (n : Int) (hv : 1 ≤ n ∧ n ≤ 100000) (h11 : 0 ≤ σ 11 ∧ σ 11 ≤ 2000000000) (hw : 1000000000 < σ 11 + n) : Cd l E yX8_pass wsX8_pass 1 25 0 0 [.ref a, .int (iI n)] [cMod a p1 p2 p3 p4 p5 p6 pm ig mo rd wr sm, cAt E p1 σ ρ] (some (.int (iI (-5)))) [cMod a p1 p2 p3 p4 p5 p6 pm ig mo rd wr sm, cAt E p1 σ ρ] := by
  refine Ct.mk (cc := cX8_pass) (maxL := 2) (ret := (some .int)) (plainFor_of_name (by decide)) rfl (Nat.le_of_ble_eq_true rfl) ?_
  intro p e s m below meth c A ls H locs S hr hlk hnm B hl
  have S : CallFix p m c cX8_pass 2 s #[.ref a, .int (iI n)] wsX8_pass RX8 := S
  have hl : lv_has ls 2 [(0, .ref a), (1, .int (iI n))] := hl
  refine z_iload_n S (pc := 0) dX8_pass_0 rfl (lv_at hl 1 rfl) ?_
  refine z_i2l S (pc := 1) (by omega) dX8_pass_1 ?_
  refine z_lconst S (pc := 2) (x := 1) dX8_pass_2 rfl ?_
  refine z_ldc2 S (pc := 3) (x := 100000) (by decide +kernel) rfl dX8_pass_3 ?_
  refine z_callS S (pc := 6) B (wr := [cMod a p1 p2 p3 p4 p5 p6 pm ig mo rd wr sm, cAt E p1 σ ρ]) (wn := fun _ => [cMod a p1 p2 p3 p4 p5 p6 pm ig mo rd wr sm, cAt E p1 σ ρ]) (st1 := fun _ => [.int (iI (bI (1 ≤ n ∧ n ≤ 100000)))]) (As := [.long (iL n), .long (iL 1), .long (iL 100000)]) (mX8_in l E n 1 100000 (show inL n from by omega) (show inL 1 from by omega) (show inL 100000 from by omega)) gX8_pass_X8_in 3 rfl (by decide +kernel) ⟨Nat.le_of_ble_eq_true rfl, Nat.le_of_ble_eq_true rfl, Nat.le_of_ble_eq_true rfl, Nat.le_of_ble_eq_true rfl⟩ [] [0, 1] [0, 1] rfl rfl ⟨rfl, rfl, rfl, by decide⟩ (fun _ => rfl) rfl (fun _ => rfl) hl.1 (Nat.le_of_ble_eq_true rfl) rfl dX8_pass_6 (fun _ _ H locs B => ?_)
  refine z_ifne_b S (pc := 9) (tgt := 15) dX8_pass_9 rfl (fun c1 => ?_) (fun c1 => absurd c1 (by omega))
  refine z_aload_n S (pc := 15) dX8_pass_15 rfl (lv_at hl 0 rfl) ?_
  refine z_get S (pc := 16) B iX8_pass_X8 0 rfl rfl 0 (by decide) rfl rfl (by decide +kernel) dX8_pass_16 ?_
  refine z_bipush S (pc := 19) dX8_pass_19 rfl ?_
  refine z_lald S (pc := 21) B 1 2 rfl rfl (k := 11) rfl (by decide) (by decide) (v := .long (iL (σ 11))) rfl dX8_pass_21 ?_
  refine z_iload_n S (pc := 22) dX8_pass_22 rfl (lv_at hl 1 rfl) ?_
  refine z_i2l S (pc := 23) (by omega) dX8_pass_23 ?_
  refine z_ladd S (pc := 24) dX8_pass_24 ?_
  refine z_ldc2 S (pc := 25) (x := 1000000000) (by decide +kernel) rfl dX8_pass_25 ?_
  refine z_lc_le S (pc := 28) (tgt := 35) (by omega) (by omega) dX8_pass_28 dX8_pass_29 rfl (fun c2 => absurd c2 (by omega)) (fun c2 => ?_)
  refine z_bipush S (pc := 32) dX8_pass_32 rfl ?_
  exact z_ireturn S hr hlk B () trivial rfl rfl (pc := 34) dX8_pass_34
set_option maxHeartbeats 4000000 in
set_option maxRecDepth 100000 in
theorem mX8_pass_b (l : Launch) (E : gT) (a : Nat) (p1 : Nat) (p2 : Nat) (p3 : Nat) (p4 : Nat) (p5 : Nat) (p6 : Nat) (σ : Nat → Int) (ρ : Nat → Int) (pm : Int) (ig : Int) (mo : Int) (rd : Int) (wr : Int) (sm : Int) (n : Int) (hI : inI n) (hbad : (n < 1 ∨ 100000 < n)) : Cd l E yX8_pass wsX8_pass 1 25 0 0 [.ref a, .int (iI n)] [cMod a p1 p2 p3 p4 p5 p6 pm ig mo rd wr sm] (some (.int (iI (-2)))) [cMod a p1 p2 p3 p4 p5 p6 pm ig mo rd wr sm] := by
  refine Ct.mk (cc := cX8_pass) (maxL := 2) (ret := (some .int)) (plainFor_of_name (by decide)) rfl (Nat.le_of_ble_eq_true rfl) ?_
  intro p e s m below meth c A ls H locs S hr hlk hnm B hl
  have S : CallFix p m c cX8_pass 2 s #[.ref a, .int (iI n)] wsX8_pass RX8 := S
  have hl : lv_has ls 2 [(0, .ref a), (1, .int (iI n))] := hl
  refine z_iload_n S (pc := 0) dX8_pass_0 rfl (lv_at hl 1 rfl) ?_
  refine z_i2l S (pc := 1) (by omega) dX8_pass_1 ?_
  refine z_lconst S (pc := 2) (x := 1) dX8_pass_2 rfl ?_
  refine z_ldc2 S (pc := 3) (x := 100000) (by decide +kernel) rfl dX8_pass_3 ?_
  refine z_callS S (pc := 6) B (wr := [cMod a p1 p2 p3 p4 p5 p6 pm ig mo rd wr sm]) (wn := fun _ => [cMod a p1 p2 p3 p4 p5 p6 pm ig mo rd wr sm]) (st1 := fun _ => [.int (iI (bI (1 ≤ n ∧ n ≤ 100000)))]) (As := [.long (iL n), .long (iL 1), .long (iL 100000)]) (mX8_in l E n 1 100000 (show inL n from by omega) (show inL 1 from by omega) (show inL 100000 from by omega)) gX8_pass_X8_in 3 rfl (by decide +kernel) ⟨Nat.le_of_ble_eq_true rfl, Nat.le_of_ble_eq_true rfl, Nat.le_of_ble_eq_true rfl, Nat.le_of_ble_eq_true rfl⟩ [] [0] [0] rfl rfl ⟨rfl, rfl, rfl, by decide⟩ (fun _ => rfl) rfl (fun _ => rfl) hl.1 (Nat.le_of_ble_eq_true rfl) rfl dX8_pass_6 (fun _ _ H locs B => ?_)
  refine z_ifne_b S (pc := 9) (tgt := 15) dX8_pass_9 rfl (fun c1 => absurd c1 (by omega)) (fun c1 => ?_)
  refine z_bipush S (pc := 12) dX8_pass_12 rfl ?_
  exact z_ireturn S hr hlk B () trivial rfl rfl (pc := 14) dX8_pass_14
theorem iX8_isLogged_X8 : ∀ w ∈ wsX80, w ∈ wsX8_isLogged := by decide +kernel
set_option maxHeartbeats 4000000 in
set_option maxRecDepth 100000 in
theorem mX8_isLogged (l : Launch) (E : gT) (a : Nat) (p1 : Nat) (p2 : Nat) (p3 : Nat) (p4 : Nat) (p5 : Nat) (p6 : Nat) (σ : Nat → Int) (ρ : Nat → Int) (pm : Int) (ig : Int) (mo : Int) (rd : Int) (wr : Int) (sm : Int) (r : Int) (hI : inI r) (h14 : 0 ≤ σ 14 ∧ σ 14 ≤ 20000) : Cd l E yX8_isLogged wsX8_isLogged 1 25 0 0 [.ref a, .int (iI r)] [cMod a p1 p2 p3 p4 p5 p6 pm ig mo rd wr sm, cAt E p1 σ ρ] (some (.int (iI (bI (ffr (σ 14) 0 ≤ r ∧ r < σ 14))))) [cMod a p1 p2 p3 p4 p5 p6 pm ig mo rd wr sm, cAt E p1 σ ρ] := by
  refine Ct.mk (cc := cX8_isLogged) (maxL := 2) (ret := (some .boolean)) (plainFor_of_name (by decide)) rfl (Nat.le_of_ble_eq_true rfl) ?_
  intro p e s m below meth c A ls H locs S hr hlk hnm B hl
  have S : CallFix p m c cX8_isLogged 2 s #[.ref a, .int (iI r)] wsX8_isLogged RX8 := S
  have hl : lv_has ls 2 [(0, .ref a), (1, .int (iI r))] := hl
  have hff : ffr (σ 14) 0 = if 0 < σ 14 - 40 then σ 14 - 40 else 0 := by unfold ffr; split <;> omega
  refine z_iload_n S (pc := 0) dX8_isLogged_0 rfl (lv_at hl 1 rfl) ?_
  refine z_i2l S (pc := 1) (by omega) dX8_isLogged_1 ?_
  refine z_lconst S (pc := 2) (x := 0) dX8_isLogged_2 rfl ?_
  refine z_aload_n S (pc := 3) dX8_isLogged_3 rfl (lv_at hl 0 rfl) ?_
  refine z_get S (pc := 4) B iX8_isLogged_X8 0 rfl rfl 0 (by decide) rfl rfl (by decide +kernel) dX8_isLogged_4 ?_
  refine z_bipush S (pc := 7) dX8_isLogged_7 rfl ?_
  refine z_lald S (pc := 9) B 1 2 rfl rfl (k := 14) rfl (by decide) (by decide) (v := .long (iL (σ 14))) rfl dX8_isLogged_9 ?_
  refine z_lconst S (pc := 10) (x := 1) dX8_isLogged_10 rfl ?_
  refine z_lsub S (pc := 11) dX8_isLogged_11 ?_
  refine z_callS S (pc := 12) B (wr := [cMod a p1 p2 p3 p4 p5 p6 pm ig mo rd wr sm, cAt E p1 σ ρ]) (wn := fun _ => [cMod a p1 p2 p3 p4 p5 p6 pm ig mo rd wr sm, cAt E p1 σ ρ]) (st1 := fun _ => [.int (iI (bI (0 ≤ r ∧ r ≤ (σ 14) - 1)))]) (As := [.long (iL r), .long (iL 0), .long (iL ((σ 14) - 1))]) (mX8_in l E r 0 ((σ 14) - 1) (show inL r from by omega) (show inL 0 from by omega) (show inL ((σ 14) - 1) from by omega)) gX8_isLogged_X8_in 3 rfl (by decide +kernel) ⟨Nat.le_of_ble_eq_true rfl, Nat.le_of_ble_eq_true rfl, Nat.le_of_ble_eq_true rfl, Nat.le_of_ble_eq_true rfl⟩ [] [0, 1] [0, 1] rfl rfl ⟨rfl, rfl, rfl, by decide⟩ (fun _ => rfl) rfl (fun _ => rfl) hl.1 (Nat.le_of_ble_eq_true rfl) rfl dX8_isLogged_12 (fun _ _ H locs B => ?_)
  refine z_ifeq_b S (pc := 15) (tgt := 39) dX8_isLogged_15 rfl (fun c1 => ?_) (fun c1 => ?_)
  · refine z_iconst S (pc := 39) dX8_isLogged_39 ?_
    exact z_zreturn S (by omega) hr hlk B () trivial (by rw [bI_f (by omega)]) rfl (pc := 40) dX8_isLogged_40
  · refine z_iload_n S (pc := 18) dX8_isLogged_18 rfl (lv_at hl 1 rfl) ?_
    refine z_i2l S (pc := 19) (by omega) dX8_isLogged_19 ?_
    refine z_aload_n S (pc := 20) dX8_isLogged_20 rfl (lv_at hl 0 rfl) ?_
    refine z_get S (pc := 21) B iX8_isLogged_X8 0 rfl rfl 0 (by decide) rfl rfl (by decide +kernel) dX8_isLogged_21 ?_
    refine z_bipush S (pc := 24) dX8_isLogged_24 rfl ?_
    refine z_lald S (pc := 26) B 1 2 rfl rfl (k := 14) rfl (by decide) (by decide) (v := .long (iL (σ 14))) rfl dX8_isLogged_26 ?_
    refine z_ldc2 S (pc := 27) (x := 40) (by decide +kernel) rfl dX8_isLogged_27 ?_
    refine z_lsub S (pc := 30) dX8_isLogged_30 ?_
    refine z_lc_lt S (pc := 31) (tgt := 39) (by omega) (by omega) dX8_isLogged_31 dX8_isLogged_32 rfl (fun c2 => ?_) (fun c2 => ?_)
    · refine z_iconst S (pc := 39) dX8_isLogged_39 ?_
      exact z_zreturn S (by omega) hr hlk B () trivial (by rw [bI_f (by omega)]) rfl (pc := 40) dX8_isLogged_40
    · refine z_iconst S (pc := 35) dX8_isLogged_35 ?_
      refine lv_goto S.1 S.2.1 (pc := 36) (tgt := 40) dX8_isLogged_36 rfl ?_
      exact z_zreturn S (by omega) hr hlk B () trivial (by rw [bI_t (by omega)]) rfl (pc := 40) dX8_isLogged_40
theorem iX8_log_X8 : ∀ w ∈ wsX80, w ∈ wsX8_log := by decide +kernel
set_option maxHeartbeats 4000000 in
set_option maxRecDepth 100000 in
theorem mX8_log (l : Launch) (E : gT) (a : Nat) (p1 : Nat) (p2 : Nat) (p3 : Nat) (p4 : Nat) (p5 : Nat) (p6 : Nat) (σ : Nat → Int) (ρ : Nat → Int) (pm : Int) (ig : Int) (mo : Int) (rd : Int) (wr : Int) (sm : Int) (r : Int) (k : Nat) (hI : inI r) (hk : k ≤ 6) (h14 : 0 ≤ σ 14 ∧ σ 14 ≤ 20000) (hl0 : ffr (σ 14) 0 ≤ r ∧ r < σ 14) : Cd l E yX8_log wsX8_log 2 46 0 0 [.ref a, .int (iI r), .int (iI (k : Int))] [cMod a p1 p2 p3 p4 p5 p6 pm ig mo rd wr sm, cAt E p1 σ ρ] (some (.long (iL (lrow ρ r k)))) [cMod a p1 p2 p3 p4 p5 p6 pm ig mo rd wr sm, cAt E p1 σ ρ] := by
  refine Ct.mk (cc := cX8_log) (maxL := 3) (ret := (some .long)) (plainFor_of_name (by decide)) rfl (Nat.le_of_ble_eq_true rfl) ?_
  intro p e s m below meth c A ls H locs S hr hlk hnm B hl
  have S : CallFix p m c cX8_log 3 s #[.ref a, .int (iI r), .int (iI (k : Int))] wsX8_log RX8 := S
  have hl : lv_has ls 3 [(0, .ref a), (1, .int (iI r)), (2, .int (iI (k : Int)))] := hl
  have hff := ffr_bd (n := σ 14) (f := 0) h14
  refine z_iload_n S (pc := 0) dX8_log_0 rfl (lv_at hl 2 rfl) ?_
  refine z_i2l S (pc := 1) (by omega) dX8_log_1 ?_
  refine z_lconst S (pc := 2) (x := 0) dX8_log_2 rfl ?_
  refine z_ldc2 S (pc := 3) (x := 6) (by decide +kernel) rfl dX8_log_3 ?_
  refine z_callS S (pc := 6) B (wr := [cMod a p1 p2 p3 p4 p5 p6 pm ig mo rd wr sm, cAt E p1 σ ρ]) (wn := fun _ => [cMod a p1 p2 p3 p4 p5 p6 pm ig mo rd wr sm, cAt E p1 σ ρ]) (st1 := fun _ => [.int (iI (bI (0 ≤ (k : Int) ∧ (k : Int) ≤ 6)))]) (As := [.long (iL (k : Int)), .long (iL 0), .long (iL 6)]) (mX8_in l E (k : Int) 0 6 (show inL (k : Int) from by omega) (show inL 0 from by omega) (show inL 6 from by omega)) gX8_log_X8_in 3 rfl (by decide +kernel) ⟨Nat.le_of_ble_eq_true rfl, Nat.le_of_ble_eq_true rfl, Nat.le_of_ble_eq_true rfl, Nat.le_of_ble_eq_true rfl⟩ [] [0, 1] [0, 1] rfl rfl ⟨rfl, rfl, rfl, by decide⟩ (fun _ => rfl) rfl (fun _ => rfl) hl.1 (Nat.le_of_ble_eq_true rfl) rfl dX8_log_6 (fun _ _ H locs B => ?_)
  refine z_ifne_b S (pc := 9) (tgt := 16) dX8_log_9 rfl (fun c1 => ?_) (fun c1 => absurd c1 (by omega))
  refine z_aload_n S (pc := 16) dX8_log_16 rfl (lv_at hl 0 rfl) ?_
  refine z_iload_n S (pc := 17) dX8_log_17 rfl (lv_at hl 1 rfl) ?_
  refine z_callV S (pc := 18) B (wr := []) (wn := fun _ => [cMod a p1 p2 p3 p4 p5 p6 pm ig mo rd wr sm, cAt E p1 σ ρ]) (st1 := fun _ => [.int (iI (bI (ffr (σ 14) 0 ≤ r ∧ r < σ 14)))]) (As := [.int (iI r)]) (mX8_isLogged l E a p1 p2 p3 p4 p5 p6 σ ρ pm ig mo rd wr sm r (show inI r from by omega) (show 0 ≤ σ 14 ∧ σ 14 ≤ 20000 from by omega)) gX8_log_X8_isLogged 1 rfl (by decide +kernel) ⟨Nat.le_of_ble_eq_true rfl, Nat.le_of_ble_eq_true rfl, Nat.le_of_ble_eq_true rfl, Nat.le_of_ble_eq_true rfl⟩ 0 rfl (q := (RX8, TX8, 12)) rfl rfl [0, 1] [] [0, 1] rfl rfl ⟨rfl, rfl, rfl, by decide⟩ (fun _ => rfl) rfl (fun _ => rfl) hl.1 (Nat.le_of_ble_eq_true rfl) rfl dX8_log_18 (fun _ _ H locs B => ?_)
  refine z_ifeq_b S (pc := 21) (tgt := 44) dX8_log_21 rfl (fun c2 => absurd c2 (by omega)) (fun c2 => ?_)
  refine z_aload_n S (pc := 24) dX8_log_24 rfl (lv_at hl 0 rfl) ?_
  refine z_get S (pc := 25) B iX8_log_X8 0 rfl rfl 0 (by decide) rfl rfl (by decide +kernel) dX8_log_25 ?_
  refine z_bipush S (pc := 28) dX8_log_28 rfl ?_
  refine z_bipush S (pc := 30) dX8_log_30 rfl ?_
  refine z_iload_n S (pc := 32) dX8_log_32 rfl (lv_at hl 1 rfl) ?_
  refine z_bipush S (pc := 33) dX8_log_33 rfl ?_
  refine z_iremn S (pc := 35) (by omega) (by omega) dX8_log_35 ?_
  refine z_imul S (pc := 36) dX8_log_36 ?_
  refine z_iadd S (pc := 37) dX8_log_37 ?_
  refine z_iload_n S (pc := 38) dX8_log_38 rfl (lv_at hl 2 rfl) ?_
  refine z_iadd S (pc := 39) dX8_log_39 ?_
  refine z_lald S (pc := 40) B 1 2 rfl rfl (k := 23 + 7 * (r.toNat % 40) + k) (by omega) (by omega) (by decide) (v := .long (iL (lrow ρ r k))) (by rw [Nat.add_assoc, lat_hi]; rfl) dX8_log_40 ?_
  refine lv_goto S.1 S.2.1 (pc := 41) (tgt := 47) dX8_log_41 rfl ?_
  exact z_lreturn S hr hlk B () trivial rfl rfl (pc := 47) dX8_log_47
set_option maxHeartbeats 4000000 in
set_option maxRecDepth 100000 in
theorem mX8_log_m (l : Launch) (E : gT) (a : Nat) (p1 : Nat) (p2 : Nat) (p3 : Nat) (p4 : Nat) (p5 : Nat) (p6 : Nat) (σ : Nat → Int) (ρ : Nat → Int) (pm : Int) (ig : Int) (mo : Int) (rd : Int) (wr : Int) (sm : Int) (r : Int) (k : Nat) (hI : inI r) (hk : k ≤ 6) (h14 : 0 ≤ σ 14 ∧ σ 14 ≤ 20000) (hl0 : ¬ (ffr (σ 14) 0 ≤ r ∧ r < σ 14)) : Cd l E yX8_log wsX8_log 2 46 0 0 [.ref a, .int (iI r), .int (iI (k : Int))] [cMod a p1 p2 p3 p4 p5 p6 pm ig mo rd wr sm, cAt E p1 σ ρ] (some (.long (iL (-1000000000000000006)))) [cMod a p1 p2 p3 p4 p5 p6 pm ig mo rd wr sm, cAt E p1 σ ρ] := by
  refine Ct.mk (cc := cX8_log) (maxL := 3) (ret := (some .long)) (plainFor_of_name (by decide)) rfl (Nat.le_of_ble_eq_true rfl) ?_
  intro p e s m below meth c A ls H locs S hr hlk hnm B hl
  have S : CallFix p m c cX8_log 3 s #[.ref a, .int (iI r), .int (iI (k : Int))] wsX8_log RX8 := S
  have hl : lv_has ls 3 [(0, .ref a), (1, .int (iI r)), (2, .int (iI (k : Int)))] := hl
  refine z_iload_n S (pc := 0) dX8_log_0 rfl (lv_at hl 2 rfl) ?_
  refine z_i2l S (pc := 1) (by omega) dX8_log_1 ?_
  refine z_lconst S (pc := 2) (x := 0) dX8_log_2 rfl ?_
  refine z_ldc2 S (pc := 3) (x := 6) (by decide +kernel) rfl dX8_log_3 ?_
  refine z_callS S (pc := 6) B (wr := [cMod a p1 p2 p3 p4 p5 p6 pm ig mo rd wr sm, cAt E p1 σ ρ]) (wn := fun _ => [cMod a p1 p2 p3 p4 p5 p6 pm ig mo rd wr sm, cAt E p1 σ ρ]) (st1 := fun _ => [.int (iI (bI (0 ≤ (k : Int) ∧ (k : Int) ≤ 6)))]) (As := [.long (iL (k : Int)), .long (iL 0), .long (iL 6)]) (mX8_in l E (k : Int) 0 6 (show inL (k : Int) from by omega) (show inL 0 from by omega) (show inL 6 from by omega)) gX8_log_X8_in 3 rfl (by decide +kernel) ⟨Nat.le_of_ble_eq_true rfl, Nat.le_of_ble_eq_true rfl, Nat.le_of_ble_eq_true rfl, Nat.le_of_ble_eq_true rfl⟩ [] [0, 1] [0, 1] rfl rfl ⟨rfl, rfl, rfl, by decide⟩ (fun _ => rfl) rfl (fun _ => rfl) hl.1 (Nat.le_of_ble_eq_true rfl) rfl dX8_log_6 (fun _ _ H locs B => ?_)
  refine z_ifne_b S (pc := 9) (tgt := 16) dX8_log_9 rfl (fun c1 => ?_) (fun c1 => absurd c1 (by omega))
  refine z_aload_n S (pc := 16) dX8_log_16 rfl (lv_at hl 0 rfl) ?_
  refine z_iload_n S (pc := 17) dX8_log_17 rfl (lv_at hl 1 rfl) ?_
  refine z_callV S (pc := 18) B (wr := []) (wn := fun _ => [cMod a p1 p2 p3 p4 p5 p6 pm ig mo rd wr sm, cAt E p1 σ ρ]) (st1 := fun _ => [.int (iI (bI (ffr (σ 14) 0 ≤ r ∧ r < σ 14)))]) (As := [.int (iI r)]) (mX8_isLogged l E a p1 p2 p3 p4 p5 p6 σ ρ pm ig mo rd wr sm r (show inI r from by omega) (show 0 ≤ σ 14 ∧ σ 14 ≤ 20000 from by omega)) gX8_log_X8_isLogged 1 rfl (by decide +kernel) ⟨Nat.le_of_ble_eq_true rfl, Nat.le_of_ble_eq_true rfl, Nat.le_of_ble_eq_true rfl, Nat.le_of_ble_eq_true rfl⟩ 0 rfl (q := (RX8, TX8, 12)) rfl rfl [0, 1] [] [0, 1] rfl rfl ⟨rfl, rfl, rfl, by decide⟩ (fun _ => rfl) rfl (fun _ => rfl) hl.1 (Nat.le_of_ble_eq_true rfl) rfl dX8_log_18 (fun _ _ H locs B => ?_)
  refine z_ifeq_b S (pc := 21) (tgt := 44) dX8_log_21 rfl (fun c2 => ?_) (fun c2 => absurd c2 (by omega))
  refine z_ldc2 S (pc := 44) (x := (-1000000000000000006)) (by decide +kernel) rfl dX8_log_44 ?_
  exact z_lreturn S hr hlk B () trivial rfl rfl (pc := 47) dX8_log_47
set_option maxHeartbeats 4000000 in
set_option maxRecDepth 100000 in
theorem mX8_log_b (l : Launch) (E : gT) (a : Nat) (p1 : Nat) (p2 : Nat) (p3 : Nat) (p4 : Nat) (p5 : Nat) (p6 : Nat) (σ : Nat → Int) (ρ : Nat → Int) (pm : Int) (ig : Int) (mo : Int) (rd : Int) (wr : Int) (sm : Int) (r : Int) (k : Int) (hI : inI r ∧ inI k) (hbad : (k < 0 ∨ 6 < k)) : Cd l E yX8_log wsX8_log 2 46 0 0 [.ref a, .int (iI r), .int (iI k)] [cMod a p1 p2 p3 p4 p5 p6 pm ig mo rd wr sm] (some (.long (iL (-1000000000000000002)))) [cMod a p1 p2 p3 p4 p5 p6 pm ig mo rd wr sm] := by
  refine Ct.mk (cc := cX8_log) (maxL := 3) (ret := (some .long)) (plainFor_of_name (by decide)) rfl (Nat.le_of_ble_eq_true rfl) ?_
  intro p e s m below meth c A ls H locs S hr hlk hnm B hl
  have S : CallFix p m c cX8_log 3 s #[.ref a, .int (iI r), .int (iI k)] wsX8_log RX8 := S
  have hl : lv_has ls 3 [(0, .ref a), (1, .int (iI r)), (2, .int (iI k))] := hl
  refine z_iload_n S (pc := 0) dX8_log_0 rfl (lv_at hl 2 rfl) ?_
  refine z_i2l S (pc := 1) (by omega) dX8_log_1 ?_
  refine z_lconst S (pc := 2) (x := 0) dX8_log_2 rfl ?_
  refine z_ldc2 S (pc := 3) (x := 6) (by decide +kernel) rfl dX8_log_3 ?_
  refine z_callS S (pc := 6) B (wr := [cMod a p1 p2 p3 p4 p5 p6 pm ig mo rd wr sm]) (wn := fun _ => [cMod a p1 p2 p3 p4 p5 p6 pm ig mo rd wr sm]) (st1 := fun _ => [.int (iI (bI (0 ≤ k ∧ k ≤ 6)))]) (As := [.long (iL k), .long (iL 0), .long (iL 6)]) (mX8_in l E k 0 6 (show inL k from by omega) (show inL 0 from by omega) (show inL 6 from by omega)) gX8_log_X8_in 3 rfl (by decide +kernel) ⟨Nat.le_of_ble_eq_true rfl, Nat.le_of_ble_eq_true rfl, Nat.le_of_ble_eq_true rfl, Nat.le_of_ble_eq_true rfl⟩ [] [0] [0] rfl rfl ⟨rfl, rfl, rfl, by decide⟩ (fun _ => rfl) rfl (fun _ => rfl) hl.1 (Nat.le_of_ble_eq_true rfl) rfl dX8_log_6 (fun _ _ H locs B => ?_)
  refine z_ifne_b S (pc := 9) (tgt := 16) dX8_log_9 rfl (fun c1 => absurd c1 (by omega)) (fun c1 => ?_)
  refine z_ldc2 S (pc := 12) (x := (-1000000000000000002)) (by decide +kernel) rfl dX8_log_12 ?_
  exact z_lreturn S hr hlk B () trivial rfl rfl (pc := 15) dX8_log_15
theorem iX8_latest_X8 : ∀ w ∈ wsX80, w ∈ wsX8_latest := by decide +kernel
set_option maxHeartbeats 4000000 in
set_option maxRecDepth 100000 in
theorem mX8_latest (l : Launch) (E : gT) (a : Nat) (p1 : Nat) (p2 : Nat) (p3 : Nat) (p4 : Nat) (p5 : Nat) (p6 : Nat) (σ : Nat → Int) (ρ : Nat → Int) (pm : Int) (ig : Int) (mo : Int) (rd : Int) (wr : Int) (sm : Int) (k : Int) (hv : 0 ≤ k ∧ k ≤ 6) (h22 : σ 22 = 1) : Cd l E yX8_latest wsX8_latest 1 25 0 0 [.ref a, .int (iI k)] [cMod a p1 p2 p3 p4 p5 p6 pm ig mo rd wr sm, cAt E p1 σ ρ] (some (.long (iL (σ (15 + k.toNat))))) [cMod a p1 p2 p3 p4 p5 p6 pm ig mo rd wr sm, cAt E p1 σ ρ] := by
  refine Ct.mk (cc := cX8_latest) (maxL := 2) (ret := (some .long)) (plainFor_of_name (by decide)) rfl (Nat.le_of_ble_eq_true rfl) ?_
  intro p e s m below meth c A ls H locs S hr hlk hnm B hl
  have S : CallFix p m c cX8_latest 2 s #[.ref a, .int (iI k)] wsX8_latest RX8 := S
  have hl : lv_has ls 2 [(0, .ref a), (1, .int (iI k))] := hl
  refine z_iload_n S (pc := 0) dX8_latest_0 rfl (lv_at hl 1 rfl) ?_
  refine z_i2l S (pc := 1) (by omega) dX8_latest_1 ?_
  refine z_lconst S (pc := 2) (x := 0) dX8_latest_2 rfl ?_
  refine z_ldc2 S (pc := 3) (x := 6) (by decide +kernel) rfl dX8_latest_3 ?_
  refine z_callS S (pc := 6) B (wr := [cMod a p1 p2 p3 p4 p5 p6 pm ig mo rd wr sm, cAt E p1 σ ρ]) (wn := fun _ => [cMod a p1 p2 p3 p4 p5 p6 pm ig mo rd wr sm, cAt E p1 σ ρ]) (st1 := fun _ => [.int (iI (bI (0 ≤ k ∧ k ≤ 6)))]) (As := [.long (iL k), .long (iL 0), .long (iL 6)]) (mX8_in l E k 0 6 (show inL k from by omega) (show inL 0 from by omega) (show inL 6 from by omega)) gX8_latest_X8_in 3 rfl (by decide +kernel) ⟨Nat.le_of_ble_eq_true rfl, Nat.le_of_ble_eq_true rfl, Nat.le_of_ble_eq_true rfl, Nat.le_of_ble_eq_true rfl⟩ [] [0, 1] [0, 1] rfl rfl ⟨rfl, rfl, rfl, by decide⟩ (fun _ => rfl) rfl (fun _ => rfl) hl.1 (Nat.le_of_ble_eq_true rfl) rfl dX8_latest_6 (fun _ _ H locs B => ?_)
  refine z_ifne_b S (pc := 9) (tgt := 16) dX8_latest_9 rfl (fun c1 => ?_) (fun c1 => absurd c1 (by omega))
  refine z_aload_n S (pc := 16) dX8_latest_16 rfl (lv_at hl 0 rfl) ?_
  refine z_get S (pc := 17) B iX8_latest_X8 0 rfl rfl 0 (by decide) rfl rfl (by decide +kernel) dX8_latest_17 ?_
  refine z_bipush S (pc := 20) dX8_latest_20 rfl ?_
  refine z_lald S (pc := 22) B 1 2 rfl rfl (k := 22) rfl (by decide) (by decide) (v := .long (iL (σ 22))) rfl dX8_latest_22 ?_
  refine z_lconst S (pc := 23) (x := 1) dX8_latest_23 rfl ?_
  refine z_lc_ne S (pc := 24) (tgt := 40) (by omega) (by omega) dX8_latest_24 dX8_latest_25 rfl (fun c2 => absurd c2 (by omega)) (fun c2 => ?_)
  refine z_aload_n S (pc := 28) dX8_latest_28 rfl (lv_at hl 0 rfl) ?_
  refine z_get S (pc := 29) B iX8_latest_X8 0 rfl rfl 0 (by decide) rfl rfl (by decide +kernel) dX8_latest_29 ?_
  refine z_bipush S (pc := 32) dX8_latest_32 rfl ?_
  refine z_iload_n S (pc := 34) dX8_latest_34 rfl (lv_at hl 1 rfl) ?_
  refine z_iadd S (pc := 35) dX8_latest_35 ?_
  refine z_lald S (pc := 36) B 1 2 rfl rfl (k := 15 + k.toNat) (by omega) (by omega) (by decide) (v := .long (iL (σ (15 + k.toNat)))) (by rw [lat_lo (by omega)]) dX8_latest_36 ?_
  refine lv_goto S.1 S.2.1 (pc := 37) (tgt := 43) dX8_latest_37 rfl ?_
  exact z_lreturn S hr hlk B () trivial rfl rfl (pc := 43) dX8_latest_43
set_option maxHeartbeats 4000000 in
set_option maxRecDepth 100000 in
theorem mX8_latest_m (l : Launch) (E : gT) (a : Nat) (p1 : Nat) (p2 : Nat) (p3 : Nat) (p4 : Nat) (p5 : Nat) (p6 : Nat) (σ : Nat → Int) (ρ : Nat → Int) (pm : Int) (ig : Int) (mo : Int) (rd : Int) (wr : Int) (sm : Int) (k : Int) (hv : 0 ≤ k ∧ k ≤ 6) (h22 : σ 22 = 0) : Cd l E yX8_latest wsX8_latest 1 25 0 0 [.ref a, .int (iI k)] [cMod a p1 p2 p3 p4 p5 p6 pm ig mo rd wr sm, cAt E p1 σ ρ] (some (.long (iL (-1000000000000000005)))) [cMod a p1 p2 p3 p4 p5 p6 pm ig mo rd wr sm, cAt E p1 σ ρ] := by
  refine Ct.mk (cc := cX8_latest) (maxL := 2) (ret := (some .long)) (plainFor_of_name (by decide)) rfl (Nat.le_of_ble_eq_true rfl) ?_
  intro p e s m below meth c A ls H locs S hr hlk hnm B hl
  have S : CallFix p m c cX8_latest 2 s #[.ref a, .int (iI k)] wsX8_latest RX8 := S
  have hl : lv_has ls 2 [(0, .ref a), (1, .int (iI k))] := hl
  refine z_iload_n S (pc := 0) dX8_latest_0 rfl (lv_at hl 1 rfl) ?_
  refine z_i2l S (pc := 1) (by omega) dX8_latest_1 ?_
  refine z_lconst S (pc := 2) (x := 0) dX8_latest_2 rfl ?_
  refine z_ldc2 S (pc := 3) (x := 6) (by decide +kernel) rfl dX8_latest_3 ?_
  refine z_callS S (pc := 6) B (wr := [cMod a p1 p2 p3 p4 p5 p6 pm ig mo rd wr sm, cAt E p1 σ ρ]) (wn := fun _ => [cMod a p1 p2 p3 p4 p5 p6 pm ig mo rd wr sm, cAt E p1 σ ρ]) (st1 := fun _ => [.int (iI (bI (0 ≤ k ∧ k ≤ 6)))]) (As := [.long (iL k), .long (iL 0), .long (iL 6)]) (mX8_in l E k 0 6 (show inL k from by omega) (show inL 0 from by omega) (show inL 6 from by omega)) gX8_latest_X8_in 3 rfl (by decide +kernel) ⟨Nat.le_of_ble_eq_true rfl, Nat.le_of_ble_eq_true rfl, Nat.le_of_ble_eq_true rfl, Nat.le_of_ble_eq_true rfl⟩ [] [0, 1] [0, 1] rfl rfl ⟨rfl, rfl, rfl, by decide⟩ (fun _ => rfl) rfl (fun _ => rfl) hl.1 (Nat.le_of_ble_eq_true rfl) rfl dX8_latest_6 (fun _ _ H locs B => ?_)
  refine z_ifne_b S (pc := 9) (tgt := 16) dX8_latest_9 rfl (fun c1 => ?_) (fun c1 => absurd c1 (by omega))
  refine z_aload_n S (pc := 16) dX8_latest_16 rfl (lv_at hl 0 rfl) ?_
  refine z_get S (pc := 17) B iX8_latest_X8 0 rfl rfl 0 (by decide) rfl rfl (by decide +kernel) dX8_latest_17 ?_
  refine z_bipush S (pc := 20) dX8_latest_20 rfl ?_
  refine z_lald S (pc := 22) B 1 2 rfl rfl (k := 22) rfl (by decide) (by decide) (v := .long (iL (σ 22))) rfl dX8_latest_22 ?_
  refine z_lconst S (pc := 23) (x := 1) dX8_latest_23 rfl ?_
  refine z_lc_ne S (pc := 24) (tgt := 40) (by omega) (by omega) dX8_latest_24 dX8_latest_25 rfl (fun c2 => ?_) (fun c2 => absurd c2 (by omega))
  refine z_ldc2 S (pc := 40) (x := (-1000000000000000005)) (by decide +kernel) rfl dX8_latest_40 ?_
  exact z_lreturn S hr hlk B () trivial rfl rfl (pc := 43) dX8_latest_43
set_option maxHeartbeats 4000000 in
set_option maxRecDepth 100000 in
theorem mX8_latest_b (l : Launch) (E : gT) (a : Nat) (p1 : Nat) (p2 : Nat) (p3 : Nat) (p4 : Nat) (p5 : Nat) (p6 : Nat) (σ : Nat → Int) (ρ : Nat → Int) (pm : Int) (ig : Int) (mo : Int) (rd : Int) (wr : Int) (sm : Int) (k : Int) (hI : inI k) (hbad : (k < 0 ∨ 6 < k)) : Cd l E yX8_latest wsX8_latest 1 25 0 0 [.ref a, .int (iI k)] [cMod a p1 p2 p3 p4 p5 p6 pm ig mo rd wr sm] (some (.long (iL (-1000000000000000002)))) [cMod a p1 p2 p3 p4 p5 p6 pm ig mo rd wr sm] := by
  refine Ct.mk (cc := cX8_latest) (maxL := 2) (ret := (some .long)) (plainFor_of_name (by decide)) rfl (Nat.le_of_ble_eq_true rfl) ?_
  intro p e s m below meth c A ls H locs S hr hlk hnm B hl
  have S : CallFix p m c cX8_latest 2 s #[.ref a, .int (iI k)] wsX8_latest RX8 := S
  have hl : lv_has ls 2 [(0, .ref a), (1, .int (iI k))] := hl
  refine z_iload_n S (pc := 0) dX8_latest_0 rfl (lv_at hl 1 rfl) ?_
  refine z_i2l S (pc := 1) (by omega) dX8_latest_1 ?_
  refine z_lconst S (pc := 2) (x := 0) dX8_latest_2 rfl ?_
  refine z_ldc2 S (pc := 3) (x := 6) (by decide +kernel) rfl dX8_latest_3 ?_
  refine z_callS S (pc := 6) B (wr := [cMod a p1 p2 p3 p4 p5 p6 pm ig mo rd wr sm]) (wn := fun _ => [cMod a p1 p2 p3 p4 p5 p6 pm ig mo rd wr sm]) (st1 := fun _ => [.int (iI (bI (0 ≤ k ∧ k ≤ 6)))]) (As := [.long (iL k), .long (iL 0), .long (iL 6)]) (mX8_in l E k 0 6 (show inL k from by omega) (show inL 0 from by omega) (show inL 6 from by omega)) gX8_latest_X8_in 3 rfl (by decide +kernel) ⟨Nat.le_of_ble_eq_true rfl, Nat.le_of_ble_eq_true rfl, Nat.le_of_ble_eq_true rfl, Nat.le_of_ble_eq_true rfl⟩ [] [0] [0] rfl rfl ⟨rfl, rfl, rfl, by decide⟩ (fun _ => rfl) rfl (fun _ => rfl) hl.1 (Nat.le_of_ble_eq_true rfl) rfl dX8_latest_6 (fun _ _ H locs B => ?_)
  refine z_ifne_b S (pc := 9) (tgt := 16) dX8_latest_9 rfl (fun c1 => absurd c1 (by omega)) (fun c1 => ?_)
  refine z_ldc2 S (pc := 12) (x := (-1000000000000000002)) (by decide +kernel) rfl dX8_latest_12 ?_
  exact z_lreturn S hr hlk B () trivial rfl rfl (pc := 15) dX8_latest_15
theorem iX8_count_X8 : ∀ w ∈ wsX80, w ∈ wsX8_count := by decide +kernel
set_option maxHeartbeats 4000000 in
set_option maxRecDepth 100000 in
theorem mX8_count_0 (l : Launch) (E : gT) (a : Nat) (p1 : Nat) (p2 : Nat) (p3 : Nat) (p4 : Nat) (p5 : Nat) (p6 : Nat) (σ : Nat → Int) (ρ : Nat → Int) (pm : Int) (ig : Int) (mo : Int) (rd : Int) (wr : Int) (sm : Int)  : Cd l E yX8_count wsX8_count 0 0 0 0 [.ref a, .int (iI 0)] [cMod a p1 p2 p3 p4 p5 p6 pm ig mo rd wr sm, cAt E p1 σ ρ] (some (.int (iI (σ 11)))) [cMod a p1 p2 p3 p4 p5 p6 pm ig mo rd wr sm, cAt E p1 σ ρ] := by
  refine Ct.mk (cc := cX8_count) (maxL := 2) (ret := (some .int)) (plainFor_of_name (by decide)) rfl (Nat.le_of_ble_eq_true rfl) ?_
  intro p e s m below meth c A ls H locs S hr hlk hnm B hl
  have S : CallFix p m c cX8_count 2 s #[.ref a, .int (iI 0)] wsX8_count RX8 := S
  have hl : lv_has ls 2 [(0, .ref a), (1, .int (iI 0))] := hl
  refine z_iload_n S (pc := 0) dX8_count_0 rfl (lv_at hl 1 rfl) ?_
  · refine z_tsw S (pc := 1) (tgt := 40) (by omega) dX8_count_1 (by omega) rfl rfl ?_
    refine z_aload_n S (pc := 40) dX8_count_40 rfl (lv_at hl 0 rfl) ?_
    refine z_get S (pc := 41) B iX8_count_X8 0 rfl rfl 0 (by decide) rfl rfl (by decide +kernel) dX8_count_41 ?_
    refine z_bipush S (pc := 44) dX8_count_44 rfl ?_
    refine z_lald S (pc := 46) B 1 2 rfl rfl (k := 11) rfl (by decide) (by decide) (v := .long (iL (σ 11))) rfl dX8_count_46 ?_
    refine z_l2i S (pc := 47) dX8_count_47 ?_
    exact z_ireturn S hr hlk B () trivial rfl rfl (pc := 48) dX8_count_48
set_option maxHeartbeats 4000000 in
set_option maxRecDepth 100000 in
theorem mX8_count_1 (l : Launch) (E : gT) (a : Nat) (p1 : Nat) (p2 : Nat) (p3 : Nat) (p4 : Nat) (p5 : Nat) (p6 : Nat) (σ : Nat → Int) (ρ : Nat → Int) (pm : Int) (ig : Int) (mo : Int) (rd : Int) (wr : Int) (sm : Int)  : Cd l E yX8_count wsX8_count 0 0 0 0 [.ref a, .int (iI 1)] [cMod a p1 p2 p3 p4 p5 p6 pm ig mo rd wr sm, cAt E p1 σ ρ] (some (.int (iI (σ 14)))) [cMod a p1 p2 p3 p4 p5 p6 pm ig mo rd wr sm, cAt E p1 σ ρ] := by
  refine Ct.mk (cc := cX8_count) (maxL := 2) (ret := (some .int)) (plainFor_of_name (by decide)) rfl (Nat.le_of_ble_eq_true rfl) ?_
  intro p e s m below meth c A ls H locs S hr hlk hnm B hl
  have S : CallFix p m c cX8_count 2 s #[.ref a, .int (iI 1)] wsX8_count RX8 := S
  have hl : lv_has ls 2 [(0, .ref a), (1, .int (iI 1))] := hl
  refine z_iload_n S (pc := 0) dX8_count_0 rfl (lv_at hl 1 rfl) ?_
  · refine z_tsw S (pc := 1) (tgt := 49) (by omega) dX8_count_1 (by omega) rfl rfl ?_
    refine z_aload_n S (pc := 49) dX8_count_49 rfl (lv_at hl 0 rfl) ?_
    refine z_get S (pc := 50) B iX8_count_X8 0 rfl rfl 0 (by decide) rfl rfl (by decide +kernel) dX8_count_50 ?_
    refine z_bipush S (pc := 53) dX8_count_53 rfl ?_
    refine z_lald S (pc := 55) B 1 2 rfl rfl (k := 14) rfl (by decide) (by decide) (v := .long (iL (σ 14))) rfl dX8_count_55 ?_
    refine z_l2i S (pc := 56) dX8_count_56 ?_
    exact z_ireturn S hr hlk B () trivial rfl rfl (pc := 57) dX8_count_57
set_option maxHeartbeats 4000000 in
set_option maxRecDepth 100000 in
theorem mX8_count_2 (l : Launch) (E : gT) (a : Nat) (p1 : Nat) (p2 : Nat) (p3 : Nat) (p4 : Nat) (p5 : Nat) (p6 : Nat) (σ : Nat → Int) (ρ : Nat → Int) (pm : Int) (ig : Int) (mo : Int) (rd : Int) (wr : Int) (sm : Int)  : Cd l E yX8_count wsX8_count 0 0 0 0 [.ref a, .int (iI 2)] [cMod a p1 p2 p3 p4 p5 p6 pm ig mo rd wr sm, cAt E p1 σ ρ] (some (.int (iI (σ 0 + 10000000)))) [cMod a p1 p2 p3 p4 p5 p6 pm ig mo rd wr sm, cAt E p1 σ ρ] := by
  refine Ct.mk (cc := cX8_count) (maxL := 2) (ret := (some .int)) (plainFor_of_name (by decide)) rfl (Nat.le_of_ble_eq_true rfl) ?_
  intro p e s m below meth c A ls H locs S hr hlk hnm B hl
  have S : CallFix p m c cX8_count 2 s #[.ref a, .int (iI 2)] wsX8_count RX8 := S
  have hl : lv_has ls 2 [(0, .ref a), (1, .int (iI 2))] := hl
  refine z_iload_n S (pc := 0) dX8_count_0 rfl (lv_at hl 1 rfl) ?_
  · refine z_tsw S (pc := 1) (tgt := 58) (by omega) dX8_count_1 (by omega) rfl rfl ?_
    refine z_aload_n S (pc := 58) dX8_count_58 rfl (lv_at hl 0 rfl) ?_
    refine z_get S (pc := 59) B iX8_count_X8 0 rfl rfl 0 (by decide) rfl rfl (by decide +kernel) dX8_count_59 ?_
    refine z_iconst S (pc := 62) dX8_count_62 ?_
    refine z_lald S (pc := 63) B 1 2 rfl rfl (k := 0) rfl (by decide) (by decide) (v := .long (iL (σ 0))) rfl dX8_count_63 ?_
    refine z_l2i S (pc := 64) dX8_count_64 ?_
    refine z_ldc S (pc := 65) (x := 10000000) (by decide +kernel) rfl dX8_count_65 ?_
    refine z_iadd S (pc := 67) dX8_count_67 ?_
    exact z_ireturn S hr hlk B () trivial rfl rfl (pc := 68) dX8_count_68
set_option maxHeartbeats 4000000 in
set_option maxRecDepth 100000 in
theorem mX8_count_3 (l : Launch) (E : gT) (a : Nat) (p1 : Nat) (p2 : Nat) (p3 : Nat) (p4 : Nat) (p5 : Nat) (p6 : Nat) (σ : Nat → Int) (ρ : Nat → Int) (pm : Int) (ig : Int) (mo : Int) (rd : Int) (wr : Int) (sm : Int)  : Cd l E yX8_count wsX8_count 0 0 0 0 [.ref a, .int (iI 3)] [cMod a p1 p2 p3 p4 p5 p6 pm ig mo rd wr sm, cAt E p1 σ ρ] (some (.int (iI (σ 12 + 10000000)))) [cMod a p1 p2 p3 p4 p5 p6 pm ig mo rd wr sm, cAt E p1 σ ρ] := by
  refine Ct.mk (cc := cX8_count) (maxL := 2) (ret := (some .int)) (plainFor_of_name (by decide)) rfl (Nat.le_of_ble_eq_true rfl) ?_
  intro p e s m below meth c A ls H locs S hr hlk hnm B hl
  have S : CallFix p m c cX8_count 2 s #[.ref a, .int (iI 3)] wsX8_count RX8 := S
  have hl : lv_has ls 2 [(0, .ref a), (1, .int (iI 3))] := hl
  refine z_iload_n S (pc := 0) dX8_count_0 rfl (lv_at hl 1 rfl) ?_
  · refine z_tsw S (pc := 1) (tgt := 69) (by omega) dX8_count_1 (by omega) rfl rfl ?_
    refine z_aload_n S (pc := 69) dX8_count_69 rfl (lv_at hl 0 rfl) ?_
    refine z_get S (pc := 70) B iX8_count_X8 0 rfl rfl 0 (by decide) rfl rfl (by decide +kernel) dX8_count_70 ?_
    refine z_bipush S (pc := 73) dX8_count_73 rfl ?_
    refine z_lald S (pc := 75) B 1 2 rfl rfl (k := 12) rfl (by decide) (by decide) (v := .long (iL (σ 12))) rfl dX8_count_75 ?_
    refine z_l2i S (pc := 76) dX8_count_76 ?_
    refine z_ldc S (pc := 77) (x := 10000000) (by decide +kernel) rfl dX8_count_77 ?_
    refine z_iadd S (pc := 79) dX8_count_79 ?_
    exact z_ireturn S hr hlk B () trivial rfl rfl (pc := 80) dX8_count_80
set_option maxHeartbeats 4000000 in
set_option maxRecDepth 100000 in
theorem mX8_count_4 (l : Launch) (E : gT) (a : Nat) (p1 : Nat) (p2 : Nat) (p3 : Nat) (p4 : Nat) (p5 : Nat) (p6 : Nat) (σ : Nat → Int) (ρ : Nat → Int) (pm : Int) (ig : Int) (mo : Int) (rd : Int) (wr : Int) (sm : Int) (h8 : 0 < σ 8 ∧ σ 8 ≤ 10) : Cd l E yX8_count wsX8_count 0 0 0 0 [.ref a, .int (iI 4)] [cMod a p1 p2 p3 p4 p5 p6 pm ig mo rd wr sm, cAt E p1 σ ρ] (some (.int (iI (σ 13)))) [cMod a p1 p2 p3 p4 p5 p6 pm ig mo rd wr sm, cAt E p1 σ ρ] := by
  refine Ct.mk (cc := cX8_count) (maxL := 2) (ret := (some .int)) (plainFor_of_name (by decide)) rfl (Nat.le_of_ble_eq_true rfl) ?_
  intro p e s m below meth c A ls H locs S hr hlk hnm B hl
  have S : CallFix p m c cX8_count 2 s #[.ref a, .int (iI 4)] wsX8_count RX8 := S
  have hl : lv_has ls 2 [(0, .ref a), (1, .int (iI 4))] := hl
  refine z_iload_n S (pc := 0) dX8_count_0 rfl (lv_at hl 1 rfl) ?_
  · refine z_tsw S (pc := 1) (tgt := 81) (by omega) dX8_count_1 (by omega) rfl rfl ?_
    refine z_aload_n S (pc := 81) dX8_count_81 rfl (lv_at hl 0 rfl) ?_
    refine z_get S (pc := 82) B iX8_count_X8 0 rfl rfl 0 (by decide) rfl rfl (by decide +kernel) dX8_count_82 ?_
    refine z_bipush S (pc := 85) dX8_count_85 rfl ?_
    refine z_lald S (pc := 87) B 1 2 rfl rfl (k := 8) rfl (by decide) (by decide) (v := .long (iL (σ 8))) rfl dX8_count_87 ?_
    refine z_lconst S (pc := 88) (x := 0) dX8_count_88 rfl ?_
    refine z_lc_le S (pc := 89) (tgt := 104) (by omega) (by omega) dX8_count_89 dX8_count_90 rfl (fun c1 => absurd c1 (by omega)) (fun c1 => ?_)
    refine z_aload_n S (pc := 93) dX8_count_93 rfl (lv_at hl 0 rfl) ?_
    refine z_get S (pc := 94) B iX8_count_X8 0 rfl rfl 0 (by decide) rfl rfl (by decide +kernel) dX8_count_94 ?_
    refine z_bipush S (pc := 97) dX8_count_97 rfl ?_
    refine z_lald S (pc := 99) B 1 2 rfl rfl (k := 13) rfl (by decide) (by decide) (v := .long (iL (σ 13))) rfl dX8_count_99 ?_
    refine z_l2i S (pc := 100) dX8_count_100 ?_
    refine lv_goto S.1 S.2.1 (pc := 101) (tgt := 106) dX8_count_101 rfl ?_
    exact z_ireturn S hr hlk B () trivial rfl rfl (pc := 106) dX8_count_106
set_option maxHeartbeats 4000000 in
set_option maxRecDepth 100000 in
theorem mX8_count_4n (l : Launch) (E : gT) (a : Nat) (p1 : Nat) (p2 : Nat) (p3 : Nat) (p4 : Nat) (p5 : Nat) (p6 : Nat) (σ : Nat → Int) (ρ : Nat → Int) (pm : Int) (ig : Int) (mo : Int) (rd : Int) (wr : Int) (sm : Int) (h8 : σ 8 = 0) : Cd l E yX8_count wsX8_count 0 0 0 0 [.ref a, .int (iI 4)] [cMod a p1 p2 p3 p4 p5 p6 pm ig mo rd wr sm, cAt E p1 σ ρ] (some (.int (iI (-6)))) [cMod a p1 p2 p3 p4 p5 p6 pm ig mo rd wr sm, cAt E p1 σ ρ] := by
  refine Ct.mk (cc := cX8_count) (maxL := 2) (ret := (some .int)) (plainFor_of_name (by decide)) rfl (Nat.le_of_ble_eq_true rfl) ?_
  intro p e s m below meth c A ls H locs S hr hlk hnm B hl
  have S : CallFix p m c cX8_count 2 s #[.ref a, .int (iI 4)] wsX8_count RX8 := S
  have hl : lv_has ls 2 [(0, .ref a), (1, .int (iI 4))] := hl
  refine z_iload_n S (pc := 0) dX8_count_0 rfl (lv_at hl 1 rfl) ?_
  · refine z_tsw S (pc := 1) (tgt := 81) (by omega) dX8_count_1 (by omega) rfl rfl ?_
    refine z_aload_n S (pc := 81) dX8_count_81 rfl (lv_at hl 0 rfl) ?_
    refine z_get S (pc := 82) B iX8_count_X8 0 rfl rfl 0 (by decide) rfl rfl (by decide +kernel) dX8_count_82 ?_
    refine z_bipush S (pc := 85) dX8_count_85 rfl ?_
    refine z_lald S (pc := 87) B 1 2 rfl rfl (k := 8) rfl (by decide) (by decide) (v := .long (iL (σ 8))) rfl dX8_count_87 ?_
    refine z_lconst S (pc := 88) (x := 0) dX8_count_88 rfl ?_
    refine z_lc_le S (pc := 89) (tgt := 104) (by omega) (by omega) dX8_count_89 dX8_count_90 rfl (fun c1 => ?_) (fun c1 => absurd c1 (by omega))
    refine z_bipush S (pc := 104) dX8_count_104 rfl ?_
    exact z_ireturn S hr hlk B () trivial rfl rfl (pc := 106) dX8_count_106
set_option maxHeartbeats 4000000 in
set_option maxRecDepth 100000 in
theorem mX8_count_5 (l : Launch) (E : gT) (a : Nat) (p1 : Nat) (p2 : Nat) (p3 : Nat) (p4 : Nat) (p5 : Nat) (p6 : Nat) (σ : Nat → Int) (ρ : Nat → Int) (pm : Int) (ig : Int) (mo : Int) (rd : Int) (wr : Int) (sm : Int)  : Cd l E yX8_count wsX8_count 0 0 0 0 [.ref a, .int (iI 5)] [cMod a p1 p2 p3 p4 p5 p6 pm ig mo rd wr sm] (some (.int (iI pm))) [cMod a p1 p2 p3 p4 p5 p6 pm ig mo rd wr sm] := by
  refine Ct.mk (cc := cX8_count) (maxL := 2) (ret := (some .int)) (plainFor_of_name (by decide)) rfl (Nat.le_of_ble_eq_true rfl) ?_
  intro p e s m below meth c A ls H locs S hr hlk hnm B hl
  have S : CallFix p m c cX8_count 2 s #[.ref a, .int (iI 5)] wsX8_count RX8 := S
  have hl : lv_has ls 2 [(0, .ref a), (1, .int (iI 5))] := hl
  refine z_iload_n S (pc := 0) dX8_count_0 rfl (lv_at hl 1 rfl) ?_
  · refine z_tsw S (pc := 1) (tgt := 107) (by omega) dX8_count_1 (by omega) rfl rfl ?_
    refine z_aload_n S (pc := 107) dX8_count_107 rfl (lv_at hl 0 rfl) ?_
    refine z_get S (pc := 108) B iX8_count_X8 0 rfl rfl 5 (by decide) rfl rfl (by decide +kernel) dX8_count_108 ?_
    exact z_ireturn S hr hlk B () trivial rfl rfl (pc := 111) dX8_count_111
set_option maxHeartbeats 4000000 in
set_option maxRecDepth 100000 in
theorem mX8_count_b (l : Launch) (E : gT) (a : Nat) (p1 : Nat) (p2 : Nat) (p3 : Nat) (p4 : Nat) (p5 : Nat) (p6 : Nat) (σ : Nat → Int) (ρ : Nat → Int) (pm : Int) (ig : Int) (mo : Int) (rd : Int) (wr : Int) (sm : Int) (k : Int) (hI : inI k) (hbad : (k < 0 ∨ 5 < k)) : Cd l E yX8_count wsX8_count 0 0 0 0 [.ref a, .int (iI k)] [cMod a p1 p2 p3 p4 p5 p6 pm ig mo rd wr sm] (some (.int (iI (-2)))) [cMod a p1 p2 p3 p4 p5 p6 pm ig mo rd wr sm] := by
  refine Ct.mk (cc := cX8_count) (maxL := 2) (ret := (some .int)) (plainFor_of_name (by decide)) rfl (Nat.le_of_ble_eq_true rfl) ?_
  intro p e s m below meth c A ls H locs S hr hlk hnm B hl
  have S : CallFix p m c cX8_count 2 s #[.ref a, .int (iI k)] wsX8_count RX8 := S
  have hl : lv_has ls 2 [(0, .ref a), (1, .int (iI k))] := hl
  refine z_iload_n S (pc := 0) dX8_count_0 rfl (lv_at hl 1 rfl) ?_
  · refine z_tswD S (pc := 1) (tgt := 112) (by omega) dX8_count_1 (by omega) rfl ?_
    refine z_bipush S (pc := 112) dX8_count_112 rfl ?_
    exact z_ireturn S hr hlk B () trivial rfl rfl (pc := 114) dX8_count_114
theorem matl (σ ρ : Nat → Int) (k : Nat) : lat (mat σ ρ) k = iL (mat σ ρ k) := rfl
theorem latl (f : Nat → Int) (k : Nat) : lat f k = iL (f k) := rfl
theorem up_lt {α f : Nat → Int} {k : Nat} (h : ∀ j : Nat, j < k → α j = f j) : ∀ j : Nat, j < k + 1 → up α k (f k) j = f j := fun j hj => by
  by_cases h1 : j = k
  · subst h1; exact up_s _ _ _
  · rw [up_n _ _ h1]; exact h j (by omega)
theorem up_lt2 {α f : Nat → Int} {b k : Nat} (h : ∀ j : Nat, j < k → α (b + j) = f j) : ∀ j : Nat, j < k + 1 → up α (b + k) (f k) (b + j) = f j := fun j hj => by
  by_cases h1 : j = k
  · subst h1; exact up_s _ _ _
  · rw [up_n _ _ (by omega)]; exact h j (by omega)
theorem iX8_putAside_X8 : ∀ w ∈ wsX80, w ∈ wsX8_putAside := by decide +kernel
set_option maxHeartbeats 4000000 in
set_option maxRecDepth 100000 in
theorem lpX8_putAside {p : Program} {l : Launch} {e : Env} {s : State} {m : MethodId} {args : Array Value} {below : List Frame} {meth : Method} {c : Code} {Q : State → Prop} {A : Nat → Prop} (E : gT) (S : CallFix p m c cX8_putAside 2 s args wsX8_putAside RX8) (a : Nat) (p1 : Nat) (p2 : Nat) (p3 : Nat) (p4 : Nat) (p5 : Nat) (p6 : Nat) (σ : Nat → Int) (ρ : Nat → Int) (pm : Int) (ig : Int) (mo : Int) (rd : Int) (wr : Int) (sm : Int) :
    ∀ (n k : Nat) (α : Nat → Int) (hk : k + n = 303) (hα : ∀ j : Nat, j < k → α j = mat σ ρ j) (hx : ∀ (α : Nat → Int) (hα : ∀ j : Nat, j < 303 → α j = mat σ ρ j) (H : Heap) (locs : List Loc) (ls : Array Slot), bw E A s H locs [cMod a p1 p2 p3 p4 p5 p6 pm ig mo rd wr sm, cAt E p1 σ ρ, cLon E p2 303 α] → lv_has ls 2 [(0, .ref a)] → W p l e ({ frames := 0, cells := 0, slots := 0, locals := 0 } : Room) s m args below meth c H locs 0 0 Q (F0 m 27 ls [])) (H : Heap) (locs : List Loc) (ls : Array Slot) (B : bw E A s H locs [cMod a p1 p2 p3 p4 p5 p6 pm ig mo rd wr sm, cAt E p1 σ ρ, cLon E p2 303 α]) (hl : lv_has ls 2 [(0, .ref a), (1, .int (iI (k : Int)))]), W p l e ({ frames := 0, cells := 0, slots := 0, locals := 0 } : Room) s m args below meth c H locs 0 0 Q (F0 m 2 ls []) := by
  intro n
  induction n with
  | zero =>
    intro k α hk hα hx H locs ls B hl
    refine z_iload_n S (pc := 2) dX8_putAside_2 rfl (lv_at hl 1 rfl) ?_
    refine z_sipush S (pc := 3) dX8_putAside_3 rfl ?_
    refine z_icmp_ge S (pc := 6) (tgt := 27) (by omega) (by omega) dX8_putAside_6 rfl (fun c1 => ?_) (fun c1 => absurd c1 (by omega))
    obtain rfl : k = 303 := by omega
    exact hx α hα _ _ _ B (lv_sub hl [0] rfl)
  | succ n ih =>
    intro k α hk hα hx H locs ls B hl
    refine z_iload_n S (pc := 2) dX8_putAside_2 rfl (lv_at hl 1 rfl) ?_
    refine z_sipush S (pc := 3) dX8_putAside_3 rfl ?_
    refine z_icmp_ge S (pc := 6) (tgt := 27) (by omega) (by omega) dX8_putAside_6 rfl (fun c1 => absurd c1 (by omega)) (fun c1 => ?_)
    refine z_aload_n S (pc := 9) dX8_putAside_9 rfl (lv_at hl 0 rfl) ?_
    refine z_get S (pc := 10) B iX8_putAside_X8 0 rfl rfl 1 (by decide) rfl rfl (by decide +kernel) dX8_putAside_10 ?_
    refine z_iload_n S (pc := 13) dX8_putAside_13 rfl (lv_at hl 1 rfl) ?_
    refine z_aload_n S (pc := 14) dX8_putAside_14 rfl (lv_at hl 0 rfl) ?_
    refine z_get S (pc := 15) B iX8_putAside_X8 0 rfl rfl 0 (by decide) rfl rfl (by decide +kernel) dX8_putAside_15 ?_
    refine z_iload_n S (pc := 18) dX8_putAside_18 rfl (lv_at hl 1 rfl) ?_
    refine z_lald S (pc := 19) B 1 2 rfl rfl (k := k) rfl (by omega) (by decide) (v := .long (iL (mat σ ρ k))) rfl dX8_putAside_19 ?_
    refine z_last S (pc := 20) B 2 2 rfl rfl (k := k) (by omega) (by omega) (by decide) dX8_putAside_20 (wn := [cMod a p1 p2 p3 p4 p5 p6 pm ig mo rd wr sm, cAt E p1 σ ρ, cLon E p2 303 (up α k (mat σ ρ k))]) (by rw [lat_up]; rfl) (fun H locs B => ?_)
    refine lv_iinc (v := iI ((k : Int) + 1)) (lv' := [(1, .int (iI ((k : Int) + 1))), (0, .ref a)]) S.1 S.2.1 (pc := 21) dX8_putAside_21 hl (k := 1) rfl (iI_add _ _) (by decide) rfl (fun ls hl => ?_)
    refine lv_goto S.1 S.2.1 (pc := 24) (tgt := 2) dX8_putAside_24 rfl ?_
    have e1 : (k : Int) + 1 = ((k + 1 : Nat) : Int) := by omega
    rw [e1] at hl
    exact ih (k + 1) _ (by omega) (up_lt hα) hx _ _ _ B (lv_sub hl [1, 0] rfl)
set_option maxHeartbeats 4000000 in
set_option maxRecDepth 100000 in
theorem mX8_putAside (l : Launch) (E : gT) (a : Nat) (p1 : Nat) (p2 : Nat) (p3 : Nat) (p4 : Nat) (p5 : Nat) (p6 : Nat) (σ : Nat → Int) (ρ : Nat → Int) (pm : Int) (ig : Int) (mo : Int) (rd : Int) (wr : Int) (sm : Int) (α : Nat → Int)  : Cd l E yX8_putAside wsX8_putAside 0 0 0 0 [.ref a] [cMod a p1 p2 p3 p4 p5 p6 pm ig mo rd wr sm, cAt E p1 σ ρ, cLon E p2 303 α] none [cMod a p1 p2 p3 p4 p5 p6 pm ig mo rd wr sm, cAt E p1 σ ρ, cLon E p2 303 (mat σ ρ)] := by
  refine Ct.mk (cc := cX8_putAside) (maxL := 2) (ret := none) (plainFor_of_name (by decide)) rfl (Nat.le_of_ble_eq_true rfl) ?_
  intro p e s m below meth c A ls H locs S hr hlk hnm B hl
  have S : CallFix p m c cX8_putAside 2 s #[.ref a] wsX8_putAside RX8 := S
  have hl : lv_has ls 2 [(0, .ref a)] := hl
  refine z_iconst S (pc := 0) dX8_putAside_0 ?_
  refine lv_istore_n (lv' := [(1, .int (iI 0)), (0, .ref a)]) S.1 S.2.1 (pc := 1) dX8_putAside_1 rfl hl (by decide) rfl (fun ls hl => ?_)
  refine lpX8_putAside E S a p1 p2 p3 p4 p5 p6 σ ρ pm ig mo rd wr sm 303 0 α (by omega) (fun j hj => absurd hj (by omega)) (fun α hα H locs ls B hl => ?_) _ _ _ B (lv_sub hl [1, 0] rfl)
  have B : bw E A s H locs [cMod a p1 p2 p3 p4 p5 p6 pm ig mo rd wr sm, cAt E p1 σ ρ, cLon E p2 303 (mat σ ρ)] := bw_extL B 2 (f := lat α) (g := lat (mat σ ρ)) rfl (fun k hk => by rw [latl, hα k hk]; rfl) rfl
  exact z_return S hr hlk B () trivial rfl rfl (pc := 27) dX8_putAside_27
theorem iX8_putBack_X8 : ∀ w ∈ wsX80, w ∈ wsX8_putBack := by decide +kernel
set_option maxHeartbeats 4000000 in
set_option maxRecDepth 100000 in
theorem lpX8_putBack {p : Program} {l : Launch} {e : Env} {s : State} {m : MethodId} {args : Array Value} {below : List Frame} {meth : Method} {c : Code} {Q : State → Prop} {A : Nat → Prop} (E : gT) (S : CallFix p m c cX8_putBack 2 s args wsX8_putBack RX8) (a : Nat) (p1 : Nat) (p2 : Nat) (p3 : Nat) (p4 : Nat) (p5 : Nat) (p6 : Nat) (σ : Nat → Int) (ρ : Nat → Int) (pm : Int) (ig : Int) (mo : Int) (rd : Int) (wr : Int) (sm : Int) :
    ∀ (n k : Nat) (α : Nat → Int) (hk : k + n = 303) (hα : ∀ j : Nat, j < k → α j = mat σ ρ j) (hx : ∀ (α : Nat → Int) (hα : ∀ j : Nat, j < 303 → α j = mat σ ρ j) (H : Heap) (locs : List Loc) (ls : Array Slot), bw E A s H locs [cMod a p1 p2 p3 p4 p5 p6 pm ig mo rd wr sm, cLon E p1 303 α, cLon E p2 303 (mat σ ρ)] → lv_has ls 2 [(0, .ref a)] → W p l e ({ frames := 0, cells := 0, slots := 0, locals := 0 } : Room) s m args below meth c H locs 0 0 Q (F0 m 27 ls [])) (H : Heap) (locs : List Loc) (ls : Array Slot) (B : bw E A s H locs [cMod a p1 p2 p3 p4 p5 p6 pm ig mo rd wr sm, cLon E p1 303 α, cLon E p2 303 (mat σ ρ)]) (hl : lv_has ls 2 [(0, .ref a), (1, .int (iI (k : Int)))]), W p l e ({ frames := 0, cells := 0, slots := 0, locals := 0 } : Room) s m args below meth c H locs 0 0 Q (F0 m 2 ls []) := by
  intro n
  induction n with
  | zero =>
    intro k α hk hα hx H locs ls B hl
    refine z_iload_n S (pc := 2) dX8_putBack_2 rfl (lv_at hl 1 rfl) ?_
    refine z_sipush S (pc := 3) dX8_putBack_3 rfl ?_
    refine z_icmp_ge S (pc := 6) (tgt := 27) (by omega) (by omega) dX8_putBack_6 rfl (fun c1 => ?_) (fun c1 => absurd c1 (by omega))
    obtain rfl : k = 303 := by omega
    exact hx α hα _ _ _ B (lv_sub hl [0] rfl)
  | succ n ih =>
    intro k α hk hα hx H locs ls B hl
    refine z_iload_n S (pc := 2) dX8_putBack_2 rfl (lv_at hl 1 rfl) ?_
    refine z_sipush S (pc := 3) dX8_putBack_3 rfl ?_
    refine z_icmp_ge S (pc := 6) (tgt := 27) (by omega) (by omega) dX8_putBack_6 rfl (fun c1 => absurd c1 (by omega)) (fun c1 => ?_)
    refine z_aload_n S (pc := 9) dX8_putBack_9 rfl (lv_at hl 0 rfl) ?_
    refine z_get S (pc := 10) B iX8_putBack_X8 0 rfl rfl 0 (by decide) rfl rfl (by decide +kernel) dX8_putBack_10 ?_
    refine z_iload_n S (pc := 13) dX8_putBack_13 rfl (lv_at hl 1 rfl) ?_
    refine z_aload_n S (pc := 14) dX8_putBack_14 rfl (lv_at hl 0 rfl) ?_
    refine z_get S (pc := 15) B iX8_putBack_X8 0 rfl rfl 1 (by decide) rfl rfl (by decide +kernel) dX8_putBack_15 ?_
    refine z_iload_n S (pc := 18) dX8_putBack_18 rfl (lv_at hl 1 rfl) ?_
    refine z_lald S (pc := 19) B 2 2 rfl rfl (k := k) rfl (by omega) (by decide) (v := .long (iL (mat σ ρ k))) rfl dX8_putBack_19 ?_
    refine z_last S (pc := 20) B 1 2 rfl rfl (k := k) (by omega) (by omega) (by decide) dX8_putBack_20 (wn := [cMod a p1 p2 p3 p4 p5 p6 pm ig mo rd wr sm, cLon E p1 303 (up α k (mat σ ρ k)), cLon E p2 303 (mat σ ρ)]) (by rw [lat_up]; rfl) (fun H locs B => ?_)
    refine lv_iinc (v := iI ((k : Int) + 1)) (lv' := [(1, .int (iI ((k : Int) + 1))), (0, .ref a)]) S.1 S.2.1 (pc := 21) dX8_putBack_21 hl (k := 1) rfl (iI_add _ _) (by decide) rfl (fun ls hl => ?_)
    refine lv_goto S.1 S.2.1 (pc := 24) (tgt := 2) dX8_putBack_24 rfl ?_
    have e1 : (k : Int) + 1 = ((k + 1 : Nat) : Int) := by omega
    rw [e1] at hl
    exact ih (k + 1) _ (by omega) (up_lt hα) hx _ _ _ B (lv_sub hl [1, 0] rfl)
set_option maxHeartbeats 4000000 in
set_option maxRecDepth 100000 in
theorem mX8_putBack (l : Launch) (E : gT) (a : Nat) (p1 : Nat) (p2 : Nat) (p3 : Nat) (p4 : Nat) (p5 : Nat) (p6 : Nat) (σ : Nat → Int) (ρ : Nat → Int) (pm : Int) (ig : Int) (mo : Int) (rd : Int) (wr : Int) (sm : Int) (σ2 : Nat → Int) (ρ2 : Nat → Int)  : Cd l E yX8_putBack wsX8_putBack 0 0 0 0 [.ref a] [cMod a p1 p2 p3 p4 p5 p6 pm ig mo rd wr sm, cAt E p1 σ2 ρ2, cLon E p2 303 (mat σ ρ)] none [cMod a p1 p2 p3 p4 p5 p6 pm ig mo rd wr sm, cAt E p1 σ ρ, cLon E p2 303 (mat σ ρ)] := by
  refine Ct.mk (cc := cX8_putBack) (maxL := 2) (ret := none) (plainFor_of_name (by decide)) rfl (Nat.le_of_ble_eq_true rfl) ?_
  intro p e s m below meth c A ls H locs S hr hlk hnm B hl
  have S : CallFix p m c cX8_putBack 2 s #[.ref a] wsX8_putBack RX8 := S
  have hl : lv_has ls 2 [(0, .ref a)] := hl
  refine z_iconst S (pc := 0) dX8_putBack_0 ?_
  refine lv_istore_n (lv' := [(1, .int (iI 0)), (0, .ref a)]) S.1 S.2.1 (pc := 1) dX8_putBack_1 rfl hl (by decide) rfl (fun ls hl => ?_)
  refine lpX8_putBack E S a p1 p2 p3 p4 p5 p6 σ ρ pm ig mo rd wr sm 303 0 (mat σ2 ρ2) (by omega) (fun j hj => absurd hj (by omega)) (fun α hα H locs ls B hl => ?_) _ _ _ B (lv_sub hl [1, 0] rfl)
  have B : bw E A s H locs [cMod a p1 p2 p3 p4 p5 p6 pm ig mo rd wr sm, cAt E p1 σ ρ, cLon E p2 303 (mat σ ρ)] := bw_extL B 1 (f := lat α) (g := lat (mat σ ρ)) rfl (fun k hk => by rw [latl, hα k hk]; rfl) rfl
  exact z_return S hr hlk B () trivial rfl rfl (pc := 27) dX8_putBack_27
theorem iX8_tryReading_X8 : ∀ w ∈ wsX80, w ∈ wsX8_tryReading := by decide +kernel
set_option maxHeartbeats 4000000 in
set_option maxRecDepth 100000 in
theorem mX8_tryReading (l : Launch) (E : gT) (a : Nat) (p1 : Nat) (p2 : Nat) (p3 : Nat) (p4 : Nat) (p5 : Nat) (p6 : Nat) (σ : Nat → Int) (ρ : Nat → Int) (pm : Int) (ig : Int) (mo : Int) (rd : Int) (wr : Int) (sm : Int) (α : Nat → Int) (tk : Int) (lv : Int) (hs : Sets (up (up σ 11 (σ 11 + tk)) 0 lv)) (hn : Nums σ) (h11 : 0 ≤ σ 11 ∧ σ 11 ≤ 1900000000) (htk : 0 ≤ tk ∧ tk ≤ 1000000) : Ct l E yX8_tryReading wsX8_tryReading 5 121 0 0 [.ref a, .long (iL tk), .long (iL lv)] [cMod a p1 p2 p3 p4 p5 p6 pm ig mo rd wr sm, cAt E p1 σ ρ, cLon E p2 303 α] (S0 := Int × Int) (fun u0 => True) (fun _ => (some (.long (iL (val0 (rz (up (up σ 11 (σ 11 + tk)) 0 lv))))))) (fun u0 => [cMod a p1 p2 p3 p4 p5 p6 pm u0.1 u0.2 rd wr sm, cAt E p1 σ ρ, cLon E p2 303 (mat σ ρ)]) := by
  refine Ct.mk (cc := cX8_tryReading) (maxL := 7) (ret := (some .long)) (plainFor_of_name (by decide)) rfl (Nat.le_of_ble_eq_true rfl) ?_
  intro p e s m below meth c A ls H locs S hr hlk hnm B hl
  have S : CallFix p m c cX8_tryReading 7 s #[.ref a, .long (iL tk), .long (iL lv)] wsX8_tryReading RX8 := S
  have hl : lv_has ls 7 [(0, .ref a), (1, .long (iL tk)), (3, .long (iL lv))] := hl
  refine z_aload_n S (pc := 0) dX8_tryReading_0 rfl (lv_at hl 0 rfl) ?_
  refine z_callV S (pc := 1) B (wr := []) (wn := fun _ => [cMod a p1 p2 p3 p4 p5 p6 pm ig mo rd wr sm, cAt E p1 σ ρ, cLon E p2 303 (mat σ ρ)]) (st1 := fun _ => []) (As := []) (mX8_putAside l E a p1 p2 p3 p4 p5 p6 σ ρ pm ig mo rd wr sm α ) gX8_tryReading_X8_putAside 0 rfl (by decide +kernel) ⟨Nat.le_of_ble_eq_true rfl, Nat.le_of_ble_eq_true rfl, Nat.le_of_ble_eq_true rfl, Nat.le_of_ble_eq_true rfl⟩ 0 rfl (q := (RX8, TX8, 12)) rfl rfl [0, 1, 2] [] [0, 1, 2] rfl rfl ⟨rfl, rfl, rfl, by decide⟩ (fun _ => rfl) rfl (fun _ => rfl) hl.1 (Nat.le_of_ble_eq_true rfl) rfl dX8_tryReading_1 (fun _ _ H locs B => ?_)
  refine z_aload_n S (pc := 4) dX8_tryReading_4 rfl (lv_at hl 0 rfl) ?_
  refine z_get S (pc := 5) B iX8_tryReading_X8 0 rfl rfl 0 (by decide) rfl rfl (by decide +kernel) dX8_tryReading_5 ?_
  refine z_bipush S (pc := 8) dX8_tryReading_8 rfl ?_
  refine lv_dup2_11 S.1 S.2.1 (pc := 10) dX8_tryReading_10 rfl rfl ?_
  refine z_lald S (pc := 11) B 1 2 rfl rfl (k := 11) rfl (by decide) (by decide) (v := .long (iL (σ 11))) rfl dX8_tryReading_11 ?_
  refine z_lload_n S (pc := 12) dX8_tryReading_12 rfl (lv_at hl 1 rfl) ?_
  refine z_ladd S (pc := 13) dX8_tryReading_13 ?_
  refine z_last S (pc := 14) B 1 2 rfl rfl (k := 11) rfl (by decide) (by decide) dX8_tryReading_14 (wn := [cMod a p1 p2 p3 p4 p5 p6 pm ig mo rd wr sm, cAt E p1 (up σ 11 ((σ 11) + tk)) ρ, cLon E p2 303 (mat σ ρ)]) (by rw [lmu _ _ (by decide)]; rfl) (fun H locs B => ?_)
  refine z_aload_n S (pc := 15) dX8_tryReading_15 rfl (lv_at hl 0 rfl) ?_
  refine z_get S (pc := 16) B iX8_tryReading_X8 0 rfl rfl 0 (by decide) rfl rfl (by decide +kernel) dX8_tryReading_16 ?_
  refine z_iconst S (pc := 19) dX8_tryReading_19 ?_
  refine z_lload_n S (pc := 20) dX8_tryReading_20 rfl (lv_at hl 2 rfl) ?_
  refine z_last S (pc := 21) B 1 2 rfl rfl (k := 0) rfl (by decide) (by decide) dX8_tryReading_21 (wn := [cMod a p1 p2 p3 p4 p5 p6 pm ig mo rd wr sm, cAt E p1 (up (up σ 11 ((σ 11) + tk)) 0 lv) ρ, cLon E p2 303 (mat σ ρ)]) (by rw [lmu _ _ (by decide)]; rfl) (fun H locs B => ?_)
  have hn2 : Nums (up (up σ 11 (σ 11 + tk)) 0 lv) := hn
  refine z_aload_n S (pc := 22) dX8_tryReading_22 rfl (lv_at hl 0 rfl) ?_
  refine z_callV S (pc := 23) B (wr := [cLon E p2 303 (mat σ ρ)]) (wn := fun _ => [cMod a p1 p2 p3 p4 p5 p6 pm ((cvF (rz (up (up σ 11 ((σ 11) + tk)) 0 lv)) (gn (rz (up (up σ 11 ((σ 11) + tk)) 0 lv) 10))).1) (ov0 (rz (up (up σ 11 ((σ 11) + tk)) 0 lv))) rd wr sm, cAt E p1 (rdS (up (up σ 11 ((σ 11) + tk)) 0 lv)) (rowS (up (up σ 11 ((σ 11) + tk)) 0 lv) ρ), cLon E p2 303 (mat σ ρ)]) (st1 := fun _ => [.long (iL (val0 (rz (up (up σ 11 ((σ 11) + tk)) 0 lv))))]) (As := []) (mX8_makeReading l E a p1 p2 p3 p4 p5 p6 (up (up σ 11 ((σ 11) + tk)) 0 lv) ρ pm ig mo rd wr sm (show Sets (up (up σ 11 ((σ 11) + tk)) 0 lv) from by assumption) (show Nums (up (up σ 11 ((σ 11) + tk)) 0 lv) from by assumption) (show 0 ≤ (σ 11) + tk ∧ (σ 11) + tk ≤ 2000000000 from by omega)) gX8_tryReading_X8_makeReading 0 rfl (by decide +kernel) ⟨Nat.le_of_ble_eq_true rfl, Nat.le_of_ble_eq_true rfl, Nat.le_of_ble_eq_true rfl, Nat.le_of_ble_eq_true rfl⟩ 0 rfl (q := (RX8, TX8, 12)) rfl rfl [0, 1] [2] [1, 2, 0] rfl rfl ⟨rfl, rfl, rfl, by decide⟩ (fun _ => rfl) rfl (fun _ => rfl) hl.1 (Nat.le_of_ble_eq_true rfl) rfl dX8_tryReading_23 (fun _ _ H locs B => ?_)
  refine lv_lstore (lv' := [(5, .long (iL (val0 (rz (up (up σ 11 ((σ 11) + tk)) 0 lv))))), (0, .ref a), (1, .long (iL tk)), (3, .long (iL lv))]) S.1 S.2.1 (pc := 26) dX8_tryReading_26 hl (by decide) rfl (fun ls hl => ?_)
  refine z_aload_n S (pc := 28) dX8_tryReading_28 rfl (lv_at hl 1 rfl) ?_
  refine z_callV S (pc := 29) B (wr := []) (wn := fun _ => [cMod a p1 p2 p3 p4 p5 p6 pm ((cvF (rz (up (up σ 11 ((σ 11) + tk)) 0 lv)) (gn (rz (up (up σ 11 ((σ 11) + tk)) 0 lv) 10))).1) (ov0 (rz (up (up σ 11 ((σ 11) + tk)) 0 lv))) rd wr sm, cAt E p1 σ ρ, cLon E p2 303 (mat σ ρ)]) (st1 := fun _ => []) (As := []) (mX8_putBack l E a p1 p2 p3 p4 p5 p6 σ ρ pm ((cvF (rz (up (up σ 11 ((σ 11) + tk)) 0 lv)) (gn (rz (up (up σ 11 ((σ 11) + tk)) 0 lv) 10))).1) (ov0 (rz (up (up σ 11 ((σ 11) + tk)) 0 lv))) rd wr sm (rdS (up (up σ 11 ((σ 11) + tk)) 0 lv)) (rowS (up (up σ 11 ((σ 11) + tk)) 0 lv) ρ) ) gX8_tryReading_X8_putBack 0 rfl (by decide +kernel) ⟨Nat.le_of_ble_eq_true rfl, Nat.le_of_ble_eq_true rfl, Nat.le_of_ble_eq_true rfl, Nat.le_of_ble_eq_true rfl⟩ 0 rfl (q := (RX8, TX8, 12)) rfl rfl [0, 1, 2] [] [0, 1, 2] rfl rfl ⟨rfl, rfl, rfl, by decide⟩ (fun _ => rfl) rfl (fun _ => rfl) hl.1 (Nat.le_of_ble_eq_true rfl) rfl dX8_tryReading_29 (fun _ _ H locs B => ?_)
  refine z_lload S (pc := 32) dX8_tryReading_32 (lv_at hl 0 rfl) ?_
  exact z_lreturn S hr hlk B ⟨(cvF (rz (up (up σ 11 ((σ 11) + tk)) 0 lv)) (gn (rz (up (up σ 11 ((σ 11) + tk)) 0 lv) 10))).1, ov0 (rz (up (up σ 11 ((σ 11) + tk)) 0 lv))⟩ trivial rfl rfl (pc := 34) dX8_tryReading_34
/-! END mod 3 -/
