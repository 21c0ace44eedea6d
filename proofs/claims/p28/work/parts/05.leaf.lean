set_option linter.unusedVariables false
theorem iX5_humAt_X5 : ∀ w ∈ wsX50, w ∈ wsX5_humAt := by decide +kernel
set_option maxHeartbeats 4000000 in
set_option maxRecDepth 100000 in
theorem mX5_humAt (l : Launch) (E : gT) (a : Nat) (σ : Nat → Int) (t : Int) (h1 : 0 ≤ σ 1 ∧ σ 1 ≤ 1000000) (hp : inPe (σ 2)) (ht : 0 ≤ t ∧ t ≤ 2147483647) : Cd l E yX5_humAt wsX5_humAt 0 0 0 0 [.ref a, .int (iI t)] [cSig a σ] (some (.int (iI (hum (σ 1) (σ 2) t)))) [cSig a σ] := by
  refine Ct.mk (cc := cX5_humAt) (maxL := 4) (ret := (some .int)) (plainFor_of_name (by decide)) rfl (Nat.le_of_ble_eq_true rfl) ?_
  intro p e s m below meth c A ls H locs S hr hlk hnm B hl
  have S : CallFix p m c cX5_humAt 4 s #[.ref a, .int (iI t)] wsX5_humAt RX5 := S
  have hl : lv_has ls 4 [(0, .ref a), (1, .int (iI t))] := hl
  have q1 := pe_q hp
  have q2 := rem_bd hp t
  refine z_aload_n S (pc := 0) dX5_humAt_0 rfl (lv_at hl 0 rfl) ?_
  refine z_get S (pc := 1) B iX5_humAt_X5 0 rfl rfl 2 (by decide) rfl rfl (by decide +kernel) dX5_humAt_1 ?_
  refine z_iconst S (pc := 4) dX5_humAt_4 ?_
  refine z_idivn S (pc := 5) (by omega) (by omega) dX5_humAt_5 ?_
  refine lv_istore_n (lv' := [(2, .int (iI ((σ 2) / 4))), (0, .ref a), (1, .int (iI t))]) S.1 S.2.1 (pc := 6) dX5_humAt_6 rfl hl (by decide) rfl (fun ls hl => ?_)
  refine z_iload_n S (pc := 7) dX5_humAt_7 rfl (lv_at hl 0 rfl) ?_
  refine z_if_gt S (pc := 8) (tgt := 13) (by omega) dX5_humAt_8 rfl (fun c1 => ?_) (fun c1 => absurd c1 (by omega))
  refine z_iload_n S (pc := 13) dX5_humAt_13 rfl (lv_at hl 2 rfl) ?_
  refine z_aload_n S (pc := 14) dX5_humAt_14 rfl (lv_at hl 1 rfl) ?_
  refine z_get S (pc := 15) B iX5_humAt_X5 0 rfl rfl 2 (by decide) rfl rfl (by decide +kernel) dX5_humAt_15 ?_
  refine z_iremn S (pc := 18) (by omega) (by omega) dX5_humAt_18 ?_
  refine lv_istore_n (lv' := [(3, .int (iI (t % (σ 2)))), (2, .int (iI ((σ 2) / 4))), (0, .ref a), (1, .int (iI t))]) S.1 S.2.1 (pc := 19) dX5_humAt_19 rfl hl (by decide) rfl (fun ls hl => ?_)
  refine z_iload_n S (pc := 20) dX5_humAt_20 rfl (lv_at hl 0 rfl) ?_
  refine z_iload_n S (pc := 21) dX5_humAt_21 rfl (lv_at hl 1 rfl) ?_
  refine z_icmp_ge S (pc := 22) (tgt := 34) (by omega) (by omega) dX5_humAt_22 rfl (fun c2 => ?_) (fun c2 => ?_)
  · refine z_iload_n S (pc := 34) dX5_humAt_34 rfl (lv_at hl 0 rfl) ?_
    refine z_iconst S (pc := 35) dX5_humAt_35 ?_
    refine z_iload_n S (pc := 36) dX5_humAt_36 rfl (lv_at hl 1 rfl) ?_
    refine z_imul S (pc := 37) dX5_humAt_37 ?_
    refine z_icmp_ge S (pc := 38) (tgt := 54) (by omega) (by omega) dX5_humAt_38 rfl (fun c3 => ?_) (fun c3 => ?_)
    · have m1 := mul_bd (a := σ 1) (x := t % σ 2 - 4 * (σ 2 / 4)) (M := 1000000) (X := 400) (by omega) (by omega) (by omega) (by omega)
      have m2 := tdiv_bd (a := (σ 1) * (t % σ 2 - 4 * (σ 2 / 4))) (q := σ 2 / 4) (B := 400000000) (by omega) (by omega) (by omega)
      refine z_aload_n S (pc := 54) dX5_humAt_54 rfl (lv_at hl 2 rfl) ?_
      refine z_get S (pc := 55) B iX5_humAt_X5 0 rfl rfl 1 (by decide) rfl rfl (by decide +kernel) dX5_humAt_55 ?_
      refine z_iload_n S (pc := 58) dX5_humAt_58 rfl (lv_at hl 0 rfl) ?_
      refine z_iconst S (pc := 59) dX5_humAt_59 ?_
      refine z_iload_n S (pc := 60) dX5_humAt_60 rfl (lv_at hl 1 rfl) ?_
      refine z_imul S (pc := 61) dX5_humAt_61 ?_
      refine z_isub S (pc := 62) dX5_humAt_62 ?_
      refine z_imul S (pc := 63) dX5_humAt_63 ?_
      refine z_iload_n S (pc := 64) dX5_humAt_64 rfl (lv_at hl 1 rfl) ?_
      refine z_idiv S (pc := 65) (by omega) (by omega) (by omega) (by omega) dX5_humAt_65 ?_
      exact z_ireturn S hr hlk B () trivial (by unfold hum; first | rw [if_pos (by omega)] | rw [if_neg (by omega), if_pos (by omega)] | rw [if_neg (by omega), if_neg (by omega)]) rfl (pc := 66) dX5_humAt_66
    · have m1 := mul_bd (a := σ 1) (x := 2 * (σ 2 / 4) - t % σ 2) (M := 1000000) (X := 400) (by omega) (by omega) (by omega) (by omega)
      have m2 := tdiv_bd (a := (σ 1) * (2 * (σ 2 / 4) - t % σ 2)) (q := σ 2 / 4) (B := 400000000) (by omega) (by omega) (by omega)
      refine z_aload_n S (pc := 41) dX5_humAt_41 rfl (lv_at hl 2 rfl) ?_
      refine z_get S (pc := 42) B iX5_humAt_X5 0 rfl rfl 1 (by decide) rfl rfl (by decide +kernel) dX5_humAt_42 ?_
      refine z_iconst S (pc := 45) dX5_humAt_45 ?_
      refine z_iload_n S (pc := 46) dX5_humAt_46 rfl (lv_at hl 1 rfl) ?_
      refine z_imul S (pc := 47) dX5_humAt_47 ?_
      refine z_iload_n S (pc := 48) dX5_humAt_48 rfl (lv_at hl 0 rfl) ?_
      refine z_isub S (pc := 49) dX5_humAt_49 ?_
      refine z_imul S (pc := 50) dX5_humAt_50 ?_
      refine z_iload_n S (pc := 51) dX5_humAt_51 rfl (lv_at hl 1 rfl) ?_
      refine z_idiv S (pc := 52) (by omega) (by omega) (by omega) (by omega) dX5_humAt_52 ?_
      exact z_ireturn S hr hlk B () trivial (by unfold hum; first | rw [if_pos (by omega)] | rw [if_neg (by omega), if_pos (by omega)] | rw [if_neg (by omega), if_neg (by omega)]) rfl (pc := 53) dX5_humAt_53
  · have m1 := mul_bd (a := σ 1) (x := t % σ 2) (M := 1000000) (X := 400) (by omega) (by omega) (by omega) (by omega)
    have m2 := tdiv_bd (a := (σ 1) * (t % σ 2)) (q := σ 2 / 4) (B := 400000000) (by omega) (by omega) (by omega)
    refine z_aload_n S (pc := 25) dX5_humAt_25 rfl (lv_at hl 2 rfl) ?_
    refine z_get S (pc := 26) B iX5_humAt_X5 0 rfl rfl 1 (by decide) rfl rfl (by decide +kernel) dX5_humAt_26 ?_
    refine z_iload_n S (pc := 29) dX5_humAt_29 rfl (lv_at hl 0 rfl) ?_
    refine z_imul S (pc := 30) dX5_humAt_30 ?_
    refine z_iload_n S (pc := 31) dX5_humAt_31 rfl (lv_at hl 1 rfl) ?_
    refine z_idiv S (pc := 32) (by omega) (by omega) (by omega) (by omega) dX5_humAt_32 ?_
    exact z_ireturn S hr hlk B () trivial (by unfold hum; first | rw [if_pos (by omega)] | rw [if_neg (by omega), if_pos (by omega)] | rw [if_neg (by omega), if_neg (by omega)]) rfl (pc := 33) dX5_humAt_33
theorem iX5_inputAt_X5 : ∀ w ∈ wsX50, w ∈ wsX5_inputAt := by decide +kernel
set_option maxHeartbeats 4000000 in
set_option maxRecDepth 100000 in
theorem mX5_inputAt (l : Launch) (E : gT) (a : Nat) (σ : Nat → Int) (t : Int) (g : Int) (h0 : -4000000 ≤ σ 0 ∧ σ 0 ≤ 4000000) (h1 : 0 ≤ σ 1 ∧ σ 1 ≤ 1000000) (hp : inPe (σ 2)) (ht : 0 ≤ t ∧ t ≤ 2147483647) (hg : 0 ≤ g ∧ g ≤ 1000) : Cd l E yX5_inputAt wsX5_inputAt 1 23 0 0 [.ref a, .int (iI t), .int (iI g)] [cSig a σ] (some (.long (iL (inpg (σ 0) (σ 1) (σ 2) t g)))) [cSig a σ] := by
  refine Ct.mk (cc := cX5_inputAt) (maxL := 3) (ret := (some .long)) (plainFor_of_name (by decide)) rfl (Nat.le_of_ble_eq_true rfl) ?_
  intro p e s m below meth c A ls H locs S hr hlk hnm B hl
  have S : CallFix p m c cX5_inputAt 3 s #[.ref a, .int (iI t), .int (iI g)] wsX5_inputAt RX5 := S
  have hl : lv_has ls 3 [(0, .ref a), (1, .int (iI t)), (2, .int (iI g))] := hl
  have hb := hum_bd (t := t) h1 hp
  have m1 := mul_bd2 (a := σ 0 + hum (σ 1) (σ 2) t) (x := g) (M := 5000000) (X := 1000) (by omega) (by omega) (by omega) (by omega)
  refine z_aload_n S (pc := 0) dX5_inputAt_0 rfl (lv_at hl 0 rfl) ?_
  refine z_get S (pc := 1) B iX5_inputAt_X5 0 rfl rfl 0 (by decide) rfl rfl (by decide +kernel) dX5_inputAt_1 ?_
  refine z_aload_n S (pc := 4) dX5_inputAt_4 rfl (lv_at hl 0 rfl) ?_
  refine z_iload_n S (pc := 5) dX5_inputAt_5 rfl (lv_at hl 1 rfl) ?_
  refine z_callV S (pc := 6) B (wr := []) (wn := fun _ => [cSig a σ]) (st1 := fun _ => [.int (iI (hum (σ 1) (σ 2) t)), .int (iI (σ 0))]) (As := [.int (iI t)]) (mX5_humAt l E a σ t (show 0 ≤ σ 1 ∧ σ 1 ≤ 1000000 from by omega) (show inPe (σ 2) from by omega) (show 0 ≤ t ∧ t ≤ 2147483647 from by omega)) gX5_inputAt_X5_humAt 1 rfl (by decide +kernel) ⟨Nat.le_of_ble_eq_true rfl, Nat.le_of_ble_eq_true rfl, Nat.le_of_ble_eq_true rfl, Nat.le_of_ble_eq_true rfl⟩ 0 rfl (q := (RX5, TX5, 5)) rfl rfl [0] [] [0] rfl rfl ⟨rfl, rfl, rfl, by decide⟩ (fun _ => rfl) rfl (fun _ => rfl) hl.1 (Nat.le_of_ble_eq_true rfl) rfl dX5_inputAt_6 (fun _ _ H locs B => ?_)
  refine z_iadd S (pc := 9) dX5_inputAt_9 ?_
  refine z_i2l S (pc := 10) (by omega) dX5_inputAt_10 ?_
  refine z_iload_n S (pc := 11) dX5_inputAt_11 rfl (lv_at hl 2 rfl) ?_
  refine z_i2l S (pc := 12) (by omega) dX5_inputAt_12 ?_
  refine z_lmul S (pc := 13) dX5_inputAt_13 ?_
  refine z_ldc2 S (pc := 14) (x := 2500000) (by decide +kernel) rfl dX5_inputAt_14 ?_
  refine z_callSN S (pc := 17) B (wr := [cSig a σ]) (wn := fun _ => [cSig a σ]) (st1 := fun _ => [.long (iL (lim (((σ 0) + (hum (σ 1) (σ 2) t)) * g) 2500000))]) (As := [.long (iL (((σ 0) + (hum (σ 1) (σ 2) t)) * g)), .long (iL 2500000)]) (mX7_limited l E (((σ 0) + (hum (σ 1) (σ 2) t)) * g) 2500000 (show inL (((σ 0) + (hum (σ 1) (σ 2) t)) * g) from by omega) (show 0 ≤ 2500000 ∧ 2500000 ≤ 1000000000 from by omega)) gX5_inputAt_X7_limited_n33 (by decide +kernel) (by decide +kernel) (by decide +kernel) 2 rfl (by decide +kernel) ⟨Nat.le_of_ble_eq_true rfl, Nat.le_of_ble_eq_true rfl, Nat.le_of_ble_eq_true rfl, Nat.le_of_ble_eq_true rfl⟩ [] [0] [0] rfl rfl ⟨rfl, rfl, rfl, by decide⟩ (fun _ => rfl) rfl (fun _ => rfl) hl.1 (Nat.le_of_ble_eq_true rfl) rfl dX5_inputAt_17 (fun _ _ H locs B => ?_)
  exact z_lreturn S hr hlk B () trivial rfl rfl (pc := 20) dX5_inputAt_20
theorem iX5_offsetAt_X5 : ∀ w ∈ wsX50, w ∈ wsX5_offsetAt := by decide +kernel
set_option maxHeartbeats 4000000 in
set_option maxRecDepth 100000 in
theorem mX5_offsetAt (l : Launch) (E : gT) (a : Nat) (σ : Nat → Int) (t : Int) (h3 : -100000 ≤ σ 3 ∧ σ 3 ≤ 100000) (h4 : -1000 ≤ σ 4 ∧ σ 4 ≤ 1000) (ht : 0 ≤ t ∧ t ≤ 2147483647) : Cd l E yX5_offsetAt wsX5_offsetAt 1 23 0 0 [.ref a, .int (iI t)] [cSig a σ] (some (.long (iL (offs (σ 3) (σ 4) t)))) [cSig a σ] := by
  refine Ct.mk (cc := cX5_offsetAt) (maxL := 2) (ret := (some .long)) (plainFor_of_name (by decide)) rfl (Nat.le_of_ble_eq_true rfl) ?_
  intro p e s m below meth c A ls H locs S hr hlk hnm B hl
  have S : CallFix p m c cX5_offsetAt 2 s #[.ref a, .int (iI t)] wsX5_offsetAt RX5 := S
  have hl : lv_has ls 2 [(0, .ref a), (1, .int (iI t))] := hl
  have m1 := mul_bd2 (a := σ 4) (x := t) (M := 1000) (X := 2147483647) (by omega) (by omega) (by omega) (by omega)
  have m2 := tdiv_bd (a := σ 4 * t) (q := 1000) (B := 2147483647000) (by omega) (by omega) (by omega)
  refine z_aload_n S (pc := 0) dX5_offsetAt_0 rfl (lv_at hl 0 rfl) ?_
  refine z_get S (pc := 1) B iX5_offsetAt_X5 0 rfl rfl 3 (by decide) rfl rfl (by decide +kernel) dX5_offsetAt_1 ?_
  refine z_i2l S (pc := 4) (by omega) dX5_offsetAt_4 ?_
  refine z_aload_n S (pc := 5) dX5_offsetAt_5 rfl (lv_at hl 0 rfl) ?_
  refine z_get S (pc := 6) B iX5_offsetAt_X5 0 rfl rfl 4 (by decide) rfl rfl (by decide +kernel) dX5_offsetAt_6 ?_
  refine z_i2l S (pc := 9) (by omega) dX5_offsetAt_9 ?_
  refine z_iload_n S (pc := 10) dX5_offsetAt_10 rfl (lv_at hl 1 rfl) ?_
  refine z_i2l S (pc := 11) (by omega) dX5_offsetAt_11 ?_
  refine z_lmul S (pc := 12) dX5_offsetAt_12 ?_
  refine z_ldc2 S (pc := 13) (x := 1000) (by decide +kernel) rfl dX5_offsetAt_13 ?_
  refine z_ldiv S (pc := 16) (by omega) (by omega) (by omega) (by omega) dX5_offsetAt_16 ?_
  refine z_ladd S (pc := 17) dX5_offsetAt_17 ?_
  refine z_ldc2 S (pc := 18) (x := 500000) (by decide +kernel) rfl dX5_offsetAt_18 ?_
  refine z_callSN S (pc := 21) B (wr := [cSig a σ]) (wn := fun _ => [cSig a σ]) (st1 := fun _ => [.long (iL (lim ((σ 3) + (((σ 4) * t).tdiv 1000)) 500000))]) (As := [.long (iL ((σ 3) + (((σ 4) * t).tdiv 1000))), .long (iL 500000)]) (mX7_limited l E ((σ 3) + (((σ 4) * t).tdiv 1000)) 500000 (show inL ((σ 3) + (((σ 4) * t).tdiv 1000)) from by omega) (show 0 ≤ 500000 ∧ 500000 ≤ 1000000000 from by omega)) gX5_offsetAt_X7_limited_n33 (by decide +kernel) (by decide +kernel) (by decide +kernel) 2 rfl (by decide +kernel) ⟨Nat.le_of_ble_eq_true rfl, Nat.le_of_ble_eq_true rfl, Nat.le_of_ble_eq_true rfl, Nat.le_of_ble_eq_true rfl⟩ [] [0] [0] rfl rfl ⟨rfl, rfl, rfl, by decide⟩ (fun _ => rfl) rfl (fun _ => rfl) hl.1 (Nat.le_of_ble_eq_true rfl) rfl dX5_offsetAt_21 (fun _ _ H locs B => ?_)
  exact z_lreturn S hr hlk B () trivial rfl rfl (pc := 24) dX5_offsetAt_24
theorem iX4_valueOf_X4 : ∀ w ∈ wsX40, w ∈ wsX4_valueOf := by decide +kernel
set_option maxHeartbeats 4000000 in
set_option maxRecDepth 100000 in
theorem mX4_valueOf (l : Launch) (E : gT) (a : Nat) (σ : Nat → Int) (v : Int) (hv : 0 ≤ v ∧ v ≤ 5) : Cd l E yX4_valueOf wsX4_valueOf 0 0 0 0 [.ref a, .int (iI v)] [cSet a σ] (some (.int (iI (σ (5 + v.toNat))))) [cSet a σ] := by
  refine Ct.mk (cc := cX4_valueOf) (maxL := 2) (ret := (some .int)) (plainFor_of_name (by decide)) rfl (Nat.le_of_ble_eq_true rfl) ?_
  intro p e s m below meth c A ls H locs S hr hlk hnm B hl
  have S : CallFix p m c cX4_valueOf 2 s #[.ref a, .int (iI v)] wsX4_valueOf RX4 := S
  have hl : lv_has ls 2 [(0, .ref a), (1, .int (iI v))] := hl
  refine z_iload_n S (pc := 0) dX4_valueOf_0 rfl (lv_at hl 1 rfl) ?_
  rcases (show v = 0 ∨ v = 1 ∨ v = 2 ∨ v = 3 ∨ v = 4 ∨ v = 5 from by omega) with rfl | rfl | rfl | rfl | rfl | rfl
  · refine z_tsw S (pc := 1) (tgt := 36) (by omega) dX4_valueOf_1 (by omega) rfl rfl ?_
    refine z_aload_n S (pc := 36) dX4_valueOf_36 rfl (lv_at hl 0 rfl) ?_
    refine z_get S (pc := 37) B iX4_valueOf_X4 0 rfl rfl 0 (by decide) rfl rfl (by decide +kernel) dX4_valueOf_37 ?_
    exact z_ireturn S hr hlk B () trivial rfl rfl (pc := 40) dX4_valueOf_40
  · refine z_tsw S (pc := 1) (tgt := 41) (by omega) dX4_valueOf_1 (by omega) rfl rfl ?_
    refine z_aload_n S (pc := 41) dX4_valueOf_41 rfl (lv_at hl 0 rfl) ?_
    refine z_get S (pc := 42) B iX4_valueOf_X4 0 rfl rfl 1 (by decide) rfl rfl (by decide +kernel) dX4_valueOf_42 ?_
    exact z_ireturn S hr hlk B () trivial rfl rfl (pc := 45) dX4_valueOf_45
  · refine z_tsw S (pc := 1) (tgt := 46) (by omega) dX4_valueOf_1 (by omega) rfl rfl ?_
    refine z_aload_n S (pc := 46) dX4_valueOf_46 rfl (lv_at hl 0 rfl) ?_
    refine z_get S (pc := 47) B iX4_valueOf_X4 0 rfl rfl 2 (by decide) rfl rfl (by decide +kernel) dX4_valueOf_47 ?_
    exact z_ireturn S hr hlk B () trivial rfl rfl (pc := 50) dX4_valueOf_50
  · refine z_tsw S (pc := 1) (tgt := 51) (by omega) dX4_valueOf_1 (by omega) rfl rfl ?_
    refine z_aload_n S (pc := 51) dX4_valueOf_51 rfl (lv_at hl 0 rfl) ?_
    refine z_get S (pc := 52) B iX4_valueOf_X4 0 rfl rfl 3 (by decide) rfl rfl (by decide +kernel) dX4_valueOf_52 ?_
    exact z_ireturn S hr hlk B () trivial rfl rfl (pc := 55) dX4_valueOf_55
  · refine z_tsw S (pc := 1) (tgt := 56) (by omega) dX4_valueOf_1 (by omega) rfl rfl ?_
    refine z_aload_n S (pc := 56) dX4_valueOf_56 rfl (lv_at hl 0 rfl) ?_
    refine z_get S (pc := 57) B iX4_valueOf_X4 0 rfl rfl 4 (by decide) rfl rfl (by decide +kernel) dX4_valueOf_57 ?_
    exact z_ireturn S hr hlk B () trivial rfl rfl (pc := 60) dX4_valueOf_60
  · refine z_tswD S (pc := 1) (tgt := 61) (by omega) dX4_valueOf_1 (by omega) rfl ?_
    refine z_aload_n S (pc := 61) dX4_valueOf_61 rfl (lv_at hl 0 rfl) ?_
    refine z_get S (pc := 62) B iX4_valueOf_X4 0 rfl rfl 5 (by decide) rfl rfl (by decide +kernel) dX4_valueOf_62 ?_
    exact z_ireturn S hr hlk B () trivial rfl rfl (pc := 65) dX4_valueOf_65
theorem iX4_change_X4 : ∀ w ∈ wsX40, w ∈ wsX4_change := by decide +kernel
set_option maxHeartbeats 4000000 in
set_option maxRecDepth 100000 in
theorem mX4_change (l : Launch) (E : gT) (a : Nat) (σ : Nat → Int) (v : Int) (x : Int) (hv : 0 ≤ v ∧ v ≤ 5) : Cd l E yX4_change wsX4_change 0 0 0 0 [.ref a, .int (iI v), .int (iI x)] [cSet a σ] none [cSet a (up σ (5 + v.toNat) x)] := by
  refine Ct.mk (cc := cX4_change) (maxL := 3) (ret := none) (plainFor_of_name (by decide)) rfl (Nat.le_of_ble_eq_true rfl) ?_
  intro p e s m below meth c A ls H locs S hr hlk hnm B hl
  have S : CallFix p m c cX4_change 3 s #[.ref a, .int (iI v), .int (iI x)] wsX4_change RX4 := S
  have hl : lv_has ls 3 [(0, .ref a), (1, .int (iI v)), (2, .int (iI x))] := hl
  refine z_iload_n S (pc := 0) dX4_change_0 rfl (lv_at hl 1 rfl) ?_
  rcases (show v = 0 ∨ v = 1 ∨ v = 2 ∨ v = 3 ∨ v = 4 ∨ v = 5 from by omega) with rfl | rfl | rfl | rfl | rfl | rfl
  · refine z_tsw S (pc := 1) (tgt := 36) (by omega) dX4_change_1 (by omega) rfl rfl ?_
    refine z_aload_n S (pc := 36) dX4_change_36 rfl (lv_at hl 0 rfl) ?_
    refine z_iload_n S (pc := 37) dX4_change_37 rfl (lv_at hl 2 rfl) ?_
    refine z_put S (pc := 38) B iX4_change_X4 tyX4_ok nmX4 0 rfl rfl 0 (by decide) rfl (by decide +kernel) (ty := .int) (by decide +kernel) rfl rfl (Nat.le_of_ble_eq_true rfl) dX4_change_38 (wn := [(a, .inr (4, [.int (iI x), .int (iI (σ 6)), .int (iI (σ 7)), .int (iI (σ 8)), .int (iI (σ 9)), .int (iI (σ 10))]))]) rfl (fun H locs B => ?_)
    refine lv_goto S.1 S.2.1 (pc := 41) (tgt := 81) dX4_change_41 rfl ?_
    exact z_return S hr hlk B () trivial rfl rfl (pc := 81) dX4_change_81
  · refine z_tsw S (pc := 1) (tgt := 44) (by omega) dX4_change_1 (by omega) rfl rfl ?_
    refine z_aload_n S (pc := 44) dX4_change_44 rfl (lv_at hl 0 rfl) ?_
    refine z_iload_n S (pc := 45) dX4_change_45 rfl (lv_at hl 2 rfl) ?_
    refine z_put S (pc := 46) B iX4_change_X4 tyX4_ok nmX4 0 rfl rfl 1 (by decide) rfl (by decide +kernel) (ty := .int) (by decide +kernel) rfl rfl (Nat.le_of_ble_eq_true rfl) dX4_change_46 (wn := [(a, .inr (4, [.int (iI (σ 5)), .int (iI x), .int (iI (σ 7)), .int (iI (σ 8)), .int (iI (σ 9)), .int (iI (σ 10))]))]) rfl (fun H locs B => ?_)
    refine lv_goto S.1 S.2.1 (pc := 49) (tgt := 81) dX4_change_49 rfl ?_
    exact z_return S hr hlk B () trivial rfl rfl (pc := 81) dX4_change_81
  · refine z_tsw S (pc := 1) (tgt := 52) (by omega) dX4_change_1 (by omega) rfl rfl ?_
    refine z_aload_n S (pc := 52) dX4_change_52 rfl (lv_at hl 0 rfl) ?_
    refine z_iload_n S (pc := 53) dX4_change_53 rfl (lv_at hl 2 rfl) ?_
    refine z_put S (pc := 54) B iX4_change_X4 tyX4_ok nmX4 0 rfl rfl 2 (by decide) rfl (by decide +kernel) (ty := .int) (by decide +kernel) rfl rfl (Nat.le_of_ble_eq_true rfl) dX4_change_54 (wn := [(a, .inr (4, [.int (iI (σ 5)), .int (iI (σ 6)), .int (iI x), .int (iI (σ 8)), .int (iI (σ 9)), .int (iI (σ 10))]))]) rfl (fun H locs B => ?_)
    refine lv_goto S.1 S.2.1 (pc := 57) (tgt := 81) dX4_change_57 rfl ?_
    exact z_return S hr hlk B () trivial rfl rfl (pc := 81) dX4_change_81
  · refine z_tsw S (pc := 1) (tgt := 60) (by omega) dX4_change_1 (by omega) rfl rfl ?_
    refine z_aload_n S (pc := 60) dX4_change_60 rfl (lv_at hl 0 rfl) ?_
    refine z_iload_n S (pc := 61) dX4_change_61 rfl (lv_at hl 2 rfl) ?_
    refine z_put S (pc := 62) B iX4_change_X4 tyX4_ok nmX4 0 rfl rfl 3 (by decide) rfl (by decide +kernel) (ty := .int) (by decide +kernel) rfl rfl (Nat.le_of_ble_eq_true rfl) dX4_change_62 (wn := [(a, .inr (4, [.int (iI (σ 5)), .int (iI (σ 6)), .int (iI (σ 7)), .int (iI x), .int (iI (σ 9)), .int (iI (σ 10))]))]) rfl (fun H locs B => ?_)
    refine lv_goto S.1 S.2.1 (pc := 65) (tgt := 81) dX4_change_65 rfl ?_
    exact z_return S hr hlk B () trivial rfl rfl (pc := 81) dX4_change_81
  · refine z_tsw S (pc := 1) (tgt := 68) (by omega) dX4_change_1 (by omega) rfl rfl ?_
    refine z_aload_n S (pc := 68) dX4_change_68 rfl (lv_at hl 0 rfl) ?_
    refine z_iload_n S (pc := 69) dX4_change_69 rfl (lv_at hl 2 rfl) ?_
    refine z_put S (pc := 70) B iX4_change_X4 tyX4_ok nmX4 0 rfl rfl 4 (by decide) rfl (by decide +kernel) (ty := .int) (by decide +kernel) rfl rfl (Nat.le_of_ble_eq_true rfl) dX4_change_70 (wn := [(a, .inr (4, [.int (iI (σ 5)), .int (iI (σ 6)), .int (iI (σ 7)), .int (iI (σ 8)), .int (iI x), .int (iI (σ 10))]))]) rfl (fun H locs B => ?_)
    refine lv_goto S.1 S.2.1 (pc := 73) (tgt := 81) dX4_change_73 rfl ?_
    exact z_return S hr hlk B () trivial rfl rfl (pc := 81) dX4_change_81
  · refine z_tswD S (pc := 1) (tgt := 76) (by omega) dX4_change_1 (by omega) rfl ?_
    refine z_aload_n S (pc := 76) dX4_change_76 rfl (lv_at hl 0 rfl) ?_
    refine z_iload_n S (pc := 77) dX4_change_77 rfl (lv_at hl 2 rfl) ?_
    refine z_put S (pc := 78) B iX4_change_X4 tyX4_ok nmX4 0 rfl rfl 5 (by decide) rfl (by decide +kernel) (ty := .int) (by decide +kernel) rfl rfl (Nat.le_of_ble_eq_true rfl) dX4_change_78 (wn := [(a, .inr (4, [.int (iI (σ 5)), .int (iI (σ 6)), .int (iI (σ 7)), .int (iI (σ 8)), .int (iI (σ 9)), .int (iI x)]))]) rfl (fun H locs B => ?_)
    exact z_return S hr hlk B () trivial rfl rfl (pc := 81) dX4_change_81
theorem iX4_beginsSlot_X4 : ∀ w ∈ wsX40, w ∈ wsX4_beginsSlot := by decide +kernel
set_option maxHeartbeats 4000000 in
set_option maxRecDepth 100000 in
theorem mX4_beginsSlot (l : Launch) (E : gT) (a : Nat) (σ : Nat → Int) (k : Int) (h6 : 1 ≤ σ 6 ∧ σ 6 ≤ 50) (h7 : 0 ≤ σ 7 ∧ σ 7 ≤ 1) (hk : 0 ≤ k ∧ k ≤ 1000) : Cd l E yX4_beginsSlot wsX4_beginsSlot 0 0 0 0 [.ref a, .int (iI k)] [cSet a σ] (some (.int (iI (bI (σ 7 = 1 ∧ k % (σ 6) = 0))))) [cSet a σ] := by
  refine Ct.mk (cc := cX4_beginsSlot) (maxL := 2) (ret := (some .boolean)) (plainFor_of_name (by decide)) rfl (Nat.le_of_ble_eq_true rfl) ?_
  intro p e s m below meth c A ls H locs S hr hlk hnm B hl
  have S : CallFix p m c cX4_beginsSlot 2 s #[.ref a, .int (iI k)] wsX4_beginsSlot RX4 := S
  have hl : lv_has ls 2 [(0, .ref a), (1, .int (iI k))] := hl
  have q1 : 0 ≤ k % σ 6 ∧ k % σ 6 < σ 6 := ⟨Int.emod_nonneg k (by omega), Int.emod_lt_of_pos k (by omega)⟩
  refine z_aload_n S (pc := 0) dX4_beginsSlot_0 rfl (lv_at hl 0 rfl) ?_
  refine z_get S (pc := 1) B iX4_beginsSlot_X4 0 rfl rfl 2 (by decide) rfl rfl (by decide +kernel) dX4_beginsSlot_1 ?_
  refine z_iconst S (pc := 4) dX4_beginsSlot_4 ?_
  refine z_icmp_ne S (pc := 5) (tgt := 28) (by omega) (by omega) dX4_beginsSlot_5 rfl (fun c1 => ?_) (fun c1 => ?_)
  · refine z_iconst S (pc := 28) dX4_beginsSlot_28 ?_
    exact z_zreturn S (by omega) hr hlk B () trivial (by rw [bI_f (by omega)]) rfl (pc := 29) dX4_beginsSlot_29
  · refine z_aload_n S (pc := 8) dX4_beginsSlot_8 rfl (lv_at hl 0 rfl) ?_
    refine z_get S (pc := 9) B iX4_beginsSlot_X4 0 rfl rfl 1 (by decide) rfl rfl (by decide +kernel) dX4_beginsSlot_9 ?_
    refine z_if_le S (pc := 12) (tgt := 28) (by omega) dX4_beginsSlot_12 rfl (fun c2 => absurd c2 (by omega)) (fun c2 => ?_)
    refine z_iload_n S (pc := 15) dX4_beginsSlot_15 rfl (lv_at hl 1 rfl) ?_
    refine z_aload_n S (pc := 16) dX4_beginsSlot_16 rfl (lv_at hl 0 rfl) ?_
    refine z_get S (pc := 17) B iX4_beginsSlot_X4 0 rfl rfl 1 (by decide) rfl rfl (by decide +kernel) dX4_beginsSlot_17 ?_
    refine z_iremn S (pc := 20) (by omega) (by omega) dX4_beginsSlot_20 ?_
    refine z_if_ne S (pc := 21) (tgt := 28) (by omega) dX4_beginsSlot_21 rfl (fun c3 => ?_) (fun c3 => ?_)
    · refine z_iconst S (pc := 28) dX4_beginsSlot_28 ?_
      exact z_zreturn S (by omega) hr hlk B () trivial (by rw [bI_f (by omega)]) rfl (pc := 29) dX4_beginsSlot_29
    · refine z_iconst S (pc := 24) dX4_beginsSlot_24 ?_
      refine lv_goto S.1 S.2.1 (pc := 25) (tgt := 29) dX4_beginsSlot_25 rfl ?_
      exact z_zreturn S (by omega) hr hlk B () trivial (by rw [bI_t (by omega)]) rfl (pc := 29) dX4_beginsSlot_29
theorem iX0_begin_X0 : ∀ w ∈ wsX00, w ∈ wsX0_begin := by decide +kernel
set_option maxHeartbeats 4000000 in
set_option maxRecDepth 100000 in
theorem mX0_begin (l : Launch) (E : gT) (a : Nat) (σ : Nat → Int) (ov : Int)  : Cd l E yX0_begin wsX0_begin 0 0 0 0 [.ref a] [cCon a σ ov] none [(a, .inr (0, [.int (iI 1), .int (iI ov), .int (iI (σ 15)), .int (iI 0), .int (iI 0), .int (iI 0), .int (iI 0), .long (iL 0), .long (iL 0)]))] := by
  refine Ct.mk (cc := cX0_begin) (maxL := 1) (ret := none) (plainFor_of_name (by decide)) rfl (Nat.le_of_ble_eq_true rfl) ?_
  intro p e s m below meth c A ls H locs S hr hlk hnm B hl
  have S : CallFix p m c cX0_begin 1 s #[.ref a] wsX0_begin RX0 := S
  have hl : lv_has ls 1 [(0, .ref a)] := hl
  refine z_aload_n S (pc := 0) dX0_begin_0 rfl (lv_at hl 0 rfl) ?_
  refine z_iconst S (pc := 1) dX0_begin_1 ?_
  refine z_put S (pc := 2) B iX0_begin_X0 tyX0_ok nmX0 0 rfl rfl 0 (by decide) rfl (by decide +kernel) (ty := .boolean) (by decide +kernel) rfl rfl (Nat.le_of_ble_eq_true rfl) dX0_begin_2 (wn := [(a, .inr (0, [.int (iI 1), .int (iI ov), .int (iI (σ 15)), .int (iI (σ 16)), .int (iI (σ 17)), .int (iI (σ 18)), .int (iI (σ 19)), .long (iL (σ 20)), .long (iL (σ 21))]))]) rfl (fun H locs B => ?_)
  refine z_aload_n S (pc := 5) dX0_begin_5 rfl (lv_at hl 0 rfl) ?_
  refine z_iconst S (pc := 6) dX0_begin_6 ?_
  refine z_put S (pc := 7) B iX0_begin_X0 tyX0_ok nmX0 0 rfl rfl 3 (by decide) rfl (by decide +kernel) (ty := .int) (by decide +kernel) rfl rfl (Nat.le_of_ble_eq_true rfl) dX0_begin_7 (wn := [(a, .inr (0, [.int (iI 1), .int (iI ov), .int (iI (σ 15)), .int (iI 0), .int (iI (σ 17)), .int (iI (σ 18)), .int (iI (σ 19)), .long (iL (σ 20)), .long (iL (σ 21))]))]) rfl (fun H locs B => ?_)
  refine z_aload_n S (pc := 10) dX0_begin_10 rfl (lv_at hl 0 rfl) ?_
  refine z_iconst S (pc := 11) dX0_begin_11 ?_
  refine z_put S (pc := 12) B iX0_begin_X0 tyX0_ok nmX0 0 rfl rfl 4 (by decide) rfl (by decide +kernel) (ty := .int) (by decide +kernel) rfl rfl (Nat.le_of_ble_eq_true rfl) dX0_begin_12 (wn := [(a, .inr (0, [.int (iI 1), .int (iI ov), .int (iI (σ 15)), .int (iI 0), .int (iI 0), .int (iI (σ 18)), .int (iI (σ 19)), .long (iL (σ 20)), .long (iL (σ 21))]))]) rfl (fun H locs B => ?_)
  refine z_aload_n S (pc := 15) dX0_begin_15 rfl (lv_at hl 0 rfl) ?_
  refine z_iconst S (pc := 16) dX0_begin_16 ?_
  refine z_put S (pc := 17) B iX0_begin_X0 tyX0_ok nmX0 0 rfl rfl 5 (by decide) rfl (by decide +kernel) (ty := .int) (by decide +kernel) rfl rfl (Nat.le_of_ble_eq_true rfl) dX0_begin_17 (wn := [(a, .inr (0, [.int (iI 1), .int (iI ov), .int (iI (σ 15)), .int (iI 0), .int (iI 0), .int (iI 0), .int (iI (σ 19)), .long (iL (σ 20)), .long (iL (σ 21))]))]) rfl (fun H locs B => ?_)
  refine z_aload_n S (pc := 20) dX0_begin_20 rfl (lv_at hl 0 rfl) ?_
  refine z_iconst S (pc := 21) dX0_begin_21 ?_
  refine z_put S (pc := 22) B iX0_begin_X0 tyX0_ok nmX0 0 rfl rfl 6 (by decide) rfl (by decide +kernel) (ty := .int) (by decide +kernel) rfl rfl (Nat.le_of_ble_eq_true rfl) dX0_begin_22 (wn := [(a, .inr (0, [.int (iI 1), .int (iI ov), .int (iI (σ 15)), .int (iI 0), .int (iI 0), .int (iI 0), .int (iI 0), .long (iL (σ 20)), .long (iL (σ 21))]))]) rfl (fun H locs B => ?_)
  refine z_aload_n S (pc := 25) dX0_begin_25 rfl (lv_at hl 0 rfl) ?_
  refine z_lconst S (pc := 26) (x := 0) dX0_begin_26 rfl ?_
  refine z_put S (pc := 27) B iX0_begin_X0 tyX0_ok nmX0 0 rfl rfl 7 (by decide) rfl (by decide +kernel) (ty := .long) (by decide +kernel) rfl rfl (Nat.le_of_ble_eq_true rfl) dX0_begin_27 (wn := [(a, .inr (0, [.int (iI 1), .int (iI ov), .int (iI (σ 15)), .int (iI 0), .int (iI 0), .int (iI 0), .int (iI 0), .long (iL 0), .long (iL (σ 21))]))]) rfl (fun H locs B => ?_)
  refine z_aload_n S (pc := 30) dX0_begin_30 rfl (lv_at hl 0 rfl) ?_
  refine z_lconst S (pc := 31) (x := 0) dX0_begin_31 rfl ?_
  refine z_put S (pc := 32) B iX0_begin_X0 tyX0_ok nmX0 0 rfl rfl 8 (by decide) rfl (by decide +kernel) (ty := .long) (by decide +kernel) rfl rfl (Nat.le_of_ble_eq_true rfl) dX0_begin_32 (wn := [(a, .inr (0, [.int (iI 1), .int (iI ov), .int (iI (σ 15)), .int (iI 0), .int (iI 0), .int (iI 0), .int (iI 0), .long (iL 0), .long (iL 0)]))]) rfl (fun H locs B => ?_)
  exact z_return S hr hlk B () trivial rfl rfl (pc := 35) dX0_begin_35
theorem iX0_sign_X0 : ∀ w ∈ wsX00, w ∈ wsX0_sign := by decide +kernel
set_option maxHeartbeats 4000000 in
set_option maxRecDepth 100000 in
theorem mX0_sign (l : Launch) (E : gT) (a : Nat) (σ : Nat → Int) (ov : Int) (hx : inL (σ 21)) : Cd l E yX0_sign wsX0_sign 0 0 0 0 [.ref a] [cCon a σ ov] (some (.int (iI (sg (σ 21))))) [cCon a σ ov] := by
  refine Ct.mk (cc := cX0_sign) (maxL := 1) (ret := (some .int)) (plainFor_of_name (by decide)) rfl (Nat.le_of_ble_eq_true rfl) ?_
  intro p e s m below meth c A ls H locs S hr hlk hnm B hl
  have S : CallFix p m c cX0_sign 1 s #[.ref a] wsX0_sign RX0 := S
  have hl : lv_has ls 1 [(0, .ref a)] := hl
  refine z_aload_n S (pc := 0) dX0_sign_0 rfl (lv_at hl 0 rfl) ?_
  refine z_get S (pc := 1) B iX0_sign_X0 0 rfl rfl 8 (by decide) rfl rfl (by decide +kernel) dX0_sign_1 ?_
  refine z_lconst S (pc := 4) (x := 0) dX0_sign_4 rfl ?_
  refine z_lc_le S (pc := 5) (tgt := 11) (by omega) (by omega) dX0_sign_5 dX0_sign_6 rfl (fun c1 => ?_) (fun c1 => ?_)
  · refine z_aload_n S (pc := 11) dX0_sign_11 rfl (lv_at hl 0 rfl) ?_
    refine z_get S (pc := 12) B iX0_sign_X0 0 rfl rfl 8 (by decide) rfl rfl (by decide +kernel) dX0_sign_12 ?_
    refine z_lconst S (pc := 15) (x := 0) dX0_sign_15 rfl ?_
    refine z_lc_ge S (pc := 16) (tgt := 24) (by omega) (by omega) dX0_sign_16 dX0_sign_17 rfl (fun c2 => ?_) (fun c2 => ?_)
    · refine z_iconst S (pc := 24) dX0_sign_24 ?_
      exact z_ireturn S hr hlk B () trivial (by unfold sg; first | rw [if_pos (by omega)] | rw [if_neg (by omega), if_pos (by omega)] | rw [if_neg (by omega), if_neg (by omega)]) rfl (pc := 25) dX0_sign_25
    · refine z_iconst S (pc := 20) dX0_sign_20 ?_
      refine lv_goto S.1 S.2.1 (pc := 21) (tgt := 25) dX0_sign_21 rfl ?_
      exact z_ireturn S hr hlk B () trivial (by unfold sg; first | rw [if_pos (by omega)] | rw [if_neg (by omega), if_pos (by omega)] | rw [if_neg (by omega), if_neg (by omega)]) rfl (pc := 25) dX0_sign_25
  · refine z_iconst S (pc := 9) dX0_sign_9 ?_
    exact z_ireturn S hr hlk B () trivial (by unfold sg; first | rw [if_pos (by omega)] | rw [if_neg (by omega), if_pos (by omega)] | rw [if_neg (by omega), if_neg (by omega)]) rfl (pc := 10) dX0_sign_10
theorem iX0_tick_X0 : ∀ w ∈ wsX00, w ∈ wsX0_tick := by decide +kernel
set_option maxHeartbeats 4000000 in
set_option maxRecDepth 100000 in
theorem mX0_tick (l : Launch) (E : gT) (a : Nat) (σ : Nat → Int) (ov : Int) (x : Int) (hx : -1000000000000 ≤ σ 21 ∧ σ 21 ≤ 1000000000000) (hy : -1000000000000 ≤ x ∧ x ≤ 1000000000000) (hp : 0 ≤ σ 20 ∧ σ 20 ≤ 2000000000000) : Cd l E yX0_tick wsX0_tick 0 0 0 0 [.ref a, .long (iL x)] [cCon a σ ov] none [(a, .inr (0, [.int (iI (σ 22)), .int (iI ov), .int (iI (σ 15)), .int (iI (σ 16)), .int (iI (σ 17)), .int (iI (σ 18)), .int (iI (σ 19)), .long (iL (mx (σ 20) (σ 21 + x))), .long (iL (σ 21 + x))]))] := by
  refine Ct.mk (cc := cX0_tick) (maxL := 5) (ret := none) (plainFor_of_name (by decide)) rfl (Nat.le_of_ble_eq_true rfl) ?_
  intro p e s m below meth c A ls H locs S hr hlk hnm B hl
  have S : CallFix p m c cX0_tick 5 s #[.ref a, .long (iL x)] wsX0_tick RX0 := S
  have hl : lv_has ls 5 [(0, .ref a), (1, .long (iL x))] := hl
  refine z_aload_n S (pc := 0) dX0_tick_0 rfl (lv_at hl 0 rfl) ?_
  refine lv_dup S.1 S.2.1 (pc := 1) dX0_tick_1 rfl ?_
  refine z_get S (pc := 2) B iX0_tick_X0 0 rfl rfl 8 (by decide) rfl rfl (by decide +kernel) dX0_tick_2 ?_
  refine z_lload_n S (pc := 5) dX0_tick_5 rfl (lv_at hl 1 rfl) ?_
  refine z_ladd S (pc := 6) dX0_tick_6 ?_
  refine z_put S (pc := 7) B iX0_tick_X0 tyX0_ok nmX0 0 rfl rfl 8 (by decide) rfl (by decide +kernel) (ty := .long) (by decide +kernel) rfl rfl (Nat.le_of_ble_eq_true rfl) dX0_tick_7 (wn := [(a, .inr (0, [.int (iI (σ 22)), .int (iI ov), .int (iI (σ 15)), .int (iI (σ 16)), .int (iI (σ 17)), .int (iI (σ 18)), .int (iI (σ 19)), .long (iL (σ 20)), .long (iL ((σ 21) + x))]))]) rfl (fun H locs B => ?_)
  refine z_aload_n S (pc := 10) dX0_tick_10 rfl (lv_at hl 0 rfl) ?_
  refine z_get S (pc := 11) B iX0_tick_X0 0 rfl rfl 8 (by decide) rfl rfl (by decide +kernel) dX0_tick_11 ?_
  refine z_lconst S (pc := 14) (x := 0) dX0_tick_14 rfl ?_
  refine z_lc_ge S (pc := 15) (tgt := 27) (by omega) (by omega) dX0_tick_15 dX0_tick_16 rfl (fun c1 => ?_) (fun c1 => ?_)
  · refine z_aload_n S (pc := 27) dX0_tick_27 rfl (lv_at hl 0 rfl) ?_
    refine z_get S (pc := 28) B iX0_tick_X0 0 rfl rfl 8 (by decide) rfl rfl (by decide +kernel) dX0_tick_28 ?_
    refine lv_lstore_n (lv' := [(3, .long (iL ((σ 21) + x))), (0, .ref a), (1, .long (iL x))]) S.1 S.2.1 (pc := 31) dX0_tick_31 rfl hl (by decide) rfl (fun ls hl => ?_)
    refine z_lload_n S (pc := 32) dX0_tick_32 rfl (lv_at hl 0 rfl) ?_
    refine z_aload_n S (pc := 33) dX0_tick_33 rfl (lv_at hl 1 rfl) ?_
    refine z_get S (pc := 34) B iX0_tick_X0 0 rfl rfl 7 (by decide) rfl rfl (by decide +kernel) dX0_tick_34 ?_
    refine z_lc_le S (pc := 37) (tgt := 46) (by omega) (by omega) dX0_tick_37 dX0_tick_38 rfl (fun c2 => ?_) (fun c2 => ?_)
    · exact z_return S hr hlk B () trivial rfl (by rw [show mx (σ 20) (σ 21 + x) = (σ 20) from by unfold mx ab; omega]; try rfl) (pc := 46) dX0_tick_46
    · refine z_aload_n S (pc := 41) dX0_tick_41 rfl (lv_at hl 1 rfl) ?_
      refine z_lload_n S (pc := 42) dX0_tick_42 rfl (lv_at hl 0 rfl) ?_
      refine z_put S (pc := 43) B iX0_tick_X0 tyX0_ok nmX0 0 rfl rfl 7 (by decide) rfl (by decide +kernel) (ty := .long) (by decide +kernel) rfl rfl (Nat.le_of_ble_eq_true rfl) dX0_tick_43 (wn := [(a, .inr (0, [.int (iI (σ 22)), .int (iI ov), .int (iI (σ 15)), .int (iI (σ 16)), .int (iI (σ 17)), .int (iI (σ 18)), .int (iI (σ 19)), .long (iL ((σ 21) + x)), .long (iL ((σ 21) + x))]))]) rfl (fun H locs B => ?_)
      exact z_return S hr hlk B () trivial rfl (by rw [show mx (σ 20) (σ 21 + x) = ((σ 21) + x) from by unfold mx ab; omega]; try rfl) (pc := 46) dX0_tick_46
  · refine z_aload_n S (pc := 19) dX0_tick_19 rfl (lv_at hl 0 rfl) ?_
    refine z_get S (pc := 20) B iX0_tick_X0 0 rfl rfl 8 (by decide) rfl rfl (by decide +kernel) dX0_tick_20 ?_
    refine z_lneg S (pc := 23) dX0_tick_23 ?_
    refine lv_goto S.1 S.2.1 (pc := 24) (tgt := 31) dX0_tick_24 rfl ?_
    refine lv_lstore_n (lv' := [(3, .long (iL (-((σ 21) + x)))), (0, .ref a), (1, .long (iL x))]) S.1 S.2.1 (pc := 31) dX0_tick_31 rfl hl (by decide) rfl (fun ls hl => ?_)
    refine z_lload_n S (pc := 32) dX0_tick_32 rfl (lv_at hl 0 rfl) ?_
    refine z_aload_n S (pc := 33) dX0_tick_33 rfl (lv_at hl 1 rfl) ?_
    refine z_get S (pc := 34) B iX0_tick_X0 0 rfl rfl 7 (by decide) rfl rfl (by decide +kernel) dX0_tick_34 ?_
    refine z_lc_le S (pc := 37) (tgt := 46) (by omega) (by omega) dX0_tick_37 dX0_tick_38 rfl (fun c3 => ?_) (fun c3 => ?_)
    · exact z_return S hr hlk B () trivial rfl (by rw [show mx (σ 20) (σ 21 + x) = (σ 20) from by unfold mx ab; omega]; try rfl) (pc := 46) dX0_tick_46
    · refine z_aload_n S (pc := 41) dX0_tick_41 rfl (lv_at hl 1 rfl) ?_
      refine z_lload_n S (pc := 42) dX0_tick_42 rfl (lv_at hl 0 rfl) ?_
      refine z_put S (pc := 43) B iX0_tick_X0 tyX0_ok nmX0 0 rfl rfl 7 (by decide) rfl (by decide +kernel) (ty := .long) (by decide +kernel) rfl rfl (Nat.le_of_ble_eq_true rfl) dX0_tick_43 (wn := [(a, .inr (0, [.int (iI (σ 22)), .int (iI ov), .int (iI (σ 15)), .int (iI (σ 16)), .int (iI (σ 17)), .int (iI (σ 18)), .int (iI (σ 19)), .long (iL (-((σ 21) + x))), .long (iL ((σ 21) + x))]))]) rfl (fun H locs B => ?_)
      exact z_return S hr hlk B () trivial rfl (by rw [show mx (σ 20) (σ 21 + x) = (-((σ 21) + x)) from by unfold mx ab; omega]; try rfl) (pc := 46) dX0_tick_46
theorem iX0_runUp_X0 : ∀ w ∈ wsX00, w ∈ wsX0_runUp := by decide +kernel
set_option maxHeartbeats 4000000 in
set_option maxRecDepth 100000 in
theorem mX0_runUp (l : Launch) (E : gT) (a : Nat) (σ : Nat → Int) (ov : Int) (x : Int) (d : Int) (hx : -1000000000000 ≤ σ 21 ∧ σ 21 ≤ 1000000000000) (hy : -3000000 ≤ x ∧ x ≤ 3000000) (hp : 0 ≤ σ 20 ∧ σ 20 ≤ 2000000000000) (hd : -1 ≤ d ∧ d ≤ 1) : Cd l E yX0_runUp wsX0_runUp 1 24 0 0 [.ref a, .long (iL x), .int (iI d)] [cCon a σ ov] none [(a, .inr (0, [.int (iI (σ 22)), .int (iI ov), .int (iI (σ 15)), .int (iI (σ 16)), .int (iI (σ 17)), .int (iI (if d < 0 then σ 18 + 1 else σ 18)), .int (iI (if 0 < d then σ 19 + 1 else σ 19)), .long (iL (mx (σ 20) (σ 21 + (x + d * 1048576)))), .long (iL (σ 21 + (x + d * 1048576)))]))] := by
  refine Ct.mk (cc := cX0_runUp) (maxL := 4) (ret := none) (plainFor_of_name (by decide)) rfl (Nat.le_of_ble_eq_true rfl) ?_
  intro p e s m below meth c A ls H locs S hr hlk hnm B hl
  have S : CallFix p m c cX0_runUp 4 s #[.ref a, .long (iL x), .int (iI d)] wsX0_runUp RX0 := S
  have hl : lv_has ls 4 [(0, .ref a), (1, .long (iL x)), (3, .int (iI d))] := hl
  refine z_iload_n S (pc := 0) dX0_runUp_0 rfl (lv_at hl 2 rfl) ?_
  refine z_if_le S (pc := 1) (tgt := 17) (by omega) dX0_runUp_1 rfl (fun c1 => ?_) (fun c1 => ?_)
  · refine z_iload_n S (pc := 17) dX0_runUp_17 rfl (lv_at hl 2 rfl) ?_
    refine z_if_ge S (pc := 18) (tgt := 31) (by omega) dX0_runUp_18 rfl (fun c2 => ?_) (fun c2 => ?_)
    · refine z_aload_n S (pc := 31) dX0_runUp_31 rfl (lv_at hl 0 rfl) ?_
      refine z_lload_n S (pc := 32) dX0_runUp_32 rfl (lv_at hl 1 rfl) ?_
      refine z_iload_n S (pc := 33) dX0_runUp_33 rfl (lv_at hl 2 rfl) ?_
      refine z_i2l S (pc := 34) (by omega) dX0_runUp_34 ?_
      refine z_ldc2 S (pc := 35) (x := 1048576) (by decide +kernel) rfl dX0_runUp_35 ?_
      refine z_lmul S (pc := 38) dX0_runUp_38 ?_
      refine z_ladd S (pc := 39) dX0_runUp_39 ?_
      refine z_callV S (pc := 40) B (wr := []) (wn := fun _ => [(a, .inr (0, [.int (iI (σ 22)), .int (iI ov), .int (iI (σ 15)), .int (iI (σ 16)), .int (iI (σ 17)), .int (iI (σ 18)), .int (iI (σ 19)), .long (iL (mx (σ 20) (σ 21 + (x + (d * 1048576))))), .long (iL (σ 21 + (x + (d * 1048576))))]))]) (st1 := fun _ => []) (As := [.long (iL (x + (d * 1048576)))]) (mX0_tick l E a σ ov (x + (d * 1048576)) (show -1000000000000 ≤ σ 21 ∧ σ 21 ≤ 1000000000000 from by omega) (show -1000000000000 ≤ (x + (d * 1048576)) ∧ (x + (d * 1048576)) ≤ 1000000000000 from by omega) (show 0 ≤ σ 20 ∧ σ 20 ≤ 2000000000000 from by omega)) gX0_runUp_X0_tick 1 rfl (by decide +kernel) ⟨Nat.le_of_ble_eq_true rfl, Nat.le_of_ble_eq_true rfl, Nat.le_of_ble_eq_true rfl, Nat.le_of_ble_eq_true rfl⟩ 0 rfl (q := (RX0, TX0, 9)) rfl rfl [0] [] [0] rfl rfl ⟨rfl, rfl, rfl, by decide⟩ (fun _ => rfl) rfl (fun _ => rfl) hl.1 (Nat.le_of_ble_eq_true rfl) rfl dX0_runUp_40 (fun _ _ H locs B => ?_)
      exact z_return S hr hlk B () trivial rfl (by first | rw [if_neg (by omega), if_pos (by omega)] | rw [if_pos (by omega), if_neg (by omega)] | rw [if_neg (by omega), if_neg (by omega)]; try rfl) (pc := 43) dX0_runUp_43
    · refine z_aload_n S (pc := 21) dX0_runUp_21 rfl (lv_at hl 0 rfl) ?_
      refine lv_dup S.1 S.2.1 (pc := 22) dX0_runUp_22 rfl ?_
      refine z_get S (pc := 23) B iX0_runUp_X0 0 rfl rfl 5 (by decide) rfl rfl (by decide +kernel) dX0_runUp_23 ?_
      refine z_iconst S (pc := 26) dX0_runUp_26 ?_
      refine z_iadd S (pc := 27) dX0_runUp_27 ?_
      refine z_put S (pc := 28) B iX0_runUp_X0 tyX0_ok nmX0 0 rfl rfl 5 (by decide) rfl (by decide +kernel) (ty := .int) (by decide +kernel) rfl rfl (Nat.le_of_ble_eq_true rfl) dX0_runUp_28 (wn := [(a, .inr (0, [.int (iI (σ 22)), .int (iI ov), .int (iI (σ 15)), .int (iI (σ 16)), .int (iI (σ 17)), .int (iI ((σ 18) + 1)), .int (iI (σ 19)), .long (iL (σ 20)), .long (iL (σ 21))]))]) rfl (fun H locs B => ?_)
      refine z_aload_n S (pc := 31) dX0_runUp_31 rfl (lv_at hl 0 rfl) ?_
      refine z_lload_n S (pc := 32) dX0_runUp_32 rfl (lv_at hl 1 rfl) ?_
      refine z_iload_n S (pc := 33) dX0_runUp_33 rfl (lv_at hl 2 rfl) ?_
      refine z_i2l S (pc := 34) (by omega) dX0_runUp_34 ?_
      refine z_ldc2 S (pc := 35) (x := 1048576) (by decide +kernel) rfl dX0_runUp_35 ?_
      refine z_lmul S (pc := 38) dX0_runUp_38 ?_
      refine z_ladd S (pc := 39) dX0_runUp_39 ?_
      refine z_callV S (pc := 40) B (wr := []) (wn := fun _ => [(a, .inr (0, [.int (iI (σ 22)), .int (iI ov), .int (iI (σ 15)), .int (iI (σ 16)), .int (iI (σ 17)), .int (iI ((σ 18) + 1)), .int (iI (σ 19)), .long (iL (mx (σ 20) (σ 21 + (x + (d * 1048576))))), .long (iL (σ 21 + (x + (d * 1048576))))]))]) (st1 := fun _ => []) (As := [.long (iL (x + (d * 1048576)))]) (mX0_tick l E a (up σ 18 ((σ 18) + 1)) ov (x + (d * 1048576)) (show -1000000000000 ≤ σ 21 ∧ σ 21 ≤ 1000000000000 from by omega) (show -1000000000000 ≤ (x + (d * 1048576)) ∧ (x + (d * 1048576)) ≤ 1000000000000 from by omega) (show 0 ≤ σ 20 ∧ σ 20 ≤ 2000000000000 from by omega)) gX0_runUp_X0_tick 1 rfl (by decide +kernel) ⟨Nat.le_of_ble_eq_true rfl, Nat.le_of_ble_eq_true rfl, Nat.le_of_ble_eq_true rfl, Nat.le_of_ble_eq_true rfl⟩ 0 rfl (q := (RX0, TX0, 9)) rfl rfl [0] [] [0] rfl rfl ⟨rfl, rfl, rfl, by decide⟩ (fun _ => rfl) rfl (fun _ => rfl) hl.1 (Nat.le_of_ble_eq_true rfl) rfl dX0_runUp_40 (fun _ _ H locs B => ?_)
      exact z_return S hr hlk B () trivial rfl (by first | rw [if_neg (by omega), if_pos (by omega)] | rw [if_pos (by omega), if_neg (by omega)] | rw [if_neg (by omega), if_neg (by omega)]; try rfl) (pc := 43) dX0_runUp_43
  · refine z_aload_n S (pc := 4) dX0_runUp_4 rfl (lv_at hl 0 rfl) ?_
    refine lv_dup S.1 S.2.1 (pc := 5) dX0_runUp_5 rfl ?_
    refine z_get S (pc := 6) B iX0_runUp_X0 0 rfl rfl 6 (by decide) rfl rfl (by decide +kernel) dX0_runUp_6 ?_
    refine z_iconst S (pc := 9) dX0_runUp_9 ?_
    refine z_iadd S (pc := 10) dX0_runUp_10 ?_
    refine z_put S (pc := 11) B iX0_runUp_X0 tyX0_ok nmX0 0 rfl rfl 6 (by decide) rfl (by decide +kernel) (ty := .int) (by decide +kernel) rfl rfl (Nat.le_of_ble_eq_true rfl) dX0_runUp_11 (wn := [(a, .inr (0, [.int (iI (σ 22)), .int (iI ov), .int (iI (σ 15)), .int (iI (σ 16)), .int (iI (σ 17)), .int (iI (σ 18)), .int (iI ((σ 19) + 1)), .long (iL (σ 20)), .long (iL (σ 21))]))]) rfl (fun H locs B => ?_)
    refine lv_goto S.1 S.2.1 (pc := 14) (tgt := 31) dX0_runUp_14 rfl ?_
    refine z_aload_n S (pc := 31) dX0_runUp_31 rfl (lv_at hl 0 rfl) ?_
    refine z_lload_n S (pc := 32) dX0_runUp_32 rfl (lv_at hl 1 rfl) ?_
    refine z_iload_n S (pc := 33) dX0_runUp_33 rfl (lv_at hl 2 rfl) ?_
    refine z_i2l S (pc := 34) (by omega) dX0_runUp_34 ?_
    refine z_ldc2 S (pc := 35) (x := 1048576) (by decide +kernel) rfl dX0_runUp_35 ?_
    refine z_lmul S (pc := 38) dX0_runUp_38 ?_
    refine z_ladd S (pc := 39) dX0_runUp_39 ?_
    refine z_callV S (pc := 40) B (wr := []) (wn := fun _ => [(a, .inr (0, [.int (iI (σ 22)), .int (iI ov), .int (iI (σ 15)), .int (iI (σ 16)), .int (iI (σ 17)), .int (iI (σ 18)), .int (iI ((σ 19) + 1)), .long (iL (mx (σ 20) (σ 21 + (x + (d * 1048576))))), .long (iL (σ 21 + (x + (d * 1048576))))]))]) (st1 := fun _ => []) (As := [.long (iL (x + (d * 1048576)))]) (mX0_tick l E a (up σ 19 ((σ 19) + 1)) ov (x + (d * 1048576)) (show -1000000000000 ≤ σ 21 ∧ σ 21 ≤ 1000000000000 from by omega) (show -1000000000000 ≤ (x + (d * 1048576)) ∧ (x + (d * 1048576)) ≤ 1000000000000 from by omega) (show 0 ≤ σ 20 ∧ σ 20 ≤ 2000000000000 from by omega)) gX0_runUp_X0_tick 1 rfl (by decide +kernel) ⟨Nat.le_of_ble_eq_true rfl, Nat.le_of_ble_eq_true rfl, Nat.le_of_ble_eq_true rfl, Nat.le_of_ble_eq_true rfl⟩ 0 rfl (q := (RX0, TX0, 9)) rfl rfl [0] [] [0] rfl rfl ⟨rfl, rfl, rfl, by decide⟩ (fun _ => rfl) rfl (fun _ => rfl) hl.1 (Nat.le_of_ble_eq_true rfl) rfl dX0_runUp_40 (fun _ _ H locs B => ?_)
    exact z_return S hr hlk B () trivial rfl (by first | rw [if_neg (by omega), if_pos (by omega)] | rw [if_pos (by omega), if_neg (by omega)] | rw [if_neg (by omega), if_neg (by omega)]; try rfl) (pc := 43) dX0_runUp_43
theorem iX0_numberOf_X0 : ∀ w ∈ wsX00, w ∈ wsX0_numberOf := by decide +kernel
set_option maxHeartbeats 4000000 in
set_option maxRecDepth 100000 in
theorem mX0_numberOf (l : Launch) (E : gT) (a : Nat) (σ : Nat → Int) (ov : Int) (k : Int) (hk : 0 ≤ k ∧ k ≤ 6) (hb : inI (σ 15) ∧ inI (σ 16) ∧ inI (σ 17) ∧ inI (σ 18) ∧ inI (σ 19)) : Cd l E yX0_numberOf wsX0_numberOf 0 0 0 0 [.ref a, .int (iI k)] [cCon a σ ov] (some (.long (iL (σ (15 + k.toNat))))) [cCon a σ ov] := by
  refine Ct.mk (cc := cX0_numberOf) (maxL := 2) (ret := (some .long)) (plainFor_of_name (by decide)) rfl (Nat.le_of_ble_eq_true rfl) ?_
  intro p e s m below meth c A ls H locs S hr hlk hnm B hl
  have S : CallFix p m c cX0_numberOf 2 s #[.ref a, .int (iI k)] wsX0_numberOf RX0 := S
  have hl : lv_has ls 2 [(0, .ref a), (1, .int (iI k))] := hl
  refine z_iload_n S (pc := 0) dX0_numberOf_0 rfl (lv_at hl 1 rfl) ?_
  rcases (show k = 0 ∨ k = 1 ∨ k = 2 ∨ k = 3 ∨ k = 4 ∨ k = 5 ∨ k = 6 from by omega) with rfl | rfl | rfl | rfl | rfl | rfl | rfl
  · refine z_tsw S (pc := 1) (tgt := 40) (by omega) dX0_numberOf_1 (by omega) rfl rfl ?_
    refine z_aload_n S (pc := 40) dX0_numberOf_40 rfl (lv_at hl 0 rfl) ?_
    refine z_get S (pc := 41) B iX0_numberOf_X0 0 rfl rfl 2 (by decide) rfl rfl (by decide +kernel) dX0_numberOf_41 ?_
    refine z_i2l S (pc := 44) (by omega) dX0_numberOf_44 ?_
    exact z_lreturn S hr hlk B () trivial rfl rfl (pc := 45) dX0_numberOf_45
  · refine z_tsw S (pc := 1) (tgt := 46) (by omega) dX0_numberOf_1 (by omega) rfl rfl ?_
    refine z_aload_n S (pc := 46) dX0_numberOf_46 rfl (lv_at hl 0 rfl) ?_
    refine z_get S (pc := 47) B iX0_numberOf_X0 0 rfl rfl 3 (by decide) rfl rfl (by decide +kernel) dX0_numberOf_47 ?_
    refine z_i2l S (pc := 50) (by omega) dX0_numberOf_50 ?_
    exact z_lreturn S hr hlk B () trivial rfl rfl (pc := 51) dX0_numberOf_51
  · refine z_tsw S (pc := 1) (tgt := 52) (by omega) dX0_numberOf_1 (by omega) rfl rfl ?_
    refine z_aload_n S (pc := 52) dX0_numberOf_52 rfl (lv_at hl 0 rfl) ?_
    refine z_get S (pc := 53) B iX0_numberOf_X0 0 rfl rfl 4 (by decide) rfl rfl (by decide +kernel) dX0_numberOf_53 ?_
    refine z_i2l S (pc := 56) (by omega) dX0_numberOf_56 ?_
    exact z_lreturn S hr hlk B () trivial rfl rfl (pc := 57) dX0_numberOf_57
  · refine z_tsw S (pc := 1) (tgt := 58) (by omega) dX0_numberOf_1 (by omega) rfl rfl ?_
    refine z_aload_n S (pc := 58) dX0_numberOf_58 rfl (lv_at hl 0 rfl) ?_
    refine z_get S (pc := 59) B iX0_numberOf_X0 0 rfl rfl 5 (by decide) rfl rfl (by decide +kernel) dX0_numberOf_59 ?_
    refine z_i2l S (pc := 62) (by omega) dX0_numberOf_62 ?_
    exact z_lreturn S hr hlk B () trivial rfl rfl (pc := 63) dX0_numberOf_63
  · refine z_tsw S (pc := 1) (tgt := 64) (by omega) dX0_numberOf_1 (by omega) rfl rfl ?_
    refine z_aload_n S (pc := 64) dX0_numberOf_64 rfl (lv_at hl 0 rfl) ?_
    refine z_get S (pc := 65) B iX0_numberOf_X0 0 rfl rfl 6 (by decide) rfl rfl (by decide +kernel) dX0_numberOf_65 ?_
    refine z_i2l S (pc := 68) (by omega) dX0_numberOf_68 ?_
    exact z_lreturn S hr hlk B () trivial rfl rfl (pc := 69) dX0_numberOf_69
  · refine z_tsw S (pc := 1) (tgt := 70) (by omega) dX0_numberOf_1 (by omega) rfl rfl ?_
    refine z_aload_n S (pc := 70) dX0_numberOf_70 rfl (lv_at hl 0 rfl) ?_
    refine z_get S (pc := 71) B iX0_numberOf_X0 0 rfl rfl 7 (by decide) rfl rfl (by decide +kernel) dX0_numberOf_71 ?_
    exact z_lreturn S hr hlk B () trivial rfl rfl (pc := 74) dX0_numberOf_74
  · refine z_tswD S (pc := 1) (tgt := 75) (by omega) dX0_numberOf_1 (by omega) rfl ?_
    refine z_aload_n S (pc := 75) dX0_numberOf_75 rfl (lv_at hl 0 rfl) ?_
    refine z_get S (pc := 76) B iX0_numberOf_X0 0 rfl rfl 8 (by decide) rfl rfl (by decide +kernel) dX0_numberOf_76 ?_
    exact z_lreturn S hr hlk B () trivial rfl rfl (pc := 79) dX0_numberOf_79
/-! END leaves -/
