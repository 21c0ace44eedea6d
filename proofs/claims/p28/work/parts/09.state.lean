set_option linter.unusedVariables false
theorem iX1_copyFrom_X1 : ∀ w ∈ wsX10, w ∈ wsX1_copyFrom := by decide +kernel
set_option maxHeartbeats 4000000 in
set_option maxRecDepth 100000 in
theorem mX1_copyFrom (l : Launch) (E : gT) (a : Nat) (b : Nat) (σ : Nat → Int) (ρ : Nat → Int) (a2 : Nat) (b2 : Nat) (σ2 : Nat → Int) (ρ2 : Nat → Int)  : Cd l E yX1_copyFrom wsX1_copyFrom 1 60 0 0 [.ref a, .ref a2] [cLog a b σ, cRow E b ρ, cLog a2 b2 σ2, cRow E b2 ρ2] none [cLog a b σ2, cRow E b ρ2, cLog a2 b2 σ2, cRow E b2 ρ2] := by
  refine Ct.mk (cc := cX1_copyFrom) (maxL := 2) (ret := none) (plainFor_of_name (by decide)) rfl (Nat.le_of_ble_eq_true rfl) ?_
  intro p e s m below meth c A ls H locs S hr hlk hnm B hl
  have S : CallFix p m c cX1_copyFrom 2 s #[.ref a, .ref a2] wsX1_copyFrom RX1 := S
  have hl : lv_has ls 2 [(0, .ref a), (1, .ref a2)] := hl
  refine z_aload_n S (pc := 0) dX1_copyFrom_0 rfl (lv_at hl 0 rfl) ?_
  refine z_aload_n S (pc := 1) dX1_copyFrom_1 rfl (lv_at hl 1 rfl) ?_
  refine z_get S (pc := 2) B iX1_copyFrom_X1 2 rfl rfl 1 (by decide) rfl rfl (by decide +kernel) dX1_copyFrom_2 ?_
  refine z_put S (pc := 5) B iX1_copyFrom_X1 tyX1_ok nmX1 0 rfl rfl 1 (by decide) rfl (by decide +kernel) (ty := .int) (by decide +kernel) rfl rfl (Nat.le_of_ble_eq_true rfl) dX1_copyFrom_5 (wn := [cLog a b σ2, cRow E b ρ, cLog a2 b2 σ2, cRow E b2 ρ2]) rfl (fun H locs B => ?_)
  refine z_aload_n S (pc := 8) dX1_copyFrom_8 rfl (lv_at hl 1 rfl) ?_
  refine z_get S (pc := 9) B iX1_copyFrom_X1 2 rfl rfl 0 (by decide) rfl rfl (by decide +kernel) dX1_copyFrom_9 ?_
  refine z_iconst S (pc := 12) dX1_copyFrom_12 ?_
  refine z_aload_n S (pc := 13) dX1_copyFrom_13 rfl (lv_at hl 0 rfl) ?_
  refine z_get S (pc := 14) B iX1_copyFrom_X1 0 rfl rfl 0 (by decide) rfl rfl (by decide +kernel) dX1_copyFrom_14 ?_
  refine z_iconst S (pc := 17) dX1_copyFrom_17 ?_
  refine z_aload_n S (pc := 18) dX1_copyFrom_18 rfl (lv_at hl 0 rfl) ?_
  refine z_get S (pc := 19) B iX1_copyFrom_X1 0 rfl rfl 0 (by decide) rfl rfl (by decide +kernel) dX1_copyFrom_19 ?_
  refine z_alen S (pc := 22) B 1 2 rfl rfl (n := 280) rfl dX1_copyFrom_22 ?_
  refine z_aload_n S (pc := 23) dX1_copyFrom_23 rfl (lv_at hl 1 rfl) ?_
  refine z_get S (pc := 24) B iX1_copyFrom_X1 2 rfl rfl 0 (by decide) rfl rfl (by decide +kernel) dX1_copyFrom_24 ?_
  refine z_alen S (pc := 27) B 3 2 rfl rfl (n := 280) rfl dX1_copyFrom_27 ?_
  refine z_minI S (pc := 28) (by omega) (by omega) (by decide +kernel) (by decide +kernel) (by decide +kernel) (by decide +kernel) hl.1 ⟨Nat.le_of_ble_eq_true rfl, Nat.le_of_ble_eq_true rfl, Nat.le_of_ble_eq_true rfl, Nat.le_of_ble_eq_true rfl⟩ dX1_copyFrom_28 ?_
  rw [show ((if (280 : Int) < 280 then 280 else 280) : Int) = 280 from rfl]
  refine z_copyl S (pc := 31) B (by decide +kernel) (by decide +kernel) (by decide +kernel) (by decide +kernel) hl.1 3 1 rfl rfl (by decide) (by omega) (Nat.le_of_ble_eq_true rfl) (by decide +kernel) dX1_copyFrom_31 (wn := [cLog a b σ2, cRow E b ρ2, cLog a2 b2 σ2, cRow E b2 ρ2]) rfl (fun H locs B => ?_)
  exact z_return S hr hlk B () trivial rfl rfl (pc := 34) dX1_copyFrom_34
theorem iX6_copyFrom_X6 : ∀ w ∈ wsX60, w ∈ wsX6_copyFrom := by decide +kernel
set_option maxHeartbeats 4000000 in
set_option maxRecDepth 100000 in
theorem mX6_copyFrom (l : Launch) (E : gT) (o : Nat) (a : Nat) (b : Nat) (f : Nat) (g : Nat) (σ : Nat → Int) (ov : Int) (rr : Int) (rb : Int) (rn : Int) (h : Nat) (i : Nat) (ρ : Nat → Int) (o2 : Nat) (a2 : Nat) (b2 : Nat) (f2 : Nat) (g2 : Nat) (σ2 : Nat → Int) (ov2 : Int) (rr2 : Int) (rb2 : Int) (rn2 : Int) (h2 : Nat) (i2 : Nat) (ρ2 : Nat → Int) (h22 : σ2 22 = 0 ∨ σ2 22 = 1) (ho : ov2 = 0 ∨ ov2 = 1) : Cd l E yX6_copyFrom wsX6_copyFrom 2 81 0 0 [.ref o, .ref o2] [cSta o a h, cMet a b f g σ rr rb rn, cSig b σ, cSet f σ, cCon g σ ov, cLog h i σ, cRow E i ρ, cSta o2 a2 h2, cMet a2 b2 f2 g2 σ2 rr2 rb2 rn2, cSig b2 σ2, cSet f2 σ2, cCon g2 σ2 ov2, cLog h2 i2 σ2, cRow E i2 ρ2] none [cSta o a h, cMet a b f g σ2 rr2 rb2 rn2, cSig b σ2, cSet f σ2, cCon g σ2 ov2, cLog h i σ2, cRow E i ρ2, cSta o2 a2 h2, cMet a2 b2 f2 g2 σ2 rr2 rb2 rn2, cSig b2 σ2, cSet f2 σ2, cCon g2 σ2 ov2, cLog h2 i2 σ2, cRow E i2 ρ2] := by
  refine Ct.mk (cc := cX6_copyFrom) (maxL := 2) (ret := none) (plainFor_of_name (by decide)) rfl (Nat.le_of_ble_eq_true rfl) ?_
  intro p e s m below meth c A ls H locs S hr hlk hnm B hl
  have S : CallFix p m c cX6_copyFrom 2 s #[.ref o, .ref o2] wsX6_copyFrom RX6 := S
  have hl : lv_has ls 2 [(0, .ref o), (1, .ref o2)] := hl
  refine z_aload_n S (pc := 0) dX6_copyFrom_0 rfl (lv_at hl 0 rfl) ?_
  refine z_get S (pc := 1) B iX6_copyFrom_X6 0 rfl rfl 0 (by decide) rfl rfl (by decide +kernel) dX6_copyFrom_1 ?_
  refine z_aload_n S (pc := 4) dX6_copyFrom_4 rfl (lv_at hl 1 rfl) ?_
  refine z_get S (pc := 5) B iX6_copyFrom_X6 7 rfl rfl 0 (by decide) rfl rfl (by decide +kernel) dX6_copyFrom_5 ?_
  refine z_callV S (pc := 8) B (wr := [cSta o a h, cLog h i σ, cRow E i ρ, cSta o2 a2 h2, cLog h2 i2 σ2, cRow E i2 ρ2]) (wn := fun _ => [cSta o a h, cMet a b f g σ2 rr2 rb2 rn2, cSig b σ2, cSet f σ2, cCon g σ2 ov2, cLog h i σ, cRow E i ρ, cSta o2 a2 h2, cMet a2 b2 f2 g2 σ2 rr2 rb2 rn2, cSig b2 σ2, cSet f2 σ2, cCon g2 σ2 ov2, cLog h2 i2 σ2, cRow E i2 ρ2]) (st1 := fun _ => []) (As := [.ref a2]) (mX2_copyFrom l E a b f g σ ov rr rb rn a2 b2 f2 g2 σ2 ov2 rr2 rb2 rn2 (show σ2 22 = 0 ∨ σ2 22 = 1 from by omega) (show ov2 = 0 ∨ ov2 = 1 from by omega)) gX6_copyFrom_X2_copyFrom 1 rfl (by decide +kernel) ⟨Nat.le_of_ble_eq_true rfl, Nat.le_of_ble_eq_true rfl, Nat.le_of_ble_eq_true rfl, Nat.le_of_ble_eq_true rfl⟩ 0 rfl (q := (RX2, TX2, 9)) rfl rfl [1, 2, 3, 4, 8, 9, 10, 11] [0, 5, 6, 7, 12, 13] [0, 6, 7, 8, 9, 1, 2, 3, 10, 11, 12, 13, 4, 5] rfl rfl ⟨rfl, rfl, rfl, by decide⟩ (fun _ => rfl) rfl (fun _ => rfl) hl.1 (Nat.le_of_ble_eq_true rfl) rfl dX6_copyFrom_8 (fun _ _ H locs B => ?_)
  refine z_aload_n S (pc := 11) dX6_copyFrom_11 rfl (lv_at hl 0 rfl) ?_
  refine z_get S (pc := 12) B iX6_copyFrom_X6 0 rfl rfl 1 (by decide) rfl rfl (by decide +kernel) dX6_copyFrom_12 ?_
  refine z_aload_n S (pc := 15) dX6_copyFrom_15 rfl (lv_at hl 1 rfl) ?_
  refine z_get S (pc := 16) B iX6_copyFrom_X6 7 rfl rfl 1 (by decide) rfl rfl (by decide +kernel) dX6_copyFrom_16 ?_
  refine z_callV S (pc := 19) B (wr := [cSta o a h, cMet a b f g σ2 rr2 rb2 rn2, cSig b σ2, cSet f σ2, cCon g σ2 ov2, cSta o2 a2 h2, cMet a2 b2 f2 g2 σ2 rr2 rb2 rn2, cSig b2 σ2, cSet f2 σ2, cCon g2 σ2 ov2]) (wn := fun _ => [cSta o a h, cMet a b f g σ2 rr2 rb2 rn2, cSig b σ2, cSet f σ2, cCon g σ2 ov2, cLog h i σ2, cRow E i ρ2, cSta o2 a2 h2, cMet a2 b2 f2 g2 σ2 rr2 rb2 rn2, cSig b2 σ2, cSet f2 σ2, cCon g2 σ2 ov2, cLog h2 i2 σ2, cRow E i2 ρ2]) (st1 := fun _ => []) (As := [.ref h2]) (mX1_copyFrom l E h i σ ρ h2 i2 σ2 ρ2 ) gX6_copyFrom_X1_copyFrom 1 rfl (by decide +kernel) ⟨Nat.le_of_ble_eq_true rfl, Nat.le_of_ble_eq_true rfl, Nat.le_of_ble_eq_true rfl, Nat.le_of_ble_eq_true rfl⟩ 0 rfl (q := (RX1, TX1, 2)) rfl rfl [5, 6, 12, 13] [0, 1, 2, 3, 4, 7, 8, 9, 10, 11] [0, 1, 2, 3, 4, 10, 11, 5, 6, 7, 8, 9, 12, 13] rfl rfl ⟨rfl, rfl, rfl, by decide⟩ (fun _ => rfl) rfl (fun _ => rfl) hl.1 (Nat.le_of_ble_eq_true rfl) rfl dX6_copyFrom_19 (fun _ _ H locs B => ?_)
  exact z_return S hr hlk B () trivial rfl rfl (pc := 22) dX6_copyFrom_22
theorem iX6_makeReading_X6 : ∀ w ∈ wsX60, w ∈ wsX6_makeReading := by decide +kernel
set_option maxHeartbeats 4000000 in
set_option maxRecDepth 100000 in
theorem mX6_makeReading (l : Launch) (E : gT) (o : Nat) (a : Nat) (b : Nat) (f : Nat) (g : Nat) (σ : Nat → Int) (ov : Int) (rr : Int) (rb : Int) (rn : Int) (h : Nat) (i : Nat) (ρ : Nat → Int) (hs : Sets σ) (hn : Nums σ) (h11 : 0 ≤ σ 11 ∧ σ 11 ≤ 2000000000) : Cd l E yX6_makeReading wsX6_makeReading 5 115 0 0 [.ref o] [cSta o a h, cMet a b f g σ rr rb rn, cSig b σ, cSet f σ, cCon g σ ov, cLog h i σ, cRow E i ρ] (some (.long (iL (val0 (rz σ))))) [cSta o a h, cMet a b f g (rdS σ) (rz σ 10) (rz σ 11) (net0 (rz σ)), cSig b (rdS σ), cSet f (rdS σ), cCon g (rdS σ) (ov0 (rz σ)), cLog h i (rdS σ), cRow E i (rowS σ ρ)] := by
  refine Ct.mk (cc := cX6_makeReading) (maxL := 3) (ret := (some .long)) (plainFor_of_name (by decide)) rfl (Nat.le_of_ble_eq_true rfl) ?_
  intro p e s m below meth c A ls H locs S hr hlk hnm B hl
  have S : CallFix p m c cX6_makeReading 3 s #[.ref o] wsX6_makeReading RX6 := S
  have hl : lv_has ls 3 [(0, .ref o)] := hl
  obtain ⟨n12, n13, n14, nrest⟩ := id hn
  refine z_aload_n S (pc := 0) dX6_makeReading_0 rfl (lv_at hl 0 rfl) ?_
  refine z_get S (pc := 1) B iX6_makeReading_X6 0 rfl rfl 0 (by decide) rfl rfl (by decide +kernel) dX6_makeReading_1 ?_
  refine z_callV S (pc := 4) B (wr := [cSta o a h, cLog h i σ, cRow E i ρ]) (wn := fun _ => [cSta o a h, cMet a b f g (rdM σ) (rz σ 10) (rz σ 11) (net0 (rz σ)), cSig b (rdM σ), cSet f (rdM σ), cCon g (rdM σ) (ov0 (rz σ)), cLog h i σ, cRow E i ρ]) (st1 := fun _ => [.long (iL (val0 (rz σ)))]) (As := []) (mX2_makeReading l E a b f g σ ov rr rb rn (show Sets σ from by assumption) (show Nums σ from by assumption) (show 0 ≤ σ 11 ∧ σ 11 ≤ 2000000000 from by omega)) gX6_makeReading_X2_makeReading 0 rfl (by decide +kernel) ⟨Nat.le_of_ble_eq_true rfl, Nat.le_of_ble_eq_true rfl, Nat.le_of_ble_eq_true rfl, Nat.le_of_ble_eq_true rfl⟩ 0 rfl (q := (RX2, TX2, 9)) rfl rfl [1, 2, 3, 4] [0, 5, 6] [0, 3, 4, 5, 6, 1, 2] rfl rfl ⟨rfl, rfl, rfl, by decide⟩ (fun _ => rfl) rfl (fun _ => rfl) hl.1 (Nat.le_of_ble_eq_true rfl) rfl dX6_makeReading_4 (fun _ _ H locs B => ?_)
  refine lv_lstore_n (lv' := [(1, .long (iL (val0 (rz σ)))), (0, .ref o)]) S.1 S.2.1 (pc := 7) dX6_makeReading_7 rfl hl (by decide) rfl (fun ls hl => ?_)
  have hm := rdM_nums hs hn
  have hm11 := rdM_time hs
  have ho := ovr_01 (rz σ) (gn (rz σ 10))
  have hz := (rz_sets hs).2.2.2.2.2.2.2.2.2.2
  have hz11 := rz_time hs
  have ho2 : 0 ≤ ov0 (rz σ) ∧ ov0 (rz σ) ≤ 1 := by unfold ov0; omega
  have hm12 : -60000 ≤ rdM σ 12 ∧ rdM σ 12 ≤ 60000 := hm.1
  refine z_aload_n S (pc := 8) dX6_makeReading_8 rfl (lv_at hl 1 rfl) ?_
  refine z_get S (pc := 9) B iX6_makeReading_X6 0 rfl rfl 1 (by decide) rfl rfl (by decide +kernel) dX6_makeReading_9 ?_
  refine z_lload_n S (pc := 12) dX6_makeReading_12 rfl (lv_at hl 0 rfl) ?_
  refine z_aload_n S (pc := 13) dX6_makeReading_13 rfl (lv_at hl 1 rfl) ?_
  refine z_get S (pc := 14) B iX6_makeReading_X6 0 rfl rfl 0 (by decide) rfl rfl (by decide +kernel) dX6_makeReading_14 ?_
  refine z_callV S (pc := 17) B (wr := [cSta o a h, cSig b (rdM σ), cSet f (rdM σ)]) (wn := fun _ => [cSta o a h, cMet a b f g (rdM σ) (rz σ 10) (rz σ 11) (net0 (rz σ)), cSig b (rdM σ), cSet f (rdM σ), cCon g (rdM σ) (ov0 (rz σ)), (h, .inr (1, [.ref i, .int (iI (σ 14 + 1))])), cRow E i (up (up (up (up (up (up (up ρ (7 * ((σ 14).toNat % 40) + 0) (val0 (rz σ))) (7 * ((σ 14).toNat % 40) + 1) (net0 (rz σ))) (7 * ((σ 14).toNat % 40) + 2) (rz σ 10)) (7 * ((σ 14).toNat % 40) + 3) (ov0 (rz σ))) (7 * ((σ 14).toNat % 40) + 4) (rz σ 11)) (7 * ((σ 14).toNat % 40) + 5) ((rdM σ) 11)) (7 * ((σ 14).toNat % 40) + 6) ((rdM σ) 12))]) (st1 := fun _ => []) (As := [.long (iL (val0 (rz σ))), .ref a]) (mX1_add l E h i σ ρ (val0 (rz σ)) a b f g (rdM σ) (ov0 (rz σ)) (rz σ 10) (rz σ 11) (net0 (rz σ)) (show 0 ≤ σ 14 ∧ σ 14 ≤ 20000 from by omega) (show inI (rz σ 10) ∧ inI (rz σ 11) ∧ inI ((rdM σ) 11) ∧ inI ((rdM σ) 12) from by omega) (show 0 ≤ (ov0 (rz σ)) ∧ (ov0 (rz σ)) ≤ 1 from by omega)) gX6_makeReading_X1_add 2 rfl (by decide +kernel) ⟨Nat.le_of_ble_eq_true rfl, Nat.le_of_ble_eq_true rfl, Nat.le_of_ble_eq_true rfl, Nat.le_of_ble_eq_true rfl⟩ 0 rfl (q := (RX1, TX1, 2)) rfl rfl [5, 6, 1, 4] [0, 2, 3] [0, 5, 1, 2, 6, 3, 4] rfl rfl ⟨rfl, rfl, rfl, by decide⟩ (fun _ => rfl) rfl (fun _ => rfl) hl.1 (Nat.le_of_ble_eq_true rfl) rfl dX6_makeReading_17 (fun _ _ H locs B => ?_)
  refine z_lload_n S (pc := 20) dX6_makeReading_20 rfl (lv_at hl 0 rfl) ?_
  exact z_lreturn S hr hlk B () trivial rfl rfl (pc := 21) dX6_makeReading_21
/-! END state -/
