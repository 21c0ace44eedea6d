set_option linter.unusedVariables false
theorem stp1_r {kd nm : Int} {σ ρ : Nat → Int} (h : kd = 114) : stp1 kd nm σ ρ = (1, rdN nm.toNat σ ρ) := by unfold stp1; rw [if_pos h]
theorem stp1_z {kd nm : Int} {σ ρ : Nat → Int} (h : kd = 122) : stp1 kd nm σ ρ = (1, zrS σ, ρ) := by unfold stp1; rw [if_neg (by omega), if_pos h]
theorem stp1_w {kd nm : Int} {σ ρ : Nat → Int} (h : kd = 119) (hw : σ 11 + nm ≤ 1000000000) : stp1 kd nm σ ρ = (1, up σ 11 (σ 11 + nm), ρ) := by unfold stp1; rw [if_neg (by omega), if_neg (by omega), if_pos h, if_pos hw]
theorem stp1_wn {kd nm : Int} {σ ρ : Nat → Int} (h : kd = 119) (hw : 1000000000 < σ 11 + nm) : stp1 kd nm σ ρ = (0, σ, ρ) := by unfold stp1; rw [if_neg (by omega), if_neg (by omega), if_pos h, if_neg (by omega)]
theorem stp1_l {kd nm : Int} {σ ρ : Nat → Int} (h : kd = 108) : stp1 kd nm σ ρ = (1, up σ 0 nm, ρ) := by unfold stp1; rw [if_neg (by omega), if_neg (by omega), if_neg (by omega), if_pos h]
theorem stp1_g {kd nm : Int} {σ ρ : Nat → Int} (h : kd = 103) : stp1 kd nm σ ρ = (1, up σ 10 nm, ρ) := by unfold stp1; rw [if_neg (by omega), if_neg (by omega), if_neg (by omega), if_neg (by omega), if_pos h]
abbrev ev (ψ : Nat → Int) : Nat → Int := fun z => ψ (2 * z)
abbrev od (ψ : Nat → Int) : Nat → Int := fun z => ψ (2 * z + 1)
abbrev okM (ψ : Nat → Int) (m : Int) : Prop := ∀ z : Nat, (z : Int) < m → isK (ψ (2 * z)) ∧ (ψ (2 * z) = 114 → 1 ≤ ψ (2 * z + 1) ∧ ψ (2 * z + 1) ≤ 99) ∧ (ψ (2 * z) = 119 → 1 ≤ ψ (2 * z + 1) ∧ ψ (2 * z + 1) ≤ 9999) ∧ (ψ (2 * z) = 108 → -3000000 ≤ ψ (2 * z + 1) ∧ ψ (2 * z + 1) ≤ 3000000) ∧ (ψ (2 * z) = 103 → 0 ≤ ψ (2 * z + 1) ∧ ψ (2 * z + 1) ≤ 3)
theorem iX8_readingsOfSteps_X8 : ∀ w ∈ wsX80, w ∈ wsX8_readingsOfSteps := by decide +kernel
set_option maxHeartbeats 4000000 in
set_option maxRecDepth 100000 in
theorem lpX8_readingsOfSteps {p : Program} {l : Launch} {e : Env} {s : State} {m : MethodId} {args : Array Value} {below : List Frame} {meth : Method} {c : Code} {Q : State → Prop} {A : Nat → Prop} (E : gT) (S : CallFix p m c cX8_readingsOfSteps 3 s args wsX8_readingsOfSteps RX8) (a : Nat) (p1 : Nat) (p2 : Nat) (p3 : Nat) (p4 : Nat) (p5 : Nat) (p6 : Nat) (σ : Nat → Int) (ρ : Nat → Int) (pm : Int) (ig : Int) (mo : Int) (rd : Int) (wr : Int) (sm : Int) (ψ : Nat → Int) (hst : 0 ≤ sm ∧ sm ≤ 31) (hok : okM ψ sm) :
    ∀ (n : Nat) (k : Int) (x : Int) (hk : 0 ≤ k ∧ k + (n : Int) = sm) (res : Int) (hres : sumS (ev ψ) (od ψ) n k x = res) (hx : ∀  (H : Heap) (locs : List Loc) (ls : Array Slot), bw E A s H locs [cMod a p1 p2 p3 p4 p5 p6 pm ig mo rd wr sm, cInt E p6 120 ψ] → lv_has ls 3 [(0, .ref a), (1, .int (iI res))] → W p l e ({ frames := 0, cells := 0, slots := 0, locals := 0 } : Room) s m args below meth c H locs 0 0 Q (F0 m 48 ls [])) (H : Heap) (locs : List Loc) (ls : Array Slot) (B : bw E A s H locs [cMod a p1 p2 p3 p4 p5 p6 pm ig mo rd wr sm, cInt E p6 120 ψ]) (hl : lv_has ls 3 [(0, .ref a), (1, .int (iI x)), (2, .int (iI k))]), W p l e ({ frames := 0, cells := 0, slots := 0, locals := 0 } : Room) s m args below meth c H locs 0 0 Q (F0 m 4 ls []) := by
  intro n
  induction n with
  | zero =>
    intro k x hk res hres hx H locs ls B hl
    refine z_iload_n S (pc := 4) dX8_readingsOfSteps_4 rfl (lv_at hl 2 rfl) ?_
    refine z_aload_n S (pc := 5) dX8_readingsOfSteps_5 rfl (lv_at hl 0 rfl) ?_
    refine z_get S (pc := 6) B iX8_readingsOfSteps_X8 0 rfl rfl 11 (by decide) rfl rfl (by decide +kernel) dX8_readingsOfSteps_6 ?_
    refine z_icmp_ge S (pc := 9) (tgt := 48) (by omega) (by omega) dX8_readingsOfSteps_9 rfl (fun c1 => ?_) (fun c1 => absurd c1 (by omega))
    subst hres
    exact hx _ _ _ B (lv_sub hl [0, 1] rfl)
  | succ n ih =>
    intro k x hk res hres hx H locs ls B hl
    have hkk := hok k.toNat (by omega)
    refine z_iload_n S (pc := 4) dX8_readingsOfSteps_4 rfl (lv_at hl 2 rfl) ?_
    refine z_aload_n S (pc := 5) dX8_readingsOfSteps_5 rfl (lv_at hl 0 rfl) ?_
    refine z_get S (pc := 6) B iX8_readingsOfSteps_X8 0 rfl rfl 11 (by decide) rfl rfl (by decide +kernel) dX8_readingsOfSteps_6 ?_
    refine z_icmp_ge S (pc := 9) (tgt := 48) (by omega) (by omega) dX8_readingsOfSteps_9 rfl (fun c1 => ?_) (fun c1 => ?_)
    · exact absurd c1 (by omega)
    · refine z_iload_n S (pc := 12) dX8_readingsOfSteps_12 rfl (lv_at hl 1 rfl) ?_
      refine z_aload_n S (pc := 13) dX8_readingsOfSteps_13 rfl (lv_at hl 0 rfl) ?_
      refine z_get S (pc := 14) B iX8_readingsOfSteps_X8 0 rfl rfl 10 (by decide) rfl rfl (by decide +kernel) dX8_readingsOfSteps_14 ?_
      refine z_iconst S (pc := 17) dX8_readingsOfSteps_17 ?_
      refine z_iload_n S (pc := 18) dX8_readingsOfSteps_18 rfl (lv_at hl 2 rfl) ?_
      refine z_imul S (pc := 19) dX8_readingsOfSteps_19 ?_
      refine z_iald S (pc := 20) B 1 1 rfl rfl (k := 2 * k.toNat) (by omega) (by omega) (by decide) (v := .int (iI (ψ (2 * k.toNat)))) rfl dX8_readingsOfSteps_20 ?_
      refine z_bipush S (pc := 21) dX8_readingsOfSteps_21 rfl ?_
      refine z_icmp_ne S (pc := 23) (tgt := 39) (by omega) (by omega) dX8_readingsOfSteps_23 rfl (fun c2 => ?_) (fun c2 => ?_)
      · refine z_iconst S (pc := 39) dX8_readingsOfSteps_39 ?_
        refine z_iadd S (pc := 40) dX8_readingsOfSteps_40 ?_
        refine lv_istore_n (lv' := [(1, .int (iI (x + 0))), (0, .ref a), (2, .int (iI k))]) S.1 S.2.1 (pc := 41) dX8_readingsOfSteps_41 rfl hl (by decide) rfl (fun ls hl => ?_)
        refine lv_iinc (v := iI (k + 1)) (lv' := [(2, .int (iI (k + 1))), (1, .int (iI (x + 0))), (0, .ref a)]) S.1 S.2.1 (pc := 42) dX8_readingsOfSteps_42 hl (k := 2) rfl (iI_add _ _) (by decide) rfl (fun ls hl => ?_)
        refine lv_goto S.1 S.2.1 (pc := 45) (tgt := 4) dX8_readingsOfSteps_45 rfl ?_
        have ex : x + 0 = x := by omega
        rw [ex] at hl
        exact ih (k + 1) (x) (by omega) res (by rw [← hres]; simp only [sumS]; rw [if_neg c2]) hx _ _ _ B (lv_sub hl [2, 1, 0] rfl)
      · refine z_aload_n S (pc := 26) dX8_readingsOfSteps_26 rfl (lv_at hl 0 rfl) ?_
        refine z_get S (pc := 27) B iX8_readingsOfSteps_X8 0 rfl rfl 10 (by decide) rfl rfl (by decide +kernel) dX8_readingsOfSteps_27 ?_
        refine z_iconst S (pc := 30) dX8_readingsOfSteps_30 ?_
        refine z_iload_n S (pc := 31) dX8_readingsOfSteps_31 rfl (lv_at hl 2 rfl) ?_
        refine z_imul S (pc := 32) dX8_readingsOfSteps_32 ?_
        refine z_iconst S (pc := 33) dX8_readingsOfSteps_33 ?_
        refine z_iadd S (pc := 34) dX8_readingsOfSteps_34 ?_
        refine z_iald S (pc := 35) B 1 1 rfl rfl (k := 2 * k.toNat + 1) (by omega) (by omega) (by decide) (v := .int (iI (ψ (2 * k.toNat + 1)))) rfl dX8_readingsOfSteps_35 ?_
        refine lv_goto S.1 S.2.1 (pc := 36) (tgt := 40) dX8_readingsOfSteps_36 rfl ?_
        refine z_iadd S (pc := 40) dX8_readingsOfSteps_40 ?_
        refine lv_istore_n (lv' := [(1, .int (iI (x + (ψ (2 * k.toNat + 1))))), (0, .ref a), (2, .int (iI k))]) S.1 S.2.1 (pc := 41) dX8_readingsOfSteps_41 rfl hl (by decide) rfl (fun ls hl => ?_)
        refine lv_iinc (v := iI (k + 1)) (lv' := [(2, .int (iI (k + 1))), (1, .int (iI (x + (ψ (2 * k.toNat + 1))))), (0, .ref a)]) S.1 S.2.1 (pc := 42) dX8_readingsOfSteps_42 hl (k := 2) rfl (iI_add _ _) (by decide) rfl (fun ls hl => ?_)
        refine lv_goto S.1 S.2.1 (pc := 45) (tgt := 4) dX8_readingsOfSteps_45 rfl ?_
        exact ih (k + 1) (x + (ψ (2 * k.toNat + 1))) (by omega) res (by rw [← hres]; simp only [sumS]; rw [if_pos (by omega)]) hx _ _ _ B (lv_sub hl [2, 1, 0] rfl)
set_option maxHeartbeats 4000000 in
set_option maxRecDepth 100000 in
theorem mX8_readingsOfSteps (l : Launch) (E : gT) (a : Nat) (p1 : Nat) (p2 : Nat) (p3 : Nat) (p4 : Nat) (p5 : Nat) (p6 : Nat) (σ : Nat → Int) (ρ : Nat → Int) (pm : Int) (ig : Int) (mo : Int) (rd : Int) (wr : Int) (sm : Int) (ψ : Nat → Int) (hst : 0 ≤ sm ∧ sm ≤ 31) (hok : okM ψ sm) : Cd l E yX8_readingsOfSteps wsX8_readingsOfSteps 0 0 0 0 [.ref a] [cMod a p1 p2 p3 p4 p5 p6 pm ig mo rd wr sm, cInt E p6 120 ψ] (some (.int (iI (sumS (ev ψ) (od ψ) sm.toNat 0 0)))) [cMod a p1 p2 p3 p4 p5 p6 pm ig mo rd wr sm, cInt E p6 120 ψ] := by
  refine Ct.mk (cc := cX8_readingsOfSteps) (maxL := 3) (ret := (some .int)) (plainFor_of_name (by decide)) rfl (Nat.le_of_ble_eq_true rfl) ?_
  intro p e s m below meth c A ls H locs S hr hlk hnm B hl
  have S : CallFix p m c cX8_readingsOfSteps 3 s #[.ref a] wsX8_readingsOfSteps RX8 := S
  have hl : lv_has ls 3 [(0, .ref a)] := hl
  refine z_iconst S (pc := 0) dX8_readingsOfSteps_0 ?_
  refine lv_istore_n (lv' := [(1, .int (iI 0)), (0, .ref a)]) S.1 S.2.1 (pc := 1) dX8_readingsOfSteps_1 rfl hl (by decide) rfl (fun ls hl => ?_)
  refine z_iconst S (pc := 2) dX8_readingsOfSteps_2 ?_
  refine lv_istore_n (lv' := [(2, .int (iI 0)), (1, .int (iI 0)), (0, .ref a)]) S.1 S.2.1 (pc := 3) dX8_readingsOfSteps_3 rfl hl (by decide) rfl (fun ls hl => ?_)
  obtain ⟨z, hz⟩ : ∃ z, sumS (ev ψ) (od ψ) sm.toNat 0 0 = z := ⟨_, rfl⟩
  refine lpX8_readingsOfSteps E S a p1 p2 p3 p4 p5 p6 σ ρ pm ig mo rd wr sm ψ hst hok sm.toNat 0 0 (by omega) z hz (fun H locs ls B hl => ?_) _ _ _ B (lv_sub hl [2, 1, 0] rfl)
  refine z_iload_n S (pc := 48) dX8_readingsOfSteps_48 rfl (lv_at hl 1 rfl) ?_
  exact z_ireturn S hr hlk B () trivial (by rw [hz]) rfl (pc := 49) dX8_readingsOfSteps_49
set_option maxHeartbeats 4000000 in
set_option maxRecDepth 100000 in
theorem lpX8_carriesOut {p : Program} {l : Launch} {e : Env} {s : State} {m : MethodId} {args : Array Value} {below : List Frame} {meth : Method} {c : Code} {Q : State → Prop} {A : Nat → Prop} (E : gT) (S : CallFix p m c cX8_carriesOut 4 s args wsX8_carriesOut RX8) (a : Nat) (p1 : Nat) (p2 : Nat) (p3 : Nat) (p4 : Nat) (p5 : Nat) (p6 : Nat) (pm : Int) (rd : Int) (wr : Int) (sm : Int) (nm : Int) (hnm : 0 ≤ nm ∧ nm ≤ 99) :
    ∀ (n : Nat) (j : Int) (σ : Nat → Int) (ρ : Nat → Int) (ig : Int) (mo : Int) (hj : 0 ≤ j ∧ j + (n : Int) = nm) (hs : Sets σ) (hn : Nums σ) (ht : 0 ≤ σ 11 ∧ σ 11 + 3232 * (n : Int) ≤ 2000000000 ∧ σ 14 + (n : Int) ≤ 20000) (res : (Nat → Int) × (Nat → Int)) (hres : rdN n σ ρ = res) (hx : ∀ (u0 : Int × Int) (H : Heap) (locs : List Loc) (ls : Array Slot), bw E A s H locs [cMod a p1 p2 p3 p4 p5 p6 pm u0.1 u0.2 rd wr sm, cAt E p1 res.1 res.2] → lv_has ls 4 [(0, .ref a)] → W p l e ({ frames := 5, cells := 0, slots := 0, locals := 121 } : Room) s m args below meth c H locs 0 0 Q (F0 m 62 ls [])) (H : Heap) (locs : List Loc) (ls : Array Slot) (B : bw E A s H locs [cMod a p1 p2 p3 p4 p5 p6 pm ig mo rd wr sm, cAt E p1 σ ρ]) (hl : lv_has ls 4 [(0, .ref a), (1, .int (iI 114)), (2, .int (iI nm)), (3, .int (iI j))]), W p l e ({ frames := 5, cells := 0, slots := 0, locals := 121 } : Room) s m args below meth c H locs 0 0 Q (F0 m 46 ls []) := by
  intro n
  induction n with
  | zero =>
    intro j σ ρ ig mo hj hs hn ht res hres hx H locs ls B hl
    refine z_iload_n S (pc := 46) dX8_carriesOut_46 rfl (lv_at hl 3 rfl) ?_
    refine z_iload_n S (pc := 47) dX8_carriesOut_47 rfl (lv_at hl 2 rfl) ?_
    refine z_icmp_ge S (pc := 48) (tgt := 62) (by omega) (by omega) dX8_carriesOut_48 rfl (fun c1 => ?_) (fun c1 => absurd c1 (by omega))
    subst hres
    exact hx ⟨ig, mo⟩ _ _ _ B (lv_sub hl [0] rfl)
  | succ n ih =>
    intro j σ ρ ig mo hj hs hn ht res hres hx H locs ls B hl
    refine z_iload_n S (pc := 46) dX8_carriesOut_46 rfl (lv_at hl 3 rfl) ?_
    refine z_iload_n S (pc := 47) dX8_carriesOut_47 rfl (lv_at hl 2 rfl) ?_
    refine z_icmp_ge S (pc := 48) (tgt := 62) (by omega) (by omega) dX8_carriesOut_48 rfl (fun c1 => ?_) (fun c1 => ?_)
    · exact absurd c1 (by omega)
    · refine z_aload_n S (pc := 51) dX8_carriesOut_51 rfl (lv_at hl 0 rfl) ?_
      refine z_callV S (pc := 52) B (wr := []) (wn := fun _ => [cMod a p1 p2 p3 p4 p5 p6 pm ((cvF (rz σ) (gn (rz σ 10))).1) (ov0 (rz σ)) rd wr sm, cAt E p1 (rdS σ) (rowS σ ρ)]) (st1 := fun _ => [.long (iL (val0 (rz σ)))]) (As := []) (mX8_makeReading l E a p1 p2 p3 p4 p5 p6 σ ρ pm ig mo rd wr sm (show Sets σ from by assumption) (show Nums σ from by assumption) (show 0 ≤ σ 11 ∧ σ 11 ≤ 2000000000 from by omega)) gX8_carriesOut_X8_makeReading 0 rfl (by decide +kernel) ⟨Nat.le_of_ble_eq_true rfl, Nat.le_of_ble_eq_true rfl, Nat.le_of_ble_eq_true rfl, Nat.le_of_ble_eq_true rfl⟩ 0 rfl (q := (RX8, TX8, 12)) rfl rfl [0, 1] [] [0, 1] rfl rfl ⟨rfl, rfl, rfl, by decide⟩ (fun _ => rfl) rfl (fun _ => rfl) hl.1 (Nat.le_of_ble_eq_true rfl) rfl dX8_carriesOut_52 (fun _ _ H locs B => ?_)
      refine lv_pop2_2 S.1 S.2.1 (pc := 55) dX8_carriesOut_55 rfl ?_
      refine lv_iinc (v := iI (j + 1)) (lv' := [(3, .int (iI (j + 1))), (0, .ref a), (1, .int (iI 114)), (2, .int (iI nm))]) S.1 S.2.1 (pc := 56) dX8_carriesOut_56 hl (k := 3) rfl (iI_add _ _) (by decide) rfl (fun ls hl => ?_)
      refine lv_goto S.1 S.2.1 (pc := 59) (tgt := 46) dX8_carriesOut_59 rfl ?_
      exact ih (j + 1) (rdS σ) (rowS σ ρ) ((cvF (rz σ) (gn (rz σ 10))).1) (ov0 (rz σ)) (by omega) (rdS_sets hs) (rdS_nums hs hn (by omega)) (by have e14 := rdS_14 σ; have t14 := rdS_time hs; omega) res hres hx _ _ _ B (lv_sub hl [1, 2, 3, 0] rfl)
set_option maxHeartbeats 4000000 in
set_option maxRecDepth 100000 in
theorem mX8_carriesOut_114 (l : Launch) (E : gT) (a : Nat) (p1 : Nat) (p2 : Nat) (p3 : Nat) (p4 : Nat) (p5 : Nat) (p6 : Nat) (σ : Nat → Int) (ρ : Nat → Int) (pm : Int) (ig : Int) (mo : Int) (rd : Int) (wr : Int) (sm : Int) (nm : Int) (hs : Sets σ) (hn : Nums σ) (h11 : 0 ≤ σ 11 ∧ σ 11 ≤ 1900000000) (hnm : 1 ≤ nm ∧ nm ≤ 99) (hr : σ 14 + nm ≤ 20000) : Ct l E yX8_carriesOut wsX8_carriesOut 5 121 0 0 [.ref a, .int (iI 114), .int (iI nm)] [cMod a p1 p2 p3 p4 p5 p6 pm ig mo rd wr sm, cAt E p1 σ ρ] (S0 := Int × Int) (fun u0 => True) (fun _ => (some (.int (iI 1)))) (fun u0 => [cMod a p1 p2 p3 p4 p5 p6 pm u0.1 u0.2 rd wr sm, cAt E p1 ((rdN nm.toNat σ ρ).1) ((rdN nm.toNat σ ρ).2)]) := by
  refine Ct.mk (cc := cX8_carriesOut) (maxL := 4) (ret := (some .boolean)) (plainFor_of_name (by decide)) rfl (Nat.le_of_ble_eq_true rfl) ?_
  intro p e s m below meth c A ls H locs S hr hlk hnm B hl
  have S : CallFix p m c cX8_carriesOut 4 s #[.ref a, .int (iI 114), .int (iI nm)] wsX8_carriesOut RX8 := S
  have hl : lv_has ls 4 [(0, .ref a), (1, .int (iI 114)), (2, .int (iI nm))] := hl
  refine z_iload_n S (pc := 0) dX8_carriesOut_0 rfl (lv_at hl 1 rfl) ?_
  · refine z_lsw S (pc := 1) (tgt := 44) (by omega) dX8_carriesOut_1 (by decide) rfl rfl ?_
    refine z_iconst S (pc := 44) dX8_carriesOut_44 ?_
    refine lv_istore_n (lv' := [(3, .int (iI 0)), (0, .ref a), (1, .int (iI 114)), (2, .int (iI nm))]) S.1 S.2.1 (pc := 45) dX8_carriesOut_45 rfl hl (by decide) rfl (fun ls hl => ?_)
    obtain ⟨z, hz⟩ : ∃ z, rdN nm.toNat σ ρ = z := ⟨_, rfl⟩
    refine lpX8_carriesOut E S a p1 p2 p3 p4 p5 p6 pm rd wr sm nm (by omega) nm.toNat 0 σ ρ ig mo (by omega) hs hn (by omega) z hz (fun u0 H locs ls B hl => ?_) _ _ _ B (lv_sub hl [1, 2, 3, 0] rfl)
    refine z_iconst S (pc := 62) dX8_carriesOut_62 ?_
    exact z_zreturn S (by omega) hr hlk B ⟨u0.1, u0.2⟩ trivial rfl (by rw [hz]) (pc := 63) dX8_carriesOut_63
set_option maxHeartbeats 4000000 in
set_option maxRecDepth 100000 in
theorem mX8_carriesOut_122 (l : Launch) (E : gT) (a : Nat) (p1 : Nat) (p2 : Nat) (p3 : Nat) (p4 : Nat) (p5 : Nat) (p6 : Nat) (σ : Nat → Int) (ρ : Nat → Int) (pm : Int) (ig : Int) (mo : Int) (rd : Int) (wr : Int) (sm : Int) (nm : Int) (hs : Sets σ) (hn : Nums σ) (h11 : 0 ≤ σ 11 ∧ σ 11 ≤ 1900000000) : Ct l E yX8_carriesOut wsX8_carriesOut 5 121 0 0 [.ref a, .int (iI 122), .int (iI nm)] [cMod a p1 p2 p3 p4 p5 p6 pm ig mo rd wr sm, cAt E p1 σ ρ] (S0 := Int × Int) (fun u0 => True) (fun _ => (some (.int (iI 1)))) (fun u0 => [cMod a p1 p2 p3 p4 p5 p6 pm u0.1 u0.2 rd wr sm, cAt E p1 (zrS σ) ρ]) := by
  refine Ct.mk (cc := cX8_carriesOut) (maxL := 4) (ret := (some .boolean)) (plainFor_of_name (by decide)) rfl (Nat.le_of_ble_eq_true rfl) ?_
  intro p e s m below meth c A ls H locs S hr hlk hnm B hl
  have S : CallFix p m c cX8_carriesOut 4 s #[.ref a, .int (iI 122), .int (iI nm)] wsX8_carriesOut RX8 := S
  have hl : lv_has ls 4 [(0, .ref a), (1, .int (iI 122)), (2, .int (iI nm))] := hl
  refine z_iload_n S (pc := 0) dX8_carriesOut_0 rfl (lv_at hl 1 rfl) ?_
  · refine z_lsw S (pc := 1) (tgt := 64) (by omega) dX8_carriesOut_1 (by decide) rfl rfl ?_
    refine z_aload_n S (pc := 64) dX8_carriesOut_64 rfl (lv_at hl 0 rfl) ?_
    refine z_callV S (pc := 65) B (wr := []) (wn := fun _ => [cMod a p1 p2 p3 p4 p5 p6 pm ((cvF σ 0).1) (ovr σ 0) rd wr sm, cAt E p1 (up (cvt σ 0) 12 (cnt σ 0)) ρ]) (st1 := fun _ => [.int (iI (cnt σ 0 + 10000000))]) (As := []) (mX8_zero l E a p1 p2 p3 p4 p5 p6 σ ρ pm ig mo rd wr sm (show Sets σ from by assumption) (show 0 ≤ σ 11 ∧ σ 11 ≤ 2000000000 from by omega)) gX8_carriesOut_X8_zero 0 rfl (by decide +kernel) ⟨Nat.le_of_ble_eq_true rfl, Nat.le_of_ble_eq_true rfl, Nat.le_of_ble_eq_true rfl, Nat.le_of_ble_eq_true rfl⟩ 0 rfl (q := (RX8, TX8, 12)) rfl rfl [0, 1] [] [0, 1] rfl rfl ⟨rfl, rfl, rfl, by decide⟩ (fun _ => rfl) rfl (fun _ => rfl) hl.1 (Nat.le_of_ble_eq_true rfl) rfl dX8_carriesOut_65 (fun _ _ H locs B => ?_)
    refine lv_pop S.1 S.2.1 (pc := 68) dX8_carriesOut_68 rfl ?_
    refine z_iconst S (pc := 69) dX8_carriesOut_69 ?_
    exact z_zreturn S (by omega) hr hlk B ⟨(cvF σ 0).1, ovr σ 0⟩ trivial rfl rfl (pc := 70) dX8_carriesOut_70
set_option maxHeartbeats 4000000 in
set_option maxRecDepth 100000 in
theorem mX8_carriesOut_119 (l : Launch) (E : gT) (a : Nat) (p1 : Nat) (p2 : Nat) (p3 : Nat) (p4 : Nat) (p5 : Nat) (p6 : Nat) (σ : Nat → Int) (ρ : Nat → Int) (pm : Int) (ig : Int) (mo : Int) (rd : Int) (wr : Int) (sm : Int) (nm : Int) (hs : Sets σ) (hn : Nums σ) (h11 : 0 ≤ σ 11 ∧ σ 11 ≤ 1900000000) (hnm : 1 ≤ nm ∧ nm ≤ 9999) (hw : σ 11 + nm ≤ 1000000000) : Ct l E yX8_carriesOut wsX8_carriesOut 5 121 0 0 [.ref a, .int (iI 119), .int (iI nm)] [cMod a p1 p2 p3 p4 p5 p6 pm ig mo rd wr sm, cAt E p1 σ ρ] (S0 := Int × Int) (fun u0 => True) (fun _ => (some (.int (iI 1)))) (fun u0 => [cMod a p1 p2 p3 p4 p5 p6 pm u0.1 u0.2 rd wr sm, cAt E p1 (up σ 11 (σ 11 + nm)) ρ]) := by
  refine Ct.mk (cc := cX8_carriesOut) (maxL := 4) (ret := (some .boolean)) (plainFor_of_name (by decide)) rfl (Nat.le_of_ble_eq_true rfl) ?_
  intro p e s m below meth c A ls H locs S hr hlk hnm B hl
  have S : CallFix p m c cX8_carriesOut 4 s #[.ref a, .int (iI 119), .int (iI nm)] wsX8_carriesOut RX8 := S
  have hl : lv_has ls 4 [(0, .ref a), (1, .int (iI 119)), (2, .int (iI nm))] := hl
  refine z_iload_n S (pc := 0) dX8_carriesOut_0 rfl (lv_at hl 1 rfl) ?_
  · refine z_lsw S (pc := 1) (tgt := 71) (by omega) dX8_carriesOut_1 (by decide) rfl rfl ?_
    refine z_aload_n S (pc := 71) dX8_carriesOut_71 rfl (lv_at hl 0 rfl) ?_
    refine z_iload_n S (pc := 72) dX8_carriesOut_72 rfl (lv_at hl 2 rfl) ?_
    refine z_callV S (pc := 73) B (wr := []) (wn := fun _ => [cMod a p1 p2 p3 p4 p5 p6 pm ig mo rd wr sm, cAt E p1 (up σ 11 (σ 11 + nm)) ρ]) (st1 := fun _ => [.int (iI (σ 11 + nm))]) (As := [.int (iI nm)]) (mX8_pass l E a p1 p2 p3 p4 p5 p6 σ ρ pm ig mo rd wr sm nm (show 1 ≤ nm ∧ nm ≤ 100000 from by omega) (show 0 ≤ σ 11 ∧ σ 11 ≤ 2000000000 from by omega) (show σ 11 + nm ≤ 1000000000 from by omega)) gX8_carriesOut_X8_pass 1 rfl (by decide +kernel) ⟨Nat.le_of_ble_eq_true rfl, Nat.le_of_ble_eq_true rfl, Nat.le_of_ble_eq_true rfl, Nat.le_of_ble_eq_true rfl⟩ 0 rfl (q := (RX8, TX8, 12)) rfl rfl [0, 1] [] [0, 1] rfl rfl ⟨rfl, rfl, rfl, by decide⟩ (fun _ => rfl) rfl (fun _ => rfl) hl.1 (Nat.le_of_ble_eq_true rfl) rfl dX8_carriesOut_73 (fun _ _ H locs B => ?_)
    refine z_if_lt S (pc := 76) (tgt := 83) (by omega) dX8_carriesOut_76 rfl (fun c1 => absurd c1 (by omega)) (fun c1 => ?_)
    refine z_iconst S (pc := 79) dX8_carriesOut_79 ?_
    refine lv_goto S.1 S.2.1 (pc := 80) (tgt := 84) dX8_carriesOut_80 rfl ?_
    exact z_zreturn S (by omega) hr hlk B ⟨ig, mo⟩ trivial rfl rfl (pc := 84) dX8_carriesOut_84
set_option maxHeartbeats 4000000 in
set_option maxRecDepth 100000 in
theorem mX8_carriesOut_119n (l : Launch) (E : gT) (a : Nat) (p1 : Nat) (p2 : Nat) (p3 : Nat) (p4 : Nat) (p5 : Nat) (p6 : Nat) (σ : Nat → Int) (ρ : Nat → Int) (pm : Int) (ig : Int) (mo : Int) (rd : Int) (wr : Int) (sm : Int) (nm : Int) (hs : Sets σ) (hn : Nums σ) (h11 : 0 ≤ σ 11 ∧ σ 11 ≤ 1900000000) (hnm : 1 ≤ nm ∧ nm ≤ 9999) (hw : 1000000000 < σ 11 + nm) : Ct l E yX8_carriesOut wsX8_carriesOut 5 121 0 0 [.ref a, .int (iI 119), .int (iI nm)] [cMod a p1 p2 p3 p4 p5 p6 pm ig mo rd wr sm, cAt E p1 σ ρ] (S0 := Int × Int) (fun u0 => True) (fun _ => (some (.int (iI 0)))) (fun u0 => [cMod a p1 p2 p3 p4 p5 p6 pm u0.1 u0.2 rd wr sm, cAt E p1 σ ρ]) := by
  refine Ct.mk (cc := cX8_carriesOut) (maxL := 4) (ret := (some .boolean)) (plainFor_of_name (by decide)) rfl (Nat.le_of_ble_eq_true rfl) ?_
  intro p e s m below meth c A ls H locs S hr hlk hnm B hl
  have S : CallFix p m c cX8_carriesOut 4 s #[.ref a, .int (iI 119), .int (iI nm)] wsX8_carriesOut RX8 := S
  have hl : lv_has ls 4 [(0, .ref a), (1, .int (iI 119)), (2, .int (iI nm))] := hl
  refine z_iload_n S (pc := 0) dX8_carriesOut_0 rfl (lv_at hl 1 rfl) ?_
  · refine z_lsw S (pc := 1) (tgt := 71) (by omega) dX8_carriesOut_1 (by decide) rfl rfl ?_
    refine z_aload_n S (pc := 71) dX8_carriesOut_71 rfl (lv_at hl 0 rfl) ?_
    refine z_iload_n S (pc := 72) dX8_carriesOut_72 rfl (lv_at hl 2 rfl) ?_
    refine z_callV S (pc := 73) B (wr := []) (wn := fun _ => [cMod a p1 p2 p3 p4 p5 p6 pm ig mo rd wr sm, cAt E p1 σ ρ]) (st1 := fun _ => [.int (iI (-5))]) (As := [.int (iI nm)]) (mX8_pass_m l E a p1 p2 p3 p4 p5 p6 σ ρ pm ig mo rd wr sm nm (show 1 ≤ nm ∧ nm ≤ 100000 from by omega) (show 0 ≤ σ 11 ∧ σ 11 ≤ 2000000000 from by omega) (show 1000000000 < σ 11 + nm from by omega)) gX8_carriesOut_X8_pass 1 rfl (by decide +kernel) ⟨Nat.le_of_ble_eq_true rfl, Nat.le_of_ble_eq_true rfl, Nat.le_of_ble_eq_true rfl, Nat.le_of_ble_eq_true rfl⟩ 0 rfl (q := (RX8, TX8, 12)) rfl rfl [0, 1] [] [0, 1] rfl rfl ⟨rfl, rfl, rfl, by decide⟩ (fun _ => rfl) rfl (fun _ => rfl) hl.1 (Nat.le_of_ble_eq_true rfl) rfl dX8_carriesOut_73 (fun _ _ H locs B => ?_)
    refine z_if_lt S (pc := 76) (tgt := 83) (by omega) dX8_carriesOut_76 rfl (fun c1 => ?_) (fun c1 => absurd c1 (by omega))
    refine z_iconst S (pc := 83) dX8_carriesOut_83 ?_
    exact z_zreturn S (by omega) hr hlk B ⟨ig, mo⟩ trivial rfl rfl (pc := 84) dX8_carriesOut_84
theorem iX8_carriesOut_X8 : ∀ w ∈ wsX80, w ∈ wsX8_carriesOut := by decide +kernel
set_option maxHeartbeats 4000000 in
set_option maxRecDepth 100000 in
theorem mX8_carriesOut_108 (l : Launch) (E : gT) (a : Nat) (p1 : Nat) (p2 : Nat) (p3 : Nat) (p4 : Nat) (p5 : Nat) (p6 : Nat) (σ : Nat → Int) (ρ : Nat → Int) (pm : Int) (ig : Int) (mo : Int) (rd : Int) (wr : Int) (sm : Int) (nm : Int) (hs : Sets σ) (hn : Nums σ) (h11 : 0 ≤ σ 11 ∧ σ 11 ≤ 1900000000) (hnm : -3000000 ≤ nm ∧ nm ≤ 3000000) : Ct l E yX8_carriesOut wsX8_carriesOut 5 121 0 0 [.ref a, .int (iI 108), .int (iI nm)] [cMod a p1 p2 p3 p4 p5 p6 pm ig mo rd wr sm, cAt E p1 σ ρ] (S0 := Int × Int) (fun u0 => True) (fun _ => (some (.int (iI 1)))) (fun u0 => [cMod a p1 p2 p3 p4 p5 p6 pm u0.1 u0.2 rd wr sm, cAt E p1 (up σ 0 nm) ρ]) := by
  refine Ct.mk (cc := cX8_carriesOut) (maxL := 4) (ret := (some .boolean)) (plainFor_of_name (by decide)) rfl (Nat.le_of_ble_eq_true rfl) ?_
  intro p e s m below meth c A ls H locs S hr hlk hnm B hl
  have S : CallFix p m c cX8_carriesOut 4 s #[.ref a, .int (iI 108), .int (iI nm)] wsX8_carriesOut RX8 := S
  have hl : lv_has ls 4 [(0, .ref a), (1, .int (iI 108)), (2, .int (iI nm))] := hl
  refine z_iload_n S (pc := 0) dX8_carriesOut_0 rfl (lv_at hl 1 rfl) ?_
  · refine z_lsw S (pc := 1) (tgt := 85) (by omega) dX8_carriesOut_1 (by decide) rfl rfl ?_
    refine z_aload_n S (pc := 85) dX8_carriesOut_85 rfl (lv_at hl 0 rfl) ?_
    refine z_get S (pc := 86) B iX8_carriesOut_X8 0 rfl rfl 0 (by decide) rfl rfl (by decide +kernel) dX8_carriesOut_86 ?_
    refine z_iconst S (pc := 89) dX8_carriesOut_89 ?_
    refine z_iload_n S (pc := 90) dX8_carriesOut_90 rfl (lv_at hl 2 rfl) ?_
    refine z_i2l S (pc := 91) (by omega) dX8_carriesOut_91 ?_
    refine z_last S (pc := 92) B 1 2 rfl rfl (k := 0) rfl (by decide) (by decide) dX8_carriesOut_92 (wn := [cMod a p1 p2 p3 p4 p5 p6 pm ig mo rd wr sm, cAt E p1 (up σ 0 nm) ρ]) (by rw [lmu _ _ (by decide)]; rfl) (fun H locs B => ?_)
    refine z_iconst S (pc := 93) dX8_carriesOut_93 ?_
    exact z_zreturn S (by omega) hr hlk B ⟨ig, mo⟩ trivial rfl rfl (pc := 94) dX8_carriesOut_94
set_option maxHeartbeats 4000000 in
set_option maxRecDepth 100000 in
theorem mX8_carriesOut_103 (l : Launch) (E : gT) (a : Nat) (p1 : Nat) (p2 : Nat) (p3 : Nat) (p4 : Nat) (p5 : Nat) (p6 : Nat) (σ : Nat → Int) (ρ : Nat → Int) (pm : Int) (ig : Int) (mo : Int) (rd : Int) (wr : Int) (sm : Int) (nm : Int) (hs : Sets σ) (hn : Nums σ) (h11 : 0 ≤ σ 11 ∧ σ 11 ≤ 1900000000) (hnm : 0 ≤ nm ∧ nm ≤ 3) : Ct l E yX8_carriesOut wsX8_carriesOut 5 121 0 0 [.ref a, .int (iI 103), .int (iI nm)] [cMod a p1 p2 p3 p4 p5 p6 pm ig mo rd wr sm, cAt E p1 σ ρ] (S0 := Int × Int) (fun u0 => True) (fun _ => (some (.int (iI 1)))) (fun u0 => [cMod a p1 p2 p3 p4 p5 p6 pm u0.1 u0.2 rd wr sm, cAt E p1 (up σ 10 nm) ρ]) := by
  refine Ct.mk (cc := cX8_carriesOut) (maxL := 4) (ret := (some .boolean)) (plainFor_of_name (by decide)) rfl (Nat.le_of_ble_eq_true rfl) ?_
  intro p e s m below meth c A ls H locs S hr hlk hnm B hl
  have S : CallFix p m c cX8_carriesOut 4 s #[.ref a, .int (iI 103), .int (iI nm)] wsX8_carriesOut RX8 := S
  have hl : lv_has ls 4 [(0, .ref a), (1, .int (iI 103)), (2, .int (iI nm))] := hl
  refine z_iload_n S (pc := 0) dX8_carriesOut_0 rfl (lv_at hl 1 rfl) ?_
  · refine z_lsw S (pc := 1) (tgt := 95) (by omega) dX8_carriesOut_1 (by decide) rfl rfl ?_
    refine z_aload_n S (pc := 95) dX8_carriesOut_95 rfl (lv_at hl 0 rfl) ?_
    refine z_get S (pc := 96) B iX8_carriesOut_X8 0 rfl rfl 0 (by decide) rfl rfl (by decide +kernel) dX8_carriesOut_96 ?_
    refine z_bipush S (pc := 99) dX8_carriesOut_99 rfl ?_
    refine z_iload_n S (pc := 101) dX8_carriesOut_101 rfl (lv_at hl 2 rfl) ?_
    refine z_i2l S (pc := 102) (by omega) dX8_carriesOut_102 ?_
    refine z_last S (pc := 103) B 1 2 rfl rfl (k := 10) rfl (by decide) (by decide) dX8_carriesOut_103 (wn := [cMod a p1 p2 p3 p4 p5 p6 pm ig mo rd wr sm, cAt E p1 (up σ 10 nm) ρ]) (by rw [lmu _ _ (by decide)]; rfl) (fun H locs B => ?_)
    refine z_iconst S (pc := 104) dX8_carriesOut_104 ?_
    exact z_zreturn S (by omega) hr hlk B ⟨ig, mo⟩ trivial rfl rfl (pc := 105) dX8_carriesOut_105
theorem iX8_run_X8 : ∀ w ∈ wsX80, w ∈ wsX8_run := by decide +kernel
set_option maxHeartbeats 8000000 in
set_option maxRecDepth 100000 in
theorem lpX8_run {p : Program} {l : Launch} {e : Env} {s : State} {m : MethodId} {args : Array Value} {below : List Frame} {meth : Method} {c : Code} {Q : State → Prop} {A : Nat → Prop} (E : gT) (S : CallFix p m c cX8_run 3 s args wsX8_run RX8) (a : Nat) (p1 : Nat) (p2 : Nat) (p3 : Nat) (p4 : Nat) (p5 : Nat) (p6 : Nat) (pm : Int) (rd : Int) (wr : Int) (sm : Int) (α : Nat → Int) (ψ : Nat → Int) (mn : Int) (χ : Nat → Int) (hps : 0 ≤ sm ∧ sm ≤ 31) (hok : okM ψ sm) :
    ∀ (n : Nat) (k : Int) (σ : Nat → Int) (ρ : Nat → Int) (ig : Int) (mo : Int) (hk : 0 ≤ k ∧ k + (n : Int) = sm) (hs : Sets σ) (hn : Nums σ) (hr : sumS (ev ψ) (od ψ) n k (σ 14) ≤ 10000) (ht : 0 ≤ σ 11 ∧ σ 11 + 3300 * (10000 - σ 14) + 1650 * (n : Int) ≤ 1900000000) (res : Int × (Nat → Int) × (Nat → Int)) (hres : exeL (ev ψ) (od ψ) n k σ ρ = res) (hx : ∀ (u0 : Int × Int) (H : Heap) (locs : List Loc) (ls : Array Slot) (pc : Nat), bw E A s H locs [cMod a p1 p2 p3 p4 p5 p6 pm u0.1 u0.2 rd wr sm, cAt E p1 res.2.1 res.2.2, cLon E p2 303 α, cInt E p5 60 χ, cInt E p6 120 ψ] → lv_has ls 3 [(0, .ref a), (1, .int (iI mn))] → ((pc = 76 ∧ res.1 = 0) ∨ (pc = 89 ∧ res.1 = 1)) → W p l e ({ frames := 6, cells := 0, slots := 0, locals := 144 } : Room) s m args below meth c H locs 0 0 Q (F0 m pc ls [])) (H : Heap) (locs : List Loc) (ls : Array Slot) (B : bw E A s H locs [cMod a p1 p2 p3 p4 p5 p6 pm ig mo rd wr sm, cAt E p1 σ ρ, cLon E p2 303 α, cInt E p5 60 χ, cInt E p6 120 ψ]) (hl : lv_has ls 3 [(0, .ref a), (1, .int (iI mn)), (2, .int (iI k))]), W p l e ({ frames := 6, cells := 0, slots := 0, locals := 144 } : Room) s m args below meth c H locs 0 0 Q (F0 m 43 ls []) := by
  intro n
  induction n with
  | zero =>
    intro k σ ρ ig mo hk hs hn hr ht res hres hx H locs ls B hl
    have hn14 := hn.2.2.1
    refine z_iload_n S (pc := 43) dX8_run_43 rfl (lv_at hl 2 rfl) ?_
    refine z_aload_n S (pc := 44) dX8_run_44 rfl (lv_at hl 0 rfl) ?_
    refine z_get S (pc := 45) B iX8_run_X8 0 rfl rfl 11 (by decide) rfl rfl (by decide +kernel) dX8_run_45 ?_
    refine z_icmp_ge S (pc := 48) (tgt := 89) (by omega) (by omega) dX8_run_48 rfl (fun c1 => ?_) (fun c1 => absurd c1 (by omega))
    subst hres
    exact hx ⟨ig, mo⟩ _ _ _ 89 B (lv_sub hl [0, 1] rfl) (Or.inr ⟨rfl, rfl⟩)
  | succ n ih =>
    intro k σ ρ ig mo hk hs hn hr ht res hres hx H locs ls B hl
    have hn14 := hn.2.2.1
    have hokk := hok k.toNat (by omega)
    have hge := sumS_ge (κ := ev ψ) (ν := od ψ) hok n (k + 1) (if (ψ (2 * k.toNat)) = 114 then σ 14 + (ψ (2 * k.toNat + 1)) else σ 14) (by omega) (by omega)
    have hr2 : sumS (ev ψ) (od ψ) n (k + 1) (if (ψ (2 * k.toNat)) = 114 then σ 14 + (ψ (2 * k.toNat + 1)) else σ 14) ≤ 10000 := by simp only [sumS] at hr; exact hr
    refine z_iload_n S (pc := 43) dX8_run_43 rfl (lv_at hl 2 rfl) ?_
    refine z_aload_n S (pc := 44) dX8_run_44 rfl (lv_at hl 0 rfl) ?_
    refine z_get S (pc := 45) B iX8_run_X8 0 rfl rfl 11 (by decide) rfl rfl (by decide +kernel) dX8_run_45 ?_
    refine z_icmp_ge S (pc := 48) (tgt := 89) (by omega) (by omega) dX8_run_48 rfl (fun c1 => absurd c1 (by omega)) (fun c1 => ?_)
    refine z_aload_n S (pc := 51) dX8_run_51 rfl (lv_at hl 0 rfl) ?_
    refine z_aload_n S (pc := 52) dX8_run_52 rfl (lv_at hl 0 rfl) ?_
    refine z_get S (pc := 53) B iX8_run_X8 0 rfl rfl 10 (by decide) rfl rfl (by decide +kernel) dX8_run_53 ?_
    refine z_iconst S (pc := 56) dX8_run_56 ?_
    refine z_iload_n S (pc := 57) dX8_run_57 rfl (lv_at hl 2 rfl) ?_
    refine z_imul S (pc := 58) dX8_run_58 ?_
    refine z_iald S (pc := 59) B 4 1 rfl rfl (k := 2 * k.toNat) (by omega) (by omega) (by decide) (v := .int (iI (ψ (2 * k.toNat)))) rfl dX8_run_59 ?_
    refine z_aload_n S (pc := 60) dX8_run_60 rfl (lv_at hl 0 rfl) ?_
    refine z_get S (pc := 61) B iX8_run_X8 0 rfl rfl 10 (by decide) rfl rfl (by decide +kernel) dX8_run_61 ?_
    refine z_iconst S (pc := 64) dX8_run_64 ?_
    refine z_iload_n S (pc := 65) dX8_run_65 rfl (lv_at hl 2 rfl) ?_
    refine z_imul S (pc := 66) dX8_run_66 ?_
    refine z_iconst S (pc := 67) dX8_run_67 ?_
    refine z_iadd S (pc := 68) dX8_run_68 ?_
    refine z_iald S (pc := 69) B 4 1 rfl rfl (k := 2 * k.toNat + 1) (by omega) (by omega) (by decide) (v := .int (iI (ψ (2 * k.toNat + 1)))) rfl dX8_run_69 ?_
    rcases (show ψ (2 * k.toNat) = 114 ∨ ψ (2 * k.toNat) = 122 ∨ (ψ (2 * k.toNat) = 119 ∧ σ 11 + ψ (2 * k.toNat + 1) ≤ 1000000000) ∨ (ψ (2 * k.toNat) = 119 ∧ 1000000000 < σ 11 + ψ (2 * k.toNat + 1)) ∨ ψ (2 * k.toNat) = 108 ∨ ψ (2 * k.toNat) = 103 from by omega) with hkd | hkd | ⟨hkd, hwt⟩ | ⟨hkd, hwt⟩ | hkd | hkd
    · rw [show Value.int (iI (ψ (2 * k.toNat))) = Value.int (iI 114) from by rw [hkd]]
      have hnu := hokk.2.1 hkd
      have hge0 := hge
      rw [if_pos hkd] at hge0
      refine z_callV S (pc := 70) B (wr := [cLon E p2 303 α, cInt E p5 60 χ, cInt E p6 120 ψ]) (wn := fun u2 => [cMod a p1 p2 p3 p4 p5 p6 pm u2.1 u2.2 rd wr sm, cAt E p1 ((rdN (ψ (2 * k.toNat + 1)).toNat σ ρ).1) ((rdN (ψ (2 * k.toNat + 1)).toNat σ ρ).2), cLon E p2 303 α, cInt E p5 60 χ, cInt E p6 120 ψ]) (st1 := fun _ => [.int (iI 1)]) (As := [.int (iI 114), .int (iI (ψ (2 * k.toNat + 1)))]) (mX8_carriesOut_114 l E a p1 p2 p3 p4 p5 p6 σ ρ pm ig mo rd wr sm (ψ (2 * k.toNat + 1)) (show Sets σ from by assumption) (show Nums σ from by assumption) (show 0 ≤ σ 11 ∧ σ 11 ≤ 1900000000 from by omega) (show 1 ≤ (ψ (2 * k.toNat + 1)) ∧ (ψ (2 * k.toNat + 1)) ≤ 99 from by omega) (show σ 14 + (ψ (2 * k.toNat + 1)) ≤ 20000 from by omega)) gX8_run_X8_carriesOut 2 rfl (by decide +kernel) ⟨Nat.le_of_ble_eq_true rfl, Nat.le_of_ble_eq_true rfl, Nat.le_of_ble_eq_true rfl, Nat.le_of_ble_eq_true rfl⟩ 0 rfl (q := (RX8, TX8, 12)) rfl rfl [0, 1] [2, 3, 4] [3, 4, 0, 1, 2] rfl rfl ⟨rfl, rfl, rfl, by decide⟩ (fun _ => rfl) rfl (fun _ => rfl) hl.1 (Nat.le_of_ble_eq_true rfl) rfl dX8_run_70 (fun u2 hu2 H locs B => ?_)
      refine z_if_ne S (pc := 73) (tgt := 83) (by omega) dX8_run_73 rfl (fun c3 => ?_) (fun c3 => absurd c3 (by omega))
      refine lv_iinc (v := iI (k + 1)) (lv' := [(2, .int (iI (k + 1))), (0, .ref a), (1, .int (iI mn))]) S.1 S.2.1 (pc := 83) dX8_run_83 hl (k := 2) rfl (iI_add _ _) (by decide) rfl (fun ls hl => ?_)
      refine lv_goto S.1 S.2.1 (pc := 86) (tgt := 43) dX8_run_86 rfl ?_
      have hnu := hokk.2.1 hkd
      rw [if_pos hkd] at hge hr2
      have hzi := rdN_inv (ψ (2 * k.toNat + 1)).toNat σ ρ hs hn (by omega)
      obtain ⟨hzs, hzn, hz14, hzt, hzt2⟩ := hzi
      have hst1 : stp1 (ev ψ k.toNat) (od ψ k.toNat) σ ρ = (1, rdN (ψ (2 * k.toNat + 1)).toNat σ ρ) := stp1_r hkd
      exact ih (k + 1) (rdN (ψ (2 * k.toNat + 1)).toNat σ ρ).1 (rdN (ψ (2 * k.toNat + 1)).toNat σ ρ).2 u2.1 u2.2 (by omega) hzs hzn (by rw [hz14, show (((ψ (2 * k.toNat + 1)).toNat : Nat) : Int) = ψ (2 * k.toNat + 1) from by omega]; exact hr2) (by omega) res (by rw [← hres]; simp only [exeL]; rw [hst1, if_neg (by show ¬ (1 : Int) = 0; omega)]) hx _ _ _ B (lv_sub hl [1, 2, 0] rfl)
    · rw [show Value.int (iI (ψ (2 * k.toNat))) = Value.int (iI 122) from by rw [hkd]]
      refine z_callV S (pc := 70) B (wr := [cLon E p2 303 α, cInt E p5 60 χ, cInt E p6 120 ψ]) (wn := fun u4 => [cMod a p1 p2 p3 p4 p5 p6 pm u4.1 u4.2 rd wr sm, cAt E p1 (zrS σ) ρ, cLon E p2 303 α, cInt E p5 60 χ, cInt E p6 120 ψ]) (st1 := fun _ => [.int (iI 1)]) (As := [.int (iI 122), .int (iI (ψ (2 * k.toNat + 1)))]) (mX8_carriesOut_122 l E a p1 p2 p3 p4 p5 p6 σ ρ pm ig mo rd wr sm (ψ (2 * k.toNat + 1)) (show Sets σ from by assumption) (show Nums σ from by assumption) (show 0 ≤ σ 11 ∧ σ 11 ≤ 1900000000 from by omega)) gX8_run_X8_carriesOut 2 rfl (by decide +kernel) ⟨Nat.le_of_ble_eq_true rfl, Nat.le_of_ble_eq_true rfl, Nat.le_of_ble_eq_true rfl, Nat.le_of_ble_eq_true rfl⟩ 0 rfl (q := (RX8, TX8, 12)) rfl rfl [0, 1] [2, 3, 4] [3, 4, 0, 1, 2] rfl rfl ⟨rfl, rfl, rfl, by decide⟩ (fun _ => rfl) rfl (fun _ => rfl) hl.1 (Nat.le_of_ble_eq_true rfl) rfl dX8_run_70 (fun u4 hu4 H locs B => ?_)
      refine z_if_ne S (pc := 73) (tgt := 83) (by omega) dX8_run_73 rfl (fun c5 => ?_) (fun c5 => absurd c5 (by omega))
      refine lv_iinc (v := iI (k + 1)) (lv' := [(2, .int (iI (k + 1))), (0, .ref a), (1, .int (iI mn))]) S.1 S.2.1 (pc := 83) dX8_run_83 hl (k := 2) rfl (iI_add _ _) (by decide) rfl (fun ls hl => ?_)
      refine lv_goto S.1 S.2.1 (pc := 86) (tgt := 43) dX8_run_86 rfl ?_
      rw [if_neg (show ¬ ψ (2 * k.toNat) = 114 from by omega)] at hge hr2
      have hst1 : stp1 (ev ψ k.toNat) (od ψ k.toNat) σ ρ = (1, zrS σ, ρ) := stp1_z hkd
      exact ih (k + 1) (zrS σ) ρ u4.1 u4.2 (by omega) (zrS_sets hs) (zrS_nums hs hn) hr2 (by have t14 := zrS_time hs; have e14 : zrS σ 14 = σ 14 := rfl; omega) res (by rw [← hres]; simp only [exeL]; rw [hst1, if_neg (by show ¬ (1 : Int) = 0; omega)]) hx _ _ _ B (lv_sub hl [1, 2, 0] rfl)
    · rw [show Value.int (iI (ψ (2 * k.toNat))) = Value.int (iI 119) from by rw [hkd]]
      have hnu := hokk.2.2.1 hkd
      refine z_callV S (pc := 70) B (wr := [cLon E p2 303 α, cInt E p5 60 χ, cInt E p6 120 ψ]) (wn := fun u6 => [cMod a p1 p2 p3 p4 p5 p6 pm u6.1 u6.2 rd wr sm, cAt E p1 (up σ 11 (σ 11 + (ψ (2 * k.toNat + 1)))) ρ, cLon E p2 303 α, cInt E p5 60 χ, cInt E p6 120 ψ]) (st1 := fun _ => [.int (iI 1)]) (As := [.int (iI 119), .int (iI (ψ (2 * k.toNat + 1)))]) (mX8_carriesOut_119 l E a p1 p2 p3 p4 p5 p6 σ ρ pm ig mo rd wr sm (ψ (2 * k.toNat + 1)) (show Sets σ from by assumption) (show Nums σ from by assumption) (show 0 ≤ σ 11 ∧ σ 11 ≤ 1900000000 from by omega) (show 1 ≤ (ψ (2 * k.toNat + 1)) ∧ (ψ (2 * k.toNat + 1)) ≤ 9999 from by omega) (show σ 11 + (ψ (2 * k.toNat + 1)) ≤ 1000000000 from by omega)) gX8_run_X8_carriesOut 2 rfl (by decide +kernel) ⟨Nat.le_of_ble_eq_true rfl, Nat.le_of_ble_eq_true rfl, Nat.le_of_ble_eq_true rfl, Nat.le_of_ble_eq_true rfl⟩ 0 rfl (q := (RX8, TX8, 12)) rfl rfl [0, 1] [2, 3, 4] [3, 4, 0, 1, 2] rfl rfl ⟨rfl, rfl, rfl, by decide⟩ (fun _ => rfl) rfl (fun _ => rfl) hl.1 (Nat.le_of_ble_eq_true rfl) rfl dX8_run_70 (fun u6 hu6 H locs B => ?_)
      refine z_if_ne S (pc := 73) (tgt := 83) (by omega) dX8_run_73 rfl (fun c7 => ?_) (fun c7 => absurd c7 (by omega))
      refine lv_iinc (v := iI (k + 1)) (lv' := [(2, .int (iI (k + 1))), (0, .ref a), (1, .int (iI mn))]) S.1 S.2.1 (pc := 83) dX8_run_83 hl (k := 2) rfl (iI_add _ _) (by decide) rfl (fun ls hl => ?_)
      refine lv_goto S.1 S.2.1 (pc := 86) (tgt := 43) dX8_run_86 rfl ?_
      rw [if_neg (show ¬ ψ (2 * k.toNat) = 114 from by omega)] at hge hr2
      have hnu := hokk.2.2.1 hkd
      have hst1 : stp1 (ev ψ k.toNat) (od ψ k.toNat) σ ρ = (1, up σ 11 (σ 11 + ψ (2 * k.toNat + 1)), ρ) := stp1_w hkd hwt
      exact ih (k + 1) (up σ 11 (σ 11 + ψ (2 * k.toNat + 1))) ρ u6.1 u6.2 (by omega) (hs) (hn) hr2 (by have e11 : (up σ 11 (σ 11 + ψ (2 * k.toNat + 1))) 11 = σ 11 + ψ (2 * k.toNat + 1) := rfl; have e14 : (up σ 11 (σ 11 + ψ (2 * k.toNat + 1))) 14 = σ 14 := rfl; omega) res (by rw [← hres]; simp only [exeL]; rw [hst1, if_neg (by show ¬ (1 : Int) = 0; omega)]) hx _ _ _ B (lv_sub hl [1, 2, 0] rfl)
    · rw [show Value.int (iI (ψ (2 * k.toNat))) = Value.int (iI 119) from by rw [hkd]]
      have hnu := hokk.2.2.1 hkd
      refine z_callV S (pc := 70) B (wr := [cLon E p2 303 α, cInt E p5 60 χ, cInt E p6 120 ψ]) (wn := fun u8 => [cMod a p1 p2 p3 p4 p5 p6 pm u8.1 u8.2 rd wr sm, cAt E p1 σ ρ, cLon E p2 303 α, cInt E p5 60 χ, cInt E p6 120 ψ]) (st1 := fun _ => [.int (iI 0)]) (As := [.int (iI 119), .int (iI (ψ (2 * k.toNat + 1)))]) (mX8_carriesOut_119n l E a p1 p2 p3 p4 p5 p6 σ ρ pm ig mo rd wr sm (ψ (2 * k.toNat + 1)) (show Sets σ from by assumption) (show Nums σ from by assumption) (show 0 ≤ σ 11 ∧ σ 11 ≤ 1900000000 from by omega) (show 1 ≤ (ψ (2 * k.toNat + 1)) ∧ (ψ (2 * k.toNat + 1)) ≤ 9999 from by omega) (show 1000000000 < σ 11 + (ψ (2 * k.toNat + 1)) from by omega)) gX8_run_X8_carriesOut 2 rfl (by decide +kernel) ⟨Nat.le_of_ble_eq_true rfl, Nat.le_of_ble_eq_true rfl, Nat.le_of_ble_eq_true rfl, Nat.le_of_ble_eq_true rfl⟩ 0 rfl (q := (RX8, TX8, 12)) rfl rfl [0, 1] [2, 3, 4] [3, 4, 0, 1, 2] rfl rfl ⟨rfl, rfl, rfl, by decide⟩ (fun _ => rfl) rfl (fun _ => rfl) hl.1 (Nat.le_of_ble_eq_true rfl) rfl dX8_run_70 (fun u8 hu8 H locs B => ?_)
      refine z_if_ne S (pc := 73) (tgt := 83) (by omega) dX8_run_73 rfl (fun c9 => absurd c9 (by omega)) (fun c9 => ?_)
      rw [if_neg (show ¬ ψ (2 * k.toNat) = 114 from by omega)] at hge hr2
      have hst1 : stp1 (ev ψ k.toNat) (od ψ k.toNat) σ ρ = (0, σ, ρ) := stp1_wn hkd hwt
      have hres : ((0 : Int), σ, ρ) = res := by rw [← hres]; simp only [exeL]; rw [hst1, if_pos rfl]
      subst hres
      exact hx ⟨u8.1, u8.2⟩ _ _ _ 76 B (lv_sub hl [0, 1] rfl) (Or.inl ⟨rfl, rfl⟩)
    · rw [show Value.int (iI (ψ (2 * k.toNat))) = Value.int (iI 108) from by rw [hkd]]
      have hnu := hokk.2.2.2.1 hkd
      refine z_callV S (pc := 70) B (wr := [cLon E p2 303 α, cInt E p5 60 χ, cInt E p6 120 ψ]) (wn := fun u10 => [cMod a p1 p2 p3 p4 p5 p6 pm u10.1 u10.2 rd wr sm, cAt E p1 (up σ 0 (ψ (2 * k.toNat + 1))) ρ, cLon E p2 303 α, cInt E p5 60 χ, cInt E p6 120 ψ]) (st1 := fun _ => [.int (iI 1)]) (As := [.int (iI 108), .int (iI (ψ (2 * k.toNat + 1)))]) (mX8_carriesOut_108 l E a p1 p2 p3 p4 p5 p6 σ ρ pm ig mo rd wr sm (ψ (2 * k.toNat + 1)) (show Sets σ from by assumption) (show Nums σ from by assumption) (show 0 ≤ σ 11 ∧ σ 11 ≤ 1900000000 from by omega) (show -3000000 ≤ (ψ (2 * k.toNat + 1)) ∧ (ψ (2 * k.toNat + 1)) ≤ 3000000 from by omega)) gX8_run_X8_carriesOut 2 rfl (by decide +kernel) ⟨Nat.le_of_ble_eq_true rfl, Nat.le_of_ble_eq_true rfl, Nat.le_of_ble_eq_true rfl, Nat.le_of_ble_eq_true rfl⟩ 0 rfl (q := (RX8, TX8, 12)) rfl rfl [0, 1] [2, 3, 4] [3, 4, 0, 1, 2] rfl rfl ⟨rfl, rfl, rfl, by decide⟩ (fun _ => rfl) rfl (fun _ => rfl) hl.1 (Nat.le_of_ble_eq_true rfl) rfl dX8_run_70 (fun u10 hu10 H locs B => ?_)
      refine z_if_ne S (pc := 73) (tgt := 83) (by omega) dX8_run_73 rfl (fun c11 => ?_) (fun c11 => absurd c11 (by omega))
      refine lv_iinc (v := iI (k + 1)) (lv' := [(2, .int (iI (k + 1))), (0, .ref a), (1, .int (iI mn))]) S.1 S.2.1 (pc := 83) dX8_run_83 hl (k := 2) rfl (iI_add _ _) (by decide) rfl (fun ls hl => ?_)
      refine lv_goto S.1 S.2.1 (pc := 86) (tgt := 43) dX8_run_86 rfl ?_
      rw [if_neg (show ¬ ψ (2 * k.toNat) = 114 from by omega)] at hge hr2
      have hst1 : stp1 (ev ψ k.toNat) (od ψ k.toNat) σ ρ = (1, up σ 0 (ψ (2 * k.toNat + 1)), ρ) := stp1_l hkd
      exact ih (k + 1) (up σ 0 (ψ (2 * k.toNat + 1))) ρ u10.1 u10.2 (by omega) (sets_l hs (hokk.2.2.2.1 hkd)) (hn) hr2 (by have e11 : (up σ 0 (ψ (2 * k.toNat + 1))) 11 = σ 11 := rfl; have e14 : (up σ 0 (ψ (2 * k.toNat + 1))) 14 = σ 14 := rfl; omega) res (by rw [← hres]; simp only [exeL]; rw [hst1, if_neg (by show ¬ (1 : Int) = 0; omega)]) hx _ _ _ B (lv_sub hl [1, 2, 0] rfl)
    · rw [show Value.int (iI (ψ (2 * k.toNat))) = Value.int (iI 103) from by rw [hkd]]
      have hnu := hokk.2.2.2.2 hkd
      refine z_callV S (pc := 70) B (wr := [cLon E p2 303 α, cInt E p5 60 χ, cInt E p6 120 ψ]) (wn := fun u12 => [cMod a p1 p2 p3 p4 p5 p6 pm u12.1 u12.2 rd wr sm, cAt E p1 (up σ 10 (ψ (2 * k.toNat + 1))) ρ, cLon E p2 303 α, cInt E p5 60 χ, cInt E p6 120 ψ]) (st1 := fun _ => [.int (iI 1)]) (As := [.int (iI 103), .int (iI (ψ (2 * k.toNat + 1)))]) (mX8_carriesOut_103 l E a p1 p2 p3 p4 p5 p6 σ ρ pm ig mo rd wr sm (ψ (2 * k.toNat + 1)) (show Sets σ from by assumption) (show Nums σ from by assumption) (show 0 ≤ σ 11 ∧ σ 11 ≤ 1900000000 from by omega) (show 0 ≤ (ψ (2 * k.toNat + 1)) ∧ (ψ (2 * k.toNat + 1)) ≤ 3 from by omega)) gX8_run_X8_carriesOut 2 rfl (by decide +kernel) ⟨Nat.le_of_ble_eq_true rfl, Nat.le_of_ble_eq_true rfl, Nat.le_of_ble_eq_true rfl, Nat.le_of_ble_eq_true rfl⟩ 0 rfl (q := (RX8, TX8, 12)) rfl rfl [0, 1] [2, 3, 4] [3, 4, 0, 1, 2] rfl rfl ⟨rfl, rfl, rfl, by decide⟩ (fun _ => rfl) rfl (fun _ => rfl) hl.1 (Nat.le_of_ble_eq_true rfl) rfl dX8_run_70 (fun u12 hu12 H locs B => ?_)
      refine z_if_ne S (pc := 73) (tgt := 83) (by omega) dX8_run_73 rfl (fun c13 => ?_) (fun c13 => absurd c13 (by omega))
      refine lv_iinc (v := iI (k + 1)) (lv' := [(2, .int (iI (k + 1))), (0, .ref a), (1, .int (iI mn))]) S.1 S.2.1 (pc := 83) dX8_run_83 hl (k := 2) rfl (iI_add _ _) (by decide) rfl (fun ls hl => ?_)
      refine lv_goto S.1 S.2.1 (pc := 86) (tgt := 43) dX8_run_86 rfl ?_
      rw [if_neg (show ¬ ψ (2 * k.toNat) = 114 from by omega)] at hge hr2
      have hst1 : stp1 (ev ψ k.toNat) (od ψ k.toNat) σ ρ = (1, up σ 10 (ψ (2 * k.toNat + 1)), ρ) := stp1_g hkd
      exact ih (k + 1) (up σ 10 (ψ (2 * k.toNat + 1))) ρ u12.1 u12.2 (by omega) (sets_g hs (hokk.2.2.2.2 hkd)) (hn) hr2 (by have e11 : (up σ 10 (ψ (2 * k.toNat + 1))) 11 = σ 11 := rfl; have e14 : (up σ 10 (ψ (2 * k.toNat + 1))) 14 = σ 14 := rfl; omega) res (by rw [← hres]; simp only [exeL]; rw [hst1, if_neg (by show ¬ (1 : Int) = 0; omega)]) hx _ _ _ B (lv_sub hl [1, 2, 0] rfl)
set_option maxHeartbeats 4000000 in
set_option maxRecDepth 100000 in
theorem mX8_run_b (l : Launch) (E : gT) (a : Nat) (p1 : Nat) (p2 : Nat) (p3 : Nat) (p4 : Nat) (p5 : Nat) (p6 : Nat) (σ : Nat → Int) (ρ : Nat → Int) (pm : Int) (ig : Int) (mo : Int) (rd : Int) (wr : Int) (sm : Int) (χ : Nat → Int) (ψ : Nat → Int) (hn : 0 ≤ pm ∧ pm ≤ 60) (hX : inX χ) (hf : mfr pm (mfa χ pm ψ) ≠ -6) : Cd l E yX8_run wsX8_run 6 144 0 0 [.ref a] [cMod a p1 p2 p3 p4 p5 p6 pm ig mo rd wr sm, cInt E p5 60 χ, cInt E p6 120 ψ] (some (.int (iI (-3)))) [cMod a p1 p2 p3 p4 p5 p6 pm ig mo ((mfa χ pm ψ).2.1) ((mfa χ pm ψ).1) ((mfa χ pm ψ).2.2.1), cInt E p5 60 χ, cInt E p6 120 ((mfa χ pm ψ).2.2.2)] := by
  refine Ct.mk (cc := cX8_run) (maxL := 3) (ret := (some .int)) (plainFor_of_name (by decide)) rfl (Nat.le_of_ble_eq_true rfl) ?_
  intro p e s m below meth c A ls H locs S hr hlk hnm B hl
  have S : CallFix p m c cX8_run 3 s #[.ref a] wsX8_run RX8 := S
  have hl : lv_has ls 3 [(0, .ref a)] := hl
  have hfb := mfa_bd ψ hX hn
  have hfr : -6 ≤ mfr pm (mfa χ pm ψ) ∧ mfr pm (mfa χ pm ψ) ≤ 60 := by unfold mfr; split <;> omega
  refine z_aload_n S (pc := 0) dX8_run_0 rfl (lv_at hl 0 rfl) ?_
  refine z_callV S (pc := 1) B (wr := []) (wn := fun _ => [cMod a p1 p2 p3 p4 p5 p6 pm ig mo ((mfa χ pm ψ).2.1) ((mfa χ pm ψ).1) ((mfa χ pm ψ).2.2.1), cInt E p5 60 χ, cInt E p6 120 ((mfa χ pm ψ).2.2.2)]) (st1 := fun _ => [.int (iI (mfr pm (mfa χ pm ψ)))]) (As := []) (mX8_fault l E a p1 p2 p3 p4 p5 p6 (fun _ => 0) (fun _ => 0) pm ig mo rd wr sm χ ψ (show 0 ≤ pm ∧ pm ≤ 60 from by omega) (show inX χ from by assumption)) gX8_run_X8_fault 0 rfl (by decide +kernel) ⟨Nat.le_of_ble_eq_true rfl, Nat.le_of_ble_eq_true rfl, Nat.le_of_ble_eq_true rfl, Nat.le_of_ble_eq_true rfl⟩ 0 rfl (q := (RX8, TX8, 12)) rfl rfl [0, 1, 2] [] [0, 1, 2] rfl rfl ⟨rfl, rfl, rfl, by decide⟩ (fun _ => rfl) rfl (fun _ => rfl) hl.1 (Nat.le_of_ble_eq_true rfl) rfl dX8_run_1 (fun _ _ H locs B => ?_)
  refine z_bipush S (pc := 4) dX8_run_4 rfl ?_
  refine z_icmp_eq S (pc := 6) (tgt := 12) (by omega) (by omega) dX8_run_6 rfl (fun c1 => absurd c1 (by omega)) (fun c1 => ?_)
  refine z_bipush S (pc := 9) dX8_run_9 rfl ?_
  exact z_ireturn S hr hlk B () trivial rfl rfl (pc := 11) dX8_run_11
set_option maxHeartbeats 4000000 in
set_option maxRecDepth 100000 in
theorem mX8_run_m (l : Launch) (E : gT) (a : Nat) (p1 : Nat) (p2 : Nat) (p3 : Nat) (p4 : Nat) (p5 : Nat) (p6 : Nat) (σ : Nat → Int) (ρ : Nat → Int) (pm : Int) (ig : Int) (mo : Int) (rd : Int) (wr : Int) (sm : Int) (χ : Nat → Int) (ψ : Nat → Int) (hn : 0 ≤ pm ∧ pm ≤ 60) (hX : inX χ) (hf : mfr pm (mfa χ pm ψ) = -6) (hokm : okM ((mfa χ pm ψ).2.2.2) ((mfa χ pm ψ).2.2.1)) (h14 : 0 ≤ σ 14 ∧ σ 14 ≤ 20000) (hmany : 10000 < σ 14 + sumS (ev ((mfa χ pm ψ).2.2.2)) (od ((mfa χ pm ψ).2.2.2)) ((mfa χ pm ψ).2.2.1).toNat 0 0) : Cd l E yX8_run wsX8_run 6 144 0 0 [.ref a] [cMod a p1 p2 p3 p4 p5 p6 pm ig mo rd wr sm, cAt E p1 σ ρ, cInt E p5 60 χ, cInt E p6 120 ψ] (some (.int (iI (-4)))) [cMod a p1 p2 p3 p4 p5 p6 pm ig mo ((mfa χ pm ψ).2.1) ((mfa χ pm ψ).1) ((mfa χ pm ψ).2.2.1), cAt E p1 σ ρ, cInt E p5 60 χ, cInt E p6 120 ((mfa χ pm ψ).2.2.2)] := by
  refine Ct.mk (cc := cX8_run) (maxL := 3) (ret := (some .int)) (plainFor_of_name (by decide)) rfl (Nat.le_of_ble_eq_true rfl) ?_
  intro p e s m below meth c A ls H locs S hr hlk hnm B hl
  have S : CallFix p m c cX8_run 3 s #[.ref a] wsX8_run RX8 := S
  have hl : lv_has ls 3 [(0, .ref a)] := hl
  have hfb := mfa_bd ψ hX hn
  have hfr : -6 ≤ mfr pm (mfa χ pm ψ) ∧ mfr pm (mfa χ pm ψ) ≤ 60 := by unfold mfr; split <;> omega
  have hge := sumS_ge (κ := ev (mfa χ pm ψ).2.2.2) (ν := od (mfa χ pm ψ).2.2.2) hokm (mfa χ pm ψ).2.2.1.toNat 0 0 (by omega) (by omega)
  refine z_aload_n S (pc := 0) dX8_run_0 rfl (lv_at hl 0 rfl) ?_
  refine z_callV S (pc := 1) B (wr := [cAt E p1 σ ρ]) (wn := fun _ => [cMod a p1 p2 p3 p4 p5 p6 pm ig mo ((mfa χ pm ψ).2.1) ((mfa χ pm ψ).1) ((mfa χ pm ψ).2.2.1), cAt E p1 σ ρ, cInt E p5 60 χ, cInt E p6 120 ((mfa χ pm ψ).2.2.2)]) (st1 := fun _ => [.int (iI (mfr pm (mfa χ pm ψ)))]) (As := []) (mX8_fault l E a p1 p2 p3 p4 p5 p6 σ ρ pm ig mo rd wr sm χ ψ (show 0 ≤ pm ∧ pm ≤ 60 from by omega) (show inX χ from by assumption)) gX8_run_X8_fault 0 rfl (by decide +kernel) ⟨Nat.le_of_ble_eq_true rfl, Nat.le_of_ble_eq_true rfl, Nat.le_of_ble_eq_true rfl, Nat.le_of_ble_eq_true rfl⟩ 0 rfl (q := (RX8, TX8, 12)) rfl rfl [0, 2, 3] [1] [1, 0, 2, 3] rfl rfl ⟨rfl, rfl, rfl, by decide⟩ (fun _ => rfl) rfl (fun _ => rfl) hl.1 (Nat.le_of_ble_eq_true rfl) rfl dX8_run_1 (fun _ _ H locs B => ?_)
  refine z_bipush S (pc := 4) dX8_run_4 rfl ?_
  refine z_icmp_eq S (pc := 6) (tgt := 12) (by omega) (by omega) dX8_run_6 rfl (fun c1 => ?_) (fun c1 => absurd c1 (by omega))
  refine z_aload_n S (pc := 12) dX8_run_12 rfl (lv_at hl 0 rfl) ?_
  refine z_callV S (pc := 13) B (wr := [cAt E p1 σ ρ, cInt E p5 60 χ]) (wn := fun _ => [cMod a p1 p2 p3 p4 p5 p6 pm ig mo ((mfa χ pm ψ).2.1) ((mfa χ pm ψ).1) ((mfa χ pm ψ).2.2.1), cAt E p1 σ ρ, cInt E p5 60 χ, cInt E p6 120 ((mfa χ pm ψ).2.2.2)]) (st1 := fun _ => [.int (iI (sumS (ev ((mfa χ pm ψ).2.2.2)) (od ((mfa χ pm ψ).2.2.2)) ((mfa χ pm ψ).2.2.1).toNat 0 0))]) (As := []) (mX8_readingsOfSteps l E a p1 p2 p3 p4 p5 p6 σ ρ pm ig mo ((mfa χ pm ψ).2.1) ((mfa χ pm ψ).1) ((mfa χ pm ψ).2.2.1) ((mfa χ pm ψ).2.2.2) (show 0 ≤ ((mfa χ pm ψ).2.2.1) ∧ ((mfa χ pm ψ).2.2.1) ≤ 31 from by omega) (show okM ((mfa χ pm ψ).2.2.2) ((mfa χ pm ψ).2.2.1) from by assumption)) gX8_run_X8_readingsOfSteps 0 rfl (by decide +kernel) ⟨Nat.le_of_ble_eq_true rfl, Nat.le_of_ble_eq_true rfl, Nat.le_of_ble_eq_true rfl, Nat.le_of_ble_eq_true rfl⟩ 0 rfl (q := (RX8, TX8, 12)) rfl rfl [0, 3] [1, 2] [2, 0, 1, 3] rfl rfl ⟨rfl, rfl, rfl, by decide⟩ (fun _ => rfl) rfl (fun _ => rfl) hl.1 (Nat.le_of_ble_eq_true rfl) rfl dX8_run_13 (fun _ _ H locs B => ?_)
  refine lv_istore_n (lv' := [(1, .int (iI (sumS (ev ((mfa χ pm ψ).2.2.2)) (od ((mfa χ pm ψ).2.2.2)) ((mfa χ pm ψ).2.2.1).toNat 0 0))), (0, .ref a)]) S.1 S.2.1 (pc := 16) dX8_run_16 rfl hl (by decide) rfl (fun ls hl => ?_)
  refine z_aload_n S (pc := 17) dX8_run_17 rfl (lv_at hl 1 rfl) ?_
  refine z_get S (pc := 18) B iX8_run_X8 0 rfl rfl 0 (by decide) rfl rfl (by decide +kernel) dX8_run_18 ?_
  refine z_bipush S (pc := 21) dX8_run_21 rfl ?_
  refine z_lald S (pc := 23) B 1 2 rfl rfl (k := 14) rfl (by decide) (by decide) (v := .long (iL (σ 14))) rfl dX8_run_23 ?_
  refine z_iload_n S (pc := 24) dX8_run_24 rfl (lv_at hl 0 rfl) ?_
  refine z_i2l S (pc := 25) (by omega) dX8_run_25 ?_
  refine z_ladd S (pc := 26) dX8_run_26 ?_
  refine z_ldc2 S (pc := 27) (x := 10000) (by decide +kernel) rfl dX8_run_27 ?_
  refine z_lc_le S (pc := 30) (tgt := 37) (by omega) (by omega) dX8_run_30 dX8_run_31 rfl (fun c2 => absurd c2 (by omega)) (fun c2 => ?_)
  refine z_bipush S (pc := 34) dX8_run_34 rfl ?_
  exact z_ireturn S hr hlk B () trivial rfl rfl (pc := 36) dX8_run_36
set_option maxHeartbeats 4000000 in
set_option maxRecDepth 100000 in
theorem mX8_run (l : Launch) (E : gT) (a : Nat) (p1 : Nat) (p2 : Nat) (p3 : Nat) (p4 : Nat) (p5 : Nat) (p6 : Nat) (σ : Nat → Int) (ρ : Nat → Int) (pm : Int) (ig : Int) (mo : Int) (rd : Int) (wr : Int) (sm : Int) (α : Nat → Int) (χ : Nat → Int) (ψ : Nat → Int) (hn : 0 ≤ pm ∧ pm ≤ 60) (hX : inX χ) (hf : mfr pm (mfa χ pm ψ) = -6) (hokm : okM ((mfa χ pm ψ).2.2.2) ((mfa χ pm ψ).2.2.1)) (hs : Sets σ) (hn2 : Nums σ) (hmany : σ 14 + sumS (ev ((mfa χ pm ψ).2.2.2)) (od ((mfa χ pm ψ).2.2.2)) ((mfa χ pm ψ).2.2.1).toNat 0 0 ≤ 10000) (ht : 0 ≤ σ 11 ∧ σ 11 + 3300 * (10000 - σ 14) ≤ 1800000000) (hex : (exeL (ev ((mfa χ pm ψ).2.2.2)) (od ((mfa χ pm ψ).2.2.2)) ((mfa χ pm ψ).2.2.1).toNat 0 σ ρ).1 = 1) : Ct l E yX8_run wsX8_run 6 144 0 0 [.ref a] [cMod a p1 p2 p3 p4 p5 p6 pm ig mo rd wr sm, cAt E p1 σ ρ, cLon E p2 303 α, cInt E p5 60 χ, cInt E p6 120 ψ] (S0 := Int × Int) (fun u0 => True) (fun _ => (some (.int (iI (sumS (ev ((mfa χ pm ψ).2.2.2)) (od ((mfa χ pm ψ).2.2.2)) ((mfa χ pm ψ).2.2.1).toNat 0 0))))) (fun u0 => [cMod a p1 p2 p3 p4 p5 p6 0 u0.1 u0.2 ((mfa χ pm ψ).2.1) ((mfa χ pm ψ).1) ((mfa χ pm ψ).2.2.1), cAt E p1 ((exeL (ev ((mfa χ pm ψ).2.2.2)) (od ((mfa χ pm ψ).2.2.2)) ((mfa χ pm ψ).2.2.1).toNat 0 σ ρ).2.1) ((exeL (ev ((mfa χ pm ψ).2.2.2)) (od ((mfa χ pm ψ).2.2.2)) ((mfa χ pm ψ).2.2.1).toNat 0 σ ρ).2.2), cLon E p2 303 (mat σ ρ), cInt E p5 60 χ, cInt E p6 120 ((mfa χ pm ψ).2.2.2)]) := by
  refine Ct.mk (cc := cX8_run) (maxL := 3) (ret := (some .int)) (plainFor_of_name (by decide)) rfl (Nat.le_of_ble_eq_true rfl) ?_
  intro p e s m below meth c A ls H locs S hr hlk hnm B hl
  have S : CallFix p m c cX8_run 3 s #[.ref a] wsX8_run RX8 := S
  have hl : lv_has ls 3 [(0, .ref a)] := hl
  have hfb := mfa_bd ψ hX hn
  have hfr : -6 ≤ mfr pm (mfa χ pm ψ) ∧ mfr pm (mfa χ pm ψ) ≤ 60 := by unfold mfr; split <;> omega
  have hge := sumS_ge (κ := ev (mfa χ pm ψ).2.2.2) (ν := od (mfa χ pm ψ).2.2.2) hokm (mfa χ pm ψ).2.2.1.toNat 0 0 (by omega) (by omega)
  have h14 := hn2.2.2.1
  have hsm : sumS (ev (mfa χ pm ψ).2.2.2) (od (mfa χ pm ψ).2.2.2) (mfa χ pm ψ).2.2.1.toNat 0 (σ 14) ≤ 10000 := by have e := sumS_add (κ := ev (mfa χ pm ψ).2.2.2) (ν := od (mfa χ pm ψ).2.2.2) (mfa χ pm ψ).2.2.1.toNat 0 (σ 14) 0; rw [Int.add_zero] at e; omega
  refine z_aload_n S (pc := 0) dX8_run_0 rfl (lv_at hl 0 rfl) ?_
  refine z_callV S (pc := 1) B (wr := [cAt E p1 σ ρ, cLon E p2 303 α]) (wn := fun _ => [cMod a p1 p2 p3 p4 p5 p6 pm ig mo ((mfa χ pm ψ).2.1) ((mfa χ pm ψ).1) ((mfa χ pm ψ).2.2.1), cAt E p1 σ ρ, cLon E p2 303 α, cInt E p5 60 χ, cInt E p6 120 ((mfa χ pm ψ).2.2.2)]) (st1 := fun _ => [.int (iI (mfr pm (mfa χ pm ψ)))]) (As := []) (mX8_fault l E a p1 p2 p3 p4 p5 p6 σ ρ pm ig mo rd wr sm χ ψ (show 0 ≤ pm ∧ pm ≤ 60 from by omega) (show inX χ from by assumption)) gX8_run_X8_fault 0 rfl (by decide +kernel) ⟨Nat.le_of_ble_eq_true rfl, Nat.le_of_ble_eq_true rfl, Nat.le_of_ble_eq_true rfl, Nat.le_of_ble_eq_true rfl⟩ 0 rfl (q := (RX8, TX8, 12)) rfl rfl [0, 3, 4] [1, 2] [2, 0, 1, 3, 4] rfl rfl ⟨rfl, rfl, rfl, by decide⟩ (fun _ => rfl) rfl (fun _ => rfl) hl.1 (Nat.le_of_ble_eq_true rfl) rfl dX8_run_1 (fun _ _ H locs B => ?_)
  refine z_bipush S (pc := 4) dX8_run_4 rfl ?_
  refine z_icmp_eq S (pc := 6) (tgt := 12) (by omega) (by omega) dX8_run_6 rfl (fun c1 => ?_) (fun c1 => absurd c1 (by omega))
  refine z_aload_n S (pc := 12) dX8_run_12 rfl (lv_at hl 0 rfl) ?_
  refine z_callV S (pc := 13) B (wr := [cAt E p1 σ ρ, cLon E p2 303 α, cInt E p5 60 χ]) (wn := fun _ => [cMod a p1 p2 p3 p4 p5 p6 pm ig mo ((mfa χ pm ψ).2.1) ((mfa χ pm ψ).1) ((mfa χ pm ψ).2.2.1), cAt E p1 σ ρ, cLon E p2 303 α, cInt E p5 60 χ, cInt E p6 120 ((mfa χ pm ψ).2.2.2)]) (st1 := fun _ => [.int (iI (sumS (ev ((mfa χ pm ψ).2.2.2)) (od ((mfa χ pm ψ).2.2.2)) ((mfa χ pm ψ).2.2.1).toNat 0 0))]) (As := []) (mX8_readingsOfSteps l E a p1 p2 p3 p4 p5 p6 σ ρ pm ig mo ((mfa χ pm ψ).2.1) ((mfa χ pm ψ).1) ((mfa χ pm ψ).2.2.1) ((mfa χ pm ψ).2.2.2) (show 0 ≤ ((mfa χ pm ψ).2.2.1) ∧ ((mfa χ pm ψ).2.2.1) ≤ 31 from by omega) (show okM ((mfa χ pm ψ).2.2.2) ((mfa χ pm ψ).2.2.1) from by assumption)) gX8_run_X8_readingsOfSteps 0 rfl (by decide +kernel) ⟨Nat.le_of_ble_eq_true rfl, Nat.le_of_ble_eq_true rfl, Nat.le_of_ble_eq_true rfl, Nat.le_of_ble_eq_true rfl⟩ 0 rfl (q := (RX8, TX8, 12)) rfl rfl [0, 4] [1, 2, 3] [3, 0, 1, 2, 4] rfl rfl ⟨rfl, rfl, rfl, by decide⟩ (fun _ => rfl) rfl (fun _ => rfl) hl.1 (Nat.le_of_ble_eq_true rfl) rfl dX8_run_13 (fun _ _ H locs B => ?_)
  refine lv_istore_n (lv' := [(1, .int (iI (sumS (ev ((mfa χ pm ψ).2.2.2)) (od ((mfa χ pm ψ).2.2.2)) ((mfa χ pm ψ).2.2.1).toNat 0 0))), (0, .ref a)]) S.1 S.2.1 (pc := 16) dX8_run_16 rfl hl (by decide) rfl (fun ls hl => ?_)
  refine z_aload_n S (pc := 17) dX8_run_17 rfl (lv_at hl 1 rfl) ?_
  refine z_get S (pc := 18) B iX8_run_X8 0 rfl rfl 0 (by decide) rfl rfl (by decide +kernel) dX8_run_18 ?_
  refine z_bipush S (pc := 21) dX8_run_21 rfl ?_
  refine z_lald S (pc := 23) B 1 2 rfl rfl (k := 14) rfl (by decide) (by decide) (v := .long (iL (σ 14))) rfl dX8_run_23 ?_
  refine z_iload_n S (pc := 24) dX8_run_24 rfl (lv_at hl 0 rfl) ?_
  refine z_i2l S (pc := 25) (by omega) dX8_run_25 ?_
  refine z_ladd S (pc := 26) dX8_run_26 ?_
  refine z_ldc2 S (pc := 27) (x := 10000) (by decide +kernel) rfl dX8_run_27 ?_
  refine z_lc_le S (pc := 30) (tgt := 37) (by omega) (by omega) dX8_run_30 dX8_run_31 rfl (fun c2 => ?_) (fun c2 => absurd c2 (by omega))
  refine z_aload_n S (pc := 37) dX8_run_37 rfl (lv_at hl 1 rfl) ?_
  refine z_callV S (pc := 38) B (wr := [cInt E p5 60 χ, cInt E p6 120 ((mfa χ pm ψ).2.2.2)]) (wn := fun _ => [cMod a p1 p2 p3 p4 p5 p6 pm ig mo ((mfa χ pm ψ).2.1) ((mfa χ pm ψ).1) ((mfa χ pm ψ).2.2.1), cAt E p1 σ ρ, cLon E p2 303 (mat σ ρ), cInt E p5 60 χ, cInt E p6 120 ((mfa χ pm ψ).2.2.2)]) (st1 := fun _ => []) (As := []) (mX8_putAside l E a p1 p2 p3 p4 p5 p6 σ ρ pm ig mo ((mfa χ pm ψ).2.1) ((mfa χ pm ψ).1) ((mfa χ pm ψ).2.2.1) α ) gX8_run_X8_putAside 0 rfl (by decide +kernel) ⟨Nat.le_of_ble_eq_true rfl, Nat.le_of_ble_eq_true rfl, Nat.le_of_ble_eq_true rfl, Nat.le_of_ble_eq_true rfl⟩ 0 rfl (q := (RX8, TX8, 12)) rfl rfl [0, 1, 2] [3, 4] [2, 3, 4, 0, 1] rfl rfl ⟨rfl, rfl, rfl, by decide⟩ (fun _ => rfl) rfl (fun _ => rfl) hl.1 (Nat.le_of_ble_eq_true rfl) rfl dX8_run_38 (fun _ _ H locs B => ?_)
  refine z_iconst S (pc := 41) dX8_run_41 ?_
  refine lv_istore_n (lv' := [(2, .int (iI 0)), (1, .int (iI (sumS (ev ((mfa χ pm ψ).2.2.2)) (od ((mfa χ pm ψ).2.2.2)) ((mfa χ pm ψ).2.2.1).toNat 0 0))), (0, .ref a)]) S.1 S.2.1 (pc := 42) dX8_run_42 rfl hl (by decide) rfl (fun ls hl => ?_)
  obtain ⟨z, hz⟩ : ∃ z, exeL (ev (mfa χ pm ψ).2.2.2) (od (mfa χ pm ψ).2.2.2) (mfa χ pm ψ).2.2.1.toNat 0 σ ρ = z := ⟨_, rfl⟩
  refine lpX8_run E S a p1 p2 p3 p4 p5 p6 pm ((mfa χ pm ψ).2.1) ((mfa χ pm ψ).1) ((mfa χ pm ψ).2.2.1) (mat σ ρ) ((mfa χ pm ψ).2.2.2) (sumS (ev ((mfa χ pm ψ).2.2.2)) (od ((mfa χ pm ψ).2.2.2)) ((mfa χ pm ψ).2.2.1).toNat 0 0) χ (by omega) hokm (mfa χ pm ψ).2.2.1.toNat 0 σ ρ ig mo (by omega) hs hn2 hsm (by omega) z hz (fun u0 H locs ls pc B hl hp => ?_) _ _ _ B (lv_sub hl [2, 1, 0] rfl)
  rw [hz] at hex
  obtain rfl : pc = 89 := by omega
  refine z_aload_n S (pc := 89) dX8_run_89 rfl (lv_at hl 0 rfl) ?_
  refine z_iconst S (pc := 90) dX8_run_90 ?_
  refine z_put S (pc := 91) B iX8_run_X8 tyX8_ok nmX8 0 rfl rfl 5 (by decide) rfl (by decide +kernel) (ty := .int) (by decide +kernel) rfl rfl (Nat.le_of_ble_eq_true rfl) dX8_run_91 (wn := [cMod a p1 p2 p3 p4 p5 p6 0 u0.1 u0.2 ((mfa χ pm ψ).2.1) ((mfa χ pm ψ).1) ((mfa χ pm ψ).2.2.1), cAt E p1 z.2.1 z.2.2, cLon E p2 303 (mat σ ρ), cInt E p5 60 χ, cInt E p6 120 ((mfa χ pm ψ).2.2.2)]) rfl (fun H locs B => ?_)
  refine z_iload_n S (pc := 94) dX8_run_94 rfl (lv_at hl 1 rfl) ?_
  exact z_ireturn S hr hlk B ⟨u0.1, u0.2⟩ trivial rfl (by rw [hz]) (pc := 95) dX8_run_95
set_option maxHeartbeats 4000000 in
set_option maxRecDepth 100000 in
theorem mX8_run_n (l : Launch) (E : gT) (a : Nat) (p1 : Nat) (p2 : Nat) (p3 : Nat) (p4 : Nat) (p5 : Nat) (p6 : Nat) (σ : Nat → Int) (ρ : Nat → Int) (pm : Int) (ig : Int) (mo : Int) (rd : Int) (wr : Int) (sm : Int) (α : Nat → Int) (χ : Nat → Int) (ψ : Nat → Int) (hn : 0 ≤ pm ∧ pm ≤ 60) (hX : inX χ) (hf : mfr pm (mfa χ pm ψ) = -6) (hokm : okM ((mfa χ pm ψ).2.2.2) ((mfa χ pm ψ).2.2.1)) (hs : Sets σ) (hn2 : Nums σ) (hmany : σ 14 + sumS (ev ((mfa χ pm ψ).2.2.2)) (od ((mfa χ pm ψ).2.2.2)) ((mfa χ pm ψ).2.2.1).toNat 0 0 ≤ 10000) (ht : 0 ≤ σ 11 ∧ σ 11 + 3300 * (10000 - σ 14) ≤ 1800000000) (hex : (exeL (ev ((mfa χ pm ψ).2.2.2)) (od ((mfa χ pm ψ).2.2.2)) ((mfa χ pm ψ).2.2.1).toNat 0 σ ρ).1 = 0) : Ct l E yX8_run wsX8_run 6 144 0 0 [.ref a] [cMod a p1 p2 p3 p4 p5 p6 pm ig mo rd wr sm, cAt E p1 σ ρ, cLon E p2 303 α, cInt E p5 60 χ, cInt E p6 120 ψ] (S0 := Int × Int) (fun u0 => True) (fun _ => (some (.int (iI (-5))))) (fun u0 => [cMod a p1 p2 p3 p4 p5 p6 pm u0.1 u0.2 ((mfa χ pm ψ).2.1) ((mfa χ pm ψ).1) ((mfa χ pm ψ).2.2.1), cAt E p1 σ ρ, cLon E p2 303 (mat σ ρ), cInt E p5 60 χ, cInt E p6 120 ((mfa χ pm ψ).2.2.2)]) := by
  refine Ct.mk (cc := cX8_run) (maxL := 3) (ret := (some .int)) (plainFor_of_name (by decide)) rfl (Nat.le_of_ble_eq_true rfl) ?_
  intro p e s m below meth c A ls H locs S hr hlk hnm B hl
  have S : CallFix p m c cX8_run 3 s #[.ref a] wsX8_run RX8 := S
  have hl : lv_has ls 3 [(0, .ref a)] := hl
  have hfb := mfa_bd ψ hX hn
  have hfr : -6 ≤ mfr pm (mfa χ pm ψ) ∧ mfr pm (mfa χ pm ψ) ≤ 60 := by unfold mfr; split <;> omega
  have hge := sumS_ge (κ := ev (mfa χ pm ψ).2.2.2) (ν := od (mfa χ pm ψ).2.2.2) hokm (mfa χ pm ψ).2.2.1.toNat 0 0 (by omega) (by omega)
  have h14 := hn2.2.2.1
  have hsm : sumS (ev (mfa χ pm ψ).2.2.2) (od (mfa χ pm ψ).2.2.2) (mfa χ pm ψ).2.2.1.toNat 0 (σ 14) ≤ 10000 := by have e := sumS_add (κ := ev (mfa χ pm ψ).2.2.2) (ν := od (mfa χ pm ψ).2.2.2) (mfa χ pm ψ).2.2.1.toNat 0 (σ 14) 0; rw [Int.add_zero] at e; omega
  refine z_aload_n S (pc := 0) dX8_run_0 rfl (lv_at hl 0 rfl) ?_
  refine z_callV S (pc := 1) B (wr := [cAt E p1 σ ρ, cLon E p2 303 α]) (wn := fun _ => [cMod a p1 p2 p3 p4 p5 p6 pm ig mo ((mfa χ pm ψ).2.1) ((mfa χ pm ψ).1) ((mfa χ pm ψ).2.2.1), cAt E p1 σ ρ, cLon E p2 303 α, cInt E p5 60 χ, cInt E p6 120 ((mfa χ pm ψ).2.2.2)]) (st1 := fun _ => [.int (iI (mfr pm (mfa χ pm ψ)))]) (As := []) (mX8_fault l E a p1 p2 p3 p4 p5 p6 σ ρ pm ig mo rd wr sm χ ψ (show 0 ≤ pm ∧ pm ≤ 60 from by omega) (show inX χ from by assumption)) gX8_run_X8_fault 0 rfl (by decide +kernel) ⟨Nat.le_of_ble_eq_true rfl, Nat.le_of_ble_eq_true rfl, Nat.le_of_ble_eq_true rfl, Nat.le_of_ble_eq_true rfl⟩ 0 rfl (q := (RX8, TX8, 12)) rfl rfl [0, 3, 4] [1, 2] [2, 0, 1, 3, 4] rfl rfl ⟨rfl, rfl, rfl, by decide⟩ (fun _ => rfl) rfl (fun _ => rfl) hl.1 (Nat.le_of_ble_eq_true rfl) rfl dX8_run_1 (fun _ _ H locs B => ?_)
  refine z_bipush S (pc := 4) dX8_run_4 rfl ?_
  refine z_icmp_eq S (pc := 6) (tgt := 12) (by omega) (by omega) dX8_run_6 rfl (fun c1 => ?_) (fun c1 => absurd c1 (by omega))
  refine z_aload_n S (pc := 12) dX8_run_12 rfl (lv_at hl 0 rfl) ?_
  refine z_callV S (pc := 13) B (wr := [cAt E p1 σ ρ, cLon E p2 303 α, cInt E p5 60 χ]) (wn := fun _ => [cMod a p1 p2 p3 p4 p5 p6 pm ig mo ((mfa χ pm ψ).2.1) ((mfa χ pm ψ).1) ((mfa χ pm ψ).2.2.1), cAt E p1 σ ρ, cLon E p2 303 α, cInt E p5 60 χ, cInt E p6 120 ((mfa χ pm ψ).2.2.2)]) (st1 := fun _ => [.int (iI (sumS (ev ((mfa χ pm ψ).2.2.2)) (od ((mfa χ pm ψ).2.2.2)) ((mfa χ pm ψ).2.2.1).toNat 0 0))]) (As := []) (mX8_readingsOfSteps l E a p1 p2 p3 p4 p5 p6 σ ρ pm ig mo ((mfa χ pm ψ).2.1) ((mfa χ pm ψ).1) ((mfa χ pm ψ).2.2.1) ((mfa χ pm ψ).2.2.2) (show 0 ≤ ((mfa χ pm ψ).2.2.1) ∧ ((mfa χ pm ψ).2.2.1) ≤ 31 from by omega) (show okM ((mfa χ pm ψ).2.2.2) ((mfa χ pm ψ).2.2.1) from by assumption)) gX8_run_X8_readingsOfSteps 0 rfl (by decide +kernel) ⟨Nat.le_of_ble_eq_true rfl, Nat.le_of_ble_eq_true rfl, Nat.le_of_ble_eq_true rfl, Nat.le_of_ble_eq_true rfl⟩ 0 rfl (q := (RX8, TX8, 12)) rfl rfl [0, 4] [1, 2, 3] [3, 0, 1, 2, 4] rfl rfl ⟨rfl, rfl, rfl, by decide⟩ (fun _ => rfl) rfl (fun _ => rfl) hl.1 (Nat.le_of_ble_eq_true rfl) rfl dX8_run_13 (fun _ _ H locs B => ?_)
  refine lv_istore_n (lv' := [(1, .int (iI (sumS (ev ((mfa χ pm ψ).2.2.2)) (od ((mfa χ pm ψ).2.2.2)) ((mfa χ pm ψ).2.2.1).toNat 0 0))), (0, .ref a)]) S.1 S.2.1 (pc := 16) dX8_run_16 rfl hl (by decide) rfl (fun ls hl => ?_)
  refine z_aload_n S (pc := 17) dX8_run_17 rfl (lv_at hl 1 rfl) ?_
  refine z_get S (pc := 18) B iX8_run_X8 0 rfl rfl 0 (by decide) rfl rfl (by decide +kernel) dX8_run_18 ?_
  refine z_bipush S (pc := 21) dX8_run_21 rfl ?_
  refine z_lald S (pc := 23) B 1 2 rfl rfl (k := 14) rfl (by decide) (by decide) (v := .long (iL (σ 14))) rfl dX8_run_23 ?_
  refine z_iload_n S (pc := 24) dX8_run_24 rfl (lv_at hl 0 rfl) ?_
  refine z_i2l S (pc := 25) (by omega) dX8_run_25 ?_
  refine z_ladd S (pc := 26) dX8_run_26 ?_
  refine z_ldc2 S (pc := 27) (x := 10000) (by decide +kernel) rfl dX8_run_27 ?_
  refine z_lc_le S (pc := 30) (tgt := 37) (by omega) (by omega) dX8_run_30 dX8_run_31 rfl (fun c2 => ?_) (fun c2 => absurd c2 (by omega))
  refine z_aload_n S (pc := 37) dX8_run_37 rfl (lv_at hl 1 rfl) ?_
  refine z_callV S (pc := 38) B (wr := [cInt E p5 60 χ, cInt E p6 120 ((mfa χ pm ψ).2.2.2)]) (wn := fun _ => [cMod a p1 p2 p3 p4 p5 p6 pm ig mo ((mfa χ pm ψ).2.1) ((mfa χ pm ψ).1) ((mfa χ pm ψ).2.2.1), cAt E p1 σ ρ, cLon E p2 303 (mat σ ρ), cInt E p5 60 χ, cInt E p6 120 ((mfa χ pm ψ).2.2.2)]) (st1 := fun _ => []) (As := []) (mX8_putAside l E a p1 p2 p3 p4 p5 p6 σ ρ pm ig mo ((mfa χ pm ψ).2.1) ((mfa χ pm ψ).1) ((mfa χ pm ψ).2.2.1) α ) gX8_run_X8_putAside 0 rfl (by decide +kernel) ⟨Nat.le_of_ble_eq_true rfl, Nat.le_of_ble_eq_true rfl, Nat.le_of_ble_eq_true rfl, Nat.le_of_ble_eq_true rfl⟩ 0 rfl (q := (RX8, TX8, 12)) rfl rfl [0, 1, 2] [3, 4] [2, 3, 4, 0, 1] rfl rfl ⟨rfl, rfl, rfl, by decide⟩ (fun _ => rfl) rfl (fun _ => rfl) hl.1 (Nat.le_of_ble_eq_true rfl) rfl dX8_run_38 (fun _ _ H locs B => ?_)
  refine z_iconst S (pc := 41) dX8_run_41 ?_
  refine lv_istore_n (lv' := [(2, .int (iI 0)), (1, .int (iI (sumS (ev ((mfa χ pm ψ).2.2.2)) (od ((mfa χ pm ψ).2.2.2)) ((mfa χ pm ψ).2.2.1).toNat 0 0))), (0, .ref a)]) S.1 S.2.1 (pc := 42) dX8_run_42 rfl hl (by decide) rfl (fun ls hl => ?_)
  obtain ⟨z, hz⟩ : ∃ z, exeL (ev (mfa χ pm ψ).2.2.2) (od (mfa χ pm ψ).2.2.2) (mfa χ pm ψ).2.2.1.toNat 0 σ ρ = z := ⟨_, rfl⟩
  refine lpX8_run E S a p1 p2 p3 p4 p5 p6 pm ((mfa χ pm ψ).2.1) ((mfa χ pm ψ).1) ((mfa χ pm ψ).2.2.1) (mat σ ρ) ((mfa χ pm ψ).2.2.2) (sumS (ev ((mfa χ pm ψ).2.2.2)) (od ((mfa χ pm ψ).2.2.2)) ((mfa χ pm ψ).2.2.1).toNat 0 0) χ (by omega) hokm (mfa χ pm ψ).2.2.1.toNat 0 σ ρ ig mo (by omega) hs hn2 hsm (by omega) z hz (fun u0 H locs ls pc B hl hp => ?_) _ _ _ B (lv_sub hl [2, 1, 0] rfl)
  rw [hz] at hex
  obtain rfl : pc = 76 := by omega
  refine z_aload_n S (pc := 76) dX8_run_76 rfl (lv_at hl 0 rfl) ?_
  refine z_callV S (pc := 77) B (wr := [cInt E p5 60 χ, cInt E p6 120 ((mfa χ pm ψ).2.2.2)]) (wn := fun _ => [cMod a p1 p2 p3 p4 p5 p6 pm u0.1 u0.2 ((mfa χ pm ψ).2.1) ((mfa χ pm ψ).1) ((mfa χ pm ψ).2.2.1), cAt E p1 σ ρ, cLon E p2 303 (mat σ ρ), cInt E p5 60 χ, cInt E p6 120 ((mfa χ pm ψ).2.2.2)]) (st1 := fun _ => []) (As := []) (mX8_putBack l E a p1 p2 p3 p4 p5 p6 σ ρ pm u0.1 u0.2 ((mfa χ pm ψ).2.1) ((mfa χ pm ψ).1) ((mfa χ pm ψ).2.2.1) z.2.1 z.2.2 ) gX8_run_X8_putBack 0 rfl (by decide +kernel) ⟨Nat.le_of_ble_eq_true rfl, Nat.le_of_ble_eq_true rfl, Nat.le_of_ble_eq_true rfl, Nat.le_of_ble_eq_true rfl⟩ 0 rfl (q := (RX8, TX8, 12)) rfl rfl [0, 1, 2] [3, 4] [2, 3, 4, 0, 1] rfl rfl ⟨rfl, rfl, rfl, by decide⟩ (fun _ => rfl) rfl (fun _ => rfl) hl.1 (Nat.le_of_ble_eq_true rfl) rfl dX8_run_77 (fun _ _ H locs B => ?_)
  refine z_bipush S (pc := 80) dX8_run_80 rfl ?_
  exact z_ireturn S hr hlk B ⟨u0.1, u0.2⟩ trivial rfl rfl (pc := 82) dX8_run_82
/-! END run 3 -/
