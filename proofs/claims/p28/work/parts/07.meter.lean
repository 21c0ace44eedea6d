set_option linter.unusedVariables false
theorem iX2_convert_X0 : ∀ w ∈ wsX00, w ∈ wsX2_convert := by decide +kernel
theorem iX2_convert_X2 : ∀ w ∈ wsX20, w ∈ wsX2_convert := by decide +kernel
theorem iX2_convert_X4 : ∀ w ∈ wsX40, w ∈ wsX2_convert := by decide +kernel
theorem iX2_convert_X5 : ∀ w ∈ wsX50, w ∈ wsX2_convert := by decide +kernel
set_option maxHeartbeats 4000000 in
set_option maxRecDepth 100000 in
theorem lpX2_convert {p : Program} {l : Launch} {e : Env} {s : State} {m : MethodId} {args : Array Value} {below : List Frame} {meth : Method} {c : Code} {Q : State → Prop} {A : Nat → Prop} (E : gT) (S : CallFix p m c cX2_convert 4 s args wsX2_convert RX2) (a : Nat) (b : Nat) (f : Nat) (g : Nat) (σ : Nat → Int) (ov : Int) (rr : Int) (rb : Int) (rn : Int) (gg : Int) (hs : Sets σ) (h11 : 0 ≤ σ 11 ∧ σ 11 ≤ 2100000000) (hg : 0 ≤ gg ∧ gg ≤ 1000) :
    ∀ (n : Nat) (k : Int) (d : Int) (x : Int) (pk : Int) (sb : Int) (ad : Int) (t : Int) (hk : 0 ≤ k ∧ k + (n : Int) = σ 5) (hd : -1 ≤ d ∧ d ≤ 1) (hb : -(4194304 * k) ≤ x ∧ x ≤ 4194304 * k) (hp : 0 ≤ pk ∧ pk ≤ 4194304 * k) (hsb : 0 ≤ sb ∧ sb ≤ k) (had : 0 ≤ ad ∧ ad ≤ k) (ht : t = σ 11 + k) (res : Int × Int × Int × Int × Int) (hres : upL (volt σ gg) (σ 7) (σ 6) n k d x pk sb ad t = res) (hx : ∀  (H : Heap) (locs : List Loc) (ls : Array Slot), bw E A s H locs [(a, .inr (2, [.ref b, .ref f, .ref g, .int (iI res.2.2.2.2), .int (iI (σ 12)), .int (iI (σ 13)), .int (iI rr), .int (iI rb), .long (iL rn)])), cSig b σ, cSet f σ, (g, .inr (0, [.int (iI 1), .int (iI ov), .int (iI (σ 15)), .int (iI 0), .int (iI 0), .int (iI res.2.2.1), .int (iI res.2.2.2.1), .long (iL res.2.1), .long (iL res.1)]))] → lv_has ls 4 [(0, .ref a), (1, .int (iI gg))] → W p l e ({ frames := 2, cells := 0, slots := 0, locals := 47 } : Room) s m args below meth c H locs 0 0 Q (F0 m 97 ls [])) (H : Heap) (locs : List Loc) (ls : Array Slot) (B : bw E A s H locs [(a, .inr (2, [.ref b, .ref f, .ref g, .int (iI t), .int (iI (σ 12)), .int (iI (σ 13)), .int (iI rr), .int (iI rb), .long (iL rn)])), cSig b σ, cSet f σ, (g, .inr (0, [.int (iI 1), .int (iI ov), .int (iI (σ 15)), .int (iI 0), .int (iI 0), .int (iI sb), .int (iI ad), .long (iL pk), .long (iL x)]))]) (hl : lv_has ls 4 [(0, .ref a), (1, .int (iI gg)), (2, .int (iI d)), (3, .int (iI k))]), W p l e ({ frames := 2, cells := 0, slots := 0, locals := 47 } : Room) s m args below meth c H locs 0 0 Q (F0 m 11 ls []) := by
  intro n
  induction n with
  | zero =>
    intro k d x pk sb ad t hk hd hb hp hsb had ht res hres hx H locs ls B hl
    obtain ⟨h0, h1, h2, h3, h4, h5, h6, h7, h8, h9, h10⟩ := id hs
    refine z_iload_n S (pc := 11) dX2_convert_11 rfl (lv_at hl 3 rfl) ?_
    refine z_aload_n S (pc := 12) dX2_convert_12 rfl (lv_at hl 0 rfl) ?_
    refine z_get S (pc := 13) B iX2_convert_X2 0 rfl rfl 1 (by decide) rfl rfl (by decide +kernel) dX2_convert_13 ?_
    refine z_get S (pc := 16) B iX2_convert_X4 2 rfl rfl 0 (by decide) rfl rfl (by decide +kernel) dX2_convert_16 ?_
    refine z_icmp_ge S (pc := 19) (tgt := 97) (by omega) (by omega) dX2_convert_19 rfl (fun c1 => ?_) (fun c1 => absurd c1 (by omega))
    subst hres
    exact hx _ _ _ B (lv_sub hl [0, 1] rfl)
  | succ n ih =>
    intro k d x pk sb ad t hk hd hb hp hsb had ht res hres hx H locs ls B hl
    obtain ⟨h0, h1, h2, h3, h4, h5, h6, h7, h8, h9, h10⟩ := id hs
    refine z_iload_n S (pc := 11) dX2_convert_11 rfl (lv_at hl 3 rfl) ?_
    refine z_aload_n S (pc := 12) dX2_convert_12 rfl (lv_at hl 0 rfl) ?_
    refine z_get S (pc := 13) B iX2_convert_X2 0 rfl rfl 1 (by decide) rfl rfl (by decide +kernel) dX2_convert_13 ?_
    refine z_get S (pc := 16) B iX2_convert_X4 2 rfl rfl 0 (by decide) rfl rfl (by decide +kernel) dX2_convert_16 ?_
    refine z_icmp_ge S (pc := 19) (tgt := 97) (by omega) (by omega) dX2_convert_19 rfl (fun c1 => ?_) (fun c1 => ?_)
    · exact absurd c1 (by omega)
    · refine z_aload_n S (pc := 22) dX2_convert_22 rfl (lv_at hl 0 rfl) ?_
      refine z_get S (pc := 23) B iX2_convert_X2 0 rfl rfl 1 (by decide) rfl rfl (by decide +kernel) dX2_convert_23 ?_
      refine z_iload_n S (pc := 26) dX2_convert_26 rfl (lv_at hl 3 rfl) ?_
      refine z_callV S (pc := 27) B (wr := [(a, .inr (2, [.ref b, .ref f, .ref g, .int (iI t), .int (iI (σ 12)), .int (iI (σ 13)), .int (iI rr), .int (iI rb), .long (iL rn)])), cSig b σ, (g, .inr (0, [.int (iI 1), .int (iI ov), .int (iI (σ 15)), .int (iI 0), .int (iI 0), .int (iI sb), .int (iI ad), .long (iL pk), .long (iL x)]))]) (wn := fun _ => [(a, .inr (2, [.ref b, .ref f, .ref g, .int (iI t), .int (iI (σ 12)), .int (iI (σ 13)), .int (iI rr), .int (iI rb), .long (iL rn)])), cSig b σ, cSet f σ, (g, .inr (0, [.int (iI 1), .int (iI ov), .int (iI (σ 15)), .int (iI 0), .int (iI 0), .int (iI sb), .int (iI ad), .long (iL pk), .long (iL x)]))]) (st1 := fun _ => [.int (iI (bI (σ 7 = 1 ∧ k % (σ 6) = 0)))]) (As := [.int (iI k)]) (mX4_beginsSlot l E f (up (up (up (up (up (up (up (up σ 22 1) 16 0) 17 0) 18 sb) 19 ad) 20 pk) 21 x) 11 t) k (show 1 ≤ σ 6 ∧ σ 6 ≤ 50 from by omega) (show 0 ≤ σ 7 ∧ σ 7 ≤ 1 from by omega) (show 0 ≤ k ∧ k ≤ 1000 from by omega)) gX2_convert_X4_beginsSlot 1 rfl (by decide +kernel) ⟨Nat.le_of_ble_eq_true rfl, Nat.le_of_ble_eq_true rfl, Nat.le_of_ble_eq_true rfl, Nat.le_of_ble_eq_true rfl⟩ 0 rfl (q := (RX4, TX4, 6)) rfl rfl [2] [0, 1, 3] [0, 1, 3, 2] rfl rfl ⟨rfl, rfl, rfl, by decide⟩ (fun _ => rfl) rfl (fun _ => rfl) hl.1 (Nat.le_of_ble_eq_true rfl) rfl dX2_convert_27 (fun _ _ H locs B => ?_)
      refine z_ifeq_b S (pc := 30) (tgt := 49) dX2_convert_30 rfl (fun c2 => ?_) (fun c2 => ?_)
      · refine z_aload_n S (pc := 49) dX2_convert_49 rfl (lv_at hl 0 rfl) ?_
        refine z_get S (pc := 50) B iX2_convert_X2 0 rfl rfl 2 (by decide) rfl rfl (by decide +kernel) dX2_convert_50 ?_
        refine z_aload_n S (pc := 53) dX2_convert_53 rfl (lv_at hl 0 rfl) ?_
        refine z_get S (pc := 54) B iX2_convert_X2 0 rfl rfl 0 (by decide) rfl rfl (by decide +kernel) dX2_convert_54 ?_
        refine z_aload_n S (pc := 57) dX2_convert_57 rfl (lv_at hl 0 rfl) ?_
        refine z_get S (pc := 58) B iX2_convert_X2 0 rfl rfl 3 (by decide) rfl rfl (by decide +kernel) dX2_convert_58 ?_
        refine z_iload_n S (pc := 61) dX2_convert_61 rfl (lv_at hl 1 rfl) ?_
        refine z_callV S (pc := 62) B (wr := [(a, .inr (2, [.ref b, .ref f, .ref g, .int (iI t), .int (iI (σ 12)), .int (iI (σ 13)), .int (iI rr), .int (iI rb), .long (iL rn)])), cSet f σ, (g, .inr (0, [.int (iI 1), .int (iI ov), .int (iI (σ 15)), .int (iI 0), .int (iI 0), .int (iI sb), .int (iI ad), .long (iL pk), .long (iL x)]))]) (wn := fun _ => [(a, .inr (2, [.ref b, .ref f, .ref g, .int (iI t), .int (iI (σ 12)), .int (iI (σ 13)), .int (iI rr), .int (iI rb), .long (iL rn)])), cSig b σ, cSet f σ, (g, .inr (0, [.int (iI 1), .int (iI ov), .int (iI (σ 15)), .int (iI 0), .int (iI 0), .int (iI sb), .int (iI ad), .long (iL pk), .long (iL x)]))]) (st1 := fun _ => [.long (iL (inpg (σ 0) (σ 1) (σ 2) t gg)), .ref g]) (As := [.int (iI t), .int (iI gg)]) (mX5_inputAt l E b (up (up (up (up (up (up (up (up σ 22 1) 16 0) 17 0) 18 sb) 19 ad) 20 pk) 21 x) 11 t) t gg (show -4000000 ≤ σ 0 ∧ σ 0 ≤ 4000000 from by omega) (show 0 ≤ σ 1 ∧ σ 1 ≤ 1000000 from by omega) (show inPe (σ 2) from by omega) (show 0 ≤ t ∧ t ≤ 2147483647 from by omega) (show 0 ≤ gg ∧ gg ≤ 1000 from by omega)) gX2_convert_X5_inputAt 2 rfl (by decide +kernel) ⟨Nat.le_of_ble_eq_true rfl, Nat.le_of_ble_eq_true rfl, Nat.le_of_ble_eq_true rfl, Nat.le_of_ble_eq_true rfl⟩ 0 rfl (q := (RX5, TX5, 5)) rfl rfl [1] [0, 2, 3] [0, 3, 1, 2] rfl rfl ⟨rfl, rfl, rfl, by decide⟩ (fun _ => rfl) rfl (fun _ => rfl) hl.1 (Nat.le_of_ble_eq_true rfl) rfl dX2_convert_62 (fun _ _ H locs B => ?_)
        refine z_aload_n S (pc := 65) dX2_convert_65 rfl (lv_at hl 0 rfl) ?_
        refine z_get S (pc := 66) B iX2_convert_X2 0 rfl rfl 0 (by decide) rfl rfl (by decide +kernel) dX2_convert_66 ?_
        refine z_aload_n S (pc := 69) dX2_convert_69 rfl (lv_at hl 0 rfl) ?_
        refine z_get S (pc := 70) B iX2_convert_X2 0 rfl rfl 3 (by decide) rfl rfl (by decide +kernel) dX2_convert_70 ?_
        refine z_callV S (pc := 73) B (wr := [(a, .inr (2, [.ref b, .ref f, .ref g, .int (iI t), .int (iI (σ 12)), .int (iI (σ 13)), .int (iI rr), .int (iI rb), .long (iL rn)])), cSet f σ, (g, .inr (0, [.int (iI 1), .int (iI ov), .int (iI (σ 15)), .int (iI 0), .int (iI 0), .int (iI sb), .int (iI ad), .long (iL pk), .long (iL x)]))]) (wn := fun _ => [(a, .inr (2, [.ref b, .ref f, .ref g, .int (iI t), .int (iI (σ 12)), .int (iI (σ 13)), .int (iI rr), .int (iI rb), .long (iL rn)])), cSig b σ, cSet f σ, (g, .inr (0, [.int (iI 1), .int (iI ov), .int (iI (σ 15)), .int (iI 0), .int (iI 0), .int (iI sb), .int (iI ad), .long (iL pk), .long (iL x)]))]) (st1 := fun _ => [.long (iL (offs (σ 3) (σ 4) t)), .long (iL (inpg (σ 0) (σ 1) (σ 2) t gg)), .ref g]) (As := [.int (iI t)]) (mX5_offsetAt l E b (up (up (up (up (up (up (up (up σ 22 1) 16 0) 17 0) 18 sb) 19 ad) 20 pk) 21 x) 11 t) t (show -100000 ≤ σ 3 ∧ σ 3 ≤ 100000 from by omega) (show -1000 ≤ σ 4 ∧ σ 4 ≤ 1000 from by omega) (show 0 ≤ t ∧ t ≤ 2147483647 from by omega)) gX2_convert_X5_offsetAt 1 rfl (by decide +kernel) ⟨Nat.le_of_ble_eq_true rfl, Nat.le_of_ble_eq_true rfl, Nat.le_of_ble_eq_true rfl, Nat.le_of_ble_eq_true rfl⟩ 0 rfl (q := (RX5, TX5, 5)) rfl rfl [1] [0, 2, 3] [0, 3, 1, 2] rfl rfl ⟨rfl, rfl, rfl, by decide⟩ (fun _ => rfl) rfl (fun _ => rfl) hl.1 (Nat.le_of_ble_eq_true rfl) rfl dX2_convert_73 (fun _ _ H locs B => ?_)
        have hv1 := inpg_bd (σ 0) (σ 1) (σ 2) t gg
        have hv2 := offs_bd (σ 3) (σ 4) t
        refine z_ladd S (pc := 76) dX2_convert_76 ?_
        refine z_iload_n S (pc := 77) dX2_convert_77 rfl (lv_at hl 2 rfl) ?_
        refine z_callV S (pc := 78) B (wr := [(a, .inr (2, [.ref b, .ref f, .ref g, .int (iI t), .int (iI (σ 12)), .int (iI (σ 13)), .int (iI rr), .int (iI rb), .long (iL rn)])), cSig b σ, cSet f σ]) (wn := fun _ => [(a, .inr (2, [.ref b, .ref f, .ref g, .int (iI t), .int (iI (σ 12)), .int (iI (σ 13)), .int (iI rr), .int (iI rb), .long (iL rn)])), cSig b σ, cSet f σ, (g, .inr (0, [.int (iI 1), .int (iI ov), .int (iI (σ 15)), .int (iI 0), .int (iI 0), .int (iI (if d < 0 then sb + 1 else sb)), .int (iI (if 0 < d then ad + 1 else ad)), .long (iL (mx pk (x + (((inpg (σ 0) (σ 1) (σ 2) t gg) + (offs (σ 3) (σ 4) t)) + d * 1048576)))), .long (iL (x + (((inpg (σ 0) (σ 1) (σ 2) t gg) + (offs (σ 3) (σ 4) t)) + d * 1048576)))]))]) (st1 := fun _ => []) (As := [.long (iL ((inpg (σ 0) (σ 1) (σ 2) t gg) + (offs (σ 3) (σ 4) t))), .int (iI d)]) (mX0_runUp l E g (up (up (up (up (up (up (up (up σ 22 1) 16 0) 17 0) 18 sb) 19 ad) 20 pk) 21 x) 11 t) ov ((inpg (σ 0) (σ 1) (σ 2) t gg) + (offs (σ 3) (σ 4) t)) d (show -1000000000000 ≤ x ∧ x ≤ 1000000000000 from by omega) (show -3000000 ≤ ((inpg (σ 0) (σ 1) (σ 2) t gg) + (offs (σ 3) (σ 4) t)) ∧ ((inpg (σ 0) (σ 1) (σ 2) t gg) + (offs (σ 3) (σ 4) t)) ≤ 3000000 from by omega) (show 0 ≤ pk ∧ pk ≤ 2000000000000 from by omega) (show -1 ≤ d ∧ d ≤ 1 from by omega)) gX2_convert_X0_runUp 2 rfl (by decide +kernel) ⟨Nat.le_of_ble_eq_true rfl, Nat.le_of_ble_eq_true rfl, Nat.le_of_ble_eq_true rfl, Nat.le_of_ble_eq_true rfl⟩ 0 rfl (q := (RX0, TX0, 9)) rfl rfl [3] [0, 1, 2] [0, 1, 2, 3] rfl rfl ⟨rfl, rfl, rfl, by decide⟩ (fun _ => rfl) rfl (fun _ => rfl) hl.1 (Nat.le_of_ble_eq_true rfl) rfl dX2_convert_78 (fun _ _ H locs B => ?_)
        refine z_aload_n S (pc := 81) dX2_convert_81 rfl (lv_at hl 0 rfl) ?_
        refine lv_dup S.1 S.2.1 (pc := 82) dX2_convert_82 rfl ?_
        refine z_get S (pc := 83) B iX2_convert_X2 0 rfl rfl 3 (by decide) rfl rfl (by decide +kernel) dX2_convert_83 ?_
        refine z_iconst S (pc := 86) dX2_convert_86 ?_
        refine z_iadd S (pc := 87) dX2_convert_87 ?_
        refine z_put S (pc := 88) B iX2_convert_X2 tyX2_ok nmX2 0 rfl rfl 3 (by decide) rfl (by decide +kernel) (ty := .int) (by decide +kernel) rfl rfl (Nat.le_of_ble_eq_true rfl) dX2_convert_88 (wn := [(a, .inr (2, [.ref b, .ref f, .ref g, .int (iI (t + 1)), .int (iI (σ 12)), .int (iI (σ 13)), .int (iI rr), .int (iI rb), .long (iL rn)])), cSig b σ, cSet f σ, (g, .inr (0, [.int (iI 1), .int (iI ov), .int (iI (σ 15)), .int (iI 0), .int (iI 0), .int (iI (if d < 0 then sb + 1 else sb)), .int (iI (if 0 < d then ad + 1 else ad)), .long (iL (mx pk (x + (((inpg (σ 0) (σ 1) (σ 2) t gg) + (offs (σ 3) (σ 4) t)) + d * 1048576)))), .long (iL (x + (((inpg (σ 0) (σ 1) (σ 2) t gg) + (offs (σ 3) (σ 4) t)) + d * 1048576)))]))]) rfl (fun H locs B => ?_)
        refine lv_iinc (v := iI (k + 1)) (lv' := [(3, .int (iI (k + 1))), (0, .ref a), (1, .int (iI gg)), (2, .int (iI d))]) S.1 S.2.1 (pc := 91) dX2_convert_91 hl (k := 3) rfl (iI_add _ _) (by decide) rfl (fun ls hl => ?_)
        refine lv_goto S.1 S.2.1 (pc := 94) (tgt := 11) dX2_convert_94 rfl ?_
        have e1 : dirn (σ 7) (σ 6) k d x = d := (dirn_n c2)
        have b1 := stx_bd (md := σ 7) (sl := σ 6) (k := k) (t := t) (volt_bd σ gg) hd hb
        unfold stx at b1
        rw [e1] at b1
        have b2 := mx_bd (p := pk) (x := x + (((inpg (σ 0) (σ 1) (σ 2) t gg) + (offs (σ 3) (σ 4) t)) + d * 1048576)) (m := 4194304 * (k + 1)) hp.1 (by omega) (by have := b1.2.1; unfold volt at this; omega) (by have := b1.2.2; unfold volt at this; omega)
        exact ih (k + 1) d (x + (((inpg (σ 0) (σ 1) (σ 2) t gg) + (offs (σ 3) (σ 4) t)) + d * 1048576)) (mx pk (x + (((inpg (σ 0) (σ 1) (σ 2) t gg) + (offs (σ 3) (σ 4) t)) + d * 1048576))) (if d < 0 then sb + 1 else sb) (if 0 < d then ad + 1 else ad) (t + 1) (by omega) b1.1 (by have := b1.2; unfold volt at this; omega) b2 (by split <;> omega) (by split <;> omega) (by omega) res ((upL_s d e1).symm.trans hres) hx _ _ _ B (lv_sub hl [1, 2, 3, 0] rfl)
      · refine z_aload_n S (pc := 33) dX2_convert_33 rfl (lv_at hl 0 rfl) ?_
        refine z_get S (pc := 34) B iX2_convert_X2 0 rfl rfl 2 (by decide) rfl rfl (by decide +kernel) dX2_convert_34 ?_
        refine z_callV S (pc := 37) B (wr := [(a, .inr (2, [.ref b, .ref f, .ref g, .int (iI t), .int (iI (σ 12)), .int (iI (σ 13)), .int (iI rr), .int (iI rb), .long (iL rn)])), cSig b σ, cSet f σ]) (wn := fun _ => [(a, .inr (2, [.ref b, .ref f, .ref g, .int (iI t), .int (iI (σ 12)), .int (iI (σ 13)), .int (iI rr), .int (iI rb), .long (iL rn)])), cSig b σ, cSet f σ, (g, .inr (0, [.int (iI 1), .int (iI ov), .int (iI (σ 15)), .int (iI 0), .int (iI 0), .int (iI sb), .int (iI ad), .long (iL pk), .long (iL x)]))]) (st1 := fun _ => [.int (iI (sg x))]) (As := []) (mX0_sign l E g (up (up (up (up (up (up (up (up σ 22 1) 16 0) 17 0) 18 sb) 19 ad) 20 pk) 21 x) 11 t) ov (show inL x from by omega)) gX2_convert_X0_sign 0 rfl (by decide +kernel) ⟨Nat.le_of_ble_eq_true rfl, Nat.le_of_ble_eq_true rfl, Nat.le_of_ble_eq_true rfl, Nat.le_of_ble_eq_true rfl⟩ 0 rfl (q := (RX0, TX0, 9)) rfl rfl [3] [0, 1, 2] [0, 1, 2, 3] rfl rfl ⟨rfl, rfl, rfl, by decide⟩ (fun _ => rfl) rfl (fun _ => rfl) hl.1 (Nat.le_of_ble_eq_true rfl) rfl dX2_convert_37 (fun _ _ H locs B => ?_)
        have hsg := sg_c x
        refine z_if_le S (pc := 40) (tgt := 47) (by omega) dX2_convert_40 rfl (fun c3 => ?_) (fun c3 => ?_)
        · refine z_iconst S (pc := 47) dX2_convert_47 ?_
          refine lv_istore_n (lv' := [(2, .int (iI 1)), (0, .ref a), (1, .int (iI gg)), (3, .int (iI k))]) S.1 S.2.1 (pc := 48) dX2_convert_48 rfl hl (by decide) rfl (fun ls hl => ?_)
          refine z_aload_n S (pc := 49) dX2_convert_49 rfl (lv_at hl 1 rfl) ?_
          refine z_get S (pc := 50) B iX2_convert_X2 0 rfl rfl 2 (by decide) rfl rfl (by decide +kernel) dX2_convert_50 ?_
          refine z_aload_n S (pc := 53) dX2_convert_53 rfl (lv_at hl 1 rfl) ?_
          refine z_get S (pc := 54) B iX2_convert_X2 0 rfl rfl 0 (by decide) rfl rfl (by decide +kernel) dX2_convert_54 ?_
          refine z_aload_n S (pc := 57) dX2_convert_57 rfl (lv_at hl 1 rfl) ?_
          refine z_get S (pc := 58) B iX2_convert_X2 0 rfl rfl 3 (by decide) rfl rfl (by decide +kernel) dX2_convert_58 ?_
          refine z_iload_n S (pc := 61) dX2_convert_61 rfl (lv_at hl 2 rfl) ?_
          refine z_callV S (pc := 62) B (wr := [(a, .inr (2, [.ref b, .ref f, .ref g, .int (iI t), .int (iI (σ 12)), .int (iI (σ 13)), .int (iI rr), .int (iI rb), .long (iL rn)])), cSet f σ, (g, .inr (0, [.int (iI 1), .int (iI ov), .int (iI (σ 15)), .int (iI 0), .int (iI 0), .int (iI sb), .int (iI ad), .long (iL pk), .long (iL x)]))]) (wn := fun _ => [(a, .inr (2, [.ref b, .ref f, .ref g, .int (iI t), .int (iI (σ 12)), .int (iI (σ 13)), .int (iI rr), .int (iI rb), .long (iL rn)])), cSig b σ, cSet f σ, (g, .inr (0, [.int (iI 1), .int (iI ov), .int (iI (σ 15)), .int (iI 0), .int (iI 0), .int (iI sb), .int (iI ad), .long (iL pk), .long (iL x)]))]) (st1 := fun _ => [.long (iL (inpg (σ 0) (σ 1) (σ 2) t gg)), .ref g]) (As := [.int (iI t), .int (iI gg)]) (mX5_inputAt l E b (up (up (up (up (up (up (up (up σ 22 1) 16 0) 17 0) 18 sb) 19 ad) 20 pk) 21 x) 11 t) t gg (show -4000000 ≤ σ 0 ∧ σ 0 ≤ 4000000 from by omega) (show 0 ≤ σ 1 ∧ σ 1 ≤ 1000000 from by omega) (show inPe (σ 2) from by omega) (show 0 ≤ t ∧ t ≤ 2147483647 from by omega) (show 0 ≤ gg ∧ gg ≤ 1000 from by omega)) gX2_convert_X5_inputAt 2 rfl (by decide +kernel) ⟨Nat.le_of_ble_eq_true rfl, Nat.le_of_ble_eq_true rfl, Nat.le_of_ble_eq_true rfl, Nat.le_of_ble_eq_true rfl⟩ 0 rfl (q := (RX5, TX5, 5)) rfl rfl [1] [0, 2, 3] [0, 3, 1, 2] rfl rfl ⟨rfl, rfl, rfl, by decide⟩ (fun _ => rfl) rfl (fun _ => rfl) hl.1 (Nat.le_of_ble_eq_true rfl) rfl dX2_convert_62 (fun _ _ H locs B => ?_)
          refine z_aload_n S (pc := 65) dX2_convert_65 rfl (lv_at hl 1 rfl) ?_
          refine z_get S (pc := 66) B iX2_convert_X2 0 rfl rfl 0 (by decide) rfl rfl (by decide +kernel) dX2_convert_66 ?_
          refine z_aload_n S (pc := 69) dX2_convert_69 rfl (lv_at hl 1 rfl) ?_
          refine z_get S (pc := 70) B iX2_convert_X2 0 rfl rfl 3 (by decide) rfl rfl (by decide +kernel) dX2_convert_70 ?_
          refine z_callV S (pc := 73) B (wr := [(a, .inr (2, [.ref b, .ref f, .ref g, .int (iI t), .int (iI (σ 12)), .int (iI (σ 13)), .int (iI rr), .int (iI rb), .long (iL rn)])), cSet f σ, (g, .inr (0, [.int (iI 1), .int (iI ov), .int (iI (σ 15)), .int (iI 0), .int (iI 0), .int (iI sb), .int (iI ad), .long (iL pk), .long (iL x)]))]) (wn := fun _ => [(a, .inr (2, [.ref b, .ref f, .ref g, .int (iI t), .int (iI (σ 12)), .int (iI (σ 13)), .int (iI rr), .int (iI rb), .long (iL rn)])), cSig b σ, cSet f σ, (g, .inr (0, [.int (iI 1), .int (iI ov), .int (iI (σ 15)), .int (iI 0), .int (iI 0), .int (iI sb), .int (iI ad), .long (iL pk), .long (iL x)]))]) (st1 := fun _ => [.long (iL (offs (σ 3) (σ 4) t)), .long (iL (inpg (σ 0) (σ 1) (σ 2) t gg)), .ref g]) (As := [.int (iI t)]) (mX5_offsetAt l E b (up (up (up (up (up (up (up (up σ 22 1) 16 0) 17 0) 18 sb) 19 ad) 20 pk) 21 x) 11 t) t (show -100000 ≤ σ 3 ∧ σ 3 ≤ 100000 from by omega) (show -1000 ≤ σ 4 ∧ σ 4 ≤ 1000 from by omega) (show 0 ≤ t ∧ t ≤ 2147483647 from by omega)) gX2_convert_X5_offsetAt 1 rfl (by decide +kernel) ⟨Nat.le_of_ble_eq_true rfl, Nat.le_of_ble_eq_true rfl, Nat.le_of_ble_eq_true rfl, Nat.le_of_ble_eq_true rfl⟩ 0 rfl (q := (RX5, TX5, 5)) rfl rfl [1] [0, 2, 3] [0, 3, 1, 2] rfl rfl ⟨rfl, rfl, rfl, by decide⟩ (fun _ => rfl) rfl (fun _ => rfl) hl.1 (Nat.le_of_ble_eq_true rfl) rfl dX2_convert_73 (fun _ _ H locs B => ?_)
          have hv1 := inpg_bd (σ 0) (σ 1) (σ 2) t gg
          have hv2 := offs_bd (σ 3) (σ 4) t
          refine z_ladd S (pc := 76) dX2_convert_76 ?_
          refine z_iload_n S (pc := 77) dX2_convert_77 rfl (lv_at hl 0 rfl) ?_
          refine z_callV S (pc := 78) B (wr := [(a, .inr (2, [.ref b, .ref f, .ref g, .int (iI t), .int (iI (σ 12)), .int (iI (σ 13)), .int (iI rr), .int (iI rb), .long (iL rn)])), cSig b σ, cSet f σ]) (wn := fun _ => [(a, .inr (2, [.ref b, .ref f, .ref g, .int (iI t), .int (iI (σ 12)), .int (iI (σ 13)), .int (iI rr), .int (iI rb), .long (iL rn)])), cSig b σ, cSet f σ, (g, .inr (0, [.int (iI 1), .int (iI ov), .int (iI (σ 15)), .int (iI 0), .int (iI 0), .int (iI (if 1 < 0 then sb + 1 else sb)), .int (iI (if 0 < 1 then ad + 1 else ad)), .long (iL (mx pk (x + (((inpg (σ 0) (σ 1) (σ 2) t gg) + (offs (σ 3) (σ 4) t)) + 1 * 1048576)))), .long (iL (x + (((inpg (σ 0) (σ 1) (σ 2) t gg) + (offs (σ 3) (σ 4) t)) + 1 * 1048576)))]))]) (st1 := fun _ => []) (As := [.long (iL ((inpg (σ 0) (σ 1) (σ 2) t gg) + (offs (σ 3) (σ 4) t))), .int (iI 1)]) (mX0_runUp l E g (up (up (up (up (up (up (up (up σ 22 1) 16 0) 17 0) 18 sb) 19 ad) 20 pk) 21 x) 11 t) ov ((inpg (σ 0) (σ 1) (σ 2) t gg) + (offs (σ 3) (σ 4) t)) 1 (show -1000000000000 ≤ x ∧ x ≤ 1000000000000 from by omega) (show -3000000 ≤ ((inpg (σ 0) (σ 1) (σ 2) t gg) + (offs (σ 3) (σ 4) t)) ∧ ((inpg (σ 0) (σ 1) (σ 2) t gg) + (offs (σ 3) (σ 4) t)) ≤ 3000000 from by omega) (show 0 ≤ pk ∧ pk ≤ 2000000000000 from by omega) (show -1 ≤ 1 ∧ 1 ≤ 1 from by omega)) gX2_convert_X0_runUp 2 rfl (by decide +kernel) ⟨Nat.le_of_ble_eq_true rfl, Nat.le_of_ble_eq_true rfl, Nat.le_of_ble_eq_true rfl, Nat.le_of_ble_eq_true rfl⟩ 0 rfl (q := (RX0, TX0, 9)) rfl rfl [3] [0, 1, 2] [0, 1, 2, 3] rfl rfl ⟨rfl, rfl, rfl, by decide⟩ (fun _ => rfl) rfl (fun _ => rfl) hl.1 (Nat.le_of_ble_eq_true rfl) rfl dX2_convert_78 (fun _ _ H locs B => ?_)
          refine z_aload_n S (pc := 81) dX2_convert_81 rfl (lv_at hl 1 rfl) ?_
          refine lv_dup S.1 S.2.1 (pc := 82) dX2_convert_82 rfl ?_
          refine z_get S (pc := 83) B iX2_convert_X2 0 rfl rfl 3 (by decide) rfl rfl (by decide +kernel) dX2_convert_83 ?_
          refine z_iconst S (pc := 86) dX2_convert_86 ?_
          refine z_iadd S (pc := 87) dX2_convert_87 ?_
          refine z_put S (pc := 88) B iX2_convert_X2 tyX2_ok nmX2 0 rfl rfl 3 (by decide) rfl (by decide +kernel) (ty := .int) (by decide +kernel) rfl rfl (Nat.le_of_ble_eq_true rfl) dX2_convert_88 (wn := [(a, .inr (2, [.ref b, .ref f, .ref g, .int (iI (t + 1)), .int (iI (σ 12)), .int (iI (σ 13)), .int (iI rr), .int (iI rb), .long (iL rn)])), cSig b σ, cSet f σ, (g, .inr (0, [.int (iI 1), .int (iI ov), .int (iI (σ 15)), .int (iI 0), .int (iI 0), .int (iI (if 1 < 0 then sb + 1 else sb)), .int (iI (if 0 < 1 then ad + 1 else ad)), .long (iL (mx pk (x + (((inpg (σ 0) (σ 1) (σ 2) t gg) + (offs (σ 3) (σ 4) t)) + 1 * 1048576)))), .long (iL (x + (((inpg (σ 0) (σ 1) (σ 2) t gg) + (offs (σ 3) (σ 4) t)) + 1 * 1048576)))]))]) rfl (fun H locs B => ?_)
          refine lv_iinc (v := iI (k + 1)) (lv' := [(3, .int (iI (k + 1))), (2, .int (iI 1)), (0, .ref a), (1, .int (iI gg))]) S.1 S.2.1 (pc := 91) dX2_convert_91 hl (k := 3) rfl (iI_add _ _) (by decide) rfl (fun ls hl => ?_)
          refine lv_goto S.1 S.2.1 (pc := 94) (tgt := 11) dX2_convert_94 rfl ?_
          have e1 : dirn (σ 7) (σ 6) k d x = 1 := (dirn_a c2 (sg_npos c3))
          have b1 := stx_bd (md := σ 7) (sl := σ 6) (k := k) (t := t) (volt_bd σ gg) hd hb
          unfold stx at b1
          rw [e1] at b1
          have b2 := mx_bd (p := pk) (x := x + (((inpg (σ 0) (σ 1) (σ 2) t gg) + (offs (σ 3) (σ 4) t)) + 1 * 1048576)) (m := 4194304 * (k + 1)) hp.1 (by omega) (by have := b1.2.1; unfold volt at this; omega) (by have := b1.2.2; unfold volt at this; omega)
          exact ih (k + 1) 1 (x + (((inpg (σ 0) (σ 1) (σ 2) t gg) + (offs (σ 3) (σ 4) t)) + 1 * 1048576)) (mx pk (x + (((inpg (σ 0) (σ 1) (σ 2) t gg) + (offs (σ 3) (σ 4) t)) + 1 * 1048576))) (if 1 < 0 then sb + 1 else sb) (if 0 < 1 then ad + 1 else ad) (t + 1) (by omega) b1.1 (by have := b1.2; unfold volt at this; omega) b2 (by split <;> omega) (by split <;> omega) (by omega) res ((upL_s 1 e1).symm.trans hres) hx _ _ _ B (lv_sub hl [2, 3, 1, 0] rfl)
        · refine z_iconst S (pc := 43) dX2_convert_43 ?_
          refine lv_goto S.1 S.2.1 (pc := 44) (tgt := 48) dX2_convert_44 rfl ?_
          refine lv_istore_n (lv' := [(2, .int (iI (-1))), (0, .ref a), (1, .int (iI gg)), (3, .int (iI k))]) S.1 S.2.1 (pc := 48) dX2_convert_48 rfl hl (by decide) rfl (fun ls hl => ?_)
          refine z_aload_n S (pc := 49) dX2_convert_49 rfl (lv_at hl 1 rfl) ?_
          refine z_get S (pc := 50) B iX2_convert_X2 0 rfl rfl 2 (by decide) rfl rfl (by decide +kernel) dX2_convert_50 ?_
          refine z_aload_n S (pc := 53) dX2_convert_53 rfl (lv_at hl 1 rfl) ?_
          refine z_get S (pc := 54) B iX2_convert_X2 0 rfl rfl 0 (by decide) rfl rfl (by decide +kernel) dX2_convert_54 ?_
          refine z_aload_n S (pc := 57) dX2_convert_57 rfl (lv_at hl 1 rfl) ?_
          refine z_get S (pc := 58) B iX2_convert_X2 0 rfl rfl 3 (by decide) rfl rfl (by decide +kernel) dX2_convert_58 ?_
          refine z_iload_n S (pc := 61) dX2_convert_61 rfl (lv_at hl 2 rfl) ?_
          refine z_callV S (pc := 62) B (wr := [(a, .inr (2, [.ref b, .ref f, .ref g, .int (iI t), .int (iI (σ 12)), .int (iI (σ 13)), .int (iI rr), .int (iI rb), .long (iL rn)])), cSet f σ, (g, .inr (0, [.int (iI 1), .int (iI ov), .int (iI (σ 15)), .int (iI 0), .int (iI 0), .int (iI sb), .int (iI ad), .long (iL pk), .long (iL x)]))]) (wn := fun _ => [(a, .inr (2, [.ref b, .ref f, .ref g, .int (iI t), .int (iI (σ 12)), .int (iI (σ 13)), .int (iI rr), .int (iI rb), .long (iL rn)])), cSig b σ, cSet f σ, (g, .inr (0, [.int (iI 1), .int (iI ov), .int (iI (σ 15)), .int (iI 0), .int (iI 0), .int (iI sb), .int (iI ad), .long (iL pk), .long (iL x)]))]) (st1 := fun _ => [.long (iL (inpg (σ 0) (σ 1) (σ 2) t gg)), .ref g]) (As := [.int (iI t), .int (iI gg)]) (mX5_inputAt l E b (up (up (up (up (up (up (up (up σ 22 1) 16 0) 17 0) 18 sb) 19 ad) 20 pk) 21 x) 11 t) t gg (show -4000000 ≤ σ 0 ∧ σ 0 ≤ 4000000 from by omega) (show 0 ≤ σ 1 ∧ σ 1 ≤ 1000000 from by omega) (show inPe (σ 2) from by omega) (show 0 ≤ t ∧ t ≤ 2147483647 from by omega) (show 0 ≤ gg ∧ gg ≤ 1000 from by omega)) gX2_convert_X5_inputAt 2 rfl (by decide +kernel) ⟨Nat.le_of_ble_eq_true rfl, Nat.le_of_ble_eq_true rfl, Nat.le_of_ble_eq_true rfl, Nat.le_of_ble_eq_true rfl⟩ 0 rfl (q := (RX5, TX5, 5)) rfl rfl [1] [0, 2, 3] [0, 3, 1, 2] rfl rfl ⟨rfl, rfl, rfl, by decide⟩ (fun _ => rfl) rfl (fun _ => rfl) hl.1 (Nat.le_of_ble_eq_true rfl) rfl dX2_convert_62 (fun _ _ H locs B => ?_)
          refine z_aload_n S (pc := 65) dX2_convert_65 rfl (lv_at hl 1 rfl) ?_
          refine z_get S (pc := 66) B iX2_convert_X2 0 rfl rfl 0 (by decide) rfl rfl (by decide +kernel) dX2_convert_66 ?_
          refine z_aload_n S (pc := 69) dX2_convert_69 rfl (lv_at hl 1 rfl) ?_
          refine z_get S (pc := 70) B iX2_convert_X2 0 rfl rfl 3 (by decide) rfl rfl (by decide +kernel) dX2_convert_70 ?_
          refine z_callV S (pc := 73) B (wr := [(a, .inr (2, [.ref b, .ref f, .ref g, .int (iI t), .int (iI (σ 12)), .int (iI (σ 13)), .int (iI rr), .int (iI rb), .long (iL rn)])), cSet f σ, (g, .inr (0, [.int (iI 1), .int (iI ov), .int (iI (σ 15)), .int (iI 0), .int (iI 0), .int (iI sb), .int (iI ad), .long (iL pk), .long (iL x)]))]) (wn := fun _ => [(a, .inr (2, [.ref b, .ref f, .ref g, .int (iI t), .int (iI (σ 12)), .int (iI (σ 13)), .int (iI rr), .int (iI rb), .long (iL rn)])), cSig b σ, cSet f σ, (g, .inr (0, [.int (iI 1), .int (iI ov), .int (iI (σ 15)), .int (iI 0), .int (iI 0), .int (iI sb), .int (iI ad), .long (iL pk), .long (iL x)]))]) (st1 := fun _ => [.long (iL (offs (σ 3) (σ 4) t)), .long (iL (inpg (σ 0) (σ 1) (σ 2) t gg)), .ref g]) (As := [.int (iI t)]) (mX5_offsetAt l E b (up (up (up (up (up (up (up (up σ 22 1) 16 0) 17 0) 18 sb) 19 ad) 20 pk) 21 x) 11 t) t (show -100000 ≤ σ 3 ∧ σ 3 ≤ 100000 from by omega) (show -1000 ≤ σ 4 ∧ σ 4 ≤ 1000 from by omega) (show 0 ≤ t ∧ t ≤ 2147483647 from by omega)) gX2_convert_X5_offsetAt 1 rfl (by decide +kernel) ⟨Nat.le_of_ble_eq_true rfl, Nat.le_of_ble_eq_true rfl, Nat.le_of_ble_eq_true rfl, Nat.le_of_ble_eq_true rfl⟩ 0 rfl (q := (RX5, TX5, 5)) rfl rfl [1] [0, 2, 3] [0, 3, 1, 2] rfl rfl ⟨rfl, rfl, rfl, by decide⟩ (fun _ => rfl) rfl (fun _ => rfl) hl.1 (Nat.le_of_ble_eq_true rfl) rfl dX2_convert_73 (fun _ _ H locs B => ?_)
          have hv1 := inpg_bd (σ 0) (σ 1) (σ 2) t gg
          have hv2 := offs_bd (σ 3) (σ 4) t
          refine z_ladd S (pc := 76) dX2_convert_76 ?_
          refine z_iload_n S (pc := 77) dX2_convert_77 rfl (lv_at hl 0 rfl) ?_
          refine z_callV S (pc := 78) B (wr := [(a, .inr (2, [.ref b, .ref f, .ref g, .int (iI t), .int (iI (σ 12)), .int (iI (σ 13)), .int (iI rr), .int (iI rb), .long (iL rn)])), cSig b σ, cSet f σ]) (wn := fun _ => [(a, .inr (2, [.ref b, .ref f, .ref g, .int (iI t), .int (iI (σ 12)), .int (iI (σ 13)), .int (iI rr), .int (iI rb), .long (iL rn)])), cSig b σ, cSet f σ, (g, .inr (0, [.int (iI 1), .int (iI ov), .int (iI (σ 15)), .int (iI 0), .int (iI 0), .int (iI (if (-1) < 0 then sb + 1 else sb)), .int (iI (if 0 < (-1) then ad + 1 else ad)), .long (iL (mx pk (x + (((inpg (σ 0) (σ 1) (σ 2) t gg) + (offs (σ 3) (σ 4) t)) + (-1) * 1048576)))), .long (iL (x + (((inpg (σ 0) (σ 1) (σ 2) t gg) + (offs (σ 3) (σ 4) t)) + (-1) * 1048576)))]))]) (st1 := fun _ => []) (As := [.long (iL ((inpg (σ 0) (σ 1) (σ 2) t gg) + (offs (σ 3) (σ 4) t))), .int (iI (-1))]) (mX0_runUp l E g (up (up (up (up (up (up (up (up σ 22 1) 16 0) 17 0) 18 sb) 19 ad) 20 pk) 21 x) 11 t) ov ((inpg (σ 0) (σ 1) (σ 2) t gg) + (offs (σ 3) (σ 4) t)) (-1) (show -1000000000000 ≤ x ∧ x ≤ 1000000000000 from by omega) (show -3000000 ≤ ((inpg (σ 0) (σ 1) (σ 2) t gg) + (offs (σ 3) (σ 4) t)) ∧ ((inpg (σ 0) (σ 1) (σ 2) t gg) + (offs (σ 3) (σ 4) t)) ≤ 3000000 from by omega) (show 0 ≤ pk ∧ pk ≤ 2000000000000 from by omega) (show -1 ≤ (-1) ∧ (-1) ≤ 1 from by omega)) gX2_convert_X0_runUp 2 rfl (by decide +kernel) ⟨Nat.le_of_ble_eq_true rfl, Nat.le_of_ble_eq_true rfl, Nat.le_of_ble_eq_true rfl, Nat.le_of_ble_eq_true rfl⟩ 0 rfl (q := (RX0, TX0, 9)) rfl rfl [3] [0, 1, 2] [0, 1, 2, 3] rfl rfl ⟨rfl, rfl, rfl, by decide⟩ (fun _ => rfl) rfl (fun _ => rfl) hl.1 (Nat.le_of_ble_eq_true rfl) rfl dX2_convert_78 (fun _ _ H locs B => ?_)
          refine z_aload_n S (pc := 81) dX2_convert_81 rfl (lv_at hl 1 rfl) ?_
          refine lv_dup S.1 S.2.1 (pc := 82) dX2_convert_82 rfl ?_
          refine z_get S (pc := 83) B iX2_convert_X2 0 rfl rfl 3 (by decide) rfl rfl (by decide +kernel) dX2_convert_83 ?_
          refine z_iconst S (pc := 86) dX2_convert_86 ?_
          refine z_iadd S (pc := 87) dX2_convert_87 ?_
          refine z_put S (pc := 88) B iX2_convert_X2 tyX2_ok nmX2 0 rfl rfl 3 (by decide) rfl (by decide +kernel) (ty := .int) (by decide +kernel) rfl rfl (Nat.le_of_ble_eq_true rfl) dX2_convert_88 (wn := [(a, .inr (2, [.ref b, .ref f, .ref g, .int (iI (t + 1)), .int (iI (σ 12)), .int (iI (σ 13)), .int (iI rr), .int (iI rb), .long (iL rn)])), cSig b σ, cSet f σ, (g, .inr (0, [.int (iI 1), .int (iI ov), .int (iI (σ 15)), .int (iI 0), .int (iI 0), .int (iI (if (-1) < 0 then sb + 1 else sb)), .int (iI (if 0 < (-1) then ad + 1 else ad)), .long (iL (mx pk (x + (((inpg (σ 0) (σ 1) (σ 2) t gg) + (offs (σ 3) (σ 4) t)) + (-1) * 1048576)))), .long (iL (x + (((inpg (σ 0) (σ 1) (σ 2) t gg) + (offs (σ 3) (σ 4) t)) + (-1) * 1048576)))]))]) rfl (fun H locs B => ?_)
          refine lv_iinc (v := iI (k + 1)) (lv' := [(3, .int (iI (k + 1))), (2, .int (iI (-1))), (0, .ref a), (1, .int (iI gg))]) S.1 S.2.1 (pc := 91) dX2_convert_91 hl (k := 3) rfl (iI_add _ _) (by decide) rfl (fun ls hl => ?_)
          refine lv_goto S.1 S.2.1 (pc := 94) (tgt := 11) dX2_convert_94 rfl ?_
          have e1 : dirn (σ 7) (σ 6) k d x = (-1) := (dirn_s c2 (sg_pos c3))
          have b1 := stx_bd (md := σ 7) (sl := σ 6) (k := k) (t := t) (volt_bd σ gg) hd hb
          unfold stx at b1
          rw [e1] at b1
          have b2 := mx_bd (p := pk) (x := x + (((inpg (σ 0) (σ 1) (σ 2) t gg) + (offs (σ 3) (σ 4) t)) + (-1) * 1048576)) (m := 4194304 * (k + 1)) hp.1 (by omega) (by have := b1.2.1; unfold volt at this; omega) (by have := b1.2.2; unfold volt at this; omega)
          exact ih (k + 1) (-1) (x + (((inpg (σ 0) (σ 1) (σ 2) t gg) + (offs (σ 3) (σ 4) t)) + (-1) * 1048576)) (mx pk (x + (((inpg (σ 0) (σ 1) (σ 2) t gg) + (offs (σ 3) (σ 4) t)) + (-1) * 1048576))) (if (-1) < 0 then sb + 1 else sb) (if 0 < (-1) then ad + 1 else ad) (t + 1) (by omega) b1.1 (by have := b1.2; unfold volt at this; omega) b2 (by split <;> omega) (by split <;> omega) (by omega) res ((upL_s (-1) e1).symm.trans hres) hx _ _ _ B (lv_sub hl [2, 3, 1, 0] rfl)
set_option maxHeartbeats 4000000 in
set_option maxRecDepth 100000 in
theorem mX2_convert (l : Launch) (E : gT) (a : Nat) (b : Nat) (f : Nat) (g : Nat) (σ : Nat → Int) (ov : Int) (rr : Int) (rb : Int) (rn : Int) (gg : Int) (hs : Sets σ) (h11 : 0 ≤ σ 11 ∧ σ 11 ≤ 2100000000) (hg : 0 ≤ gg ∧ gg ≤ 1000) : Cd l E yX2_convert wsX2_convert 2 47 0 0 [.ref a, .int (iI gg)] [cMet a b f g σ rr rb rn, cSig b σ, cSet f σ, cCon g σ ov] none [(a, .inr (2, [.ref b, .ref f, .ref g, .int (iI ((cvt σ gg) 11)), .int (iI (σ 12)), .int (iI (σ 13)), .int (iI rr), .int (iI rb), .long (iL rn)])), cSig b σ, cSet f σ, cCon g (cvt σ gg) (ovr σ gg)] := by
  refine Ct.mk (cc := cX2_convert) (maxL := 4) (ret := none) (plainFor_of_name (by decide)) rfl (Nat.le_of_ble_eq_true rfl) ?_
  intro p e s m below meth c A ls H locs S hr hlk hnm B hl
  have S : CallFix p m c cX2_convert 4 s #[.ref a, .int (iI gg)] wsX2_convert RX2 := S
  have hl : lv_has ls 4 [(0, .ref a), (1, .int (iI gg))] := hl
  obtain ⟨h0, h1, h2, h3, h4, h5, h6, h7, h8, h9, h10⟩ := id hs
  refine z_aload_n S (pc := 0) dX2_convert_0 rfl (lv_at hl 0 rfl) ?_
  refine z_get S (pc := 1) B iX2_convert_X2 0 rfl rfl 2 (by decide) rfl rfl (by decide +kernel) dX2_convert_1 ?_
  refine z_callV S (pc := 4) B (wr := [cMet a b f g σ rr rb rn, cSig b σ, cSet f σ]) (wn := fun _ => [cMet a b f g σ rr rb rn, cSig b σ, cSet f σ, (g, .inr (0, [.int (iI 1), .int (iI ov), .int (iI (σ 15)), .int (iI 0), .int (iI 0), .int (iI 0), .int (iI 0), .long (iL 0), .long (iL 0)]))]) (st1 := fun _ => []) (As := []) (mX0_begin l E g σ ov ) gX2_convert_X0_begin 0 rfl (by decide +kernel) ⟨Nat.le_of_ble_eq_true rfl, Nat.le_of_ble_eq_true rfl, Nat.le_of_ble_eq_true rfl, Nat.le_of_ble_eq_true rfl⟩ 0 rfl (q := (RX0, TX0, 9)) rfl rfl [3] [0, 1, 2] [0, 1, 2, 3] rfl rfl ⟨rfl, rfl, rfl, by decide⟩ (fun _ => rfl) rfl (fun _ => rfl) hl.1 (Nat.le_of_ble_eq_true rfl) rfl dX2_convert_4 (fun _ _ H locs B => ?_)
  refine z_iconst S (pc := 7) dX2_convert_7 ?_
  refine lv_istore_n (lv' := [(2, .int (iI 0)), (0, .ref a), (1, .int (iI gg))]) S.1 S.2.1 (pc := 8) dX2_convert_8 rfl hl (by decide) rfl (fun ls hl => ?_)
  refine z_iconst S (pc := 9) dX2_convert_9 ?_
  refine lv_istore_n (lv' := [(3, .int (iI 0)), (2, .int (iI 0)), (0, .ref a), (1, .int (iI gg))]) S.1 S.2.1 (pc := 10) dX2_convert_10 rfl hl (by decide) rfl (fun ls hl => ?_)
  obtain ⟨r, hr1⟩ : ∃ r, cvU σ gg = r := ⟨_, rfl⟩
  have hb1 := cvU_bd σ gg h5
  rw [hr1] at hb1
  refine lpX2_convert E S a b f g σ ov rr rb rn gg hs h11 hg (σ 5).toNat 0 0 0 0 0 0 (σ 11) (by omega) (by omega) (by omega) (by omega) (by omega) (by omega) (by omega) r hr1 (fun H locs ls B hl => ?_) _ _ _ B (lv_sub hl [2, 3, 1, 0] rfl)
  refine z_aload_n S (pc := 97) dX2_convert_97 rfl (lv_at hl 0 rfl) ?_
  refine z_get S (pc := 98) B iX2_convert_X2 0 rfl rfl 2 (by decide) rfl rfl (by decide +kernel) dX2_convert_98 ?_
  refine z_aload_n S (pc := 101) dX2_convert_101 rfl (lv_at hl 0 rfl) ?_
  refine z_get S (pc := 102) B iX2_convert_X2 0 rfl rfl 1 (by decide) rfl rfl (by decide +kernel) dX2_convert_102 ?_
  refine z_get S (pc := 105) B iX2_convert_X4 2 rfl rfl 0 (by decide) rfl rfl (by decide +kernel) dX2_convert_105 ?_
  refine z_callV S (pc := 108) B (wr := [(a, .inr (2, [.ref b, .ref f, .ref g, .int (iI r.2.2.2.2), .int (iI (σ 12)), .int (iI (σ 13)), .int (iI rr), .int (iI rb), .long (iL rn)])), cSig b σ, cSet f σ]) (wn := fun _ => [(a, .inr (2, [.ref b, .ref f, .ref g, .int (iI r.2.2.2.2), .int (iI (σ 12)), .int (iI (σ 13)), .int (iI rr), .int (iI rb), .long (iL rn)])), cSig b σ, cSet f σ, (g, .inr (0, [.int (iI 1), .int (iI (bI (sg r.1 ≠ 0 ∧ sg (dnL (3 * (σ 5)).toNat (sg r.1) r.1 r.2.1 0).1 = sg r.1))), .int (iI (16 * (r.2.2.1 - r.2.2.2.1) + (sg r.1) * (16 * (dnL (3 * (σ 5)).toNat (sg r.1) r.1 r.2.1 0).2.2 - (fnL 16 (sg r.1) (dnL (3 * (σ 5)).toNat (sg r.1) r.1 r.2.1 0).1 (dnL (3 * (σ 5)).toNat (sg r.1) r.1 r.2.1 0).2.1 0).2.2))), .int (iI ((dnL (3 * (σ 5)).toNat (sg r.1) r.1 r.2.1 0).2.2)), .int (iI ((fnL 16 (sg r.1) (dnL (3 * (σ 5)).toNat (sg r.1) r.1 r.2.1 0).1 (dnL (3 * (σ 5)).toNat (sg r.1) r.1 r.2.1 0).2.1 0).2.2)), .int (iI r.2.2.1), .int (iI r.2.2.2.1), .long (iL ((fnL 16 (sg r.1) (dnL (3 * (σ 5)).toNat (sg r.1) r.1 r.2.1 0).1 (dnL (3 * (σ 5)).toNat (sg r.1) r.1 r.2.1 0).2.1 0).2.1)), .long (iL ((fnL 16 (sg r.1) (dnL (3 * (σ 5)).toNat (sg r.1) r.1 r.2.1 0).1 (dnL (3 * (σ 5)).toNat (sg r.1) r.1 r.2.1 0).2.1 0).1))]))]) (st1 := fun _ => []) (As := [.int (iI (σ 5))]) (mX0_runDown l E g (up (up (up (up (up (up (up (up σ 22 1) 16 0) 17 0) 18 r.2.2.1) 19 r.2.2.2.1) 20 r.2.1) 21 r.1) 11 r.2.2.2.2) ov (σ 5) (show -1677721600 ≤ r.1 ∧ r.1 ≤ 1677721600 from by omega) (show 0 ≤ r.2.1 ∧ r.2.1 ≤ 1677721600 from by omega) (show 4 ≤ (σ 5) ∧ (σ 5) ≤ 400 from by omega) (show 0 = 0 from by rfl) (show 0 = 0 from by rfl)) gX2_convert_X0_runDown 1 rfl (by decide +kernel) ⟨Nat.le_of_ble_eq_true rfl, Nat.le_of_ble_eq_true rfl, Nat.le_of_ble_eq_true rfl, Nat.le_of_ble_eq_true rfl⟩ 0 rfl (q := (RX0, TX0, 9)) rfl rfl [3] [0, 1, 2] [0, 1, 2, 3] rfl rfl ⟨rfl, rfl, rfl, by decide⟩ (fun _ => rfl) rfl (fun _ => rfl) hl.1 (Nat.le_of_ble_eq_true rfl) rfl dX2_convert_108 (fun _ _ H locs B => ?_)
  refine z_aload_n S (pc := 111) dX2_convert_111 rfl (lv_at hl 0 rfl) ?_
  refine lv_dup S.1 S.2.1 (pc := 112) dX2_convert_112 rfl ?_
  refine z_get S (pc := 113) B iX2_convert_X2 0 rfl rfl 3 (by decide) rfl rfl (by decide +kernel) dX2_convert_113 ?_
  refine z_aload_n S (pc := 116) dX2_convert_116 rfl (lv_at hl 0 rfl) ?_
  refine z_get S (pc := 117) B iX2_convert_X2 0 rfl rfl 2 (by decide) rfl rfl (by decide +kernel) dX2_convert_117 ?_
  refine z_get S (pc := 120) B iX2_convert_X0 3 rfl rfl 3 (by decide) rfl rfl (by decide +kernel) dX2_convert_120 ?_
  refine z_aload_n S (pc := 123) dX2_convert_123 rfl (lv_at hl 0 rfl) ?_
  refine z_get S (pc := 124) B iX2_convert_X2 0 rfl rfl 2 (by decide) rfl rfl (by decide +kernel) dX2_convert_124 ?_
  refine z_get S (pc := 127) B iX2_convert_X0 3 rfl rfl 4 (by decide) rfl rfl (by decide +kernel) dX2_convert_127 ?_
  refine z_iadd S (pc := 130) dX2_convert_130 ?_
  refine z_iadd S (pc := 131) dX2_convert_131 ?_
  refine z_put S (pc := 132) B iX2_convert_X2 tyX2_ok nmX2 0 rfl rfl 3 (by decide) rfl (by decide +kernel) (ty := .int) (by decide +kernel) rfl rfl (Nat.le_of_ble_eq_true rfl) dX2_convert_132 (wn := [(a, .inr (2, [.ref b, .ref f, .ref g, .int (iI (r.2.2.2.2 + (((dnL (3 * (σ 5)).toNat (sg r.1) r.1 r.2.1 0).2.2) + ((fnL 16 (sg r.1) (dnL (3 * (σ 5)).toNat (sg r.1) r.1 r.2.1 0).1 (dnL (3 * (σ 5)).toNat (sg r.1) r.1 r.2.1 0).2.1 0).2.2)))), .int (iI (σ 12)), .int (iI (σ 13)), .int (iI rr), .int (iI rb), .long (iL rn)])), cSig b σ, cSet f σ, (g, .inr (0, [.int (iI 1), .int (iI (bI (sg r.1 ≠ 0 ∧ sg (dnL (3 * (σ 5)).toNat (sg r.1) r.1 r.2.1 0).1 = sg r.1))), .int (iI (16 * (r.2.2.1 - r.2.2.2.1) + (sg r.1) * (16 * (dnL (3 * (σ 5)).toNat (sg r.1) r.1 r.2.1 0).2.2 - (fnL 16 (sg r.1) (dnL (3 * (σ 5)).toNat (sg r.1) r.1 r.2.1 0).1 (dnL (3 * (σ 5)).toNat (sg r.1) r.1 r.2.1 0).2.1 0).2.2))), .int (iI ((dnL (3 * (σ 5)).toNat (sg r.1) r.1 r.2.1 0).2.2)), .int (iI ((fnL 16 (sg r.1) (dnL (3 * (σ 5)).toNat (sg r.1) r.1 r.2.1 0).1 (dnL (3 * (σ 5)).toNat (sg r.1) r.1 r.2.1 0).2.1 0).2.2)), .int (iI r.2.2.1), .int (iI r.2.2.2.1), .long (iL ((fnL 16 (sg r.1) (dnL (3 * (σ 5)).toNat (sg r.1) r.1 r.2.1 0).1 (dnL (3 * (σ 5)).toNat (sg r.1) r.1 r.2.1 0).2.1 0).2.1)), .long (iL ((fnL 16 (sg r.1) (dnL (3 * (σ 5)).toNat (sg r.1) r.1 r.2.1 0).1 (dnL (3 * (σ 5)).toNat (sg r.1) r.1 r.2.1 0).2.1 0).1))]))]) rfl (fun H locs B => ?_)
  subst hr1
  exact z_return S hr hlk B () trivial rfl rfl (pc := 135) dX2_convert_135
theorem iX2_convertZero_X0 : ∀ w ∈ wsX00, w ∈ wsX2_convertZero := by decide +kernel
theorem iX2_convertZero_X2 : ∀ w ∈ wsX20, w ∈ wsX2_convertZero := by decide +kernel
set_option maxHeartbeats 4000000 in
set_option maxRecDepth 100000 in
theorem mX2_convertZero (l : Launch) (E : gT) (a : Nat) (b : Nat) (f : Nat) (g : Nat) (σ : Nat → Int) (ov : Int) (rr : Int) (rb : Int) (rn : Int) (hs : Sets σ) (h11 : 0 ≤ σ 11 ∧ σ 11 ≤ 2100000000) : Cd l E yX2_convertZero wsX2_convertZero 3 70 0 0 [.ref a] [cMet a b f g σ rr rb rn, cSig b σ, cSet f σ, cCon g σ ov] none [(a, .inr (2, [.ref b, .ref f, .ref g, .int (iI ((cvt σ 0) 11)), .int (iI (cnt σ 0)), .int (iI (σ 13)), .int (iI rr), .int (iI rb), .long (iL rn)])), cSig b σ, cSet f σ, cCon g (cvt σ 0) (ovr σ 0)] := by
  refine Ct.mk (cc := cX2_convertZero) (maxL := 1) (ret := none) (plainFor_of_name (by decide)) rfl (Nat.le_of_ble_eq_true rfl) ?_
  intro p e s m below meth c A ls H locs S hr hlk hnm B hl
  have S : CallFix p m c cX2_convertZero 1 s #[.ref a] wsX2_convertZero RX2 := S
  have hl : lv_has ls 1 [(0, .ref a)] := hl
  refine z_aload_n S (pc := 0) dX2_convertZero_0 rfl (lv_at hl 0 rfl) ?_
  refine z_iconst S (pc := 1) dX2_convertZero_1 ?_
  refine z_callV S (pc := 2) B (wr := []) (wn := fun _ => [(a, .inr (2, [.ref b, .ref f, .ref g, .int (iI ((cvt σ 0) 11)), .int (iI (σ 12)), .int (iI (σ 13)), .int (iI rr), .int (iI rb), .long (iL rn)])), cSig b σ, cSet f σ, cCon g (cvt σ 0) (ovr σ 0)]) (st1 := fun _ => []) (As := [.int (iI 0)]) (mX2_convert l E a b f g σ ov rr rb rn 0 (show Sets σ from by assumption) (show 0 ≤ σ 11 ∧ σ 11 ≤ 2100000000 from by omega) (show 0 ≤ 0 ∧ 0 ≤ 1000 from by omega)) gX2_convertZero_X2_convert 1 rfl (by decide +kernel) ⟨Nat.le_of_ble_eq_true rfl, Nat.le_of_ble_eq_true rfl, Nat.le_of_ble_eq_true rfl, Nat.le_of_ble_eq_true rfl⟩ 0 rfl (q := (RX2, TX2, 9)) rfl rfl [0, 1, 2, 3] [] [0, 1, 2, 3] rfl rfl ⟨rfl, rfl, rfl, by decide⟩ (fun _ => rfl) rfl (fun _ => rfl) hl.1 (Nat.le_of_ble_eq_true rfl) rfl dX2_convertZero_2 (fun _ _ H locs B => ?_)
  refine z_aload_n S (pc := 5) dX2_convertZero_5 rfl (lv_at hl 0 rfl) ?_
  refine z_aload_n S (pc := 6) dX2_convertZero_6 rfl (lv_at hl 0 rfl) ?_
  refine z_get S (pc := 7) B iX2_convertZero_X2 0 rfl rfl 2 (by decide) rfl rfl (by decide +kernel) dX2_convertZero_7 ?_
  refine z_get S (pc := 10) B iX2_convertZero_X0 3 rfl rfl 2 (by decide) rfl rfl (by decide +kernel) dX2_convertZero_10 ?_
  refine z_put S (pc := 13) B iX2_convertZero_X2 tyX2_ok nmX2 0 rfl rfl 4 (by decide) rfl (by decide +kernel) (ty := .int) (by decide +kernel) rfl rfl (Nat.le_of_ble_eq_true rfl) dX2_convertZero_13 (wn := [(a, .inr (2, [.ref b, .ref f, .ref g, .int (iI ((cvt σ 0) 11)), .int (iI ((cvt σ 0) 15)), .int (iI (σ 13)), .int (iI rr), .int (iI rb), .long (iL rn)])), cSig b σ, cSet f σ, cCon g (cvt σ 0) (ovr σ 0)]) rfl (fun H locs B => ?_)
  exact z_return S hr hlk B () trivial rfl rfl (pc := 16) dX2_convertZero_16
theorem iX2_canWait_X2 : ∀ w ∈ wsX20, w ∈ wsX2_canWait := by decide +kernel
set_option maxHeartbeats 4000000 in
set_option maxRecDepth 100000 in
theorem mX2_canWait (l : Launch) (E : gT) (a : Nat) (b : Nat) (f : Nat) (g : Nat) (σ : Nat → Int) (ov : Int) (rr : Int) (rb : Int) (rn : Int) (n : Int) (h11 : 0 ≤ σ 11 ∧ σ 11 ≤ 2100000000) (hn : 0 ≤ n ∧ n ≤ 1000000) : Cd l E yX2_canWait wsX2_canWait 0 0 0 0 [.ref a, .int (iI n)] [cMet a b f g σ rr rb rn] (some (.int (iI (bI (σ 11 + n ≤ 1000000000))))) [cMet a b f g σ rr rb rn] := by
  refine Ct.mk (cc := cX2_canWait) (maxL := 2) (ret := (some .boolean)) (plainFor_of_name (by decide)) rfl (Nat.le_of_ble_eq_true rfl) ?_
  intro p e s m below meth c A ls H locs S hr hlk hnm B hl
  have S : CallFix p m c cX2_canWait 2 s #[.ref a, .int (iI n)] wsX2_canWait RX2 := S
  have hl : lv_has ls 2 [(0, .ref a), (1, .int (iI n))] := hl
  refine z_aload_n S (pc := 0) dX2_canWait_0 rfl (lv_at hl 0 rfl) ?_
  refine z_get S (pc := 1) B iX2_canWait_X2 0 rfl rfl 3 (by decide) rfl rfl (by decide +kernel) dX2_canWait_1 ?_
  refine z_ldc S (pc := 4) (x := 1000000000) (by decide +kernel) rfl dX2_canWait_4 ?_
  refine z_iload_n S (pc := 6) dX2_canWait_6 rfl (lv_at hl 1 rfl) ?_
  refine z_isub S (pc := 7) dX2_canWait_7 ?_
  refine z_icmp_gt S (pc := 8) (tgt := 15) (by omega) (by omega) dX2_canWait_8 rfl (fun c1 => ?_) (fun c1 => ?_)
  · refine z_iconst S (pc := 15) dX2_canWait_15 ?_
    exact z_zreturn S (by omega) hr hlk B () trivial (by rw [bI_f (by omega)]) rfl (pc := 16) dX2_canWait_16
  · refine z_iconst S (pc := 11) dX2_canWait_11 ?_
    refine lv_goto S.1 S.2.1 (pc := 12) (tgt := 16) dX2_canWait_12 rfl ?_
    exact z_zreturn S (by omega) hr hlk B () trivial (by rw [bI_t (by omega)]) rfl (pc := 16) dX2_canWait_16
theorem iX2_switchRange_X0 : ∀ w ∈ wsX00, w ∈ wsX2_switchRange := by decide +kernel
theorem iX2_switchRange_X2 : ∀ w ∈ wsX20, w ∈ wsX2_switchRange := by decide +kernel
theorem iX2_switchRange_X4 : ∀ w ∈ wsX40, w ∈ wsX2_switchRange := by decide +kernel
set_option maxHeartbeats 4000000 in
set_option maxRecDepth 100000 in
theorem mX2_switchRange (l : Launch) (E : gT) (a : Nat) (b : Nat) (f : Nat) (g : Nat) (σ : Nat → Int) (ov : Int) (rr : Int) (rb : Int) (rn : Int) (h5 : 4 ≤ σ 5 ∧ σ 5 ≤ 400) (h10 : 0 ≤ σ 10 ∧ σ 10 ≤ 3) (ho : 0 ≤ ov ∧ ov ≤ 1) (hn : -90000 ≤ rn ∧ rn ≤ 90000) : Cd l E yX2_switchRange wsX2_switchRange 1 23 0 0 [.ref a] [cMet a b f g σ rr rb rn, cSig b σ, cSet f σ, cCon g σ ov] none [cMet a b f g σ rr rb rn, cSig b σ, (f, .inr (4, [.int (iI (σ 5)), .int (iI (σ 6)), .int (iI (σ 7)), .int (iI (σ 8)), .int (iI (σ 9)), .int (iI (swr ov rn (σ 5) (σ 10)))])), cCon g σ ov] := by
  refine Ct.mk (cc := cX2_switchRange) (maxL := 4) (ret := none) (plainFor_of_name (by decide)) rfl (Nat.le_of_ble_eq_true rfl) ?_
  intro p e s m below meth c A ls H locs S hr hlk hnm B hl
  have S : CallFix p m c cX2_switchRange 4 s #[.ref a] wsX2_switchRange RX2 := S
  have hl : lv_has ls 4 [(0, .ref a)] := hl
  have hab := ab_le (x := rn) (m := 90000) (by omega) (by omega)
  have hab2 := ab_nn rn
  refine z_aload_n S (pc := 0) dX2_switchRange_0 rfl (lv_at hl 0 rfl) ?_
  refine z_get S (pc := 1) B iX2_switchRange_X2 0 rfl rfl 8 (by decide) rfl rfl (by decide +kernel) dX2_switchRange_1 ?_
  refine z_absL S (pc := 4) (by omega) (by decide +kernel) (by decide +kernel) (by decide +kernel) (by decide +kernel) hl.1 ⟨Nat.le_of_ble_eq_true rfl, Nat.le_of_ble_eq_true rfl, Nat.le_of_ble_eq_true rfl, Nat.le_of_ble_eq_true rfl⟩ dX2_switchRange_4 ?_
  rw [show ((if (0 : Int) < rn then rn else -rn) : Int) = ab rn from by unfold ab; split <;> split <;> omega]
  refine lv_lstore_n (lv' := [(1, .long (iL (ab rn))), (0, .ref a)]) S.1 S.2.1 (pc := 7) dX2_switchRange_7 rfl hl (by decide) rfl (fun ls hl => ?_)
  refine z_bipush S (pc := 8) dX2_switchRange_8 rfl ?_
  refine z_aload_n S (pc := 10) dX2_switchRange_10 rfl (lv_at hl 1 rfl) ?_
  refine z_get S (pc := 11) B iX2_switchRange_X2 0 rfl rfl 1 (by decide) rfl rfl (by decide +kernel) dX2_switchRange_11 ?_
  refine z_get S (pc := 14) B iX2_switchRange_X4 2 rfl rfl 0 (by decide) rfl rfl (by decide +kernel) dX2_switchRange_14 ?_
  refine z_imul S (pc := 17) dX2_switchRange_17 ?_
  refine lv_istore_n (lv' := [(3, .int (iI (16 * (σ 5)))), (1, .long (iL (ab rn))), (0, .ref a)]) S.1 S.2.1 (pc := 18) dX2_switchRange_18 rfl hl (by decide) rfl (fun ls hl => ?_)
  refine z_aload_n S (pc := 19) dX2_switchRange_19 rfl (lv_at hl 2 rfl) ?_
  refine z_get S (pc := 20) B iX2_switchRange_X2 0 rfl rfl 2 (by decide) rfl rfl (by decide +kernel) dX2_switchRange_20 ?_
  refine z_get S (pc := 23) B iX2_switchRange_X0 3 rfl rfl 1 (by decide) rfl rfl (by decide +kernel) dX2_switchRange_23 ?_
  refine z_if_ne S (pc := 26) (tgt := 36) (by omega) dX2_switchRange_26 rfl (fun c1 => ?_) (fun c1 => ?_)
  · refine z_aload_n S (pc := 36) dX2_switchRange_36 rfl (lv_at hl 2 rfl) ?_
    refine z_get S (pc := 37) B iX2_switchRange_X2 0 rfl rfl 1 (by decide) rfl rfl (by decide +kernel) dX2_switchRange_37 ?_
    refine z_aload_n S (pc := 40) dX2_switchRange_40 rfl (lv_at hl 2 rfl) ?_
    refine z_get S (pc := 41) B iX2_switchRange_X2 0 rfl rfl 1 (by decide) rfl rfl (by decide +kernel) dX2_switchRange_41 ?_
    refine z_get S (pc := 44) B iX2_switchRange_X4 2 rfl rfl 5 (by decide) rfl rfl (by decide +kernel) dX2_switchRange_44 ?_
    refine z_iconst S (pc := 47) dX2_switchRange_47 ?_
    refine z_isub S (pc := 48) dX2_switchRange_48 ?_
    refine z_iconst S (pc := 49) dX2_switchRange_49 ?_
    refine z_maxI S (pc := 50) (by omega) (by omega) (by decide +kernel) (by decide +kernel) (by decide +kernel) (by decide +kernel) hl.1 ⟨Nat.le_of_ble_eq_true rfl, Nat.le_of_ble_eq_true rfl, Nat.le_of_ble_eq_true rfl, Nat.le_of_ble_eq_true rfl⟩ dX2_switchRange_50 ?_
    rw [show ((if ((σ 10) - 1 : Int) < 0 then 0 else (σ 10) - 1) : Int) = if 0 < σ 10 then σ 10 - 1 else σ 10 from by split <;> split <;> omega]
    refine z_put S (pc := 53) B iX2_switchRange_X4 tyX4_ok nmX4 2 rfl rfl 5 (by decide) rfl (by decide +kernel) (ty := .int) (by decide +kernel) rfl rfl (Nat.le_of_ble_eq_true rfl) dX2_switchRange_53 (wn := [cMet a b f g σ rr rb rn, cSig b σ, (f, .inr (4, [.int (iI (σ 5)), .int (iI (σ 6)), .int (iI (σ 7)), .int (iI (σ 8)), .int (iI (σ 9)), .int (iI (if 0 < σ 10 then σ 10 - 1 else σ 10))])), cCon g σ ov]) rfl (fun H locs B => ?_)
    refine lv_goto S.1 S.2.1 (pc := 56) (tgt := 94) dX2_switchRange_56 rfl ?_
    exact z_return S hr hlk B () trivial rfl (by unfold swr; first | rw [if_pos (by omega)] | rw [if_neg (by omega), if_pos (by omega)] | rw [if_neg (by omega), if_neg (by omega)]; try rfl) (pc := 94) dX2_switchRange_94
  · refine z_lload_n S (pc := 29) dX2_switchRange_29 rfl (lv_at hl 1 rfl) ?_
    refine z_iload_n S (pc := 30) dX2_switchRange_30 rfl (lv_at hl 0 rfl) ?_
    refine z_i2l S (pc := 31) (by omega) dX2_switchRange_31 ?_
    refine z_lc_le S (pc := 32) (tgt := 59) (by omega) (by omega) dX2_switchRange_32 dX2_switchRange_33 rfl (fun c2 => ?_) (fun c2 => ?_)
    · refine z_lload_n S (pc := 59) dX2_switchRange_59 rfl (lv_at hl 1 rfl) ?_
      refine z_iload_n S (pc := 60) dX2_switchRange_60 rfl (lv_at hl 0 rfl) ?_
      refine z_bipush S (pc := 61) dX2_switchRange_61 rfl ?_
      refine z_idivn S (pc := 63) (by omega) (by omega) dX2_switchRange_63 ?_
      refine z_i2l S (pc := 64) (by omega) dX2_switchRange_64 ?_
      refine z_lc_ge S (pc := 65) (tgt := 94) (by omega) (by omega) dX2_switchRange_65 dX2_switchRange_66 rfl (fun c3 => ?_) (fun c3 => ?_)
      · exact z_return S hr hlk B () trivial rfl (by unfold swr; first | rw [if_pos (by omega)] | rw [if_neg (by omega), if_pos (by omega)] | rw [if_neg (by omega), if_neg (by omega)]; try rfl) (pc := 94) dX2_switchRange_94
      · refine z_aload_n S (pc := 69) dX2_switchRange_69 rfl (lv_at hl 2 rfl) ?_
        refine z_get S (pc := 70) B iX2_switchRange_X2 0 rfl rfl 1 (by decide) rfl rfl (by decide +kernel) dX2_switchRange_70 ?_
        refine z_aload_n S (pc := 73) dX2_switchRange_73 rfl (lv_at hl 2 rfl) ?_
        refine z_get S (pc := 74) B iX2_switchRange_X2 0 rfl rfl 1 (by decide) rfl rfl (by decide +kernel) dX2_switchRange_74 ?_
        refine z_get S (pc := 77) B iX2_switchRange_X4 2 rfl rfl 5 (by decide) rfl rfl (by decide +kernel) dX2_switchRange_77 ?_
        refine z_iconst S (pc := 80) dX2_switchRange_80 ?_
        refine z_iadd S (pc := 81) dX2_switchRange_81 ?_
        refine z_gsNRX2 S (pc := 82) B rfl dX2_switchRange_82 ?_
        refine z_tn0 S (pc := 85) B dX2_switchRange_85 ?_
        refine z_iconst S (pc := 86) dX2_switchRange_86 ?_
        refine z_isub S (pc := 87) dX2_switchRange_87 ?_
        refine z_minI S (pc := 88) (by omega) (by omega) (by decide +kernel) (by decide +kernel) (by decide +kernel) (by decide +kernel) hl.1 ⟨Nat.le_of_ble_eq_true rfl, Nat.le_of_ble_eq_true rfl, Nat.le_of_ble_eq_true rfl, Nat.le_of_ble_eq_true rfl⟩ dX2_switchRange_88 ?_
        rw [show ((if (4 - 1 : Int) < (σ 10) + 1 then 4 - 1 else (σ 10) + 1) : Int) = if σ 10 < 3 then σ 10 + 1 else σ 10 from by split <;> split <;> omega]
        refine z_put S (pc := 91) B iX2_switchRange_X4 tyX4_ok nmX4 2 rfl rfl 5 (by decide) rfl (by decide +kernel) (ty := .int) (by decide +kernel) rfl rfl (Nat.le_of_ble_eq_true rfl) dX2_switchRange_91 (wn := [cMet a b f g σ rr rb rn, cSig b σ, (f, .inr (4, [.int (iI (σ 5)), .int (iI (σ 6)), .int (iI (σ 7)), .int (iI (σ 8)), .int (iI (σ 9)), .int (iI (if σ 10 < 3 then σ 10 + 1 else σ 10))])), cCon g σ ov]) rfl (fun H locs B => ?_)
        exact z_return S hr hlk B () trivial rfl (by unfold swr; first | rw [if_pos (by omega)] | rw [if_neg (by omega), if_pos (by omega)] | rw [if_neg (by omega), if_neg (by omega)]; try rfl) (pc := 94) dX2_switchRange_94
    · refine z_aload_n S (pc := 36) dX2_switchRange_36 rfl (lv_at hl 2 rfl) ?_
      refine z_get S (pc := 37) B iX2_switchRange_X2 0 rfl rfl 1 (by decide) rfl rfl (by decide +kernel) dX2_switchRange_37 ?_
      refine z_aload_n S (pc := 40) dX2_switchRange_40 rfl (lv_at hl 2 rfl) ?_
      refine z_get S (pc := 41) B iX2_switchRange_X2 0 rfl rfl 1 (by decide) rfl rfl (by decide +kernel) dX2_switchRange_41 ?_
      refine z_get S (pc := 44) B iX2_switchRange_X4 2 rfl rfl 5 (by decide) rfl rfl (by decide +kernel) dX2_switchRange_44 ?_
      refine z_iconst S (pc := 47) dX2_switchRange_47 ?_
      refine z_isub S (pc := 48) dX2_switchRange_48 ?_
      refine z_iconst S (pc := 49) dX2_switchRange_49 ?_
      refine z_maxI S (pc := 50) (by omega) (by omega) (by decide +kernel) (by decide +kernel) (by decide +kernel) (by decide +kernel) hl.1 ⟨Nat.le_of_ble_eq_true rfl, Nat.le_of_ble_eq_true rfl, Nat.le_of_ble_eq_true rfl, Nat.le_of_ble_eq_true rfl⟩ dX2_switchRange_50 ?_
      rw [show ((if ((σ 10) - 1 : Int) < 0 then 0 else (σ 10) - 1) : Int) = if 0 < σ 10 then σ 10 - 1 else σ 10 from by split <;> split <;> omega]
      refine z_put S (pc := 53) B iX2_switchRange_X4 tyX4_ok nmX4 2 rfl rfl 5 (by decide) rfl (by decide +kernel) (ty := .int) (by decide +kernel) rfl rfl (Nat.le_of_ble_eq_true rfl) dX2_switchRange_53 (wn := [cMet a b f g σ rr rb rn, cSig b σ, (f, .inr (4, [.int (iI (σ 5)), .int (iI (σ 6)), .int (iI (σ 7)), .int (iI (σ 8)), .int (iI (σ 9)), .int (iI (if 0 < σ 10 then σ 10 - 1 else σ 10))])), cCon g σ ov]) rfl (fun H locs B => ?_)
      refine lv_goto S.1 S.2.1 (pc := 56) (tgt := 94) dX2_switchRange_56 rfl ?_
      exact z_return S hr hlk B () trivial rfl (by unfold swr; first | rw [if_pos (by omega)] | rw [if_neg (by omega), if_pos (by omega)] | rw [if_neg (by omega), if_neg (by omega)]; try rfl) (pc := 94) dX2_switchRange_94
theorem iX2_makeReading_X0 : ∀ w ∈ wsX00, w ∈ wsX2_makeReading := by decide +kernel
theorem iX2_makeReading_X2 : ∀ w ∈ wsX20, w ∈ wsX2_makeReading := by decide +kernel
theorem iX2_makeReading_X4 : ∀ w ∈ wsX40, w ∈ wsX2_makeReading := by decide +kernel
set_option maxHeartbeats 4000000 in
set_option maxRecDepth 100000 in
theorem mX2_makeReading (l : Launch) (E : gT) (a : Nat) (b : Nat) (f : Nat) (g : Nat) (σ : Nat → Int) (ov : Int) (rr : Int) (rb : Int) (rn : Int) (hs : Sets σ) (hn : Nums σ) (h11 : 0 ≤ σ 11 ∧ σ 11 ≤ 2000000000) : Cd l E yX2_makeReading wsX2_makeReading 4 90 0 0 [.ref a] [cMet a b f g σ rr rb rn, cSig b σ, cSet f σ, cCon g σ ov] (some (.long (iL (val0 (rz σ))))) [cMet a b f g (rdM σ) (rz σ 10) (rz σ 11) (net0 (rz σ)), cSig b (rdM σ), cSet f (rdM σ), cCon g (rdM σ) (ov0 (rz σ))] := by
  refine Ct.mk (cc := cX2_makeReading) (maxL := 6) (ret := (some .long)) (plainFor_of_name (by decide)) rfl (Nat.le_of_ble_eq_true rfl) ?_
  intro p e s m below meth c A ls H locs S hr hlk hnm B hl
  have S : CallFix p m c cX2_makeReading 6 s #[.ref a] wsX2_makeReading RX2 := S
  have hl : lv_has ls 6 [(0, .ref a)] := hl
  obtain ⟨h0, h1, h2, h3, h4, h5, h6, h7, h8, h9, h10⟩ := id hs
  obtain ⟨n12, n13, nrest⟩ := id hn
  refine z_aload_n S (pc := 0) dX2_makeReading_0 rfl (lv_at hl 0 rfl) ?_
  refine z_get S (pc := 1) B iX2_makeReading_X2 0 rfl rfl 1 (by decide) rfl rfl (by decide +kernel) dX2_makeReading_1 ?_
  refine z_get S (pc := 4) B iX2_makeReading_X4 2 rfl rfl 3 (by decide) rfl rfl (by decide +kernel) dX2_makeReading_4 ?_
  refine z_if_le S (pc := 7) (tgt := 42) (by omega) dX2_makeReading_7 rfl (fun c1 => ?_) (fun c1 => ?_)
  · have e1 : rz σ = σ := by unfold rz; rw [if_neg (by omega)]
    obtain ⟨τ, hτ⟩ : ∃ τ, τ = rz σ := ⟨_, rfl⟩
    have B : bw E A s H locs [cMet a b f g τ rr rb rn, cSig b τ, cSet f τ, cCon g τ ov] := by rw [hτ, e1]; exact B
    clear e1
    have hts : Sets τ := by rw [hτ]; exact rz_sets hs
    have ht12 : -60000 ≤ τ 12 ∧ τ 12 ≤ 60000 := by rw [hτ]; exact (rz_nums hs hn).1
    have ht11 : σ 11 ≤ τ 11 ∧ τ 11 ≤ σ 11 + 1616 := by rw [hτ]; exact rz_time hs
    obtain ⟨u0, u1, u2, u3, u4, u5, u6, u7, u8, u9, u10⟩ := id hts
    have hgn := gn_bd (τ 10)
    have hdv := div0 hts
    have hn0 := net0_bd hts ht12
    refine z_aload_n S (pc := 42) dX2_makeReading_42 rfl (lv_at hl 0 rfl) ?_
    refine z_get S (pc := 43) B iX2_makeReading_X2 0 rfl rfl 1 (by decide) rfl rfl (by decide +kernel) dX2_makeReading_43 ?_
    refine z_get S (pc := 46) B iX2_makeReading_X4 2 rfl rfl 5 (by decide) rfl rfl (by decide +kernel) dX2_makeReading_46 ?_
    refine z_callSN S (pc := 49) B (wr := [cMet a b f g τ rr rb rn, cSig b τ, cSet f τ, cCon g τ ov]) (wn := fun _ => [cMet a b f g τ rr rb rn, cSig b τ, cSet f τ, cCon g τ ov]) (st1 := fun _ => [.int (iI (gnS (τ 10)))]) (As := [.int (iI (τ 10))]) (mX7_gainOf l E (τ 10) (show inI (τ 10) from by omega)) gX2_makeReading_X7_gainOf_n72 (by decide +kernel) (by decide +kernel) (by decide +kernel) 1 rfl (by decide +kernel) ⟨Nat.le_of_ble_eq_true rfl, Nat.le_of_ble_eq_true rfl, Nat.le_of_ble_eq_true rfl, Nat.le_of_ble_eq_true rfl⟩ [] [0, 1, 2, 3] [0, 1, 2, 3] rfl rfl ⟨rfl, rfl, rfl, by decide⟩ (fun _ => rfl) rfl (fun _ => rfl) hl.1 (Nat.le_of_ble_eq_true rfl) rfl dX2_makeReading_49 (fun _ _ H locs B => ?_)
    rw [gnS_gn (x := τ 10) (by omega)]
    refine lv_istore_n (lv' := [(1, .int (iI (gn (τ 10)))), (0, .ref a)]) S.1 S.2.1 (pc := 52) dX2_makeReading_52 rfl hl (by decide) rfl (fun ls hl => ?_)
    refine z_aload_n S (pc := 53) dX2_makeReading_53 rfl (lv_at hl 1 rfl) ?_
    refine z_aload_n S (pc := 54) dX2_makeReading_54 rfl (lv_at hl 1 rfl) ?_
    refine z_get S (pc := 55) B iX2_makeReading_X2 0 rfl rfl 1 (by decide) rfl rfl (by decide +kernel) dX2_makeReading_55 ?_
    refine z_get S (pc := 58) B iX2_makeReading_X4 2 rfl rfl 5 (by decide) rfl rfl (by decide +kernel) dX2_makeReading_58 ?_
    refine z_put S (pc := 61) B iX2_makeReading_X2 tyX2_ok nmX2 0 rfl rfl 6 (by decide) rfl (by decide +kernel) (ty := .int) (by decide +kernel) rfl rfl (Nat.le_of_ble_eq_true rfl) dX2_makeReading_61 (wn := [cMet a b f g τ (τ 10) rb rn, cSig b τ, cSet f τ, cCon g τ ov]) rfl (fun H locs B => ?_)
    refine z_aload_n S (pc := 64) dX2_makeReading_64 rfl (lv_at hl 1 rfl) ?_
    refine z_aload_n S (pc := 65) dX2_makeReading_65 rfl (lv_at hl 1 rfl) ?_
    refine z_get S (pc := 66) B iX2_makeReading_X2 0 rfl rfl 3 (by decide) rfl rfl (by decide +kernel) dX2_makeReading_66 ?_
    refine z_put S (pc := 69) B iX2_makeReading_X2 tyX2_ok nmX2 0 rfl rfl 7 (by decide) rfl (by decide +kernel) (ty := .int) (by decide +kernel) rfl rfl (Nat.le_of_ble_eq_true rfl) dX2_makeReading_69 (wn := [cMet a b f g τ (τ 10) (τ 11) rn, cSig b τ, cSet f τ, cCon g τ ov]) rfl (fun H locs B => ?_)
    refine z_aload_n S (pc := 72) dX2_makeReading_72 rfl (lv_at hl 1 rfl) ?_
    refine z_iload_n S (pc := 73) dX2_makeReading_73 rfl (lv_at hl 0 rfl) ?_
    refine z_callV S (pc := 74) B (wr := []) (wn := fun _ => [(a, .inr (2, [.ref b, .ref f, .ref g, .int (iI ((cvt τ (gn (τ 10))) 11)), .int (iI (τ 12)), .int (iI (τ 13)), .int (iI (τ 10)), .int (iI (τ 11)), .long (iL rn)])), cSig b τ, cSet f τ, cCon g (cvt τ (gn (τ 10))) (ovr τ (gn (τ 10)))]) (st1 := fun _ => []) (As := [.int (iI (gn (τ 10)))]) (mX2_convert l E a b f g τ ov (τ 10) (τ 11) rn (gn (τ 10)) (show Sets τ from by assumption) (show 0 ≤ τ 11 ∧ τ 11 ≤ 2100000000 from by omega) (show 0 ≤ (gn (τ 10)) ∧ (gn (τ 10)) ≤ 1000 from by omega)) gX2_makeReading_X2_convert 1 rfl (by decide +kernel) ⟨Nat.le_of_ble_eq_true rfl, Nat.le_of_ble_eq_true rfl, Nat.le_of_ble_eq_true rfl, Nat.le_of_ble_eq_true rfl⟩ 0 rfl (q := (RX2, TX2, 9)) rfl rfl [0, 1, 2, 3] [] [0, 1, 2, 3] rfl rfl ⟨rfl, rfl, rfl, by decide⟩ (fun _ => rfl) rfl (fun _ => rfl) hl.1 (Nat.le_of_ble_eq_true rfl) rfl dX2_makeReading_74 (fun _ _ H locs B => ?_)
    have hc15 : -30000 ≤ cvt τ (gn (τ 10)) 15 ∧ cvt τ (gn (τ 10)) 15 ≤ 30000 := cnt_bd τ (gn (τ 10)) u5
    have ho : ov0 τ = 0 ∨ ov0 τ = 1 := ovr_01 τ (gn (τ 10))
    refine z_aload_n S (pc := 77) dX2_makeReading_77 rfl (lv_at hl 1 rfl) ?_
    refine z_aload_n S (pc := 78) dX2_makeReading_78 rfl (lv_at hl 1 rfl) ?_
    refine z_get S (pc := 79) B iX2_makeReading_X2 0 rfl rfl 2 (by decide) rfl rfl (by decide +kernel) dX2_makeReading_79 ?_
    refine z_get S (pc := 82) B iX2_makeReading_X0 3 rfl rfl 2 (by decide) rfl rfl (by decide +kernel) dX2_makeReading_82 ?_
    refine z_i2l S (pc := 85) (by omega) dX2_makeReading_85 ?_
    refine z_aload_n S (pc := 86) dX2_makeReading_86 rfl (lv_at hl 1 rfl) ?_
    refine z_get S (pc := 87) B iX2_makeReading_X2 0 rfl rfl 4 (by decide) rfl rfl (by decide +kernel) dX2_makeReading_87 ?_
    refine z_i2l S (pc := 90) (by omega) dX2_makeReading_90 ?_
    refine z_lsub S (pc := 91) dX2_makeReading_91 ?_
    refine z_put S (pc := 92) B iX2_makeReading_X2 tyX2_ok nmX2 0 rfl rfl 8 (by decide) rfl (by decide +kernel) (ty := .long) (by decide +kernel) rfl rfl (Nat.le_of_ble_eq_true rfl) dX2_makeReading_92 (wn := [(a, .inr (2, [.ref b, .ref f, .ref g, .int (iI ((cvt τ (gn (τ 10))) 11)), .int (iI (τ 12)), .int (iI (τ 13)), .int (iI (τ 10)), .int (iI (τ 11)), .long (iL (((cvt τ (gn (τ 10))) 15) - (τ 12)))])), cSig b τ, cSet f τ, cCon g (cvt τ (gn (τ 10))) (ovr τ (gn (τ 10)))]) rfl (fun H locs B => ?_)
    have B : bw E A s H locs [(a, .inr (2, [.ref b, .ref f, .ref g, .int (iI ((cvt τ (gn (τ 10))) 11)), .int (iI (τ 12)), .int (iI (τ 13)), .int (iI (τ 10)), .int (iI (τ 11)), .long (iL (net0 τ))])), cSig b τ, cSet f τ, cCon g (cvt τ (gn (τ 10))) (ov0 τ)] := B
    refine z_aload_n S (pc := 95) dX2_makeReading_95 rfl (lv_at hl 1 rfl) ?_
    refine z_get S (pc := 96) B iX2_makeReading_X2 0 rfl rfl 1 (by decide) rfl rfl (by decide +kernel) dX2_makeReading_96 ?_
    refine z_get S (pc := 99) B iX2_makeReading_X4 2 rfl rfl 0 (by decide) rfl rfl (by decide +kernel) dX2_makeReading_99 ?_
    refine z_i2l S (pc := 102) (by omega) dX2_makeReading_102 ?_
    refine z_iload_n S (pc := 103) dX2_makeReading_103 rfl (lv_at hl 0 rfl) ?_
    refine z_i2l S (pc := 104) (by omega) dX2_makeReading_104 ?_
    refine z_lmul S (pc := 105) dX2_makeReading_105 ?_
    refine lv_lstore_n (lv' := [(2, .long (iL ((τ 5) * (gn (τ 10))))), (1, .int (iI (gn (τ 10)))), (0, .ref a)]) S.1 S.2.1 (pc := 106) dX2_makeReading_106 rfl hl (by decide) rfl (fun ls hl => ?_)
    refine z_lload_n S (pc := 107) dX2_makeReading_107 rfl (lv_at hl 0 rfl) ?_
    refine z_lconst S (pc := 108) (x := 0) dX2_makeReading_108 rfl ?_
    refine z_lc_gt S (pc := 109) (tgt := 117) (by omega) (by omega) dX2_makeReading_109 dX2_makeReading_110 rfl (fun c2 => ?_) (fun c2 => absurd c2 (by omega))
    have hq := tdiv_bd (a := net0 τ * 65536) (q := τ 5 * gn (τ 10)) (B := 6000000000) (by omega) (by omega) (by omega)
    refine z_aload_n S (pc := 117) dX2_makeReading_117 rfl (lv_at hl 2 rfl) ?_
    refine z_get S (pc := 118) B iX2_makeReading_X2 0 rfl rfl 8 (by decide) rfl rfl (by decide +kernel) dX2_makeReading_118 ?_
    refine z_ldc2 S (pc := 121) (x := 65536) (by decide +kernel) rfl dX2_makeReading_121 ?_
    refine z_lmul S (pc := 124) dX2_makeReading_124 ?_
    refine z_lload_n S (pc := 125) dX2_makeReading_125 rfl (lv_at hl 0 rfl) ?_
    refine z_ldiv S (pc := 126) (by omega) (by omega) (by omega) (by omega) dX2_makeReading_126 ?_
    refine lv_lstore (lv' := [(4, .long (iL (((net0 τ) * 65536).tdiv ((τ 5) * (gn (τ 10)))))), (2, .long (iL ((τ 5) * (gn (τ 10))))), (1, .int (iI (gn (τ 10)))), (0, .ref a)]) S.1 S.2.1 (pc := 127) dX2_makeReading_127 hl (by decide) rfl (fun ls hl => ?_)
    refine z_aload_n S (pc := 129) dX2_makeReading_129 rfl (lv_at hl 3 rfl) ?_
    refine z_get S (pc := 130) B iX2_makeReading_X2 0 rfl rfl 1 (by decide) rfl rfl (by decide +kernel) dX2_makeReading_130 ?_
    refine z_get S (pc := 133) B iX2_makeReading_X4 2 rfl rfl 4 (by decide) rfl rfl (by decide +kernel) dX2_makeReading_133 ?_
    refine z_iconst S (pc := 136) dX2_makeReading_136 ?_
    refine z_icmp_ne S (pc := 137) (tgt := 144) (by omega) (by omega) dX2_makeReading_137 rfl (fun c3 => ?_) (fun c3 => ?_)
    · refine z_lload S (pc := 144) dX2_makeReading_144 (lv_at hl 0 rfl) ?_
      have e2 : rg0 τ = τ 10 := by unfold rg0; rw [if_neg c3]
      subst hτ
      exact z_lreturn S hr hlk B () trivial rfl (by show [cMet a b f g (up (cvt (rz σ) (gn (rz σ 10))) 10 (rg0 (rz σ))) (rz σ 10) (rz σ 11) (net0 (rz σ)), cSig b (up (cvt (rz σ) (gn (rz σ 10))) 10 (rg0 (rz σ))), cSet f (up (cvt (rz σ) (gn (rz σ 10))) 10 (rg0 (rz σ))), cCon g (up (cvt (rz σ) (gn (rz σ 10))) 10 (rg0 (rz σ))) (ov0 (rz σ))] = _; rw [e2]; rfl) (pc := 146) dX2_makeReading_146
    · refine z_aload_n S (pc := 140) dX2_makeReading_140 rfl (lv_at hl 3 rfl) ?_
      refine z_callV S (pc := 141) B (wr := []) (wn := fun _ => [(a, .inr (2, [.ref b, .ref f, .ref g, .int (iI ((cvt τ (gn (τ 10))) 11)), .int (iI (τ 12)), .int (iI (τ 13)), .int (iI (τ 10)), .int (iI (τ 11)), .long (iL (net0 τ))])), cSig b τ, (f, .inr (4, [.int (iI (τ 5)), .int (iI (τ 6)), .int (iI (τ 7)), .int (iI (τ 8)), .int (iI (τ 9)), .int (iI (swr (ov0 τ) (net0 τ) (τ 5) (τ 10)))])), cCon g (cvt τ (gn (τ 10))) (ov0 τ)]) (st1 := fun _ => []) (As := []) (mX2_switchRange l E a b f g (cvt τ (gn (τ 10))) (ov0 τ) (τ 10) (τ 11) (net0 τ) (show 4 ≤ τ 5 ∧ τ 5 ≤ 400 from by omega) (show 0 ≤ τ 10 ∧ τ 10 ≤ 3 from by omega) (show 0 ≤ (ov0 τ) ∧ (ov0 τ) ≤ 1 from by omega) (show -90000 ≤ (net0 τ) ∧ (net0 τ) ≤ 90000 from by omega)) gX2_makeReading_X2_switchRange 0 rfl (by decide +kernel) ⟨Nat.le_of_ble_eq_true rfl, Nat.le_of_ble_eq_true rfl, Nat.le_of_ble_eq_true rfl, Nat.le_of_ble_eq_true rfl⟩ 0 rfl (q := (RX2, TX2, 9)) rfl rfl [0, 1, 2, 3] [] [0, 1, 2, 3] rfl rfl ⟨rfl, rfl, rfl, by decide⟩ (fun _ => rfl) rfl (fun _ => rfl) hl.1 (Nat.le_of_ble_eq_true rfl) rfl dX2_makeReading_141 (fun _ _ H locs B => ?_)
      refine z_lload S (pc := 144) dX2_makeReading_144 (lv_at hl 0 rfl) ?_
      have e2 : rg0 τ = swr (ov0 τ) (net0 τ) (τ 5) (τ 10) := by unfold rg0; rw [if_pos c3]
      subst hτ
      exact z_lreturn S hr hlk B () trivial rfl (by show [cMet a b f g (up (cvt (rz σ) (gn (rz σ 10))) 10 (rg0 (rz σ))) (rz σ 10) (rz σ 11) (net0 (rz σ)), cSig b (up (cvt (rz σ) (gn (rz σ 10))) 10 (rg0 (rz σ))), cSet f (up (cvt (rz σ) (gn (rz σ 10))) 10 (rg0 (rz σ))), cCon g (up (cvt (rz σ) (gn (rz σ 10))) 10 (rg0 (rz σ))) (ov0 (rz σ))] = _; rw [e2]; rfl) (pc := 146) dX2_makeReading_146
  · refine z_aload_n S (pc := 10) dX2_makeReading_10 rfl (lv_at hl 0 rfl) ?_
    refine z_get S (pc := 11) B iX2_makeReading_X2 0 rfl rfl 5 (by decide) rfl rfl (by decide +kernel) dX2_makeReading_11 ?_
    refine z_if_ne S (pc := 14) (tgt := 32) (by omega) dX2_makeReading_14 rfl (fun c4 => ?_) (fun c4 => ?_)
    · refine z_aload_n S (pc := 32) dX2_makeReading_32 rfl (lv_at hl 0 rfl) ?_
      refine lv_dup S.1 S.2.1 (pc := 33) dX2_makeReading_33 rfl ?_
      refine z_get S (pc := 34) B iX2_makeReading_X2 0 rfl rfl 5 (by decide) rfl rfl (by decide +kernel) dX2_makeReading_34 ?_
      refine z_iconst S (pc := 37) dX2_makeReading_37 ?_
      refine z_isub S (pc := 38) dX2_makeReading_38 ?_
      refine z_put S (pc := 39) B iX2_makeReading_X2 tyX2_ok nmX2 0 rfl rfl 5 (by decide) rfl (by decide +kernel) (ty := .int) (by decide +kernel) rfl rfl (Nat.le_of_ble_eq_true rfl) dX2_makeReading_39 (wn := [(a, .inr (2, [.ref b, .ref f, .ref g, .int (iI (σ 11)), .int (iI (σ 12)), .int (iI ((σ 13) - 1)), .int (iI rr), .int (iI rb), .long (iL rn)])), cSig b σ, cSet f σ, cCon g σ ov]) rfl (fun H locs B => ?_)
      have e1 : rz σ = up σ 13 (σ 13 - 1) := by unfold rz; rw [if_pos (by omega), if_neg (by omega)]
      obtain ⟨τ, hτ⟩ : ∃ τ, τ = rz σ := ⟨_, rfl⟩
      have B : bw E A s H locs [cMet a b f g τ rr rb rn, cSig b τ, cSet f τ, cCon g τ ov] := by rw [hτ, e1]; exact B
      clear e1
      have hts : Sets τ := by rw [hτ]; exact rz_sets hs
      have ht12 : -60000 ≤ τ 12 ∧ τ 12 ≤ 60000 := by rw [hτ]; exact (rz_nums hs hn).1
      have ht11 : σ 11 ≤ τ 11 ∧ τ 11 ≤ σ 11 + 1616 := by rw [hτ]; exact rz_time hs
      obtain ⟨u0, u1, u2, u3, u4, u5, u6, u7, u8, u9, u10⟩ := id hts
      have hgn := gn_bd (τ 10)
      have hdv := div0 hts
      have hn0 := net0_bd hts ht12
      refine z_aload_n S (pc := 42) dX2_makeReading_42 rfl (lv_at hl 0 rfl) ?_
      refine z_get S (pc := 43) B iX2_makeReading_X2 0 rfl rfl 1 (by decide) rfl rfl (by decide +kernel) dX2_makeReading_43 ?_
      refine z_get S (pc := 46) B iX2_makeReading_X4 2 rfl rfl 5 (by decide) rfl rfl (by decide +kernel) dX2_makeReading_46 ?_
      refine z_callSN S (pc := 49) B (wr := [cMet a b f g τ rr rb rn, cSig b τ, cSet f τ, cCon g τ ov]) (wn := fun _ => [cMet a b f g τ rr rb rn, cSig b τ, cSet f τ, cCon g τ ov]) (st1 := fun _ => [.int (iI (gnS (τ 10)))]) (As := [.int (iI (τ 10))]) (mX7_gainOf l E (τ 10) (show inI (τ 10) from by omega)) gX2_makeReading_X7_gainOf_n72 (by decide +kernel) (by decide +kernel) (by decide +kernel) 1 rfl (by decide +kernel) ⟨Nat.le_of_ble_eq_true rfl, Nat.le_of_ble_eq_true rfl, Nat.le_of_ble_eq_true rfl, Nat.le_of_ble_eq_true rfl⟩ [] [0, 1, 2, 3] [0, 1, 2, 3] rfl rfl ⟨rfl, rfl, rfl, by decide⟩ (fun _ => rfl) rfl (fun _ => rfl) hl.1 (Nat.le_of_ble_eq_true rfl) rfl dX2_makeReading_49 (fun _ _ H locs B => ?_)
      rw [gnS_gn (x := τ 10) (by omega)]
      refine lv_istore_n (lv' := [(1, .int (iI (gn (τ 10)))), (0, .ref a)]) S.1 S.2.1 (pc := 52) dX2_makeReading_52 rfl hl (by decide) rfl (fun ls hl => ?_)
      refine z_aload_n S (pc := 53) dX2_makeReading_53 rfl (lv_at hl 1 rfl) ?_
      refine z_aload_n S (pc := 54) dX2_makeReading_54 rfl (lv_at hl 1 rfl) ?_
      refine z_get S (pc := 55) B iX2_makeReading_X2 0 rfl rfl 1 (by decide) rfl rfl (by decide +kernel) dX2_makeReading_55 ?_
      refine z_get S (pc := 58) B iX2_makeReading_X4 2 rfl rfl 5 (by decide) rfl rfl (by decide +kernel) dX2_makeReading_58 ?_
      refine z_put S (pc := 61) B iX2_makeReading_X2 tyX2_ok nmX2 0 rfl rfl 6 (by decide) rfl (by decide +kernel) (ty := .int) (by decide +kernel) rfl rfl (Nat.le_of_ble_eq_true rfl) dX2_makeReading_61 (wn := [cMet a b f g τ (τ 10) rb rn, cSig b τ, cSet f τ, cCon g τ ov]) rfl (fun H locs B => ?_)
      refine z_aload_n S (pc := 64) dX2_makeReading_64 rfl (lv_at hl 1 rfl) ?_
      refine z_aload_n S (pc := 65) dX2_makeReading_65 rfl (lv_at hl 1 rfl) ?_
      refine z_get S (pc := 66) B iX2_makeReading_X2 0 rfl rfl 3 (by decide) rfl rfl (by decide +kernel) dX2_makeReading_66 ?_
      refine z_put S (pc := 69) B iX2_makeReading_X2 tyX2_ok nmX2 0 rfl rfl 7 (by decide) rfl (by decide +kernel) (ty := .int) (by decide +kernel) rfl rfl (Nat.le_of_ble_eq_true rfl) dX2_makeReading_69 (wn := [cMet a b f g τ (τ 10) (τ 11) rn, cSig b τ, cSet f τ, cCon g τ ov]) rfl (fun H locs B => ?_)
      refine z_aload_n S (pc := 72) dX2_makeReading_72 rfl (lv_at hl 1 rfl) ?_
      refine z_iload_n S (pc := 73) dX2_makeReading_73 rfl (lv_at hl 0 rfl) ?_
      refine z_callV S (pc := 74) B (wr := []) (wn := fun _ => [(a, .inr (2, [.ref b, .ref f, .ref g, .int (iI ((cvt τ (gn (τ 10))) 11)), .int (iI (τ 12)), .int (iI (τ 13)), .int (iI (τ 10)), .int (iI (τ 11)), .long (iL rn)])), cSig b τ, cSet f τ, cCon g (cvt τ (gn (τ 10))) (ovr τ (gn (τ 10)))]) (st1 := fun _ => []) (As := [.int (iI (gn (τ 10)))]) (mX2_convert l E a b f g τ ov (τ 10) (τ 11) rn (gn (τ 10)) (show Sets τ from by assumption) (show 0 ≤ τ 11 ∧ τ 11 ≤ 2100000000 from by omega) (show 0 ≤ (gn (τ 10)) ∧ (gn (τ 10)) ≤ 1000 from by omega)) gX2_makeReading_X2_convert 1 rfl (by decide +kernel) ⟨Nat.le_of_ble_eq_true rfl, Nat.le_of_ble_eq_true rfl, Nat.le_of_ble_eq_true rfl, Nat.le_of_ble_eq_true rfl⟩ 0 rfl (q := (RX2, TX2, 9)) rfl rfl [0, 1, 2, 3] [] [0, 1, 2, 3] rfl rfl ⟨rfl, rfl, rfl, by decide⟩ (fun _ => rfl) rfl (fun _ => rfl) hl.1 (Nat.le_of_ble_eq_true rfl) rfl dX2_makeReading_74 (fun _ _ H locs B => ?_)
      have hc15 : -30000 ≤ cvt τ (gn (τ 10)) 15 ∧ cvt τ (gn (τ 10)) 15 ≤ 30000 := cnt_bd τ (gn (τ 10)) u5
      have ho : ov0 τ = 0 ∨ ov0 τ = 1 := ovr_01 τ (gn (τ 10))
      refine z_aload_n S (pc := 77) dX2_makeReading_77 rfl (lv_at hl 1 rfl) ?_
      refine z_aload_n S (pc := 78) dX2_makeReading_78 rfl (lv_at hl 1 rfl) ?_
      refine z_get S (pc := 79) B iX2_makeReading_X2 0 rfl rfl 2 (by decide) rfl rfl (by decide +kernel) dX2_makeReading_79 ?_
      refine z_get S (pc := 82) B iX2_makeReading_X0 3 rfl rfl 2 (by decide) rfl rfl (by decide +kernel) dX2_makeReading_82 ?_
      refine z_i2l S (pc := 85) (by omega) dX2_makeReading_85 ?_
      refine z_aload_n S (pc := 86) dX2_makeReading_86 rfl (lv_at hl 1 rfl) ?_
      refine z_get S (pc := 87) B iX2_makeReading_X2 0 rfl rfl 4 (by decide) rfl rfl (by decide +kernel) dX2_makeReading_87 ?_
      refine z_i2l S (pc := 90) (by omega) dX2_makeReading_90 ?_
      refine z_lsub S (pc := 91) dX2_makeReading_91 ?_
      refine z_put S (pc := 92) B iX2_makeReading_X2 tyX2_ok nmX2 0 rfl rfl 8 (by decide) rfl (by decide +kernel) (ty := .long) (by decide +kernel) rfl rfl (Nat.le_of_ble_eq_true rfl) dX2_makeReading_92 (wn := [(a, .inr (2, [.ref b, .ref f, .ref g, .int (iI ((cvt τ (gn (τ 10))) 11)), .int (iI (τ 12)), .int (iI (τ 13)), .int (iI (τ 10)), .int (iI (τ 11)), .long (iL (((cvt τ (gn (τ 10))) 15) - (τ 12)))])), cSig b τ, cSet f τ, cCon g (cvt τ (gn (τ 10))) (ovr τ (gn (τ 10)))]) rfl (fun H locs B => ?_)
      have B : bw E A s H locs [(a, .inr (2, [.ref b, .ref f, .ref g, .int (iI ((cvt τ (gn (τ 10))) 11)), .int (iI (τ 12)), .int (iI (τ 13)), .int (iI (τ 10)), .int (iI (τ 11)), .long (iL (net0 τ))])), cSig b τ, cSet f τ, cCon g (cvt τ (gn (τ 10))) (ov0 τ)] := B
      refine z_aload_n S (pc := 95) dX2_makeReading_95 rfl (lv_at hl 1 rfl) ?_
      refine z_get S (pc := 96) B iX2_makeReading_X2 0 rfl rfl 1 (by decide) rfl rfl (by decide +kernel) dX2_makeReading_96 ?_
      refine z_get S (pc := 99) B iX2_makeReading_X4 2 rfl rfl 0 (by decide) rfl rfl (by decide +kernel) dX2_makeReading_99 ?_
      refine z_i2l S (pc := 102) (by omega) dX2_makeReading_102 ?_
      refine z_iload_n S (pc := 103) dX2_makeReading_103 rfl (lv_at hl 0 rfl) ?_
      refine z_i2l S (pc := 104) (by omega) dX2_makeReading_104 ?_
      refine z_lmul S (pc := 105) dX2_makeReading_105 ?_
      refine lv_lstore_n (lv' := [(2, .long (iL ((τ 5) * (gn (τ 10))))), (1, .int (iI (gn (τ 10)))), (0, .ref a)]) S.1 S.2.1 (pc := 106) dX2_makeReading_106 rfl hl (by decide) rfl (fun ls hl => ?_)
      refine z_lload_n S (pc := 107) dX2_makeReading_107 rfl (lv_at hl 0 rfl) ?_
      refine z_lconst S (pc := 108) (x := 0) dX2_makeReading_108 rfl ?_
      refine z_lc_gt S (pc := 109) (tgt := 117) (by omega) (by omega) dX2_makeReading_109 dX2_makeReading_110 rfl (fun c5 => ?_) (fun c5 => absurd c5 (by omega))
      have hq := tdiv_bd (a := net0 τ * 65536) (q := τ 5 * gn (τ 10)) (B := 6000000000) (by omega) (by omega) (by omega)
      refine z_aload_n S (pc := 117) dX2_makeReading_117 rfl (lv_at hl 2 rfl) ?_
      refine z_get S (pc := 118) B iX2_makeReading_X2 0 rfl rfl 8 (by decide) rfl rfl (by decide +kernel) dX2_makeReading_118 ?_
      refine z_ldc2 S (pc := 121) (x := 65536) (by decide +kernel) rfl dX2_makeReading_121 ?_
      refine z_lmul S (pc := 124) dX2_makeReading_124 ?_
      refine z_lload_n S (pc := 125) dX2_makeReading_125 rfl (lv_at hl 0 rfl) ?_
      refine z_ldiv S (pc := 126) (by omega) (by omega) (by omega) (by omega) dX2_makeReading_126 ?_
      refine lv_lstore (lv' := [(4, .long (iL (((net0 τ) * 65536).tdiv ((τ 5) * (gn (τ 10)))))), (2, .long (iL ((τ 5) * (gn (τ 10))))), (1, .int (iI (gn (τ 10)))), (0, .ref a)]) S.1 S.2.1 (pc := 127) dX2_makeReading_127 hl (by decide) rfl (fun ls hl => ?_)
      refine z_aload_n S (pc := 129) dX2_makeReading_129 rfl (lv_at hl 3 rfl) ?_
      refine z_get S (pc := 130) B iX2_makeReading_X2 0 rfl rfl 1 (by decide) rfl rfl (by decide +kernel) dX2_makeReading_130 ?_
      refine z_get S (pc := 133) B iX2_makeReading_X4 2 rfl rfl 4 (by decide) rfl rfl (by decide +kernel) dX2_makeReading_133 ?_
      refine z_iconst S (pc := 136) dX2_makeReading_136 ?_
      refine z_icmp_ne S (pc := 137) (tgt := 144) (by omega) (by omega) dX2_makeReading_137 rfl (fun c6 => ?_) (fun c6 => ?_)
      · refine z_lload S (pc := 144) dX2_makeReading_144 (lv_at hl 0 rfl) ?_
        have e2 : rg0 τ = τ 10 := by unfold rg0; rw [if_neg c6]
        subst hτ
        exact z_lreturn S hr hlk B () trivial rfl (by show [cMet a b f g (up (cvt (rz σ) (gn (rz σ 10))) 10 (rg0 (rz σ))) (rz σ 10) (rz σ 11) (net0 (rz σ)), cSig b (up (cvt (rz σ) (gn (rz σ 10))) 10 (rg0 (rz σ))), cSet f (up (cvt (rz σ) (gn (rz σ 10))) 10 (rg0 (rz σ))), cCon g (up (cvt (rz σ) (gn (rz σ 10))) 10 (rg0 (rz σ))) (ov0 (rz σ))] = _; rw [e2]; rfl) (pc := 146) dX2_makeReading_146
      · refine z_aload_n S (pc := 140) dX2_makeReading_140 rfl (lv_at hl 3 rfl) ?_
        refine z_callV S (pc := 141) B (wr := []) (wn := fun _ => [(a, .inr (2, [.ref b, .ref f, .ref g, .int (iI ((cvt τ (gn (τ 10))) 11)), .int (iI (τ 12)), .int (iI (τ 13)), .int (iI (τ 10)), .int (iI (τ 11)), .long (iL (net0 τ))])), cSig b τ, (f, .inr (4, [.int (iI (τ 5)), .int (iI (τ 6)), .int (iI (τ 7)), .int (iI (τ 8)), .int (iI (τ 9)), .int (iI (swr (ov0 τ) (net0 τ) (τ 5) (τ 10)))])), cCon g (cvt τ (gn (τ 10))) (ov0 τ)]) (st1 := fun _ => []) (As := []) (mX2_switchRange l E a b f g (cvt τ (gn (τ 10))) (ov0 τ) (τ 10) (τ 11) (net0 τ) (show 4 ≤ τ 5 ∧ τ 5 ≤ 400 from by omega) (show 0 ≤ τ 10 ∧ τ 10 ≤ 3 from by omega) (show 0 ≤ (ov0 τ) ∧ (ov0 τ) ≤ 1 from by omega) (show -90000 ≤ (net0 τ) ∧ (net0 τ) ≤ 90000 from by omega)) gX2_makeReading_X2_switchRange 0 rfl (by decide +kernel) ⟨Nat.le_of_ble_eq_true rfl, Nat.le_of_ble_eq_true rfl, Nat.le_of_ble_eq_true rfl, Nat.le_of_ble_eq_true rfl⟩ 0 rfl (q := (RX2, TX2, 9)) rfl rfl [0, 1, 2, 3] [] [0, 1, 2, 3] rfl rfl ⟨rfl, rfl, rfl, by decide⟩ (fun _ => rfl) rfl (fun _ => rfl) hl.1 (Nat.le_of_ble_eq_true rfl) rfl dX2_makeReading_141 (fun _ _ H locs B => ?_)
        refine z_lload S (pc := 144) dX2_makeReading_144 (lv_at hl 0 rfl) ?_
        have e2 : rg0 τ = swr (ov0 τ) (net0 τ) (τ 5) (τ 10) := by unfold rg0; rw [if_pos c6]
        subst hτ
        exact z_lreturn S hr hlk B () trivial rfl (by show [cMet a b f g (up (cvt (rz σ) (gn (rz σ 10))) 10 (rg0 (rz σ))) (rz σ 10) (rz σ 11) (net0 (rz σ)), cSig b (up (cvt (rz σ) (gn (rz σ 10))) 10 (rg0 (rz σ))), cSet f (up (cvt (rz σ) (gn (rz σ 10))) 10 (rg0 (rz σ))), cCon g (up (cvt (rz σ) (gn (rz σ 10))) 10 (rg0 (rz σ))) (ov0 (rz σ))] = _; rw [e2]; rfl) (pc := 146) dX2_makeReading_146
    · refine z_aload_n S (pc := 17) dX2_makeReading_17 rfl (lv_at hl 0 rfl) ?_
      refine z_callV S (pc := 18) B (wr := []) (wn := fun _ => [(a, .inr (2, [.ref b, .ref f, .ref g, .int (iI ((cvt σ 0) 11)), .int (iI (cnt σ 0)), .int (iI (σ 13)), .int (iI rr), .int (iI rb), .long (iL rn)])), cSig b σ, cSet f σ, cCon g (cvt σ 0) (ovr σ 0)]) (st1 := fun _ => []) (As := []) (mX2_convertZero l E a b f g σ ov rr rb rn (show Sets σ from by assumption) (show 0 ≤ σ 11 ∧ σ 11 ≤ 2100000000 from by omega)) gX2_makeReading_X2_convertZero 0 rfl (by decide +kernel) ⟨Nat.le_of_ble_eq_true rfl, Nat.le_of_ble_eq_true rfl, Nat.le_of_ble_eq_true rfl, Nat.le_of_ble_eq_true rfl⟩ 0 rfl (q := (RX2, TX2, 9)) rfl rfl [0, 1, 2, 3] [] [0, 1, 2, 3] rfl rfl ⟨rfl, rfl, rfl, by decide⟩ (fun _ => rfl) rfl (fun _ => rfl) hl.1 (Nat.le_of_ble_eq_true rfl) rfl dX2_makeReading_18 (fun _ _ H locs B => ?_)
      refine z_aload_n S (pc := 21) dX2_makeReading_21 rfl (lv_at hl 0 rfl) ?_
      refine z_aload_n S (pc := 22) dX2_makeReading_22 rfl (lv_at hl 0 rfl) ?_
      refine z_get S (pc := 23) B iX2_makeReading_X2 0 rfl rfl 1 (by decide) rfl rfl (by decide +kernel) dX2_makeReading_23 ?_
      refine z_get S (pc := 26) B iX2_makeReading_X4 2 rfl rfl 3 (by decide) rfl rfl (by decide +kernel) dX2_makeReading_26 ?_
      refine z_put S (pc := 29) B iX2_makeReading_X2 tyX2_ok nmX2 0 rfl rfl 5 (by decide) rfl (by decide +kernel) (ty := .int) (by decide +kernel) rfl rfl (Nat.le_of_ble_eq_true rfl) dX2_makeReading_29 (wn := [(a, .inr (2, [.ref b, .ref f, .ref g, .int (iI ((cvt σ 0) 11)), .int (iI (cnt σ 0)), .int (iI (σ 8)), .int (iI rr), .int (iI rb), .long (iL rn)])), cSig b σ, cSet f σ, cCon g (cvt σ 0) (ovr σ 0)]) rfl (fun H locs B => ?_)
      refine z_aload_n S (pc := 32) dX2_makeReading_32 rfl (lv_at hl 0 rfl) ?_
      refine lv_dup S.1 S.2.1 (pc := 33) dX2_makeReading_33 rfl ?_
      refine z_get S (pc := 34) B iX2_makeReading_X2 0 rfl rfl 5 (by decide) rfl rfl (by decide +kernel) dX2_makeReading_34 ?_
      refine z_iconst S (pc := 37) dX2_makeReading_37 ?_
      refine z_isub S (pc := 38) dX2_makeReading_38 ?_
      refine z_put S (pc := 39) B iX2_makeReading_X2 tyX2_ok nmX2 0 rfl rfl 5 (by decide) rfl (by decide +kernel) (ty := .int) (by decide +kernel) rfl rfl (Nat.le_of_ble_eq_true rfl) dX2_makeReading_39 (wn := [(a, .inr (2, [.ref b, .ref f, .ref g, .int (iI ((cvt σ 0) 11)), .int (iI (cnt σ 0)), .int (iI ((σ 8) - 1)), .int (iI rr), .int (iI rb), .long (iL rn)])), cSig b σ, cSet f σ, cCon g (cvt σ 0) (ovr σ 0)]) rfl (fun H locs B => ?_)
      have e1 : rz σ = up (up (cvt σ 0) 12 (cnt σ 0)) 13 (σ 8 - 1) := by unfold rz; rw [if_pos (by omega), if_pos (by omega)]
      obtain ⟨τ, hτ⟩ : ∃ τ, τ = rz σ := ⟨_, rfl⟩
      have B : bw E A s H locs [cMet a b f g τ rr rb rn, cSig b τ, cSet f τ, cCon g τ (ovr σ 0)] := by rw [hτ, e1]; exact B
      clear e1
      have hts : Sets τ := by rw [hτ]; exact rz_sets hs
      have ht12 : -60000 ≤ τ 12 ∧ τ 12 ≤ 60000 := by rw [hτ]; exact (rz_nums hs hn).1
      have ht11 : σ 11 ≤ τ 11 ∧ τ 11 ≤ σ 11 + 1616 := by rw [hτ]; exact rz_time hs
      obtain ⟨u0, u1, u2, u3, u4, u5, u6, u7, u8, u9, u10⟩ := id hts
      have hgn := gn_bd (τ 10)
      have hdv := div0 hts
      have hn0 := net0_bd hts ht12
      refine z_aload_n S (pc := 42) dX2_makeReading_42 rfl (lv_at hl 0 rfl) ?_
      refine z_get S (pc := 43) B iX2_makeReading_X2 0 rfl rfl 1 (by decide) rfl rfl (by decide +kernel) dX2_makeReading_43 ?_
      refine z_get S (pc := 46) B iX2_makeReading_X4 2 rfl rfl 5 (by decide) rfl rfl (by decide +kernel) dX2_makeReading_46 ?_
      refine z_callSN S (pc := 49) B (wr := [cMet a b f g τ rr rb rn, cSig b τ, cSet f τ, cCon g τ (ovr σ 0)]) (wn := fun _ => [cMet a b f g τ rr rb rn, cSig b τ, cSet f τ, cCon g τ (ovr σ 0)]) (st1 := fun _ => [.int (iI (gnS (τ 10)))]) (As := [.int (iI (τ 10))]) (mX7_gainOf l E (τ 10) (show inI (τ 10) from by omega)) gX2_makeReading_X7_gainOf_n72 (by decide +kernel) (by decide +kernel) (by decide +kernel) 1 rfl (by decide +kernel) ⟨Nat.le_of_ble_eq_true rfl, Nat.le_of_ble_eq_true rfl, Nat.le_of_ble_eq_true rfl, Nat.le_of_ble_eq_true rfl⟩ [] [0, 1, 2, 3] [0, 1, 2, 3] rfl rfl ⟨rfl, rfl, rfl, by decide⟩ (fun _ => rfl) rfl (fun _ => rfl) hl.1 (Nat.le_of_ble_eq_true rfl) rfl dX2_makeReading_49 (fun _ _ H locs B => ?_)
      rw [gnS_gn (x := τ 10) (by omega)]
      refine lv_istore_n (lv' := [(1, .int (iI (gn (τ 10)))), (0, .ref a)]) S.1 S.2.1 (pc := 52) dX2_makeReading_52 rfl hl (by decide) rfl (fun ls hl => ?_)
      refine z_aload_n S (pc := 53) dX2_makeReading_53 rfl (lv_at hl 1 rfl) ?_
      refine z_aload_n S (pc := 54) dX2_makeReading_54 rfl (lv_at hl 1 rfl) ?_
      refine z_get S (pc := 55) B iX2_makeReading_X2 0 rfl rfl 1 (by decide) rfl rfl (by decide +kernel) dX2_makeReading_55 ?_
      refine z_get S (pc := 58) B iX2_makeReading_X4 2 rfl rfl 5 (by decide) rfl rfl (by decide +kernel) dX2_makeReading_58 ?_
      refine z_put S (pc := 61) B iX2_makeReading_X2 tyX2_ok nmX2 0 rfl rfl 6 (by decide) rfl (by decide +kernel) (ty := .int) (by decide +kernel) rfl rfl (Nat.le_of_ble_eq_true rfl) dX2_makeReading_61 (wn := [cMet a b f g τ (τ 10) rb rn, cSig b τ, cSet f τ, cCon g τ (ovr σ 0)]) rfl (fun H locs B => ?_)
      refine z_aload_n S (pc := 64) dX2_makeReading_64 rfl (lv_at hl 1 rfl) ?_
      refine z_aload_n S (pc := 65) dX2_makeReading_65 rfl (lv_at hl 1 rfl) ?_
      refine z_get S (pc := 66) B iX2_makeReading_X2 0 rfl rfl 3 (by decide) rfl rfl (by decide +kernel) dX2_makeReading_66 ?_
      refine z_put S (pc := 69) B iX2_makeReading_X2 tyX2_ok nmX2 0 rfl rfl 7 (by decide) rfl (by decide +kernel) (ty := .int) (by decide +kernel) rfl rfl (Nat.le_of_ble_eq_true rfl) dX2_makeReading_69 (wn := [cMet a b f g τ (τ 10) (τ 11) rn, cSig b τ, cSet f τ, cCon g τ (ovr σ 0)]) rfl (fun H locs B => ?_)
      refine z_aload_n S (pc := 72) dX2_makeReading_72 rfl (lv_at hl 1 rfl) ?_
      refine z_iload_n S (pc := 73) dX2_makeReading_73 rfl (lv_at hl 0 rfl) ?_
      refine z_callV S (pc := 74) B (wr := []) (wn := fun _ => [(a, .inr (2, [.ref b, .ref f, .ref g, .int (iI ((cvt τ (gn (τ 10))) 11)), .int (iI (τ 12)), .int (iI (τ 13)), .int (iI (τ 10)), .int (iI (τ 11)), .long (iL rn)])), cSig b τ, cSet f τ, cCon g (cvt τ (gn (τ 10))) (ovr τ (gn (τ 10)))]) (st1 := fun _ => []) (As := [.int (iI (gn (τ 10)))]) (mX2_convert l E a b f g τ (ovr σ 0) (τ 10) (τ 11) rn (gn (τ 10)) (show Sets τ from by assumption) (show 0 ≤ τ 11 ∧ τ 11 ≤ 2100000000 from by omega) (show 0 ≤ (gn (τ 10)) ∧ (gn (τ 10)) ≤ 1000 from by omega)) gX2_makeReading_X2_convert 1 rfl (by decide +kernel) ⟨Nat.le_of_ble_eq_true rfl, Nat.le_of_ble_eq_true rfl, Nat.le_of_ble_eq_true rfl, Nat.le_of_ble_eq_true rfl⟩ 0 rfl (q := (RX2, TX2, 9)) rfl rfl [0, 1, 2, 3] [] [0, 1, 2, 3] rfl rfl ⟨rfl, rfl, rfl, by decide⟩ (fun _ => rfl) rfl (fun _ => rfl) hl.1 (Nat.le_of_ble_eq_true rfl) rfl dX2_makeReading_74 (fun _ _ H locs B => ?_)
      have hc15 : -30000 ≤ cvt τ (gn (τ 10)) 15 ∧ cvt τ (gn (τ 10)) 15 ≤ 30000 := cnt_bd τ (gn (τ 10)) u5
      have ho : ov0 τ = 0 ∨ ov0 τ = 1 := ovr_01 τ (gn (τ 10))
      refine z_aload_n S (pc := 77) dX2_makeReading_77 rfl (lv_at hl 1 rfl) ?_
      refine z_aload_n S (pc := 78) dX2_makeReading_78 rfl (lv_at hl 1 rfl) ?_
      refine z_get S (pc := 79) B iX2_makeReading_X2 0 rfl rfl 2 (by decide) rfl rfl (by decide +kernel) dX2_makeReading_79 ?_
      refine z_get S (pc := 82) B iX2_makeReading_X0 3 rfl rfl 2 (by decide) rfl rfl (by decide +kernel) dX2_makeReading_82 ?_
      refine z_i2l S (pc := 85) (by omega) dX2_makeReading_85 ?_
      refine z_aload_n S (pc := 86) dX2_makeReading_86 rfl (lv_at hl 1 rfl) ?_
      refine z_get S (pc := 87) B iX2_makeReading_X2 0 rfl rfl 4 (by decide) rfl rfl (by decide +kernel) dX2_makeReading_87 ?_
      refine z_i2l S (pc := 90) (by omega) dX2_makeReading_90 ?_
      refine z_lsub S (pc := 91) dX2_makeReading_91 ?_
      refine z_put S (pc := 92) B iX2_makeReading_X2 tyX2_ok nmX2 0 rfl rfl 8 (by decide) rfl (by decide +kernel) (ty := .long) (by decide +kernel) rfl rfl (Nat.le_of_ble_eq_true rfl) dX2_makeReading_92 (wn := [(a, .inr (2, [.ref b, .ref f, .ref g, .int (iI ((cvt τ (gn (τ 10))) 11)), .int (iI (τ 12)), .int (iI (τ 13)), .int (iI (τ 10)), .int (iI (τ 11)), .long (iL (((cvt τ (gn (τ 10))) 15) - (τ 12)))])), cSig b τ, cSet f τ, cCon g (cvt τ (gn (τ 10))) (ovr τ (gn (τ 10)))]) rfl (fun H locs B => ?_)
      have B : bw E A s H locs [(a, .inr (2, [.ref b, .ref f, .ref g, .int (iI ((cvt τ (gn (τ 10))) 11)), .int (iI (τ 12)), .int (iI (τ 13)), .int (iI (τ 10)), .int (iI (τ 11)), .long (iL (net0 τ))])), cSig b τ, cSet f τ, cCon g (cvt τ (gn (τ 10))) (ov0 τ)] := B
      refine z_aload_n S (pc := 95) dX2_makeReading_95 rfl (lv_at hl 1 rfl) ?_
      refine z_get S (pc := 96) B iX2_makeReading_X2 0 rfl rfl 1 (by decide) rfl rfl (by decide +kernel) dX2_makeReading_96 ?_
      refine z_get S (pc := 99) B iX2_makeReading_X4 2 rfl rfl 0 (by decide) rfl rfl (by decide +kernel) dX2_makeReading_99 ?_
      refine z_i2l S (pc := 102) (by omega) dX2_makeReading_102 ?_
      refine z_iload_n S (pc := 103) dX2_makeReading_103 rfl (lv_at hl 0 rfl) ?_
      refine z_i2l S (pc := 104) (by omega) dX2_makeReading_104 ?_
      refine z_lmul S (pc := 105) dX2_makeReading_105 ?_
      refine lv_lstore_n (lv' := [(2, .long (iL ((τ 5) * (gn (τ 10))))), (1, .int (iI (gn (τ 10)))), (0, .ref a)]) S.1 S.2.1 (pc := 106) dX2_makeReading_106 rfl hl (by decide) rfl (fun ls hl => ?_)
      refine z_lload_n S (pc := 107) dX2_makeReading_107 rfl (lv_at hl 0 rfl) ?_
      refine z_lconst S (pc := 108) (x := 0) dX2_makeReading_108 rfl ?_
      refine z_lc_gt S (pc := 109) (tgt := 117) (by omega) (by omega) dX2_makeReading_109 dX2_makeReading_110 rfl (fun c7 => ?_) (fun c7 => absurd c7 (by omega))
      have hq := tdiv_bd (a := net0 τ * 65536) (q := τ 5 * gn (τ 10)) (B := 6000000000) (by omega) (by omega) (by omega)
      refine z_aload_n S (pc := 117) dX2_makeReading_117 rfl (lv_at hl 2 rfl) ?_
      refine z_get S (pc := 118) B iX2_makeReading_X2 0 rfl rfl 8 (by decide) rfl rfl (by decide +kernel) dX2_makeReading_118 ?_
      refine z_ldc2 S (pc := 121) (x := 65536) (by decide +kernel) rfl dX2_makeReading_121 ?_
      refine z_lmul S (pc := 124) dX2_makeReading_124 ?_
      refine z_lload_n S (pc := 125) dX2_makeReading_125 rfl (lv_at hl 0 rfl) ?_
      refine z_ldiv S (pc := 126) (by omega) (by omega) (by omega) (by omega) dX2_makeReading_126 ?_
      refine lv_lstore (lv' := [(4, .long (iL (((net0 τ) * 65536).tdiv ((τ 5) * (gn (τ 10)))))), (2, .long (iL ((τ 5) * (gn (τ 10))))), (1, .int (iI (gn (τ 10)))), (0, .ref a)]) S.1 S.2.1 (pc := 127) dX2_makeReading_127 hl (by decide) rfl (fun ls hl => ?_)
      refine z_aload_n S (pc := 129) dX2_makeReading_129 rfl (lv_at hl 3 rfl) ?_
      refine z_get S (pc := 130) B iX2_makeReading_X2 0 rfl rfl 1 (by decide) rfl rfl (by decide +kernel) dX2_makeReading_130 ?_
      refine z_get S (pc := 133) B iX2_makeReading_X4 2 rfl rfl 4 (by decide) rfl rfl (by decide +kernel) dX2_makeReading_133 ?_
      refine z_iconst S (pc := 136) dX2_makeReading_136 ?_
      refine z_icmp_ne S (pc := 137) (tgt := 144) (by omega) (by omega) dX2_makeReading_137 rfl (fun c8 => ?_) (fun c8 => ?_)
      · refine z_lload S (pc := 144) dX2_makeReading_144 (lv_at hl 0 rfl) ?_
        have e2 : rg0 τ = τ 10 := by unfold rg0; rw [if_neg c8]
        subst hτ
        exact z_lreturn S hr hlk B () trivial rfl (by show [cMet a b f g (up (cvt (rz σ) (gn (rz σ 10))) 10 (rg0 (rz σ))) (rz σ 10) (rz σ 11) (net0 (rz σ)), cSig b (up (cvt (rz σ) (gn (rz σ 10))) 10 (rg0 (rz σ))), cSet f (up (cvt (rz σ) (gn (rz σ 10))) 10 (rg0 (rz σ))), cCon g (up (cvt (rz σ) (gn (rz σ 10))) 10 (rg0 (rz σ))) (ov0 (rz σ))] = _; rw [e2]; rfl) (pc := 146) dX2_makeReading_146
      · refine z_aload_n S (pc := 140) dX2_makeReading_140 rfl (lv_at hl 3 rfl) ?_
        refine z_callV S (pc := 141) B (wr := []) (wn := fun _ => [(a, .inr (2, [.ref b, .ref f, .ref g, .int (iI ((cvt τ (gn (τ 10))) 11)), .int (iI (τ 12)), .int (iI (τ 13)), .int (iI (τ 10)), .int (iI (τ 11)), .long (iL (net0 τ))])), cSig b τ, (f, .inr (4, [.int (iI (τ 5)), .int (iI (τ 6)), .int (iI (τ 7)), .int (iI (τ 8)), .int (iI (τ 9)), .int (iI (swr (ov0 τ) (net0 τ) (τ 5) (τ 10)))])), cCon g (cvt τ (gn (τ 10))) (ov0 τ)]) (st1 := fun _ => []) (As := []) (mX2_switchRange l E a b f g (cvt τ (gn (τ 10))) (ov0 τ) (τ 10) (τ 11) (net0 τ) (show 4 ≤ τ 5 ∧ τ 5 ≤ 400 from by omega) (show 0 ≤ τ 10 ∧ τ 10 ≤ 3 from by omega) (show 0 ≤ (ov0 τ) ∧ (ov0 τ) ≤ 1 from by omega) (show -90000 ≤ (net0 τ) ∧ (net0 τ) ≤ 90000 from by omega)) gX2_makeReading_X2_switchRange 0 rfl (by decide +kernel) ⟨Nat.le_of_ble_eq_true rfl, Nat.le_of_ble_eq_true rfl, Nat.le_of_ble_eq_true rfl, Nat.le_of_ble_eq_true rfl⟩ 0 rfl (q := (RX2, TX2, 9)) rfl rfl [0, 1, 2, 3] [] [0, 1, 2, 3] rfl rfl ⟨rfl, rfl, rfl, by decide⟩ (fun _ => rfl) rfl (fun _ => rfl) hl.1 (Nat.le_of_ble_eq_true rfl) rfl dX2_makeReading_141 (fun _ _ H locs B => ?_)
        refine z_lload S (pc := 144) dX2_makeReading_144 (lv_at hl 0 rfl) ?_
        have e2 : rg0 τ = swr (ov0 τ) (net0 τ) (τ 5) (τ 10) := by unfold rg0; rw [if_pos c8]
        subst hτ
        exact z_lreturn S hr hlk B () trivial rfl (by show [cMet a b f g (up (cvt (rz σ) (gn (rz σ 10))) 10 (rg0 (rz σ))) (rz σ 10) (rz σ 11) (net0 (rz σ)), cSig b (up (cvt (rz σ) (gn (rz σ 10))) 10 (rg0 (rz σ))), cSet f (up (cvt (rz σ) (gn (rz σ 10))) 10 (rg0 (rz σ))), cCon g (up (cvt (rz σ) (gn (rz σ 10))) 10 (rg0 (rz σ))) (ov0 (rz σ))] = _; rw [e2]; rfl) (pc := 146) dX2_makeReading_146
theorem iX5_copyFrom_X5 : ∀ w ∈ wsX50, w ∈ wsX5_copyFrom := by decide +kernel
set_option maxHeartbeats 4000000 in
set_option maxRecDepth 100000 in
theorem mX5_copyFrom (l : Launch) (E : gT) (a : Nat) (a2 : Nat) (σ : Nat → Int) (σ2 : Nat → Int)  : Cd l E yX5_copyFrom wsX5_copyFrom 0 0 0 0 [.ref a, .ref a2] [cSig a σ, cSig a2 σ2] none [cSig a σ2, cSig a2 σ2] := by
  refine Ct.mk (cc := cX5_copyFrom) (maxL := 2) (ret := none) (plainFor_of_name (by decide)) rfl (Nat.le_of_ble_eq_true rfl) ?_
  intro p e s m below meth c A ls H locs S hr hlk hnm B hl
  have S : CallFix p m c cX5_copyFrom 2 s #[.ref a, .ref a2] wsX5_copyFrom RX5 := S
  have hl : lv_has ls 2 [(0, .ref a), (1, .ref a2)] := hl
  refine z_aload_n S (pc := 0) dX5_copyFrom_0 rfl (lv_at hl 0 rfl) ?_
  refine z_aload_n S (pc := 1) dX5_copyFrom_1 rfl (lv_at hl 1 rfl) ?_
  refine z_get S (pc := 2) B iX5_copyFrom_X5 1 rfl rfl 0 (by decide) rfl rfl (by decide +kernel) dX5_copyFrom_2 ?_
  refine z_put S (pc := 5) B iX5_copyFrom_X5 tyX5_ok nmX5 0 rfl rfl 0 (by decide) rfl (by decide +kernel) (ty := .int) (by decide +kernel) rfl rfl (Nat.le_of_ble_eq_true rfl) dX5_copyFrom_5 (wn := [(a, .inr (5, [.int (iI (σ2 0)), .int (iI (σ 1)), .int (iI (σ 2)), .int (iI (σ 3)), .int (iI (σ 4))])), cSig a2 σ2]) rfl (fun H locs B => ?_)
  refine z_aload_n S (pc := 8) dX5_copyFrom_8 rfl (lv_at hl 0 rfl) ?_
  refine z_aload_n S (pc := 9) dX5_copyFrom_9 rfl (lv_at hl 1 rfl) ?_
  refine z_get S (pc := 10) B iX5_copyFrom_X5 1 rfl rfl 1 (by decide) rfl rfl (by decide +kernel) dX5_copyFrom_10 ?_
  refine z_put S (pc := 13) B iX5_copyFrom_X5 tyX5_ok nmX5 0 rfl rfl 1 (by decide) rfl (by decide +kernel) (ty := .int) (by decide +kernel) rfl rfl (Nat.le_of_ble_eq_true rfl) dX5_copyFrom_13 (wn := [(a, .inr (5, [.int (iI (σ2 0)), .int (iI (σ2 1)), .int (iI (σ 2)), .int (iI (σ 3)), .int (iI (σ 4))])), cSig a2 σ2]) rfl (fun H locs B => ?_)
  refine z_aload_n S (pc := 16) dX5_copyFrom_16 rfl (lv_at hl 0 rfl) ?_
  refine z_aload_n S (pc := 17) dX5_copyFrom_17 rfl (lv_at hl 1 rfl) ?_
  refine z_get S (pc := 18) B iX5_copyFrom_X5 1 rfl rfl 2 (by decide) rfl rfl (by decide +kernel) dX5_copyFrom_18 ?_
  refine z_put S (pc := 21) B iX5_copyFrom_X5 tyX5_ok nmX5 0 rfl rfl 2 (by decide) rfl (by decide +kernel) (ty := .int) (by decide +kernel) rfl rfl (Nat.le_of_ble_eq_true rfl) dX5_copyFrom_21 (wn := [(a, .inr (5, [.int (iI (σ2 0)), .int (iI (σ2 1)), .int (iI (σ2 2)), .int (iI (σ 3)), .int (iI (σ 4))])), cSig a2 σ2]) rfl (fun H locs B => ?_)
  refine z_aload_n S (pc := 24) dX5_copyFrom_24 rfl (lv_at hl 0 rfl) ?_
  refine z_aload_n S (pc := 25) dX5_copyFrom_25 rfl (lv_at hl 1 rfl) ?_
  refine z_get S (pc := 26) B iX5_copyFrom_X5 1 rfl rfl 3 (by decide) rfl rfl (by decide +kernel) dX5_copyFrom_26 ?_
  refine z_put S (pc := 29) B iX5_copyFrom_X5 tyX5_ok nmX5 0 rfl rfl 3 (by decide) rfl (by decide +kernel) (ty := .int) (by decide +kernel) rfl rfl (Nat.le_of_ble_eq_true rfl) dX5_copyFrom_29 (wn := [(a, .inr (5, [.int (iI (σ2 0)), .int (iI (σ2 1)), .int (iI (σ2 2)), .int (iI (σ2 3)), .int (iI (σ 4))])), cSig a2 σ2]) rfl (fun H locs B => ?_)
  refine z_aload_n S (pc := 32) dX5_copyFrom_32 rfl (lv_at hl 0 rfl) ?_
  refine z_aload_n S (pc := 33) dX5_copyFrom_33 rfl (lv_at hl 1 rfl) ?_
  refine z_get S (pc := 34) B iX5_copyFrom_X5 1 rfl rfl 4 (by decide) rfl rfl (by decide +kernel) dX5_copyFrom_34 ?_
  refine z_put S (pc := 37) B iX5_copyFrom_X5 tyX5_ok nmX5 0 rfl rfl 4 (by decide) rfl (by decide +kernel) (ty := .int) (by decide +kernel) rfl rfl (Nat.le_of_ble_eq_true rfl) dX5_copyFrom_37 (wn := [cSig a σ2, cSig a2 σ2]) rfl (fun H locs B => ?_)
  exact z_return S hr hlk B () trivial rfl rfl (pc := 40) dX5_copyFrom_40
theorem iX4_copyFrom_X4 : ∀ w ∈ wsX40, w ∈ wsX4_copyFrom := by decide +kernel
set_option maxHeartbeats 4000000 in
set_option maxRecDepth 100000 in
theorem mX4_copyFrom (l : Launch) (E : gT) (a : Nat) (a2 : Nat) (σ : Nat → Int) (σ2 : Nat → Int)  : Cd l E yX4_copyFrom wsX4_copyFrom 0 0 0 0 [.ref a, .ref a2] [cSet a σ, cSet a2 σ2] none [cSet a σ2, cSet a2 σ2] := by
  refine Ct.mk (cc := cX4_copyFrom) (maxL := 2) (ret := none) (plainFor_of_name (by decide)) rfl (Nat.le_of_ble_eq_true rfl) ?_
  intro p e s m below meth c A ls H locs S hr hlk hnm B hl
  have S : CallFix p m c cX4_copyFrom 2 s #[.ref a, .ref a2] wsX4_copyFrom RX4 := S
  have hl : lv_has ls 2 [(0, .ref a), (1, .ref a2)] := hl
  refine z_aload_n S (pc := 0) dX4_copyFrom_0 rfl (lv_at hl 0 rfl) ?_
  refine z_aload_n S (pc := 1) dX4_copyFrom_1 rfl (lv_at hl 1 rfl) ?_
  refine z_get S (pc := 2) B iX4_copyFrom_X4 1 rfl rfl 0 (by decide) rfl rfl (by decide +kernel) dX4_copyFrom_2 ?_
  refine z_put S (pc := 5) B iX4_copyFrom_X4 tyX4_ok nmX4 0 rfl rfl 0 (by decide) rfl (by decide +kernel) (ty := .int) (by decide +kernel) rfl rfl (Nat.le_of_ble_eq_true rfl) dX4_copyFrom_5 (wn := [(a, .inr (4, [.int (iI (σ2 5)), .int (iI (σ 6)), .int (iI (σ 7)), .int (iI (σ 8)), .int (iI (σ 9)), .int (iI (σ 10))])), cSet a2 σ2]) rfl (fun H locs B => ?_)
  refine z_aload_n S (pc := 8) dX4_copyFrom_8 rfl (lv_at hl 0 rfl) ?_
  refine z_aload_n S (pc := 9) dX4_copyFrom_9 rfl (lv_at hl 1 rfl) ?_
  refine z_get S (pc := 10) B iX4_copyFrom_X4 1 rfl rfl 1 (by decide) rfl rfl (by decide +kernel) dX4_copyFrom_10 ?_
  refine z_put S (pc := 13) B iX4_copyFrom_X4 tyX4_ok nmX4 0 rfl rfl 1 (by decide) rfl (by decide +kernel) (ty := .int) (by decide +kernel) rfl rfl (Nat.le_of_ble_eq_true rfl) dX4_copyFrom_13 (wn := [(a, .inr (4, [.int (iI (σ2 5)), .int (iI (σ2 6)), .int (iI (σ 7)), .int (iI (σ 8)), .int (iI (σ 9)), .int (iI (σ 10))])), cSet a2 σ2]) rfl (fun H locs B => ?_)
  refine z_aload_n S (pc := 16) dX4_copyFrom_16 rfl (lv_at hl 0 rfl) ?_
  refine z_aload_n S (pc := 17) dX4_copyFrom_17 rfl (lv_at hl 1 rfl) ?_
  refine z_get S (pc := 18) B iX4_copyFrom_X4 1 rfl rfl 2 (by decide) rfl rfl (by decide +kernel) dX4_copyFrom_18 ?_
  refine z_put S (pc := 21) B iX4_copyFrom_X4 tyX4_ok nmX4 0 rfl rfl 2 (by decide) rfl (by decide +kernel) (ty := .int) (by decide +kernel) rfl rfl (Nat.le_of_ble_eq_true rfl) dX4_copyFrom_21 (wn := [(a, .inr (4, [.int (iI (σ2 5)), .int (iI (σ2 6)), .int (iI (σ2 7)), .int (iI (σ 8)), .int (iI (σ 9)), .int (iI (σ 10))])), cSet a2 σ2]) rfl (fun H locs B => ?_)
  refine z_aload_n S (pc := 24) dX4_copyFrom_24 rfl (lv_at hl 0 rfl) ?_
  refine z_aload_n S (pc := 25) dX4_copyFrom_25 rfl (lv_at hl 1 rfl) ?_
  refine z_get S (pc := 26) B iX4_copyFrom_X4 1 rfl rfl 3 (by decide) rfl rfl (by decide +kernel) dX4_copyFrom_26 ?_
  refine z_put S (pc := 29) B iX4_copyFrom_X4 tyX4_ok nmX4 0 rfl rfl 3 (by decide) rfl (by decide +kernel) (ty := .int) (by decide +kernel) rfl rfl (Nat.le_of_ble_eq_true rfl) dX4_copyFrom_29 (wn := [(a, .inr (4, [.int (iI (σ2 5)), .int (iI (σ2 6)), .int (iI (σ2 7)), .int (iI (σ2 8)), .int (iI (σ 9)), .int (iI (σ 10))])), cSet a2 σ2]) rfl (fun H locs B => ?_)
  refine z_aload_n S (pc := 32) dX4_copyFrom_32 rfl (lv_at hl 0 rfl) ?_
  refine z_aload_n S (pc := 33) dX4_copyFrom_33 rfl (lv_at hl 1 rfl) ?_
  refine z_get S (pc := 34) B iX4_copyFrom_X4 1 rfl rfl 4 (by decide) rfl rfl (by decide +kernel) dX4_copyFrom_34 ?_
  refine z_put S (pc := 37) B iX4_copyFrom_X4 tyX4_ok nmX4 0 rfl rfl 4 (by decide) rfl (by decide +kernel) (ty := .int) (by decide +kernel) rfl rfl (Nat.le_of_ble_eq_true rfl) dX4_copyFrom_37 (wn := [(a, .inr (4, [.int (iI (σ2 5)), .int (iI (σ2 6)), .int (iI (σ2 7)), .int (iI (σ2 8)), .int (iI (σ2 9)), .int (iI (σ 10))])), cSet a2 σ2]) rfl (fun H locs B => ?_)
  refine z_aload_n S (pc := 40) dX4_copyFrom_40 rfl (lv_at hl 0 rfl) ?_
  refine z_aload_n S (pc := 41) dX4_copyFrom_41 rfl (lv_at hl 1 rfl) ?_
  refine z_get S (pc := 42) B iX4_copyFrom_X4 1 rfl rfl 5 (by decide) rfl rfl (by decide +kernel) dX4_copyFrom_42 ?_
  refine z_put S (pc := 45) B iX4_copyFrom_X4 tyX4_ok nmX4 0 rfl rfl 5 (by decide) rfl (by decide +kernel) (ty := .int) (by decide +kernel) rfl rfl (Nat.le_of_ble_eq_true rfl) dX4_copyFrom_45 (wn := [cSet a σ2, cSet a2 σ2]) rfl (fun H locs B => ?_)
  exact z_return S hr hlk B () trivial rfl rfl (pc := 48) dX4_copyFrom_48
theorem iX0_copyFrom_X0 : ∀ w ∈ wsX00, w ∈ wsX0_copyFrom := by decide +kernel
set_option maxHeartbeats 4000000 in
set_option maxRecDepth 100000 in
theorem mX0_copyFrom (l : Launch) (E : gT) (a : Nat) (a2 : Nat) (σ : Nat → Int) (σ2 : Nat → Int) (o : Int) (o2 : Int) (h22 : σ2 22 = 0 ∨ σ2 22 = 1) (ho : o2 = 0 ∨ o2 = 1) : Cd l E yX0_copyFrom wsX0_copyFrom 0 0 0 0 [.ref a, .ref a2] [cCon a σ o, cCon a2 σ2 o2] none [cCon a σ2 o2, cCon a2 σ2 o2] := by
  refine Ct.mk (cc := cX0_copyFrom) (maxL := 2) (ret := none) (plainFor_of_name (by decide)) rfl (Nat.le_of_ble_eq_true rfl) ?_
  intro p e s m below meth c A ls H locs S hr hlk hnm B hl
  have S : CallFix p m c cX0_copyFrom 2 s #[.ref a, .ref a2] wsX0_copyFrom RX0 := S
  have hl : lv_has ls 2 [(0, .ref a), (1, .ref a2)] := hl
  refine z_aload_n S (pc := 0) dX0_copyFrom_0 rfl (lv_at hl 0 rfl) ?_
  refine z_aload_n S (pc := 1) dX0_copyFrom_1 rfl (lv_at hl 1 rfl) ?_
  refine z_get S (pc := 2) B iX0_copyFrom_X0 1 rfl rfl 0 (by decide) rfl rfl (by decide +kernel) dX0_copyFrom_2 ?_
  refine z_put S (pc := 5) B iX0_copyFrom_X0 tyX0_ok nmX0 0 rfl rfl 0 (by decide) rfl (by decide +kernel) (ty := .boolean) (by decide +kernel) (nar_z h22) (fit_z h22) (Nat.le_of_ble_eq_true rfl) dX0_copyFrom_5 (wn := [(a, .inr (0, [.int (iI (σ2 22)), .int (iI o), .int (iI (σ 15)), .int (iI (σ 16)), .int (iI (σ 17)), .int (iI (σ 18)), .int (iI (σ 19)), .long (iL (σ 20)), .long (iL (σ 21))])), cCon a2 σ2 o2]) rfl (fun H locs B => ?_)
  refine z_aload_n S (pc := 8) dX0_copyFrom_8 rfl (lv_at hl 0 rfl) ?_
  refine z_aload_n S (pc := 9) dX0_copyFrom_9 rfl (lv_at hl 1 rfl) ?_
  refine z_get S (pc := 10) B iX0_copyFrom_X0 1 rfl rfl 1 (by decide) rfl rfl (by decide +kernel) dX0_copyFrom_10 ?_
  refine z_put S (pc := 13) B iX0_copyFrom_X0 tyX0_ok nmX0 0 rfl rfl 1 (by decide) rfl (by decide +kernel) (ty := .boolean) (by decide +kernel) (nar_z ho) (fit_z ho) (Nat.le_of_ble_eq_true rfl) dX0_copyFrom_13 (wn := [(a, .inr (0, [.int (iI (σ2 22)), .int (iI o2), .int (iI (σ 15)), .int (iI (σ 16)), .int (iI (σ 17)), .int (iI (σ 18)), .int (iI (σ 19)), .long (iL (σ 20)), .long (iL (σ 21))])), cCon a2 σ2 o2]) rfl (fun H locs B => ?_)
  refine z_aload_n S (pc := 16) dX0_copyFrom_16 rfl (lv_at hl 0 rfl) ?_
  refine z_aload_n S (pc := 17) dX0_copyFrom_17 rfl (lv_at hl 1 rfl) ?_
  refine z_get S (pc := 18) B iX0_copyFrom_X0 1 rfl rfl 2 (by decide) rfl rfl (by decide +kernel) dX0_copyFrom_18 ?_
  refine z_put S (pc := 21) B iX0_copyFrom_X0 tyX0_ok nmX0 0 rfl rfl 2 (by decide) rfl (by decide +kernel) (ty := .int) (by decide +kernel) rfl rfl (Nat.le_of_ble_eq_true rfl) dX0_copyFrom_21 (wn := [(a, .inr (0, [.int (iI (σ2 22)), .int (iI o2), .int (iI (σ2 15)), .int (iI (σ 16)), .int (iI (σ 17)), .int (iI (σ 18)), .int (iI (σ 19)), .long (iL (σ 20)), .long (iL (σ 21))])), cCon a2 σ2 o2]) rfl (fun H locs B => ?_)
  refine z_aload_n S (pc := 24) dX0_copyFrom_24 rfl (lv_at hl 0 rfl) ?_
  refine z_aload_n S (pc := 25) dX0_copyFrom_25 rfl (lv_at hl 1 rfl) ?_
  refine z_get S (pc := 26) B iX0_copyFrom_X0 1 rfl rfl 3 (by decide) rfl rfl (by decide +kernel) dX0_copyFrom_26 ?_
  refine z_put S (pc := 29) B iX0_copyFrom_X0 tyX0_ok nmX0 0 rfl rfl 3 (by decide) rfl (by decide +kernel) (ty := .int) (by decide +kernel) rfl rfl (Nat.le_of_ble_eq_true rfl) dX0_copyFrom_29 (wn := [(a, .inr (0, [.int (iI (σ2 22)), .int (iI o2), .int (iI (σ2 15)), .int (iI (σ2 16)), .int (iI (σ 17)), .int (iI (σ 18)), .int (iI (σ 19)), .long (iL (σ 20)), .long (iL (σ 21))])), cCon a2 σ2 o2]) rfl (fun H locs B => ?_)
  refine z_aload_n S (pc := 32) dX0_copyFrom_32 rfl (lv_at hl 0 rfl) ?_
  refine z_aload_n S (pc := 33) dX0_copyFrom_33 rfl (lv_at hl 1 rfl) ?_
  refine z_get S (pc := 34) B iX0_copyFrom_X0 1 rfl rfl 4 (by decide) rfl rfl (by decide +kernel) dX0_copyFrom_34 ?_
  refine z_put S (pc := 37) B iX0_copyFrom_X0 tyX0_ok nmX0 0 rfl rfl 4 (by decide) rfl (by decide +kernel) (ty := .int) (by decide +kernel) rfl rfl (Nat.le_of_ble_eq_true rfl) dX0_copyFrom_37 (wn := [(a, .inr (0, [.int (iI (σ2 22)), .int (iI o2), .int (iI (σ2 15)), .int (iI (σ2 16)), .int (iI (σ2 17)), .int (iI (σ 18)), .int (iI (σ 19)), .long (iL (σ 20)), .long (iL (σ 21))])), cCon a2 σ2 o2]) rfl (fun H locs B => ?_)
  refine z_aload_n S (pc := 40) dX0_copyFrom_40 rfl (lv_at hl 0 rfl) ?_
  refine z_aload_n S (pc := 41) dX0_copyFrom_41 rfl (lv_at hl 1 rfl) ?_
  refine z_get S (pc := 42) B iX0_copyFrom_X0 1 rfl rfl 5 (by decide) rfl rfl (by decide +kernel) dX0_copyFrom_42 ?_
  refine z_put S (pc := 45) B iX0_copyFrom_X0 tyX0_ok nmX0 0 rfl rfl 5 (by decide) rfl (by decide +kernel) (ty := .int) (by decide +kernel) rfl rfl (Nat.le_of_ble_eq_true rfl) dX0_copyFrom_45 (wn := [(a, .inr (0, [.int (iI (σ2 22)), .int (iI o2), .int (iI (σ2 15)), .int (iI (σ2 16)), .int (iI (σ2 17)), .int (iI (σ2 18)), .int (iI (σ 19)), .long (iL (σ 20)), .long (iL (σ 21))])), cCon a2 σ2 o2]) rfl (fun H locs B => ?_)
  refine z_aload_n S (pc := 48) dX0_copyFrom_48 rfl (lv_at hl 0 rfl) ?_
  refine z_aload_n S (pc := 49) dX0_copyFrom_49 rfl (lv_at hl 1 rfl) ?_
  refine z_get S (pc := 50) B iX0_copyFrom_X0 1 rfl rfl 6 (by decide) rfl rfl (by decide +kernel) dX0_copyFrom_50 ?_
  refine z_put S (pc := 53) B iX0_copyFrom_X0 tyX0_ok nmX0 0 rfl rfl 6 (by decide) rfl (by decide +kernel) (ty := .int) (by decide +kernel) rfl rfl (Nat.le_of_ble_eq_true rfl) dX0_copyFrom_53 (wn := [(a, .inr (0, [.int (iI (σ2 22)), .int (iI o2), .int (iI (σ2 15)), .int (iI (σ2 16)), .int (iI (σ2 17)), .int (iI (σ2 18)), .int (iI (σ2 19)), .long (iL (σ 20)), .long (iL (σ 21))])), cCon a2 σ2 o2]) rfl (fun H locs B => ?_)
  refine z_aload_n S (pc := 56) dX0_copyFrom_56 rfl (lv_at hl 0 rfl) ?_
  refine z_aload_n S (pc := 57) dX0_copyFrom_57 rfl (lv_at hl 1 rfl) ?_
  refine z_get S (pc := 58) B iX0_copyFrom_X0 1 rfl rfl 7 (by decide) rfl rfl (by decide +kernel) dX0_copyFrom_58 ?_
  refine z_put S (pc := 61) B iX0_copyFrom_X0 tyX0_ok nmX0 0 rfl rfl 7 (by decide) rfl (by decide +kernel) (ty := .long) (by decide +kernel) rfl rfl (Nat.le_of_ble_eq_true rfl) dX0_copyFrom_61 (wn := [(a, .inr (0, [.int (iI (σ2 22)), .int (iI o2), .int (iI (σ2 15)), .int (iI (σ2 16)), .int (iI (σ2 17)), .int (iI (σ2 18)), .int (iI (σ2 19)), .long (iL (σ2 20)), .long (iL (σ 21))])), cCon a2 σ2 o2]) rfl (fun H locs B => ?_)
  refine z_aload_n S (pc := 64) dX0_copyFrom_64 rfl (lv_at hl 0 rfl) ?_
  refine z_aload_n S (pc := 65) dX0_copyFrom_65 rfl (lv_at hl 1 rfl) ?_
  refine z_get S (pc := 66) B iX0_copyFrom_X0 1 rfl rfl 8 (by decide) rfl rfl (by decide +kernel) dX0_copyFrom_66 ?_
  refine z_put S (pc := 69) B iX0_copyFrom_X0 tyX0_ok nmX0 0 rfl rfl 8 (by decide) rfl (by decide +kernel) (ty := .long) (by decide +kernel) rfl rfl (Nat.le_of_ble_eq_true rfl) dX0_copyFrom_69 (wn := [cCon a σ2 o2, cCon a2 σ2 o2]) rfl (fun H locs B => ?_)
  exact z_return S hr hlk B () trivial rfl rfl (pc := 72) dX0_copyFrom_72
theorem iX2_copyFrom_X2 : ∀ w ∈ wsX20, w ∈ wsX2_copyFrom := by decide +kernel
set_option maxHeartbeats 4000000 in
set_option maxRecDepth 100000 in
theorem mX2_copyFrom (l : Launch) (E : gT) (a : Nat) (b : Nat) (f : Nat) (g : Nat) (σ : Nat → Int) (ov : Int) (rr : Int) (rb : Int) (rn : Int) (a2 : Nat) (b2 : Nat) (f2 : Nat) (g2 : Nat) (σ2 : Nat → Int) (ov2 : Int) (rr2 : Int) (rb2 : Int) (rn2 : Int) (h22 : σ2 22 = 0 ∨ σ2 22 = 1) (ho : ov2 = 0 ∨ ov2 = 1) : Cd l E yX2_copyFrom wsX2_copyFrom 1 21 0 0 [.ref a, .ref a2] [cMet a b f g σ rr rb rn, cSig b σ, cSet f σ, cCon g σ ov, cMet a2 b2 f2 g2 σ2 rr2 rb2 rn2, cSig b2 σ2, cSet f2 σ2, cCon g2 σ2 ov2] none [cMet a b f g σ2 rr2 rb2 rn2, cSig b σ2, cSet f σ2, cCon g σ2 ov2, cMet a2 b2 f2 g2 σ2 rr2 rb2 rn2, cSig b2 σ2, cSet f2 σ2, cCon g2 σ2 ov2] := by
  refine Ct.mk (cc := cX2_copyFrom) (maxL := 2) (ret := none) (plainFor_of_name (by decide)) rfl (Nat.le_of_ble_eq_true rfl) ?_
  intro p e s m below meth c A ls H locs S hr hlk hnm B hl
  have S : CallFix p m c cX2_copyFrom 2 s #[.ref a, .ref a2] wsX2_copyFrom RX2 := S
  have hl : lv_has ls 2 [(0, .ref a), (1, .ref a2)] := hl
  refine z_aload_n S (pc := 0) dX2_copyFrom_0 rfl (lv_at hl 0 rfl) ?_
  refine z_get S (pc := 1) B iX2_copyFrom_X2 0 rfl rfl 0 (by decide) rfl rfl (by decide +kernel) dX2_copyFrom_1 ?_
  refine z_aload_n S (pc := 4) dX2_copyFrom_4 rfl (lv_at hl 1 rfl) ?_
  refine z_get S (pc := 5) B iX2_copyFrom_X2 4 rfl rfl 0 (by decide) rfl rfl (by decide +kernel) dX2_copyFrom_5 ?_
  refine z_callV S (pc := 8) B (wr := [cMet a b f g σ rr rb rn, cSet f σ, cCon g σ ov, cMet a2 b2 f2 g2 σ2 rr2 rb2 rn2, cSet f2 σ2, cCon g2 σ2 ov2]) (wn := fun _ => [cMet a b f g σ rr rb rn, cSig b σ2, cSet f σ, cCon g σ ov, cMet a2 b2 f2 g2 σ2 rr2 rb2 rn2, cSig b2 σ2, cSet f2 σ2, cCon g2 σ2 ov2]) (st1 := fun _ => []) (As := [.ref b2]) (mX5_copyFrom l E b b2 σ σ2 ) gX2_copyFrom_X5_copyFrom 1 rfl (by decide +kernel) ⟨Nat.le_of_ble_eq_true rfl, Nat.le_of_ble_eq_true rfl, Nat.le_of_ble_eq_true rfl, Nat.le_of_ble_eq_true rfl⟩ 0 rfl (q := (RX5, TX5, 5)) rfl rfl [1, 5] [0, 2, 3, 4, 6, 7] [0, 6, 1, 2, 3, 7, 4, 5] rfl rfl ⟨rfl, rfl, rfl, by decide⟩ (fun _ => rfl) rfl (fun _ => rfl) hl.1 (Nat.le_of_ble_eq_true rfl) rfl dX2_copyFrom_8 (fun _ _ H locs B => ?_)
  refine z_aload_n S (pc := 11) dX2_copyFrom_11 rfl (lv_at hl 0 rfl) ?_
  refine z_get S (pc := 12) B iX2_copyFrom_X2 0 rfl rfl 1 (by decide) rfl rfl (by decide +kernel) dX2_copyFrom_12 ?_
  refine z_aload_n S (pc := 15) dX2_copyFrom_15 rfl (lv_at hl 1 rfl) ?_
  refine z_get S (pc := 16) B iX2_copyFrom_X2 4 rfl rfl 1 (by decide) rfl rfl (by decide +kernel) dX2_copyFrom_16 ?_
  refine z_callV S (pc := 19) B (wr := [cMet a b f g σ rr rb rn, cSig b σ2, cCon g σ ov, cMet a2 b2 f2 g2 σ2 rr2 rb2 rn2, cSig b2 σ2, cCon g2 σ2 ov2]) (wn := fun _ => [cMet a b f g σ rr rb rn, cSig b σ2, cSet f σ2, cCon g σ ov, cMet a2 b2 f2 g2 σ2 rr2 rb2 rn2, cSig b2 σ2, cSet f2 σ2, cCon g2 σ2 ov2]) (st1 := fun _ => []) (As := [.ref f2]) (mX4_copyFrom l E f f2 σ σ2 ) gX2_copyFrom_X4_copyFrom 1 rfl (by decide +kernel) ⟨Nat.le_of_ble_eq_true rfl, Nat.le_of_ble_eq_true rfl, Nat.le_of_ble_eq_true rfl, Nat.le_of_ble_eq_true rfl⟩ 0 rfl (q := (RX4, TX4, 6)) rfl rfl [2, 6] [0, 1, 3, 4, 5, 7] [0, 1, 6, 2, 3, 4, 7, 5] rfl rfl ⟨rfl, rfl, rfl, by decide⟩ (fun _ => rfl) rfl (fun _ => rfl) hl.1 (Nat.le_of_ble_eq_true rfl) rfl dX2_copyFrom_19 (fun _ _ H locs B => ?_)
  refine z_aload_n S (pc := 22) dX2_copyFrom_22 rfl (lv_at hl 0 rfl) ?_
  refine z_get S (pc := 23) B iX2_copyFrom_X2 0 rfl rfl 2 (by decide) rfl rfl (by decide +kernel) dX2_copyFrom_23 ?_
  refine z_aload_n S (pc := 26) dX2_copyFrom_26 rfl (lv_at hl 1 rfl) ?_
  refine z_get S (pc := 27) B iX2_copyFrom_X2 4 rfl rfl 2 (by decide) rfl rfl (by decide +kernel) dX2_copyFrom_27 ?_
  refine z_callV S (pc := 30) B (wr := [cMet a b f g σ rr rb rn, cSig b σ2, cSet f σ2, cMet a2 b2 f2 g2 σ2 rr2 rb2 rn2, cSig b2 σ2, cSet f2 σ2]) (wn := fun _ => [cMet a b f g σ rr rb rn, cSig b σ2, cSet f σ2, cCon g σ2 ov2, cMet a2 b2 f2 g2 σ2 rr2 rb2 rn2, cSig b2 σ2, cSet f2 σ2, cCon g2 σ2 ov2]) (st1 := fun _ => []) (As := [.ref g2]) (mX0_copyFrom l E g g2 σ σ2 ov ov2 (show σ2 22 = 0 ∨ σ2 22 = 1 from by omega) (show ov2 = 0 ∨ ov2 = 1 from by omega)) gX2_copyFrom_X0_copyFrom 1 rfl (by decide +kernel) ⟨Nat.le_of_ble_eq_true rfl, Nat.le_of_ble_eq_true rfl, Nat.le_of_ble_eq_true rfl, Nat.le_of_ble_eq_true rfl⟩ 0 rfl (q := (RX0, TX0, 9)) rfl rfl [3, 7] [0, 1, 2, 4, 5, 6] [0, 1, 2, 6, 3, 4, 5, 7] rfl rfl ⟨rfl, rfl, rfl, by decide⟩ (fun _ => rfl) rfl (fun _ => rfl) hl.1 (Nat.le_of_ble_eq_true rfl) rfl dX2_copyFrom_30 (fun _ _ H locs B => ?_)
  refine z_aload_n S (pc := 33) dX2_copyFrom_33 rfl (lv_at hl 0 rfl) ?_
  refine z_aload_n S (pc := 34) dX2_copyFrom_34 rfl (lv_at hl 1 rfl) ?_
  refine z_get S (pc := 35) B iX2_copyFrom_X2 4 rfl rfl 3 (by decide) rfl rfl (by decide +kernel) dX2_copyFrom_35 ?_
  refine z_put S (pc := 38) B iX2_copyFrom_X2 tyX2_ok nmX2 0 rfl rfl 3 (by decide) rfl (by decide +kernel) (ty := .int) (by decide +kernel) rfl rfl (Nat.le_of_ble_eq_true rfl) dX2_copyFrom_38 (wn := [(a, .inr (2, [.ref b, .ref f, .ref g, .int (iI (σ2 11)), .int (iI (σ 12)), .int (iI (σ 13)), .int (iI rr), .int (iI rb), .long (iL rn)])), cSig b σ2, cSet f σ2, cCon g σ2 ov2, cMet a2 b2 f2 g2 σ2 rr2 rb2 rn2, cSig b2 σ2, cSet f2 σ2, cCon g2 σ2 ov2]) rfl (fun H locs B => ?_)
  refine z_aload_n S (pc := 41) dX2_copyFrom_41 rfl (lv_at hl 0 rfl) ?_
  refine z_aload_n S (pc := 42) dX2_copyFrom_42 rfl (lv_at hl 1 rfl) ?_
  refine z_get S (pc := 43) B iX2_copyFrom_X2 4 rfl rfl 4 (by decide) rfl rfl (by decide +kernel) dX2_copyFrom_43 ?_
  refine z_put S (pc := 46) B iX2_copyFrom_X2 tyX2_ok nmX2 0 rfl rfl 4 (by decide) rfl (by decide +kernel) (ty := .int) (by decide +kernel) rfl rfl (Nat.le_of_ble_eq_true rfl) dX2_copyFrom_46 (wn := [(a, .inr (2, [.ref b, .ref f, .ref g, .int (iI (σ2 11)), .int (iI (σ2 12)), .int (iI (σ 13)), .int (iI rr), .int (iI rb), .long (iL rn)])), cSig b σ2, cSet f σ2, cCon g σ2 ov2, cMet a2 b2 f2 g2 σ2 rr2 rb2 rn2, cSig b2 σ2, cSet f2 σ2, cCon g2 σ2 ov2]) rfl (fun H locs B => ?_)
  refine z_aload_n S (pc := 49) dX2_copyFrom_49 rfl (lv_at hl 0 rfl) ?_
  refine z_aload_n S (pc := 50) dX2_copyFrom_50 rfl (lv_at hl 1 rfl) ?_
  refine z_get S (pc := 51) B iX2_copyFrom_X2 4 rfl rfl 5 (by decide) rfl rfl (by decide +kernel) dX2_copyFrom_51 ?_
  refine z_put S (pc := 54) B iX2_copyFrom_X2 tyX2_ok nmX2 0 rfl rfl 5 (by decide) rfl (by decide +kernel) (ty := .int) (by decide +kernel) rfl rfl (Nat.le_of_ble_eq_true rfl) dX2_copyFrom_54 (wn := [cMet a b f g σ2 rr rb rn, cSig b σ2, cSet f σ2, cCon g σ2 ov2, cMet a2 b2 f2 g2 σ2 rr2 rb2 rn2, cSig b2 σ2, cSet f2 σ2, cCon g2 σ2 ov2]) rfl (fun H locs B => ?_)
  refine z_aload_n S (pc := 57) dX2_copyFrom_57 rfl (lv_at hl 0 rfl) ?_
  refine z_aload_n S (pc := 58) dX2_copyFrom_58 rfl (lv_at hl 1 rfl) ?_
  refine z_get S (pc := 59) B iX2_copyFrom_X2 4 rfl rfl 6 (by decide) rfl rfl (by decide +kernel) dX2_copyFrom_59 ?_
  refine z_put S (pc := 62) B iX2_copyFrom_X2 tyX2_ok nmX2 0 rfl rfl 6 (by decide) rfl (by decide +kernel) (ty := .int) (by decide +kernel) rfl rfl (Nat.le_of_ble_eq_true rfl) dX2_copyFrom_62 (wn := [cMet a b f g σ2 rr2 rb rn, cSig b σ2, cSet f σ2, cCon g σ2 ov2, cMet a2 b2 f2 g2 σ2 rr2 rb2 rn2, cSig b2 σ2, cSet f2 σ2, cCon g2 σ2 ov2]) rfl (fun H locs B => ?_)
  refine z_aload_n S (pc := 65) dX2_copyFrom_65 rfl (lv_at hl 0 rfl) ?_
  refine z_aload_n S (pc := 66) dX2_copyFrom_66 rfl (lv_at hl 1 rfl) ?_
  refine z_get S (pc := 67) B iX2_copyFrom_X2 4 rfl rfl 7 (by decide) rfl rfl (by decide +kernel) dX2_copyFrom_67 ?_
  refine z_put S (pc := 70) B iX2_copyFrom_X2 tyX2_ok nmX2 0 rfl rfl 7 (by decide) rfl (by decide +kernel) (ty := .int) (by decide +kernel) rfl rfl (Nat.le_of_ble_eq_true rfl) dX2_copyFrom_70 (wn := [cMet a b f g σ2 rr2 rb2 rn, cSig b σ2, cSet f σ2, cCon g σ2 ov2, cMet a2 b2 f2 g2 σ2 rr2 rb2 rn2, cSig b2 σ2, cSet f2 σ2, cCon g2 σ2 ov2]) rfl (fun H locs B => ?_)
  refine z_aload_n S (pc := 73) dX2_copyFrom_73 rfl (lv_at hl 0 rfl) ?_
  refine z_aload_n S (pc := 74) dX2_copyFrom_74 rfl (lv_at hl 1 rfl) ?_
  refine z_get S (pc := 75) B iX2_copyFrom_X2 4 rfl rfl 8 (by decide) rfl rfl (by decide +kernel) dX2_copyFrom_75 ?_
  refine z_put S (pc := 78) B iX2_copyFrom_X2 tyX2_ok nmX2 0 rfl rfl 8 (by decide) rfl (by decide +kernel) (ty := .long) (by decide +kernel) rfl rfl (Nat.le_of_ble_eq_true rfl) dX2_copyFrom_78 (wn := [cMet a b f g σ2 rr2 rb2 rn2, cSig b σ2, cSet f σ2, cCon g σ2 ov2, cMet a2 b2 f2 g2 σ2 rr2 rb2 rn2, cSig b2 σ2, cSet f2 σ2, cCon g2 σ2 ov2]) rfl (fun H locs B => ?_)
  exact z_return S hr hlk B () trivial rfl rfl (pc := 81) dX2_copyFrom_81
/-! END meter -/
