set_option linter.unusedVariables false
theorem vwl_m (σ : Nat → Int) (v : Int) : val0 (rz (up (up σ 11 (σ 11 + 0)) 0 v)) = vwl σ v := by
  unfold vwl
  rw [Int.add_zero, up_self]
theorem rv_m (σ : Nat → Int) (n k : Int) : val0 (rz (up (up σ 11 (σ 11 + k * σ 2 / n)) 0 (σ 0))) = rv σ n k := by
  unfold rv
  rw [show up (up σ 11 (σ 11 + k * σ 2 / n)) 0 (σ 0) = up σ 11 (σ 11 + k * σ 2 / n) from up_self (up σ 11 (σ 11 + k * σ 2 / n)) 0]
theorem up_up (σ : Nat → Int) (k : Nat) (a b : Int) : up (up σ k a) k b = up σ k b := by
  funext j
  simp only [up]
  by_cases h : j = k
  · simp [h]
  · simp [h]
theorem sets_tl {σ : Nat → Int} {t v : Int} (h : Sets σ) (hv : -3000000 ≤ v ∧ v ≤ 3000000) : Sets (up (up σ 11 t) 0 v) := by
  obtain ⟨h0, hr⟩ := h
  exact ⟨hv, hr⟩
def pw2 : Nat → Int
  | 0 => 1
  | n + 1 => 2 * pw2 n
set_option maxHeartbeats 4000000 in
set_option maxRecDepth 100000 in
theorem mX8_wouldRead (l : Launch) (E : gT) (a : Nat) (p1 : Nat) (p2 : Nat) (p3 : Nat) (p4 : Nat) (p5 : Nat) (p6 : Nat) (σ : Nat → Int) (ρ : Nat → Int) (pm : Int) (ig : Int) (mo : Int) (rd : Int) (wr : Int) (sm : Int) (α : Nat → Int) (v : Int) (hv : -3000000 ≤ v ∧ v ≤ 3000000) (hs : Sets σ) (hn : Nums σ) (h11 : 0 ≤ σ 11 ∧ σ 11 ≤ 1900000000) : Ct l E yX8_wouldRead wsX8_wouldRead 6 147 0 0 [.ref a, .int (iI v)] [cMod a p1 p2 p3 p4 p5 p6 pm ig mo rd wr sm, cAt E p1 σ ρ, cLon E p2 303 α] (S0 := Int × Int × (Nat → Int)) (fun u0 => True) (fun _ => (some (.long (iL (vwl σ v))))) (fun u0 => [cMod a p1 p2 p3 p4 p5 p6 pm u0.1 u0.2.1 rd wr sm, cAt E p1 σ ρ, cLon E p2 303 u0.2.2]) := by
  refine Ct.mk (cc := cX8_wouldRead) (maxL := 2) (ret := (some .long)) (plainFor_of_name (by decide)) rfl (Nat.le_of_ble_eq_true rfl) ?_
  intro p e s m below meth c A ls H locs S hr hlk hnm B hl
  have S : CallFix p m c cX8_wouldRead 2 s #[.ref a, .int (iI v)] wsX8_wouldRead RX8 := S
  have hl : lv_has ls 2 [(0, .ref a), (1, .int (iI v))] := hl
  refine z_iload_n S (pc := 0) dX8_wouldRead_0 rfl (lv_at hl 1 rfl) ?_
  refine z_callS S (pc := 1) B (wr := [cMod a p1 p2 p3 p4 p5 p6 pm ig mo rd wr sm, cAt E p1 σ ρ, cLon E p2 303 α]) (wn := fun _ => [cMod a p1 p2 p3 p4 p5 p6 pm ig mo rd wr sm, cAt E p1 σ ρ, cLon E p2 303 α]) (st1 := fun _ => [.int (iI (bI ((-3000000) ≤ v ∧ v ≤ 3000000)))]) (As := [.int (iI v)]) (mX8_isLevel l E v (show inI v from by omega)) gX8_wouldRead_X8_isLevel 1 rfl (by decide +kernel) ⟨Nat.le_of_ble_eq_true rfl, Nat.le_of_ble_eq_true rfl, Nat.le_of_ble_eq_true rfl, Nat.le_of_ble_eq_true rfl⟩ [] [0, 1, 2] [0, 1, 2] rfl rfl ⟨rfl, rfl, rfl, by decide⟩ (fun _ => rfl) rfl (fun _ => rfl) hl.1 (Nat.le_of_ble_eq_true rfl) rfl dX8_wouldRead_1 (fun _ _ H locs B => ?_)
  refine z_ifeq_b S (pc := 4) (tgt := 17) dX8_wouldRead_4 rfl (fun c1 => absurd c1 (by omega)) (fun c1 => ?_)
  refine z_aload_n S (pc := 7) dX8_wouldRead_7 rfl (lv_at hl 0 rfl) ?_
  refine z_lconst S (pc := 8) (x := 0) dX8_wouldRead_8 rfl ?_
  refine z_iload_n S (pc := 9) dX8_wouldRead_9 rfl (lv_at hl 1 rfl) ?_
  refine z_i2l S (pc := 10) (by omega) dX8_wouldRead_10 ?_
  have hs2 : Sets (up (up σ 11 (σ 11 + 0)) 0 v) := sets_tl hs hv
  refine z_callV S (pc := 11) B (wr := []) (wn := fun u2 => [cMod a p1 p2 p3 p4 p5 p6 pm u2.1 u2.2 rd wr sm, cAt E p1 σ ρ, cLon E p2 303 (mat σ ρ)]) (st1 := fun _ => [.long (iL (val0 (rz (up (up σ 11 (σ 11 + 0)) 0 v))))]) (As := [.long (iL 0), .long (iL v)]) (mX8_tryReading l E a p1 p2 p3 p4 p5 p6 σ ρ pm ig mo rd wr sm α 0 v (show Sets (up (up σ 11 (σ 11 + 0)) 0 v) from by assumption) (show Nums σ from by assumption) (show 0 ≤ σ 11 ∧ σ 11 ≤ 1900000000 from by omega) (show 0 ≤ 0 ∧ 0 ≤ 1000000 from by omega)) gX8_wouldRead_X8_tryReading 2 rfl (by decide +kernel) ⟨Nat.le_of_ble_eq_true rfl, Nat.le_of_ble_eq_true rfl, Nat.le_of_ble_eq_true rfl, Nat.le_of_ble_eq_true rfl⟩ 0 rfl (q := (RX8, TX8, 12)) rfl rfl [0, 1, 2] [] [0, 1, 2] rfl rfl ⟨rfl, rfl, rfl, by decide⟩ (fun _ => rfl) rfl (fun _ => rfl) hl.1 (Nat.le_of_ble_eq_true rfl) rfl dX8_wouldRead_11 (fun u2 hu2 H locs B => ?_)
  rw [show (val0 (rz (up (up σ 11 (σ 11 + 0)) 0 v)) : Int) = vwl σ v from vwl_m σ v]
  refine lv_goto S.1 S.2.1 (pc := 14) (tgt := 20) dX8_wouldRead_14 rfl ?_
  exact z_lreturn S hr hlk B ⟨u2.1, u2.2, mat σ ρ⟩ trivial rfl rfl (pc := 20) dX8_wouldRead_20
set_option maxHeartbeats 4000000 in
set_option maxRecDepth 100000 in
theorem mX8_wouldRead_b (l : Launch) (E : gT) (a : Nat) (p1 : Nat) (p2 : Nat) (p3 : Nat) (p4 : Nat) (p5 : Nat) (p6 : Nat) (σ : Nat → Int) (ρ : Nat → Int) (pm : Int) (ig : Int) (mo : Int) (rd : Int) (wr : Int) (sm : Int) (v : Int) (hI : inI v) (hbad : (v < -3000000 ∨ 3000000 < v)) : Cd l E yX8_wouldRead wsX8_wouldRead 6 147 0 0 [.ref a, .int (iI v)] [cMod a p1 p2 p3 p4 p5 p6 pm ig mo rd wr sm] (some (.long (iL (-1000000000000000002)))) [cMod a p1 p2 p3 p4 p5 p6 pm ig mo rd wr sm] := by
  refine Ct.mk (cc := cX8_wouldRead) (maxL := 2) (ret := (some .long)) (plainFor_of_name (by decide)) rfl (Nat.le_of_ble_eq_true rfl) ?_
  intro p e s m below meth c A ls H locs S hr hlk hnm B hl
  have S : CallFix p m c cX8_wouldRead 2 s #[.ref a, .int (iI v)] wsX8_wouldRead RX8 := S
  have hl : lv_has ls 2 [(0, .ref a), (1, .int (iI v))] := hl
  refine z_iload_n S (pc := 0) dX8_wouldRead_0 rfl (lv_at hl 1 rfl) ?_
  refine z_callS S (pc := 1) B (wr := [cMod a p1 p2 p3 p4 p5 p6 pm ig mo rd wr sm]) (wn := fun _ => [cMod a p1 p2 p3 p4 p5 p6 pm ig mo rd wr sm]) (st1 := fun _ => [.int (iI (bI ((-3000000) ≤ v ∧ v ≤ 3000000)))]) (As := [.int (iI v)]) (mX8_isLevel l E v (show inI v from by omega)) gX8_wouldRead_X8_isLevel 1 rfl (by decide +kernel) ⟨Nat.le_of_ble_eq_true rfl, Nat.le_of_ble_eq_true rfl, Nat.le_of_ble_eq_true rfl, Nat.le_of_ble_eq_true rfl⟩ [] [0] [0] rfl rfl ⟨rfl, rfl, rfl, by decide⟩ (fun _ => rfl) rfl (fun _ => rfl) hl.1 (Nat.le_of_ble_eq_true rfl) rfl dX8_wouldRead_1 (fun _ _ H locs B => ?_)
  refine z_ifeq_b S (pc := 4) (tgt := 17) dX8_wouldRead_4 rfl (fun c1 => ?_) (fun c1 => absurd c1 (by omega))
  refine z_ldc2 S (pc := 17) (x := (-1000000000000000002)) (by decide +kernel) rfl dX8_wouldRead_17 ?_
  exact z_lreturn S hr hlk B () trivial rfl rfl (pc := 20) dX8_wouldRead_20
theorem iX8_rippleOf_X8 : ∀ w ∈ wsX80, w ∈ wsX8_rippleOf := by decide +kernel
set_option maxHeartbeats 4000000 in
set_option maxRecDepth 100000 in
theorem lpX8_rippleOf {p : Program} {l : Launch} {e : Env} {s : State} {m : MethodId} {args : Array Value} {below : List Frame} {meth : Method} {c : Code} {Q : State → Prop} {A : Nat → Prop} (E : gT) (S : CallFix p m c cX8_rippleOf 9 s args wsX8_rippleOf RX8) (a : Nat) (p1 : Nat) (p2 : Nat) (p3 : Nat) (p4 : Nat) (p5 : Nat) (p6 : Nat) (σ : Nat → Int) (ρ : Nat → Int) (pm : Int) (rd : Int) (wr : Int) (sm : Int) (nr : Int) (hs : Sets σ) (hn : Nums σ) (h11 : 0 ≤ σ 11 ∧ σ 11 ≤ 1900000000) (hnr : 1 ≤ nr ∧ nr ≤ 16) :
    ∀ (n : Nat) (k : Int) (x : Int) (y : Int) (ig : Int) (mo : Int) (α : Nat → Int) (hk : 0 ≤ k ∧ k + (n : Int) = nr) (hxb : -6000000000 ≤ x ∧ x ≤ 6000000000) (hyb : -6000000000 ≤ y ∧ y ≤ 6000000000) (res : Int × Int) (hres : ripL σ nr n k x y = res) (hx : ∀ (u0 : Int × Int × (Nat → Int)) (H : Heap) (locs : List Loc) (ls : Array Slot), bw E A s H locs [cMod a p1 p2 p3 p4 p5 p6 pm u0.1 u0.2.1 rd wr sm, cAt E p1 σ ρ, cLon E p2 303 u0.2.2] → lv_has ls 9 [(0, .ref a), (1, .int (iI nr)), (2, .long (iL res.1)), (4, .long (iL res.2))] → W p l e ({ frames := 6, cells := 0, slots := 0, locals := 147 } : Room) s m args below meth c H locs 0 0 Q (F0 m 86 ls [])) (H : Heap) (locs : List Loc) (ls : Array Slot) (B : bw E A s H locs [cMod a p1 p2 p3 p4 p5 p6 pm ig mo rd wr sm, cAt E p1 σ ρ, cLon E p2 303 α]) (hl : lv_has ls 9 [(0, .ref a), (1, .int (iI nr)), (2, .long (iL x)), (4, .long (iL y)), (6, .int (iI k))]), W p l e ({ frames := 6, cells := 0, slots := 0, locals := 147 } : Room) s m args below meth c H locs 0 0 Q (F0 m 8 ls []) := by
  intro n
  induction n with
  | zero =>
    intro k x y ig mo α hk hxb hyb res hres hx H locs ls B hl
    refine z_iload S (pc := 8) dX8_rippleOf_8 (lv_at hl 4 rfl) ?_
    refine z_iload_n S (pc := 10) dX8_rippleOf_10 rfl (lv_at hl 1 rfl) ?_
    refine z_icmp_ge S (pc := 11) (tgt := 86) (by omega) (by omega) dX8_rippleOf_11 rfl (fun c1 => ?_) (fun c1 => absurd c1 (by omega))
    subst hres
    exact hx ⟨ig, mo, α⟩ _ _ _ B (lv_sub hl [0, 1, 2, 3] rfl)
  | succ n ih =>
    intro k x y ig mo α hk hxb hyb res hres hx H locs ls B hl
    obtain ⟨h0, h1, h2, hrest⟩ := id hs
    have hkp := kpn_bd (k := k) (p := σ 2) (n := nr) (by omega) hnr (by omega)
    have hrv := rv_bd nr k hs hn
    refine z_iload S (pc := 8) dX8_rippleOf_8 (lv_at hl 4 rfl) ?_
    refine z_iload_n S (pc := 10) dX8_rippleOf_10 rfl (lv_at hl 1 rfl) ?_
    refine z_icmp_ge S (pc := 11) (tgt := 86) (by omega) (by omega) dX8_rippleOf_11 rfl (fun c1 => ?_) (fun c1 => ?_)
    · exact absurd c1 (by omega)
    · refine z_aload_n S (pc := 14) dX8_rippleOf_14 rfl (lv_at hl 0 rfl) ?_
      refine z_iload S (pc := 15) dX8_rippleOf_15 (lv_at hl 4 rfl) ?_
      refine z_i2l S (pc := 17) (by omega) dX8_rippleOf_17 ?_
      refine z_aload_n S (pc := 18) dX8_rippleOf_18 rfl (lv_at hl 0 rfl) ?_
      refine z_get S (pc := 19) B iX8_rippleOf_X8 0 rfl rfl 0 (by decide) rfl rfl (by decide +kernel) dX8_rippleOf_19 ?_
      refine z_iconst S (pc := 22) dX8_rippleOf_22 ?_
      refine z_lald S (pc := 23) B 1 2 rfl rfl (k := 2) rfl (by decide) (by decide) (v := .long (iL (σ 2))) rfl dX8_rippleOf_23 ?_
      refine z_lmul S (pc := 24) dX8_rippleOf_24 ?_
      refine z_iload_n S (pc := 25) dX8_rippleOf_25 rfl (lv_at hl 1 rfl) ?_
      refine z_i2l S (pc := 26) (by omega) dX8_rippleOf_26 ?_
      refine z_ldivn S (pc := 27) (by omega) (by omega) dX8_rippleOf_27 ?_
      refine z_aload_n S (pc := 28) dX8_rippleOf_28 rfl (lv_at hl 0 rfl) ?_
      refine z_get S (pc := 29) B iX8_rippleOf_X8 0 rfl rfl 0 (by decide) rfl rfl (by decide +kernel) dX8_rippleOf_29 ?_
      refine z_iconst S (pc := 32) dX8_rippleOf_32 ?_
      refine z_lald S (pc := 33) B 1 2 rfl rfl (k := 0) rfl (by decide) (by decide) (v := .long (iL (σ 0))) rfl dX8_rippleOf_33 ?_
      have hs2 : Sets (up (up σ 11 (σ 11 + k * σ 2 / nr)) 0 (σ 0)) := sets_tl hs h0
      refine z_callV S (pc := 34) B (wr := []) (wn := fun u2 => [cMod a p1 p2 p3 p4 p5 p6 pm u2.1 u2.2 rd wr sm, cAt E p1 σ ρ, cLon E p2 303 (mat σ ρ)]) (st1 := fun _ => [.long (iL (val0 (rz (up (up σ 11 (σ 11 + ((k * (σ 2)) / nr))) 0 (σ 0)))))]) (As := [.long (iL ((k * (σ 2)) / nr)), .long (iL (σ 0))]) (mX8_tryReading l E a p1 p2 p3 p4 p5 p6 σ ρ pm ig mo rd wr sm α ((k * (σ 2)) / nr) (σ 0) (show Sets (up (up σ 11 (σ 11 + ((k * (σ 2)) / nr))) 0 (σ 0)) from by assumption) (show Nums σ from by assumption) (show 0 ≤ σ 11 ∧ σ 11 ≤ 1900000000 from by omega) (show 0 ≤ ((k * (σ 2)) / nr) ∧ ((k * (σ 2)) / nr) ≤ 1000000 from by omega)) gX8_rippleOf_X8_tryReading 2 rfl (by decide +kernel) ⟨Nat.le_of_ble_eq_true rfl, Nat.le_of_ble_eq_true rfl, Nat.le_of_ble_eq_true rfl, Nat.le_of_ble_eq_true rfl⟩ 0 rfl (q := (RX8, TX8, 12)) rfl rfl [0, 1, 2] [] [0, 1, 2] rfl rfl ⟨rfl, rfl, rfl, by decide⟩ (fun _ => rfl) rfl (fun _ => rfl) hl.1 (Nat.le_of_ble_eq_true rfl) rfl dX8_rippleOf_34 (fun u2 hu2 H locs B => ?_)
      rw [show (val0 (rz (up (up σ 11 (σ 11 + ((k * (σ 2)) / nr))) 0 (σ 0))) : Int) = rv σ nr k from rv_m σ nr k]
      refine lv_lstore (lv' := [(7, .long (iL (rv σ nr k))), (0, .ref a), (1, .int (iI nr)), (2, .long (iL x)), (4, .long (iL y)), (6, .int (iI k))]) S.1 S.2.1 (pc := 37) dX8_rippleOf_37 hl (by decide) rfl (fun ls hl => ?_)
      refine z_iload S (pc := 39) dX8_rippleOf_39 (lv_at hl 5 rfl) ?_
      refine z_if_eq S (pc := 41) (tgt := 51) (by omega) dX8_rippleOf_41 rfl (fun c3 => ?_) (fun c3 => ?_)
      · refine z_lload S (pc := 51) dX8_rippleOf_51 (lv_at hl 0 rfl) ?_
        refine lv_goto S.1 S.2.1 (pc := 53) (tgt := 57) dX8_rippleOf_53 rfl ?_
        refine lv_lstore_n (lv' := [(2, .long (iL (rv σ nr k))), (7, .long (iL (rv σ nr k))), (0, .ref a), (1, .int (iI nr)), (4, .long (iL y)), (6, .int (iI k))]) S.1 S.2.1 (pc := 57) dX8_rippleOf_57 rfl hl (by decide) rfl (fun ls hl => ?_)
        refine z_iload S (pc := 58) dX8_rippleOf_58 (lv_at hl 5 rfl) ?_
        refine z_if_eq S (pc := 60) (tgt := 71) (by omega) dX8_rippleOf_60 rfl (fun c4 => ?_) (fun c4 => ?_)
        · refine z_lload S (pc := 71) dX8_rippleOf_71 (lv_at hl 1 rfl) ?_
          refine lv_goto S.1 S.2.1 (pc := 73) (tgt := 78) dX8_rippleOf_73 rfl ?_
          refine lv_lstore (lv' := [(4, .long (iL (rv σ nr k))), (2, .long (iL (rv σ nr k))), (7, .long (iL (rv σ nr k))), (0, .ref a), (1, .int (iI nr)), (6, .int (iI k))]) S.1 S.2.1 (pc := 78) dX8_rippleOf_78 hl (by decide) rfl (fun ls hl => ?_)
          refine lv_iinc (v := iI (k + 1)) (lv' := [(6, .int (iI (k + 1))), (4, .long (iL (rv σ nr k))), (2, .long (iL (rv σ nr k))), (7, .long (iL (rv σ nr k))), (0, .ref a), (1, .int (iI nr))]) S.1 S.2.1 (pc := 80) dX8_rippleOf_80 hl (k := 5) rfl (iI_add _ _) (by decide) rfl (fun ls hl => ?_)
          refine lv_goto S.1 S.2.1 (pc := 83) (tgt := 8) dX8_rippleOf_83 rfl ?_
          exact ih (k + 1) (rv σ nr k) (rv σ nr k) u2.1 u2.2 (mat σ ρ) (by omega) (by omega) (by omega) res ((ripL_0 (by omega)).symm.trans hres) hx _ _ _ B (lv_sub hl [4, 5, 2, 1, 0] rfl)
        · refine z_lload S (pc := 63) dX8_rippleOf_63 (lv_at hl 1 rfl) ?_
          refine z_lload S (pc := 65) dX8_rippleOf_65 (lv_at hl 4 rfl) ?_
          refine z_lc_le S (pc := 67) (tgt := 76) (by omega) (by omega) dX8_rippleOf_67 dX8_rippleOf_68 rfl (fun c5 => ?_) (fun c5 => ?_)
          · refine z_lload S (pc := 76) dX8_rippleOf_76 (lv_at hl 4 rfl) ?_
            refine lv_lstore (lv' := [(4, .long (iL y)), (2, .long (iL (rv σ nr k))), (7, .long (iL (rv σ nr k))), (0, .ref a), (1, .int (iI nr)), (6, .int (iI k))]) S.1 S.2.1 (pc := 78) dX8_rippleOf_78 hl (by decide) rfl (fun ls hl => ?_)
            refine lv_iinc (v := iI (k + 1)) (lv' := [(6, .int (iI (k + 1))), (4, .long (iL y)), (2, .long (iL (rv σ nr k))), (7, .long (iL (rv σ nr k))), (0, .ref a), (1, .int (iI nr))]) S.1 S.2.1 (pc := 80) dX8_rippleOf_80 hl (k := 5) rfl (iI_add _ _) (by decide) rfl (fun ls hl => ?_)
            refine lv_goto S.1 S.2.1 (pc := 83) (tgt := 8) dX8_rippleOf_83 rfl ?_
            exact absurd c3 (by omega)
          · refine z_lload S (pc := 71) dX8_rippleOf_71 (lv_at hl 1 rfl) ?_
            refine lv_goto S.1 S.2.1 (pc := 73) (tgt := 78) dX8_rippleOf_73 rfl ?_
            refine lv_lstore (lv' := [(4, .long (iL (rv σ nr k))), (2, .long (iL (rv σ nr k))), (7, .long (iL (rv σ nr k))), (0, .ref a), (1, .int (iI nr)), (6, .int (iI k))]) S.1 S.2.1 (pc := 78) dX8_rippleOf_78 hl (by decide) rfl (fun ls hl => ?_)
            refine lv_iinc (v := iI (k + 1)) (lv' := [(6, .int (iI (k + 1))), (4, .long (iL (rv σ nr k))), (2, .long (iL (rv σ nr k))), (7, .long (iL (rv σ nr k))), (0, .ref a), (1, .int (iI nr))]) S.1 S.2.1 (pc := 80) dX8_rippleOf_80 hl (k := 5) rfl (iI_add _ _) (by decide) rfl (fun ls hl => ?_)
            refine lv_goto S.1 S.2.1 (pc := 83) (tgt := 8) dX8_rippleOf_83 rfl ?_
            exact absurd c3 (by omega)
      · refine z_lload S (pc := 44) dX8_rippleOf_44 (lv_at hl 0 rfl) ?_
        refine z_lload_n S (pc := 46) dX8_rippleOf_46 rfl (lv_at hl 3 rfl) ?_
        refine z_lc_ge S (pc := 47) (tgt := 56) (by omega) (by omega) dX8_rippleOf_47 dX8_rippleOf_48 rfl (fun c6 => ?_) (fun c6 => ?_)
        · refine z_lload_n S (pc := 56) dX8_rippleOf_56 rfl (lv_at hl 3 rfl) ?_
          refine lv_lstore_n (lv' := [(2, .long (iL x)), (7, .long (iL (rv σ nr k))), (0, .ref a), (1, .int (iI nr)), (4, .long (iL y)), (6, .int (iI k))]) S.1 S.2.1 (pc := 57) dX8_rippleOf_57 rfl hl (by decide) rfl (fun ls hl => ?_)
          refine z_iload S (pc := 58) dX8_rippleOf_58 (lv_at hl 5 rfl) ?_
          refine z_if_eq S (pc := 60) (tgt := 71) (by omega) dX8_rippleOf_60 rfl (fun c7 => ?_) (fun c7 => ?_)
          · refine z_lload S (pc := 71) dX8_rippleOf_71 (lv_at hl 1 rfl) ?_
            refine lv_goto S.1 S.2.1 (pc := 73) (tgt := 78) dX8_rippleOf_73 rfl ?_
            refine lv_lstore (lv' := [(4, .long (iL (rv σ nr k))), (2, .long (iL x)), (7, .long (iL (rv σ nr k))), (0, .ref a), (1, .int (iI nr)), (6, .int (iI k))]) S.1 S.2.1 (pc := 78) dX8_rippleOf_78 hl (by decide) rfl (fun ls hl => ?_)
            refine lv_iinc (v := iI (k + 1)) (lv' := [(6, .int (iI (k + 1))), (4, .long (iL (rv σ nr k))), (2, .long (iL x)), (7, .long (iL (rv σ nr k))), (0, .ref a), (1, .int (iI nr))]) S.1 S.2.1 (pc := 80) dX8_rippleOf_80 hl (k := 5) rfl (iI_add _ _) (by decide) rfl (fun ls hl => ?_)
            refine lv_goto S.1 S.2.1 (pc := 83) (tgt := 8) dX8_rippleOf_83 rfl ?_
            exact absurd c3 (by omega)
          · refine z_lload S (pc := 63) dX8_rippleOf_63 (lv_at hl 1 rfl) ?_
            refine z_lload S (pc := 65) dX8_rippleOf_65 (lv_at hl 4 rfl) ?_
            refine z_lc_le S (pc := 67) (tgt := 76) (by omega) (by omega) dX8_rippleOf_67 dX8_rippleOf_68 rfl (fun c8 => ?_) (fun c8 => ?_)
            · refine z_lload S (pc := 76) dX8_rippleOf_76 (lv_at hl 4 rfl) ?_
              refine lv_lstore (lv' := [(4, .long (iL y)), (2, .long (iL x)), (7, .long (iL (rv σ nr k))), (0, .ref a), (1, .int (iI nr)), (6, .int (iI k))]) S.1 S.2.1 (pc := 78) dX8_rippleOf_78 hl (by decide) rfl (fun ls hl => ?_)
              refine lv_iinc (v := iI (k + 1)) (lv' := [(6, .int (iI (k + 1))), (4, .long (iL y)), (2, .long (iL x)), (7, .long (iL (rv σ nr k))), (0, .ref a), (1, .int (iI nr))]) S.1 S.2.1 (pc := 80) dX8_rippleOf_80 hl (k := 5) rfl (iI_add _ _) (by decide) rfl (fun ls hl => ?_)
              refine lv_goto S.1 S.2.1 (pc := 83) (tgt := 8) dX8_rippleOf_83 rfl ?_
              exact ih (k + 1) x y u2.1 u2.2 (mat σ ρ) (by omega) (by omega) (by omega) res (by have e := (ripL_s (σ := σ) (n := nr) (m := n) (k := k) (a := x) (b := y) (by omega)).symm.trans hres; rw [show (if rv σ nr k < x then rv σ nr k else x) = x from by split <;> omega, show (if rv σ nr k < y then y else rv σ nr k) = y from by split <;> omega] at e; exact e) hx _ _ _ B (lv_sub hl [4, 5, 2, 1, 0] rfl)
            · refine z_lload S (pc := 71) dX8_rippleOf_71 (lv_at hl 1 rfl) ?_
              refine lv_goto S.1 S.2.1 (pc := 73) (tgt := 78) dX8_rippleOf_73 rfl ?_
              refine lv_lstore (lv' := [(4, .long (iL (rv σ nr k))), (2, .long (iL x)), (7, .long (iL (rv σ nr k))), (0, .ref a), (1, .int (iI nr)), (6, .int (iI k))]) S.1 S.2.1 (pc := 78) dX8_rippleOf_78 hl (by decide) rfl (fun ls hl => ?_)
              refine lv_iinc (v := iI (k + 1)) (lv' := [(6, .int (iI (k + 1))), (4, .long (iL (rv σ nr k))), (2, .long (iL x)), (7, .long (iL (rv σ nr k))), (0, .ref a), (1, .int (iI nr))]) S.1 S.2.1 (pc := 80) dX8_rippleOf_80 hl (k := 5) rfl (iI_add _ _) (by decide) rfl (fun ls hl => ?_)
              refine lv_goto S.1 S.2.1 (pc := 83) (tgt := 8) dX8_rippleOf_83 rfl ?_
              exact ih (k + 1) x (rv σ nr k) u2.1 u2.2 (mat σ ρ) (by omega) (by omega) (by omega) res (by have e := (ripL_s (σ := σ) (n := nr) (m := n) (k := k) (a := x) (b := y) (by omega)).symm.trans hres; rw [show (if rv σ nr k < x then rv σ nr k else x) = x from by split <;> omega, show (if rv σ nr k < y then y else rv σ nr k) = rv σ nr k from by split <;> omega] at e; exact e) hx _ _ _ B (lv_sub hl [4, 5, 2, 1, 0] rfl)
        · refine z_lload S (pc := 51) dX8_rippleOf_51 (lv_at hl 0 rfl) ?_
          refine lv_goto S.1 S.2.1 (pc := 53) (tgt := 57) dX8_rippleOf_53 rfl ?_
          refine lv_lstore_n (lv' := [(2, .long (iL (rv σ nr k))), (7, .long (iL (rv σ nr k))), (0, .ref a), (1, .int (iI nr)), (4, .long (iL y)), (6, .int (iI k))]) S.1 S.2.1 (pc := 57) dX8_rippleOf_57 rfl hl (by decide) rfl (fun ls hl => ?_)
          refine z_iload S (pc := 58) dX8_rippleOf_58 (lv_at hl 5 rfl) ?_
          refine z_if_eq S (pc := 60) (tgt := 71) (by omega) dX8_rippleOf_60 rfl (fun c9 => ?_) (fun c9 => ?_)
          · refine z_lload S (pc := 71) dX8_rippleOf_71 (lv_at hl 1 rfl) ?_
            refine lv_goto S.1 S.2.1 (pc := 73) (tgt := 78) dX8_rippleOf_73 rfl ?_
            refine lv_lstore (lv' := [(4, .long (iL (rv σ nr k))), (2, .long (iL (rv σ nr k))), (7, .long (iL (rv σ nr k))), (0, .ref a), (1, .int (iI nr)), (6, .int (iI k))]) S.1 S.2.1 (pc := 78) dX8_rippleOf_78 hl (by decide) rfl (fun ls hl => ?_)
            refine lv_iinc (v := iI (k + 1)) (lv' := [(6, .int (iI (k + 1))), (4, .long (iL (rv σ nr k))), (2, .long (iL (rv σ nr k))), (7, .long (iL (rv σ nr k))), (0, .ref a), (1, .int (iI nr))]) S.1 S.2.1 (pc := 80) dX8_rippleOf_80 hl (k := 5) rfl (iI_add _ _) (by decide) rfl (fun ls hl => ?_)
            refine lv_goto S.1 S.2.1 (pc := 83) (tgt := 8) dX8_rippleOf_83 rfl ?_
            exact absurd c3 (by omega)
          · refine z_lload S (pc := 63) dX8_rippleOf_63 (lv_at hl 1 rfl) ?_
            refine z_lload S (pc := 65) dX8_rippleOf_65 (lv_at hl 4 rfl) ?_
            refine z_lc_le S (pc := 67) (tgt := 76) (by omega) (by omega) dX8_rippleOf_67 dX8_rippleOf_68 rfl (fun c10 => ?_) (fun c10 => ?_)
            · refine z_lload S (pc := 76) dX8_rippleOf_76 (lv_at hl 4 rfl) ?_
              refine lv_lstore (lv' := [(4, .long (iL y)), (2, .long (iL (rv σ nr k))), (7, .long (iL (rv σ nr k))), (0, .ref a), (1, .int (iI nr)), (6, .int (iI k))]) S.1 S.2.1 (pc := 78) dX8_rippleOf_78 hl (by decide) rfl (fun ls hl => ?_)
              refine lv_iinc (v := iI (k + 1)) (lv' := [(6, .int (iI (k + 1))), (4, .long (iL y)), (2, .long (iL (rv σ nr k))), (7, .long (iL (rv σ nr k))), (0, .ref a), (1, .int (iI nr))]) S.1 S.2.1 (pc := 80) dX8_rippleOf_80 hl (k := 5) rfl (iI_add _ _) (by decide) rfl (fun ls hl => ?_)
              refine lv_goto S.1 S.2.1 (pc := 83) (tgt := 8) dX8_rippleOf_83 rfl ?_
              exact ih (k + 1) (rv σ nr k) y u2.1 u2.2 (mat σ ρ) (by omega) (by omega) (by omega) res (by have e := (ripL_s (σ := σ) (n := nr) (m := n) (k := k) (a := x) (b := y) (by omega)).symm.trans hres; rw [show (if rv σ nr k < x then rv σ nr k else x) = rv σ nr k from by split <;> omega, show (if rv σ nr k < y then y else rv σ nr k) = y from by split <;> omega] at e; exact e) hx _ _ _ B (lv_sub hl [4, 5, 2, 1, 0] rfl)
            · refine z_lload S (pc := 71) dX8_rippleOf_71 (lv_at hl 1 rfl) ?_
              refine lv_goto S.1 S.2.1 (pc := 73) (tgt := 78) dX8_rippleOf_73 rfl ?_
              refine lv_lstore (lv' := [(4, .long (iL (rv σ nr k))), (2, .long (iL (rv σ nr k))), (7, .long (iL (rv σ nr k))), (0, .ref a), (1, .int (iI nr)), (6, .int (iI k))]) S.1 S.2.1 (pc := 78) dX8_rippleOf_78 hl (by decide) rfl (fun ls hl => ?_)
              refine lv_iinc (v := iI (k + 1)) (lv' := [(6, .int (iI (k + 1))), (4, .long (iL (rv σ nr k))), (2, .long (iL (rv σ nr k))), (7, .long (iL (rv σ nr k))), (0, .ref a), (1, .int (iI nr))]) S.1 S.2.1 (pc := 80) dX8_rippleOf_80 hl (k := 5) rfl (iI_add _ _) (by decide) rfl (fun ls hl => ?_)
              refine lv_goto S.1 S.2.1 (pc := 83) (tgt := 8) dX8_rippleOf_83 rfl ?_
              exact ih (k + 1) (rv σ nr k) (rv σ nr k) u2.1 u2.2 (mat σ ρ) (by omega) (by omega) (by omega) res (by have e := (ripL_s (σ := σ) (n := nr) (m := n) (k := k) (a := x) (b := y) (by omega)).symm.trans hres; rw [show (if rv σ nr k < x then rv σ nr k else x) = rv σ nr k from by split <;> omega, show (if rv σ nr k < y then y else rv σ nr k) = rv σ nr k from by split <;> omega] at e; exact e) hx _ _ _ B (lv_sub hl [4, 5, 2, 1, 0] rfl)
set_option maxHeartbeats 4000000 in
set_option maxRecDepth 100000 in
theorem mX8_rippleOf (l : Launch) (E : gT) (a : Nat) (p1 : Nat) (p2 : Nat) (p3 : Nat) (p4 : Nat) (p5 : Nat) (p6 : Nat) (σ : Nat → Int) (ρ : Nat → Int) (pm : Int) (ig : Int) (mo : Int) (rd : Int) (wr : Int) (sm : Int) (α : Nat → Int) (nr : Int) (hnr : 1 ≤ nr ∧ nr ≤ 16) (hs : Sets σ) (hn : Nums σ) (h11 : 0 ≤ σ 11 ∧ σ 11 ≤ 1900000000) : Ct l E yX8_rippleOf wsX8_rippleOf 6 147 0 0 [.ref a, .int (iI nr)] [cMod a p1 p2 p3 p4 p5 p6 pm ig mo rd wr sm, cAt E p1 σ ρ, cLon E p2 303 α] (S0 := Int × Int × (Nat → Int)) (fun u0 => True) (fun _ => (some (.long (iL (rip σ nr))))) (fun u0 => [cMod a p1 p2 p3 p4 p5 p6 pm u0.1 u0.2.1 rd wr sm, cAt E p1 σ ρ, cLon E p2 303 u0.2.2]) := by
  refine Ct.mk (cc := cX8_rippleOf) (maxL := 9) (ret := (some .long)) (plainFor_of_name (by decide)) rfl (Nat.le_of_ble_eq_true rfl) ?_
  intro p e s m below meth c A ls H locs S hr hlk hnm B hl
  have S : CallFix p m c cX8_rippleOf 9 s #[.ref a, .int (iI nr)] wsX8_rippleOf RX8 := S
  have hl : lv_has ls 9 [(0, .ref a), (1, .int (iI nr))] := hl
  refine z_lconst S (pc := 0) (x := 0) dX8_rippleOf_0 rfl ?_
  refine lv_lstore_n (lv' := [(2, .long (iL 0)), (0, .ref a), (1, .int (iI nr))]) S.1 S.2.1 (pc := 1) dX8_rippleOf_1 rfl hl (by decide) rfl (fun ls hl => ?_)
  refine z_lconst S (pc := 2) (x := 0) dX8_rippleOf_2 rfl ?_
  refine lv_lstore (lv' := [(4, .long (iL 0)), (2, .long (iL 0)), (0, .ref a), (1, .int (iI nr))]) S.1 S.2.1 (pc := 3) dX8_rippleOf_3 hl (by decide) rfl (fun ls hl => ?_)
  refine z_iconst S (pc := 5) dX8_rippleOf_5 ?_
  refine lv_istore (lv' := [(6, .int (iI 0)), (4, .long (iL 0)), (2, .long (iL 0)), (0, .ref a), (1, .int (iI nr))]) S.1 S.2.1 (pc := 6) dX8_rippleOf_6 hl (by decide) rfl (fun ls hl => ?_)
  obtain ⟨z, hz⟩ : ∃ z, ripL σ nr nr.toNat 0 0 0 = z := ⟨_, rfl⟩
  refine lpX8_rippleOf E S a p1 p2 p3 p4 p5 p6 σ ρ pm rd wr sm nr hs hn h11 hnr nr.toNat 0 0 0 ig mo α (by omega) (by omega) (by omega) z hz (fun u0 H locs ls B hl => ?_) _ _ _ B (lv_sub hl [3, 4, 2, 1, 0] rfl)
  refine z_lload S (pc := 86) dX8_rippleOf_86 (lv_at hl 3 rfl) ?_
  refine z_lload_n S (pc := 88) dX8_rippleOf_88 rfl (lv_at hl 2 rfl) ?_
  refine z_lsub S (pc := 89) dX8_rippleOf_89 ?_
  exact z_lreturn S hr hlk B ⟨u0.1, u0.2.1, u0.2.2⟩ trivial (by unfold rip; rw [hz]) rfl (pc := 90) dX8_rippleOf_90
set_option maxHeartbeats 4000000 in
set_option maxRecDepth 100000 in
theorem mX8_ripple (l : Launch) (E : gT) (a : Nat) (p1 : Nat) (p2 : Nat) (p3 : Nat) (p4 : Nat) (p5 : Nat) (p6 : Nat) (σ : Nat → Int) (ρ : Nat → Int) (pm : Int) (ig : Int) (mo : Int) (rd : Int) (wr : Int) (sm : Int) (α : Nat → Int) (nr : Int) (hnr : 1 ≤ nr ∧ nr ≤ 16) (hs : Sets σ) (hn : Nums σ) (h11 : 0 ≤ σ 11 ∧ σ 11 ≤ 1900000000) : Ct l E yX8_ripple wsX8_ripple 7 175 0 0 [.ref a, .int (iI nr)] [cMod a p1 p2 p3 p4 p5 p6 pm ig mo rd wr sm, cAt E p1 σ ρ, cLon E p2 303 α] (S0 := Int × Int × (Nat → Int)) (fun u0 => True) (fun _ => (some (.long (iL (rip σ nr))))) (fun u0 => [cMod a p1 p2 p3 p4 p5 p6 pm u0.1 u0.2.1 rd wr sm, cAt E p1 σ ρ, cLon E p2 303 u0.2.2]) := by
  refine Ct.mk (cc := cX8_ripple) (maxL := 2) (ret := (some .long)) (plainFor_of_name (by decide)) rfl (Nat.le_of_ble_eq_true rfl) ?_
  intro p e s m below meth c A ls H locs S hr hlk hnm B hl
  have S : CallFix p m c cX8_ripple 2 s #[.ref a, .int (iI nr)] wsX8_ripple RX8 := S
  have hl : lv_has ls 2 [(0, .ref a), (1, .int (iI nr))] := hl
  refine z_iload_n S (pc := 0) dX8_ripple_0 rfl (lv_at hl 1 rfl) ?_
  refine z_i2l S (pc := 1) (by omega) dX8_ripple_1 ?_
  refine z_lconst S (pc := 2) (x := 1) dX8_ripple_2 rfl ?_
  refine z_ldc2 S (pc := 3) (x := 16) (by decide +kernel) rfl dX8_ripple_3 ?_
  refine z_callS S (pc := 6) B (wr := [cMod a p1 p2 p3 p4 p5 p6 pm ig mo rd wr sm, cAt E p1 σ ρ, cLon E p2 303 α]) (wn := fun _ => [cMod a p1 p2 p3 p4 p5 p6 pm ig mo rd wr sm, cAt E p1 σ ρ, cLon E p2 303 α]) (st1 := fun _ => [.int (iI (bI (1 ≤ nr ∧ nr ≤ 16)))]) (As := [.long (iL nr), .long (iL 1), .long (iL 16)]) (mX8_in l E nr 1 16 (show inL nr from by omega) (show inL 1 from by omega) (show inL 16 from by omega)) gX8_ripple_X8_in 3 rfl (by decide +kernel) ⟨Nat.le_of_ble_eq_true rfl, Nat.le_of_ble_eq_true rfl, Nat.le_of_ble_eq_true rfl, Nat.le_of_ble_eq_true rfl⟩ [] [0, 1, 2] [0, 1, 2] rfl rfl ⟨rfl, rfl, rfl, by decide⟩ (fun _ => rfl) rfl (fun _ => rfl) hl.1 (Nat.le_of_ble_eq_true rfl) rfl dX8_ripple_6 (fun _ _ H locs B => ?_)
  refine z_ifeq_b S (pc := 9) (tgt := 20) dX8_ripple_9 rfl (fun c1 => absurd c1 (by omega)) (fun c1 => ?_)
  refine z_aload_n S (pc := 12) dX8_ripple_12 rfl (lv_at hl 0 rfl) ?_
  refine z_iload_n S (pc := 13) dX8_ripple_13 rfl (lv_at hl 1 rfl) ?_
  refine z_callV S (pc := 14) B (wr := []) (wn := fun u2 => [cMod a p1 p2 p3 p4 p5 p6 pm u2.1 u2.2.1 rd wr sm, cAt E p1 σ ρ, cLon E p2 303 u2.2.2]) (st1 := fun _ => [.long (iL (rip σ nr))]) (As := [.int (iI nr)]) (mX8_rippleOf l E a p1 p2 p3 p4 p5 p6 σ ρ pm ig mo rd wr sm α nr (show 1 ≤ nr ∧ nr ≤ 16 from by omega) (show Sets σ from by assumption) (show Nums σ from by assumption) (show 0 ≤ σ 11 ∧ σ 11 ≤ 1900000000 from by omega)) gX8_ripple_X8_rippleOf 1 rfl (by decide +kernel) ⟨Nat.le_of_ble_eq_true rfl, Nat.le_of_ble_eq_true rfl, Nat.le_of_ble_eq_true rfl, Nat.le_of_ble_eq_true rfl⟩ 0 rfl (q := (RX8, TX8, 12)) rfl rfl [0, 1, 2] [] [0, 1, 2] rfl rfl ⟨rfl, rfl, rfl, by decide⟩ (fun _ => rfl) rfl (fun _ => rfl) hl.1 (Nat.le_of_ble_eq_true rfl) rfl dX8_ripple_14 (fun u2 hu2 H locs B => ?_)
  refine lv_goto S.1 S.2.1 (pc := 17) (tgt := 23) dX8_ripple_17 rfl ?_
  exact z_lreturn S hr hlk B ⟨u2.1, u2.2.1, u2.2.2⟩ trivial rfl rfl (pc := 23) dX8_ripple_23
set_option maxHeartbeats 4000000 in
set_option maxRecDepth 100000 in
theorem mX8_ripple_b (l : Launch) (E : gT) (a : Nat) (p1 : Nat) (p2 : Nat) (p3 : Nat) (p4 : Nat) (p5 : Nat) (p6 : Nat) (σ : Nat → Int) (ρ : Nat → Int) (pm : Int) (ig : Int) (mo : Int) (rd : Int) (wr : Int) (sm : Int) (nr : Int) (hI : inI nr) (hbad : (nr < 1 ∨ 16 < nr)) : Cd l E yX8_ripple wsX8_ripple 7 175 0 0 [.ref a, .int (iI nr)] [cMod a p1 p2 p3 p4 p5 p6 pm ig mo rd wr sm] (some (.long (iL (-1000000000000000002)))) [cMod a p1 p2 p3 p4 p5 p6 pm ig mo rd wr sm] := by
  refine Ct.mk (cc := cX8_ripple) (maxL := 2) (ret := (some .long)) (plainFor_of_name (by decide)) rfl (Nat.le_of_ble_eq_true rfl) ?_
  intro p e s m below meth c A ls H locs S hr hlk hnm B hl
  have S : CallFix p m c cX8_ripple 2 s #[.ref a, .int (iI nr)] wsX8_ripple RX8 := S
  have hl : lv_has ls 2 [(0, .ref a), (1, .int (iI nr))] := hl
  refine z_iload_n S (pc := 0) dX8_ripple_0 rfl (lv_at hl 1 rfl) ?_
  refine z_i2l S (pc := 1) (by omega) dX8_ripple_1 ?_
  refine z_lconst S (pc := 2) (x := 1) dX8_ripple_2 rfl ?_
  refine z_ldc2 S (pc := 3) (x := 16) (by decide +kernel) rfl dX8_ripple_3 ?_
  refine z_callS S (pc := 6) B (wr := [cMod a p1 p2 p3 p4 p5 p6 pm ig mo rd wr sm]) (wn := fun _ => [cMod a p1 p2 p3 p4 p5 p6 pm ig mo rd wr sm]) (st1 := fun _ => [.int (iI (bI (1 ≤ nr ∧ nr ≤ 16)))]) (As := [.long (iL nr), .long (iL 1), .long (iL 16)]) (mX8_in l E nr 1 16 (show inL nr from by omega) (show inL 1 from by omega) (show inL 16 from by omega)) gX8_ripple_X8_in 3 rfl (by decide +kernel) ⟨Nat.le_of_ble_eq_true rfl, Nat.le_of_ble_eq_true rfl, Nat.le_of_ble_eq_true rfl, Nat.le_of_ble_eq_true rfl⟩ [] [0] [0] rfl rfl ⟨rfl, rfl, rfl, by decide⟩ (fun _ => rfl) rfl (fun _ => rfl) hl.1 (Nat.le_of_ble_eq_true rfl) rfl dX8_ripple_6 (fun _ _ H locs B => ?_)
  refine z_ifeq_b S (pc := 9) (tgt := 20) dX8_ripple_9 rfl (fun c1 => ?_) (fun c1 => absurd c1 (by omega))
  refine z_ldc2 S (pc := 20) (x := (-1000000000000000002)) (by decide +kernel) rfl dX8_ripple_20 ?_
  exact z_lreturn S hr hlk B () trivial rfl rfl (pc := 23) dX8_ripple_23
theorem iX8_bestWindow_X8 : ∀ w ∈ wsX80, w ∈ wsX8_bestWindow := by decide +kernel
set_option maxHeartbeats 4000000 in
set_option maxRecDepth 100000 in
theorem lpX8_bestWindow {p : Program} {l : Launch} {e : Env} {s : State} {m : MethodId} {args : Array Value} {below : List Frame} {meth : Method} {c : Code} {Q : State → Prop} {A : Nat → Prop} (E : gT) (S : CallFix p m c cX8_bestWindow 12 s args wsX8_bestWindow RX8) (a : Nat) (p1 : Nat) (p2 : Nat) (p3 : Nat) (p4 : Nat) (p5 : Nat) (p6 : Nat) (σ : Nat → Int) (ρ : Nat → Int) (pm : Int) (rd : Int) (wr : Int) (sm : Int) (fi : Int) (sp : Int) (co : Int) (hs : Sets σ) (hn : Nums σ) (h11 : 0 ≤ σ 11 ∧ σ 11 ≤ 1900000000) (hf : 4 ≤ fi ∧ fi ≤ 400) (hsp : 1 ≤ sp ∧ sp ≤ 100) (hco : 1 ≤ co ∧ co ≤ 12) (hmx : fi + (co - 1) * sp ≤ 400) :
    ∀ (n : Nat) (k : Int) (y : Int) (x : Int) (w9 : Int) (ig : Int) (mo : Int) (α : Nat → Int) (hk : 1 ≤ k ∧ k + (n : Int) = co) (hxb : -12000000000 ≤ x ∧ x ≤ 12000000000) (res : Int) (hres : bwL σ fi sp n k y x = res) (hx : ∀ (u0 : Int × Int × (Nat → Int)) (w8 : Int) (H : Heap) (locs : List Loc) (ls : Array Slot), bw E A s H locs [cMod a p1 p2 p3 p4 p5 p6 pm u0.1 u0.2.1 rd wr sm, cAt E p1 (up σ 5 w8) ρ, cLon E p2 303 u0.2.2] → lv_has ls 12 [(0, .ref a), (1, .int (iI fi)), (2, .int (iI sp)), (3, .int (iI co)), (4, .long (iL (σ 5))), (6, .int (iI res))] → W p l e ({ frames := 7, cells := 0, slots := 0, locals := 175 } : Room) s m args below meth c H locs 0 0 Q (F0 m 152 ls [])) (H : Heap) (locs : List Loc) (ls : Array Slot) (B : bw E A s H locs [cMod a p1 p2 p3 p4 p5 p6 pm ig mo rd wr sm, cAt E p1 (up σ 5 w9) ρ, cLon E p2 303 α]) (hl : lv_has ls 12 [(0, .ref a), (1, .int (iI fi)), (2, .int (iI sp)), (3, .int (iI co)), (4, .long (iL (σ 5))), (6, .int (iI y)), (7, .long (iL x)), (9, .int (iI k))]), W p l e ({ frames := 7, cells := 0, slots := 0, locals := 175 } : Room) s m args below meth c H locs 0 0 Q (F0 m 71 ls []) := by
  intro n
  induction n with
  | zero =>
    intro k y x w9 ig mo α hk hxb res hres hx H locs ls B hl
    refine z_iload S (pc := 71) dX8_bestWindow_71 (lv_at hl 7 rfl) ?_
    refine z_iload_n S (pc := 73) dX8_bestWindow_73 rfl (lv_at hl 3 rfl) ?_
    refine z_icmp_ge S (pc := 74) (tgt := 152) (by omega) (by omega) dX8_bestWindow_74 rfl (fun c1 => ?_) (fun c1 => absurd c1 (by omega))
    subst hres
    exact hx ⟨ig, mo, α⟩ w9 _ _ _ B (lv_sub hl [0, 1, 2, 3, 4, 5] rfl)
  | succ n ih =>
    intro k y x w9 ig mo α hk hxb res hres hx H locs ls B hl
    have hm := mono_is (i := k) (c := co) (s := sp) (by omega) (by omega) (by omega)
    rw [Int.mul_comm k sp] at hm
    refine z_iload S (pc := 71) dX8_bestWindow_71 (lv_at hl 7 rfl) ?_
    refine z_iload_n S (pc := 73) dX8_bestWindow_73 rfl (lv_at hl 3 rfl) ?_
    refine z_icmp_ge S (pc := 74) (tgt := 152) (by omega) (by omega) dX8_bestWindow_74 rfl (fun c1 => ?_) (fun c1 => ?_)
    · exact absurd c1 (by omega)
    · refine z_aload_n S (pc := 77) dX8_bestWindow_77 rfl (lv_at hl 0 rfl) ?_
      refine z_get S (pc := 78) B iX8_bestWindow_X8 0 rfl rfl 0 (by decide) rfl rfl (by decide +kernel) dX8_bestWindow_78 ?_
      refine z_iconst S (pc := 81) dX8_bestWindow_81 ?_
      refine z_iload_n S (pc := 82) dX8_bestWindow_82 rfl (lv_at hl 1 rfl) ?_
      refine z_iload_n S (pc := 83) dX8_bestWindow_83 rfl (lv_at hl 2 rfl) ?_
      refine z_iload S (pc := 84) dX8_bestWindow_84 (lv_at hl 7 rfl) ?_
      refine z_imul S (pc := 86) dX8_bestWindow_86 ?_
      refine z_iadd S (pc := 87) dX8_bestWindow_87 ?_
      refine z_i2l S (pc := 88) (by omega) dX8_bestWindow_88 ?_
      refine z_last S (pc := 89) B 1 2 rfl rfl (k := 5) rfl (by decide) (by decide) dX8_bestWindow_89 (wn := [cMod a p1 p2 p3 p4 p5 p6 pm ig mo rd wr sm, cAt E p1 (up σ 5 (fi + (sp * k))) ρ, cLon E p2 303 α]) (by rw [lmu _ _ (by decide), up_up]; rfl) (fun H locs B => ?_)
      have hsw : Sets (up σ 5 (fi + sp * k)) := sets_w (t := σ 11) hs ⟨by omega, by omega⟩
      have hrb := rip_bd (σ := up σ 5 (fi + sp * k)) 8 hsw hn
      have hnw : Nums (up σ 5 (fi + sp * k)) := hn
      refine z_aload_n S (pc := 90) dX8_bestWindow_90 rfl (lv_at hl 0 rfl) ?_
      refine z_bipush S (pc := 91) dX8_bestWindow_91 rfl ?_
      refine z_callV S (pc := 93) B (wr := []) (wn := fun u2 => [cMod a p1 p2 p3 p4 p5 p6 pm u2.1 u2.2.1 rd wr sm, cAt E p1 (up σ 5 (fi + (sp * k))) ρ, cLon E p2 303 u2.2.2]) (st1 := fun _ => [.long (iL (rip (up σ 5 (fi + (sp * k))) 8))]) (As := [.int (iI 8)]) (mX8_rippleOf l E a p1 p2 p3 p4 p5 p6 (up σ 5 (fi + (sp * k))) ρ pm ig mo rd wr sm α 8 (show 1 ≤ 8 ∧ 8 ≤ 16 from by omega) (show Sets (up σ 5 (fi + (sp * k))) from by assumption) (show Nums (up σ 5 (fi + (sp * k))) from by assumption) (show 0 ≤ σ 11 ∧ σ 11 ≤ 1900000000 from by omega)) gX8_bestWindow_X8_rippleOf 1 rfl (by decide +kernel) ⟨Nat.le_of_ble_eq_true rfl, Nat.le_of_ble_eq_true rfl, Nat.le_of_ble_eq_true rfl, Nat.le_of_ble_eq_true rfl⟩ 0 rfl (q := (RX8, TX8, 12)) rfl rfl [0, 1, 2] [] [0, 1, 2] rfl rfl ⟨rfl, rfl, rfl, by decide⟩ (fun _ => rfl) rfl (fun _ => rfl) hl.1 (Nat.le_of_ble_eq_true rfl) rfl dX8_bestWindow_93 (fun u2 hu2 H locs B => ?_)
      refine lv_lstore (lv' := [(10, .long (iL (rip (up σ 5 (fi + (sp * k))) 8))), (0, .ref a), (1, .int (iI fi)), (2, .int (iI sp)), (3, .int (iI co)), (4, .long (iL (σ 5))), (6, .int (iI y)), (7, .long (iL x)), (9, .int (iI k))]) S.1 S.2.1 (pc := 96) dX8_bestWindow_96 hl (by decide) rfl (fun ls hl => ?_)
      refine z_iload S (pc := 98) dX8_bestWindow_98 (lv_at hl 8 rfl) ?_
      refine z_if_le S (pc := 100) (tgt := 120) (by omega) dX8_bestWindow_100 rfl (fun c3 => ?_) (fun c3 => ?_)
      · refine z_iload S (pc := 120) dX8_bestWindow_120 (lv_at hl 6 rfl) ?_
        refine lv_istore (lv' := [(6, .int (iI y)), (10, .long (iL (rip (up σ 5 (fi + (sp * k))) 8))), (0, .ref a), (1, .int (iI fi)), (2, .int (iI sp)), (3, .int (iI co)), (4, .long (iL (σ 5))), (7, .long (iL x)), (9, .int (iI k))]) S.1 S.2.1 (pc := 122) dX8_bestWindow_122 hl (by decide) rfl (fun ls hl => ?_)
        refine z_iload S (pc := 124) dX8_bestWindow_124 (lv_at hl 8 rfl) ?_
        refine z_if_eq S (pc := 126) (tgt := 137) (by omega) dX8_bestWindow_126 rfl (fun c4 => ?_) (fun c4 => ?_)
        · refine z_lload S (pc := 137) dX8_bestWindow_137 (lv_at hl 1 rfl) ?_
          refine lv_goto S.1 S.2.1 (pc := 139) (tgt := 144) dX8_bestWindow_139 rfl ?_
          refine lv_lstore (lv' := [(7, .long (iL (rip (up σ 5 (fi + (sp * k))) 8))), (6, .int (iI y)), (10, .long (iL (rip (up σ 5 (fi + (sp * k))) 8))), (0, .ref a), (1, .int (iI fi)), (2, .int (iI sp)), (3, .int (iI co)), (4, .long (iL (σ 5))), (9, .int (iI k))]) S.1 S.2.1 (pc := 144) dX8_bestWindow_144 hl (by decide) rfl (fun ls hl => ?_)
          refine lv_iinc (v := iI (k + 1)) (lv' := [(9, .int (iI (k + 1))), (7, .long (iL (rip (up σ 5 (fi + (sp * k))) 8))), (6, .int (iI y)), (10, .long (iL (rip (up σ 5 (fi + (sp * k))) 8))), (0, .ref a), (1, .int (iI fi)), (2, .int (iI sp)), (3, .int (iI co)), (4, .long (iL (σ 5)))]) S.1 S.2.1 (pc := 146) dX8_bestWindow_146 hl (k := 8) rfl (iI_add _ _) (by decide) rfl (fun ls hl => ?_)
          refine lv_goto S.1 S.2.1 (pc := 149) (tgt := 71) dX8_bestWindow_149 rfl ?_
          exact absurd c4 (by omega)
        · refine z_lload S (pc := 129) dX8_bestWindow_129 (lv_at hl 1 rfl) ?_
          refine z_lload S (pc := 131) dX8_bestWindow_131 (lv_at hl 7 rfl) ?_
          refine z_lc_ge S (pc := 133) (tgt := 142) (by omega) (by omega) dX8_bestWindow_133 dX8_bestWindow_134 rfl (fun c5 => ?_) (fun c5 => ?_)
          · refine z_lload S (pc := 142) dX8_bestWindow_142 (lv_at hl 7 rfl) ?_
            refine lv_lstore (lv' := [(7, .long (iL x)), (6, .int (iI y)), (10, .long (iL (rip (up σ 5 (fi + (sp * k))) 8))), (0, .ref a), (1, .int (iI fi)), (2, .int (iI sp)), (3, .int (iI co)), (4, .long (iL (σ 5))), (9, .int (iI k))]) S.1 S.2.1 (pc := 144) dX8_bestWindow_144 hl (by decide) rfl (fun ls hl => ?_)
            refine lv_iinc (v := iI (k + 1)) (lv' := [(9, .int (iI (k + 1))), (7, .long (iL x)), (6, .int (iI y)), (10, .long (iL (rip (up σ 5 (fi + (sp * k))) 8))), (0, .ref a), (1, .int (iI fi)), (2, .int (iI sp)), (3, .int (iI co)), (4, .long (iL (σ 5)))]) S.1 S.2.1 (pc := 146) dX8_bestWindow_146 hl (k := 8) rfl (iI_add _ _) (by decide) rfl (fun ls hl => ?_)
            refine lv_goto S.1 S.2.1 (pc := 149) (tgt := 71) dX8_bestWindow_149 rfl ?_
            exact absurd c3 (by omega)
          · refine z_lload S (pc := 137) dX8_bestWindow_137 (lv_at hl 1 rfl) ?_
            refine lv_goto S.1 S.2.1 (pc := 139) (tgt := 144) dX8_bestWindow_139 rfl ?_
            refine lv_lstore (lv' := [(7, .long (iL (rip (up σ 5 (fi + (sp * k))) 8))), (6, .int (iI y)), (10, .long (iL (rip (up σ 5 (fi + (sp * k))) 8))), (0, .ref a), (1, .int (iI fi)), (2, .int (iI sp)), (3, .int (iI co)), (4, .long (iL (σ 5))), (9, .int (iI k))]) S.1 S.2.1 (pc := 144) dX8_bestWindow_144 hl (by decide) rfl (fun ls hl => ?_)
            refine lv_iinc (v := iI (k + 1)) (lv' := [(9, .int (iI (k + 1))), (7, .long (iL (rip (up σ 5 (fi + (sp * k))) 8))), (6, .int (iI y)), (10, .long (iL (rip (up σ 5 (fi + (sp * k))) 8))), (0, .ref a), (1, .int (iI fi)), (2, .int (iI sp)), (3, .int (iI co)), (4, .long (iL (σ 5)))]) S.1 S.2.1 (pc := 146) dX8_bestWindow_146 hl (k := 8) rfl (iI_add _ _) (by decide) rfl (fun ls hl => ?_)
            refine lv_goto S.1 S.2.1 (pc := 149) (tgt := 71) dX8_bestWindow_149 rfl ?_
            exact absurd c3 (by omega)
      · refine z_lload S (pc := 103) dX8_bestWindow_103 (lv_at hl 0 rfl) ?_
        refine z_lload S (pc := 105) dX8_bestWindow_105 (lv_at hl 7 rfl) ?_
        refine z_lc_ge S (pc := 107) (tgt := 120) (by omega) (by omega) dX8_bestWindow_107 dX8_bestWindow_108 rfl (fun c6 => ?_) (fun c6 => ?_)
        · refine z_iload S (pc := 120) dX8_bestWindow_120 (lv_at hl 6 rfl) ?_
          refine lv_istore (lv' := [(6, .int (iI y)), (10, .long (iL (rip (up σ 5 (fi + (sp * k))) 8))), (0, .ref a), (1, .int (iI fi)), (2, .int (iI sp)), (3, .int (iI co)), (4, .long (iL (σ 5))), (7, .long (iL x)), (9, .int (iI k))]) S.1 S.2.1 (pc := 122) dX8_bestWindow_122 hl (by decide) rfl (fun ls hl => ?_)
          refine z_iload S (pc := 124) dX8_bestWindow_124 (lv_at hl 8 rfl) ?_
          refine z_if_eq S (pc := 126) (tgt := 137) (by omega) dX8_bestWindow_126 rfl (fun c7 => ?_) (fun c7 => ?_)
          · refine z_lload S (pc := 137) dX8_bestWindow_137 (lv_at hl 1 rfl) ?_
            refine lv_goto S.1 S.2.1 (pc := 139) (tgt := 144) dX8_bestWindow_139 rfl ?_
            refine lv_lstore (lv' := [(7, .long (iL (rip (up σ 5 (fi + (sp * k))) 8))), (6, .int (iI y)), (10, .long (iL (rip (up σ 5 (fi + (sp * k))) 8))), (0, .ref a), (1, .int (iI fi)), (2, .int (iI sp)), (3, .int (iI co)), (4, .long (iL (σ 5))), (9, .int (iI k))]) S.1 S.2.1 (pc := 144) dX8_bestWindow_144 hl (by decide) rfl (fun ls hl => ?_)
            refine lv_iinc (v := iI (k + 1)) (lv' := [(9, .int (iI (k + 1))), (7, .long (iL (rip (up σ 5 (fi + (sp * k))) 8))), (6, .int (iI y)), (10, .long (iL (rip (up σ 5 (fi + (sp * k))) 8))), (0, .ref a), (1, .int (iI fi)), (2, .int (iI sp)), (3, .int (iI co)), (4, .long (iL (σ 5)))]) S.1 S.2.1 (pc := 146) dX8_bestWindow_146 hl (k := 8) rfl (iI_add _ _) (by decide) rfl (fun ls hl => ?_)
            refine lv_goto S.1 S.2.1 (pc := 149) (tgt := 71) dX8_bestWindow_149 rfl ?_
            exact absurd c7 (by omega)
          · refine z_lload S (pc := 129) dX8_bestWindow_129 (lv_at hl 1 rfl) ?_
            refine z_lload S (pc := 131) dX8_bestWindow_131 (lv_at hl 7 rfl) ?_
            refine z_lc_ge S (pc := 133) (tgt := 142) (by omega) (by omega) dX8_bestWindow_133 dX8_bestWindow_134 rfl (fun c8 => ?_) (fun c8 => ?_)
            · refine z_lload S (pc := 142) dX8_bestWindow_142 (lv_at hl 7 rfl) ?_
              refine lv_lstore (lv' := [(7, .long (iL x)), (6, .int (iI y)), (10, .long (iL (rip (up σ 5 (fi + (sp * k))) 8))), (0, .ref a), (1, .int (iI fi)), (2, .int (iI sp)), (3, .int (iI co)), (4, .long (iL (σ 5))), (9, .int (iI k))]) S.1 S.2.1 (pc := 144) dX8_bestWindow_144 hl (by decide) rfl (fun ls hl => ?_)
              refine lv_iinc (v := iI (k + 1)) (lv' := [(9, .int (iI (k + 1))), (7, .long (iL x)), (6, .int (iI y)), (10, .long (iL (rip (up σ 5 (fi + (sp * k))) 8))), (0, .ref a), (1, .int (iI fi)), (2, .int (iI sp)), (3, .int (iI co)), (4, .long (iL (σ 5)))]) S.1 S.2.1 (pc := 146) dX8_bestWindow_146 hl (k := 8) rfl (iI_add _ _) (by decide) rfl (fun ls hl => ?_)
              refine lv_goto S.1 S.2.1 (pc := 149) (tgt := 71) dX8_bestWindow_149 rfl ?_
              skip
              exact ih (k + 1) y x (fi + (sp * k)) u2.1 u2.2.1 u2.2.2 (by omega) (by omega) res (by have e : bwL σ fi sp (n + 1) k y x = res := hres; simp only [bwL] at e; rw [Int.mul_comm k sp] at e; rw [if_neg (by omega)] at e; exact e) hx _ _ _ B (lv_sub hl [4, 5, 6, 7, 8, 2, 1, 0] rfl)
            · refine z_lload S (pc := 137) dX8_bestWindow_137 (lv_at hl 1 rfl) ?_
              refine lv_goto S.1 S.2.1 (pc := 139) (tgt := 144) dX8_bestWindow_139 rfl ?_
              refine lv_lstore (lv' := [(7, .long (iL (rip (up σ 5 (fi + (sp * k))) 8))), (6, .int (iI y)), (10, .long (iL (rip (up σ 5 (fi + (sp * k))) 8))), (0, .ref a), (1, .int (iI fi)), (2, .int (iI sp)), (3, .int (iI co)), (4, .long (iL (σ 5))), (9, .int (iI k))]) S.1 S.2.1 (pc := 144) dX8_bestWindow_144 hl (by decide) rfl (fun ls hl => ?_)
              refine lv_iinc (v := iI (k + 1)) (lv' := [(9, .int (iI (k + 1))), (7, .long (iL (rip (up σ 5 (fi + (sp * k))) 8))), (6, .int (iI y)), (10, .long (iL (rip (up σ 5 (fi + (sp * k))) 8))), (0, .ref a), (1, .int (iI fi)), (2, .int (iI sp)), (3, .int (iI co)), (4, .long (iL (σ 5)))]) S.1 S.2.1 (pc := 146) dX8_bestWindow_146 hl (k := 8) rfl (iI_add _ _) (by decide) rfl (fun ls hl => ?_)
              refine lv_goto S.1 S.2.1 (pc := 149) (tgt := 71) dX8_bestWindow_149 rfl ?_
              exact absurd c6 (by omega)
        · refine z_iload_n S (pc := 111) dX8_bestWindow_111 rfl (lv_at hl 2 rfl) ?_
          refine z_iload_n S (pc := 112) dX8_bestWindow_112 rfl (lv_at hl 3 rfl) ?_
          refine z_iload S (pc := 113) dX8_bestWindow_113 (lv_at hl 8 rfl) ?_
          refine z_imul S (pc := 115) dX8_bestWindow_115 ?_
          refine z_iadd S (pc := 116) dX8_bestWindow_116 ?_
          refine lv_goto S.1 S.2.1 (pc := 117) (tgt := 122) dX8_bestWindow_117 rfl ?_
          refine lv_istore (lv' := [(6, .int (iI (fi + (sp * k)))), (10, .long (iL (rip (up σ 5 (fi + (sp * k))) 8))), (0, .ref a), (1, .int (iI fi)), (2, .int (iI sp)), (3, .int (iI co)), (4, .long (iL (σ 5))), (7, .long (iL x)), (9, .int (iI k))]) S.1 S.2.1 (pc := 122) dX8_bestWindow_122 hl (by decide) rfl (fun ls hl => ?_)
          refine z_iload S (pc := 124) dX8_bestWindow_124 (lv_at hl 8 rfl) ?_
          refine z_if_eq S (pc := 126) (tgt := 137) (by omega) dX8_bestWindow_126 rfl (fun c9 => ?_) (fun c9 => ?_)
          · refine z_lload S (pc := 137) dX8_bestWindow_137 (lv_at hl 1 rfl) ?_
            refine lv_goto S.1 S.2.1 (pc := 139) (tgt := 144) dX8_bestWindow_139 rfl ?_
            refine lv_lstore (lv' := [(7, .long (iL (rip (up σ 5 (fi + (sp * k))) 8))), (6, .int (iI (fi + (sp * k)))), (10, .long (iL (rip (up σ 5 (fi + (sp * k))) 8))), (0, .ref a), (1, .int (iI fi)), (2, .int (iI sp)), (3, .int (iI co)), (4, .long (iL (σ 5))), (9, .int (iI k))]) S.1 S.2.1 (pc := 144) dX8_bestWindow_144 hl (by decide) rfl (fun ls hl => ?_)
            refine lv_iinc (v := iI (k + 1)) (lv' := [(9, .int (iI (k + 1))), (7, .long (iL (rip (up σ 5 (fi + (sp * k))) 8))), (6, .int (iI (fi + (sp * k)))), (10, .long (iL (rip (up σ 5 (fi + (sp * k))) 8))), (0, .ref a), (1, .int (iI fi)), (2, .int (iI sp)), (3, .int (iI co)), (4, .long (iL (σ 5)))]) S.1 S.2.1 (pc := 146) dX8_bestWindow_146 hl (k := 8) rfl (iI_add _ _) (by decide) rfl (fun ls hl => ?_)
            refine lv_goto S.1 S.2.1 (pc := 149) (tgt := 71) dX8_bestWindow_149 rfl ?_
            exact absurd c9 (by omega)
          · refine z_lload S (pc := 129) dX8_bestWindow_129 (lv_at hl 1 rfl) ?_
            refine z_lload S (pc := 131) dX8_bestWindow_131 (lv_at hl 7 rfl) ?_
            refine z_lc_ge S (pc := 133) (tgt := 142) (by omega) (by omega) dX8_bestWindow_133 dX8_bestWindow_134 rfl (fun c10 => ?_) (fun c10 => ?_)
            · refine z_lload S (pc := 142) dX8_bestWindow_142 (lv_at hl 7 rfl) ?_
              refine lv_lstore (lv' := [(7, .long (iL x)), (6, .int (iI (fi + (sp * k)))), (10, .long (iL (rip (up σ 5 (fi + (sp * k))) 8))), (0, .ref a), (1, .int (iI fi)), (2, .int (iI sp)), (3, .int (iI co)), (4, .long (iL (σ 5))), (9, .int (iI k))]) S.1 S.2.1 (pc := 144) dX8_bestWindow_144 hl (by decide) rfl (fun ls hl => ?_)
              refine lv_iinc (v := iI (k + 1)) (lv' := [(9, .int (iI (k + 1))), (7, .long (iL x)), (6, .int (iI (fi + (sp * k)))), (10, .long (iL (rip (up σ 5 (fi + (sp * k))) 8))), (0, .ref a), (1, .int (iI fi)), (2, .int (iI sp)), (3, .int (iI co)), (4, .long (iL (σ 5)))]) S.1 S.2.1 (pc := 146) dX8_bestWindow_146 hl (k := 8) rfl (iI_add _ _) (by decide) rfl (fun ls hl => ?_)
              refine lv_goto S.1 S.2.1 (pc := 149) (tgt := 71) dX8_bestWindow_149 rfl ?_
              exact absurd c6 (by omega)
            · refine z_lload S (pc := 137) dX8_bestWindow_137 (lv_at hl 1 rfl) ?_
              refine lv_goto S.1 S.2.1 (pc := 139) (tgt := 144) dX8_bestWindow_139 rfl ?_
              refine lv_lstore (lv' := [(7, .long (iL (rip (up σ 5 (fi + (sp * k))) 8))), (6, .int (iI (fi + (sp * k)))), (10, .long (iL (rip (up σ 5 (fi + (sp * k))) 8))), (0, .ref a), (1, .int (iI fi)), (2, .int (iI sp)), (3, .int (iI co)), (4, .long (iL (σ 5))), (9, .int (iI k))]) S.1 S.2.1 (pc := 144) dX8_bestWindow_144 hl (by decide) rfl (fun ls hl => ?_)
              refine lv_iinc (v := iI (k + 1)) (lv' := [(9, .int (iI (k + 1))), (7, .long (iL (rip (up σ 5 (fi + (sp * k))) 8))), (6, .int (iI (fi + (sp * k)))), (10, .long (iL (rip (up σ 5 (fi + (sp * k))) 8))), (0, .ref a), (1, .int (iI fi)), (2, .int (iI sp)), (3, .int (iI co)), (4, .long (iL (σ 5)))]) S.1 S.2.1 (pc := 146) dX8_bestWindow_146 hl (k := 8) rfl (iI_add _ _) (by decide) rfl (fun ls hl => ?_)
              refine lv_goto S.1 S.2.1 (pc := 149) (tgt := 71) dX8_bestWindow_149 rfl ?_
              skip
              exact ih (k + 1) (fi + (sp * k)) (rip (up σ 5 (fi + (sp * k))) 8) (fi + (sp * k)) u2.1 u2.2.1 u2.2.2 (by omega) (by omega) res (by have e : bwL σ fi sp (n + 1) k y x = res := hres; simp only [bwL] at e; rw [Int.mul_comm k sp] at e; rw [if_pos (by omega)] at e; exact e) hx _ _ _ B (lv_sub hl [4, 5, 6, 7, 8, 2, 1, 0] rfl)
set_option maxHeartbeats 4000000 in
set_option maxRecDepth 100000 in
theorem mX8_bestWindow (l : Launch) (E : gT) (a : Nat) (p1 : Nat) (p2 : Nat) (p3 : Nat) (p4 : Nat) (p5 : Nat) (p6 : Nat) (σ : Nat → Int) (ρ : Nat → Int) (pm : Int) (ig : Int) (mo : Int) (rd : Int) (wr : Int) (sm : Int) (α : Nat → Int) (fi : Int) (sp : Int) (co : Int) (hf : 4 ≤ fi ∧ fi ≤ 400) (hsp : 1 ≤ sp ∧ sp ≤ 100) (hco : 1 ≤ co ∧ co ≤ 12) (hmx : fi + (co - 1) * sp ≤ 400) (hs : Sets σ) (hn : Nums σ) (h11 : 0 ≤ σ 11 ∧ σ 11 ≤ 1900000000) : Ct l E yX8_bestWindow wsX8_bestWindow 7 175 0 0 [.ref a, .int (iI fi), .int (iI sp), .int (iI co)] [cMod a p1 p2 p3 p4 p5 p6 pm ig mo rd wr sm, cAt E p1 σ ρ, cLon E p2 303 α] (S0 := Int × Int × (Nat → Int)) (fun u0 => True) (fun _ => (some (.int (iI (bwL σ fi sp (co - 1).toNat 1 fi (rip (up σ 5 fi) 8)))))) (fun u0 => [cMod a p1 p2 p3 p4 p5 p6 pm u0.1 u0.2.1 rd wr sm, cAt E p1 σ ρ, cLon E p2 303 u0.2.2]) := by
  refine Ct.mk (cc := cX8_bestWindow) (maxL := 12) (ret := (some .int)) (plainFor_of_name (by decide)) rfl (Nat.le_of_ble_eq_true rfl) ?_
  intro p e s m below meth c A ls H locs S hr hlk hnm B hl
  have S : CallFix p m c cX8_bestWindow 12 s #[.ref a, .int (iI fi), .int (iI sp), .int (iI co)] wsX8_bestWindow RX8 := S
  have hl : lv_has ls 12 [(0, .ref a), (1, .int (iI fi)), (2, .int (iI sp)), (3, .int (iI co))] := hl
  have hm0 := mono_is (i := co - 1) (c := co) (s := sp) (by omega) (by omega) (by omega)
  rw [Int.mul_comm (co - 1) sp] at hm0
  have hmx2 := hmx
  rw [Int.mul_comm (co - 1) sp] at hmx2
  refine z_iload_n S (pc := 0) dX8_bestWindow_0 rfl (lv_at hl 1 rfl) ?_
  refine z_i2l S (pc := 1) (by omega) dX8_bestWindow_1 ?_
  refine z_ldc2 S (pc := 2) (x := 4) (by decide +kernel) rfl dX8_bestWindow_2 ?_
  refine z_ldc2 S (pc := 5) (x := 400) (by decide +kernel) rfl dX8_bestWindow_5 ?_
  refine z_callS S (pc := 8) B (wr := [cMod a p1 p2 p3 p4 p5 p6 pm ig mo rd wr sm, cAt E p1 σ ρ, cLon E p2 303 α]) (wn := fun _ => [cMod a p1 p2 p3 p4 p5 p6 pm ig mo rd wr sm, cAt E p1 σ ρ, cLon E p2 303 α]) (st1 := fun _ => [.int (iI (bI (4 ≤ fi ∧ fi ≤ 400)))]) (As := [.long (iL fi), .long (iL 4), .long (iL 400)]) (mX8_in l E fi 4 400 (show inL fi from by omega) (show inL 4 from by omega) (show inL 400 from by omega)) gX8_bestWindow_X8_in 3 rfl (by decide +kernel) ⟨Nat.le_of_ble_eq_true rfl, Nat.le_of_ble_eq_true rfl, Nat.le_of_ble_eq_true rfl, Nat.le_of_ble_eq_true rfl⟩ [] [0, 1, 2] [0, 1, 2] rfl rfl ⟨rfl, rfl, rfl, by decide⟩ (fun _ => rfl) rfl (fun _ => rfl) hl.1 (Nat.le_of_ble_eq_true rfl) rfl dX8_bestWindow_8 (fun _ _ H locs B => ?_)
  refine z_ifeq_b S (pc := 11) (tgt := 51) dX8_bestWindow_11 rfl (fun c1 => absurd c1 (by omega)) (fun c1 => ?_)
  refine z_iload_n S (pc := 14) dX8_bestWindow_14 rfl (lv_at hl 2 rfl) ?_
  refine z_i2l S (pc := 15) (by omega) dX8_bestWindow_15 ?_
  refine z_lconst S (pc := 16) (x := 1) dX8_bestWindow_16 rfl ?_
  refine z_ldc2 S (pc := 17) (x := 100) (by decide +kernel) rfl dX8_bestWindow_17 ?_
  refine z_callS S (pc := 20) B (wr := [cMod a p1 p2 p3 p4 p5 p6 pm ig mo rd wr sm, cAt E p1 σ ρ, cLon E p2 303 α]) (wn := fun _ => [cMod a p1 p2 p3 p4 p5 p6 pm ig mo rd wr sm, cAt E p1 σ ρ, cLon E p2 303 α]) (st1 := fun _ => [.int (iI (bI (1 ≤ sp ∧ sp ≤ 100)))]) (As := [.long (iL sp), .long (iL 1), .long (iL 100)]) (mX8_in l E sp 1 100 (show inL sp from by omega) (show inL 1 from by omega) (show inL 100 from by omega)) gX8_bestWindow_X8_in 3 rfl (by decide +kernel) ⟨Nat.le_of_ble_eq_true rfl, Nat.le_of_ble_eq_true rfl, Nat.le_of_ble_eq_true rfl, Nat.le_of_ble_eq_true rfl⟩ [] [0, 1, 2] [0, 1, 2] rfl rfl ⟨rfl, rfl, rfl, by decide⟩ (fun _ => rfl) rfl (fun _ => rfl) hl.1 (Nat.le_of_ble_eq_true rfl) rfl dX8_bestWindow_20 (fun _ _ H locs B => ?_)
  refine z_ifeq_b S (pc := 23) (tgt := 51) dX8_bestWindow_23 rfl (fun c2 => absurd c2 (by omega)) (fun c2 => ?_)
  refine z_iload_n S (pc := 26) dX8_bestWindow_26 rfl (lv_at hl 3 rfl) ?_
  refine z_i2l S (pc := 27) (by omega) dX8_bestWindow_27 ?_
  refine z_lconst S (pc := 28) (x := 1) dX8_bestWindow_28 rfl ?_
  refine z_ldc2 S (pc := 29) (x := 12) (by decide +kernel) rfl dX8_bestWindow_29 ?_
  refine z_callS S (pc := 32) B (wr := [cMod a p1 p2 p3 p4 p5 p6 pm ig mo rd wr sm, cAt E p1 σ ρ, cLon E p2 303 α]) (wn := fun _ => [cMod a p1 p2 p3 p4 p5 p6 pm ig mo rd wr sm, cAt E p1 σ ρ, cLon E p2 303 α]) (st1 := fun _ => [.int (iI (bI (1 ≤ co ∧ co ≤ 12)))]) (As := [.long (iL co), .long (iL 1), .long (iL 12)]) (mX8_in l E co 1 12 (show inL co from by omega) (show inL 1 from by omega) (show inL 12 from by omega)) gX8_bestWindow_X8_in 3 rfl (by decide +kernel) ⟨Nat.le_of_ble_eq_true rfl, Nat.le_of_ble_eq_true rfl, Nat.le_of_ble_eq_true rfl, Nat.le_of_ble_eq_true rfl⟩ [] [0, 1, 2] [0, 1, 2] rfl rfl ⟨rfl, rfl, rfl, by decide⟩ (fun _ => rfl) rfl (fun _ => rfl) hl.1 (Nat.le_of_ble_eq_true rfl) rfl dX8_bestWindow_32 (fun _ _ H locs B => ?_)
  refine z_ifeq_b S (pc := 35) (tgt := 51) dX8_bestWindow_35 rfl (fun c3 => absurd c3 (by omega)) (fun c3 => ?_)
  refine z_iload_n S (pc := 38) dX8_bestWindow_38 rfl (lv_at hl 1 rfl) ?_
  refine z_iload_n S (pc := 39) dX8_bestWindow_39 rfl (lv_at hl 2 rfl) ?_
  refine z_iload_n S (pc := 40) dX8_bestWindow_40 rfl (lv_at hl 3 rfl) ?_
  refine z_iconst S (pc := 41) dX8_bestWindow_41 ?_
  refine z_isub S (pc := 42) dX8_bestWindow_42 ?_
  refine z_imul S (pc := 43) dX8_bestWindow_43 ?_
  refine z_iadd S (pc := 44) dX8_bestWindow_44 ?_
  refine z_sipush S (pc := 45) dX8_bestWindow_45 rfl ?_
  refine z_icmp_le S (pc := 48) (tgt := 54) (by omega) (by omega) dX8_bestWindow_48 rfl (fun c4 => ?_) (fun c4 => absurd c4 (by omega))
  refine z_aload_n S (pc := 54) dX8_bestWindow_54 rfl (lv_at hl 0 rfl) ?_
  refine z_get S (pc := 55) B iX8_bestWindow_X8 0 rfl rfl 0 (by decide) rfl rfl (by decide +kernel) dX8_bestWindow_55 ?_
  refine z_iconst S (pc := 58) dX8_bestWindow_58 ?_
  refine z_lald S (pc := 59) B 1 2 rfl rfl (k := 5) rfl (by decide) (by decide) (v := .long (iL (σ 5))) rfl dX8_bestWindow_59 ?_
  refine lv_lstore (lv' := [(4, .long (iL (σ 5))), (0, .ref a), (1, .int (iI fi)), (2, .int (iI sp)), (3, .int (iI co))]) S.1 S.2.1 (pc := 60) dX8_bestWindow_60 hl (by decide) rfl (fun ls hl => ?_)
  refine z_iload_n S (pc := 62) dX8_bestWindow_62 rfl (lv_at hl 2 rfl) ?_
  refine lv_istore (lv' := [(6, .int (iI fi)), (4, .long (iL (σ 5))), (0, .ref a), (1, .int (iI fi)), (2, .int (iI sp)), (3, .int (iI co))]) S.1 S.2.1 (pc := 63) dX8_bestWindow_63 hl (by decide) rfl (fun ls hl => ?_)
  refine z_lconst S (pc := 65) (x := 0) dX8_bestWindow_65 rfl ?_
  refine lv_lstore (lv' := [(7, .long (iL 0)), (6, .int (iI fi)), (4, .long (iL (σ 5))), (0, .ref a), (1, .int (iI fi)), (2, .int (iI sp)), (3, .int (iI co))]) S.1 S.2.1 (pc := 66) dX8_bestWindow_66 hl (by decide) rfl (fun ls hl => ?_)
  refine z_iconst S (pc := 68) dX8_bestWindow_68 ?_
  refine lv_istore (lv' := [(9, .int (iI 0)), (7, .long (iL 0)), (6, .int (iI fi)), (4, .long (iL (σ 5))), (0, .ref a), (1, .int (iI fi)), (2, .int (iI sp)), (3, .int (iI co))]) S.1 S.2.1 (pc := 69) dX8_bestWindow_69 hl (by decide) rfl (fun ls hl => ?_)
  refine z_iload S (pc := 71) dX8_bestWindow_71 (lv_at hl 0 rfl) ?_
  refine z_iload_n S (pc := 73) dX8_bestWindow_73 rfl (lv_at hl 7 rfl) ?_
  refine z_icmp_ge S (pc := 74) (tgt := 152) (by omega) (by omega) dX8_bestWindow_74 rfl (fun c5 => absurd c5 (by omega)) (fun c5 => ?_)
  refine z_aload_n S (pc := 77) dX8_bestWindow_77 rfl (lv_at hl 4 rfl) ?_
  refine z_get S (pc := 78) B iX8_bestWindow_X8 0 rfl rfl 0 (by decide) rfl rfl (by decide +kernel) dX8_bestWindow_78 ?_
  refine z_iconst S (pc := 81) dX8_bestWindow_81 ?_
  refine z_iload_n S (pc := 82) dX8_bestWindow_82 rfl (lv_at hl 5 rfl) ?_
  refine z_iload_n S (pc := 83) dX8_bestWindow_83 rfl (lv_at hl 6 rfl) ?_
  refine z_iload S (pc := 84) dX8_bestWindow_84 (lv_at hl 0 rfl) ?_
  refine z_imul S (pc := 86) dX8_bestWindow_86 ?_
  refine z_iadd S (pc := 87) dX8_bestWindow_87 ?_
  refine z_i2l S (pc := 88) (by omega) dX8_bestWindow_88 ?_
  refine z_last S (pc := 89) B 1 2 rfl rfl (k := 5) rfl (by decide) (by decide) dX8_bestWindow_89 (wn := [cMod a p1 p2 p3 p4 p5 p6 pm ig mo rd wr sm, cAt E p1 (up σ 5 fi) ρ, cLon E p2 303 α]) (by rw [lmu _ _ (by decide), show fi + sp * 0 = fi from by omega]; rfl) (fun H locs B => ?_)
  have hsw : Sets (up σ 5 fi) := sets_w (t := σ 11) hs hf
  have hrb := rip_bd (σ := up σ 5 fi) 8 hsw hn
  have hnw : Nums (up σ 5 fi) := hn
  refine z_aload_n S (pc := 90) dX8_bestWindow_90 rfl (lv_at hl 4 rfl) ?_
  refine z_bipush S (pc := 91) dX8_bestWindow_91 rfl ?_
  refine z_callV S (pc := 93) B (wr := []) (wn := fun u6 => [cMod a p1 p2 p3 p4 p5 p6 pm u6.1 u6.2.1 rd wr sm, cAt E p1 (up σ 5 fi) ρ, cLon E p2 303 u6.2.2]) (st1 := fun _ => [.long (iL (rip (up σ 5 fi) 8))]) (As := [.int (iI 8)]) (mX8_rippleOf l E a p1 p2 p3 p4 p5 p6 (up σ 5 fi) ρ pm ig mo rd wr sm α 8 (show 1 ≤ 8 ∧ 8 ≤ 16 from by omega) (show Sets (up σ 5 fi) from by assumption) (show Nums (up σ 5 fi) from by assumption) (show 0 ≤ σ 11 ∧ σ 11 ≤ 1900000000 from by omega)) gX8_bestWindow_X8_rippleOf 1 rfl (by decide +kernel) ⟨Nat.le_of_ble_eq_true rfl, Nat.le_of_ble_eq_true rfl, Nat.le_of_ble_eq_true rfl, Nat.le_of_ble_eq_true rfl⟩ 0 rfl (q := (RX8, TX8, 12)) rfl rfl [0, 1, 2] [] [0, 1, 2] rfl rfl ⟨rfl, rfl, rfl, by decide⟩ (fun _ => rfl) rfl (fun _ => rfl) hl.1 (Nat.le_of_ble_eq_true rfl) rfl dX8_bestWindow_93 (fun u6 hu6 H locs B => ?_)
  refine lv_lstore (lv' := [(10, .long (iL (rip (up σ 5 fi) 8))), (9, .int (iI 0)), (7, .long (iL 0)), (6, .int (iI fi)), (4, .long (iL (σ 5))), (0, .ref a), (1, .int (iI fi)), (2, .int (iI sp)), (3, .int (iI co))]) S.1 S.2.1 (pc := 96) dX8_bestWindow_96 hl (by decide) rfl (fun ls hl => ?_)
  refine z_iload S (pc := 98) dX8_bestWindow_98 (lv_at hl 1 rfl) ?_
  refine z_if_le S (pc := 100) (tgt := 120) (by omega) dX8_bestWindow_100 rfl (fun c7 => ?_) (fun c7 => absurd c7 (by omega))
  refine z_iload S (pc := 120) dX8_bestWindow_120 (lv_at hl 3 rfl) ?_
  refine lv_istore (lv' := [(6, .int (iI fi)), (10, .long (iL (rip (up σ 5 fi) 8))), (9, .int (iI 0)), (7, .long (iL 0)), (4, .long (iL (σ 5))), (0, .ref a), (1, .int (iI fi)), (2, .int (iI sp)), (3, .int (iI co))]) S.1 S.2.1 (pc := 122) dX8_bestWindow_122 hl (by decide) rfl (fun ls hl => ?_)
  refine z_iload S (pc := 124) dX8_bestWindow_124 (lv_at hl 2 rfl) ?_
  refine z_if_eq S (pc := 126) (tgt := 137) (by omega) dX8_bestWindow_126 rfl (fun c8 => ?_) (fun c8 => absurd c8 (by omega))
  refine z_lload S (pc := 137) dX8_bestWindow_137 (lv_at hl 1 rfl) ?_
  refine lv_goto S.1 S.2.1 (pc := 139) (tgt := 144) dX8_bestWindow_139 rfl ?_
  refine lv_lstore (lv' := [(7, .long (iL (rip (up σ 5 fi) 8))), (6, .int (iI fi)), (10, .long (iL (rip (up σ 5 fi) 8))), (9, .int (iI 0)), (4, .long (iL (σ 5))), (0, .ref a), (1, .int (iI fi)), (2, .int (iI sp)), (3, .int (iI co))]) S.1 S.2.1 (pc := 144) dX8_bestWindow_144 hl (by decide) rfl (fun ls hl => ?_)
  refine lv_iinc (v := iI (1)) (lv' := [(9, .int (iI 1)), (7, .long (iL (rip (up σ 5 fi) 8))), (6, .int (iI fi)), (10, .long (iL (rip (up σ 5 fi) 8))), (4, .long (iL (σ 5))), (0, .ref a), (1, .int (iI fi)), (2, .int (iI sp)), (3, .int (iI co))]) S.1 S.2.1 (pc := 146) dX8_bestWindow_146 hl (k := 3) rfl (by decide) (by decide) rfl (fun ls hl => ?_)
  refine lv_goto S.1 S.2.1 (pc := 149) (tgt := 71) dX8_bestWindow_149 rfl ?_
  obtain ⟨z, hz⟩ : ∃ z, bwL σ fi sp (co - 1).toNat 1 fi (rip (up σ 5 fi) 8) = z := ⟨_, rfl⟩
  refine lpX8_bestWindow E S a p1 p2 p3 p4 p5 p6 σ ρ pm rd wr sm fi sp co hs hn h11 hf hsp hco hmx (co - 1).toNat 1 fi (rip (up σ 5 fi) 8) fi u6.1 u6.2.1 u6.2.2 (by omega) (by omega) z hz (fun u0 w8 H locs ls B hl => ?_) _ _ _ B (lv_sub hl [5, 6, 7, 8, 4, 2, 1, 0] rfl)
  refine z_aload_n S (pc := 152) dX8_bestWindow_152 rfl (lv_at hl 0 rfl) ?_
  refine z_get S (pc := 153) B iX8_bestWindow_X8 0 rfl rfl 0 (by decide) rfl rfl (by decide +kernel) dX8_bestWindow_153 ?_
  refine z_iconst S (pc := 156) dX8_bestWindow_156 ?_
  refine z_lload S (pc := 157) dX8_bestWindow_157 (lv_at hl 4 rfl) ?_
  refine z_last S (pc := 159) B 1 2 rfl rfl (k := 5) rfl (by decide) (by decide) dX8_bestWindow_159 (wn := [cMod a p1 p2 p3 p4 p5 p6 pm u0.1 u0.2.1 rd wr sm, cAt E p1 σ ρ, cLon E p2 303 u0.2.2]) (by rw [lmu _ _ (by decide), up_up, up_self]; rfl) (fun H locs B => ?_)
  refine z_iload S (pc := 160) dX8_bestWindow_160 (lv_at hl 5 rfl) ?_
  exact z_ireturn S hr hlk B ⟨u0.1, u0.2.1, u0.2.2⟩ trivial (by rw [hz]) rfl (pc := 162) dX8_bestWindow_162
set_option maxHeartbeats 4000000 in
set_option maxRecDepth 100000 in
theorem mX8_bestWindow_b (l : Launch) (E : gT) (a : Nat) (p1 : Nat) (p2 : Nat) (p3 : Nat) (p4 : Nat) (p5 : Nat) (p6 : Nat) (σ : Nat → Int) (ρ : Nat → Int) (pm : Int) (ig : Int) (mo : Int) (rd : Int) (wr : Int) (sm : Int) (fi : Int) (sp : Int) (co : Int) (hI : inI fi ∧ inI sp ∧ inI co) (hbad : (fi < 4 ∨ 400 < fi ∨ sp < 1 ∨ 100 < sp ∨ co < 1 ∨ 12 < co ∨ 400 < fi + (co - 1) * sp)) : Cd l E yX8_bestWindow wsX8_bestWindow 7 175 0 0 [.ref a, .int (iI fi), .int (iI sp), .int (iI co)] [cMod a p1 p2 p3 p4 p5 p6 pm ig mo rd wr sm] (some (.int (iI (-2)))) [cMod a p1 p2 p3 p4 p5 p6 pm ig mo rd wr sm] := by
  refine Ct.mk (cc := cX8_bestWindow) (maxL := 12) (ret := (some .int)) (plainFor_of_name (by decide)) rfl (Nat.le_of_ble_eq_true rfl) ?_
  intro p e s m below meth c A ls H locs S hr hlk hnm B hl
  have S : CallFix p m c cX8_bestWindow 12 s #[.ref a, .int (iI fi), .int (iI sp), .int (iI co)] wsX8_bestWindow RX8 := S
  have hl : lv_has ls 12 [(0, .ref a), (1, .int (iI fi)), (2, .int (iI sp)), (3, .int (iI co))] := hl
  refine z_iload_n S (pc := 0) dX8_bestWindow_0 rfl (lv_at hl 1 rfl) ?_
  refine z_i2l S (pc := 1) (by omega) dX8_bestWindow_1 ?_
  refine z_ldc2 S (pc := 2) (x := 4) (by decide +kernel) rfl dX8_bestWindow_2 ?_
  refine z_ldc2 S (pc := 5) (x := 400) (by decide +kernel) rfl dX8_bestWindow_5 ?_
  refine z_callS S (pc := 8) B (wr := [cMod a p1 p2 p3 p4 p5 p6 pm ig mo rd wr sm]) (wn := fun _ => [cMod a p1 p2 p3 p4 p5 p6 pm ig mo rd wr sm]) (st1 := fun _ => [.int (iI (bI (4 ≤ fi ∧ fi ≤ 400)))]) (As := [.long (iL fi), .long (iL 4), .long (iL 400)]) (mX8_in l E fi 4 400 (show inL fi from by omega) (show inL 4 from by omega) (show inL 400 from by omega)) gX8_bestWindow_X8_in 3 rfl (by decide +kernel) ⟨Nat.le_of_ble_eq_true rfl, Nat.le_of_ble_eq_true rfl, Nat.le_of_ble_eq_true rfl, Nat.le_of_ble_eq_true rfl⟩ [] [0] [0] rfl rfl ⟨rfl, rfl, rfl, by decide⟩ (fun _ => rfl) rfl (fun _ => rfl) hl.1 (Nat.le_of_ble_eq_true rfl) rfl dX8_bestWindow_8 (fun _ _ H locs B => ?_)
  refine z_ifeq_b S (pc := 11) (tgt := 51) dX8_bestWindow_11 rfl (fun c1 => ?_) (fun c1 => ?_)
  · refine z_bipush S (pc := 51) dX8_bestWindow_51 rfl ?_
    exact z_ireturn S hr hlk B () trivial rfl rfl (pc := 53) dX8_bestWindow_53
  · refine z_iload_n S (pc := 14) dX8_bestWindow_14 rfl (lv_at hl 2 rfl) ?_
    refine z_i2l S (pc := 15) (by omega) dX8_bestWindow_15 ?_
    refine z_lconst S (pc := 16) (x := 1) dX8_bestWindow_16 rfl ?_
    refine z_ldc2 S (pc := 17) (x := 100) (by decide +kernel) rfl dX8_bestWindow_17 ?_
    refine z_callS S (pc := 20) B (wr := [cMod a p1 p2 p3 p4 p5 p6 pm ig mo rd wr sm]) (wn := fun _ => [cMod a p1 p2 p3 p4 p5 p6 pm ig mo rd wr sm]) (st1 := fun _ => [.int (iI (bI (1 ≤ sp ∧ sp ≤ 100)))]) (As := [.long (iL sp), .long (iL 1), .long (iL 100)]) (mX8_in l E sp 1 100 (show inL sp from by omega) (show inL 1 from by omega) (show inL 100 from by omega)) gX8_bestWindow_X8_in 3 rfl (by decide +kernel) ⟨Nat.le_of_ble_eq_true rfl, Nat.le_of_ble_eq_true rfl, Nat.le_of_ble_eq_true rfl, Nat.le_of_ble_eq_true rfl⟩ [] [0] [0] rfl rfl ⟨rfl, rfl, rfl, by decide⟩ (fun _ => rfl) rfl (fun _ => rfl) hl.1 (Nat.le_of_ble_eq_true rfl) rfl dX8_bestWindow_20 (fun _ _ H locs B => ?_)
    refine z_ifeq_b S (pc := 23) (tgt := 51) dX8_bestWindow_23 rfl (fun c2 => ?_) (fun c2 => ?_)
    · refine z_bipush S (pc := 51) dX8_bestWindow_51 rfl ?_
      exact z_ireturn S hr hlk B () trivial rfl rfl (pc := 53) dX8_bestWindow_53
    · refine z_iload_n S (pc := 26) dX8_bestWindow_26 rfl (lv_at hl 3 rfl) ?_
      refine z_i2l S (pc := 27) (by omega) dX8_bestWindow_27 ?_
      refine z_lconst S (pc := 28) (x := 1) dX8_bestWindow_28 rfl ?_
      refine z_ldc2 S (pc := 29) (x := 12) (by decide +kernel) rfl dX8_bestWindow_29 ?_
      refine z_callS S (pc := 32) B (wr := [cMod a p1 p2 p3 p4 p5 p6 pm ig mo rd wr sm]) (wn := fun _ => [cMod a p1 p2 p3 p4 p5 p6 pm ig mo rd wr sm]) (st1 := fun _ => [.int (iI (bI (1 ≤ co ∧ co ≤ 12)))]) (As := [.long (iL co), .long (iL 1), .long (iL 12)]) (mX8_in l E co 1 12 (show inL co from by omega) (show inL 1 from by omega) (show inL 12 from by omega)) gX8_bestWindow_X8_in 3 rfl (by decide +kernel) ⟨Nat.le_of_ble_eq_true rfl, Nat.le_of_ble_eq_true rfl, Nat.le_of_ble_eq_true rfl, Nat.le_of_ble_eq_true rfl⟩ [] [0] [0] rfl rfl ⟨rfl, rfl, rfl, by decide⟩ (fun _ => rfl) rfl (fun _ => rfl) hl.1 (Nat.le_of_ble_eq_true rfl) rfl dX8_bestWindow_32 (fun _ _ H locs B => ?_)
      refine z_ifeq_b S (pc := 35) (tgt := 51) dX8_bestWindow_35 rfl (fun c3 => ?_) (fun c3 => ?_)
      · refine z_bipush S (pc := 51) dX8_bestWindow_51 rfl ?_
        exact z_ireturn S hr hlk B () trivial rfl rfl (pc := 53) dX8_bestWindow_53
      · have hm0 := mul_bd2 (a := co - 1) (x := sp) (M := 11) (X := 100) (by omega) (by omega) (by omega) (by omega)
        rw [Int.mul_comm (co - 1) sp] at hm0 hbad
        refine z_iload_n S (pc := 38) dX8_bestWindow_38 rfl (lv_at hl 1 rfl) ?_
        refine z_iload_n S (pc := 39) dX8_bestWindow_39 rfl (lv_at hl 2 rfl) ?_
        refine z_iload_n S (pc := 40) dX8_bestWindow_40 rfl (lv_at hl 3 rfl) ?_
        refine z_iconst S (pc := 41) dX8_bestWindow_41 ?_
        refine z_isub S (pc := 42) dX8_bestWindow_42 ?_
        refine z_imul S (pc := 43) dX8_bestWindow_43 ?_
        refine z_iadd S (pc := 44) dX8_bestWindow_44 ?_
        refine z_sipush S (pc := 45) dX8_bestWindow_45 rfl ?_
        refine z_icmp_le S (pc := 48) (tgt := 54) (by omega) (by omega) dX8_bestWindow_48 rfl (fun c4 => ?_) (fun c4 => ?_)
        · exact absurd hbad (by omega)
        · refine z_bipush S (pc := 51) dX8_bestWindow_51 rfl ?_
          exact z_ireturn S hr hlk B () trivial rfl rfl (pc := 53) dX8_bestWindow_53
/-! END mod 4 -/
