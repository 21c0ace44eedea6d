set_option linter.unusedVariables false
set_option maxHeartbeats 4000000 in
set_option maxRecDepth 100000 in
theorem lpX8_order {p : Program} {l : Launch} {e : Env} {s : State} {m : MethodId} {args : Array Value} {below : List Frame} {meth : Method} {c : Code} {Q : State → Prop} {A : Nat → Prop} (E : gT) (S : CallFix p m c cX8_order 11 s args wsX8_order RX8) (a : Nat) (p1 : Nat) (p2 : Nat) (p3 : Nat) (p4 : Nat) (p5 : Nat) (p6 : Nat) (σ : Nat → Int) (ρ : Nat → Int) (pm : Int) (rd : Int) (wr : Int) (sm : Int) (fi : Int) (sp : Int) (co : Int) (wh : Int) (hs : Sets σ) (hn : Nums σ) (h11 : 0 ≤ σ 11 ∧ σ 11 ≤ 1900000000) (hf : -3000000 ≤ fi ∧ fi ≤ 3000000) (hsp : 1 ≤ sp ∧ sp ≤ 100000) (hco : 2 ≤ co ∧ co ≤ 40) (hmx : fi + (co - 1) * sp ≤ 3000000) (hwh : 0 ≤ wh ∧ wh ≤ 1) :
    ∀ (n : Nat) (k : Int) (bf : Int) (x : Int) (ig : Int) (mo : Int) (α : Nat → Int) (hk : 1 ≤ k ∧ k + (n : Int) = co) (hbb : -6000000000 ≤ bf ∧ bf ≤ 6000000000) (hxb : 0 ≤ x ∧ x ≤ k) (res : Int) (hres : orL σ fi sp wh n k bf x = res) (hx : ∀ (u0 : Int × Int × (Nat → Int)) (H : Heap) (locs : List Loc) (ls : Array Slot), bw E A s H locs [cMod a p1 p2 p3 p4 p5 p6 pm u0.1 u0.2.1 rd wr sm, cAt E p1 σ ρ, cLon E p2 303 u0.2.2] → lv_has ls 11 [(0, .ref a), (1, .int (iI fi)), (2, .int (iI sp)), (3, .int (iI co)), (4, .int (iI wh)), (5, .int (iI res))] → W p l e ({ frames := 6, cells := 0, slots := 0, locals := 147 } : Room) s m args below meth c H locs 0 0 Q (F0 m 143 ls [])) (H : Heap) (locs : List Loc) (ls : Array Slot) (B : bw E A s H locs [cMod a p1 p2 p3 p4 p5 p6 pm ig mo rd wr sm, cAt E p1 σ ρ, cLon E p2 303 α]) (hl : lv_has ls 11 [(0, .ref a), (1, .int (iI fi)), (2, .int (iI sp)), (3, .int (iI co)), (4, .int (iI wh)), (5, .int (iI x)), (6, .long (iL bf)), (8, .int (iI k))]), W p l e ({ frames := 6, cells := 0, slots := 0, locals := 147 } : Room) s m args below meth c H locs 0 0 Q (F0 m 74 ls []) := by
  intro n
  induction n with
  | zero =>
    intro k bf x ig mo α hk hbb hxb res hres hx H locs ls B hl
    refine z_iload S (pc := 74) dX8_order_74 (lv_at hl 7 rfl) ?_
    refine z_iload_n S (pc := 76) dX8_order_76 rfl (lv_at hl 3 rfl) ?_
    refine z_icmp_ge S (pc := 77) (tgt := 143) (by omega) (by omega) dX8_order_77 rfl (fun c1 => ?_) (fun c1 => absurd c1 (by omega))
    subst hres
    exact hx ⟨ig, mo, α⟩ _ _ _ B (lv_sub hl [0, 1, 2, 3, 4, 5] rfl)
  | succ n ih =>
    intro k bf x ig mo α hk hbb hxb res hres hx H locs ls B hl
    have hm := mono_is (i := k) (c := co) (s := sp) (by omega) (by omega) (by omega)
    rw [Int.mul_comm k sp] at hm
    have hvb := vwl_bd (v := fi + sp * k) hs hn ⟨by omega, by omega⟩
    refine z_iload S (pc := 74) dX8_order_74 (lv_at hl 7 rfl) ?_
    refine z_iload_n S (pc := 76) dX8_order_76 rfl (lv_at hl 3 rfl) ?_
    refine z_icmp_ge S (pc := 77) (tgt := 143) (by omega) (by omega) dX8_order_77 rfl (fun c1 => ?_) (fun c1 => ?_)
    · exact absurd c1 (by omega)
    · refine z_aload_n S (pc := 80) dX8_order_80 rfl (lv_at hl 0 rfl) ?_
      refine z_lconst S (pc := 81) (x := 0) dX8_order_81 rfl ?_
      refine z_iload_n S (pc := 82) dX8_order_82 rfl (lv_at hl 1 rfl) ?_
      refine z_iload_n S (pc := 83) dX8_order_83 rfl (lv_at hl 2 rfl) ?_
      refine z_iload S (pc := 84) dX8_order_84 (lv_at hl 7 rfl) ?_
      refine z_imul S (pc := 86) dX8_order_86 ?_
      refine z_iadd S (pc := 87) dX8_order_87 ?_
      refine z_i2l S (pc := 88) (by omega) dX8_order_88 ?_
      have hs2 : Sets (up (up σ 11 (σ 11 + 0)) 0 (fi + sp * k)) := sets_tl hs (by omega)
      refine z_callV S (pc := 89) B (wr := []) (wn := fun u2 => [cMod a p1 p2 p3 p4 p5 p6 pm u2.1 u2.2 rd wr sm, cAt E p1 σ ρ, cLon E p2 303 (mat σ ρ)]) (st1 := fun _ => [.long (iL (val0 (rz (up (up σ 11 (σ 11 + 0)) 0 (fi + (sp * k))))))]) (As := [.long (iL 0), .long (iL (fi + (sp * k)))]) (mX8_tryReading l E a p1 p2 p3 p4 p5 p6 σ ρ pm ig mo rd wr sm α 0 (fi + (sp * k)) (show Sets (up (up σ 11 (σ 11 + 0)) 0 (fi + (sp * k))) from by assumption) (show Nums σ from by assumption) (show 0 ≤ σ 11 ∧ σ 11 ≤ 1900000000 from by omega) (show 0 ≤ 0 ∧ 0 ≤ 1000000 from by omega)) gX8_order_X8_tryReading 2 rfl (by decide +kernel) ⟨Nat.le_of_ble_eq_true rfl, Nat.le_of_ble_eq_true rfl, Nat.le_of_ble_eq_true rfl, Nat.le_of_ble_eq_true rfl⟩ 0 rfl (q := (RX8, TX8, 12)) rfl rfl [0, 1, 2] [] [0, 1, 2] rfl rfl ⟨rfl, rfl, rfl, by decide⟩ (fun _ => rfl) rfl (fun _ => rfl) hl.1 (Nat.le_of_ble_eq_true rfl) rfl dX8_order_89 (fun u2 hu2 H locs B => ?_)
      rw [show (val0 (rz (up (up σ 11 (σ 11 + 0)) 0 (fi + (sp * k)))) : Int) = vwl σ (fi + sp * k) from vwl_m σ _]
      refine lv_lstore (lv' := [(9, .long (iL (vwl σ (fi + sp * k)))), (0, .ref a), (1, .int (iI fi)), (2, .int (iI sp)), (3, .int (iI co)), (4, .int (iI wh)), (5, .int (iI x)), (6, .long (iL bf)), (8, .int (iI k))]) S.1 S.2.1 (pc := 92) dX8_order_92 hl (by decide) rfl (fun ls hl => ?_)
      refine z_iload S (pc := 94) dX8_order_94 (lv_at hl 6 rfl) ?_
      refine z_iload S (pc := 96) dX8_order_96 (lv_at hl 5 rfl) ?_
      refine z_if_ne S (pc := 98) (tgt := 117) (by omega) dX8_order_98 rfl (fun c3 => ?_) (fun c3 => ?_)
      · refine z_lload S (pc := 117) dX8_order_117 (lv_at hl 0 rfl) ?_
        refine z_lload S (pc := 119) dX8_order_119 (lv_at hl 7 rfl) ?_
        refine z_lc_ne S (pc := 121) (tgt := 129) (by omega) (by omega) dX8_order_121 dX8_order_122 rfl (fun c4 => ?_) (fun c4 => ?_)
        · refine z_iconst S (pc := 129) dX8_order_129 ?_
          refine z_iadd S (pc := 130) dX8_order_130 ?_
          refine lv_istore (lv' := [(5, .int (iI (x + 0))), (9, .long (iL (vwl σ (fi + sp * k)))), (0, .ref a), (1, .int (iI fi)), (2, .int (iI sp)), (3, .int (iI co)), (4, .int (iI wh)), (6, .long (iL bf)), (8, .int (iI k))]) S.1 S.2.1 (pc := 131) dX8_order_131 hl (by decide) rfl (fun ls hl => ?_)
          refine z_lload S (pc := 133) dX8_order_133 (lv_at hl 1 rfl) ?_
          refine lv_lstore (lv' := [(6, .long (iL (vwl σ (fi + sp * k)))), (5, .int (iI (x + 0))), (9, .long (iL (vwl σ (fi + sp * k)))), (0, .ref a), (1, .int (iI fi)), (2, .int (iI sp)), (3, .int (iI co)), (4, .int (iI wh)), (8, .int (iI k))]) S.1 S.2.1 (pc := 135) dX8_order_135 hl (by decide) rfl (fun ls hl => ?_)
          refine lv_iinc (v := iI (k + 1)) (lv' := [(8, .int (iI (k + 1))), (6, .long (iL (vwl σ (fi + sp * k)))), (5, .int (iI (x + 0))), (9, .long (iL (vwl σ (fi + sp * k)))), (0, .ref a), (1, .int (iI fi)), (2, .int (iI sp)), (3, .int (iI co)), (4, .int (iI wh))]) S.1 S.2.1 (pc := 137) dX8_order_137 hl (k := 8) rfl (iI_add _ _) (by decide) rfl (fun ls hl => ?_)
          refine lv_goto S.1 S.2.1 (pc := 140) (tgt := 74) dX8_order_140 rfl ?_
          have hp : ¬ (if wh = 0 then vwl σ (fi + sp * k) < bf else vwl σ (fi + sp * k) = bf) := by rw [if_neg (show ¬ wh = 0 from by omega)]; omega
          have ek : sp * k = k * sp := Int.mul_comm sp k
          have ex : x + 0 = x := by omega
          rw [ex] at hl
          exact ih (k + 1) (vwl σ (fi + sp * k)) (x) u2.1 u2.2 (mat σ ρ) (by omega) (by omega) (by omega) res (by have e : orL σ fi sp wh (n + 1) k bf x = res := hres; simp only [orL] at e; rw [← ek] at e; rw [if_neg hp] at e; exact e) hx _ _ _ B (lv_sub hl [4, 5, 6, 7, 8, 2, 1, 0] rfl)
        · refine z_iconst S (pc := 125) dX8_order_125 ?_
          refine lv_goto S.1 S.2.1 (pc := 126) (tgt := 130) dX8_order_126 rfl ?_
          refine z_iadd S (pc := 130) dX8_order_130 ?_
          refine lv_istore (lv' := [(5, .int (iI (x + 1))), (9, .long (iL (vwl σ (fi + sp * k)))), (0, .ref a), (1, .int (iI fi)), (2, .int (iI sp)), (3, .int (iI co)), (4, .int (iI wh)), (6, .long (iL bf)), (8, .int (iI k))]) S.1 S.2.1 (pc := 131) dX8_order_131 hl (by decide) rfl (fun ls hl => ?_)
          refine z_lload S (pc := 133) dX8_order_133 (lv_at hl 1 rfl) ?_
          refine lv_lstore (lv' := [(6, .long (iL (vwl σ (fi + sp * k)))), (5, .int (iI (x + 1))), (9, .long (iL (vwl σ (fi + sp * k)))), (0, .ref a), (1, .int (iI fi)), (2, .int (iI sp)), (3, .int (iI co)), (4, .int (iI wh)), (8, .int (iI k))]) S.1 S.2.1 (pc := 135) dX8_order_135 hl (by decide) rfl (fun ls hl => ?_)
          refine lv_iinc (v := iI (k + 1)) (lv' := [(8, .int (iI (k + 1))), (6, .long (iL (vwl σ (fi + sp * k)))), (5, .int (iI (x + 1))), (9, .long (iL (vwl σ (fi + sp * k)))), (0, .ref a), (1, .int (iI fi)), (2, .int (iI sp)), (3, .int (iI co)), (4, .int (iI wh))]) S.1 S.2.1 (pc := 137) dX8_order_137 hl (k := 8) rfl (iI_add _ _) (by decide) rfl (fun ls hl => ?_)
          refine lv_goto S.1 S.2.1 (pc := 140) (tgt := 74) dX8_order_140 rfl ?_
          have hp : (if wh = 0 then vwl σ (fi + sp * k) < bf else vwl σ (fi + sp * k) = bf) := by rw [if_neg (show ¬ wh = 0 from by omega)]; omega
          have ek : sp * k = k * sp := Int.mul_comm sp k
          have ex : x + 1 = x + 1 := by omega
          clear ex
          exact ih (k + 1) (vwl σ (fi + sp * k)) (x + 1) u2.1 u2.2 (mat σ ρ) (by omega) (by omega) (by omega) res (by have e : orL σ fi sp wh (n + 1) k bf x = res := hres; simp only [orL] at e; rw [← ek] at e; rw [if_pos hp] at e; exact e) hx _ _ _ B (lv_sub hl [4, 5, 6, 7, 8, 2, 1, 0] rfl)
      · refine z_lload S (pc := 101) dX8_order_101 (lv_at hl 0 rfl) ?_
        refine z_lload S (pc := 103) dX8_order_103 (lv_at hl 7 rfl) ?_
        refine z_lc_ge S (pc := 105) (tgt := 113) (by omega) (by omega) dX8_order_105 dX8_order_106 rfl (fun c5 => ?_) (fun c5 => ?_)
        · refine z_iconst S (pc := 113) dX8_order_113 ?_
          refine lv_goto S.1 S.2.1 (pc := 114) (tgt := 130) dX8_order_114 rfl ?_
          refine z_iadd S (pc := 130) dX8_order_130 ?_
          refine lv_istore (lv' := [(5, .int (iI (x + 0))), (9, .long (iL (vwl σ (fi + sp * k)))), (0, .ref a), (1, .int (iI fi)), (2, .int (iI sp)), (3, .int (iI co)), (4, .int (iI wh)), (6, .long (iL bf)), (8, .int (iI k))]) S.1 S.2.1 (pc := 131) dX8_order_131 hl (by decide) rfl (fun ls hl => ?_)
          refine z_lload S (pc := 133) dX8_order_133 (lv_at hl 1 rfl) ?_
          refine lv_lstore (lv' := [(6, .long (iL (vwl σ (fi + sp * k)))), (5, .int (iI (x + 0))), (9, .long (iL (vwl σ (fi + sp * k)))), (0, .ref a), (1, .int (iI fi)), (2, .int (iI sp)), (3, .int (iI co)), (4, .int (iI wh)), (8, .int (iI k))]) S.1 S.2.1 (pc := 135) dX8_order_135 hl (by decide) rfl (fun ls hl => ?_)
          refine lv_iinc (v := iI (k + 1)) (lv' := [(8, .int (iI (k + 1))), (6, .long (iL (vwl σ (fi + sp * k)))), (5, .int (iI (x + 0))), (9, .long (iL (vwl σ (fi + sp * k)))), (0, .ref a), (1, .int (iI fi)), (2, .int (iI sp)), (3, .int (iI co)), (4, .int (iI wh))]) S.1 S.2.1 (pc := 137) dX8_order_137 hl (k := 8) rfl (iI_add _ _) (by decide) rfl (fun ls hl => ?_)
          refine lv_goto S.1 S.2.1 (pc := 140) (tgt := 74) dX8_order_140 rfl ?_
          have hp : ¬ (if wh = 0 then vwl σ (fi + sp * k) < bf else vwl σ (fi + sp * k) = bf) := by rw [if_pos (show wh = 0 from by omega)]; omega
          have ek : sp * k = k * sp := Int.mul_comm sp k
          have ex : x + 0 = x := by omega
          rw [ex] at hl
          exact ih (k + 1) (vwl σ (fi + sp * k)) (x) u2.1 u2.2 (mat σ ρ) (by omega) (by omega) (by omega) res (by have e : orL σ fi sp wh (n + 1) k bf x = res := hres; simp only [orL] at e; rw [← ek] at e; rw [if_neg hp] at e; exact e) hx _ _ _ B (lv_sub hl [4, 5, 6, 7, 8, 2, 1, 0] rfl)
        · refine z_iconst S (pc := 109) dX8_order_109 ?_
          refine lv_goto S.1 S.2.1 (pc := 110) (tgt := 130) dX8_order_110 rfl ?_
          refine z_iadd S (pc := 130) dX8_order_130 ?_
          refine lv_istore (lv' := [(5, .int (iI (x + 1))), (9, .long (iL (vwl σ (fi + sp * k)))), (0, .ref a), (1, .int (iI fi)), (2, .int (iI sp)), (3, .int (iI co)), (4, .int (iI wh)), (6, .long (iL bf)), (8, .int (iI k))]) S.1 S.2.1 (pc := 131) dX8_order_131 hl (by decide) rfl (fun ls hl => ?_)
          refine z_lload S (pc := 133) dX8_order_133 (lv_at hl 1 rfl) ?_
          refine lv_lstore (lv' := [(6, .long (iL (vwl σ (fi + sp * k)))), (5, .int (iI (x + 1))), (9, .long (iL (vwl σ (fi + sp * k)))), (0, .ref a), (1, .int (iI fi)), (2, .int (iI sp)), (3, .int (iI co)), (4, .int (iI wh)), (8, .int (iI k))]) S.1 S.2.1 (pc := 135) dX8_order_135 hl (by decide) rfl (fun ls hl => ?_)
          refine lv_iinc (v := iI (k + 1)) (lv' := [(8, .int (iI (k + 1))), (6, .long (iL (vwl σ (fi + sp * k)))), (5, .int (iI (x + 1))), (9, .long (iL (vwl σ (fi + sp * k)))), (0, .ref a), (1, .int (iI fi)), (2, .int (iI sp)), (3, .int (iI co)), (4, .int (iI wh))]) S.1 S.2.1 (pc := 137) dX8_order_137 hl (k := 8) rfl (iI_add _ _) (by decide) rfl (fun ls hl => ?_)
          refine lv_goto S.1 S.2.1 (pc := 140) (tgt := 74) dX8_order_140 rfl ?_
          have hp : (if wh = 0 then vwl σ (fi + sp * k) < bf else vwl σ (fi + sp * k) = bf) := by rw [if_pos (show wh = 0 from by omega)]; omega
          have ek : sp * k = k * sp := Int.mul_comm sp k
          have ex : x + 1 = x + 1 := by omega
          clear ex
          exact ih (k + 1) (vwl σ (fi + sp * k)) (x + 1) u2.1 u2.2 (mat σ ρ) (by omega) (by omega) (by omega) res (by have e : orL σ fi sp wh (n + 1) k bf x = res := hres; simp only [orL] at e; rw [← ek] at e; rw [if_pos hp] at e; exact e) hx _ _ _ B (lv_sub hl [4, 5, 6, 7, 8, 2, 1, 0] rfl)
set_option maxHeartbeats 4000000 in
set_option maxRecDepth 100000 in
theorem mX8_order (l : Launch) (E : gT) (a : Nat) (p1 : Nat) (p2 : Nat) (p3 : Nat) (p4 : Nat) (p5 : Nat) (p6 : Nat) (σ : Nat → Int) (ρ : Nat → Int) (pm : Int) (ig : Int) (mo : Int) (rd : Int) (wr : Int) (sm : Int) (α : Nat → Int) (fi : Int) (sp : Int) (co : Int) (wh : Int) (hf : -3000000 ≤ fi ∧ fi ≤ 3000000) (hsp : 1 ≤ sp ∧ sp ≤ 100000) (hco : 2 ≤ co ∧ co ≤ 40) (hmx : fi + (co - 1) * sp ≤ 3000000) (hwh : 0 ≤ wh ∧ wh ≤ 1) (hs : Sets σ) (hn : Nums σ) (h11 : 0 ≤ σ 11 ∧ σ 11 ≤ 1900000000) : Ct l E yX8_order wsX8_order 6 147 0 0 [.ref a, .int (iI fi), .int (iI sp), .int (iI co), .int (iI wh)] [cMod a p1 p2 p3 p4 p5 p6 pm ig mo rd wr sm, cAt E p1 σ ρ, cLon E p2 303 α] (S0 := Int × Int × (Nat → Int)) (fun u0 => True) (fun _ => (some (.int (iI (orL σ fi sp wh (co - 1).toNat 1 (vwl σ fi) 0))))) (fun u0 => [cMod a p1 p2 p3 p4 p5 p6 pm u0.1 u0.2.1 rd wr sm, cAt E p1 σ ρ, cLon E p2 303 u0.2.2]) := by
  refine Ct.mk (cc := cX8_order) (maxL := 11) (ret := (some .int)) (plainFor_of_name (by decide)) rfl (Nat.le_of_ble_eq_true rfl) ?_
  intro p e s m below meth c A ls H locs S hr hlk hnm B hl
  have S : CallFix p m c cX8_order 11 s #[.ref a, .int (iI fi), .int (iI sp), .int (iI co), .int (iI wh)] wsX8_order RX8 := S
  have hl : lv_has ls 11 [(0, .ref a), (1, .int (iI fi)), (2, .int (iI sp)), (3, .int (iI co)), (4, .int (iI wh))] := hl
  have hm0 := mono_is (i := co - 1) (c := co) (s := sp) (by omega) (by omega) (by omega)
  rw [Int.mul_comm (co - 1) sp] at hm0
  have hmx2 := hmx
  rw [Int.mul_comm (co - 1) sp] at hmx2
  have hvb := vwl_bd (v := fi) hs hn hf
  refine z_iload_n S (pc := 0) dX8_order_0 rfl (lv_at hl 1 rfl) ?_
  refine z_callS S (pc := 1) B (wr := [cMod a p1 p2 p3 p4 p5 p6 pm ig mo rd wr sm, cAt E p1 σ ρ, cLon E p2 303 α]) (wn := fun _ => [cMod a p1 p2 p3 p4 p5 p6 pm ig mo rd wr sm, cAt E p1 σ ρ, cLon E p2 303 α]) (st1 := fun _ => [.int (iI (bI ((-3000000) ≤ fi ∧ fi ≤ 3000000)))]) (As := [.int (iI fi)]) (mX8_isLevel l E fi (show inI fi from by omega)) gX8_order_X8_isLevel 1 rfl (by decide +kernel) ⟨Nat.le_of_ble_eq_true rfl, Nat.le_of_ble_eq_true rfl, Nat.le_of_ble_eq_true rfl, Nat.le_of_ble_eq_true rfl⟩ [] [0, 1, 2] [0, 1, 2] rfl rfl ⟨rfl, rfl, rfl, by decide⟩ (fun _ => rfl) rfl (fun _ => rfl) hl.1 (Nat.le_of_ble_eq_true rfl) rfl dX8_order_1 (fun _ _ H locs B => ?_)
  refine z_ifeq_b S (pc := 4) (tgt := 56) dX8_order_4 rfl (fun c1 => absurd c1 (by omega)) (fun c1 => ?_)
  refine z_iload_n S (pc := 7) dX8_order_7 rfl (lv_at hl 2 rfl) ?_
  refine z_i2l S (pc := 8) (by omega) dX8_order_8 ?_
  refine z_lconst S (pc := 9) (x := 1) dX8_order_9 rfl ?_
  refine z_ldc2 S (pc := 10) (x := 100000) (by decide +kernel) rfl dX8_order_10 ?_
  refine z_callS S (pc := 13) B (wr := [cMod a p1 p2 p3 p4 p5 p6 pm ig mo rd wr sm, cAt E p1 σ ρ, cLon E p2 303 α]) (wn := fun _ => [cMod a p1 p2 p3 p4 p5 p6 pm ig mo rd wr sm, cAt E p1 σ ρ, cLon E p2 303 α]) (st1 := fun _ => [.int (iI (bI (1 ≤ sp ∧ sp ≤ 100000)))]) (As := [.long (iL sp), .long (iL 1), .long (iL 100000)]) (mX8_in l E sp 1 100000 (show inL sp from by omega) (show inL 1 from by omega) (show inL 100000 from by omega)) gX8_order_X8_in 3 rfl (by decide +kernel) ⟨Nat.le_of_ble_eq_true rfl, Nat.le_of_ble_eq_true rfl, Nat.le_of_ble_eq_true rfl, Nat.le_of_ble_eq_true rfl⟩ [] [0, 1, 2] [0, 1, 2] rfl rfl ⟨rfl, rfl, rfl, by decide⟩ (fun _ => rfl) rfl (fun _ => rfl) hl.1 (Nat.le_of_ble_eq_true rfl) rfl dX8_order_13 (fun _ _ H locs B => ?_)
  refine z_ifeq_b S (pc := 16) (tgt := 56) dX8_order_16 rfl (fun c2 => absurd c2 (by omega)) (fun c2 => ?_)
  refine z_iload_n S (pc := 19) dX8_order_19 rfl (lv_at hl 3 rfl) ?_
  refine z_i2l S (pc := 20) (by omega) dX8_order_20 ?_
  refine z_ldc2 S (pc := 21) (x := 2) (by decide +kernel) rfl dX8_order_21 ?_
  refine z_ldc2 S (pc := 24) (x := 40) (by decide +kernel) rfl dX8_order_24 ?_
  refine z_callS S (pc := 27) B (wr := [cMod a p1 p2 p3 p4 p5 p6 pm ig mo rd wr sm, cAt E p1 σ ρ, cLon E p2 303 α]) (wn := fun _ => [cMod a p1 p2 p3 p4 p5 p6 pm ig mo rd wr sm, cAt E p1 σ ρ, cLon E p2 303 α]) (st1 := fun _ => [.int (iI (bI (2 ≤ co ∧ co ≤ 40)))]) (As := [.long (iL co), .long (iL 2), .long (iL 40)]) (mX8_in l E co 2 40 (show inL co from by omega) (show inL 2 from by omega) (show inL 40 from by omega)) gX8_order_X8_in 3 rfl (by decide +kernel) ⟨Nat.le_of_ble_eq_true rfl, Nat.le_of_ble_eq_true rfl, Nat.le_of_ble_eq_true rfl, Nat.le_of_ble_eq_true rfl⟩ [] [0, 1, 2] [0, 1, 2] rfl rfl ⟨rfl, rfl, rfl, by decide⟩ (fun _ => rfl) rfl (fun _ => rfl) hl.1 (Nat.le_of_ble_eq_true rfl) rfl dX8_order_27 (fun _ _ H locs B => ?_)
  refine z_ifeq_b S (pc := 30) (tgt := 56) dX8_order_30 rfl (fun c3 => absurd c3 (by omega)) (fun c3 => ?_)
  refine z_iload_n S (pc := 33) dX8_order_33 rfl (lv_at hl 1 rfl) ?_
  refine z_iload_n S (pc := 34) dX8_order_34 rfl (lv_at hl 2 rfl) ?_
  refine z_iload_n S (pc := 35) dX8_order_35 rfl (lv_at hl 3 rfl) ?_
  refine z_iconst S (pc := 36) dX8_order_36 ?_
  refine z_isub S (pc := 37) dX8_order_37 ?_
  refine z_imul S (pc := 38) dX8_order_38 ?_
  refine z_iadd S (pc := 39) dX8_order_39 ?_
  refine z_ldc S (pc := 40) (x := 3000000) (by decide +kernel) rfl dX8_order_40 ?_
  refine z_icmp_gt S (pc := 42) (tgt := 56) (by omega) (by omega) dX8_order_42 rfl (fun c4 => absurd c4 (by omega)) (fun c4 => ?_)
  refine z_iload S (pc := 45) dX8_order_45 (lv_at hl 4 rfl) ?_
  refine z_i2l S (pc := 47) (by omega) dX8_order_47 ?_
  refine z_lconst S (pc := 48) (x := 0) dX8_order_48 rfl ?_
  refine z_lconst S (pc := 49) (x := 1) dX8_order_49 rfl ?_
  refine z_callS S (pc := 50) B (wr := [cMod a p1 p2 p3 p4 p5 p6 pm ig mo rd wr sm, cAt E p1 σ ρ, cLon E p2 303 α]) (wn := fun _ => [cMod a p1 p2 p3 p4 p5 p6 pm ig mo rd wr sm, cAt E p1 σ ρ, cLon E p2 303 α]) (st1 := fun _ => [.int (iI (bI (0 ≤ wh ∧ wh ≤ 1)))]) (As := [.long (iL wh), .long (iL 0), .long (iL 1)]) (mX8_in l E wh 0 1 (show inL wh from by omega) (show inL 0 from by omega) (show inL 1 from by omega)) gX8_order_X8_in 3 rfl (by decide +kernel) ⟨Nat.le_of_ble_eq_true rfl, Nat.le_of_ble_eq_true rfl, Nat.le_of_ble_eq_true rfl, Nat.le_of_ble_eq_true rfl⟩ [] [0, 1, 2] [0, 1, 2] rfl rfl ⟨rfl, rfl, rfl, by decide⟩ (fun _ => rfl) rfl (fun _ => rfl) hl.1 (Nat.le_of_ble_eq_true rfl) rfl dX8_order_50 (fun _ _ H locs B => ?_)
  refine z_ifne_b S (pc := 53) (tgt := 59) dX8_order_53 rfl (fun c5 => ?_) (fun c5 => absurd c5 (by omega))
  refine z_iconst S (pc := 59) dX8_order_59 ?_
  refine lv_istore (lv' := [(5, .int (iI 0)), (0, .ref a), (1, .int (iI fi)), (2, .int (iI sp)), (3, .int (iI co)), (4, .int (iI wh))]) S.1 S.2.1 (pc := 60) dX8_order_60 hl (by decide) rfl (fun ls hl => ?_)
  refine z_aload_n S (pc := 62) dX8_order_62 rfl (lv_at hl 1 rfl) ?_
  refine z_lconst S (pc := 63) (x := 0) dX8_order_63 rfl ?_
  refine z_iload_n S (pc := 64) dX8_order_64 rfl (lv_at hl 2 rfl) ?_
  refine z_i2l S (pc := 65) (by omega) dX8_order_65 ?_
  have hs2 : Sets (up (up σ 11 (σ 11 + 0)) 0 (fi)) := sets_tl hs (by omega)
  refine z_callV S (pc := 66) B (wr := []) (wn := fun u6 => [cMod a p1 p2 p3 p4 p5 p6 pm u6.1 u6.2 rd wr sm, cAt E p1 σ ρ, cLon E p2 303 (mat σ ρ)]) (st1 := fun _ => [.long (iL (val0 (rz (up (up σ 11 (σ 11 + 0)) 0 fi))))]) (As := [.long (iL 0), .long (iL fi)]) (mX8_tryReading l E a p1 p2 p3 p4 p5 p6 σ ρ pm ig mo rd wr sm α 0 fi (show Sets (up (up σ 11 (σ 11 + 0)) 0 fi) from by assumption) (show Nums σ from by assumption) (show 0 ≤ σ 11 ∧ σ 11 ≤ 1900000000 from by omega) (show 0 ≤ 0 ∧ 0 ≤ 1000000 from by omega)) gX8_order_X8_tryReading 2 rfl (by decide +kernel) ⟨Nat.le_of_ble_eq_true rfl, Nat.le_of_ble_eq_true rfl, Nat.le_of_ble_eq_true rfl, Nat.le_of_ble_eq_true rfl⟩ 0 rfl (q := (RX8, TX8, 12)) rfl rfl [0, 1, 2] [] [0, 1, 2] rfl rfl ⟨rfl, rfl, rfl, by decide⟩ (fun _ => rfl) rfl (fun _ => rfl) hl.1 (Nat.le_of_ble_eq_true rfl) rfl dX8_order_66 (fun u6 hu6 H locs B => ?_)
  rw [show (val0 (rz (up (up σ 11 (σ 11 + 0)) 0 fi)) : Int) = vwl σ fi from vwl_m σ fi]
  refine lv_lstore (lv' := [(6, .long (iL (vwl σ fi))), (5, .int (iI 0)), (0, .ref a), (1, .int (iI fi)), (2, .int (iI sp)), (3, .int (iI co)), (4, .int (iI wh))]) S.1 S.2.1 (pc := 69) dX8_order_69 hl (by decide) rfl (fun ls hl => ?_)
  refine z_iconst S (pc := 71) dX8_order_71 ?_
  refine lv_istore (lv' := [(8, .int (iI 1)), (6, .long (iL (vwl σ fi))), (5, .int (iI 0)), (0, .ref a), (1, .int (iI fi)), (2, .int (iI sp)), (3, .int (iI co)), (4, .int (iI wh))]) S.1 S.2.1 (pc := 72) dX8_order_72 hl (by decide) rfl (fun ls hl => ?_)
  obtain ⟨z, hz⟩ : ∃ z, orL σ fi sp wh (co - 1).toNat 1 (vwl σ fi) 0 = z := ⟨_, rfl⟩
  refine lpX8_order E S a p1 p2 p3 p4 p5 p6 σ ρ pm rd wr sm fi sp co wh hs hn h11 hf hsp hco hmx hwh (co - 1).toNat 1 (vwl σ fi) 0 u6.1 u6.2 (mat σ ρ) (by omega) (by omega) (by omega) z hz (fun u0 H locs ls B hl => ?_) _ _ _ B (lv_sub hl [3, 4, 5, 6, 7, 2, 1, 0] rfl)
  refine z_iload S (pc := 143) dX8_order_143 (lv_at hl 5 rfl) ?_
  exact z_ireturn S hr hlk B ⟨u0.1, u0.2.1, u0.2.2⟩ trivial (by rw [hz]) rfl (pc := 145) dX8_order_145
set_option maxHeartbeats 4000000 in
set_option maxRecDepth 100000 in
theorem mX8_order_b (l : Launch) (E : gT) (a : Nat) (p1 : Nat) (p2 : Nat) (p3 : Nat) (p4 : Nat) (p5 : Nat) (p6 : Nat) (σ : Nat → Int) (ρ : Nat → Int) (pm : Int) (ig : Int) (mo : Int) (rd : Int) (wr : Int) (sm : Int) (fi : Int) (sp : Int) (co : Int) (wh : Int) (hI : inI fi ∧ inI sp ∧ inI co ∧ inI wh) (hbad : (fi < -3000000 ∨ 3000000 < fi ∨ sp < 1 ∨ 100000 < sp ∨ co < 2 ∨ 40 < co ∨ 3000000 < fi + (co - 1) * sp ∨ wh < 0 ∨ 1 < wh)) : Cd l E yX8_order wsX8_order 6 147 0 0 [.ref a, .int (iI fi), .int (iI sp), .int (iI co), .int (iI wh)] [cMod a p1 p2 p3 p4 p5 p6 pm ig mo rd wr sm] (some (.int (iI (-2)))) [cMod a p1 p2 p3 p4 p5 p6 pm ig mo rd wr sm] := by
  refine Ct.mk (cc := cX8_order) (maxL := 11) (ret := (some .int)) (plainFor_of_name (by decide)) rfl (Nat.le_of_ble_eq_true rfl) ?_
  intro p e s m below meth c A ls H locs S hr hlk hnm B hl
  have S : CallFix p m c cX8_order 11 s #[.ref a, .int (iI fi), .int (iI sp), .int (iI co), .int (iI wh)] wsX8_order RX8 := S
  have hl : lv_has ls 11 [(0, .ref a), (1, .int (iI fi)), (2, .int (iI sp)), (3, .int (iI co)), (4, .int (iI wh))] := hl
  refine z_iload_n S (pc := 0) dX8_order_0 rfl (lv_at hl 1 rfl) ?_
  refine z_callS S (pc := 1) B (wr := [cMod a p1 p2 p3 p4 p5 p6 pm ig mo rd wr sm]) (wn := fun _ => [cMod a p1 p2 p3 p4 p5 p6 pm ig mo rd wr sm]) (st1 := fun _ => [.int (iI (bI ((-3000000) ≤ fi ∧ fi ≤ 3000000)))]) (As := [.int (iI fi)]) (mX8_isLevel l E fi (show inI fi from by omega)) gX8_order_X8_isLevel 1 rfl (by decide +kernel) ⟨Nat.le_of_ble_eq_true rfl, Nat.le_of_ble_eq_true rfl, Nat.le_of_ble_eq_true rfl, Nat.le_of_ble_eq_true rfl⟩ [] [0] [0] rfl rfl ⟨rfl, rfl, rfl, by decide⟩ (fun _ => rfl) rfl (fun _ => rfl) hl.1 (Nat.le_of_ble_eq_true rfl) rfl dX8_order_1 (fun _ _ H locs B => ?_)
  refine z_ifeq_b S (pc := 4) (tgt := 56) dX8_order_4 rfl (fun c1 => ?_) (fun c1 => ?_)
  · refine z_bipush S (pc := 56) dX8_order_56 rfl ?_
    exact z_ireturn S hr hlk B () trivial rfl rfl (pc := 58) dX8_order_58
  · refine z_iload_n S (pc := 7) dX8_order_7 rfl (lv_at hl 2 rfl) ?_
    refine z_i2l S (pc := 8) (by omega) dX8_order_8 ?_
    refine z_lconst S (pc := 9) (x := 1) dX8_order_9 rfl ?_
    refine z_ldc2 S (pc := 10) (x := 100000) (by decide +kernel) rfl dX8_order_10 ?_
    refine z_callS S (pc := 13) B (wr := [cMod a p1 p2 p3 p4 p5 p6 pm ig mo rd wr sm]) (wn := fun _ => [cMod a p1 p2 p3 p4 p5 p6 pm ig mo rd wr sm]) (st1 := fun _ => [.int (iI (bI (1 ≤ sp ∧ sp ≤ 100000)))]) (As := [.long (iL sp), .long (iL 1), .long (iL 100000)]) (mX8_in l E sp 1 100000 (show inL sp from by omega) (show inL 1 from by omega) (show inL 100000 from by omega)) gX8_order_X8_in 3 rfl (by decide +kernel) ⟨Nat.le_of_ble_eq_true rfl, Nat.le_of_ble_eq_true rfl, Nat.le_of_ble_eq_true rfl, Nat.le_of_ble_eq_true rfl⟩ [] [0] [0] rfl rfl ⟨rfl, rfl, rfl, by decide⟩ (fun _ => rfl) rfl (fun _ => rfl) hl.1 (Nat.le_of_ble_eq_true rfl) rfl dX8_order_13 (fun _ _ H locs B => ?_)
    refine z_ifeq_b S (pc := 16) (tgt := 56) dX8_order_16 rfl (fun c2 => ?_) (fun c2 => ?_)
    · refine z_bipush S (pc := 56) dX8_order_56 rfl ?_
      exact z_ireturn S hr hlk B () trivial rfl rfl (pc := 58) dX8_order_58
    · refine z_iload_n S (pc := 19) dX8_order_19 rfl (lv_at hl 3 rfl) ?_
      refine z_i2l S (pc := 20) (by omega) dX8_order_20 ?_
      refine z_ldc2 S (pc := 21) (x := 2) (by decide +kernel) rfl dX8_order_21 ?_
      refine z_ldc2 S (pc := 24) (x := 40) (by decide +kernel) rfl dX8_order_24 ?_
      refine z_callS S (pc := 27) B (wr := [cMod a p1 p2 p3 p4 p5 p6 pm ig mo rd wr sm]) (wn := fun _ => [cMod a p1 p2 p3 p4 p5 p6 pm ig mo rd wr sm]) (st1 := fun _ => [.int (iI (bI (2 ≤ co ∧ co ≤ 40)))]) (As := [.long (iL co), .long (iL 2), .long (iL 40)]) (mX8_in l E co 2 40 (show inL co from by omega) (show inL 2 from by omega) (show inL 40 from by omega)) gX8_order_X8_in 3 rfl (by decide +kernel) ⟨Nat.le_of_ble_eq_true rfl, Nat.le_of_ble_eq_true rfl, Nat.le_of_ble_eq_true rfl, Nat.le_of_ble_eq_true rfl⟩ [] [0] [0] rfl rfl ⟨rfl, rfl, rfl, by decide⟩ (fun _ => rfl) rfl (fun _ => rfl) hl.1 (Nat.le_of_ble_eq_true rfl) rfl dX8_order_27 (fun _ _ H locs B => ?_)
      refine z_ifeq_b S (pc := 30) (tgt := 56) dX8_order_30 rfl (fun c3 => ?_) (fun c3 => ?_)
      · refine z_bipush S (pc := 56) dX8_order_56 rfl ?_
        exact z_ireturn S hr hlk B () trivial rfl rfl (pc := 58) dX8_order_58
      · refine z_iload_n S (pc := 33) dX8_order_33 rfl (lv_at hl 1 rfl) ?_
        refine z_iload_n S (pc := 34) dX8_order_34 rfl (lv_at hl 2 rfl) ?_
        refine z_iload_n S (pc := 35) dX8_order_35 rfl (lv_at hl 3 rfl) ?_
        refine z_iconst S (pc := 36) dX8_order_36 ?_
        refine z_isub S (pc := 37) dX8_order_37 ?_
        have hm0 := mul_bd2 (a := co - 1) (x := sp) (M := 39) (X := 100000) (by omega) (by omega) (by omega) (by omega)
        rw [Int.mul_comm (co - 1) sp] at hm0 hbad
        refine z_imul S (pc := 38) dX8_order_38 ?_
        refine z_iadd S (pc := 39) dX8_order_39 ?_
        refine z_ldc S (pc := 40) (x := 3000000) (by decide +kernel) rfl dX8_order_40 ?_
        refine z_icmp_gt S (pc := 42) (tgt := 56) (by omega) (by omega) dX8_order_42 rfl (fun c4 => ?_) (fun c4 => ?_)
        · refine z_bipush S (pc := 56) dX8_order_56 rfl ?_
          exact z_ireturn S hr hlk B () trivial rfl rfl (pc := 58) dX8_order_58
        · refine z_iload S (pc := 45) dX8_order_45 (lv_at hl 4 rfl) ?_
          refine z_i2l S (pc := 47) (by omega) dX8_order_47 ?_
          refine z_lconst S (pc := 48) (x := 0) dX8_order_48 rfl ?_
          refine z_lconst S (pc := 49) (x := 1) dX8_order_49 rfl ?_
          refine z_callS S (pc := 50) B (wr := [cMod a p1 p2 p3 p4 p5 p6 pm ig mo rd wr sm]) (wn := fun _ => [cMod a p1 p2 p3 p4 p5 p6 pm ig mo rd wr sm]) (st1 := fun _ => [.int (iI (bI (0 ≤ wh ∧ wh ≤ 1)))]) (As := [.long (iL wh), .long (iL 0), .long (iL 1)]) (mX8_in l E wh 0 1 (show inL wh from by omega) (show inL 0 from by omega) (show inL 1 from by omega)) gX8_order_X8_in 3 rfl (by decide +kernel) ⟨Nat.le_of_ble_eq_true rfl, Nat.le_of_ble_eq_true rfl, Nat.le_of_ble_eq_true rfl, Nat.le_of_ble_eq_true rfl⟩ [] [0] [0] rfl rfl ⟨rfl, rfl, rfl, by decide⟩ (fun _ => rfl) rfl (fun _ => rfl) hl.1 (Nat.le_of_ble_eq_true rfl) rfl dX8_order_50 (fun _ _ H locs B => ?_)
          refine z_ifne_b S (pc := 53) (tgt := 59) dX8_order_53 rfl (fun c5 => ?_) (fun c5 => ?_)
          · exact absurd hbad (by omega)
          · refine z_bipush S (pc := 56) dX8_order_56 rfl ?_
            exact z_ireturn S hr hlk B () trivial rfl rfl (pc := 58) dX8_order_58
set_option maxHeartbeats 4000000 in
set_option maxRecDepth 100000 in
theorem lpX8_levelFor {p : Program} {l : Launch} {e : Env} {s : State} {m : MethodId} {args : Array Value} {below : List Frame} {meth : Method} {c : Code} {Q : State → Prop} {A : Nat → Prop} (E : gT) (S : CallFix p m c cX8_levelFor 6 s args wsX8_levelFor RX8) (a : Nat) (p1 : Nat) (p2 : Nat) (p3 : Nat) (p4 : Nat) (p5 : Nat) (p6 : Nat) (σ : Nat → Int) (ρ : Nat → Int) (pm : Int) (rd : Int) (wr : Int) (sm : Int) (va : Int) (hs : Sets σ) (hn : Nums σ) (h11 : 0 ≤ σ 11 ∧ σ 11 ≤ 1900000000) (hva : -10000000 ≤ va ∧ va ≤ 10000000) :
    ∀ (n : Nat) (lo : Int) (hi : Int) (ig : Int) (mo : Int) (α : Nat → Int) (hlh : -3000000 ≤ lo ∧ lo ≤ hi ∧ hi ≤ 3000000) (hd : hi - lo < pw2 n) (res : Int) (hres : lfL σ va n lo hi = res) (hx : ∀ (u0 : Int × Int × (Nat → Int)) (H : Heap) (locs : List Loc) (ls : Array Slot), bw E A s H locs [cMod a p1 p2 p3 p4 p5 p6 pm u0.1 u0.2.1 rd wr sm, cAt E p1 σ ρ, cLon E p2 303 u0.2.2] → lv_has ls 6 [(0, .ref a), (1, .int (iI va)), (2, .int (iI res))] → W p l e ({ frames := 6, cells := 0, slots := 0, locals := 147 } : Room) s m args below meth c H locs 0 0 Q (F0 m 101 ls [])) (H : Heap) (locs : List Loc) (ls : Array Slot) (B : bw E A s H locs [cMod a p1 p2 p3 p4 p5 p6 pm ig mo rd wr sm, cAt E p1 σ ρ, cLon E p2 303 α]) (hl : lv_has ls 6 [(0, .ref a), (1, .int (iI va)), (2, .int (iI lo)), (3, .int (iI hi))]), W p l e ({ frames := 6, cells := 0, slots := 0, locals := 147 } : Room) s m args below meth c H locs 0 0 Q (F0 m 42 ls []) := by
  intro n
  induction n with
  | zero =>
    intro lo hi ig mo α hlh hd res hres hx H locs ls B hl
    have hd : hi - lo < 1 := hd
    refine z_iload_n S (pc := 42) dX8_levelFor_42 rfl (lv_at hl 2 rfl) ?_
    refine z_iload_n S (pc := 43) dX8_levelFor_43 rfl (lv_at hl 3 rfl) ?_
    refine z_icmp_ge S (pc := 44) (tgt := 101) (by omega) (by omega) dX8_levelFor_44 rfl (fun c1 => ?_) (fun c1 => absurd c1 (by omega))
    have hres : lo = res := hres
    subst hres
    exact hx ⟨ig, mo, α⟩ _ _ _ B (lv_sub hl [0, 1, 2] rfl)
  | succ n ih =>
    intro lo hi ig mo α hlh hd res hres hx H locs ls B hl
    have hd : hi - lo < 2 * pw2 n := hd
    have hvb := vwl_bd (v := (lo + hi) / 2) hs hn ⟨by omega, by omega⟩
    refine z_iload_n S (pc := 42) dX8_levelFor_42 rfl (lv_at hl 2 rfl) ?_
    refine z_iload_n S (pc := 43) dX8_levelFor_43 rfl (lv_at hl 3 rfl) ?_
    refine z_icmp_ge S (pc := 44) (tgt := 101) (by omega) (by omega) dX8_levelFor_44 rfl (fun c1 => ?_) (fun c1 => ?_)
    · have hres : lo = res := by rw [← hres]; simp only [lfL]; rw [if_neg (by omega)]
      subst hres
      exact hx ⟨ig, mo, α⟩ _ _ _ B (lv_sub hl [0, 1, 2] rfl)
    · refine z_iload_n S (pc := 47) dX8_levelFor_47 rfl (lv_at hl 2 rfl) ?_
      refine z_iload_n S (pc := 48) dX8_levelFor_48 rfl (lv_at hl 3 rfl) ?_
      refine z_iadd S (pc := 49) dX8_levelFor_49 ?_
      refine lv_istore (lv' := [(4, .int (iI (lo + hi))), (0, .ref a), (1, .int (iI va)), (2, .int (iI lo)), (3, .int (iI hi))]) S.1 S.2.1 (pc := 50) dX8_levelFor_50 hl (by decide) rfl (fun ls hl => ?_)
      refine z_iload S (pc := 52) dX8_levelFor_52 (lv_at hl 0 rfl) ?_
      refine z_if_lt S (pc := 54) (tgt := 64) (by omega) dX8_levelFor_54 rfl (fun c2 => ?_) (fun c2 => ?_)
      · refine z_iconst S (pc := 64) dX8_levelFor_64 ?_
        refine z_iload S (pc := 65) dX8_levelFor_65 (lv_at hl 0 rfl) ?_
        refine z_isub S (pc := 67) dX8_levelFor_67 ?_
        refine z_iconst S (pc := 68) dX8_levelFor_68 ?_
        refine z_idivn S (pc := 69) (by omega) (by omega) dX8_levelFor_69 ?_
        refine z_ineg S (pc := 70) dX8_levelFor_70 ?_
        rw [show (-((1 - (lo + hi)) / 2) : Int) = (lo + hi) / 2 from by omega]
        refine lv_istore (lv' := [(5, .int (iI ((lo + hi) / 2))), (4, .int (iI (lo + hi))), (0, .ref a), (1, .int (iI va)), (2, .int (iI lo)), (3, .int (iI hi))]) S.1 S.2.1 (pc := 71) dX8_levelFor_71 hl (by decide) rfl (fun ls hl => ?_)
        refine z_aload_n S (pc := 73) dX8_levelFor_73 rfl (lv_at hl 2 rfl) ?_
        refine z_lconst S (pc := 74) (x := 0) dX8_levelFor_74 rfl ?_
        refine z_iload S (pc := 75) dX8_levelFor_75 (lv_at hl 0 rfl) ?_
        refine z_i2l S (pc := 77) (by omega) dX8_levelFor_77 ?_
        have hs2 : Sets (up (up σ 11 (σ 11 + 0)) 0 ((lo + hi) / 2)) := sets_tl hs (by omega)
        refine z_callV S (pc := 78) B (wr := []) (wn := fun u3 => [cMod a p1 p2 p3 p4 p5 p6 pm u3.1 u3.2 rd wr sm, cAt E p1 σ ρ, cLon E p2 303 (mat σ ρ)]) (st1 := fun _ => [.long (iL (val0 (rz (up (up σ 11 (σ 11 + 0)) 0 ((lo + hi) / 2)))))]) (As := [.long (iL 0), .long (iL ((lo + hi) / 2))]) (mX8_tryReading l E a p1 p2 p3 p4 p5 p6 σ ρ pm ig mo rd wr sm α 0 ((lo + hi) / 2) (show Sets (up (up σ 11 (σ 11 + 0)) 0 ((lo + hi) / 2)) from by assumption) (show Nums σ from by assumption) (show 0 ≤ σ 11 ∧ σ 11 ≤ 1900000000 from by omega) (show 0 ≤ 0 ∧ 0 ≤ 1000000 from by omega)) gX8_levelFor_X8_tryReading 2 rfl (by decide +kernel) ⟨Nat.le_of_ble_eq_true rfl, Nat.le_of_ble_eq_true rfl, Nat.le_of_ble_eq_true rfl, Nat.le_of_ble_eq_true rfl⟩ 0 rfl (q := (RX8, TX8, 12)) rfl rfl [0, 1, 2] [] [0, 1, 2] rfl rfl ⟨rfl, rfl, rfl, by decide⟩ (fun _ => rfl) rfl (fun _ => rfl) hl.1 (Nat.le_of_ble_eq_true rfl) rfl dX8_levelFor_78 (fun u3 hu3 H locs B => ?_)
        rw [show (val0 (rz (up (up σ 11 (σ 11 + 0)) 0 ((lo + hi) / 2))) : Int) = vwl σ ((lo + hi) / 2) from vwl_m σ _]
        refine z_iload_n S (pc := 81) dX8_levelFor_81 rfl (lv_at hl 3 rfl) ?_
        refine z_i2l S (pc := 82) (by omega) dX8_levelFor_82 ?_
        refine z_lc_lt S (pc := 83) (tgt := 93) (by omega) (by omega) dX8_levelFor_83 dX8_levelFor_84 rfl (fun c4 => ?_) (fun c4 => ?_)
        · refine z_iload S (pc := 93) dX8_levelFor_93 (lv_at hl 0 rfl) ?_
          refine z_iconst S (pc := 95) dX8_levelFor_95 ?_
          refine z_iadd S (pc := 96) dX8_levelFor_96 ?_
          refine lv_istore_n (lv' := [(2, .int (iI (((lo + hi) / 2) + 1))), (5, .int (iI ((lo + hi) / 2))), (4, .int (iI (lo + hi))), (0, .ref a), (1, .int (iI va)), (3, .int (iI hi))]) S.1 S.2.1 (pc := 97) dX8_levelFor_97 rfl hl (by decide) rfl (fun ls hl => ?_)
          refine lv_goto S.1 S.2.1 (pc := 98) (tgt := 42) dX8_levelFor_98 rfl ?_
          exact ih (((lo + hi) / 2) + 1) hi u3.1 u3.2 (mat σ ρ) (by omega) (by omega) res (by rw [← hres]; simp only [lfL]; rw [if_pos (by omega), if_neg (by omega)]) hx _ _ _ B (lv_sub hl [3, 4, 0, 5] rfl)
        · refine z_iload S (pc := 87) dX8_levelFor_87 (lv_at hl 0 rfl) ?_
          refine lv_istore_n (lv' := [(3, .int (iI ((lo + hi) / 2))), (5, .int (iI ((lo + hi) / 2))), (4, .int (iI (lo + hi))), (0, .ref a), (1, .int (iI va)), (2, .int (iI lo))]) S.1 S.2.1 (pc := 89) dX8_levelFor_89 rfl hl (by decide) rfl (fun ls hl => ?_)
          refine lv_goto S.1 S.2.1 (pc := 90) (tgt := 98) dX8_levelFor_90 rfl ?_
          refine lv_goto S.1 S.2.1 (pc := 98) (tgt := 42) dX8_levelFor_98 rfl ?_
          exact ih lo ((lo + hi) / 2) u3.1 u3.2 (mat σ ρ) (by omega) (by omega) res (by rw [← hres]; simp only [lfL]; rw [if_pos (by omega), if_pos (by omega)]) hx _ _ _ B (lv_sub hl [3, 4, 5, 0] rfl)
      · refine z_iload S (pc := 57) dX8_levelFor_57 (lv_at hl 0 rfl) ?_
        refine z_iconst S (pc := 59) dX8_levelFor_59 ?_
        refine z_idivn S (pc := 60) (by omega) (by omega) dX8_levelFor_60 ?_
        refine lv_goto S.1 S.2.1 (pc := 61) (tgt := 71) dX8_levelFor_61 rfl ?_
        refine lv_istore (lv' := [(5, .int (iI ((lo + hi) / 2))), (4, .int (iI (lo + hi))), (0, .ref a), (1, .int (iI va)), (2, .int (iI lo)), (3, .int (iI hi))]) S.1 S.2.1 (pc := 71) dX8_levelFor_71 hl (by decide) rfl (fun ls hl => ?_)
        refine z_aload_n S (pc := 73) dX8_levelFor_73 rfl (lv_at hl 2 rfl) ?_
        refine z_lconst S (pc := 74) (x := 0) dX8_levelFor_74 rfl ?_
        refine z_iload S (pc := 75) dX8_levelFor_75 (lv_at hl 0 rfl) ?_
        refine z_i2l S (pc := 77) (by omega) dX8_levelFor_77 ?_
        have hs2 : Sets (up (up σ 11 (σ 11 + 0)) 0 ((lo + hi) / 2)) := sets_tl hs (by omega)
        refine z_callV S (pc := 78) B (wr := []) (wn := fun u5 => [cMod a p1 p2 p3 p4 p5 p6 pm u5.1 u5.2 rd wr sm, cAt E p1 σ ρ, cLon E p2 303 (mat σ ρ)]) (st1 := fun _ => [.long (iL (val0 (rz (up (up σ 11 (σ 11 + 0)) 0 ((lo + hi) / 2)))))]) (As := [.long (iL 0), .long (iL ((lo + hi) / 2))]) (mX8_tryReading l E a p1 p2 p3 p4 p5 p6 σ ρ pm ig mo rd wr sm α 0 ((lo + hi) / 2) (show Sets (up (up σ 11 (σ 11 + 0)) 0 ((lo + hi) / 2)) from by assumption) (show Nums σ from by assumption) (show 0 ≤ σ 11 ∧ σ 11 ≤ 1900000000 from by omega) (show 0 ≤ 0 ∧ 0 ≤ 1000000 from by omega)) gX8_levelFor_X8_tryReading 2 rfl (by decide +kernel) ⟨Nat.le_of_ble_eq_true rfl, Nat.le_of_ble_eq_true rfl, Nat.le_of_ble_eq_true rfl, Nat.le_of_ble_eq_true rfl⟩ 0 rfl (q := (RX8, TX8, 12)) rfl rfl [0, 1, 2] [] [0, 1, 2] rfl rfl ⟨rfl, rfl, rfl, by decide⟩ (fun _ => rfl) rfl (fun _ => rfl) hl.1 (Nat.le_of_ble_eq_true rfl) rfl dX8_levelFor_78 (fun u5 hu5 H locs B => ?_)
        rw [show (val0 (rz (up (up σ 11 (σ 11 + 0)) 0 ((lo + hi) / 2))) : Int) = vwl σ ((lo + hi) / 2) from vwl_m σ _]
        refine z_iload_n S (pc := 81) dX8_levelFor_81 rfl (lv_at hl 3 rfl) ?_
        refine z_i2l S (pc := 82) (by omega) dX8_levelFor_82 ?_
        refine z_lc_lt S (pc := 83) (tgt := 93) (by omega) (by omega) dX8_levelFor_83 dX8_levelFor_84 rfl (fun c6 => ?_) (fun c6 => ?_)
        · refine z_iload S (pc := 93) dX8_levelFor_93 (lv_at hl 0 rfl) ?_
          refine z_iconst S (pc := 95) dX8_levelFor_95 ?_
          refine z_iadd S (pc := 96) dX8_levelFor_96 ?_
          refine lv_istore_n (lv' := [(2, .int (iI (((lo + hi) / 2) + 1))), (5, .int (iI ((lo + hi) / 2))), (4, .int (iI (lo + hi))), (0, .ref a), (1, .int (iI va)), (3, .int (iI hi))]) S.1 S.2.1 (pc := 97) dX8_levelFor_97 rfl hl (by decide) rfl (fun ls hl => ?_)
          refine lv_goto S.1 S.2.1 (pc := 98) (tgt := 42) dX8_levelFor_98 rfl ?_
          exact ih (((lo + hi) / 2) + 1) hi u5.1 u5.2 (mat σ ρ) (by omega) (by omega) res (by rw [← hres]; simp only [lfL]; rw [if_pos (by omega), if_neg (by omega)]) hx _ _ _ B (lv_sub hl [3, 4, 0, 5] rfl)
        · refine z_iload S (pc := 87) dX8_levelFor_87 (lv_at hl 0 rfl) ?_
          refine lv_istore_n (lv' := [(3, .int (iI ((lo + hi) / 2))), (5, .int (iI ((lo + hi) / 2))), (4, .int (iI (lo + hi))), (0, .ref a), (1, .int (iI va)), (2, .int (iI lo))]) S.1 S.2.1 (pc := 89) dX8_levelFor_89 rfl hl (by decide) rfl (fun ls hl => ?_)
          refine lv_goto S.1 S.2.1 (pc := 90) (tgt := 98) dX8_levelFor_90 rfl ?_
          refine lv_goto S.1 S.2.1 (pc := 98) (tgt := 42) dX8_levelFor_98 rfl ?_
          exact ih lo ((lo + hi) / 2) u5.1 u5.2 (mat σ ρ) (by omega) (by omega) res (by rw [← hres]; simp only [lfL]; rw [if_pos (by omega), if_pos (by omega)]) hx _ _ _ B (lv_sub hl [3, 4, 5, 0] rfl)
set_option maxHeartbeats 4000000 in
set_option maxRecDepth 100000 in
theorem mX8_levelFor (l : Launch) (E : gT) (a : Nat) (p1 : Nat) (p2 : Nat) (p3 : Nat) (p4 : Nat) (p5 : Nat) (p6 : Nat) (σ : Nat → Int) (ρ : Nat → Int) (pm : Int) (ig : Int) (mo : Int) (rd : Int) (wr : Int) (sm : Int) (α : Nat → Int) (va : Int) (hva : -10000000 ≤ va ∧ va ≤ 10000000) (hge : va ≤ vwl σ 3000000) (hs : Sets σ) (hn : Nums σ) (h11 : 0 ≤ σ 11 ∧ σ 11 ≤ 1900000000) : Ct l E yX8_levelFor wsX8_levelFor 6 147 0 0 [.ref a, .int (iI va)] [cMod a p1 p2 p3 p4 p5 p6 pm ig mo rd wr sm, cAt E p1 σ ρ, cLon E p2 303 α] (S0 := Int × Int × (Nat → Int)) (fun u0 => True) (fun _ => (some (.long (iL (lfL σ va 32 (-3000000) 3000000))))) (fun u0 => [cMod a p1 p2 p3 p4 p5 p6 pm u0.1 u0.2.1 rd wr sm, cAt E p1 σ ρ, cLon E p2 303 u0.2.2]) := by
  refine Ct.mk (cc := cX8_levelFor) (maxL := 6) (ret := (some .long)) (plainFor_of_name (by decide)) rfl (Nat.le_of_ble_eq_true rfl) ?_
  intro p e s m below meth c A ls H locs S hr hlk hnm B hl
  have S : CallFix p m c cX8_levelFor 6 s #[.ref a, .int (iI va)] wsX8_levelFor RX8 := S
  have hl : lv_has ls 6 [(0, .ref a), (1, .int (iI va))] := hl
  have hvb := vwl_bd (v := 3000000) hs hn (by omega)
  refine z_iload_n S (pc := 0) dX8_levelFor_0 rfl (lv_at hl 1 rfl) ?_
  refine z_i2l S (pc := 1) (by omega) dX8_levelFor_1 ?_
  refine z_ldc2 S (pc := 2) (x := (-10000000)) (by decide +kernel) rfl dX8_levelFor_2 ?_
  refine z_ldc2 S (pc := 5) (x := 10000000) (by decide +kernel) rfl dX8_levelFor_5 ?_
  refine z_callS S (pc := 8) B (wr := [cMod a p1 p2 p3 p4 p5 p6 pm ig mo rd wr sm, cAt E p1 σ ρ, cLon E p2 303 α]) (wn := fun _ => [cMod a p1 p2 p3 p4 p5 p6 pm ig mo rd wr sm, cAt E p1 σ ρ, cLon E p2 303 α]) (st1 := fun _ => [.int (iI (bI ((-10000000) ≤ va ∧ va ≤ 10000000)))]) (As := [.long (iL va), .long (iL (-10000000)), .long (iL 10000000)]) (mX8_in l E va (-10000000) 10000000 (show inL va from by omega) (show inL (-10000000) from by omega) (show inL 10000000 from by omega)) gX8_levelFor_X8_in 3 rfl (by decide +kernel) ⟨Nat.le_of_ble_eq_true rfl, Nat.le_of_ble_eq_true rfl, Nat.le_of_ble_eq_true rfl, Nat.le_of_ble_eq_true rfl⟩ [] [0, 1, 2] [0, 1, 2] rfl rfl ⟨rfl, rfl, rfl, by decide⟩ (fun _ => rfl) rfl (fun _ => rfl) hl.1 (Nat.le_of_ble_eq_true rfl) rfl dX8_levelFor_8 (fun _ _ H locs B => ?_)
  refine z_ifne_b S (pc := 11) (tgt := 18) dX8_levelFor_11 rfl (fun c1 => ?_) (fun c1 => absurd c1 (by omega))
  refine z_aload_n S (pc := 18) dX8_levelFor_18 rfl (lv_at hl 0 rfl) ?_
  refine z_lconst S (pc := 19) (x := 0) dX8_levelFor_19 rfl ?_
  refine z_ldc2 S (pc := 20) (x := 3000000) (by decide +kernel) rfl dX8_levelFor_20 ?_
  have hs2 : Sets (up (up σ 11 (σ 11 + 0)) 0 (3000000)) := sets_tl hs (by omega)
  refine z_callV S (pc := 23) B (wr := []) (wn := fun u2 => [cMod a p1 p2 p3 p4 p5 p6 pm u2.1 u2.2 rd wr sm, cAt E p1 σ ρ, cLon E p2 303 (mat σ ρ)]) (st1 := fun _ => [.long (iL (val0 (rz (up (up σ 11 (σ 11 + 0)) 0 3000000))))]) (As := [.long (iL 0), .long (iL 3000000)]) (mX8_tryReading l E a p1 p2 p3 p4 p5 p6 σ ρ pm ig mo rd wr sm α 0 3000000 (show Sets (up (up σ 11 (σ 11 + 0)) 0 3000000) from by assumption) (show Nums σ from by assumption) (show 0 ≤ σ 11 ∧ σ 11 ≤ 1900000000 from by omega) (show 0 ≤ 0 ∧ 0 ≤ 1000000 from by omega)) gX8_levelFor_X8_tryReading 2 rfl (by decide +kernel) ⟨Nat.le_of_ble_eq_true rfl, Nat.le_of_ble_eq_true rfl, Nat.le_of_ble_eq_true rfl, Nat.le_of_ble_eq_true rfl⟩ 0 rfl (q := (RX8, TX8, 12)) rfl rfl [0, 1, 2] [] [0, 1, 2] rfl rfl ⟨rfl, rfl, rfl, by decide⟩ (fun _ => rfl) rfl (fun _ => rfl) hl.1 (Nat.le_of_ble_eq_true rfl) rfl dX8_levelFor_23 (fun u2 hu2 H locs B => ?_)
  rw [show (val0 (rz (up (up σ 11 (σ 11 + 0)) 0 3000000)) : Int) = vwl σ 3000000 from vwl_m σ _]
  refine z_iload_n S (pc := 26) dX8_levelFor_26 rfl (lv_at hl 1 rfl) ?_
  refine z_i2l S (pc := 27) (by omega) dX8_levelFor_27 ?_
  refine z_lc_ge S (pc := 28) (tgt := 36) (by omega) (by omega) dX8_levelFor_28 dX8_levelFor_29 rfl (fun c3 => ?_) (fun c3 => absurd c3 (by omega))
  refine z_ldc S (pc := 36) (x := (-3000000)) (by decide +kernel) rfl dX8_levelFor_36 ?_
  refine lv_istore_n (lv' := [(2, .int (iI (-3000000))), (0, .ref a), (1, .int (iI va))]) S.1 S.2.1 (pc := 38) dX8_levelFor_38 rfl hl (by decide) rfl (fun ls hl => ?_)
  refine z_ldc S (pc := 39) (x := 3000000) (by decide +kernel) rfl dX8_levelFor_39 ?_
  refine lv_istore_n (lv' := [(3, .int (iI 3000000)), (2, .int (iI (-3000000))), (0, .ref a), (1, .int (iI va))]) S.1 S.2.1 (pc := 41) dX8_levelFor_41 rfl hl (by decide) rfl (fun ls hl => ?_)
  obtain ⟨z, hz⟩ : ∃ z, lfL σ va 32 (-3000000) 3000000 = z := ⟨_, rfl⟩
  have hzb : -3000000 ≤ z ∧ z ≤ 3000000 := by rw [← hz]; exact lfL_bd σ va 32 _ _ (by omega) (by omega) (by omega)
  refine lpX8_levelFor E S a p1 p2 p3 p4 p5 p6 σ ρ pm rd wr sm va hs hn h11 hva 32 (-3000000) 3000000 u2.1 u2.2 (mat σ ρ) (by omega) (by decide) z hz (fun u0 H locs ls B hl => ?_) _ _ _ B (lv_sub hl [2, 3, 1, 0] rfl)
  refine z_iload_n S (pc := 101) dX8_levelFor_101 rfl (lv_at hl 2 rfl) ?_
  refine z_i2l S (pc := 102) (by omega) dX8_levelFor_102 ?_
  exact z_lreturn S hr hlk B ⟨u0.1, u0.2.1, u0.2.2⟩ trivial (by rw [hz]) rfl (pc := 103) dX8_levelFor_103
set_option maxHeartbeats 4000000 in
set_option maxRecDepth 100000 in
theorem mX8_levelFor_m (l : Launch) (E : gT) (a : Nat) (p1 : Nat) (p2 : Nat) (p3 : Nat) (p4 : Nat) (p5 : Nat) (p6 : Nat) (σ : Nat → Int) (ρ : Nat → Int) (pm : Int) (ig : Int) (mo : Int) (rd : Int) (wr : Int) (sm : Int) (α : Nat → Int) (va : Int) (hva : -10000000 ≤ va ∧ va ≤ 10000000) (hge : vwl σ 3000000 < va) (hs : Sets σ) (hn : Nums σ) (h11 : 0 ≤ σ 11 ∧ σ 11 ≤ 1900000000) : Ct l E yX8_levelFor wsX8_levelFor 6 147 0 0 [.ref a, .int (iI va)] [cMod a p1 p2 p3 p4 p5 p6 pm ig mo rd wr sm, cAt E p1 σ ρ, cLon E p2 303 α] (S0 := Int × Int × (Nat → Int)) (fun u0 => True) (fun _ => (some (.long (iL (-1000000000000000006))))) (fun u0 => [cMod a p1 p2 p3 p4 p5 p6 pm u0.1 u0.2.1 rd wr sm, cAt E p1 σ ρ, cLon E p2 303 u0.2.2]) := by
  refine Ct.mk (cc := cX8_levelFor) (maxL := 6) (ret := (some .long)) (plainFor_of_name (by decide)) rfl (Nat.le_of_ble_eq_true rfl) ?_
  intro p e s m below meth c A ls H locs S hr hlk hnm B hl
  have S : CallFix p m c cX8_levelFor 6 s #[.ref a, .int (iI va)] wsX8_levelFor RX8 := S
  have hl : lv_has ls 6 [(0, .ref a), (1, .int (iI va))] := hl
  have hvb := vwl_bd (v := 3000000) hs hn (by omega)
  refine z_iload_n S (pc := 0) dX8_levelFor_0 rfl (lv_at hl 1 rfl) ?_
  refine z_i2l S (pc := 1) (by omega) dX8_levelFor_1 ?_
  refine z_ldc2 S (pc := 2) (x := (-10000000)) (by decide +kernel) rfl dX8_levelFor_2 ?_
  refine z_ldc2 S (pc := 5) (x := 10000000) (by decide +kernel) rfl dX8_levelFor_5 ?_
  refine z_callS S (pc := 8) B (wr := [cMod a p1 p2 p3 p4 p5 p6 pm ig mo rd wr sm, cAt E p1 σ ρ, cLon E p2 303 α]) (wn := fun _ => [cMod a p1 p2 p3 p4 p5 p6 pm ig mo rd wr sm, cAt E p1 σ ρ, cLon E p2 303 α]) (st1 := fun _ => [.int (iI (bI ((-10000000) ≤ va ∧ va ≤ 10000000)))]) (As := [.long (iL va), .long (iL (-10000000)), .long (iL 10000000)]) (mX8_in l E va (-10000000) 10000000 (show inL va from by omega) (show inL (-10000000) from by omega) (show inL 10000000 from by omega)) gX8_levelFor_X8_in 3 rfl (by decide +kernel) ⟨Nat.le_of_ble_eq_true rfl, Nat.le_of_ble_eq_true rfl, Nat.le_of_ble_eq_true rfl, Nat.le_of_ble_eq_true rfl⟩ [] [0, 1, 2] [0, 1, 2] rfl rfl ⟨rfl, rfl, rfl, by decide⟩ (fun _ => rfl) rfl (fun _ => rfl) hl.1 (Nat.le_of_ble_eq_true rfl) rfl dX8_levelFor_8 (fun _ _ H locs B => ?_)
  refine z_ifne_b S (pc := 11) (tgt := 18) dX8_levelFor_11 rfl (fun c1 => ?_) (fun c1 => absurd c1 (by omega))
  refine z_aload_n S (pc := 18) dX8_levelFor_18 rfl (lv_at hl 0 rfl) ?_
  refine z_lconst S (pc := 19) (x := 0) dX8_levelFor_19 rfl ?_
  refine z_ldc2 S (pc := 20) (x := 3000000) (by decide +kernel) rfl dX8_levelFor_20 ?_
  have hs2 : Sets (up (up σ 11 (σ 11 + 0)) 0 (3000000)) := sets_tl hs (by omega)
  refine z_callV S (pc := 23) B (wr := []) (wn := fun u2 => [cMod a p1 p2 p3 p4 p5 p6 pm u2.1 u2.2 rd wr sm, cAt E p1 σ ρ, cLon E p2 303 (mat σ ρ)]) (st1 := fun _ => [.long (iL (val0 (rz (up (up σ 11 (σ 11 + 0)) 0 3000000))))]) (As := [.long (iL 0), .long (iL 3000000)]) (mX8_tryReading l E a p1 p2 p3 p4 p5 p6 σ ρ pm ig mo rd wr sm α 0 3000000 (show Sets (up (up σ 11 (σ 11 + 0)) 0 3000000) from by assumption) (show Nums σ from by assumption) (show 0 ≤ σ 11 ∧ σ 11 ≤ 1900000000 from by omega) (show 0 ≤ 0 ∧ 0 ≤ 1000000 from by omega)) gX8_levelFor_X8_tryReading 2 rfl (by decide +kernel) ⟨Nat.le_of_ble_eq_true rfl, Nat.le_of_ble_eq_true rfl, Nat.le_of_ble_eq_true rfl, Nat.le_of_ble_eq_true rfl⟩ 0 rfl (q := (RX8, TX8, 12)) rfl rfl [0, 1, 2] [] [0, 1, 2] rfl rfl ⟨rfl, rfl, rfl, by decide⟩ (fun _ => rfl) rfl (fun _ => rfl) hl.1 (Nat.le_of_ble_eq_true rfl) rfl dX8_levelFor_23 (fun u2 hu2 H locs B => ?_)
  rw [show (val0 (rz (up (up σ 11 (σ 11 + 0)) 0 3000000)) : Int) = vwl σ 3000000 from vwl_m σ _]
  refine z_iload_n S (pc := 26) dX8_levelFor_26 rfl (lv_at hl 1 rfl) ?_
  refine z_i2l S (pc := 27) (by omega) dX8_levelFor_27 ?_
  refine z_lc_ge S (pc := 28) (tgt := 36) (by omega) (by omega) dX8_levelFor_28 dX8_levelFor_29 rfl (fun c3 => absurd c3 (by omega)) (fun c3 => ?_)
  refine z_ldc2 S (pc := 32) (x := (-1000000000000000006)) (by decide +kernel) rfl dX8_levelFor_32 ?_
  exact z_lreturn S hr hlk B ⟨u2.1, u2.2, mat σ ρ⟩ trivial rfl rfl (pc := 35) dX8_levelFor_35
set_option maxHeartbeats 4000000 in
set_option maxRecDepth 100000 in
theorem mX8_levelFor_b (l : Launch) (E : gT) (a : Nat) (p1 : Nat) (p2 : Nat) (p3 : Nat) (p4 : Nat) (p5 : Nat) (p6 : Nat) (σ : Nat → Int) (ρ : Nat → Int) (pm : Int) (ig : Int) (mo : Int) (rd : Int) (wr : Int) (sm : Int) (va : Int) (hI : inI va) (hbad : (va < -10000000 ∨ 10000000 < va)) : Cd l E yX8_levelFor wsX8_levelFor 6 147 0 0 [.ref a, .int (iI va)] [cMod a p1 p2 p3 p4 p5 p6 pm ig mo rd wr sm] (some (.long (iL (-1000000000000000002)))) [cMod a p1 p2 p3 p4 p5 p6 pm ig mo rd wr sm] := by
  refine Ct.mk (cc := cX8_levelFor) (maxL := 6) (ret := (some .long)) (plainFor_of_name (by decide)) rfl (Nat.le_of_ble_eq_true rfl) ?_
  intro p e s m below meth c A ls H locs S hr hlk hnm B hl
  have S : CallFix p m c cX8_levelFor 6 s #[.ref a, .int (iI va)] wsX8_levelFor RX8 := S
  have hl : lv_has ls 6 [(0, .ref a), (1, .int (iI va))] := hl
  refine z_iload_n S (pc := 0) dX8_levelFor_0 rfl (lv_at hl 1 rfl) ?_
  refine z_i2l S (pc := 1) (by omega) dX8_levelFor_1 ?_
  refine z_ldc2 S (pc := 2) (x := (-10000000)) (by decide +kernel) rfl dX8_levelFor_2 ?_
  refine z_ldc2 S (pc := 5) (x := 10000000) (by decide +kernel) rfl dX8_levelFor_5 ?_
  refine z_callS S (pc := 8) B (wr := [cMod a p1 p2 p3 p4 p5 p6 pm ig mo rd wr sm]) (wn := fun _ => [cMod a p1 p2 p3 p4 p5 p6 pm ig mo rd wr sm]) (st1 := fun _ => [.int (iI (bI ((-10000000) ≤ va ∧ va ≤ 10000000)))]) (As := [.long (iL va), .long (iL (-10000000)), .long (iL 10000000)]) (mX8_in l E va (-10000000) 10000000 (show inL va from by omega) (show inL (-10000000) from by omega) (show inL 10000000 from by omega)) gX8_levelFor_X8_in 3 rfl (by decide +kernel) ⟨Nat.le_of_ble_eq_true rfl, Nat.le_of_ble_eq_true rfl, Nat.le_of_ble_eq_true rfl, Nat.le_of_ble_eq_true rfl⟩ [] [0] [0] rfl rfl ⟨rfl, rfl, rfl, by decide⟩ (fun _ => rfl) rfl (fun _ => rfl) hl.1 (Nat.le_of_ble_eq_true rfl) rfl dX8_levelFor_8 (fun _ _ H locs B => ?_)
  refine z_ifne_b S (pc := 11) (tgt := 18) dX8_levelFor_11 rfl (fun c1 => absurd c1 (by omega)) (fun c1 => ?_)
  refine z_ldc2 S (pc := 14) (x := (-1000000000000000002)) (by decide +kernel) rfl dX8_levelFor_14 ?_
  exact z_lreturn S hr hlk B () trivial rfl rfl (pc := 17) dX8_levelFor_17
def stS : Nat → Int → (Nat → Int) → Int
  | 0, _, _ => -6
  | m + 1, b, σ => if rdS σ 10 = σ 10 then b else stS m (b + 1) (rdS σ)
theorem cvt_14 (σ : Nat → Int) (g x : Int) : cvt (up σ 14 x) g = up (cvt σ g) 14 x := by
  funext j
  by_cases h : j = 14
  · subst h; rfl
  · rw [up_n _ _ h]
    unfold cvt
    split <;> first | rfl | exact up_n _ _ h
theorem rz_u14 (σ : Nat → Int) (x : Int) : rz (up σ 14 x) = up (rz σ) 14 x := by
  unfold rz
  show (if 0 < σ 8 then (if σ 13 = 0 then up (up (cvt (up σ 14 x) 0) 12 (cnt σ 0)) 13 (σ 8 - 1) else up (up σ 14 x) 13 (σ 13 - 1)) else up σ 14 x) = _
  split
  · split
    · rw [cvt_14, up_comm (cvt σ 0) x (cnt σ 0) (by decide), up_comm _ x (σ 8 - 1) (by decide)]
    · rw [up_comm σ x (σ 13 - 1) (by decide)]
  · rfl
theorem rd0_u14 (τ : Nat → Int) (x : Int) : rd0 (up τ 14 x) = up (rd0 τ) 14 x := by
  show up (cvt (up τ 14 x) (gn (τ 10))) 10 (rg0 τ) = _
  rw [cvt_14, up_comm _ x (rg0 τ) (by decide)]
  rfl
theorem rdM_u14 (σ : Nat → Int) (x : Int) : rdM (up σ 14 x) = up (rdM σ) 14 x := by
  unfold rdM
  rw [rz_u14, rd0_u14]
theorem stS_stL : ∀ (m : Nat) (b : Int) (σ : Nat → Int) (x : Int), stS m b (up σ 14 x) = stL m b σ := by
  intro m
  induction m with
  | zero => intro b σ x; rfl
  | succ m ih =>
    intro b σ x
    have e : rdS (up σ 14 x) = up (rdM σ) 14 (x + 1) := by
      show up (rdM (up σ 14 x)) 14 (x + 1) = _
      rw [rdM_u14]
      exact up_up _ _ _ _
    simp only [stS, stL]
    rw [e, ih]
    rfl
theorem iX8_settle_X8 : ∀ w ∈ wsX80, w ∈ wsX8_settle := by decide +kernel
set_option maxHeartbeats 4000000 in
set_option maxRecDepth 100000 in
theorem lpX8_settle {p : Program} {l : Launch} {e : Env} {s : State} {m : MethodId} {args : Array Value} {below : List Frame} {meth : Method} {c : Code} {Q : State → Prop} {A : Nat → Prop} (E : gT) (S : CallFix p m c cX8_settle 5 s args wsX8_settle RX8) (a : Nat) (p1 : Nat) (p2 : Nat) (p3 : Nat) (p4 : Nat) (p5 : Nat) (p6 : Nat) (σ : Nat → Int) (ρ : Nat → Int) (pm : Int) (rd : Int) (wr : Int) (sm : Int) (h14 : 0 ≤ σ 14 ∧ σ 14 ≤ 10000) :
    ∀ (n : Nat) (k : Int) (σ2 : Nat → Int) (ρ2 : Nat → Int) (ig : Int) (mo : Int) (hk : 0 ≤ k ∧ k + (n : Int) = 21) (hs2 : Sets σ2) (hn2 : Nums σ2) (ht2 : 0 ≤ σ2 11 ∧ σ2 11 ≤ 1900000000 + 3300 * k ∧ σ2 14 ≤ 10000 + k) (res : Int) (hres : stS n k σ2 = res) (hx : ∀ (u0 : (Nat → Int) × (Nat → Int) × Int × Int) (H : Heap) (locs : List Loc) (ls : Array Slot), bw E A s H locs [cMod a p1 p2 p3 p4 p5 p6 pm u0.2.2.1 u0.2.2.2 rd wr sm, cAt E p1 u0.1 u0.2.1, cLon E p2 303 (mat σ ρ)] → lv_has ls 5 [(0, .ref a), (1, .int (iI res))] → W p l e ({ frames := 5, cells := 0, slots := 0, locals := 121 } : Room) s m args below meth c H locs 0 0 Q (F0 m 57 ls [])) (H : Heap) (locs : List Loc) (ls : Array Slot) (B : bw E A s H locs [cMod a p1 p2 p3 p4 p5 p6 pm ig mo rd wr sm, cAt E p1 σ2 ρ2, cLon E p2 303 (mat σ ρ)]) (hl : lv_has ls 5 [(0, .ref a), (1, .int (iI (-6))), (2, .int (iI k))]), W p l e ({ frames := 5, cells := 0, slots := 0, locals := 121 } : Room) s m args below meth c H locs 0 0 Q (F0 m 9 ls []) := by
  intro n
  induction n with
  | zero =>
    intro k σ2 ρ2 ig mo hk hs2 hn2 ht2 res hres hx H locs ls B hl
    refine z_iload_n S (pc := 9) dX8_settle_9 rfl (lv_at hl 2 rfl) ?_
    refine z_bipush S (pc := 10) dX8_settle_10 rfl ?_
    refine z_icmp_gt S (pc := 12) (tgt := 57) (by omega) (by omega) dX8_settle_12 rfl (fun c1 => ?_) (fun c1 => absurd c1 (by omega))
    subst hres
    exact hx ⟨σ2, ρ2, ig, mo⟩ _ _ _ B (lv_sub hl [0, 1] rfl)
  | succ n ih =>
    intro k σ2 ρ2 ig mo hk hs2 hn2 ht2 res hres hx H locs ls B hl
    obtain ⟨g0, g1, g2_, g3, g4, g5, g6, g7, g8, g9, g10⟩ := id hs2
    obtain ⟨f0, f1, f2_, f3, f4, f5, f6, f7, f8, f9, f10⟩ := id (rdS_sets hs2)
    refine z_iload_n S (pc := 9) dX8_settle_9 rfl (lv_at hl 2 rfl) ?_
    refine z_bipush S (pc := 10) dX8_settle_10 rfl ?_
    refine z_icmp_gt S (pc := 12) (tgt := 57) (by omega) (by omega) dX8_settle_12 rfl (fun c1 => ?_) (fun c1 => ?_)
    · exact absurd c1 (by omega)
    · refine z_iload_n S (pc := 15) dX8_settle_15 rfl (lv_at hl 1 rfl) ?_
      refine z_if_ge S (pc := 16) (tgt := 57) (by omega) dX8_settle_16 rfl (fun c2 => absurd c2 (by omega)) (fun c2 => ?_)
      refine z_aload_n S (pc := 19) dX8_settle_19 rfl (lv_at hl 0 rfl) ?_
      refine z_get S (pc := 20) B iX8_settle_X8 0 rfl rfl 0 (by decide) rfl rfl (by decide +kernel) dX8_settle_20 ?_
      refine z_bipush S (pc := 23) dX8_settle_23 rfl ?_
      refine z_lald S (pc := 25) B 1 2 rfl rfl (k := 10) rfl (by decide) (by decide) (v := .long (iL (σ2 10))) rfl dX8_settle_25 ?_
      refine lv_lstore_n (lv' := [(3, .long (iL (σ2 10))), (0, .ref a), (1, .int (iI (-6))), (2, .int (iI k))]) S.1 S.2.1 (pc := 26) dX8_settle_26 rfl hl (by decide) rfl (fun ls hl => ?_)
      refine z_aload_n S (pc := 27) dX8_settle_27 rfl (lv_at hl 1 rfl) ?_
      refine z_callV S (pc := 28) B (wr := [cLon E p2 303 (mat σ ρ)]) (wn := fun _ => [cMod a p1 p2 p3 p4 p5 p6 pm ((cvF (rz σ2) (gn (rz σ2 10))).1) (ov0 (rz σ2)) rd wr sm, cAt E p1 (rdS σ2) (rowS σ2 ρ2), cLon E p2 303 (mat σ ρ)]) (st1 := fun _ => [.long (iL (val0 (rz σ2)))]) (As := []) (mX8_makeReading l E a p1 p2 p3 p4 p5 p6 σ2 ρ2 pm ig mo rd wr sm (show Sets σ2 from by assumption) (show Nums σ2 from by assumption) (show 0 ≤ σ2 11 ∧ σ2 11 ≤ 2000000000 from by omega)) gX8_settle_X8_makeReading 0 rfl (by decide +kernel) ⟨Nat.le_of_ble_eq_true rfl, Nat.le_of_ble_eq_true rfl, Nat.le_of_ble_eq_true rfl, Nat.le_of_ble_eq_true rfl⟩ 0 rfl (q := (RX8, TX8, 12)) rfl rfl [0, 1] [2] [1, 2, 0] rfl rfl ⟨rfl, rfl, rfl, by decide⟩ (fun _ => rfl) rfl (fun _ => rfl) hl.1 (Nat.le_of_ble_eq_true rfl) rfl dX8_settle_28 (fun _ _ H locs B => ?_)
      refine lv_pop2_2 S.1 S.2.1 (pc := 31) dX8_settle_31 rfl ?_
      refine z_aload_n S (pc := 32) dX8_settle_32 rfl (lv_at hl 1 rfl) ?_
      refine z_get S (pc := 33) B iX8_settle_X8 0 rfl rfl 0 (by decide) rfl rfl (by decide +kernel) dX8_settle_33 ?_
      refine z_bipush S (pc := 36) dX8_settle_36 rfl ?_
      refine z_lald S (pc := 38) B 1 2 rfl rfl (k := 10) rfl (by decide) (by decide) (v := .long (iL ((rdS σ2) 10))) rfl dX8_settle_38 ?_
      refine z_lload_n S (pc := 39) dX8_settle_39 rfl (lv_at hl 0 rfl) ?_
      refine z_lc_ne S (pc := 40) (tgt := 48) (by omega) (by omega) dX8_settle_40 dX8_settle_41 rfl (fun c3 => ?_) (fun c3 => ?_)
      · refine z_bipush S (pc := 48) dX8_settle_48 rfl ?_
        refine lv_istore_n (lv' := [(1, .int (iI (-6))), (3, .long (iL (σ2 10))), (0, .ref a), (2, .int (iI k))]) S.1 S.2.1 (pc := 50) dX8_settle_50 rfl hl (by decide) rfl (fun ls hl => ?_)
        refine lv_iinc (v := iI (k + 1)) (lv' := [(2, .int (iI (k + 1))), (1, .int (iI (-6))), (3, .long (iL (σ2 10))), (0, .ref a)]) S.1 S.2.1 (pc := 51) dX8_settle_51 hl (k := 3) rfl (iI_add _ _) (by decide) rfl (fun ls hl => ?_)
        refine lv_goto S.1 S.2.1 (pc := 54) (tgt := 9) dX8_settle_54 rfl ?_
        exact ih (k + 1) (rdS σ2) (rowS σ2 ρ2) ((cvF (rz σ2) (gn (rz σ2 10))).1) (ov0 (rz σ2)) (by omega) (rdS_sets hs2) (rdS_nums hs2 hn2 (by omega)) (by have e14 := rdS_14 σ2; have t14 := rdS_time hs2; omega) res (by rw [← hres]; simp only [stS]; rw [if_neg (by omega)]) hx _ _ _ B (lv_sub hl [3, 1, 0] rfl)
      · refine z_iload_n S (pc := 44) dX8_settle_44 rfl (lv_at hl 3 rfl) ?_
        refine lv_goto S.1 S.2.1 (pc := 45) (tgt := 50) dX8_settle_45 rfl ?_
        refine lv_istore_n (lv' := [(1, .int (iI k)), (3, .long (iL (σ2 10))), (0, .ref a), (2, .int (iI k))]) S.1 S.2.1 (pc := 50) dX8_settle_50 rfl hl (by decide) rfl (fun ls hl => ?_)
        refine lv_iinc (v := iI (k + 1)) (lv' := [(2, .int (iI (k + 1))), (1, .int (iI k)), (3, .long (iL (σ2 10))), (0, .ref a)]) S.1 S.2.1 (pc := 51) dX8_settle_51 hl (k := 3) rfl (iI_add _ _) (by decide) rfl (fun ls hl => ?_)
        refine lv_goto S.1 S.2.1 (pc := 54) (tgt := 9) dX8_settle_54 rfl ?_
        refine z_iload_n S (pc := 9) dX8_settle_9 rfl (lv_at hl 0 rfl) ?_
        refine z_bipush S (pc := 10) dX8_settle_10 rfl ?_
        refine z_icmp_gt S (pc := 12) (tgt := 57) (by omega) (by omega) dX8_settle_12 rfl (fun c4 => ?_) (fun c4 => ?_)
        · have hres : k = res := by rw [← hres]; simp only [stS]; rw [if_pos (by omega)]
          subst hres
          exact hx ⟨rdS σ2, rowS σ2 ρ2, (cvF (rz σ2) (gn (rz σ2 10))).1, ov0 (rz σ2)⟩ _ _ _ B (lv_sub hl [3, 1] rfl)
        · refine z_iload_n S (pc := 15) dX8_settle_15 rfl (lv_at hl 1 rfl) ?_
          refine z_if_ge S (pc := 16) (tgt := 57) (by omega) dX8_settle_16 rfl (fun c5 => ?_) (fun c5 => absurd c5 (by omega))
          have hres : k = res := by rw [← hres]; simp only [stS]; rw [if_pos (by omega)]
          subst hres
          exact hx ⟨rdS σ2, rowS σ2 ρ2, (cvF (rz σ2) (gn (rz σ2 10))).1, ov0 (rz σ2)⟩ _ _ _ B (lv_sub hl [3, 1] rfl)
set_option maxHeartbeats 4000000 in
set_option maxRecDepth 100000 in
theorem mX8_settle (l : Launch) (E : gT) (a : Nat) (p1 : Nat) (p2 : Nat) (p3 : Nat) (p4 : Nat) (p5 : Nat) (p6 : Nat) (σ : Nat → Int) (ρ : Nat → Int) (pm : Int) (ig : Int) (mo : Int) (rd : Int) (wr : Int) (sm : Int) (α : Nat → Int) (h14 : 0 ≤ σ 14 ∧ σ 14 ≤ 10000) (hs : Sets σ) (hn : Nums σ) (h11 : 0 ≤ σ 11 ∧ σ 11 ≤ 1900000000) : Ct l E yX8_settle wsX8_settle 5 121 0 0 [.ref a] [cMod a p1 p2 p3 p4 p5 p6 pm ig mo rd wr sm, cAt E p1 σ ρ, cLon E p2 303 α] (S0 := Int × Int × (Nat → Int)) (fun u0 => True) (fun _ => (some (.int (iI (stL 21 0 σ))))) (fun u0 => [cMod a p1 p2 p3 p4 p5 p6 pm u0.1 u0.2.1 rd wr sm, cAt E p1 σ ρ, cLon E p2 303 u0.2.2]) := by
  refine Ct.mk (cc := cX8_settle) (maxL := 5) (ret := (some .int)) (plainFor_of_name (by decide)) rfl (Nat.le_of_ble_eq_true rfl) ?_
  intro p e s m below meth c A ls H locs S hr hlk hnm B hl
  have S : CallFix p m c cX8_settle 5 s #[.ref a] wsX8_settle RX8 := S
  have hl : lv_has ls 5 [(0, .ref a)] := hl
  refine z_aload_n S (pc := 0) dX8_settle_0 rfl (lv_at hl 0 rfl) ?_
  refine z_callV S (pc := 1) B (wr := []) (wn := fun _ => [cMod a p1 p2 p3 p4 p5 p6 pm ig mo rd wr sm, cAt E p1 σ ρ, cLon E p2 303 (mat σ ρ)]) (st1 := fun _ => []) (As := []) (mX8_putAside l E a p1 p2 p3 p4 p5 p6 σ ρ pm ig mo rd wr sm α ) gX8_settle_X8_putAside 0 rfl (by decide +kernel) ⟨Nat.le_of_ble_eq_true rfl, Nat.le_of_ble_eq_true rfl, Nat.le_of_ble_eq_true rfl, Nat.le_of_ble_eq_true rfl⟩ 0 rfl (q := (RX8, TX8, 12)) rfl rfl [0, 1, 2] [] [0, 1, 2] rfl rfl ⟨rfl, rfl, rfl, by decide⟩ (fun _ => rfl) rfl (fun _ => rfl) hl.1 (Nat.le_of_ble_eq_true rfl) rfl dX8_settle_1 (fun _ _ H locs B => ?_)
  refine z_bipush S (pc := 4) dX8_settle_4 rfl ?_
  refine lv_istore_n (lv' := [(1, .int (iI (-6))), (0, .ref a)]) S.1 S.2.1 (pc := 6) dX8_settle_6 rfl hl (by decide) rfl (fun ls hl => ?_)
  refine z_iconst S (pc := 7) dX8_settle_7 ?_
  refine lv_istore_n (lv' := [(2, .int (iI 0)), (1, .int (iI (-6))), (0, .ref a)]) S.1 S.2.1 (pc := 8) dX8_settle_8 rfl hl (by decide) rfl (fun ls hl => ?_)
  have hst : stS 21 0 σ = stL 21 0 σ := by have e := stS_stL 21 0 σ (σ 14); rw [up_self] at e; exact e
  obtain ⟨z, hz⟩ : ∃ z, stL 21 0 σ = z := ⟨_, rfl⟩
  refine lpX8_settle E S a p1 p2 p3 p4 p5 p6 σ ρ pm rd wr sm h14 21 0 σ ρ ig mo (by omega) hs hn (by omega) z (by rw [hst]; exact hz) (fun u0 H locs ls B hl => ?_) _ _ _ B (lv_sub hl [2, 1, 0] rfl)
  refine z_aload_n S (pc := 57) dX8_settle_57 rfl (lv_at hl 0 rfl) ?_
  refine z_callV S (pc := 58) B (wr := []) (wn := fun _ => [cMod a p1 p2 p3 p4 p5 p6 pm u0.2.2.1 u0.2.2.2 rd wr sm, cAt E p1 σ ρ, cLon E p2 303 (mat σ ρ)]) (st1 := fun _ => []) (As := []) (mX8_putBack l E a p1 p2 p3 p4 p5 p6 σ ρ pm u0.2.2.1 u0.2.2.2 rd wr sm u0.1 u0.2.1 ) gX8_settle_X8_putBack 0 rfl (by decide +kernel) ⟨Nat.le_of_ble_eq_true rfl, Nat.le_of_ble_eq_true rfl, Nat.le_of_ble_eq_true rfl, Nat.le_of_ble_eq_true rfl⟩ 0 rfl (q := (RX8, TX8, 12)) rfl rfl [0, 1, 2] [] [0, 1, 2] rfl rfl ⟨rfl, rfl, rfl, by decide⟩ (fun _ => rfl) rfl (fun _ => rfl) hl.1 (Nat.le_of_ble_eq_true rfl) rfl dX8_settle_58 (fun _ _ H locs B => ?_)
  refine z_iload_n S (pc := 61) dX8_settle_61 rfl (lv_at hl 1 rfl) ?_
  exact z_ireturn S hr hlk B ⟨u0.2.2.1, u0.2.2.2, (mat σ ρ)⟩ trivial (by rw [hz]) rfl (pc := 62) dX8_settle_62
theorem sl_step {α θ f : Nat → Int} {b k : Nat} (hk : k < 303) (h : (∀ j : Nat, j < k → α (b + j) = f j) ∧ ∀ j : Nat, (j < b ∨ b + 303 ≤ j) → α j = θ j) : (∀ j : Nat, j < k + 1 → up α (b + k) (f k) (b + j) = f j) ∧ ∀ j : Nat, (j < b ∨ b + 303 ≤ j) → up α (b + k) (f k) j = θ j :=
  ⟨up_lt2 h.1, fun j hj => by rw [up_n _ _ (by omega)]; exact h.2 j hj⟩
theorem iX8_save_X8 : ∀ w ∈ wsX80, w ∈ wsX8_save := by decide +kernel
set_option maxHeartbeats 4000000 in
set_option maxRecDepth 100000 in
theorem lpX8_save_0 {p : Program} {l : Launch} {e : Env} {s : State} {m : MethodId} {args : Array Value} {below : List Frame} {meth : Method} {c : Code} {Q : State → Prop} {A : Nat → Prop} (E : gT) (S : CallFix p m c cX8_save 3 s args wsX8_save RX8) (a : Nat) (p1 : Nat) (p2 : Nat) (p3 : Nat) (p4 : Nat) (p5 : Nat) (p6 : Nat) (σ : Nat → Int) (ρ : Nat → Int) (pm : Int) (ig : Int) (mo : Int) (rd : Int) (wr : Int) (sm : Int) (θ : Nat → Int) (β : Nat → Int) :
    ∀ (n k : Nat) (α : Nat → Int) (hk : k + n = 303) (hα : (∀ j : Nat, j < k → α (0 + j) = mat σ ρ j) ∧ ∀ j : Nat, (j < 0 ∨ 0 + 303 ≤ j) → α j = θ j) (hx : ∀ (α : Nat → Int) (hα : (∀ j : Nat, j < 303 → α (0 + j) = mat σ ρ j) ∧ ∀ j : Nat, (j < 0 ∨ 0 + 303 ≤ j) → α j = θ j) (H : Heap) (locs : List Loc) (ls : Array Slot), bw E A s H locs [cMod a p1 p2 p3 p4 p5 p6 pm ig mo rd wr sm, cAt E p1 σ ρ, cLon E p3 606 α, cIsv E p4 β] → lv_has ls 3 [(0, .ref a), (1, .int (iI 0))] → W p l e ({ frames := 1, cells := 0, slots := 0, locals := 25 } : Room) s m args below meth c H locs 0 0 Q (F0 m 46 ls [])) (H : Heap) (locs : List Loc) (ls : Array Slot) (B : bw E A s H locs [cMod a p1 p2 p3 p4 p5 p6 pm ig mo rd wr sm, cAt E p1 σ ρ, cLon E p3 606 α, cIsv E p4 β]) (hl : lv_has ls 3 [(0, .ref a), (1, .int (iI 0)), (2, .int (iI (k : Int)))]), W p l e ({ frames := 1, cells := 0, slots := 0, locals := 25 } : Room) s m args below meth c H locs 0 0 Q (F0 m 15 ls []) := by
  intro n
  induction n with
  | zero =>
    intro k α hk hα hx H locs ls B hl
    refine z_iload_n S (pc := 15) dX8_save_15 rfl (lv_at hl 2 rfl) ?_
    refine z_sipush S (pc := 16) dX8_save_16 rfl ?_
    refine z_icmp_ge S (pc := 19) (tgt := 46) (by omega) (by omega) dX8_save_19 rfl (fun c1 => ?_) (fun c1 => absurd c1 (by omega))
    obtain rfl : k = 303 := by omega
    exact hx α hα _ _ _ B (lv_sub hl [0, 1] rfl)
  | succ n ih =>
    intro k α hk hα hx H locs ls B hl
    refine z_iload_n S (pc := 15) dX8_save_15 rfl (lv_at hl 2 rfl) ?_
    refine z_sipush S (pc := 16) dX8_save_16 rfl ?_
    refine z_icmp_ge S (pc := 19) (tgt := 46) (by omega) (by omega) dX8_save_19 rfl (fun c1 => absurd c1 (by omega)) (fun c1 => ?_)
    refine z_aload_n S (pc := 22) dX8_save_22 rfl (lv_at hl 0 rfl) ?_
    refine z_get S (pc := 23) B iX8_save_X8 0 rfl rfl 2 (by decide) rfl rfl (by decide +kernel) dX8_save_23 ?_
    refine z_sipush S (pc := 26) dX8_save_26 rfl ?_
    refine z_iload_n S (pc := 29) dX8_save_29 rfl (lv_at hl 1 rfl) ?_
    refine z_imul S (pc := 30) dX8_save_30 ?_
    refine z_iload_n S (pc := 31) dX8_save_31 rfl (lv_at hl 2 rfl) ?_
    refine z_iadd S (pc := 32) dX8_save_32 ?_
    refine z_aload_n S (pc := 33) dX8_save_33 rfl (lv_at hl 0 rfl) ?_
    refine z_get S (pc := 34) B iX8_save_X8 0 rfl rfl 0 (by decide) rfl rfl (by decide +kernel) dX8_save_34 ?_
    refine z_iload_n S (pc := 37) dX8_save_37 rfl (lv_at hl 2 rfl) ?_
    refine z_lald S (pc := 38) B 1 2 rfl rfl (k := k) rfl (by omega) (by decide) (v := .long (iL (mat σ ρ k))) rfl dX8_save_38 ?_
    refine z_last S (pc := 39) B 2 2 rfl rfl (k := 0 + k) (by omega) (by omega) (by decide) dX8_save_39 (wn := [cMod a p1 p2 p3 p4 p5 p6 pm ig mo rd wr sm, cAt E p1 σ ρ, cLon E p3 606 (up α (0 + k) (mat σ ρ k)), cIsv E p4 β]) (by rw [lat_up]; rfl) (fun H locs B => ?_)
    refine lv_iinc (v := iI ((k : Int) + 1)) (lv' := [(2, .int (iI ((k : Int) + 1))), (0, .ref a), (1, .int (iI 0))]) S.1 S.2.1 (pc := 40) dX8_save_40 hl (k := 2) rfl (iI_add _ _) (by decide) rfl (fun ls hl => ?_)
    refine lv_goto S.1 S.2.1 (pc := 43) (tgt := 15) dX8_save_43 rfl ?_
    have e1 : (k : Int) + 1 = ((k + 1 : Nat) : Int) := by omega
    rw [e1] at hl
    exact ih (k + 1) _ (by omega) (sl_step (by omega) hα) hx _ _ _ B (lv_sub hl [1, 2, 0] rfl)
set_option maxHeartbeats 4000000 in
set_option maxRecDepth 100000 in
theorem mX8_save_0 (l : Launch) (E : gT) (a : Nat) (p1 : Nat) (p2 : Nat) (p3 : Nat) (p4 : Nat) (p5 : Nat) (p6 : Nat) (σ : Nat → Int) (ρ : Nat → Int) (pm : Int) (ig : Int) (mo : Int) (rd : Int) (wr : Int) (sm : Int) (θ : Nat → Int) (β : Nat → Int) (h14 : 0 ≤ σ 14 ∧ σ 14 ≤ 20000) : Ct l E yX8_save wsX8_save 1 25 0 0 [.ref a, .int (iI 0)] [cMod a p1 p2 p3 p4 p5 p6 pm ig mo rd wr sm, cAt E p1 σ ρ, cLon E p3 606 θ, cIsv E p4 β] (S0 := (Nat → Int)) (fun u0 => (∀ j : Nat, j < 303 → u0 (0 + j) = mat σ ρ j) ∧ ∀ j : Nat, (j < 0 ∨ 0 + 303 ≤ j) → u0 j = θ j) (fun _ => (some (.int (iI (σ 14))))) (fun u0 => [cMod a p1 p2 p3 p4 p5 p6 pm ig mo rd wr sm, cAt E p1 σ ρ, cLon E p3 606 u0, cIsv E p4 (up β 0 1)]) := by
  refine Ct.mk (cc := cX8_save) (maxL := 3) (ret := (some .int)) (plainFor_of_name (by decide)) rfl (Nat.le_of_ble_eq_true rfl) ?_
  intro p e s m below meth c A ls H locs S hr hlk hnm B hl
  have S : CallFix p m c cX8_save 3 s #[.ref a, .int (iI 0)] wsX8_save RX8 := S
  have hl : lv_has ls 3 [(0, .ref a), (1, .int (iI 0))] := hl
  refine z_iload_n S (pc := 0) dX8_save_0 rfl (lv_at hl 1 rfl) ?_
  refine z_i2l S (pc := 1) (by omega) dX8_save_1 ?_
  refine z_lconst S (pc := 2) (x := 0) dX8_save_2 rfl ?_
  refine z_lconst S (pc := 3) (x := 1) dX8_save_3 rfl ?_
  refine z_callS S (pc := 4) B (wr := [cMod a p1 p2 p3 p4 p5 p6 pm ig mo rd wr sm, cAt E p1 σ ρ, cLon E p3 606 θ, cIsv E p4 β]) (wn := fun _ => [cMod a p1 p2 p3 p4 p5 p6 pm ig mo rd wr sm, cAt E p1 σ ρ, cLon E p3 606 θ, cIsv E p4 β]) (st1 := fun _ => [.int (iI (bI (0 ≤ 0 ∧ 0 ≤ 1)))]) (As := [.long (iL 0), .long (iL 0), .long (iL 1)]) (mX8_in l E 0 0 1 (show inL 0 from by omega) (show inL 0 from by omega) (show inL 1 from by omega)) gX8_save_X8_in 3 rfl (by decide +kernel) ⟨Nat.le_of_ble_eq_true rfl, Nat.le_of_ble_eq_true rfl, Nat.le_of_ble_eq_true rfl, Nat.le_of_ble_eq_true rfl⟩ [] [0, 1, 2, 3] [0, 1, 2, 3] rfl rfl ⟨rfl, rfl, rfl, by decide⟩ (fun _ => rfl) rfl (fun _ => rfl) hl.1 (Nat.le_of_ble_eq_true rfl) rfl dX8_save_4 (fun _ _ H locs B => ?_)
  refine z_ifne_b S (pc := 7) (tgt := 13) dX8_save_7 rfl (fun c1 => ?_) (fun c1 => absurd c1 (by omega))
  refine z_iconst S (pc := 13) dX8_save_13 ?_
  refine lv_istore_n (lv' := [(2, .int (iI 0)), (0, .ref a), (1, .int (iI 0))]) S.1 S.2.1 (pc := 14) dX8_save_14 rfl hl (by decide) rfl (fun ls hl => ?_)
  refine lpX8_save_0 E S a p1 p2 p3 p4 p5 p6 σ ρ pm ig mo rd wr sm θ β 303 0 θ (by omega) ⟨fun j hj => absurd hj (by omega), fun j hj => rfl⟩ (fun α hα H locs ls B hl => ?_) _ _ _ B (lv_sub hl [1, 2, 0] rfl)
  refine z_aload_n S (pc := 46) dX8_save_46 rfl (lv_at hl 0 rfl) ?_
  refine z_get S (pc := 47) B iX8_save_X8 0 rfl rfl 3 (by decide) rfl rfl (by decide +kernel) dX8_save_47 ?_
  refine z_iload_n S (pc := 50) dX8_save_50 rfl (lv_at hl 1 rfl) ?_
  refine z_iconst S (pc := 51) dX8_save_51 ?_
  refine z_zast S (pc := 52) B 3 3 rfl rfl (k := 0) rfl (by decide) (by decide) rfl dX8_save_52 (wn := [cMod a p1 p2 p3 p4 p5 p6 pm ig mo rd wr sm, cAt E p1 σ ρ, cLon E p3 606 α, cIsv E p4 (up β 0 1)]) (by rw [iat_up]; rfl) (fun H locs B => ?_)
  refine z_aload_n S (pc := 53) dX8_save_53 rfl (lv_at hl 0 rfl) ?_
  refine z_get S (pc := 54) B iX8_save_X8 0 rfl rfl 0 (by decide) rfl rfl (by decide +kernel) dX8_save_54 ?_
  refine z_bipush S (pc := 57) dX8_save_57 rfl ?_
  refine z_lald S (pc := 59) B 1 2 rfl rfl (k := 14) rfl (by decide) (by decide) (v := .long (iL (σ 14))) rfl dX8_save_59 ?_
  refine z_l2i S (pc := 60) dX8_save_60 ?_
  exact z_ireturn S hr hlk B α hα rfl rfl (pc := 61) dX8_save_61
theorem iX8_restore_X8 : ∀ w ∈ wsX80, w ∈ wsX8_restore := by decide +kernel
set_option maxHeartbeats 4000000 in
set_option maxRecDepth 100000 in
theorem lpX8_restore_0 {p : Program} {l : Launch} {e : Env} {s : State} {m : MethodId} {args : Array Value} {below : List Frame} {meth : Method} {c : Code} {Q : State → Prop} {A : Nat → Prop} (E : gT) (S : CallFix p m c cX8_restore 3 s args wsX8_restore RX8) (a : Nat) (p1 : Nat) (p2 : Nat) (p3 : Nat) (p4 : Nat) (p5 : Nat) (p6 : Nat) (σ : Nat → Int) (ρ : Nat → Int) (pm : Int) (ig : Int) (mo : Int) (rd : Int) (wr : Int) (sm : Int) (θ : Nat → Int) (β : Nat → Int) (hθ : ∀ j : Nat, j < 303 → θ (0 + j) = mat σ ρ j) :
    ∀ (n k : Nat) (α : Nat → Int) (hk : k + n = 303) (hα : ∀ j : Nat, j < k → α j = mat σ ρ j) (hx : ∀ (α : Nat → Int) (hα : ∀ j : Nat, j < 303 → α j = mat σ ρ j) (H : Heap) (locs : List Loc) (ls : Array Slot), bw E A s H locs [cMod a p1 p2 p3 p4 p5 p6 pm ig mo rd wr sm, cLon E p1 303 α, cLon E p3 606 θ, cIsv E p4 β] → lv_has ls 3 [(0, .ref a), (1, .int (iI 0))] → W p l e ({ frames := 1, cells := 0, slots := 0, locals := 25 } : Room) s m args below meth c H locs 0 0 Q (F0 m 58 ls [])) (H : Heap) (locs : List Loc) (ls : Array Slot) (B : bw E A s H locs [cMod a p1 p2 p3 p4 p5 p6 pm ig mo rd wr sm, cLon E p1 303 α, cLon E p3 606 θ, cIsv E p4 β]) (hl : lv_has ls 3 [(0, .ref a), (1, .int (iI 0)), (2, .int (iI (k : Int)))]), W p l e ({ frames := 1, cells := 0, slots := 0, locals := 25 } : Room) s m args below meth c H locs 0 0 Q (F0 m 27 ls []) := by
  intro n
  induction n with
  | zero =>
    intro k α hk hα hx H locs ls B hl
    refine z_iload_n S (pc := 27) dX8_restore_27 rfl (lv_at hl 2 rfl) ?_
    refine z_sipush S (pc := 28) dX8_restore_28 rfl ?_
    refine z_icmp_ge S (pc := 31) (tgt := 58) (by omega) (by omega) dX8_restore_31 rfl (fun c1 => ?_) (fun c1 => absurd c1 (by omega))
    obtain rfl : k = 303 := by omega
    exact hx α hα _ _ _ B (lv_sub hl [0, 1] rfl)
  | succ n ih =>
    intro k α hk hα hx H locs ls B hl
    refine z_iload_n S (pc := 27) dX8_restore_27 rfl (lv_at hl 2 rfl) ?_
    refine z_sipush S (pc := 28) dX8_restore_28 rfl ?_
    refine z_icmp_ge S (pc := 31) (tgt := 58) (by omega) (by omega) dX8_restore_31 rfl (fun c1 => absurd c1 (by omega)) (fun c1 => ?_)
    refine z_aload_n S (pc := 34) dX8_restore_34 rfl (lv_at hl 0 rfl) ?_
    refine z_get S (pc := 35) B iX8_restore_X8 0 rfl rfl 0 (by decide) rfl rfl (by decide +kernel) dX8_restore_35 ?_
    refine z_iload_n S (pc := 38) dX8_restore_38 rfl (lv_at hl 2 rfl) ?_
    refine z_aload_n S (pc := 39) dX8_restore_39 rfl (lv_at hl 0 rfl) ?_
    refine z_get S (pc := 40) B iX8_restore_X8 0 rfl rfl 2 (by decide) rfl rfl (by decide +kernel) dX8_restore_40 ?_
    refine z_sipush S (pc := 43) dX8_restore_43 rfl ?_
    refine z_iload_n S (pc := 46) dX8_restore_46 rfl (lv_at hl 1 rfl) ?_
    refine z_imul S (pc := 47) dX8_restore_47 ?_
    refine z_iload_n S (pc := 48) dX8_restore_48 rfl (lv_at hl 2 rfl) ?_
    refine z_iadd S (pc := 49) dX8_restore_49 ?_
    refine z_lald S (pc := 50) B 2 2 rfl rfl (k := 0 + k) (by omega) (by omega) (by decide) (v := .long (iL (mat σ ρ k))) (by rw [latl, hθ k (by omega)]) dX8_restore_50 ?_
    refine z_last S (pc := 51) B 1 2 rfl rfl (k := k) (by omega) (by omega) (by decide) dX8_restore_51 (wn := [cMod a p1 p2 p3 p4 p5 p6 pm ig mo rd wr sm, cLon E p1 303 (up α k (mat σ ρ k)), cLon E p3 606 θ, cIsv E p4 β]) (by rw [lat_up]; rfl) (fun H locs B => ?_)
    refine lv_iinc (v := iI ((k : Int) + 1)) (lv' := [(2, .int (iI ((k : Int) + 1))), (0, .ref a), (1, .int (iI 0))]) S.1 S.2.1 (pc := 52) dX8_restore_52 hl (k := 2) rfl (iI_add _ _) (by decide) rfl (fun ls hl => ?_)
    refine lv_goto S.1 S.2.1 (pc := 55) (tgt := 27) dX8_restore_55 rfl ?_
    have e1 : (k : Int) + 1 = ((k + 1 : Nat) : Int) := by omega
    rw [e1] at hl
    exact ih (k + 1) _ (by omega) (up_lt hα) hx _ _ _ B (lv_sub hl [1, 2, 0] rfl)
set_option maxHeartbeats 4000000 in
set_option maxRecDepth 100000 in
theorem mX8_restore_0 (l : Launch) (E : gT) (a : Nat) (p1 : Nat) (p2 : Nat) (p3 : Nat) (p4 : Nat) (p5 : Nat) (p6 : Nat) (σ : Nat → Int) (ρ : Nat → Int) (pm : Int) (ig : Int) (mo : Int) (rd : Int) (wr : Int) (sm : Int) (θ : Nat → Int) (β : Nat → Int) (σ2 : Nat → Int) (ρ2 : Nat → Int) (h14 : 0 ≤ σ 14 ∧ σ 14 ≤ 20000) (hθ : ∀ j : Nat, j < 303 → θ (0 + j) = mat σ ρ j) (hb : β 0 = 1) : Cd l E yX8_restore wsX8_restore 1 25 0 0 [.ref a, .int (iI 0)] [cMod a p1 p2 p3 p4 p5 p6 pm ig mo rd wr sm, cAt E p1 σ2 ρ2, cLon E p3 606 θ, cIsv E p4 β] (some (.int (iI (σ 14)))) [cMod a p1 p2 p3 p4 p5 p6 pm ig mo rd wr sm, cAt E p1 σ ρ, cLon E p3 606 θ, cIsv E p4 β] := by
  refine Ct.mk (cc := cX8_restore) (maxL := 3) (ret := (some .int)) (plainFor_of_name (by decide)) rfl (Nat.le_of_ble_eq_true rfl) ?_
  intro p e s m below meth c A ls H locs S hr hlk hnm B hl
  have S : CallFix p m c cX8_restore 3 s #[.ref a, .int (iI 0)] wsX8_restore RX8 := S
  have hl : lv_has ls 3 [(0, .ref a), (1, .int (iI 0))] := hl
  refine z_iload_n S (pc := 0) dX8_restore_0 rfl (lv_at hl 1 rfl) ?_
  refine z_i2l S (pc := 1) (by omega) dX8_restore_1 ?_
  refine z_lconst S (pc := 2) (x := 0) dX8_restore_2 rfl ?_
  refine z_lconst S (pc := 3) (x := 1) dX8_restore_3 rfl ?_
  refine z_callS S (pc := 4) B (wr := [cMod a p1 p2 p3 p4 p5 p6 pm ig mo rd wr sm, cAt E p1 σ2 ρ2, cLon E p3 606 θ, cIsv E p4 β]) (wn := fun _ => [cMod a p1 p2 p3 p4 p5 p6 pm ig mo rd wr sm, cAt E p1 σ2 ρ2, cLon E p3 606 θ, cIsv E p4 β]) (st1 := fun _ => [.int (iI (bI (0 ≤ 0 ∧ 0 ≤ 1)))]) (As := [.long (iL 0), .long (iL 0), .long (iL 1)]) (mX8_in l E 0 0 1 (show inL 0 from by omega) (show inL 0 from by omega) (show inL 1 from by omega)) gX8_restore_X8_in 3 rfl (by decide +kernel) ⟨Nat.le_of_ble_eq_true rfl, Nat.le_of_ble_eq_true rfl, Nat.le_of_ble_eq_true rfl, Nat.le_of_ble_eq_true rfl⟩ [] [0, 1, 2, 3] [0, 1, 2, 3] rfl rfl ⟨rfl, rfl, rfl, by decide⟩ (fun _ => rfl) rfl (fun _ => rfl) hl.1 (Nat.le_of_ble_eq_true rfl) rfl dX8_restore_4 (fun _ _ H locs B => ?_)
  refine z_ifne_b S (pc := 7) (tgt := 13) dX8_restore_7 rfl (fun c1 => ?_) (fun c1 => absurd c1 (by omega))
  refine z_aload_n S (pc := 13) dX8_restore_13 rfl (lv_at hl 0 rfl) ?_
  refine z_get S (pc := 14) B iX8_restore_X8 0 rfl rfl 3 (by decide) rfl rfl (by decide +kernel) dX8_restore_14 ?_
  refine z_iload_n S (pc := 17) dX8_restore_17 rfl (lv_at hl 1 rfl) ?_
  refine z_zald S (pc := 18) B 3 3 rfl rfl (k := 0) rfl (by decide) (by decide) (v := .int (iI (β 0))) rfl dX8_restore_18 ?_
  refine z_if_ne S (pc := 19) (tgt := 25) (by omega) dX8_restore_19 rfl (fun c2 => ?_) (fun c2 => absurd c2 (by omega))
  refine z_iconst S (pc := 25) dX8_restore_25 ?_
  refine lv_istore_n (lv' := [(2, .int (iI 0)), (0, .ref a), (1, .int (iI 0))]) S.1 S.2.1 (pc := 26) dX8_restore_26 rfl hl (by decide) rfl (fun ls hl => ?_)
  refine lpX8_restore_0 E S a p1 p2 p3 p4 p5 p6 σ ρ pm ig mo rd wr sm θ β hθ 303 0 (mat σ2 ρ2) (by omega) (fun j hj => absurd hj (by omega)) (fun α hα H locs ls B hl => ?_) _ _ _ B (lv_sub hl [1, 2, 0] rfl)
  have B : bw E A s H locs [cMod a p1 p2 p3 p4 p5 p6 pm ig mo rd wr sm, cAt E p1 σ ρ, cLon E p3 606 θ, cIsv E p4 β] := bw_extL B 1 (f := lat α) (g := lat (mat σ ρ)) rfl (fun k hk => by rw [latl, hα k hk]; rfl) rfl
  refine z_aload_n S (pc := 58) dX8_restore_58 rfl (lv_at hl 0 rfl) ?_
  refine z_get S (pc := 59) B iX8_restore_X8 0 rfl rfl 0 (by decide) rfl rfl (by decide +kernel) dX8_restore_59 ?_
  refine z_bipush S (pc := 62) dX8_restore_62 rfl ?_
  refine z_lald S (pc := 64) B 1 2 rfl rfl (k := 14) rfl (by decide) (by decide) (v := .long (iL (σ 14))) rfl dX8_restore_64 ?_
  refine z_l2i S (pc := 65) dX8_restore_65 ?_
  exact z_ireturn S hr hlk B () trivial rfl rfl (pc := 66) dX8_restore_66
set_option maxHeartbeats 4000000 in
set_option maxRecDepth 100000 in
theorem mX8_restore_0n (l : Launch) (E : gT) (a : Nat) (p1 : Nat) (p2 : Nat) (p3 : Nat) (p4 : Nat) (p5 : Nat) (p6 : Nat) (σ : Nat → Int) (ρ : Nat → Int) (pm : Int) (ig : Int) (mo : Int) (rd : Int) (wr : Int) (sm : Int) (β : Nat → Int) (hb : β 0 = 0) : Cd l E yX8_restore wsX8_restore 1 25 0 0 [.ref a, .int (iI 0)] [cMod a p1 p2 p3 p4 p5 p6 pm ig mo rd wr sm, cIsv E p4 β] (some (.int (iI (-5)))) [cMod a p1 p2 p3 p4 p5 p6 pm ig mo rd wr sm, cIsv E p4 β] := by
  refine Ct.mk (cc := cX8_restore) (maxL := 3) (ret := (some .int)) (plainFor_of_name (by decide)) rfl (Nat.le_of_ble_eq_true rfl) ?_
  intro p e s m below meth c A ls H locs S hr hlk hnm B hl
  have S : CallFix p m c cX8_restore 3 s #[.ref a, .int (iI 0)] wsX8_restore RX8 := S
  have hl : lv_has ls 3 [(0, .ref a), (1, .int (iI 0))] := hl
  refine z_iload_n S (pc := 0) dX8_restore_0 rfl (lv_at hl 1 rfl) ?_
  refine z_i2l S (pc := 1) (by omega) dX8_restore_1 ?_
  refine z_lconst S (pc := 2) (x := 0) dX8_restore_2 rfl ?_
  refine z_lconst S (pc := 3) (x := 1) dX8_restore_3 rfl ?_
  refine z_callS S (pc := 4) B (wr := [cMod a p1 p2 p3 p4 p5 p6 pm ig mo rd wr sm, cIsv E p4 β]) (wn := fun _ => [cMod a p1 p2 p3 p4 p5 p6 pm ig mo rd wr sm, cIsv E p4 β]) (st1 := fun _ => [.int (iI (bI (0 ≤ 0 ∧ 0 ≤ 1)))]) (As := [.long (iL 0), .long (iL 0), .long (iL 1)]) (mX8_in l E 0 0 1 (show inL 0 from by omega) (show inL 0 from by omega) (show inL 1 from by omega)) gX8_restore_X8_in 3 rfl (by decide +kernel) ⟨Nat.le_of_ble_eq_true rfl, Nat.le_of_ble_eq_true rfl, Nat.le_of_ble_eq_true rfl, Nat.le_of_ble_eq_true rfl⟩ [] [0, 1] [0, 1] rfl rfl ⟨rfl, rfl, rfl, by decide⟩ (fun _ => rfl) rfl (fun _ => rfl) hl.1 (Nat.le_of_ble_eq_true rfl) rfl dX8_restore_4 (fun _ _ H locs B => ?_)
  refine z_ifne_b S (pc := 7) (tgt := 13) dX8_restore_7 rfl (fun c1 => ?_) (fun c1 => absurd c1 (by omega))
  refine z_aload_n S (pc := 13) dX8_restore_13 rfl (lv_at hl 0 rfl) ?_
  refine z_get S (pc := 14) B iX8_restore_X8 0 rfl rfl 3 (by decide) rfl rfl (by decide +kernel) dX8_restore_14 ?_
  refine z_iload_n S (pc := 17) dX8_restore_17 rfl (lv_at hl 1 rfl) ?_
  refine z_zald S (pc := 18) B 1 3 rfl rfl (k := 0) rfl (by decide) (by decide) (v := .int (iI (β 0))) rfl dX8_restore_18 ?_
  refine z_if_ne S (pc := 19) (tgt := 25) (by omega) dX8_restore_19 rfl (fun c2 => absurd c2 (by omega)) (fun c2 => ?_)
  refine z_bipush S (pc := 22) dX8_restore_22 rfl ?_
  exact z_ireturn S hr hlk B () trivial rfl rfl (pc := 24) dX8_restore_24
set_option maxHeartbeats 4000000 in
set_option maxRecDepth 100000 in
theorem lpX8_save_1 {p : Program} {l : Launch} {e : Env} {s : State} {m : MethodId} {args : Array Value} {below : List Frame} {meth : Method} {c : Code} {Q : State → Prop} {A : Nat → Prop} (E : gT) (S : CallFix p m c cX8_save 3 s args wsX8_save RX8) (a : Nat) (p1 : Nat) (p2 : Nat) (p3 : Nat) (p4 : Nat) (p5 : Nat) (p6 : Nat) (σ : Nat → Int) (ρ : Nat → Int) (pm : Int) (ig : Int) (mo : Int) (rd : Int) (wr : Int) (sm : Int) (θ : Nat → Int) (β : Nat → Int) :
    ∀ (n k : Nat) (α : Nat → Int) (hk : k + n = 303) (hα : (∀ j : Nat, j < k → α (303 + j) = mat σ ρ j) ∧ ∀ j : Nat, (j < 303 ∨ 303 + 303 ≤ j) → α j = θ j) (hx : ∀ (α : Nat → Int) (hα : (∀ j : Nat, j < 303 → α (303 + j) = mat σ ρ j) ∧ ∀ j : Nat, (j < 303 ∨ 303 + 303 ≤ j) → α j = θ j) (H : Heap) (locs : List Loc) (ls : Array Slot), bw E A s H locs [cMod a p1 p2 p3 p4 p5 p6 pm ig mo rd wr sm, cAt E p1 σ ρ, cLon E p3 606 α, cIsv E p4 β] → lv_has ls 3 [(0, .ref a), (1, .int (iI 1))] → W p l e ({ frames := 1, cells := 0, slots := 0, locals := 25 } : Room) s m args below meth c H locs 0 0 Q (F0 m 46 ls [])) (H : Heap) (locs : List Loc) (ls : Array Slot) (B : bw E A s H locs [cMod a p1 p2 p3 p4 p5 p6 pm ig mo rd wr sm, cAt E p1 σ ρ, cLon E p3 606 α, cIsv E p4 β]) (hl : lv_has ls 3 [(0, .ref a), (1, .int (iI 1)), (2, .int (iI (k : Int)))]), W p l e ({ frames := 1, cells := 0, slots := 0, locals := 25 } : Room) s m args below meth c H locs 0 0 Q (F0 m 15 ls []) := by
  intro n
  induction n with
  | zero =>
    intro k α hk hα hx H locs ls B hl
    refine z_iload_n S (pc := 15) dX8_save_15 rfl (lv_at hl 2 rfl) ?_
    refine z_sipush S (pc := 16) dX8_save_16 rfl ?_
    refine z_icmp_ge S (pc := 19) (tgt := 46) (by omega) (by omega) dX8_save_19 rfl (fun c1 => ?_) (fun c1 => absurd c1 (by omega))
    obtain rfl : k = 303 := by omega
    exact hx α hα _ _ _ B (lv_sub hl [0, 1] rfl)
  | succ n ih =>
    intro k α hk hα hx H locs ls B hl
    refine z_iload_n S (pc := 15) dX8_save_15 rfl (lv_at hl 2 rfl) ?_
    refine z_sipush S (pc := 16) dX8_save_16 rfl ?_
    refine z_icmp_ge S (pc := 19) (tgt := 46) (by omega) (by omega) dX8_save_19 rfl (fun c1 => absurd c1 (by omega)) (fun c1 => ?_)
    refine z_aload_n S (pc := 22) dX8_save_22 rfl (lv_at hl 0 rfl) ?_
    refine z_get S (pc := 23) B iX8_save_X8 0 rfl rfl 2 (by decide) rfl rfl (by decide +kernel) dX8_save_23 ?_
    refine z_sipush S (pc := 26) dX8_save_26 rfl ?_
    refine z_iload_n S (pc := 29) dX8_save_29 rfl (lv_at hl 1 rfl) ?_
    refine z_imul S (pc := 30) dX8_save_30 ?_
    refine z_iload_n S (pc := 31) dX8_save_31 rfl (lv_at hl 2 rfl) ?_
    refine z_iadd S (pc := 32) dX8_save_32 ?_
    refine z_aload_n S (pc := 33) dX8_save_33 rfl (lv_at hl 0 rfl) ?_
    refine z_get S (pc := 34) B iX8_save_X8 0 rfl rfl 0 (by decide) rfl rfl (by decide +kernel) dX8_save_34 ?_
    refine z_iload_n S (pc := 37) dX8_save_37 rfl (lv_at hl 2 rfl) ?_
    refine z_lald S (pc := 38) B 1 2 rfl rfl (k := k) rfl (by omega) (by decide) (v := .long (iL (mat σ ρ k))) rfl dX8_save_38 ?_
    refine z_last S (pc := 39) B 2 2 rfl rfl (k := 303 + k) (by omega) (by omega) (by decide) dX8_save_39 (wn := [cMod a p1 p2 p3 p4 p5 p6 pm ig mo rd wr sm, cAt E p1 σ ρ, cLon E p3 606 (up α (303 + k) (mat σ ρ k)), cIsv E p4 β]) (by rw [lat_up]; rfl) (fun H locs B => ?_)
    refine lv_iinc (v := iI ((k : Int) + 1)) (lv' := [(2, .int (iI ((k : Int) + 1))), (0, .ref a), (1, .int (iI 1))]) S.1 S.2.1 (pc := 40) dX8_save_40 hl (k := 2) rfl (iI_add _ _) (by decide) rfl (fun ls hl => ?_)
    refine lv_goto S.1 S.2.1 (pc := 43) (tgt := 15) dX8_save_43 rfl ?_
    have e1 : (k : Int) + 1 = ((k + 1 : Nat) : Int) := by omega
    rw [e1] at hl
    exact ih (k + 1) _ (by omega) (sl_step (by omega) hα) hx _ _ _ B (lv_sub hl [1, 2, 0] rfl)
set_option maxHeartbeats 4000000 in
set_option maxRecDepth 100000 in
theorem mX8_save_1 (l : Launch) (E : gT) (a : Nat) (p1 : Nat) (p2 : Nat) (p3 : Nat) (p4 : Nat) (p5 : Nat) (p6 : Nat) (σ : Nat → Int) (ρ : Nat → Int) (pm : Int) (ig : Int) (mo : Int) (rd : Int) (wr : Int) (sm : Int) (θ : Nat → Int) (β : Nat → Int) (h14 : 0 ≤ σ 14 ∧ σ 14 ≤ 20000) : Ct l E yX8_save wsX8_save 1 25 0 0 [.ref a, .int (iI 1)] [cMod a p1 p2 p3 p4 p5 p6 pm ig mo rd wr sm, cAt E p1 σ ρ, cLon E p3 606 θ, cIsv E p4 β] (S0 := (Nat → Int)) (fun u0 => (∀ j : Nat, j < 303 → u0 (303 + j) = mat σ ρ j) ∧ ∀ j : Nat, (j < 303 ∨ 303 + 303 ≤ j) → u0 j = θ j) (fun _ => (some (.int (iI (σ 14))))) (fun u0 => [cMod a p1 p2 p3 p4 p5 p6 pm ig mo rd wr sm, cAt E p1 σ ρ, cLon E p3 606 u0, cIsv E p4 (up β 1 1)]) := by
  refine Ct.mk (cc := cX8_save) (maxL := 3) (ret := (some .int)) (plainFor_of_name (by decide)) rfl (Nat.le_of_ble_eq_true rfl) ?_
  intro p e s m below meth c A ls H locs S hr hlk hnm B hl
  have S : CallFix p m c cX8_save 3 s #[.ref a, .int (iI 1)] wsX8_save RX8 := S
  have hl : lv_has ls 3 [(0, .ref a), (1, .int (iI 1))] := hl
  refine z_iload_n S (pc := 0) dX8_save_0 rfl (lv_at hl 1 rfl) ?_
  refine z_i2l S (pc := 1) (by omega) dX8_save_1 ?_
  refine z_lconst S (pc := 2) (x := 0) dX8_save_2 rfl ?_
  refine z_lconst S (pc := 3) (x := 1) dX8_save_3 rfl ?_
  refine z_callS S (pc := 4) B (wr := [cMod a p1 p2 p3 p4 p5 p6 pm ig mo rd wr sm, cAt E p1 σ ρ, cLon E p3 606 θ, cIsv E p4 β]) (wn := fun _ => [cMod a p1 p2 p3 p4 p5 p6 pm ig mo rd wr sm, cAt E p1 σ ρ, cLon E p3 606 θ, cIsv E p4 β]) (st1 := fun _ => [.int (iI (bI (0 ≤ 1 ∧ 1 ≤ 1)))]) (As := [.long (iL 1), .long (iL 0), .long (iL 1)]) (mX8_in l E 1 0 1 (show inL 1 from by omega) (show inL 0 from by omega) (show inL 1 from by omega)) gX8_save_X8_in 3 rfl (by decide +kernel) ⟨Nat.le_of_ble_eq_true rfl, Nat.le_of_ble_eq_true rfl, Nat.le_of_ble_eq_true rfl, Nat.le_of_ble_eq_true rfl⟩ [] [0, 1, 2, 3] [0, 1, 2, 3] rfl rfl ⟨rfl, rfl, rfl, by decide⟩ (fun _ => rfl) rfl (fun _ => rfl) hl.1 (Nat.le_of_ble_eq_true rfl) rfl dX8_save_4 (fun _ _ H locs B => ?_)
  refine z_ifne_b S (pc := 7) (tgt := 13) dX8_save_7 rfl (fun c1 => ?_) (fun c1 => absurd c1 (by omega))
  refine z_iconst S (pc := 13) dX8_save_13 ?_
  refine lv_istore_n (lv' := [(2, .int (iI 0)), (0, .ref a), (1, .int (iI 1))]) S.1 S.2.1 (pc := 14) dX8_save_14 rfl hl (by decide) rfl (fun ls hl => ?_)
  refine lpX8_save_1 E S a p1 p2 p3 p4 p5 p6 σ ρ pm ig mo rd wr sm θ β 303 0 θ (by omega) ⟨fun j hj => absurd hj (by omega), fun j hj => rfl⟩ (fun α hα H locs ls B hl => ?_) _ _ _ B (lv_sub hl [1, 2, 0] rfl)
  refine z_aload_n S (pc := 46) dX8_save_46 rfl (lv_at hl 0 rfl) ?_
  refine z_get S (pc := 47) B iX8_save_X8 0 rfl rfl 3 (by decide) rfl rfl (by decide +kernel) dX8_save_47 ?_
  refine z_iload_n S (pc := 50) dX8_save_50 rfl (lv_at hl 1 rfl) ?_
  refine z_iconst S (pc := 51) dX8_save_51 ?_
  refine z_zast S (pc := 52) B 3 3 rfl rfl (k := 1) rfl (by decide) (by decide) rfl dX8_save_52 (wn := [cMod a p1 p2 p3 p4 p5 p6 pm ig mo rd wr sm, cAt E p1 σ ρ, cLon E p3 606 α, cIsv E p4 (up β 1 1)]) (by rw [iat_up]; rfl) (fun H locs B => ?_)
  refine z_aload_n S (pc := 53) dX8_save_53 rfl (lv_at hl 0 rfl) ?_
  refine z_get S (pc := 54) B iX8_save_X8 0 rfl rfl 0 (by decide) rfl rfl (by decide +kernel) dX8_save_54 ?_
  refine z_bipush S (pc := 57) dX8_save_57 rfl ?_
  refine z_lald S (pc := 59) B 1 2 rfl rfl (k := 14) rfl (by decide) (by decide) (v := .long (iL (σ 14))) rfl dX8_save_59 ?_
  refine z_l2i S (pc := 60) dX8_save_60 ?_
  exact z_ireturn S hr hlk B α hα rfl rfl (pc := 61) dX8_save_61
set_option maxHeartbeats 4000000 in
set_option maxRecDepth 100000 in
theorem lpX8_restore_1 {p : Program} {l : Launch} {e : Env} {s : State} {m : MethodId} {args : Array Value} {below : List Frame} {meth : Method} {c : Code} {Q : State → Prop} {A : Nat → Prop} (E : gT) (S : CallFix p m c cX8_restore 3 s args wsX8_restore RX8) (a : Nat) (p1 : Nat) (p2 : Nat) (p3 : Nat) (p4 : Nat) (p5 : Nat) (p6 : Nat) (σ : Nat → Int) (ρ : Nat → Int) (pm : Int) (ig : Int) (mo : Int) (rd : Int) (wr : Int) (sm : Int) (θ : Nat → Int) (β : Nat → Int) (hθ : ∀ j : Nat, j < 303 → θ (303 + j) = mat σ ρ j) :
    ∀ (n k : Nat) (α : Nat → Int) (hk : k + n = 303) (hα : ∀ j : Nat, j < k → α j = mat σ ρ j) (hx : ∀ (α : Nat → Int) (hα : ∀ j : Nat, j < 303 → α j = mat σ ρ j) (H : Heap) (locs : List Loc) (ls : Array Slot), bw E A s H locs [cMod a p1 p2 p3 p4 p5 p6 pm ig mo rd wr sm, cLon E p1 303 α, cLon E p3 606 θ, cIsv E p4 β] → lv_has ls 3 [(0, .ref a), (1, .int (iI 1))] → W p l e ({ frames := 1, cells := 0, slots := 0, locals := 25 } : Room) s m args below meth c H locs 0 0 Q (F0 m 58 ls [])) (H : Heap) (locs : List Loc) (ls : Array Slot) (B : bw E A s H locs [cMod a p1 p2 p3 p4 p5 p6 pm ig mo rd wr sm, cLon E p1 303 α, cLon E p3 606 θ, cIsv E p4 β]) (hl : lv_has ls 3 [(0, .ref a), (1, .int (iI 1)), (2, .int (iI (k : Int)))]), W p l e ({ frames := 1, cells := 0, slots := 0, locals := 25 } : Room) s m args below meth c H locs 0 0 Q (F0 m 27 ls []) := by
  intro n
  induction n with
  | zero =>
    intro k α hk hα hx H locs ls B hl
    refine z_iload_n S (pc := 27) dX8_restore_27 rfl (lv_at hl 2 rfl) ?_
    refine z_sipush S (pc := 28) dX8_restore_28 rfl ?_
    refine z_icmp_ge S (pc := 31) (tgt := 58) (by omega) (by omega) dX8_restore_31 rfl (fun c1 => ?_) (fun c1 => absurd c1 (by omega))
    obtain rfl : k = 303 := by omega
    exact hx α hα _ _ _ B (lv_sub hl [0, 1] rfl)
  | succ n ih =>
    intro k α hk hα hx H locs ls B hl
    refine z_iload_n S (pc := 27) dX8_restore_27 rfl (lv_at hl 2 rfl) ?_
    refine z_sipush S (pc := 28) dX8_restore_28 rfl ?_
    refine z_icmp_ge S (pc := 31) (tgt := 58) (by omega) (by omega) dX8_restore_31 rfl (fun c1 => absurd c1 (by omega)) (fun c1 => ?_)
    refine z_aload_n S (pc := 34) dX8_restore_34 rfl (lv_at hl 0 rfl) ?_
    refine z_get S (pc := 35) B iX8_restore_X8 0 rfl rfl 0 (by decide) rfl rfl (by decide +kernel) dX8_restore_35 ?_
    refine z_iload_n S (pc := 38) dX8_restore_38 rfl (lv_at hl 2 rfl) ?_
    refine z_aload_n S (pc := 39) dX8_restore_39 rfl (lv_at hl 0 rfl) ?_
    refine z_get S (pc := 40) B iX8_restore_X8 0 rfl rfl 2 (by decide) rfl rfl (by decide +kernel) dX8_restore_40 ?_
    refine z_sipush S (pc := 43) dX8_restore_43 rfl ?_
    refine z_iload_n S (pc := 46) dX8_restore_46 rfl (lv_at hl 1 rfl) ?_
    refine z_imul S (pc := 47) dX8_restore_47 ?_
    refine z_iload_n S (pc := 48) dX8_restore_48 rfl (lv_at hl 2 rfl) ?_
    refine z_iadd S (pc := 49) dX8_restore_49 ?_
    refine z_lald S (pc := 50) B 2 2 rfl rfl (k := 303 + k) (by omega) (by omega) (by decide) (v := .long (iL (mat σ ρ k))) (by rw [latl, hθ k (by omega)]) dX8_restore_50 ?_
    refine z_last S (pc := 51) B 1 2 rfl rfl (k := k) (by omega) (by omega) (by decide) dX8_restore_51 (wn := [cMod a p1 p2 p3 p4 p5 p6 pm ig mo rd wr sm, cLon E p1 303 (up α k (mat σ ρ k)), cLon E p3 606 θ, cIsv E p4 β]) (by rw [lat_up]; rfl) (fun H locs B => ?_)
    refine lv_iinc (v := iI ((k : Int) + 1)) (lv' := [(2, .int (iI ((k : Int) + 1))), (0, .ref a), (1, .int (iI 1))]) S.1 S.2.1 (pc := 52) dX8_restore_52 hl (k := 2) rfl (iI_add _ _) (by decide) rfl (fun ls hl => ?_)
    refine lv_goto S.1 S.2.1 (pc := 55) (tgt := 27) dX8_restore_55 rfl ?_
    have e1 : (k : Int) + 1 = ((k + 1 : Nat) : Int) := by omega
    rw [e1] at hl
    exact ih (k + 1) _ (by omega) (up_lt hα) hx _ _ _ B (lv_sub hl [1, 2, 0] rfl)
set_option maxHeartbeats 4000000 in
set_option maxRecDepth 100000 in
theorem mX8_restore_1 (l : Launch) (E : gT) (a : Nat) (p1 : Nat) (p2 : Nat) (p3 : Nat) (p4 : Nat) (p5 : Nat) (p6 : Nat) (σ : Nat → Int) (ρ : Nat → Int) (pm : Int) (ig : Int) (mo : Int) (rd : Int) (wr : Int) (sm : Int) (θ : Nat → Int) (β : Nat → Int) (σ2 : Nat → Int) (ρ2 : Nat → Int) (h14 : 0 ≤ σ 14 ∧ σ 14 ≤ 20000) (hθ : ∀ j : Nat, j < 303 → θ (303 + j) = mat σ ρ j) (hb : β 1 = 1) : Cd l E yX8_restore wsX8_restore 1 25 0 0 [.ref a, .int (iI 1)] [cMod a p1 p2 p3 p4 p5 p6 pm ig mo rd wr sm, cAt E p1 σ2 ρ2, cLon E p3 606 θ, cIsv E p4 β] (some (.int (iI (σ 14)))) [cMod a p1 p2 p3 p4 p5 p6 pm ig mo rd wr sm, cAt E p1 σ ρ, cLon E p3 606 θ, cIsv E p4 β] := by
  refine Ct.mk (cc := cX8_restore) (maxL := 3) (ret := (some .int)) (plainFor_of_name (by decide)) rfl (Nat.le_of_ble_eq_true rfl) ?_
  intro p e s m below meth c A ls H locs S hr hlk hnm B hl
  have S : CallFix p m c cX8_restore 3 s #[.ref a, .int (iI 1)] wsX8_restore RX8 := S
  have hl : lv_has ls 3 [(0, .ref a), (1, .int (iI 1))] := hl
  refine z_iload_n S (pc := 0) dX8_restore_0 rfl (lv_at hl 1 rfl) ?_
  refine z_i2l S (pc := 1) (by omega) dX8_restore_1 ?_
  refine z_lconst S (pc := 2) (x := 0) dX8_restore_2 rfl ?_
  refine z_lconst S (pc := 3) (x := 1) dX8_restore_3 rfl ?_
  refine z_callS S (pc := 4) B (wr := [cMod a p1 p2 p3 p4 p5 p6 pm ig mo rd wr sm, cAt E p1 σ2 ρ2, cLon E p3 606 θ, cIsv E p4 β]) (wn := fun _ => [cMod a p1 p2 p3 p4 p5 p6 pm ig mo rd wr sm, cAt E p1 σ2 ρ2, cLon E p3 606 θ, cIsv E p4 β]) (st1 := fun _ => [.int (iI (bI (0 ≤ 1 ∧ 1 ≤ 1)))]) (As := [.long (iL 1), .long (iL 0), .long (iL 1)]) (mX8_in l E 1 0 1 (show inL 1 from by omega) (show inL 0 from by omega) (show inL 1 from by omega)) gX8_restore_X8_in 3 rfl (by decide +kernel) ⟨Nat.le_of_ble_eq_true rfl, Nat.le_of_ble_eq_true rfl, Nat.le_of_ble_eq_true rfl, Nat.le_of_ble_eq_true rfl⟩ [] [0, 1, 2, 3] [0, 1, 2, 3] rfl rfl ⟨rfl, rfl, rfl, by decide⟩ (fun _ => rfl) rfl (fun _ => rfl) hl.1 (Nat.le_of_ble_eq_true rfl) rfl dX8_restore_4 (fun _ _ H locs B => ?_)
  refine z_ifne_b S (pc := 7) (tgt := 13) dX8_restore_7 rfl (fun c1 => ?_) (fun c1 => absurd c1 (by omega))
  refine z_aload_n S (pc := 13) dX8_restore_13 rfl (lv_at hl 0 rfl) ?_
  refine z_get S (pc := 14) B iX8_restore_X8 0 rfl rfl 3 (by decide) rfl rfl (by decide +kernel) dX8_restore_14 ?_
  refine z_iload_n S (pc := 17) dX8_restore_17 rfl (lv_at hl 1 rfl) ?_
  refine z_zald S (pc := 18) B 3 3 rfl rfl (k := 1) rfl (by decide) (by decide) (v := .int (iI (β 1))) rfl dX8_restore_18 ?_
  refine z_if_ne S (pc := 19) (tgt := 25) (by omega) dX8_restore_19 rfl (fun c2 => ?_) (fun c2 => absurd c2 (by omega))
  refine z_iconst S (pc := 25) dX8_restore_25 ?_
  refine lv_istore_n (lv' := [(2, .int (iI 0)), (0, .ref a), (1, .int (iI 1))]) S.1 S.2.1 (pc := 26) dX8_restore_26 rfl hl (by decide) rfl (fun ls hl => ?_)
  refine lpX8_restore_1 E S a p1 p2 p3 p4 p5 p6 σ ρ pm ig mo rd wr sm θ β hθ 303 0 (mat σ2 ρ2) (by omega) (fun j hj => absurd hj (by omega)) (fun α hα H locs ls B hl => ?_) _ _ _ B (lv_sub hl [1, 2, 0] rfl)
  have B : bw E A s H locs [cMod a p1 p2 p3 p4 p5 p6 pm ig mo rd wr sm, cAt E p1 σ ρ, cLon E p3 606 θ, cIsv E p4 β] := bw_extL B 1 (f := lat α) (g := lat (mat σ ρ)) rfl (fun k hk => by rw [latl, hα k hk]; rfl) rfl
  refine z_aload_n S (pc := 58) dX8_restore_58 rfl (lv_at hl 0 rfl) ?_
  refine z_get S (pc := 59) B iX8_restore_X8 0 rfl rfl 0 (by decide) rfl rfl (by decide +kernel) dX8_restore_59 ?_
  refine z_bipush S (pc := 62) dX8_restore_62 rfl ?_
  refine z_lald S (pc := 64) B 1 2 rfl rfl (k := 14) rfl (by decide) (by decide) (v := .long (iL (σ 14))) rfl dX8_restore_64 ?_
  refine z_l2i S (pc := 65) dX8_restore_65 ?_
  exact z_ireturn S hr hlk B () trivial rfl rfl (pc := 66) dX8_restore_66
set_option maxHeartbeats 4000000 in
set_option maxRecDepth 100000 in
theorem mX8_restore_1n (l : Launch) (E : gT) (a : Nat) (p1 : Nat) (p2 : Nat) (p3 : Nat) (p4 : Nat) (p5 : Nat) (p6 : Nat) (σ : Nat → Int) (ρ : Nat → Int) (pm : Int) (ig : Int) (mo : Int) (rd : Int) (wr : Int) (sm : Int) (β : Nat → Int) (hb : β 1 = 0) : Cd l E yX8_restore wsX8_restore 1 25 0 0 [.ref a, .int (iI 1)] [cMod a p1 p2 p3 p4 p5 p6 pm ig mo rd wr sm, cIsv E p4 β] (some (.int (iI (-5)))) [cMod a p1 p2 p3 p4 p5 p6 pm ig mo rd wr sm, cIsv E p4 β] := by
  refine Ct.mk (cc := cX8_restore) (maxL := 3) (ret := (some .int)) (plainFor_of_name (by decide)) rfl (Nat.le_of_ble_eq_true rfl) ?_
  intro p e s m below meth c A ls H locs S hr hlk hnm B hl
  have S : CallFix p m c cX8_restore 3 s #[.ref a, .int (iI 1)] wsX8_restore RX8 := S
  have hl : lv_has ls 3 [(0, .ref a), (1, .int (iI 1))] := hl
  refine z_iload_n S (pc := 0) dX8_restore_0 rfl (lv_at hl 1 rfl) ?_
  refine z_i2l S (pc := 1) (by omega) dX8_restore_1 ?_
  refine z_lconst S (pc := 2) (x := 0) dX8_restore_2 rfl ?_
  refine z_lconst S (pc := 3) (x := 1) dX8_restore_3 rfl ?_
  refine z_callS S (pc := 4) B (wr := [cMod a p1 p2 p3 p4 p5 p6 pm ig mo rd wr sm, cIsv E p4 β]) (wn := fun _ => [cMod a p1 p2 p3 p4 p5 p6 pm ig mo rd wr sm, cIsv E p4 β]) (st1 := fun _ => [.int (iI (bI (0 ≤ 1 ∧ 1 ≤ 1)))]) (As := [.long (iL 1), .long (iL 0), .long (iL 1)]) (mX8_in l E 1 0 1 (show inL 1 from by omega) (show inL 0 from by omega) (show inL 1 from by omega)) gX8_restore_X8_in 3 rfl (by decide +kernel) ⟨Nat.le_of_ble_eq_true rfl, Nat.le_of_ble_eq_true rfl, Nat.le_of_ble_eq_true rfl, Nat.le_of_ble_eq_true rfl⟩ [] [0, 1] [0, 1] rfl rfl ⟨rfl, rfl, rfl, by decide⟩ (fun _ => rfl) rfl (fun _ => rfl) hl.1 (Nat.le_of_ble_eq_true rfl) rfl dX8_restore_4 (fun _ _ H locs B => ?_)
  refine z_ifne_b S (pc := 7) (tgt := 13) dX8_restore_7 rfl (fun c1 => ?_) (fun c1 => absurd c1 (by omega))
  refine z_aload_n S (pc := 13) dX8_restore_13 rfl (lv_at hl 0 rfl) ?_
  refine z_get S (pc := 14) B iX8_restore_X8 0 rfl rfl 3 (by decide) rfl rfl (by decide +kernel) dX8_restore_14 ?_
  refine z_iload_n S (pc := 17) dX8_restore_17 rfl (lv_at hl 1 rfl) ?_
  refine z_zald S (pc := 18) B 1 3 rfl rfl (k := 1) rfl (by decide) (by decide) (v := .int (iI (β 1))) rfl dX8_restore_18 ?_
  refine z_if_ne S (pc := 19) (tgt := 25) (by omega) dX8_restore_19 rfl (fun c2 => absurd c2 (by omega)) (fun c2 => ?_)
  refine z_bipush S (pc := 22) dX8_restore_22 rfl ?_
  exact z_ireturn S hr hlk B () trivial rfl rfl (pc := 24) dX8_restore_24
set_option maxHeartbeats 4000000 in
set_option maxRecDepth 100000 in
theorem mX8_save_b (l : Launch) (E : gT) (a : Nat) (p1 : Nat) (p2 : Nat) (p3 : Nat) (p4 : Nat) (p5 : Nat) (p6 : Nat) (σ : Nat → Int) (ρ : Nat → Int) (pm : Int) (ig : Int) (mo : Int) (rd : Int) (wr : Int) (sm : Int) (k : Int) (hI : inI k) (hbad : (k < 0 ∨ 1 < k)) : Cd l E yX8_save wsX8_save 1 25 0 0 [.ref a, .int (iI k)] [cMod a p1 p2 p3 p4 p5 p6 pm ig mo rd wr sm] (some (.int (iI (-2)))) [cMod a p1 p2 p3 p4 p5 p6 pm ig mo rd wr sm] := by
  refine Ct.mk (cc := cX8_save) (maxL := 3) (ret := (some .int)) (plainFor_of_name (by decide)) rfl (Nat.le_of_ble_eq_true rfl) ?_
  intro p e s m below meth c A ls H locs S hr hlk hnm B hl
  have S : CallFix p m c cX8_save 3 s #[.ref a, .int (iI k)] wsX8_save RX8 := S
  have hl : lv_has ls 3 [(0, .ref a), (1, .int (iI k))] := hl
  refine z_iload_n S (pc := 0) dX8_save_0 rfl (lv_at hl 1 rfl) ?_
  refine z_i2l S (pc := 1) (by omega) dX8_save_1 ?_
  refine z_lconst S (pc := 2) (x := 0) dX8_save_2 rfl ?_
  refine z_lconst S (pc := 3) (x := 1) dX8_save_3 rfl ?_
  refine z_callS S (pc := 4) B (wr := [cMod a p1 p2 p3 p4 p5 p6 pm ig mo rd wr sm]) (wn := fun _ => [cMod a p1 p2 p3 p4 p5 p6 pm ig mo rd wr sm]) (st1 := fun _ => [.int (iI (bI (0 ≤ k ∧ k ≤ 1)))]) (As := [.long (iL k), .long (iL 0), .long (iL 1)]) (mX8_in l E k 0 1 (show inL k from by omega) (show inL 0 from by omega) (show inL 1 from by omega)) gX8_save_X8_in 3 rfl (by decide +kernel) ⟨Nat.le_of_ble_eq_true rfl, Nat.le_of_ble_eq_true rfl, Nat.le_of_ble_eq_true rfl, Nat.le_of_ble_eq_true rfl⟩ [] [0] [0] rfl rfl ⟨rfl, rfl, rfl, by decide⟩ (fun _ => rfl) rfl (fun _ => rfl) hl.1 (Nat.le_of_ble_eq_true rfl) rfl dX8_save_4 (fun _ _ H locs B => ?_)
  refine z_ifne_b S (pc := 7) (tgt := 13) dX8_save_7 rfl (fun c1 => absurd c1 (by omega)) (fun c1 => ?_)
  refine z_bipush S (pc := 10) dX8_save_10 rfl ?_
  exact z_ireturn S hr hlk B () trivial rfl rfl (pc := 12) dX8_save_12
set_option maxHeartbeats 4000000 in
set_option maxRecDepth 100000 in
theorem mX8_restore_b (l : Launch) (E : gT) (a : Nat) (p1 : Nat) (p2 : Nat) (p3 : Nat) (p4 : Nat) (p5 : Nat) (p6 : Nat) (σ : Nat → Int) (ρ : Nat → Int) (pm : Int) (ig : Int) (mo : Int) (rd : Int) (wr : Int) (sm : Int) (k : Int) (hI : inI k) (hbad : (k < 0 ∨ 1 < k)) : Cd l E yX8_restore wsX8_restore 1 25 0 0 [.ref a, .int (iI k)] [cMod a p1 p2 p3 p4 p5 p6 pm ig mo rd wr sm] (some (.int (iI (-2)))) [cMod a p1 p2 p3 p4 p5 p6 pm ig mo rd wr sm] := by
  refine Ct.mk (cc := cX8_restore) (maxL := 3) (ret := (some .int)) (plainFor_of_name (by decide)) rfl (Nat.le_of_ble_eq_true rfl) ?_
  intro p e s m below meth c A ls H locs S hr hlk hnm B hl
  have S : CallFix p m c cX8_restore 3 s #[.ref a, .int (iI k)] wsX8_restore RX8 := S
  have hl : lv_has ls 3 [(0, .ref a), (1, .int (iI k))] := hl
  refine z_iload_n S (pc := 0) dX8_restore_0 rfl (lv_at hl 1 rfl) ?_
  refine z_i2l S (pc := 1) (by omega) dX8_restore_1 ?_
  refine z_lconst S (pc := 2) (x := 0) dX8_restore_2 rfl ?_
  refine z_lconst S (pc := 3) (x := 1) dX8_restore_3 rfl ?_
  refine z_callS S (pc := 4) B (wr := [cMod a p1 p2 p3 p4 p5 p6 pm ig mo rd wr sm]) (wn := fun _ => [cMod a p1 p2 p3 p4 p5 p6 pm ig mo rd wr sm]) (st1 := fun _ => [.int (iI (bI (0 ≤ k ∧ k ≤ 1)))]) (As := [.long (iL k), .long (iL 0), .long (iL 1)]) (mX8_in l E k 0 1 (show inL k from by omega) (show inL 0 from by omega) (show inL 1 from by omega)) gX8_restore_X8_in 3 rfl (by decide +kernel) ⟨Nat.le_of_ble_eq_true rfl, Nat.le_of_ble_eq_true rfl, Nat.le_of_ble_eq_true rfl, Nat.le_of_ble_eq_true rfl⟩ [] [0] [0] rfl rfl ⟨rfl, rfl, rfl, by decide⟩ (fun _ => rfl) rfl (fun _ => rfl) hl.1 (Nat.le_of_ble_eq_true rfl) rfl dX8_restore_4 (fun _ _ H locs B => ?_)
  refine z_ifne_b S (pc := 7) (tgt := 13) dX8_restore_7 rfl (fun c1 => absurd c1 (by omega)) (fun c1 => ?_)
  refine z_bipush S (pc := 10) dX8_restore_10 rfl ?_
  exact z_ireturn S hr hlk B () trivial rfl rfl (pc := 12) dX8_restore_12
/-! END mod 5 -/
