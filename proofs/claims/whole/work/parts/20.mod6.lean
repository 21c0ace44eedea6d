set_option linter.unusedVariables false
theorem ffr_c (n f : Int) : (ffr n f = f ∧ ffr n 0 ≤ f) ∨ (ffr n f = ffr n 0 ∧ f < ffr n 0) ∨ (ffr n f = f ∧ f < 0) := by
  unfold ffr
  repeat' split
  all_goals omega
theorem iX8_statistic_X8 : ∀ w ∈ wsX80, w ∈ wsX8_statistic := by decide +kernel
set_option maxHeartbeats 4000000 in
set_option maxRecDepth 100000 in
theorem lpX8_statistic_a {p : Program} {l : Launch} {e : Env} {s : State} {m : MethodId} {args : Array Value} {below : List Frame} {meth : Method} {c : Code} {Q : State → Prop} {A : Nat → Prop} (E : gT) (S : CallFix p m c cX8_statistic 16 s args wsX8_statistic RX8) (a : Nat) (p1 : Nat) (p2 : Nat) (p3 : Nat) (p4 : Nat) (p5 : Nat) (p6 : Nat) (σ : Nat → Int) (ρ : Nat → Int) (pm : Int) (ig : Int) (mo : Int) (rd : Int) (wr : Int) (sm : Int) (f : Int) (k : Int) (h14 : 0 ≤ σ 14 ∧ σ 14 ≤ 20000) (hf : 0 ≤ f ∧ f ≤ 2147483647) (P0 : Int) (hp0 : P0 ≤ σ 14 ∧ P0 ≤ ffr (σ 14) f) :
    ∀ (n : Nat) (r : Int) (hr : 0 ≤ r ∧ r + (n : Int) = P0) (hx : ∀ (H : Heap) (locs : List Loc) (ls : Array Slot), bw E A s H locs [cMod a p1 p2 p3 p4 p5 p6 pm ig mo rd wr sm, cAt E p1 σ ρ] → lv_has ls 16 [(0, .ref a), (1, .int (iI f)), (2, .int (iI k)), (3, .long (iL 0)), (5, .long (iL 0)), (7, .long (iL 0)), (9, .long (iL 0)), (11, .long (iL 0)), (13, .int (iI P0))] → W p l e ({ frames := 2, cells := 0, slots := 0, locals := 46 } : Room) s m args below meth c H locs 0 0 Q (F0 m 37 ls [])) (H : Heap) (locs : List Loc) (ls : Array Slot) (B : bw E A s H locs [cMod a p1 p2 p3 p4 p5 p6 pm ig mo rd wr sm, cAt E p1 σ ρ]) (hl : lv_has ls 16 [(0, .ref a), (1, .int (iI f)), (2, .int (iI k)), (3, .long (iL 0)), (5, .long (iL 0)), (7, .long (iL 0)), (9, .long (iL 0)), (11, .long (iL 0)), (13, .int (iI r))]), W p l e ({ frames := 2, cells := 0, slots := 0, locals := 46 } : Room) s m args below meth c H locs 0 0 Q (F0 m 37 ls []) := by
  intro n
  induction n with
  | zero =>
    intro r hr hx H locs ls B hl
    obtain rfl : r = P0 := by omega
    exact hx _ _ _ B hl
  | succ n ih =>
    intro r hr hx H locs ls B hl
    have hff := ffr_c (σ 14) f
    have hf0 := ffr_bd (n := σ 14) (f := 0) h14
    refine z_iload S (pc := 37) dX8_statistic_37 (lv_at hl 8 rfl) ?_
    refine z_i2l S (pc := 39) (by omega) dX8_statistic_39 ?_
    refine z_aload_n S (pc := 40) dX8_statistic_40 rfl (lv_at hl 0 rfl) ?_
    refine z_get S (pc := 41) B iX8_statistic_X8 0 rfl rfl 0 (by decide) rfl rfl (by decide +kernel) dX8_statistic_41 ?_
    refine z_bipush S (pc := 44) dX8_statistic_44 rfl ?_
    refine z_lald S (pc := 46) B 1 2 rfl rfl (k := 14) rfl (by decide) (by decide) (v := .long (iL (σ 14))) rfl dX8_statistic_46 ?_
    refine z_lc_ge S (pc := 47) (tgt := 170) (by omega) (by omega) dX8_statistic_47 dX8_statistic_48 rfl (fun c1 => absurd c1 (by omega)) (fun c1 => ?_)
    refine z_aload_n S (pc := 51) dX8_statistic_51 rfl (lv_at hl 0 rfl) ?_
    refine z_iload S (pc := 52) dX8_statistic_52 (lv_at hl 8 rfl) ?_
    refine z_callV S (pc := 54) B (wr := []) (wn := fun _ => [cMod a p1 p2 p3 p4 p5 p6 pm ig mo rd wr sm, cAt E p1 σ ρ]) (st1 := fun _ => [.int (iI (bI (ffr (σ 14) 0 ≤ r ∧ r < σ 14)))]) (As := [.int (iI r)]) (mX8_isLogged l E a p1 p2 p3 p4 p5 p6 σ ρ pm ig mo rd wr sm r (show inI r from by omega) (show 0 ≤ σ 14 ∧ σ 14 ≤ 20000 from by omega)) gX8_statistic_X8_isLogged 1 rfl (by decide +kernel) ⟨Nat.le_of_ble_eq_true rfl, Nat.le_of_ble_eq_true rfl, Nat.le_of_ble_eq_true rfl, Nat.le_of_ble_eq_true rfl⟩ 0 rfl (q := (RX8, TX8, 12)) rfl rfl [0, 1] [] [0, 1] rfl rfl ⟨rfl, rfl, rfl, by decide⟩ (fun _ => rfl) rfl (fun _ => rfl) hl.1 (Nat.le_of_ble_eq_true rfl) rfl dX8_statistic_54 (fun _ _ H locs B => ?_)
    refine z_ifeq_b S (pc := 57) (tgt := 164) dX8_statistic_57 rfl (fun c2 => ?_) (fun c2 => ?_)
    · refine lv_iinc (v := iI (r + 1)) (lv' := [(13, .int (iI (r + 1))), (0, .ref a), (1, .int (iI f)), (2, .int (iI k)), (3, .long (iL 0)), (5, .long (iL 0)), (7, .long (iL 0)), (9, .long (iL 0)), (11, .long (iL 0))]) S.1 S.2.1 (pc := 164) dX8_statistic_164 hl (k := 8) rfl (iI_add _ _) (by decide) rfl (fun ls hl => ?_)
      refine lv_goto S.1 S.2.1 (pc := 167) (tgt := 37) dX8_statistic_167 rfl ?_
      exact ih (r + 1) (by omega) hx _ _ _ B (lv_sub hl [1, 2, 3, 4, 5, 6, 7, 8, 0] rfl)
    · refine z_iload S (pc := 60) dX8_statistic_60 (lv_at hl 8 rfl) ?_
      refine z_iload_n S (pc := 62) dX8_statistic_62 rfl (lv_at hl 1 rfl) ?_
      refine z_icmp_lt S (pc := 63) (tgt := 164) (by omega) (by omega) dX8_statistic_63 rfl (fun c3 => ?_) (fun c3 => absurd c3 (by omega))
      refine lv_iinc (v := iI (r + 1)) (lv' := [(13, .int (iI (r + 1))), (0, .ref a), (1, .int (iI f)), (2, .int (iI k)), (3, .long (iL 0)), (5, .long (iL 0)), (7, .long (iL 0)), (9, .long (iL 0)), (11, .long (iL 0))]) S.1 S.2.1 (pc := 164) dX8_statistic_164 hl (k := 8) rfl (iI_add _ _) (by decide) rfl (fun ls hl => ?_)
      refine lv_goto S.1 S.2.1 (pc := 167) (tgt := 37) dX8_statistic_167 rfl ?_
      exact ih (r + 1) (by omega) hx _ _ _ B (lv_sub hl [1, 2, 3, 4, 5, 6, 7, 8, 0] rfl)
set_option maxHeartbeats 4000000 in
set_option maxRecDepth 100000 in
theorem lpX8_statistic_b {p : Program} {l : Launch} {e : Env} {s : State} {m : MethodId} {args : Array Value} {below : List Frame} {meth : Method} {c : Code} {Q : State → Prop} {A : Nat → Prop} (E : gT) (S : CallFix p m c cX8_statistic 16 s args wsX8_statistic RX8) (a : Nat) (p1 : Nat) (p2 : Nat) (p3 : Nat) (p4 : Nat) (p5 : Nat) (p6 : Nat) (σ : Nat → Int) (ρ : Nat → Int) (pm : Int) (ig : Int) (mo : Int) (rd : Int) (wr : Int) (sm : Int) (f : Int) (k : Int) (h14 : 0 ≤ σ 14 ∧ σ 14 ≤ 20000) (hf : 0 ≤ f ∧ f ≤ 2147483647) (hR : inR ρ) (MM LL GG SS OO : Int) :
    ∀ (n : Nat) (r mm x y s0 o : Int) (hr : 0 ≤ r ∧ r + (n : Int) = σ 14 ∧ (n = 0 ∨ ffr (σ 14) f ≤ r)) (hm : 0 ≤ mm ∧ mm + (n : Int) = MM ∧ mm ≤ r) (hxb : -1099511627776 ≤ x ∧ x ≤ 1099511627776) (hyb : -1099511627776 ≤ y ∧ y ≤ 1099511627776) (hL : (0 < mm → minL ρ n r x = LL ∧ maxL ρ n r y = GG) ∧ (mm = 0 → n = 0 ∨ (minL ρ n r (lrow ρ r 0) = LL ∧ maxL ρ n r (lrow ρ r 0) = GG))) (hs : sumL ρ 0 n r s0 = SS) (ho : sumL ρ 3 n r o = OO) (hx : ∀ (x y : Int) (hxy : 0 < MM → x = LL ∧ y = GG) (H : Heap) (locs : List Loc) (ls : Array Slot), bw E A s H locs [cMod a p1 p2 p3 p4 p5 p6 pm ig mo rd wr sm, cAt E p1 σ ρ] → lv_has ls 16 [(0, .ref a), (1, .int (iI f)), (2, .int (iI k)), (3, .long (iL MM)), (5, .long (iL x)), (7, .long (iL y)), (9, .long (iL SS)), (11, .long (iL OO))] → W p l e ({ frames := 2, cells := 0, slots := 0, locals := 46 } : Room) s m args below meth c H locs 0 0 Q (F0 m 170 ls [])) (H : Heap) (locs : List Loc) (ls : Array Slot) (B : bw E A s H locs [cMod a p1 p2 p3 p4 p5 p6 pm ig mo rd wr sm, cAt E p1 σ ρ]) (hl : lv_has ls 16 [(0, .ref a), (1, .int (iI f)), (2, .int (iI k)), (3, .long (iL mm)), (5, .long (iL x)), (7, .long (iL y)), (9, .long (iL s0)), (11, .long (iL o)), (13, .int (iI r))]), W p l e ({ frames := 2, cells := 0, slots := 0, locals := 46 } : Room) s m args below meth c H locs 0 0 Q (F0 m 37 ls []) := by
  intro n
  induction n with
  | zero =>
    intro r mm x y s0 o hr hm hxb hyb hL hs ho hx H locs ls B hl
    refine z_iload S (pc := 37) dX8_statistic_37 (lv_at hl 8 rfl) ?_
    refine z_i2l S (pc := 39) (by omega) dX8_statistic_39 ?_
    refine z_aload_n S (pc := 40) dX8_statistic_40 rfl (lv_at hl 0 rfl) ?_
    refine z_get S (pc := 41) B iX8_statistic_X8 0 rfl rfl 0 (by decide) rfl rfl (by decide +kernel) dX8_statistic_41 ?_
    refine z_bipush S (pc := 44) dX8_statistic_44 rfl ?_
    refine z_lald S (pc := 46) B 1 2 rfl rfl (k := 14) rfl (by decide) (by decide) (v := .long (iL (σ 14))) rfl dX8_statistic_46 ?_
    refine z_lc_ge S (pc := 47) (tgt := 170) (by omega) (by omega) dX8_statistic_47 dX8_statistic_48 rfl (fun c1 => ?_) (fun c1 => absurd c1 (by omega))
    obtain rfl : mm = MM := by omega
    have hs : s0 = SS := hs
    have ho : o = OO := ho
    subst hs
    subst ho
    exact hx x y (fun q => ⟨(hL.1 q).1, (hL.1 q).2⟩) _ _ _ B (lv_sub hl [0, 1, 2, 3, 4, 5, 6, 7] rfl)
  | succ n ih =>
    intro r mm x y s0 o hr hm hxb hyb hL hs ho hx H locs ls B hl
    have hff := ffr_c (σ 14) f
    have hf0 := ffr_bd (n := σ 14) (f := 0) h14
    have hl0 : -1099511627776 ≤ lrow ρ r 0 ∧ lrow ρ r 0 ≤ 1099511627776 := hR _
    refine z_iload S (pc := 37) dX8_statistic_37 (lv_at hl 8 rfl) ?_
    refine z_i2l S (pc := 39) (by omega) dX8_statistic_39 ?_
    refine z_aload_n S (pc := 40) dX8_statistic_40 rfl (lv_at hl 0 rfl) ?_
    refine z_get S (pc := 41) B iX8_statistic_X8 0 rfl rfl 0 (by decide) rfl rfl (by decide +kernel) dX8_statistic_41 ?_
    refine z_bipush S (pc := 44) dX8_statistic_44 rfl ?_
    refine z_lald S (pc := 46) B 1 2 rfl rfl (k := 14) rfl (by decide) (by decide) (v := .long (iL (σ 14))) rfl dX8_statistic_46 ?_
    refine z_lc_ge S (pc := 47) (tgt := 170) (by omega) (by omega) dX8_statistic_47 dX8_statistic_48 rfl (fun c1 => absurd c1 (by omega)) (fun c1 => ?_)
    refine z_aload_n S (pc := 51) dX8_statistic_51 rfl (lv_at hl 0 rfl) ?_
    refine z_iload S (pc := 52) dX8_statistic_52 (lv_at hl 8 rfl) ?_
    refine z_callV S (pc := 54) B (wr := []) (wn := fun _ => [cMod a p1 p2 p3 p4 p5 p6 pm ig mo rd wr sm, cAt E p1 σ ρ]) (st1 := fun _ => [.int (iI (bI (ffr (σ 14) 0 ≤ r ∧ r < σ 14)))]) (As := [.int (iI r)]) (mX8_isLogged l E a p1 p2 p3 p4 p5 p6 σ ρ pm ig mo rd wr sm r (show inI r from by omega) (show 0 ≤ σ 14 ∧ σ 14 ≤ 20000 from by omega)) gX8_statistic_X8_isLogged 1 rfl (by decide +kernel) ⟨Nat.le_of_ble_eq_true rfl, Nat.le_of_ble_eq_true rfl, Nat.le_of_ble_eq_true rfl, Nat.le_of_ble_eq_true rfl⟩ 0 rfl (q := (RX8, TX8, 12)) rfl rfl [0, 1] [] [0, 1] rfl rfl ⟨rfl, rfl, rfl, by decide⟩ (fun _ => rfl) rfl (fun _ => rfl) hl.1 (Nat.le_of_ble_eq_true rfl) rfl dX8_statistic_54 (fun _ _ H locs B => ?_)
    refine z_ifeq_b S (pc := 57) (tgt := 164) dX8_statistic_57 rfl (fun c2 => absurd c2 (by omega)) (fun c2 => ?_)
    refine z_iload S (pc := 60) dX8_statistic_60 (lv_at hl 8 rfl) ?_
    refine z_iload_n S (pc := 62) dX8_statistic_62 rfl (lv_at hl 1 rfl) ?_
    refine z_icmp_lt S (pc := 63) (tgt := 164) (by omega) (by omega) dX8_statistic_63 rfl (fun c3 => absurd c3 (by omega)) (fun c3 => ?_)
    refine z_aload_n S (pc := 66) dX8_statistic_66 rfl (lv_at hl 0 rfl) ?_
    refine z_get S (pc := 67) B iX8_statistic_X8 0 rfl rfl 0 (by decide) rfl rfl (by decide +kernel) dX8_statistic_67 ?_
    refine z_bipush S (pc := 70) dX8_statistic_70 rfl ?_
    refine z_bipush S (pc := 72) dX8_statistic_72 rfl ?_
    refine z_iload S (pc := 74) dX8_statistic_74 (lv_at hl 8 rfl) ?_
    refine z_bipush S (pc := 76) dX8_statistic_76 rfl ?_
    refine z_iremn S (pc := 78) (by omega) (by omega) dX8_statistic_78 ?_
    refine z_imul S (pc := 79) dX8_statistic_79 ?_
    refine z_iadd S (pc := 80) dX8_statistic_80 ?_
    refine z_lald S (pc := 81) B 1 2 rfl rfl (k := 23 + 7 * (r.toNat % 40)) (by omega) (by omega) (by decide) (v := .long (iL (lrow ρ r 0))) (by rw [lat_hi]; rfl) dX8_statistic_81 ?_
    refine lv_lstore (lv' := [(14, .long (iL (lrow ρ r 0))), (0, .ref a), (1, .int (iI f)), (2, .int (iI k)), (3, .long (iL mm)), (5, .long (iL x)), (7, .long (iL y)), (9, .long (iL s0)), (11, .long (iL o)), (13, .int (iI r))]) S.1 S.2.1 (pc := 82) dX8_statistic_82 hl (by decide) rfl (fun ls hl => ?_)
    refine z_lload_n S (pc := 84) dX8_statistic_84 rfl (lv_at hl 4 rfl) ?_
    refine z_lconst S (pc := 85) (x := 0) dX8_statistic_85 rfl ?_
    refine z_lc_eq S (pc := 86) (tgt := 98) (by omega) (by omega) dX8_statistic_86 dX8_statistic_87 rfl (fun c4 => ?_) (fun c4 => ?_)
    · refine z_lload S (pc := 98) dX8_statistic_98 (lv_at hl 0 rfl) ?_
      refine lv_goto S.1 S.2.1 (pc := 100) (tgt := 105) dX8_statistic_100 rfl ?_
      refine lv_lstore (lv' := [(5, .long (iL (lrow ρ r 0))), (14, .long (iL (lrow ρ r 0))), (0, .ref a), (1, .int (iI f)), (2, .int (iI k)), (3, .long (iL mm)), (7, .long (iL y)), (9, .long (iL s0)), (11, .long (iL o)), (13, .int (iI r))]) S.1 S.2.1 (pc := 105) dX8_statistic_105 hl (by decide) rfl (fun ls hl => ?_)
      refine z_lload_n S (pc := 107) dX8_statistic_107 rfl (lv_at hl 5 rfl) ?_
      refine z_lconst S (pc := 108) (x := 0) dX8_statistic_108 rfl ?_
      refine z_lc_eq S (pc := 109) (tgt := 121) (by omega) (by omega) dX8_statistic_109 dX8_statistic_110 rfl (fun c5 => ?_) (fun c5 => ?_)
      · refine z_lload S (pc := 121) dX8_statistic_121 (lv_at hl 1 rfl) ?_
        refine lv_goto S.1 S.2.1 (pc := 123) (tgt := 128) dX8_statistic_123 rfl ?_
        refine lv_lstore (lv' := [(7, .long (iL (lrow ρ r 0))), (5, .long (iL (lrow ρ r 0))), (14, .long (iL (lrow ρ r 0))), (0, .ref a), (1, .int (iI f)), (2, .int (iI k)), (3, .long (iL mm)), (9, .long (iL s0)), (11, .long (iL o)), (13, .int (iI r))]) S.1 S.2.1 (pc := 128) dX8_statistic_128 hl (by decide) rfl (fun ls hl => ?_)
        refine z_lload S (pc := 130) dX8_statistic_130 (lv_at hl 7 rfl) ?_
        refine z_lload S (pc := 132) dX8_statistic_132 (lv_at hl 2 rfl) ?_
        refine z_ladd S (pc := 134) dX8_statistic_134 ?_
        refine lv_lstore (lv' := [(9, .long (iL (s0 + (lrow ρ r 0)))), (7, .long (iL (lrow ρ r 0))), (5, .long (iL (lrow ρ r 0))), (14, .long (iL (lrow ρ r 0))), (0, .ref a), (1, .int (iI f)), (2, .int (iI k)), (3, .long (iL mm)), (11, .long (iL o)), (13, .int (iI r))]) S.1 S.2.1 (pc := 135) dX8_statistic_135 hl (by decide) rfl (fun ls hl => ?_)
        refine z_lload S (pc := 137) dX8_statistic_137 (lv_at hl 8 rfl) ?_
        refine z_aload_n S (pc := 139) dX8_statistic_139 rfl (lv_at hl 4 rfl) ?_
        refine z_get S (pc := 140) B iX8_statistic_X8 0 rfl rfl 0 (by decide) rfl rfl (by decide +kernel) dX8_statistic_140 ?_
        refine z_bipush S (pc := 143) dX8_statistic_143 rfl ?_
        refine z_bipush S (pc := 145) dX8_statistic_145 rfl ?_
        refine z_iload S (pc := 147) dX8_statistic_147 (lv_at hl 9 rfl) ?_
        refine z_bipush S (pc := 149) dX8_statistic_149 rfl ?_
        refine z_iremn S (pc := 151) (by omega) (by omega) dX8_statistic_151 ?_
        refine z_imul S (pc := 152) dX8_statistic_152 ?_
        refine z_iadd S (pc := 153) dX8_statistic_153 ?_
        refine z_iconst S (pc := 154) dX8_statistic_154 ?_
        refine z_iadd S (pc := 155) dX8_statistic_155 ?_
        refine z_lald S (pc := 156) B 1 2 rfl rfl (k := 23 + 7 * (r.toNat % 40) + 3) (by omega) (by omega) (by decide) (v := .long (iL (lrow ρ r 3))) (by rw [Nat.add_assoc, lat_hi]; rfl) dX8_statistic_156 ?_
        refine z_ladd S (pc := 157) dX8_statistic_157 ?_
        refine lv_lstore (lv' := [(11, .long (iL (o + (lrow ρ r 3)))), (9, .long (iL (s0 + (lrow ρ r 0)))), (7, .long (iL (lrow ρ r 0))), (5, .long (iL (lrow ρ r 0))), (14, .long (iL (lrow ρ r 0))), (0, .ref a), (1, .int (iI f)), (2, .int (iI k)), (3, .long (iL mm)), (13, .int (iI r))]) S.1 S.2.1 (pc := 158) dX8_statistic_158 hl (by decide) rfl (fun ls hl => ?_)
        refine z_lload_n S (pc := 160) dX8_statistic_160 rfl (lv_at hl 8 rfl) ?_
        refine z_lconst S (pc := 161) (x := 1) dX8_statistic_161 rfl ?_
        refine z_ladd S (pc := 162) dX8_statistic_162 ?_
        refine lv_lstore_n (lv' := [(3, .long (iL (mm + 1))), (11, .long (iL (o + (lrow ρ r 3)))), (9, .long (iL (s0 + (lrow ρ r 0)))), (7, .long (iL (lrow ρ r 0))), (5, .long (iL (lrow ρ r 0))), (14, .long (iL (lrow ρ r 0))), (0, .ref a), (1, .int (iI f)), (2, .int (iI k)), (13, .int (iI r))]) S.1 S.2.1 (pc := 163) dX8_statistic_163 rfl hl (by decide) rfl (fun ls hl => ?_)
        refine lv_iinc (v := iI (r + 1)) (lv' := [(13, .int (iI (r + 1))), (3, .long (iL (mm + 1))), (11, .long (iL (o + (lrow ρ r 3)))), (9, .long (iL (s0 + (lrow ρ r 0)))), (7, .long (iL (lrow ρ r 0))), (5, .long (iL (lrow ρ r 0))), (14, .long (iL (lrow ρ r 0))), (0, .ref a), (1, .int (iI f)), (2, .int (iI k))]) S.1 S.2.1 (pc := 164) dX8_statistic_164 hl (k := 9) rfl (iI_add _ _) (by decide) rfl (fun ls hl => ?_)
        refine lv_goto S.1 S.2.1 (pc := 167) (tgt := 37) dX8_statistic_167 rfl ?_
        have hL2 : minL ρ n (r + 1) (lrow ρ r 0) = LL ∧ maxL ρ n (r + 1) (lrow ρ r 0) = GG := by have e := (hL.2 (by omega)).resolve_left (by omega); simp only [minL, maxL] at e; rw [if_neg (by omega)] at e; exact e
        exact ih (r + 1) (mm + 1) (lrow ρ r 0) (lrow ρ r 0) (s0 + lrow ρ r 0) (o + lrow ρ r 3) (by omega) (by omega) (by omega) (by omega) ⟨fun _ => hL2, fun q => absurd q (by omega)⟩ (by rw [← hs]; rfl) (by rw [← ho]; rfl) hx _ _ _ B (lv_sub hl [7, 8, 9, 1, 5, 4, 3, 2, 0] rfl)
      · refine z_lload S (pc := 113) dX8_statistic_113 (lv_at hl 1 rfl) ?_
        refine z_lload S (pc := 115) dX8_statistic_115 (lv_at hl 6 rfl) ?_
        refine z_lc_le S (pc := 117) (tgt := 126) (by omega) (by omega) dX8_statistic_117 dX8_statistic_118 rfl (fun c6 => ?_) (fun c6 => ?_)
        · refine z_lload S (pc := 126) dX8_statistic_126 (lv_at hl 6 rfl) ?_
          refine lv_lstore (lv' := [(7, .long (iL y)), (5, .long (iL (lrow ρ r 0))), (14, .long (iL (lrow ρ r 0))), (0, .ref a), (1, .int (iI f)), (2, .int (iI k)), (3, .long (iL mm)), (9, .long (iL s0)), (11, .long (iL o)), (13, .int (iI r))]) S.1 S.2.1 (pc := 128) dX8_statistic_128 hl (by decide) rfl (fun ls hl => ?_)
          refine z_lload S (pc := 130) dX8_statistic_130 (lv_at hl 7 rfl) ?_
          refine z_lload S (pc := 132) dX8_statistic_132 (lv_at hl 2 rfl) ?_
          refine z_ladd S (pc := 134) dX8_statistic_134 ?_
          refine lv_lstore (lv' := [(9, .long (iL (s0 + (lrow ρ r 0)))), (7, .long (iL y)), (5, .long (iL (lrow ρ r 0))), (14, .long (iL (lrow ρ r 0))), (0, .ref a), (1, .int (iI f)), (2, .int (iI k)), (3, .long (iL mm)), (11, .long (iL o)), (13, .int (iI r))]) S.1 S.2.1 (pc := 135) dX8_statistic_135 hl (by decide) rfl (fun ls hl => ?_)
          refine z_lload S (pc := 137) dX8_statistic_137 (lv_at hl 8 rfl) ?_
          refine z_aload_n S (pc := 139) dX8_statistic_139 rfl (lv_at hl 4 rfl) ?_
          refine z_get S (pc := 140) B iX8_statistic_X8 0 rfl rfl 0 (by decide) rfl rfl (by decide +kernel) dX8_statistic_140 ?_
          refine z_bipush S (pc := 143) dX8_statistic_143 rfl ?_
          refine z_bipush S (pc := 145) dX8_statistic_145 rfl ?_
          refine z_iload S (pc := 147) dX8_statistic_147 (lv_at hl 9 rfl) ?_
          refine z_bipush S (pc := 149) dX8_statistic_149 rfl ?_
          refine z_iremn S (pc := 151) (by omega) (by omega) dX8_statistic_151 ?_
          refine z_imul S (pc := 152) dX8_statistic_152 ?_
          refine z_iadd S (pc := 153) dX8_statistic_153 ?_
          refine z_iconst S (pc := 154) dX8_statistic_154 ?_
          refine z_iadd S (pc := 155) dX8_statistic_155 ?_
          refine z_lald S (pc := 156) B 1 2 rfl rfl (k := 23 + 7 * (r.toNat % 40) + 3) (by omega) (by omega) (by decide) (v := .long (iL (lrow ρ r 3))) (by rw [Nat.add_assoc, lat_hi]; rfl) dX8_statistic_156 ?_
          refine z_ladd S (pc := 157) dX8_statistic_157 ?_
          refine lv_lstore (lv' := [(11, .long (iL (o + (lrow ρ r 3)))), (9, .long (iL (s0 + (lrow ρ r 0)))), (7, .long (iL y)), (5, .long (iL (lrow ρ r 0))), (14, .long (iL (lrow ρ r 0))), (0, .ref a), (1, .int (iI f)), (2, .int (iI k)), (3, .long (iL mm)), (13, .int (iI r))]) S.1 S.2.1 (pc := 158) dX8_statistic_158 hl (by decide) rfl (fun ls hl => ?_)
          refine z_lload_n S (pc := 160) dX8_statistic_160 rfl (lv_at hl 8 rfl) ?_
          refine z_lconst S (pc := 161) (x := 1) dX8_statistic_161 rfl ?_
          refine z_ladd S (pc := 162) dX8_statistic_162 ?_
          refine lv_lstore_n (lv' := [(3, .long (iL (mm + 1))), (11, .long (iL (o + (lrow ρ r 3)))), (9, .long (iL (s0 + (lrow ρ r 0)))), (7, .long (iL y)), (5, .long (iL (lrow ρ r 0))), (14, .long (iL (lrow ρ r 0))), (0, .ref a), (1, .int (iI f)), (2, .int (iI k)), (13, .int (iI r))]) S.1 S.2.1 (pc := 163) dX8_statistic_163 rfl hl (by decide) rfl (fun ls hl => ?_)
          refine lv_iinc (v := iI (r + 1)) (lv' := [(13, .int (iI (r + 1))), (3, .long (iL (mm + 1))), (11, .long (iL (o + (lrow ρ r 3)))), (9, .long (iL (s0 + (lrow ρ r 0)))), (7, .long (iL y)), (5, .long (iL (lrow ρ r 0))), (14, .long (iL (lrow ρ r 0))), (0, .ref a), (1, .int (iI f)), (2, .int (iI k))]) S.1 S.2.1 (pc := 164) dX8_statistic_164 hl (k := 9) rfl (iI_add _ _) (by decide) rfl (fun ls hl => ?_)
          refine lv_goto S.1 S.2.1 (pc := 167) (tgt := 37) dX8_statistic_167 rfl ?_
          exact absurd c4 (by omega)
        · refine z_lload S (pc := 121) dX8_statistic_121 (lv_at hl 1 rfl) ?_
          refine lv_goto S.1 S.2.1 (pc := 123) (tgt := 128) dX8_statistic_123 rfl ?_
          refine lv_lstore (lv' := [(7, .long (iL (lrow ρ r 0))), (5, .long (iL (lrow ρ r 0))), (14, .long (iL (lrow ρ r 0))), (0, .ref a), (1, .int (iI f)), (2, .int (iI k)), (3, .long (iL mm)), (9, .long (iL s0)), (11, .long (iL o)), (13, .int (iI r))]) S.1 S.2.1 (pc := 128) dX8_statistic_128 hl (by decide) rfl (fun ls hl => ?_)
          refine z_lload S (pc := 130) dX8_statistic_130 (lv_at hl 7 rfl) ?_
          refine z_lload S (pc := 132) dX8_statistic_132 (lv_at hl 2 rfl) ?_
          refine z_ladd S (pc := 134) dX8_statistic_134 ?_
          refine lv_lstore (lv' := [(9, .long (iL (s0 + (lrow ρ r 0)))), (7, .long (iL (lrow ρ r 0))), (5, .long (iL (lrow ρ r 0))), (14, .long (iL (lrow ρ r 0))), (0, .ref a), (1, .int (iI f)), (2, .int (iI k)), (3, .long (iL mm)), (11, .long (iL o)), (13, .int (iI r))]) S.1 S.2.1 (pc := 135) dX8_statistic_135 hl (by decide) rfl (fun ls hl => ?_)
          refine z_lload S (pc := 137) dX8_statistic_137 (lv_at hl 8 rfl) ?_
          refine z_aload_n S (pc := 139) dX8_statistic_139 rfl (lv_at hl 4 rfl) ?_
          refine z_get S (pc := 140) B iX8_statistic_X8 0 rfl rfl 0 (by decide) rfl rfl (by decide +kernel) dX8_statistic_140 ?_
          refine z_bipush S (pc := 143) dX8_statistic_143 rfl ?_
          refine z_bipush S (pc := 145) dX8_statistic_145 rfl ?_
          refine z_iload S (pc := 147) dX8_statistic_147 (lv_at hl 9 rfl) ?_
          refine z_bipush S (pc := 149) dX8_statistic_149 rfl ?_
          refine z_iremn S (pc := 151) (by omega) (by omega) dX8_statistic_151 ?_
          refine z_imul S (pc := 152) dX8_statistic_152 ?_
          refine z_iadd S (pc := 153) dX8_statistic_153 ?_
          refine z_iconst S (pc := 154) dX8_statistic_154 ?_
          refine z_iadd S (pc := 155) dX8_statistic_155 ?_
          refine z_lald S (pc := 156) B 1 2 rfl rfl (k := 23 + 7 * (r.toNat % 40) + 3) (by omega) (by omega) (by decide) (v := .long (iL (lrow ρ r 3))) (by rw [Nat.add_assoc, lat_hi]; rfl) dX8_statistic_156 ?_
          refine z_ladd S (pc := 157) dX8_statistic_157 ?_
          refine lv_lstore (lv' := [(11, .long (iL (o + (lrow ρ r 3)))), (9, .long (iL (s0 + (lrow ρ r 0)))), (7, .long (iL (lrow ρ r 0))), (5, .long (iL (lrow ρ r 0))), (14, .long (iL (lrow ρ r 0))), (0, .ref a), (1, .int (iI f)), (2, .int (iI k)), (3, .long (iL mm)), (13, .int (iI r))]) S.1 S.2.1 (pc := 158) dX8_statistic_158 hl (by decide) rfl (fun ls hl => ?_)
          refine z_lload_n S (pc := 160) dX8_statistic_160 rfl (lv_at hl 8 rfl) ?_
          refine z_lconst S (pc := 161) (x := 1) dX8_statistic_161 rfl ?_
          refine z_ladd S (pc := 162) dX8_statistic_162 ?_
          refine lv_lstore_n (lv' := [(3, .long (iL (mm + 1))), (11, .long (iL (o + (lrow ρ r 3)))), (9, .long (iL (s0 + (lrow ρ r 0)))), (7, .long (iL (lrow ρ r 0))), (5, .long (iL (lrow ρ r 0))), (14, .long (iL (lrow ρ r 0))), (0, .ref a), (1, .int (iI f)), (2, .int (iI k)), (13, .int (iI r))]) S.1 S.2.1 (pc := 163) dX8_statistic_163 rfl hl (by decide) rfl (fun ls hl => ?_)
          refine lv_iinc (v := iI (r + 1)) (lv' := [(13, .int (iI (r + 1))), (3, .long (iL (mm + 1))), (11, .long (iL (o + (lrow ρ r 3)))), (9, .long (iL (s0 + (lrow ρ r 0)))), (7, .long (iL (lrow ρ r 0))), (5, .long (iL (lrow ρ r 0))), (14, .long (iL (lrow ρ r 0))), (0, .ref a), (1, .int (iI f)), (2, .int (iI k))]) S.1 S.2.1 (pc := 164) dX8_statistic_164 hl (k := 9) rfl (iI_add _ _) (by decide) rfl (fun ls hl => ?_)
          refine lv_goto S.1 S.2.1 (pc := 167) (tgt := 37) dX8_statistic_167 rfl ?_
          exact absurd c4 (by omega)
    · refine z_lload S (pc := 90) dX8_statistic_90 (lv_at hl 0 rfl) ?_
      refine z_lload S (pc := 92) dX8_statistic_92 (lv_at hl 5 rfl) ?_
      refine z_lc_ge S (pc := 94) (tgt := 103) (by omega) (by omega) dX8_statistic_94 dX8_statistic_95 rfl (fun c7 => ?_) (fun c7 => ?_)
      · refine z_lload S (pc := 103) dX8_statistic_103 (lv_at hl 5 rfl) ?_
        refine lv_lstore (lv' := [(5, .long (iL x)), (14, .long (iL (lrow ρ r 0))), (0, .ref a), (1, .int (iI f)), (2, .int (iI k)), (3, .long (iL mm)), (7, .long (iL y)), (9, .long (iL s0)), (11, .long (iL o)), (13, .int (iI r))]) S.1 S.2.1 (pc := 105) dX8_statistic_105 hl (by decide) rfl (fun ls hl => ?_)
        refine z_lload_n S (pc := 107) dX8_statistic_107 rfl (lv_at hl 5 rfl) ?_
        refine z_lconst S (pc := 108) (x := 0) dX8_statistic_108 rfl ?_
        refine z_lc_eq S (pc := 109) (tgt := 121) (by omega) (by omega) dX8_statistic_109 dX8_statistic_110 rfl (fun c8 => ?_) (fun c8 => ?_)
        · refine z_lload S (pc := 121) dX8_statistic_121 (lv_at hl 1 rfl) ?_
          refine lv_goto S.1 S.2.1 (pc := 123) (tgt := 128) dX8_statistic_123 rfl ?_
          refine lv_lstore (lv' := [(7, .long (iL (lrow ρ r 0))), (5, .long (iL x)), (14, .long (iL (lrow ρ r 0))), (0, .ref a), (1, .int (iI f)), (2, .int (iI k)), (3, .long (iL mm)), (9, .long (iL s0)), (11, .long (iL o)), (13, .int (iI r))]) S.1 S.2.1 (pc := 128) dX8_statistic_128 hl (by decide) rfl (fun ls hl => ?_)
          refine z_lload S (pc := 130) dX8_statistic_130 (lv_at hl 7 rfl) ?_
          refine z_lload S (pc := 132) dX8_statistic_132 (lv_at hl 2 rfl) ?_
          refine z_ladd S (pc := 134) dX8_statistic_134 ?_
          refine lv_lstore (lv' := [(9, .long (iL (s0 + (lrow ρ r 0)))), (7, .long (iL (lrow ρ r 0))), (5, .long (iL x)), (14, .long (iL (lrow ρ r 0))), (0, .ref a), (1, .int (iI f)), (2, .int (iI k)), (3, .long (iL mm)), (11, .long (iL o)), (13, .int (iI r))]) S.1 S.2.1 (pc := 135) dX8_statistic_135 hl (by decide) rfl (fun ls hl => ?_)
          refine z_lload S (pc := 137) dX8_statistic_137 (lv_at hl 8 rfl) ?_
          refine z_aload_n S (pc := 139) dX8_statistic_139 rfl (lv_at hl 4 rfl) ?_
          refine z_get S (pc := 140) B iX8_statistic_X8 0 rfl rfl 0 (by decide) rfl rfl (by decide +kernel) dX8_statistic_140 ?_
          refine z_bipush S (pc := 143) dX8_statistic_143 rfl ?_
          refine z_bipush S (pc := 145) dX8_statistic_145 rfl ?_
          refine z_iload S (pc := 147) dX8_statistic_147 (lv_at hl 9 rfl) ?_
          refine z_bipush S (pc := 149) dX8_statistic_149 rfl ?_
          refine z_iremn S (pc := 151) (by omega) (by omega) dX8_statistic_151 ?_
          refine z_imul S (pc := 152) dX8_statistic_152 ?_
          refine z_iadd S (pc := 153) dX8_statistic_153 ?_
          refine z_iconst S (pc := 154) dX8_statistic_154 ?_
          refine z_iadd S (pc := 155) dX8_statistic_155 ?_
          refine z_lald S (pc := 156) B 1 2 rfl rfl (k := 23 + 7 * (r.toNat % 40) + 3) (by omega) (by omega) (by decide) (v := .long (iL (lrow ρ r 3))) (by rw [Nat.add_assoc, lat_hi]; rfl) dX8_statistic_156 ?_
          refine z_ladd S (pc := 157) dX8_statistic_157 ?_
          refine lv_lstore (lv' := [(11, .long (iL (o + (lrow ρ r 3)))), (9, .long (iL (s0 + (lrow ρ r 0)))), (7, .long (iL (lrow ρ r 0))), (5, .long (iL x)), (14, .long (iL (lrow ρ r 0))), (0, .ref a), (1, .int (iI f)), (2, .int (iI k)), (3, .long (iL mm)), (13, .int (iI r))]) S.1 S.2.1 (pc := 158) dX8_statistic_158 hl (by decide) rfl (fun ls hl => ?_)
          refine z_lload_n S (pc := 160) dX8_statistic_160 rfl (lv_at hl 8 rfl) ?_
          refine z_lconst S (pc := 161) (x := 1) dX8_statistic_161 rfl ?_
          refine z_ladd S (pc := 162) dX8_statistic_162 ?_
          refine lv_lstore_n (lv' := [(3, .long (iL (mm + 1))), (11, .long (iL (o + (lrow ρ r 3)))), (9, .long (iL (s0 + (lrow ρ r 0)))), (7, .long (iL (lrow ρ r 0))), (5, .long (iL x)), (14, .long (iL (lrow ρ r 0))), (0, .ref a), (1, .int (iI f)), (2, .int (iI k)), (13, .int (iI r))]) S.1 S.2.1 (pc := 163) dX8_statistic_163 rfl hl (by decide) rfl (fun ls hl => ?_)
          refine lv_iinc (v := iI (r + 1)) (lv' := [(13, .int (iI (r + 1))), (3, .long (iL (mm + 1))), (11, .long (iL (o + (lrow ρ r 3)))), (9, .long (iL (s0 + (lrow ρ r 0)))), (7, .long (iL (lrow ρ r 0))), (5, .long (iL x)), (14, .long (iL (lrow ρ r 0))), (0, .ref a), (1, .int (iI f)), (2, .int (iI k))]) S.1 S.2.1 (pc := 164) dX8_statistic_164 hl (k := 9) rfl (iI_add _ _) (by decide) rfl (fun ls hl => ?_)
          refine lv_goto S.1 S.2.1 (pc := 167) (tgt := 37) dX8_statistic_167 rfl ?_
          exact absurd c4 (by omega)
        · refine z_lload S (pc := 113) dX8_statistic_113 (lv_at hl 1 rfl) ?_
          refine z_lload S (pc := 115) dX8_statistic_115 (lv_at hl 6 rfl) ?_
          refine z_lc_le S (pc := 117) (tgt := 126) (by omega) (by omega) dX8_statistic_117 dX8_statistic_118 rfl (fun c9 => ?_) (fun c9 => ?_)
          · refine z_lload S (pc := 126) dX8_statistic_126 (lv_at hl 6 rfl) ?_
            refine lv_lstore (lv' := [(7, .long (iL y)), (5, .long (iL x)), (14, .long (iL (lrow ρ r 0))), (0, .ref a), (1, .int (iI f)), (2, .int (iI k)), (3, .long (iL mm)), (9, .long (iL s0)), (11, .long (iL o)), (13, .int (iI r))]) S.1 S.2.1 (pc := 128) dX8_statistic_128 hl (by decide) rfl (fun ls hl => ?_)
            refine z_lload S (pc := 130) dX8_statistic_130 (lv_at hl 7 rfl) ?_
            refine z_lload S (pc := 132) dX8_statistic_132 (lv_at hl 2 rfl) ?_
            refine z_ladd S (pc := 134) dX8_statistic_134 ?_
            refine lv_lstore (lv' := [(9, .long (iL (s0 + (lrow ρ r 0)))), (7, .long (iL y)), (5, .long (iL x)), (14, .long (iL (lrow ρ r 0))), (0, .ref a), (1, .int (iI f)), (2, .int (iI k)), (3, .long (iL mm)), (11, .long (iL o)), (13, .int (iI r))]) S.1 S.2.1 (pc := 135) dX8_statistic_135 hl (by decide) rfl (fun ls hl => ?_)
            refine z_lload S (pc := 137) dX8_statistic_137 (lv_at hl 8 rfl) ?_
            refine z_aload_n S (pc := 139) dX8_statistic_139 rfl (lv_at hl 4 rfl) ?_
            refine z_get S (pc := 140) B iX8_statistic_X8 0 rfl rfl 0 (by decide) rfl rfl (by decide +kernel) dX8_statistic_140 ?_
            refine z_bipush S (pc := 143) dX8_statistic_143 rfl ?_
            refine z_bipush S (pc := 145) dX8_statistic_145 rfl ?_
            refine z_iload S (pc := 147) dX8_statistic_147 (lv_at hl 9 rfl) ?_
            refine z_bipush S (pc := 149) dX8_statistic_149 rfl ?_
            refine z_iremn S (pc := 151) (by omega) (by omega) dX8_statistic_151 ?_
            refine z_imul S (pc := 152) dX8_statistic_152 ?_
            refine z_iadd S (pc := 153) dX8_statistic_153 ?_
            refine z_iconst S (pc := 154) dX8_statistic_154 ?_
            refine z_iadd S (pc := 155) dX8_statistic_155 ?_
            refine z_lald S (pc := 156) B 1 2 rfl rfl (k := 23 + 7 * (r.toNat % 40) + 3) (by omega) (by omega) (by decide) (v := .long (iL (lrow ρ r 3))) (by rw [Nat.add_assoc, lat_hi]; rfl) dX8_statistic_156 ?_
            refine z_ladd S (pc := 157) dX8_statistic_157 ?_
            refine lv_lstore (lv' := [(11, .long (iL (o + (lrow ρ r 3)))), (9, .long (iL (s0 + (lrow ρ r 0)))), (7, .long (iL y)), (5, .long (iL x)), (14, .long (iL (lrow ρ r 0))), (0, .ref a), (1, .int (iI f)), (2, .int (iI k)), (3, .long (iL mm)), (13, .int (iI r))]) S.1 S.2.1 (pc := 158) dX8_statistic_158 hl (by decide) rfl (fun ls hl => ?_)
            refine z_lload_n S (pc := 160) dX8_statistic_160 rfl (lv_at hl 8 rfl) ?_
            refine z_lconst S (pc := 161) (x := 1) dX8_statistic_161 rfl ?_
            refine z_ladd S (pc := 162) dX8_statistic_162 ?_
            refine lv_lstore_n (lv' := [(3, .long (iL (mm + 1))), (11, .long (iL (o + (lrow ρ r 3)))), (9, .long (iL (s0 + (lrow ρ r 0)))), (7, .long (iL y)), (5, .long (iL x)), (14, .long (iL (lrow ρ r 0))), (0, .ref a), (1, .int (iI f)), (2, .int (iI k)), (13, .int (iI r))]) S.1 S.2.1 (pc := 163) dX8_statistic_163 rfl hl (by decide) rfl (fun ls hl => ?_)
            refine lv_iinc (v := iI (r + 1)) (lv' := [(13, .int (iI (r + 1))), (3, .long (iL (mm + 1))), (11, .long (iL (o + (lrow ρ r 3)))), (9, .long (iL (s0 + (lrow ρ r 0)))), (7, .long (iL y)), (5, .long (iL x)), (14, .long (iL (lrow ρ r 0))), (0, .ref a), (1, .int (iI f)), (2, .int (iI k))]) S.1 S.2.1 (pc := 164) dX8_statistic_164 hl (k := 9) rfl (iI_add _ _) (by decide) rfl (fun ls hl => ?_)
            refine lv_goto S.1 S.2.1 (pc := 167) (tgt := 37) dX8_statistic_167 rfl ?_
            have hL2 : minL ρ n (r + 1) x = LL ∧ maxL ρ n (r + 1) y = GG := by have e := hL.1 (by omega); simp only [minL, maxL] at e; rw [show (if lrow ρ r 0 < x then lrow ρ r 0 else x) = x from by split <;> omega, show (if lrow ρ r 0 < y then y else lrow ρ r 0) = y from by split <;> omega] at e; exact e
            exact ih (r + 1) (mm + 1) x y (s0 + lrow ρ r 0) (o + lrow ρ r 3) (by omega) (by omega) (by omega) (by omega) ⟨fun _ => hL2, fun q => absurd q (by omega)⟩ (by rw [← hs]; rfl) (by rw [← ho]; rfl) hx _ _ _ B (lv_sub hl [7, 8, 9, 1, 5, 4, 3, 2, 0] rfl)
          · refine z_lload S (pc := 121) dX8_statistic_121 (lv_at hl 1 rfl) ?_
            refine lv_goto S.1 S.2.1 (pc := 123) (tgt := 128) dX8_statistic_123 rfl ?_
            refine lv_lstore (lv' := [(7, .long (iL (lrow ρ r 0))), (5, .long (iL x)), (14, .long (iL (lrow ρ r 0))), (0, .ref a), (1, .int (iI f)), (2, .int (iI k)), (3, .long (iL mm)), (9, .long (iL s0)), (11, .long (iL o)), (13, .int (iI r))]) S.1 S.2.1 (pc := 128) dX8_statistic_128 hl (by decide) rfl (fun ls hl => ?_)
            refine z_lload S (pc := 130) dX8_statistic_130 (lv_at hl 7 rfl) ?_
            refine z_lload S (pc := 132) dX8_statistic_132 (lv_at hl 2 rfl) ?_
            refine z_ladd S (pc := 134) dX8_statistic_134 ?_
            refine lv_lstore (lv' := [(9, .long (iL (s0 + (lrow ρ r 0)))), (7, .long (iL (lrow ρ r 0))), (5, .long (iL x)), (14, .long (iL (lrow ρ r 0))), (0, .ref a), (1, .int (iI f)), (2, .int (iI k)), (3, .long (iL mm)), (11, .long (iL o)), (13, .int (iI r))]) S.1 S.2.1 (pc := 135) dX8_statistic_135 hl (by decide) rfl (fun ls hl => ?_)
            refine z_lload S (pc := 137) dX8_statistic_137 (lv_at hl 8 rfl) ?_
            refine z_aload_n S (pc := 139) dX8_statistic_139 rfl (lv_at hl 4 rfl) ?_
            refine z_get S (pc := 140) B iX8_statistic_X8 0 rfl rfl 0 (by decide) rfl rfl (by decide +kernel) dX8_statistic_140 ?_
            refine z_bipush S (pc := 143) dX8_statistic_143 rfl ?_
            refine z_bipush S (pc := 145) dX8_statistic_145 rfl ?_
            refine z_iload S (pc := 147) dX8_statistic_147 (lv_at hl 9 rfl) ?_
            refine z_bipush S (pc := 149) dX8_statistic_149 rfl ?_
            refine z_iremn S (pc := 151) (by omega) (by omega) dX8_statistic_151 ?_
            refine z_imul S (pc := 152) dX8_statistic_152 ?_
            refine z_iadd S (pc := 153) dX8_statistic_153 ?_
            refine z_iconst S (pc := 154) dX8_statistic_154 ?_
            refine z_iadd S (pc := 155) dX8_statistic_155 ?_
            refine z_lald S (pc := 156) B 1 2 rfl rfl (k := 23 + 7 * (r.toNat % 40) + 3) (by omega) (by omega) (by decide) (v := .long (iL (lrow ρ r 3))) (by rw [Nat.add_assoc, lat_hi]; rfl) dX8_statistic_156 ?_
            refine z_ladd S (pc := 157) dX8_statistic_157 ?_
            refine lv_lstore (lv' := [(11, .long (iL (o + (lrow ρ r 3)))), (9, .long (iL (s0 + (lrow ρ r 0)))), (7, .long (iL (lrow ρ r 0))), (5, .long (iL x)), (14, .long (iL (lrow ρ r 0))), (0, .ref a), (1, .int (iI f)), (2, .int (iI k)), (3, .long (iL mm)), (13, .int (iI r))]) S.1 S.2.1 (pc := 158) dX8_statistic_158 hl (by decide) rfl (fun ls hl => ?_)
            refine z_lload_n S (pc := 160) dX8_statistic_160 rfl (lv_at hl 8 rfl) ?_
            refine z_lconst S (pc := 161) (x := 1) dX8_statistic_161 rfl ?_
            refine z_ladd S (pc := 162) dX8_statistic_162 ?_
            refine lv_lstore_n (lv' := [(3, .long (iL (mm + 1))), (11, .long (iL (o + (lrow ρ r 3)))), (9, .long (iL (s0 + (lrow ρ r 0)))), (7, .long (iL (lrow ρ r 0))), (5, .long (iL x)), (14, .long (iL (lrow ρ r 0))), (0, .ref a), (1, .int (iI f)), (2, .int (iI k)), (13, .int (iI r))]) S.1 S.2.1 (pc := 163) dX8_statistic_163 rfl hl (by decide) rfl (fun ls hl => ?_)
            refine lv_iinc (v := iI (r + 1)) (lv' := [(13, .int (iI (r + 1))), (3, .long (iL (mm + 1))), (11, .long (iL (o + (lrow ρ r 3)))), (9, .long (iL (s0 + (lrow ρ r 0)))), (7, .long (iL (lrow ρ r 0))), (5, .long (iL x)), (14, .long (iL (lrow ρ r 0))), (0, .ref a), (1, .int (iI f)), (2, .int (iI k))]) S.1 S.2.1 (pc := 164) dX8_statistic_164 hl (k := 9) rfl (iI_add _ _) (by decide) rfl (fun ls hl => ?_)
            refine lv_goto S.1 S.2.1 (pc := 167) (tgt := 37) dX8_statistic_167 rfl ?_
            have hL2 : minL ρ n (r + 1) x = LL ∧ maxL ρ n (r + 1) (lrow ρ r 0) = GG := by have e := hL.1 (by omega); simp only [minL, maxL] at e; rw [show (if lrow ρ r 0 < x then lrow ρ r 0 else x) = x from by split <;> omega, show (if lrow ρ r 0 < y then y else lrow ρ r 0) = lrow ρ r 0 from by split <;> omega] at e; exact e
            exact ih (r + 1) (mm + 1) x (lrow ρ r 0) (s0 + lrow ρ r 0) (o + lrow ρ r 3) (by omega) (by omega) (by omega) (by omega) ⟨fun _ => hL2, fun q => absurd q (by omega)⟩ (by rw [← hs]; rfl) (by rw [← ho]; rfl) hx _ _ _ B (lv_sub hl [7, 8, 9, 1, 5, 4, 3, 2, 0] rfl)
      · refine z_lload S (pc := 98) dX8_statistic_98 (lv_at hl 0 rfl) ?_
        refine lv_goto S.1 S.2.1 (pc := 100) (tgt := 105) dX8_statistic_100 rfl ?_
        refine lv_lstore (lv' := [(5, .long (iL (lrow ρ r 0))), (14, .long (iL (lrow ρ r 0))), (0, .ref a), (1, .int (iI f)), (2, .int (iI k)), (3, .long (iL mm)), (7, .long (iL y)), (9, .long (iL s0)), (11, .long (iL o)), (13, .int (iI r))]) S.1 S.2.1 (pc := 105) dX8_statistic_105 hl (by decide) rfl (fun ls hl => ?_)
        refine z_lload_n S (pc := 107) dX8_statistic_107 rfl (lv_at hl 5 rfl) ?_
        refine z_lconst S (pc := 108) (x := 0) dX8_statistic_108 rfl ?_
        refine z_lc_eq S (pc := 109) (tgt := 121) (by omega) (by omega) dX8_statistic_109 dX8_statistic_110 rfl (fun c10 => ?_) (fun c10 => ?_)
        · refine z_lload S (pc := 121) dX8_statistic_121 (lv_at hl 1 rfl) ?_
          refine lv_goto S.1 S.2.1 (pc := 123) (tgt := 128) dX8_statistic_123 rfl ?_
          refine lv_lstore (lv' := [(7, .long (iL (lrow ρ r 0))), (5, .long (iL (lrow ρ r 0))), (14, .long (iL (lrow ρ r 0))), (0, .ref a), (1, .int (iI f)), (2, .int (iI k)), (3, .long (iL mm)), (9, .long (iL s0)), (11, .long (iL o)), (13, .int (iI r))]) S.1 S.2.1 (pc := 128) dX8_statistic_128 hl (by decide) rfl (fun ls hl => ?_)
          refine z_lload S (pc := 130) dX8_statistic_130 (lv_at hl 7 rfl) ?_
          refine z_lload S (pc := 132) dX8_statistic_132 (lv_at hl 2 rfl) ?_
          refine z_ladd S (pc := 134) dX8_statistic_134 ?_
          refine lv_lstore (lv' := [(9, .long (iL (s0 + (lrow ρ r 0)))), (7, .long (iL (lrow ρ r 0))), (5, .long (iL (lrow ρ r 0))), (14, .long (iL (lrow ρ r 0))), (0, .ref a), (1, .int (iI f)), (2, .int (iI k)), (3, .long (iL mm)), (11, .long (iL o)), (13, .int (iI r))]) S.1 S.2.1 (pc := 135) dX8_statistic_135 hl (by decide) rfl (fun ls hl => ?_)
          refine z_lload S (pc := 137) dX8_statistic_137 (lv_at hl 8 rfl) ?_
          refine z_aload_n S (pc := 139) dX8_statistic_139 rfl (lv_at hl 4 rfl) ?_
          refine z_get S (pc := 140) B iX8_statistic_X8 0 rfl rfl 0 (by decide) rfl rfl (by decide +kernel) dX8_statistic_140 ?_
          refine z_bipush S (pc := 143) dX8_statistic_143 rfl ?_
          refine z_bipush S (pc := 145) dX8_statistic_145 rfl ?_
          refine z_iload S (pc := 147) dX8_statistic_147 (lv_at hl 9 rfl) ?_
          refine z_bipush S (pc := 149) dX8_statistic_149 rfl ?_
          refine z_iremn S (pc := 151) (by omega) (by omega) dX8_statistic_151 ?_
          refine z_imul S (pc := 152) dX8_statistic_152 ?_
          refine z_iadd S (pc := 153) dX8_statistic_153 ?_
          refine z_iconst S (pc := 154) dX8_statistic_154 ?_
          refine z_iadd S (pc := 155) dX8_statistic_155 ?_
          refine z_lald S (pc := 156) B 1 2 rfl rfl (k := 23 + 7 * (r.toNat % 40) + 3) (by omega) (by omega) (by decide) (v := .long (iL (lrow ρ r 3))) (by rw [Nat.add_assoc, lat_hi]; rfl) dX8_statistic_156 ?_
          refine z_ladd S (pc := 157) dX8_statistic_157 ?_
          refine lv_lstore (lv' := [(11, .long (iL (o + (lrow ρ r 3)))), (9, .long (iL (s0 + (lrow ρ r 0)))), (7, .long (iL (lrow ρ r 0))), (5, .long (iL (lrow ρ r 0))), (14, .long (iL (lrow ρ r 0))), (0, .ref a), (1, .int (iI f)), (2, .int (iI k)), (3, .long (iL mm)), (13, .int (iI r))]) S.1 S.2.1 (pc := 158) dX8_statistic_158 hl (by decide) rfl (fun ls hl => ?_)
          refine z_lload_n S (pc := 160) dX8_statistic_160 rfl (lv_at hl 8 rfl) ?_
          refine z_lconst S (pc := 161) (x := 1) dX8_statistic_161 rfl ?_
          refine z_ladd S (pc := 162) dX8_statistic_162 ?_
          refine lv_lstore_n (lv' := [(3, .long (iL (mm + 1))), (11, .long (iL (o + (lrow ρ r 3)))), (9, .long (iL (s0 + (lrow ρ r 0)))), (7, .long (iL (lrow ρ r 0))), (5, .long (iL (lrow ρ r 0))), (14, .long (iL (lrow ρ r 0))), (0, .ref a), (1, .int (iI f)), (2, .int (iI k)), (13, .int (iI r))]) S.1 S.2.1 (pc := 163) dX8_statistic_163 rfl hl (by decide) rfl (fun ls hl => ?_)
          refine lv_iinc (v := iI (r + 1)) (lv' := [(13, .int (iI (r + 1))), (3, .long (iL (mm + 1))), (11, .long (iL (o + (lrow ρ r 3)))), (9, .long (iL (s0 + (lrow ρ r 0)))), (7, .long (iL (lrow ρ r 0))), (5, .long (iL (lrow ρ r 0))), (14, .long (iL (lrow ρ r 0))), (0, .ref a), (1, .int (iI f)), (2, .int (iI k))]) S.1 S.2.1 (pc := 164) dX8_statistic_164 hl (k := 9) rfl (iI_add _ _) (by decide) rfl (fun ls hl => ?_)
          refine lv_goto S.1 S.2.1 (pc := 167) (tgt := 37) dX8_statistic_167 rfl ?_
          exact absurd c4 (by omega)
        · refine z_lload S (pc := 113) dX8_statistic_113 (lv_at hl 1 rfl) ?_
          refine z_lload S (pc := 115) dX8_statistic_115 (lv_at hl 6 rfl) ?_
          refine z_lc_le S (pc := 117) (tgt := 126) (by omega) (by omega) dX8_statistic_117 dX8_statistic_118 rfl (fun c11 => ?_) (fun c11 => ?_)
          · refine z_lload S (pc := 126) dX8_statistic_126 (lv_at hl 6 rfl) ?_
            refine lv_lstore (lv' := [(7, .long (iL y)), (5, .long (iL (lrow ρ r 0))), (14, .long (iL (lrow ρ r 0))), (0, .ref a), (1, .int (iI f)), (2, .int (iI k)), (3, .long (iL mm)), (9, .long (iL s0)), (11, .long (iL o)), (13, .int (iI r))]) S.1 S.2.1 (pc := 128) dX8_statistic_128 hl (by decide) rfl (fun ls hl => ?_)
            refine z_lload S (pc := 130) dX8_statistic_130 (lv_at hl 7 rfl) ?_
            refine z_lload S (pc := 132) dX8_statistic_132 (lv_at hl 2 rfl) ?_
            refine z_ladd S (pc := 134) dX8_statistic_134 ?_
            refine lv_lstore (lv' := [(9, .long (iL (s0 + (lrow ρ r 0)))), (7, .long (iL y)), (5, .long (iL (lrow ρ r 0))), (14, .long (iL (lrow ρ r 0))), (0, .ref a), (1, .int (iI f)), (2, .int (iI k)), (3, .long (iL mm)), (11, .long (iL o)), (13, .int (iI r))]) S.1 S.2.1 (pc := 135) dX8_statistic_135 hl (by decide) rfl (fun ls hl => ?_)
            refine z_lload S (pc := 137) dX8_statistic_137 (lv_at hl 8 rfl) ?_
            refine z_aload_n S (pc := 139) dX8_statistic_139 rfl (lv_at hl 4 rfl) ?_
            refine z_get S (pc := 140) B iX8_statistic_X8 0 rfl rfl 0 (by decide) rfl rfl (by decide +kernel) dX8_statistic_140 ?_
            refine z_bipush S (pc := 143) dX8_statistic_143 rfl ?_
            refine z_bipush S (pc := 145) dX8_statistic_145 rfl ?_
            refine z_iload S (pc := 147) dX8_statistic_147 (lv_at hl 9 rfl) ?_
            refine z_bipush S (pc := 149) dX8_statistic_149 rfl ?_
            refine z_iremn S (pc := 151) (by omega) (by omega) dX8_statistic_151 ?_
            refine z_imul S (pc := 152) dX8_statistic_152 ?_
            refine z_iadd S (pc := 153) dX8_statistic_153 ?_
            refine z_iconst S (pc := 154) dX8_statistic_154 ?_
            refine z_iadd S (pc := 155) dX8_statistic_155 ?_
            refine z_lald S (pc := 156) B 1 2 rfl rfl (k := 23 + 7 * (r.toNat % 40) + 3) (by omega) (by omega) (by decide) (v := .long (iL (lrow ρ r 3))) (by rw [Nat.add_assoc, lat_hi]; rfl) dX8_statistic_156 ?_
            refine z_ladd S (pc := 157) dX8_statistic_157 ?_
            refine lv_lstore (lv' := [(11, .long (iL (o + (lrow ρ r 3)))), (9, .long (iL (s0 + (lrow ρ r 0)))), (7, .long (iL y)), (5, .long (iL (lrow ρ r 0))), (14, .long (iL (lrow ρ r 0))), (0, .ref a), (1, .int (iI f)), (2, .int (iI k)), (3, .long (iL mm)), (13, .int (iI r))]) S.1 S.2.1 (pc := 158) dX8_statistic_158 hl (by decide) rfl (fun ls hl => ?_)
            refine z_lload_n S (pc := 160) dX8_statistic_160 rfl (lv_at hl 8 rfl) ?_
            refine z_lconst S (pc := 161) (x := 1) dX8_statistic_161 rfl ?_
            refine z_ladd S (pc := 162) dX8_statistic_162 ?_
            refine lv_lstore_n (lv' := [(3, .long (iL (mm + 1))), (11, .long (iL (o + (lrow ρ r 3)))), (9, .long (iL (s0 + (lrow ρ r 0)))), (7, .long (iL y)), (5, .long (iL (lrow ρ r 0))), (14, .long (iL (lrow ρ r 0))), (0, .ref a), (1, .int (iI f)), (2, .int (iI k)), (13, .int (iI r))]) S.1 S.2.1 (pc := 163) dX8_statistic_163 rfl hl (by decide) rfl (fun ls hl => ?_)
            refine lv_iinc (v := iI (r + 1)) (lv' := [(13, .int (iI (r + 1))), (3, .long (iL (mm + 1))), (11, .long (iL (o + (lrow ρ r 3)))), (9, .long (iL (s0 + (lrow ρ r 0)))), (7, .long (iL y)), (5, .long (iL (lrow ρ r 0))), (14, .long (iL (lrow ρ r 0))), (0, .ref a), (1, .int (iI f)), (2, .int (iI k))]) S.1 S.2.1 (pc := 164) dX8_statistic_164 hl (k := 9) rfl (iI_add _ _) (by decide) rfl (fun ls hl => ?_)
            refine lv_goto S.1 S.2.1 (pc := 167) (tgt := 37) dX8_statistic_167 rfl ?_
            have hL2 : minL ρ n (r + 1) (lrow ρ r 0) = LL ∧ maxL ρ n (r + 1) y = GG := by have e := hL.1 (by omega); simp only [minL, maxL] at e; rw [show (if lrow ρ r 0 < x then lrow ρ r 0 else x) = lrow ρ r 0 from by split <;> omega, show (if lrow ρ r 0 < y then y else lrow ρ r 0) = y from by split <;> omega] at e; exact e
            exact ih (r + 1) (mm + 1) (lrow ρ r 0) y (s0 + lrow ρ r 0) (o + lrow ρ r 3) (by omega) (by omega) (by omega) (by omega) ⟨fun _ => hL2, fun q => absurd q (by omega)⟩ (by rw [← hs]; rfl) (by rw [← ho]; rfl) hx _ _ _ B (lv_sub hl [7, 8, 9, 1, 5, 4, 3, 2, 0] rfl)
          · refine z_lload S (pc := 121) dX8_statistic_121 (lv_at hl 1 rfl) ?_
            refine lv_goto S.1 S.2.1 (pc := 123) (tgt := 128) dX8_statistic_123 rfl ?_
            refine lv_lstore (lv' := [(7, .long (iL (lrow ρ r 0))), (5, .long (iL (lrow ρ r 0))), (14, .long (iL (lrow ρ r 0))), (0, .ref a), (1, .int (iI f)), (2, .int (iI k)), (3, .long (iL mm)), (9, .long (iL s0)), (11, .long (iL o)), (13, .int (iI r))]) S.1 S.2.1 (pc := 128) dX8_statistic_128 hl (by decide) rfl (fun ls hl => ?_)
            refine z_lload S (pc := 130) dX8_statistic_130 (lv_at hl 7 rfl) ?_
            refine z_lload S (pc := 132) dX8_statistic_132 (lv_at hl 2 rfl) ?_
            refine z_ladd S (pc := 134) dX8_statistic_134 ?_
            refine lv_lstore (lv' := [(9, .long (iL (s0 + (lrow ρ r 0)))), (7, .long (iL (lrow ρ r 0))), (5, .long (iL (lrow ρ r 0))), (14, .long (iL (lrow ρ r 0))), (0, .ref a), (1, .int (iI f)), (2, .int (iI k)), (3, .long (iL mm)), (11, .long (iL o)), (13, .int (iI r))]) S.1 S.2.1 (pc := 135) dX8_statistic_135 hl (by decide) rfl (fun ls hl => ?_)
            refine z_lload S (pc := 137) dX8_statistic_137 (lv_at hl 8 rfl) ?_
            refine z_aload_n S (pc := 139) dX8_statistic_139 rfl (lv_at hl 4 rfl) ?_
            refine z_get S (pc := 140) B iX8_statistic_X8 0 rfl rfl 0 (by decide) rfl rfl (by decide +kernel) dX8_statistic_140 ?_
            refine z_bipush S (pc := 143) dX8_statistic_143 rfl ?_
            refine z_bipush S (pc := 145) dX8_statistic_145 rfl ?_
            refine z_iload S (pc := 147) dX8_statistic_147 (lv_at hl 9 rfl) ?_
            refine z_bipush S (pc := 149) dX8_statistic_149 rfl ?_
            refine z_iremn S (pc := 151) (by omega) (by omega) dX8_statistic_151 ?_
            refine z_imul S (pc := 152) dX8_statistic_152 ?_
            refine z_iadd S (pc := 153) dX8_statistic_153 ?_
            refine z_iconst S (pc := 154) dX8_statistic_154 ?_
            refine z_iadd S (pc := 155) dX8_statistic_155 ?_
            refine z_lald S (pc := 156) B 1 2 rfl rfl (k := 23 + 7 * (r.toNat % 40) + 3) (by omega) (by omega) (by decide) (v := .long (iL (lrow ρ r 3))) (by rw [Nat.add_assoc, lat_hi]; rfl) dX8_statistic_156 ?_
            refine z_ladd S (pc := 157) dX8_statistic_157 ?_
            refine lv_lstore (lv' := [(11, .long (iL (o + (lrow ρ r 3)))), (9, .long (iL (s0 + (lrow ρ r 0)))), (7, .long (iL (lrow ρ r 0))), (5, .long (iL (lrow ρ r 0))), (14, .long (iL (lrow ρ r 0))), (0, .ref a), (1, .int (iI f)), (2, .int (iI k)), (3, .long (iL mm)), (13, .int (iI r))]) S.1 S.2.1 (pc := 158) dX8_statistic_158 hl (by decide) rfl (fun ls hl => ?_)
            refine z_lload_n S (pc := 160) dX8_statistic_160 rfl (lv_at hl 8 rfl) ?_
            refine z_lconst S (pc := 161) (x := 1) dX8_statistic_161 rfl ?_
            refine z_ladd S (pc := 162) dX8_statistic_162 ?_
            refine lv_lstore_n (lv' := [(3, .long (iL (mm + 1))), (11, .long (iL (o + (lrow ρ r 3)))), (9, .long (iL (s0 + (lrow ρ r 0)))), (7, .long (iL (lrow ρ r 0))), (5, .long (iL (lrow ρ r 0))), (14, .long (iL (lrow ρ r 0))), (0, .ref a), (1, .int (iI f)), (2, .int (iI k)), (13, .int (iI r))]) S.1 S.2.1 (pc := 163) dX8_statistic_163 rfl hl (by decide) rfl (fun ls hl => ?_)
            refine lv_iinc (v := iI (r + 1)) (lv' := [(13, .int (iI (r + 1))), (3, .long (iL (mm + 1))), (11, .long (iL (o + (lrow ρ r 3)))), (9, .long (iL (s0 + (lrow ρ r 0)))), (7, .long (iL (lrow ρ r 0))), (5, .long (iL (lrow ρ r 0))), (14, .long (iL (lrow ρ r 0))), (0, .ref a), (1, .int (iI f)), (2, .int (iI k))]) S.1 S.2.1 (pc := 164) dX8_statistic_164 hl (k := 9) rfl (iI_add _ _) (by decide) rfl (fun ls hl => ?_)
            refine lv_goto S.1 S.2.1 (pc := 167) (tgt := 37) dX8_statistic_167 rfl ?_
            have hL2 : minL ρ n (r + 1) (lrow ρ r 0) = LL ∧ maxL ρ n (r + 1) (lrow ρ r 0) = GG := by have e := hL.1 (by omega); simp only [minL, maxL] at e; rw [show (if lrow ρ r 0 < x then lrow ρ r 0 else x) = lrow ρ r 0 from by split <;> omega, show (if lrow ρ r 0 < y then y else lrow ρ r 0) = lrow ρ r 0 from by split <;> omega] at e; exact e
            exact ih (r + 1) (mm + 1) (lrow ρ r 0) (lrow ρ r 0) (s0 + lrow ρ r 0) (o + lrow ρ r 3) (by omega) (by omega) (by omega) (by omega) ⟨fun _ => hL2, fun q => absurd q (by omega)⟩ (by rw [← hs]; rfl) (by rw [← ho]; rfl) hx _ _ _ B (lv_sub hl [7, 8, 9, 1, 5, 4, 3, 2, 0] rfl)
set_option maxHeartbeats 4000000 in
set_option maxRecDepth 100000 in
theorem mX8_statistic_0 (l : Launch) (E : gT) (a : Nat) (p1 : Nat) (p2 : Nat) (p3 : Nat) (p4 : Nat) (p5 : Nat) (p6 : Nat) (σ : Nat → Int) (ρ : Nat → Int) (pm : Int) (ig : Int) (mo : Int) (rd : Int) (wr : Int) (sm : Int) (f : Int) (hf : 0 ≤ f ∧ f ≤ 2147483647) (h14 : 0 ≤ σ 14 ∧ σ 14 ≤ 20000) (hR : inR ρ) : Cd l E yX8_statistic wsX8_statistic 2 46 0 0 [.ref a, .int (iI f), .int (iI 0)] [cMod a p1 p2 p3 p4 p5 p6 pm ig mo rd wr sm, cAt E p1 σ ρ] (some (.long (iL (nfr (σ 14) f)))) [cMod a p1 p2 p3 p4 p5 p6 pm ig mo rd wr sm, cAt E p1 σ ρ] := by
  refine Ct.mk (cc := cX8_statistic) (maxL := 16) (ret := (some .long)) (plainFor_of_name (by decide)) rfl (Nat.le_of_ble_eq_true rfl) ?_
  intro p e s m below meth c A ls H locs S hr hlk hnm B hl
  have S : CallFix p m c cX8_statistic 16 s #[.ref a, .int (iI f), .int (iI 0)] wsX8_statistic RX8 := S
  have hl : lv_has ls 16 [(0, .ref a), (1, .int (iI f)), (2, .int (iI 0))] := hl
  have hff := ffr_bd (n := σ 14) (f := f) h14
  have hnf : 0 ≤ nfr (σ 14) f ∧ nfr (σ 14) f ≤ 20000 := by unfold nfr; split <;> omega
  refine z_iload_n S (pc := 0) dX8_statistic_0 rfl (lv_at hl 1 rfl) ?_
  refine z_if_lt S (pc := 1) (tgt := 16) (by omega) dX8_statistic_1 rfl (fun c1 => absurd c1 (by omega)) (fun c1 => ?_)
  refine z_iload_n S (pc := 4) dX8_statistic_4 rfl (lv_at hl 2 rfl) ?_
  refine z_i2l S (pc := 5) (by omega) dX8_statistic_5 ?_
  refine z_lconst S (pc := 6) (x := 0) dX8_statistic_6 rfl ?_
  refine z_ldc2 S (pc := 7) (x := 4) (by decide +kernel) rfl dX8_statistic_7 ?_
  refine z_callS S (pc := 10) B (wr := [cMod a p1 p2 p3 p4 p5 p6 pm ig mo rd wr sm, cAt E p1 σ ρ]) (wn := fun _ => [cMod a p1 p2 p3 p4 p5 p6 pm ig mo rd wr sm, cAt E p1 σ ρ]) (st1 := fun _ => [.int (iI (bI (0 ≤ 0 ∧ 0 ≤ 4)))]) (As := [.long (iL 0), .long (iL 0), .long (iL 4)]) (mX8_in l E 0 0 4 (show inL 0 from by omega) (show inL 0 from by omega) (show inL 4 from by omega)) gX8_statistic_X8_in 3 rfl (by decide +kernel) ⟨Nat.le_of_ble_eq_true rfl, Nat.le_of_ble_eq_true rfl, Nat.le_of_ble_eq_true rfl, Nat.le_of_ble_eq_true rfl⟩ [] [0, 1] [0, 1] rfl rfl ⟨rfl, rfl, rfl, by decide⟩ (fun _ => rfl) rfl (fun _ => rfl) hl.1 (Nat.le_of_ble_eq_true rfl) rfl dX8_statistic_10 (fun _ _ H locs B => ?_)
  refine z_ifne_b S (pc := 13) (tgt := 20) dX8_statistic_13 rfl (fun c2 => ?_) (fun c2 => absurd c2 (by omega))
  refine z_lconst S (pc := 20) (x := 0) dX8_statistic_20 rfl ?_
  refine lv_lstore_n (lv' := [(3, .long (iL 0)), (0, .ref a), (1, .int (iI f)), (2, .int (iI 0))]) S.1 S.2.1 (pc := 21) dX8_statistic_21 rfl hl (by decide) rfl (fun ls hl => ?_)
  refine z_lconst S (pc := 22) (x := 0) dX8_statistic_22 rfl ?_
  refine lv_lstore (lv' := [(5, .long (iL 0)), (3, .long (iL 0)), (0, .ref a), (1, .int (iI f)), (2, .int (iI 0))]) S.1 S.2.1 (pc := 23) dX8_statistic_23 hl (by decide) rfl (fun ls hl => ?_)
  refine z_lconst S (pc := 25) (x := 0) dX8_statistic_25 rfl ?_
  refine lv_lstore (lv' := [(7, .long (iL 0)), (5, .long (iL 0)), (3, .long (iL 0)), (0, .ref a), (1, .int (iI f)), (2, .int (iI 0))]) S.1 S.2.1 (pc := 26) dX8_statistic_26 hl (by decide) rfl (fun ls hl => ?_)
  refine z_lconst S (pc := 28) (x := 0) dX8_statistic_28 rfl ?_
  refine lv_lstore (lv' := [(9, .long (iL 0)), (7, .long (iL 0)), (5, .long (iL 0)), (3, .long (iL 0)), (0, .ref a), (1, .int (iI f)), (2, .int (iI 0))]) S.1 S.2.1 (pc := 29) dX8_statistic_29 hl (by decide) rfl (fun ls hl => ?_)
  refine z_lconst S (pc := 31) (x := 0) dX8_statistic_31 rfl ?_
  refine lv_lstore (lv' := [(11, .long (iL 0)), (9, .long (iL 0)), (7, .long (iL 0)), (5, .long (iL 0)), (3, .long (iL 0)), (0, .ref a), (1, .int (iI f)), (2, .int (iI 0))]) S.1 S.2.1 (pc := 32) dX8_statistic_32 hl (by decide) rfl (fun ls hl => ?_)
  refine z_iconst S (pc := 34) dX8_statistic_34 ?_
  refine lv_istore (lv' := [(13, .int (iI 0)), (11, .long (iL 0)), (9, .long (iL 0)), (7, .long (iL 0)), (5, .long (iL 0)), (3, .long (iL 0)), (0, .ref a), (1, .int (iI f)), (2, .int (iI 0))]) S.1 S.2.1 (pc := 35) dX8_statistic_35 hl (by decide) rfl (fun ls hl => ?_)
  refine lpX8_statistic_a E S a p1 p2 p3 p4 p5 p6 σ ρ pm ig mo rd wr sm f 0 h14 hf (if ffr (σ 14) f < σ 14 then ffr (σ 14) f else σ 14) (by split <;> omega) (if ffr (σ 14) f < σ 14 then ffr (σ 14) f else σ 14).toNat 0 (by split <;> omega) (fun H locs ls B hl => ?_) _ _ _ B (lv_sub hl [6, 7, 8, 5, 4, 3, 2, 1, 0] rfl)
  refine lpX8_statistic_b E S a p1 p2 p3 p4 p5 p6 σ ρ pm ig mo rd wr sm f 0 h14 hf hR (nfr (σ 14) f) (minL ρ (nfr (σ 14) f).toNat (ffr (σ 14) f) (lrow ρ (ffr (σ 14) f) 0)) (maxL ρ (nfr (σ 14) f).toNat (ffr (σ 14) f) (lrow ρ (ffr (σ 14) f) 0)) (sumL ρ 0 (nfr (σ 14) f).toNat (ffr (σ 14) f) 0) (sumL ρ 3 (nfr (σ 14) f).toNat (ffr (σ 14) f) 0) (nfr (σ 14) f).toNat (if ffr (σ 14) f < σ 14 then ffr (σ 14) f else σ 14) 0 0 0 0 0 (by unfold nfr; split <;> split <;> omega) (by split <;> omega) (by omega) (by omega) ⟨fun q => absurd q (by omega), fun _ => ?_⟩ ?_ ?_ (fun x y hxy H locs ls B hl => ?_) _ _ _ B hl
  · by_cases hc : ffr (σ 14) f < σ 14
    · rw [if_pos hc]; exact Or.inr ⟨rfl, rfl⟩
    · exact Or.inl (by unfold nfr; split <;> omega)
  · by_cases hc : ffr (σ 14) f < σ 14
    · rw [if_pos hc]
    · rw [show (nfr (σ 14) f).toNat = 0 from by unfold nfr; split <;> omega]; rfl
  · by_cases hc : ffr (σ 14) f < σ 14
    · rw [if_pos hc]
    · rw [show (nfr (σ 14) f).toNat = 0 from by unfold nfr; split <;> omega]; rfl
  refine z_iload_n S (pc := 170) dX8_statistic_170 rfl (lv_at hl 2 rfl) ?_
  refine z_if_eq S (pc := 171) (tgt := 179) (by omega) dX8_statistic_171 rfl (fun c3 => ?_) (fun c3 => absurd c3 (by omega))
  refine z_iload_n S (pc := 179) dX8_statistic_179 rfl (lv_at hl 2 rfl) ?_
  refine z_if_ne S (pc := 180) (tgt := 187) (by omega) dX8_statistic_180 rfl (fun c4 => absurd c4 (by omega)) (fun c4 => ?_)
  refine z_lload_n S (pc := 183) dX8_statistic_183 rfl (lv_at hl 3 rfl) ?_
  refine lv_goto S.1 S.2.1 (pc := 184) (tgt := 189) dX8_statistic_184 rfl ?_
  exact z_lreturn S hr hlk B () trivial rfl rfl (pc := 189) dX8_statistic_189
set_option maxHeartbeats 4000000 in
set_option maxRecDepth 100000 in
theorem mX8_statistic_4 (l : Launch) (E : gT) (a : Nat) (p1 : Nat) (p2 : Nat) (p3 : Nat) (p4 : Nat) (p5 : Nat) (p6 : Nat) (σ : Nat → Int) (ρ : Nat → Int) (pm : Int) (ig : Int) (mo : Int) (rd : Int) (wr : Int) (sm : Int) (f : Int) (hf : 0 ≤ f ∧ f ≤ 2147483647) (h14 : 0 ≤ σ 14 ∧ σ 14 ≤ 20000) (hR : inR ρ) : Cd l E yX8_statistic wsX8_statistic 2 46 0 0 [.ref a, .int (iI f), .int (iI 4)] [cMod a p1 p2 p3 p4 p5 p6 pm ig mo rd wr sm, cAt E p1 σ ρ] (some (.long (iL (sumL ρ 3 (nfr (σ 14) f).toNat (ffr (σ 14) f) 0)))) [cMod a p1 p2 p3 p4 p5 p6 pm ig mo rd wr sm, cAt E p1 σ ρ] := by
  refine Ct.mk (cc := cX8_statistic) (maxL := 16) (ret := (some .long)) (plainFor_of_name (by decide)) rfl (Nat.le_of_ble_eq_true rfl) ?_
  intro p e s m below meth c A ls H locs S hr hlk hnm B hl
  have S : CallFix p m c cX8_statistic 16 s #[.ref a, .int (iI f), .int (iI 4)] wsX8_statistic RX8 := S
  have hl : lv_has ls 16 [(0, .ref a), (1, .int (iI f)), (2, .int (iI 4))] := hl
  have hff := ffr_bd (n := σ 14) (f := f) h14
  have hnf : 0 ≤ nfr (σ 14) f ∧ nfr (σ 14) f ≤ 20000 := by unfold nfr; split <;> omega
  refine z_iload_n S (pc := 0) dX8_statistic_0 rfl (lv_at hl 1 rfl) ?_
  refine z_if_lt S (pc := 1) (tgt := 16) (by omega) dX8_statistic_1 rfl (fun c1 => absurd c1 (by omega)) (fun c1 => ?_)
  refine z_iload_n S (pc := 4) dX8_statistic_4 rfl (lv_at hl 2 rfl) ?_
  refine z_i2l S (pc := 5) (by omega) dX8_statistic_5 ?_
  refine z_lconst S (pc := 6) (x := 0) dX8_statistic_6 rfl ?_
  refine z_ldc2 S (pc := 7) (x := 4) (by decide +kernel) rfl dX8_statistic_7 ?_
  refine z_callS S (pc := 10) B (wr := [cMod a p1 p2 p3 p4 p5 p6 pm ig mo rd wr sm, cAt E p1 σ ρ]) (wn := fun _ => [cMod a p1 p2 p3 p4 p5 p6 pm ig mo rd wr sm, cAt E p1 σ ρ]) (st1 := fun _ => [.int (iI (bI (0 ≤ 4 ∧ 4 ≤ 4)))]) (As := [.long (iL 4), .long (iL 0), .long (iL 4)]) (mX8_in l E 4 0 4 (show inL 4 from by omega) (show inL 0 from by omega) (show inL 4 from by omega)) gX8_statistic_X8_in 3 rfl (by decide +kernel) ⟨Nat.le_of_ble_eq_true rfl, Nat.le_of_ble_eq_true rfl, Nat.le_of_ble_eq_true rfl, Nat.le_of_ble_eq_true rfl⟩ [] [0, 1] [0, 1] rfl rfl ⟨rfl, rfl, rfl, by decide⟩ (fun _ => rfl) rfl (fun _ => rfl) hl.1 (Nat.le_of_ble_eq_true rfl) rfl dX8_statistic_10 (fun _ _ H locs B => ?_)
  refine z_ifne_b S (pc := 13) (tgt := 20) dX8_statistic_13 rfl (fun c2 => ?_) (fun c2 => absurd c2 (by omega))
  refine z_lconst S (pc := 20) (x := 0) dX8_statistic_20 rfl ?_
  refine lv_lstore_n (lv' := [(3, .long (iL 0)), (0, .ref a), (1, .int (iI f)), (2, .int (iI 4))]) S.1 S.2.1 (pc := 21) dX8_statistic_21 rfl hl (by decide) rfl (fun ls hl => ?_)
  refine z_lconst S (pc := 22) (x := 0) dX8_statistic_22 rfl ?_
  refine lv_lstore (lv' := [(5, .long (iL 0)), (3, .long (iL 0)), (0, .ref a), (1, .int (iI f)), (2, .int (iI 4))]) S.1 S.2.1 (pc := 23) dX8_statistic_23 hl (by decide) rfl (fun ls hl => ?_)
  refine z_lconst S (pc := 25) (x := 0) dX8_statistic_25 rfl ?_
  refine lv_lstore (lv' := [(7, .long (iL 0)), (5, .long (iL 0)), (3, .long (iL 0)), (0, .ref a), (1, .int (iI f)), (2, .int (iI 4))]) S.1 S.2.1 (pc := 26) dX8_statistic_26 hl (by decide) rfl (fun ls hl => ?_)
  refine z_lconst S (pc := 28) (x := 0) dX8_statistic_28 rfl ?_
  refine lv_lstore (lv' := [(9, .long (iL 0)), (7, .long (iL 0)), (5, .long (iL 0)), (3, .long (iL 0)), (0, .ref a), (1, .int (iI f)), (2, .int (iI 4))]) S.1 S.2.1 (pc := 29) dX8_statistic_29 hl (by decide) rfl (fun ls hl => ?_)
  refine z_lconst S (pc := 31) (x := 0) dX8_statistic_31 rfl ?_
  refine lv_lstore (lv' := [(11, .long (iL 0)), (9, .long (iL 0)), (7, .long (iL 0)), (5, .long (iL 0)), (3, .long (iL 0)), (0, .ref a), (1, .int (iI f)), (2, .int (iI 4))]) S.1 S.2.1 (pc := 32) dX8_statistic_32 hl (by decide) rfl (fun ls hl => ?_)
  refine z_iconst S (pc := 34) dX8_statistic_34 ?_
  refine lv_istore (lv' := [(13, .int (iI 0)), (11, .long (iL 0)), (9, .long (iL 0)), (7, .long (iL 0)), (5, .long (iL 0)), (3, .long (iL 0)), (0, .ref a), (1, .int (iI f)), (2, .int (iI 4))]) S.1 S.2.1 (pc := 35) dX8_statistic_35 hl (by decide) rfl (fun ls hl => ?_)
  refine lpX8_statistic_a E S a p1 p2 p3 p4 p5 p6 σ ρ pm ig mo rd wr sm f 4 h14 hf (if ffr (σ 14) f < σ 14 then ffr (σ 14) f else σ 14) (by split <;> omega) (if ffr (σ 14) f < σ 14 then ffr (σ 14) f else σ 14).toNat 0 (by split <;> omega) (fun H locs ls B hl => ?_) _ _ _ B (lv_sub hl [6, 7, 8, 5, 4, 3, 2, 1, 0] rfl)
  refine lpX8_statistic_b E S a p1 p2 p3 p4 p5 p6 σ ρ pm ig mo rd wr sm f 4 h14 hf hR (nfr (σ 14) f) (minL ρ (nfr (σ 14) f).toNat (ffr (σ 14) f) (lrow ρ (ffr (σ 14) f) 0)) (maxL ρ (nfr (σ 14) f).toNat (ffr (σ 14) f) (lrow ρ (ffr (σ 14) f) 0)) (sumL ρ 0 (nfr (σ 14) f).toNat (ffr (σ 14) f) 0) (sumL ρ 3 (nfr (σ 14) f).toNat (ffr (σ 14) f) 0) (nfr (σ 14) f).toNat (if ffr (σ 14) f < σ 14 then ffr (σ 14) f else σ 14) 0 0 0 0 0 (by unfold nfr; split <;> split <;> omega) (by split <;> omega) (by omega) (by omega) ⟨fun q => absurd q (by omega), fun _ => ?_⟩ ?_ ?_ (fun x y hxy H locs ls B hl => ?_) _ _ _ B hl
  · by_cases hc : ffr (σ 14) f < σ 14
    · rw [if_pos hc]; exact Or.inr ⟨rfl, rfl⟩
    · exact Or.inl (by unfold nfr; split <;> omega)
  · by_cases hc : ffr (σ 14) f < σ 14
    · rw [if_pos hc]
    · rw [show (nfr (σ 14) f).toNat = 0 from by unfold nfr; split <;> omega]; rfl
  · by_cases hc : ffr (σ 14) f < σ 14
    · rw [if_pos hc]
    · rw [show (nfr (σ 14) f).toNat = 0 from by unfold nfr; split <;> omega]; rfl
  refine z_iload_n S (pc := 170) dX8_statistic_170 rfl (lv_at hl 2 rfl) ?_
  refine z_if_eq S (pc := 171) (tgt := 179) (by omega) dX8_statistic_171 rfl (fun c3 => absurd c3 (by omega)) (fun c3 => ?_)
  refine z_iload_n S (pc := 174) dX8_statistic_174 rfl (lv_at hl 2 rfl) ?_
  refine z_iconst S (pc := 175) dX8_statistic_175 ?_
  refine z_icmp_ne S (pc := 176) (tgt := 190) (by omega) (by omega) dX8_statistic_176 rfl (fun c4 => absurd c4 (by omega)) (fun c4 => ?_)
  refine z_iload_n S (pc := 179) dX8_statistic_179 rfl (lv_at hl 2 rfl) ?_
  refine z_if_ne S (pc := 180) (tgt := 187) (by omega) dX8_statistic_180 rfl (fun c5 => ?_) (fun c5 => absurd c5 (by omega))
  refine z_lload S (pc := 187) dX8_statistic_187 (lv_at hl 7 rfl) ?_
  exact z_lreturn S hr hlk B () trivial rfl rfl (pc := 189) dX8_statistic_189
set_option maxHeartbeats 4000000 in
set_option maxRecDepth 100000 in
theorem mX8_statistic_1n (l : Launch) (E : gT) (a : Nat) (p1 : Nat) (p2 : Nat) (p3 : Nat) (p4 : Nat) (p5 : Nat) (p6 : Nat) (σ : Nat → Int) (ρ : Nat → Int) (pm : Int) (ig : Int) (mo : Int) (rd : Int) (wr : Int) (sm : Int) (f : Int) (hf : 0 ≤ f ∧ f ≤ 2147483647) (h14 : 0 ≤ σ 14 ∧ σ 14 ≤ 20000) (hR : inR ρ) (hnz : nfr (σ 14) f = 0) : Cd l E yX8_statistic wsX8_statistic 2 46 0 0 [.ref a, .int (iI f), .int (iI 1)] [cMod a p1 p2 p3 p4 p5 p6 pm ig mo rd wr sm, cAt E p1 σ ρ] (some (.long (iL (-1000000000000000006)))) [cMod a p1 p2 p3 p4 p5 p6 pm ig mo rd wr sm, cAt E p1 σ ρ] := by
  refine Ct.mk (cc := cX8_statistic) (maxL := 16) (ret := (some .long)) (plainFor_of_name (by decide)) rfl (Nat.le_of_ble_eq_true rfl) ?_
  intro p e s m below meth c A ls H locs S hr hlk hnm B hl
  have S : CallFix p m c cX8_statistic 16 s #[.ref a, .int (iI f), .int (iI 1)] wsX8_statistic RX8 := S
  have hl : lv_has ls 16 [(0, .ref a), (1, .int (iI f)), (2, .int (iI 1))] := hl
  have hff := ffr_bd (n := σ 14) (f := f) h14
  have hnf : 0 ≤ nfr (σ 14) f ∧ nfr (σ 14) f ≤ 20000 := by unfold nfr; split <;> omega
  refine z_iload_n S (pc := 0) dX8_statistic_0 rfl (lv_at hl 1 rfl) ?_
  refine z_if_lt S (pc := 1) (tgt := 16) (by omega) dX8_statistic_1 rfl (fun c1 => absurd c1 (by omega)) (fun c1 => ?_)
  refine z_iload_n S (pc := 4) dX8_statistic_4 rfl (lv_at hl 2 rfl) ?_
  refine z_i2l S (pc := 5) (by omega) dX8_statistic_5 ?_
  refine z_lconst S (pc := 6) (x := 0) dX8_statistic_6 rfl ?_
  refine z_ldc2 S (pc := 7) (x := 4) (by decide +kernel) rfl dX8_statistic_7 ?_
  refine z_callS S (pc := 10) B (wr := [cMod a p1 p2 p3 p4 p5 p6 pm ig mo rd wr sm, cAt E p1 σ ρ]) (wn := fun _ => [cMod a p1 p2 p3 p4 p5 p6 pm ig mo rd wr sm, cAt E p1 σ ρ]) (st1 := fun _ => [.int (iI (bI (0 ≤ 1 ∧ 1 ≤ 4)))]) (As := [.long (iL 1), .long (iL 0), .long (iL 4)]) (mX8_in l E 1 0 4 (show inL 1 from by omega) (show inL 0 from by omega) (show inL 4 from by omega)) gX8_statistic_X8_in 3 rfl (by decide +kernel) ⟨Nat.le_of_ble_eq_true rfl, Nat.le_of_ble_eq_true rfl, Nat.le_of_ble_eq_true rfl, Nat.le_of_ble_eq_true rfl⟩ [] [0, 1] [0, 1] rfl rfl ⟨rfl, rfl, rfl, by decide⟩ (fun _ => rfl) rfl (fun _ => rfl) hl.1 (Nat.le_of_ble_eq_true rfl) rfl dX8_statistic_10 (fun _ _ H locs B => ?_)
  refine z_ifne_b S (pc := 13) (tgt := 20) dX8_statistic_13 rfl (fun c2 => ?_) (fun c2 => absurd c2 (by omega))
  refine z_lconst S (pc := 20) (x := 0) dX8_statistic_20 rfl ?_
  refine lv_lstore_n (lv' := [(3, .long (iL 0)), (0, .ref a), (1, .int (iI f)), (2, .int (iI 1))]) S.1 S.2.1 (pc := 21) dX8_statistic_21 rfl hl (by decide) rfl (fun ls hl => ?_)
  refine z_lconst S (pc := 22) (x := 0) dX8_statistic_22 rfl ?_
  refine lv_lstore (lv' := [(5, .long (iL 0)), (3, .long (iL 0)), (0, .ref a), (1, .int (iI f)), (2, .int (iI 1))]) S.1 S.2.1 (pc := 23) dX8_statistic_23 hl (by decide) rfl (fun ls hl => ?_)
  refine z_lconst S (pc := 25) (x := 0) dX8_statistic_25 rfl ?_
  refine lv_lstore (lv' := [(7, .long (iL 0)), (5, .long (iL 0)), (3, .long (iL 0)), (0, .ref a), (1, .int (iI f)), (2, .int (iI 1))]) S.1 S.2.1 (pc := 26) dX8_statistic_26 hl (by decide) rfl (fun ls hl => ?_)
  refine z_lconst S (pc := 28) (x := 0) dX8_statistic_28 rfl ?_
  refine lv_lstore (lv' := [(9, .long (iL 0)), (7, .long (iL 0)), (5, .long (iL 0)), (3, .long (iL 0)), (0, .ref a), (1, .int (iI f)), (2, .int (iI 1))]) S.1 S.2.1 (pc := 29) dX8_statistic_29 hl (by decide) rfl (fun ls hl => ?_)
  refine z_lconst S (pc := 31) (x := 0) dX8_statistic_31 rfl ?_
  refine lv_lstore (lv' := [(11, .long (iL 0)), (9, .long (iL 0)), (7, .long (iL 0)), (5, .long (iL 0)), (3, .long (iL 0)), (0, .ref a), (1, .int (iI f)), (2, .int (iI 1))]) S.1 S.2.1 (pc := 32) dX8_statistic_32 hl (by decide) rfl (fun ls hl => ?_)
  refine z_iconst S (pc := 34) dX8_statistic_34 ?_
  refine lv_istore (lv' := [(13, .int (iI 0)), (11, .long (iL 0)), (9, .long (iL 0)), (7, .long (iL 0)), (5, .long (iL 0)), (3, .long (iL 0)), (0, .ref a), (1, .int (iI f)), (2, .int (iI 1))]) S.1 S.2.1 (pc := 35) dX8_statistic_35 hl (by decide) rfl (fun ls hl => ?_)
  refine lpX8_statistic_a E S a p1 p2 p3 p4 p5 p6 σ ρ pm ig mo rd wr sm f 1 h14 hf (if ffr (σ 14) f < σ 14 then ffr (σ 14) f else σ 14) (by split <;> omega) (if ffr (σ 14) f < σ 14 then ffr (σ 14) f else σ 14).toNat 0 (by split <;> omega) (fun H locs ls B hl => ?_) _ _ _ B (lv_sub hl [6, 7, 8, 5, 4, 3, 2, 1, 0] rfl)
  refine lpX8_statistic_b E S a p1 p2 p3 p4 p5 p6 σ ρ pm ig mo rd wr sm f 1 h14 hf hR (nfr (σ 14) f) (minL ρ (nfr (σ 14) f).toNat (ffr (σ 14) f) (lrow ρ (ffr (σ 14) f) 0)) (maxL ρ (nfr (σ 14) f).toNat (ffr (σ 14) f) (lrow ρ (ffr (σ 14) f) 0)) (sumL ρ 0 (nfr (σ 14) f).toNat (ffr (σ 14) f) 0) (sumL ρ 3 (nfr (σ 14) f).toNat (ffr (σ 14) f) 0) (nfr (σ 14) f).toNat (if ffr (σ 14) f < σ 14 then ffr (σ 14) f else σ 14) 0 0 0 0 0 (by unfold nfr; split <;> split <;> omega) (by split <;> omega) (by omega) (by omega) ⟨fun q => absurd q (by omega), fun _ => ?_⟩ ?_ ?_ (fun x y hxy H locs ls B hl => ?_) _ _ _ B hl
  · by_cases hc : ffr (σ 14) f < σ 14
    · rw [if_pos hc]; exact Or.inr ⟨rfl, rfl⟩
    · exact Or.inl (by unfold nfr; split <;> omega)
  · by_cases hc : ffr (σ 14) f < σ 14
    · rw [if_pos hc]
    · rw [show (nfr (σ 14) f).toNat = 0 from by unfold nfr; split <;> omega]; rfl
  · by_cases hc : ffr (σ 14) f < σ 14
    · rw [if_pos hc]
    · rw [show (nfr (σ 14) f).toNat = 0 from by unfold nfr; split <;> omega]; rfl
  refine z_iload_n S (pc := 170) dX8_statistic_170 rfl (lv_at hl 2 rfl) ?_
  refine z_if_eq S (pc := 171) (tgt := 179) (by omega) dX8_statistic_171 rfl (fun c3 => absurd c3 (by omega)) (fun c3 => ?_)
  refine z_iload_n S (pc := 174) dX8_statistic_174 rfl (lv_at hl 2 rfl) ?_
  refine z_iconst S (pc := 175) dX8_statistic_175 ?_
  refine z_icmp_ne S (pc := 176) (tgt := 190) (by omega) (by omega) dX8_statistic_176 rfl (fun c4 => ?_) (fun c4 => absurd c4 (by omega))
  refine z_lload_n S (pc := 190) dX8_statistic_190 rfl (lv_at hl 3 rfl) ?_
  refine z_lconst S (pc := 191) (x := 0) dX8_statistic_191 rfl ?_
  refine z_lc_ne S (pc := 192) (tgt := 202) (by omega) (by omega) dX8_statistic_192 dX8_statistic_193 rfl (fun c5 => absurd c5 (by omega)) (fun c5 => ?_)
  refine z_ldc2 S (pc := 196) (x := (-1000000000000000006)) (by decide +kernel) rfl dX8_statistic_196 ?_
  refine lv_goto S.1 S.2.1 (pc := 199) (tgt := 226) dX8_statistic_199 rfl ?_
  exact z_lreturn S hr hlk B () trivial rfl rfl (pc := 226) dX8_statistic_226
set_option maxHeartbeats 4000000 in
set_option maxRecDepth 100000 in
theorem mX8_statistic_2n (l : Launch) (E : gT) (a : Nat) (p1 : Nat) (p2 : Nat) (p3 : Nat) (p4 : Nat) (p5 : Nat) (p6 : Nat) (σ : Nat → Int) (ρ : Nat → Int) (pm : Int) (ig : Int) (mo : Int) (rd : Int) (wr : Int) (sm : Int) (f : Int) (hf : 0 ≤ f ∧ f ≤ 2147483647) (h14 : 0 ≤ σ 14 ∧ σ 14 ≤ 20000) (hR : inR ρ) (hnz : nfr (σ 14) f = 0) : Cd l E yX8_statistic wsX8_statistic 2 46 0 0 [.ref a, .int (iI f), .int (iI 2)] [cMod a p1 p2 p3 p4 p5 p6 pm ig mo rd wr sm, cAt E p1 σ ρ] (some (.long (iL (-1000000000000000006)))) [cMod a p1 p2 p3 p4 p5 p6 pm ig mo rd wr sm, cAt E p1 σ ρ] := by
  refine Ct.mk (cc := cX8_statistic) (maxL := 16) (ret := (some .long)) (plainFor_of_name (by decide)) rfl (Nat.le_of_ble_eq_true rfl) ?_
  intro p e s m below meth c A ls H locs S hr hlk hnm B hl
  have S : CallFix p m c cX8_statistic 16 s #[.ref a, .int (iI f), .int (iI 2)] wsX8_statistic RX8 := S
  have hl : lv_has ls 16 [(0, .ref a), (1, .int (iI f)), (2, .int (iI 2))] := hl
  have hff := ffr_bd (n := σ 14) (f := f) h14
  have hnf : 0 ≤ nfr (σ 14) f ∧ nfr (σ 14) f ≤ 20000 := by unfold nfr; split <;> omega
  refine z_iload_n S (pc := 0) dX8_statistic_0 rfl (lv_at hl 1 rfl) ?_
  refine z_if_lt S (pc := 1) (tgt := 16) (by omega) dX8_statistic_1 rfl (fun c1 => absurd c1 (by omega)) (fun c1 => ?_)
  refine z_iload_n S (pc := 4) dX8_statistic_4 rfl (lv_at hl 2 rfl) ?_
  refine z_i2l S (pc := 5) (by omega) dX8_statistic_5 ?_
  refine z_lconst S (pc := 6) (x := 0) dX8_statistic_6 rfl ?_
  refine z_ldc2 S (pc := 7) (x := 4) (by decide +kernel) rfl dX8_statistic_7 ?_
  refine z_callS S (pc := 10) B (wr := [cMod a p1 p2 p3 p4 p5 p6 pm ig mo rd wr sm, cAt E p1 σ ρ]) (wn := fun _ => [cMod a p1 p2 p3 p4 p5 p6 pm ig mo rd wr sm, cAt E p1 σ ρ]) (st1 := fun _ => [.int (iI (bI (0 ≤ 2 ∧ 2 ≤ 4)))]) (As := [.long (iL 2), .long (iL 0), .long (iL 4)]) (mX8_in l E 2 0 4 (show inL 2 from by omega) (show inL 0 from by omega) (show inL 4 from by omega)) gX8_statistic_X8_in 3 rfl (by decide +kernel) ⟨Nat.le_of_ble_eq_true rfl, Nat.le_of_ble_eq_true rfl, Nat.le_of_ble_eq_true rfl, Nat.le_of_ble_eq_true rfl⟩ [] [0, 1] [0, 1] rfl rfl ⟨rfl, rfl, rfl, by decide⟩ (fun _ => rfl) rfl (fun _ => rfl) hl.1 (Nat.le_of_ble_eq_true rfl) rfl dX8_statistic_10 (fun _ _ H locs B => ?_)
  refine z_ifne_b S (pc := 13) (tgt := 20) dX8_statistic_13 rfl (fun c2 => ?_) (fun c2 => absurd c2 (by omega))
  refine z_lconst S (pc := 20) (x := 0) dX8_statistic_20 rfl ?_
  refine lv_lstore_n (lv' := [(3, .long (iL 0)), (0, .ref a), (1, .int (iI f)), (2, .int (iI 2))]) S.1 S.2.1 (pc := 21) dX8_statistic_21 rfl hl (by decide) rfl (fun ls hl => ?_)
  refine z_lconst S (pc := 22) (x := 0) dX8_statistic_22 rfl ?_
  refine lv_lstore (lv' := [(5, .long (iL 0)), (3, .long (iL 0)), (0, .ref a), (1, .int (iI f)), (2, .int (iI 2))]) S.1 S.2.1 (pc := 23) dX8_statistic_23 hl (by decide) rfl (fun ls hl => ?_)
  refine z_lconst S (pc := 25) (x := 0) dX8_statistic_25 rfl ?_
  refine lv_lstore (lv' := [(7, .long (iL 0)), (5, .long (iL 0)), (3, .long (iL 0)), (0, .ref a), (1, .int (iI f)), (2, .int (iI 2))]) S.1 S.2.1 (pc := 26) dX8_statistic_26 hl (by decide) rfl (fun ls hl => ?_)
  refine z_lconst S (pc := 28) (x := 0) dX8_statistic_28 rfl ?_
  refine lv_lstore (lv' := [(9, .long (iL 0)), (7, .long (iL 0)), (5, .long (iL 0)), (3, .long (iL 0)), (0, .ref a), (1, .int (iI f)), (2, .int (iI 2))]) S.1 S.2.1 (pc := 29) dX8_statistic_29 hl (by decide) rfl (fun ls hl => ?_)
  refine z_lconst S (pc := 31) (x := 0) dX8_statistic_31 rfl ?_
  refine lv_lstore (lv' := [(11, .long (iL 0)), (9, .long (iL 0)), (7, .long (iL 0)), (5, .long (iL 0)), (3, .long (iL 0)), (0, .ref a), (1, .int (iI f)), (2, .int (iI 2))]) S.1 S.2.1 (pc := 32) dX8_statistic_32 hl (by decide) rfl (fun ls hl => ?_)
  refine z_iconst S (pc := 34) dX8_statistic_34 ?_
  refine lv_istore (lv' := [(13, .int (iI 0)), (11, .long (iL 0)), (9, .long (iL 0)), (7, .long (iL 0)), (5, .long (iL 0)), (3, .long (iL 0)), (0, .ref a), (1, .int (iI f)), (2, .int (iI 2))]) S.1 S.2.1 (pc := 35) dX8_statistic_35 hl (by decide) rfl (fun ls hl => ?_)
  refine lpX8_statistic_a E S a p1 p2 p3 p4 p5 p6 σ ρ pm ig mo rd wr sm f 2 h14 hf (if ffr (σ 14) f < σ 14 then ffr (σ 14) f else σ 14) (by split <;> omega) (if ffr (σ 14) f < σ 14 then ffr (σ 14) f else σ 14).toNat 0 (by split <;> omega) (fun H locs ls B hl => ?_) _ _ _ B (lv_sub hl [6, 7, 8, 5, 4, 3, 2, 1, 0] rfl)
  refine lpX8_statistic_b E S a p1 p2 p3 p4 p5 p6 σ ρ pm ig mo rd wr sm f 2 h14 hf hR (nfr (σ 14) f) (minL ρ (nfr (σ 14) f).toNat (ffr (σ 14) f) (lrow ρ (ffr (σ 14) f) 0)) (maxL ρ (nfr (σ 14) f).toNat (ffr (σ 14) f) (lrow ρ (ffr (σ 14) f) 0)) (sumL ρ 0 (nfr (σ 14) f).toNat (ffr (σ 14) f) 0) (sumL ρ 3 (nfr (σ 14) f).toNat (ffr (σ 14) f) 0) (nfr (σ 14) f).toNat (if ffr (σ 14) f < σ 14 then ffr (σ 14) f else σ 14) 0 0 0 0 0 (by unfold nfr; split <;> split <;> omega) (by split <;> omega) (by omega) (by omega) ⟨fun q => absurd q (by omega), fun _ => ?_⟩ ?_ ?_ (fun x y hxy H locs ls B hl => ?_) _ _ _ B hl
  · by_cases hc : ffr (σ 14) f < σ 14
    · rw [if_pos hc]; exact Or.inr ⟨rfl, rfl⟩
    · exact Or.inl (by unfold nfr; split <;> omega)
  · by_cases hc : ffr (σ 14) f < σ 14
    · rw [if_pos hc]
    · rw [show (nfr (σ 14) f).toNat = 0 from by unfold nfr; split <;> omega]; rfl
  · by_cases hc : ffr (σ 14) f < σ 14
    · rw [if_pos hc]
    · rw [show (nfr (σ 14) f).toNat = 0 from by unfold nfr; split <;> omega]; rfl
  refine z_iload_n S (pc := 170) dX8_statistic_170 rfl (lv_at hl 2 rfl) ?_
  refine z_if_eq S (pc := 171) (tgt := 179) (by omega) dX8_statistic_171 rfl (fun c3 => absurd c3 (by omega)) (fun c3 => ?_)
  refine z_iload_n S (pc := 174) dX8_statistic_174 rfl (lv_at hl 2 rfl) ?_
  refine z_iconst S (pc := 175) dX8_statistic_175 ?_
  refine z_icmp_ne S (pc := 176) (tgt := 190) (by omega) (by omega) dX8_statistic_176 rfl (fun c4 => ?_) (fun c4 => absurd c4 (by omega))
  refine z_lload_n S (pc := 190) dX8_statistic_190 rfl (lv_at hl 3 rfl) ?_
  refine z_lconst S (pc := 191) (x := 0) dX8_statistic_191 rfl ?_
  refine z_lc_ne S (pc := 192) (tgt := 202) (by omega) (by omega) dX8_statistic_192 dX8_statistic_193 rfl (fun c5 => absurd c5 (by omega)) (fun c5 => ?_)
  refine z_ldc2 S (pc := 196) (x := (-1000000000000000006)) (by decide +kernel) rfl dX8_statistic_196 ?_
  refine lv_goto S.1 S.2.1 (pc := 199) (tgt := 226) dX8_statistic_199 rfl ?_
  exact z_lreturn S hr hlk B () trivial rfl rfl (pc := 226) dX8_statistic_226
set_option maxHeartbeats 4000000 in
set_option maxRecDepth 100000 in
theorem mX8_statistic_3n (l : Launch) (E : gT) (a : Nat) (p1 : Nat) (p2 : Nat) (p3 : Nat) (p4 : Nat) (p5 : Nat) (p6 : Nat) (σ : Nat → Int) (ρ : Nat → Int) (pm : Int) (ig : Int) (mo : Int) (rd : Int) (wr : Int) (sm : Int) (f : Int) (hf : 0 ≤ f ∧ f ≤ 2147483647) (h14 : 0 ≤ σ 14 ∧ σ 14 ≤ 20000) (hR : inR ρ) (hnz : nfr (σ 14) f = 0) : Cd l E yX8_statistic wsX8_statistic 2 46 0 0 [.ref a, .int (iI f), .int (iI 3)] [cMod a p1 p2 p3 p4 p5 p6 pm ig mo rd wr sm, cAt E p1 σ ρ] (some (.long (iL (-1000000000000000006)))) [cMod a p1 p2 p3 p4 p5 p6 pm ig mo rd wr sm, cAt E p1 σ ρ] := by
  refine Ct.mk (cc := cX8_statistic) (maxL := 16) (ret := (some .long)) (plainFor_of_name (by decide)) rfl (Nat.le_of_ble_eq_true rfl) ?_
  intro p e s m below meth c A ls H locs S hr hlk hnm B hl
  have S : CallFix p m c cX8_statistic 16 s #[.ref a, .int (iI f), .int (iI 3)] wsX8_statistic RX8 := S
  have hl : lv_has ls 16 [(0, .ref a), (1, .int (iI f)), (2, .int (iI 3))] := hl
  have hff := ffr_bd (n := σ 14) (f := f) h14
  have hnf : 0 ≤ nfr (σ 14) f ∧ nfr (σ 14) f ≤ 20000 := by unfold nfr; split <;> omega
  refine z_iload_n S (pc := 0) dX8_statistic_0 rfl (lv_at hl 1 rfl) ?_
  refine z_if_lt S (pc := 1) (tgt := 16) (by omega) dX8_statistic_1 rfl (fun c1 => absurd c1 (by omega)) (fun c1 => ?_)
  refine z_iload_n S (pc := 4) dX8_statistic_4 rfl (lv_at hl 2 rfl) ?_
  refine z_i2l S (pc := 5) (by omega) dX8_statistic_5 ?_
  refine z_lconst S (pc := 6) (x := 0) dX8_statistic_6 rfl ?_
  refine z_ldc2 S (pc := 7) (x := 4) (by decide +kernel) rfl dX8_statistic_7 ?_
  refine z_callS S (pc := 10) B (wr := [cMod a p1 p2 p3 p4 p5 p6 pm ig mo rd wr sm, cAt E p1 σ ρ]) (wn := fun _ => [cMod a p1 p2 p3 p4 p5 p6 pm ig mo rd wr sm, cAt E p1 σ ρ]) (st1 := fun _ => [.int (iI (bI (0 ≤ 3 ∧ 3 ≤ 4)))]) (As := [.long (iL 3), .long (iL 0), .long (iL 4)]) (mX8_in l E 3 0 4 (show inL 3 from by omega) (show inL 0 from by omega) (show inL 4 from by omega)) gX8_statistic_X8_in 3 rfl (by decide +kernel) ⟨Nat.le_of_ble_eq_true rfl, Nat.le_of_ble_eq_true rfl, Nat.le_of_ble_eq_true rfl, Nat.le_of_ble_eq_true rfl⟩ [] [0, 1] [0, 1] rfl rfl ⟨rfl, rfl, rfl, by decide⟩ (fun _ => rfl) rfl (fun _ => rfl) hl.1 (Nat.le_of_ble_eq_true rfl) rfl dX8_statistic_10 (fun _ _ H locs B => ?_)
  refine z_ifne_b S (pc := 13) (tgt := 20) dX8_statistic_13 rfl (fun c2 => ?_) (fun c2 => absurd c2 (by omega))
  refine z_lconst S (pc := 20) (x := 0) dX8_statistic_20 rfl ?_
  refine lv_lstore_n (lv' := [(3, .long (iL 0)), (0, .ref a), (1, .int (iI f)), (2, .int (iI 3))]) S.1 S.2.1 (pc := 21) dX8_statistic_21 rfl hl (by decide) rfl (fun ls hl => ?_)
  refine z_lconst S (pc := 22) (x := 0) dX8_statistic_22 rfl ?_
  refine lv_lstore (lv' := [(5, .long (iL 0)), (3, .long (iL 0)), (0, .ref a), (1, .int (iI f)), (2, .int (iI 3))]) S.1 S.2.1 (pc := 23) dX8_statistic_23 hl (by decide) rfl (fun ls hl => ?_)
  refine z_lconst S (pc := 25) (x := 0) dX8_statistic_25 rfl ?_
  refine lv_lstore (lv' := [(7, .long (iL 0)), (5, .long (iL 0)), (3, .long (iL 0)), (0, .ref a), (1, .int (iI f)), (2, .int (iI 3))]) S.1 S.2.1 (pc := 26) dX8_statistic_26 hl (by decide) rfl (fun ls hl => ?_)
  refine z_lconst S (pc := 28) (x := 0) dX8_statistic_28 rfl ?_
  refine lv_lstore (lv' := [(9, .long (iL 0)), (7, .long (iL 0)), (5, .long (iL 0)), (3, .long (iL 0)), (0, .ref a), (1, .int (iI f)), (2, .int (iI 3))]) S.1 S.2.1 (pc := 29) dX8_statistic_29 hl (by decide) rfl (fun ls hl => ?_)
  refine z_lconst S (pc := 31) (x := 0) dX8_statistic_31 rfl ?_
  refine lv_lstore (lv' := [(11, .long (iL 0)), (9, .long (iL 0)), (7, .long (iL 0)), (5, .long (iL 0)), (3, .long (iL 0)), (0, .ref a), (1, .int (iI f)), (2, .int (iI 3))]) S.1 S.2.1 (pc := 32) dX8_statistic_32 hl (by decide) rfl (fun ls hl => ?_)
  refine z_iconst S (pc := 34) dX8_statistic_34 ?_
  refine lv_istore (lv' := [(13, .int (iI 0)), (11, .long (iL 0)), (9, .long (iL 0)), (7, .long (iL 0)), (5, .long (iL 0)), (3, .long (iL 0)), (0, .ref a), (1, .int (iI f)), (2, .int (iI 3))]) S.1 S.2.1 (pc := 35) dX8_statistic_35 hl (by decide) rfl (fun ls hl => ?_)
  refine lpX8_statistic_a E S a p1 p2 p3 p4 p5 p6 σ ρ pm ig mo rd wr sm f 3 h14 hf (if ffr (σ 14) f < σ 14 then ffr (σ 14) f else σ 14) (by split <;> omega) (if ffr (σ 14) f < σ 14 then ffr (σ 14) f else σ 14).toNat 0 (by split <;> omega) (fun H locs ls B hl => ?_) _ _ _ B (lv_sub hl [6, 7, 8, 5, 4, 3, 2, 1, 0] rfl)
  refine lpX8_statistic_b E S a p1 p2 p3 p4 p5 p6 σ ρ pm ig mo rd wr sm f 3 h14 hf hR (nfr (σ 14) f) (minL ρ (nfr (σ 14) f).toNat (ffr (σ 14) f) (lrow ρ (ffr (σ 14) f) 0)) (maxL ρ (nfr (σ 14) f).toNat (ffr (σ 14) f) (lrow ρ (ffr (σ 14) f) 0)) (sumL ρ 0 (nfr (σ 14) f).toNat (ffr (σ 14) f) 0) (sumL ρ 3 (nfr (σ 14) f).toNat (ffr (σ 14) f) 0) (nfr (σ 14) f).toNat (if ffr (σ 14) f < σ 14 then ffr (σ 14) f else σ 14) 0 0 0 0 0 (by unfold nfr; split <;> split <;> omega) (by split <;> omega) (by omega) (by omega) ⟨fun q => absurd q (by omega), fun _ => ?_⟩ ?_ ?_ (fun x y hxy H locs ls B hl => ?_) _ _ _ B hl
  · by_cases hc : ffr (σ 14) f < σ 14
    · rw [if_pos hc]; exact Or.inr ⟨rfl, rfl⟩
    · exact Or.inl (by unfold nfr; split <;> omega)
  · by_cases hc : ffr (σ 14) f < σ 14
    · rw [if_pos hc]
    · rw [show (nfr (σ 14) f).toNat = 0 from by unfold nfr; split <;> omega]; rfl
  · by_cases hc : ffr (σ 14) f < σ 14
    · rw [if_pos hc]
    · rw [show (nfr (σ 14) f).toNat = 0 from by unfold nfr; split <;> omega]; rfl
  refine z_iload_n S (pc := 170) dX8_statistic_170 rfl (lv_at hl 2 rfl) ?_
  refine z_if_eq S (pc := 171) (tgt := 179) (by omega) dX8_statistic_171 rfl (fun c3 => absurd c3 (by omega)) (fun c3 => ?_)
  refine z_iload_n S (pc := 174) dX8_statistic_174 rfl (lv_at hl 2 rfl) ?_
  refine z_iconst S (pc := 175) dX8_statistic_175 ?_
  refine z_icmp_ne S (pc := 176) (tgt := 190) (by omega) (by omega) dX8_statistic_176 rfl (fun c4 => ?_) (fun c4 => absurd c4 (by omega))
  refine z_lload_n S (pc := 190) dX8_statistic_190 rfl (lv_at hl 3 rfl) ?_
  refine z_lconst S (pc := 191) (x := 0) dX8_statistic_191 rfl ?_
  refine z_lc_ne S (pc := 192) (tgt := 202) (by omega) (by omega) dX8_statistic_192 dX8_statistic_193 rfl (fun c5 => absurd c5 (by omega)) (fun c5 => ?_)
  refine z_ldc2 S (pc := 196) (x := (-1000000000000000006)) (by decide +kernel) rfl dX8_statistic_196 ?_
  refine lv_goto S.1 S.2.1 (pc := 199) (tgt := 226) dX8_statistic_199 rfl ?_
  exact z_lreturn S hr hlk B () trivial rfl rfl (pc := 226) dX8_statistic_226
set_option maxHeartbeats 4000000 in
set_option maxRecDepth 100000 in
theorem mX8_statistic_1 (l : Launch) (E : gT) (a : Nat) (p1 : Nat) (p2 : Nat) (p3 : Nat) (p4 : Nat) (p5 : Nat) (p6 : Nat) (σ : Nat → Int) (ρ : Nat → Int) (pm : Int) (ig : Int) (mo : Int) (rd : Int) (wr : Int) (sm : Int) (f : Int) (hf : 0 ≤ f ∧ f ≤ 2147483647) (h14 : 0 ≤ σ 14 ∧ σ 14 ≤ 20000) (hR : inR ρ) (hnz : 0 < nfr (σ 14) f) : Cd l E yX8_statistic wsX8_statistic 2 46 0 0 [.ref a, .int (iI f), .int (iI 1)] [cMod a p1 p2 p3 p4 p5 p6 pm ig mo rd wr sm, cAt E p1 σ ρ] (some (.long (iL (minL ρ (nfr (σ 14) f).toNat (ffr (σ 14) f) (lrow ρ (ffr (σ 14) f) 0))))) [cMod a p1 p2 p3 p4 p5 p6 pm ig mo rd wr sm, cAt E p1 σ ρ] := by
  refine Ct.mk (cc := cX8_statistic) (maxL := 16) (ret := (some .long)) (plainFor_of_name (by decide)) rfl (Nat.le_of_ble_eq_true rfl) ?_
  intro p e s m below meth c A ls H locs S hr hlk hnm B hl
  have S : CallFix p m c cX8_statistic 16 s #[.ref a, .int (iI f), .int (iI 1)] wsX8_statistic RX8 := S
  have hl : lv_has ls 16 [(0, .ref a), (1, .int (iI f)), (2, .int (iI 1))] := hl
  have hff := ffr_bd (n := σ 14) (f := f) h14
  have hnf : 0 ≤ nfr (σ 14) f ∧ nfr (σ 14) f ≤ 20000 := by unfold nfr; split <;> omega
  refine z_iload_n S (pc := 0) dX8_statistic_0 rfl (lv_at hl 1 rfl) ?_
  refine z_if_lt S (pc := 1) (tgt := 16) (by omega) dX8_statistic_1 rfl (fun c1 => absurd c1 (by omega)) (fun c1 => ?_)
  refine z_iload_n S (pc := 4) dX8_statistic_4 rfl (lv_at hl 2 rfl) ?_
  refine z_i2l S (pc := 5) (by omega) dX8_statistic_5 ?_
  refine z_lconst S (pc := 6) (x := 0) dX8_statistic_6 rfl ?_
  refine z_ldc2 S (pc := 7) (x := 4) (by decide +kernel) rfl dX8_statistic_7 ?_
  refine z_callS S (pc := 10) B (wr := [cMod a p1 p2 p3 p4 p5 p6 pm ig mo rd wr sm, cAt E p1 σ ρ]) (wn := fun _ => [cMod a p1 p2 p3 p4 p5 p6 pm ig mo rd wr sm, cAt E p1 σ ρ]) (st1 := fun _ => [.int (iI (bI (0 ≤ 1 ∧ 1 ≤ 4)))]) (As := [.long (iL 1), .long (iL 0), .long (iL 4)]) (mX8_in l E 1 0 4 (show inL 1 from by omega) (show inL 0 from by omega) (show inL 4 from by omega)) gX8_statistic_X8_in 3 rfl (by decide +kernel) ⟨Nat.le_of_ble_eq_true rfl, Nat.le_of_ble_eq_true rfl, Nat.le_of_ble_eq_true rfl, Nat.le_of_ble_eq_true rfl⟩ [] [0, 1] [0, 1] rfl rfl ⟨rfl, rfl, rfl, by decide⟩ (fun _ => rfl) rfl (fun _ => rfl) hl.1 (Nat.le_of_ble_eq_true rfl) rfl dX8_statistic_10 (fun _ _ H locs B => ?_)
  refine z_ifne_b S (pc := 13) (tgt := 20) dX8_statistic_13 rfl (fun c2 => ?_) (fun c2 => absurd c2 (by omega))
  refine z_lconst S (pc := 20) (x := 0) dX8_statistic_20 rfl ?_
  refine lv_lstore_n (lv' := [(3, .long (iL 0)), (0, .ref a), (1, .int (iI f)), (2, .int (iI 1))]) S.1 S.2.1 (pc := 21) dX8_statistic_21 rfl hl (by decide) rfl (fun ls hl => ?_)
  refine z_lconst S (pc := 22) (x := 0) dX8_statistic_22 rfl ?_
  refine lv_lstore (lv' := [(5, .long (iL 0)), (3, .long (iL 0)), (0, .ref a), (1, .int (iI f)), (2, .int (iI 1))]) S.1 S.2.1 (pc := 23) dX8_statistic_23 hl (by decide) rfl (fun ls hl => ?_)
  refine z_lconst S (pc := 25) (x := 0) dX8_statistic_25 rfl ?_
  refine lv_lstore (lv' := [(7, .long (iL 0)), (5, .long (iL 0)), (3, .long (iL 0)), (0, .ref a), (1, .int (iI f)), (2, .int (iI 1))]) S.1 S.2.1 (pc := 26) dX8_statistic_26 hl (by decide) rfl (fun ls hl => ?_)
  refine z_lconst S (pc := 28) (x := 0) dX8_statistic_28 rfl ?_
  refine lv_lstore (lv' := [(9, .long (iL 0)), (7, .long (iL 0)), (5, .long (iL 0)), (3, .long (iL 0)), (0, .ref a), (1, .int (iI f)), (2, .int (iI 1))]) S.1 S.2.1 (pc := 29) dX8_statistic_29 hl (by decide) rfl (fun ls hl => ?_)
  refine z_lconst S (pc := 31) (x := 0) dX8_statistic_31 rfl ?_
  refine lv_lstore (lv' := [(11, .long (iL 0)), (9, .long (iL 0)), (7, .long (iL 0)), (5, .long (iL 0)), (3, .long (iL 0)), (0, .ref a), (1, .int (iI f)), (2, .int (iI 1))]) S.1 S.2.1 (pc := 32) dX8_statistic_32 hl (by decide) rfl (fun ls hl => ?_)
  refine z_iconst S (pc := 34) dX8_statistic_34 ?_
  refine lv_istore (lv' := [(13, .int (iI 0)), (11, .long (iL 0)), (9, .long (iL 0)), (7, .long (iL 0)), (5, .long (iL 0)), (3, .long (iL 0)), (0, .ref a), (1, .int (iI f)), (2, .int (iI 1))]) S.1 S.2.1 (pc := 35) dX8_statistic_35 hl (by decide) rfl (fun ls hl => ?_)
  refine lpX8_statistic_a E S a p1 p2 p3 p4 p5 p6 σ ρ pm ig mo rd wr sm f 1 h14 hf (if ffr (σ 14) f < σ 14 then ffr (σ 14) f else σ 14) (by split <;> omega) (if ffr (σ 14) f < σ 14 then ffr (σ 14) f else σ 14).toNat 0 (by split <;> omega) (fun H locs ls B hl => ?_) _ _ _ B (lv_sub hl [6, 7, 8, 5, 4, 3, 2, 1, 0] rfl)
  refine lpX8_statistic_b E S a p1 p2 p3 p4 p5 p6 σ ρ pm ig mo rd wr sm f 1 h14 hf hR (nfr (σ 14) f) (minL ρ (nfr (σ 14) f).toNat (ffr (σ 14) f) (lrow ρ (ffr (σ 14) f) 0)) (maxL ρ (nfr (σ 14) f).toNat (ffr (σ 14) f) (lrow ρ (ffr (σ 14) f) 0)) (sumL ρ 0 (nfr (σ 14) f).toNat (ffr (σ 14) f) 0) (sumL ρ 3 (nfr (σ 14) f).toNat (ffr (σ 14) f) 0) (nfr (σ 14) f).toNat (if ffr (σ 14) f < σ 14 then ffr (σ 14) f else σ 14) 0 0 0 0 0 (by unfold nfr; split <;> split <;> omega) (by split <;> omega) (by omega) (by omega) ⟨fun q => absurd q (by omega), fun _ => ?_⟩ ?_ ?_ (fun x y hxy H locs ls B hl => ?_) _ _ _ B hl
  · by_cases hc : ffr (σ 14) f < σ 14
    · rw [if_pos hc]; exact Or.inr ⟨rfl, rfl⟩
    · exact Or.inl (by unfold nfr; split <;> omega)
  · by_cases hc : ffr (σ 14) f < σ 14
    · rw [if_pos hc]
    · rw [show (nfr (σ 14) f).toNat = 0 from by unfold nfr; split <;> omega]; rfl
  · by_cases hc : ffr (σ 14) f < σ 14
    · rw [if_pos hc]
    · rw [show (nfr (σ 14) f).toNat = 0 from by unfold nfr; split <;> omega]; rfl
  refine z_iload_n S (pc := 170) dX8_statistic_170 rfl (lv_at hl 2 rfl) ?_
  refine z_if_eq S (pc := 171) (tgt := 179) (by omega) dX8_statistic_171 rfl (fun c3 => absurd c3 (by omega)) (fun c3 => ?_)
  refine z_iload_n S (pc := 174) dX8_statistic_174 rfl (lv_at hl 2 rfl) ?_
  refine z_iconst S (pc := 175) dX8_statistic_175 ?_
  refine z_icmp_ne S (pc := 176) (tgt := 190) (by omega) (by omega) dX8_statistic_176 rfl (fun c4 => ?_) (fun c4 => absurd c4 (by omega))
  refine z_lload_n S (pc := 190) dX8_statistic_190 rfl (lv_at hl 3 rfl) ?_
  refine z_lconst S (pc := 191) (x := 0) dX8_statistic_191 rfl ?_
  refine z_lc_ne S (pc := 192) (tgt := 202) (by omega) (by omega) dX8_statistic_192 dX8_statistic_193 rfl (fun c5 => ?_) (fun c5 => absurd c5 (by omega))
  refine z_iload_n S (pc := 202) dX8_statistic_202 rfl (lv_at hl 2 rfl) ?_
  refine z_iconst S (pc := 203) dX8_statistic_203 ?_
  refine z_icmp_ne S (pc := 204) (tgt := 212) (by omega) (by omega) dX8_statistic_204 rfl (fun c6 => absurd c6 (by omega)) (fun c6 => ?_)
  refine z_lload S (pc := 207) dX8_statistic_207 (lv_at hl 4 rfl) ?_
  refine lv_goto S.1 S.2.1 (pc := 209) (tgt := 226) dX8_statistic_209 rfl ?_
  exact z_lreturn S hr hlk B () trivial (by rw [(hxy hnz).1]) rfl (pc := 226) dX8_statistic_226
set_option maxHeartbeats 4000000 in
set_option maxRecDepth 100000 in
theorem mX8_statistic_2 (l : Launch) (E : gT) (a : Nat) (p1 : Nat) (p2 : Nat) (p3 : Nat) (p4 : Nat) (p5 : Nat) (p6 : Nat) (σ : Nat → Int) (ρ : Nat → Int) (pm : Int) (ig : Int) (mo : Int) (rd : Int) (wr : Int) (sm : Int) (f : Int) (hf : 0 ≤ f ∧ f ≤ 2147483647) (h14 : 0 ≤ σ 14 ∧ σ 14 ≤ 20000) (hR : inR ρ) (hnz : 0 < nfr (σ 14) f) : Cd l E yX8_statistic wsX8_statistic 2 46 0 0 [.ref a, .int (iI f), .int (iI 2)] [cMod a p1 p2 p3 p4 p5 p6 pm ig mo rd wr sm, cAt E p1 σ ρ] (some (.long (iL (maxL ρ (nfr (σ 14) f).toNat (ffr (σ 14) f) (lrow ρ (ffr (σ 14) f) 0))))) [cMod a p1 p2 p3 p4 p5 p6 pm ig mo rd wr sm, cAt E p1 σ ρ] := by
  refine Ct.mk (cc := cX8_statistic) (maxL := 16) (ret := (some .long)) (plainFor_of_name (by decide)) rfl (Nat.le_of_ble_eq_true rfl) ?_
  intro p e s m below meth c A ls H locs S hr hlk hnm B hl
  have S : CallFix p m c cX8_statistic 16 s #[.ref a, .int (iI f), .int (iI 2)] wsX8_statistic RX8 := S
  have hl : lv_has ls 16 [(0, .ref a), (1, .int (iI f)), (2, .int (iI 2))] := hl
  have hff := ffr_bd (n := σ 14) (f := f) h14
  have hnf : 0 ≤ nfr (σ 14) f ∧ nfr (σ 14) f ≤ 20000 := by unfold nfr; split <;> omega
  refine z_iload_n S (pc := 0) dX8_statistic_0 rfl (lv_at hl 1 rfl) ?_
  refine z_if_lt S (pc := 1) (tgt := 16) (by omega) dX8_statistic_1 rfl (fun c1 => absurd c1 (by omega)) (fun c1 => ?_)
  refine z_iload_n S (pc := 4) dX8_statistic_4 rfl (lv_at hl 2 rfl) ?_
  refine z_i2l S (pc := 5) (by omega) dX8_statistic_5 ?_
  refine z_lconst S (pc := 6) (x := 0) dX8_statistic_6 rfl ?_
  refine z_ldc2 S (pc := 7) (x := 4) (by decide +kernel) rfl dX8_statistic_7 ?_
  refine z_callS S (pc := 10) B (wr := [cMod a p1 p2 p3 p4 p5 p6 pm ig mo rd wr sm, cAt E p1 σ ρ]) (wn := fun _ => [cMod a p1 p2 p3 p4 p5 p6 pm ig mo rd wr sm, cAt E p1 σ ρ]) (st1 := fun _ => [.int (iI (bI (0 ≤ 2 ∧ 2 ≤ 4)))]) (As := [.long (iL 2), .long (iL 0), .long (iL 4)]) (mX8_in l E 2 0 4 (show inL 2 from by omega) (show inL 0 from by omega) (show inL 4 from by omega)) gX8_statistic_X8_in 3 rfl (by decide +kernel) ⟨Nat.le_of_ble_eq_true rfl, Nat.le_of_ble_eq_true rfl, Nat.le_of_ble_eq_true rfl, Nat.le_of_ble_eq_true rfl⟩ [] [0, 1] [0, 1] rfl rfl ⟨rfl, rfl, rfl, by decide⟩ (fun _ => rfl) rfl (fun _ => rfl) hl.1 (Nat.le_of_ble_eq_true rfl) rfl dX8_statistic_10 (fun _ _ H locs B => ?_)
  refine z_ifne_b S (pc := 13) (tgt := 20) dX8_statistic_13 rfl (fun c2 => ?_) (fun c2 => absurd c2 (by omega))
  refine z_lconst S (pc := 20) (x := 0) dX8_statistic_20 rfl ?_
  refine lv_lstore_n (lv' := [(3, .long (iL 0)), (0, .ref a), (1, .int (iI f)), (2, .int (iI 2))]) S.1 S.2.1 (pc := 21) dX8_statistic_21 rfl hl (by decide) rfl (fun ls hl => ?_)
  refine z_lconst S (pc := 22) (x := 0) dX8_statistic_22 rfl ?_
  refine lv_lstore (lv' := [(5, .long (iL 0)), (3, .long (iL 0)), (0, .ref a), (1, .int (iI f)), (2, .int (iI 2))]) S.1 S.2.1 (pc := 23) dX8_statistic_23 hl (by decide) rfl (fun ls hl => ?_)
  refine z_lconst S (pc := 25) (x := 0) dX8_statistic_25 rfl ?_
  refine lv_lstore (lv' := [(7, .long (iL 0)), (5, .long (iL 0)), (3, .long (iL 0)), (0, .ref a), (1, .int (iI f)), (2, .int (iI 2))]) S.1 S.2.1 (pc := 26) dX8_statistic_26 hl (by decide) rfl (fun ls hl => ?_)
  refine z_lconst S (pc := 28) (x := 0) dX8_statistic_28 rfl ?_
  refine lv_lstore (lv' := [(9, .long (iL 0)), (7, .long (iL 0)), (5, .long (iL 0)), (3, .long (iL 0)), (0, .ref a), (1, .int (iI f)), (2, .int (iI 2))]) S.1 S.2.1 (pc := 29) dX8_statistic_29 hl (by decide) rfl (fun ls hl => ?_)
  refine z_lconst S (pc := 31) (x := 0) dX8_statistic_31 rfl ?_
  refine lv_lstore (lv' := [(11, .long (iL 0)), (9, .long (iL 0)), (7, .long (iL 0)), (5, .long (iL 0)), (3, .long (iL 0)), (0, .ref a), (1, .int (iI f)), (2, .int (iI 2))]) S.1 S.2.1 (pc := 32) dX8_statistic_32 hl (by decide) rfl (fun ls hl => ?_)
  refine z_iconst S (pc := 34) dX8_statistic_34 ?_
  refine lv_istore (lv' := [(13, .int (iI 0)), (11, .long (iL 0)), (9, .long (iL 0)), (7, .long (iL 0)), (5, .long (iL 0)), (3, .long (iL 0)), (0, .ref a), (1, .int (iI f)), (2, .int (iI 2))]) S.1 S.2.1 (pc := 35) dX8_statistic_35 hl (by decide) rfl (fun ls hl => ?_)
  refine lpX8_statistic_a E S a p1 p2 p3 p4 p5 p6 σ ρ pm ig mo rd wr sm f 2 h14 hf (if ffr (σ 14) f < σ 14 then ffr (σ 14) f else σ 14) (by split <;> omega) (if ffr (σ 14) f < σ 14 then ffr (σ 14) f else σ 14).toNat 0 (by split <;> omega) (fun H locs ls B hl => ?_) _ _ _ B (lv_sub hl [6, 7, 8, 5, 4, 3, 2, 1, 0] rfl)
  refine lpX8_statistic_b E S a p1 p2 p3 p4 p5 p6 σ ρ pm ig mo rd wr sm f 2 h14 hf hR (nfr (σ 14) f) (minL ρ (nfr (σ 14) f).toNat (ffr (σ 14) f) (lrow ρ (ffr (σ 14) f) 0)) (maxL ρ (nfr (σ 14) f).toNat (ffr (σ 14) f) (lrow ρ (ffr (σ 14) f) 0)) (sumL ρ 0 (nfr (σ 14) f).toNat (ffr (σ 14) f) 0) (sumL ρ 3 (nfr (σ 14) f).toNat (ffr (σ 14) f) 0) (nfr (σ 14) f).toNat (if ffr (σ 14) f < σ 14 then ffr (σ 14) f else σ 14) 0 0 0 0 0 (by unfold nfr; split <;> split <;> omega) (by split <;> omega) (by omega) (by omega) ⟨fun q => absurd q (by omega), fun _ => ?_⟩ ?_ ?_ (fun x y hxy H locs ls B hl => ?_) _ _ _ B hl
  · by_cases hc : ffr (σ 14) f < σ 14
    · rw [if_pos hc]; exact Or.inr ⟨rfl, rfl⟩
    · exact Or.inl (by unfold nfr; split <;> omega)
  · by_cases hc : ffr (σ 14) f < σ 14
    · rw [if_pos hc]
    · rw [show (nfr (σ 14) f).toNat = 0 from by unfold nfr; split <;> omega]; rfl
  · by_cases hc : ffr (σ 14) f < σ 14
    · rw [if_pos hc]
    · rw [show (nfr (σ 14) f).toNat = 0 from by unfold nfr; split <;> omega]; rfl
  refine z_iload_n S (pc := 170) dX8_statistic_170 rfl (lv_at hl 2 rfl) ?_
  refine z_if_eq S (pc := 171) (tgt := 179) (by omega) dX8_statistic_171 rfl (fun c3 => absurd c3 (by omega)) (fun c3 => ?_)
  refine z_iload_n S (pc := 174) dX8_statistic_174 rfl (lv_at hl 2 rfl) ?_
  refine z_iconst S (pc := 175) dX8_statistic_175 ?_
  refine z_icmp_ne S (pc := 176) (tgt := 190) (by omega) (by omega) dX8_statistic_176 rfl (fun c4 => ?_) (fun c4 => absurd c4 (by omega))
  refine z_lload_n S (pc := 190) dX8_statistic_190 rfl (lv_at hl 3 rfl) ?_
  refine z_lconst S (pc := 191) (x := 0) dX8_statistic_191 rfl ?_
  refine z_lc_ne S (pc := 192) (tgt := 202) (by omega) (by omega) dX8_statistic_192 dX8_statistic_193 rfl (fun c5 => ?_) (fun c5 => absurd c5 (by omega))
  refine z_iload_n S (pc := 202) dX8_statistic_202 rfl (lv_at hl 2 rfl) ?_
  refine z_iconst S (pc := 203) dX8_statistic_203 ?_
  refine z_icmp_ne S (pc := 204) (tgt := 212) (by omega) (by omega) dX8_statistic_204 rfl (fun c6 => ?_) (fun c6 => absurd c6 (by omega))
  refine z_iload_n S (pc := 212) dX8_statistic_212 rfl (lv_at hl 2 rfl) ?_
  refine z_iconst S (pc := 213) dX8_statistic_213 ?_
  refine z_icmp_ne S (pc := 214) (tgt := 222) (by omega) (by omega) dX8_statistic_214 rfl (fun c7 => absurd c7 (by omega)) (fun c7 => ?_)
  refine z_lload S (pc := 217) dX8_statistic_217 (lv_at hl 5 rfl) ?_
  refine lv_goto S.1 S.2.1 (pc := 219) (tgt := 226) dX8_statistic_219 rfl ?_
  exact z_lreturn S hr hlk B () trivial (by rw [(hxy hnz).2]) rfl (pc := 226) dX8_statistic_226
set_option maxHeartbeats 4000000 in
set_option maxRecDepth 100000 in
theorem mX8_statistic_3 (l : Launch) (E : gT) (a : Nat) (p1 : Nat) (p2 : Nat) (p3 : Nat) (p4 : Nat) (p5 : Nat) (p6 : Nat) (σ : Nat → Int) (ρ : Nat → Int) (pm : Int) (ig : Int) (mo : Int) (rd : Int) (wr : Int) (sm : Int) (f : Int) (hf : 0 ≤ f ∧ f ≤ 2147483647) (h14 : 0 ≤ σ 14 ∧ σ 14 ≤ 20000) (hR : inR ρ) (hnz : 0 < nfr (σ 14) f) : Cd l E yX8_statistic wsX8_statistic 2 46 0 0 [.ref a, .int (iI f), .int (iI 3)] [cMod a p1 p2 p3 p4 p5 p6 pm ig mo rd wr sm, cAt E p1 σ ρ] (some (.long (iL ((sumL ρ 0 (nfr (σ 14) f).toNat (ffr (σ 14) f) 0).tdiv (nfr (σ 14) f))))) [cMod a p1 p2 p3 p4 p5 p6 pm ig mo rd wr sm, cAt E p1 σ ρ] := by
  refine Ct.mk (cc := cX8_statistic) (maxL := 16) (ret := (some .long)) (plainFor_of_name (by decide)) rfl (Nat.le_of_ble_eq_true rfl) ?_
  intro p e s m below meth c A ls H locs S hr hlk hnm B hl
  have S : CallFix p m c cX8_statistic 16 s #[.ref a, .int (iI f), .int (iI 3)] wsX8_statistic RX8 := S
  have hl : lv_has ls 16 [(0, .ref a), (1, .int (iI f)), (2, .int (iI 3))] := hl
  have hff := ffr_bd (n := σ 14) (f := f) h14
  have hnf : 0 ≤ nfr (σ 14) f ∧ nfr (σ 14) f ≤ 20000 := by unfold nfr; split <;> omega
  have hs1 := sumL_bd hR 0 (nfr (σ 14) f).toNat (ffr (σ 14) f) 0 0 (by omega) (by omega)
  have hs2 := tdiv_bd (a := sumL ρ 0 (nfr (σ 14) f).toNat (ffr (σ 14) f) 0) (q := nfr (σ 14) f) (B := 1099511627776 * 20000) (by omega) (by omega) (by omega)
  refine z_iload_n S (pc := 0) dX8_statistic_0 rfl (lv_at hl 1 rfl) ?_
  refine z_if_lt S (pc := 1) (tgt := 16) (by omega) dX8_statistic_1 rfl (fun c1 => absurd c1 (by omega)) (fun c1 => ?_)
  refine z_iload_n S (pc := 4) dX8_statistic_4 rfl (lv_at hl 2 rfl) ?_
  refine z_i2l S (pc := 5) (by omega) dX8_statistic_5 ?_
  refine z_lconst S (pc := 6) (x := 0) dX8_statistic_6 rfl ?_
  refine z_ldc2 S (pc := 7) (x := 4) (by decide +kernel) rfl dX8_statistic_7 ?_
  refine z_callS S (pc := 10) B (wr := [cMod a p1 p2 p3 p4 p5 p6 pm ig mo rd wr sm, cAt E p1 σ ρ]) (wn := fun _ => [cMod a p1 p2 p3 p4 p5 p6 pm ig mo rd wr sm, cAt E p1 σ ρ]) (st1 := fun _ => [.int (iI (bI (0 ≤ 3 ∧ 3 ≤ 4)))]) (As := [.long (iL 3), .long (iL 0), .long (iL 4)]) (mX8_in l E 3 0 4 (show inL 3 from by omega) (show inL 0 from by omega) (show inL 4 from by omega)) gX8_statistic_X8_in 3 rfl (by decide +kernel) ⟨Nat.le_of_ble_eq_true rfl, Nat.le_of_ble_eq_true rfl, Nat.le_of_ble_eq_true rfl, Nat.le_of_ble_eq_true rfl⟩ [] [0, 1] [0, 1] rfl rfl ⟨rfl, rfl, rfl, by decide⟩ (fun _ => rfl) rfl (fun _ => rfl) hl.1 (Nat.le_of_ble_eq_true rfl) rfl dX8_statistic_10 (fun _ _ H locs B => ?_)
  refine z_ifne_b S (pc := 13) (tgt := 20) dX8_statistic_13 rfl (fun c2 => ?_) (fun c2 => absurd c2 (by omega))
  refine z_lconst S (pc := 20) (x := 0) dX8_statistic_20 rfl ?_
  refine lv_lstore_n (lv' := [(3, .long (iL 0)), (0, .ref a), (1, .int (iI f)), (2, .int (iI 3))]) S.1 S.2.1 (pc := 21) dX8_statistic_21 rfl hl (by decide) rfl (fun ls hl => ?_)
  refine z_lconst S (pc := 22) (x := 0) dX8_statistic_22 rfl ?_
  refine lv_lstore (lv' := [(5, .long (iL 0)), (3, .long (iL 0)), (0, .ref a), (1, .int (iI f)), (2, .int (iI 3))]) S.1 S.2.1 (pc := 23) dX8_statistic_23 hl (by decide) rfl (fun ls hl => ?_)
  refine z_lconst S (pc := 25) (x := 0) dX8_statistic_25 rfl ?_
  refine lv_lstore (lv' := [(7, .long (iL 0)), (5, .long (iL 0)), (3, .long (iL 0)), (0, .ref a), (1, .int (iI f)), (2, .int (iI 3))]) S.1 S.2.1 (pc := 26) dX8_statistic_26 hl (by decide) rfl (fun ls hl => ?_)
  refine z_lconst S (pc := 28) (x := 0) dX8_statistic_28 rfl ?_
  refine lv_lstore (lv' := [(9, .long (iL 0)), (7, .long (iL 0)), (5, .long (iL 0)), (3, .long (iL 0)), (0, .ref a), (1, .int (iI f)), (2, .int (iI 3))]) S.1 S.2.1 (pc := 29) dX8_statistic_29 hl (by decide) rfl (fun ls hl => ?_)
  refine z_lconst S (pc := 31) (x := 0) dX8_statistic_31 rfl ?_
  refine lv_lstore (lv' := [(11, .long (iL 0)), (9, .long (iL 0)), (7, .long (iL 0)), (5, .long (iL 0)), (3, .long (iL 0)), (0, .ref a), (1, .int (iI f)), (2, .int (iI 3))]) S.1 S.2.1 (pc := 32) dX8_statistic_32 hl (by decide) rfl (fun ls hl => ?_)
  refine z_iconst S (pc := 34) dX8_statistic_34 ?_
  refine lv_istore (lv' := [(13, .int (iI 0)), (11, .long (iL 0)), (9, .long (iL 0)), (7, .long (iL 0)), (5, .long (iL 0)), (3, .long (iL 0)), (0, .ref a), (1, .int (iI f)), (2, .int (iI 3))]) S.1 S.2.1 (pc := 35) dX8_statistic_35 hl (by decide) rfl (fun ls hl => ?_)
  refine lpX8_statistic_a E S a p1 p2 p3 p4 p5 p6 σ ρ pm ig mo rd wr sm f 3 h14 hf (if ffr (σ 14) f < σ 14 then ffr (σ 14) f else σ 14) (by split <;> omega) (if ffr (σ 14) f < σ 14 then ffr (σ 14) f else σ 14).toNat 0 (by split <;> omega) (fun H locs ls B hl => ?_) _ _ _ B (lv_sub hl [6, 7, 8, 5, 4, 3, 2, 1, 0] rfl)
  refine lpX8_statistic_b E S a p1 p2 p3 p4 p5 p6 σ ρ pm ig mo rd wr sm f 3 h14 hf hR (nfr (σ 14) f) (minL ρ (nfr (σ 14) f).toNat (ffr (σ 14) f) (lrow ρ (ffr (σ 14) f) 0)) (maxL ρ (nfr (σ 14) f).toNat (ffr (σ 14) f) (lrow ρ (ffr (σ 14) f) 0)) (sumL ρ 0 (nfr (σ 14) f).toNat (ffr (σ 14) f) 0) (sumL ρ 3 (nfr (σ 14) f).toNat (ffr (σ 14) f) 0) (nfr (σ 14) f).toNat (if ffr (σ 14) f < σ 14 then ffr (σ 14) f else σ 14) 0 0 0 0 0 (by unfold nfr; split <;> split <;> omega) (by split <;> omega) (by omega) (by omega) ⟨fun q => absurd q (by omega), fun _ => ?_⟩ ?_ ?_ (fun x y hxy H locs ls B hl => ?_) _ _ _ B hl
  · by_cases hc : ffr (σ 14) f < σ 14
    · rw [if_pos hc]; exact Or.inr ⟨rfl, rfl⟩
    · exact Or.inl (by unfold nfr; split <;> omega)
  · by_cases hc : ffr (σ 14) f < σ 14
    · rw [if_pos hc]
    · rw [show (nfr (σ 14) f).toNat = 0 from by unfold nfr; split <;> omega]; rfl
  · by_cases hc : ffr (σ 14) f < σ 14
    · rw [if_pos hc]
    · rw [show (nfr (σ 14) f).toNat = 0 from by unfold nfr; split <;> omega]; rfl
  refine z_iload_n S (pc := 170) dX8_statistic_170 rfl (lv_at hl 2 rfl) ?_
  refine z_if_eq S (pc := 171) (tgt := 179) (by omega) dX8_statistic_171 rfl (fun c3 => absurd c3 (by omega)) (fun c3 => ?_)
  refine z_iload_n S (pc := 174) dX8_statistic_174 rfl (lv_at hl 2 rfl) ?_
  refine z_iconst S (pc := 175) dX8_statistic_175 ?_
  refine z_icmp_ne S (pc := 176) (tgt := 190) (by omega) (by omega) dX8_statistic_176 rfl (fun c4 => ?_) (fun c4 => absurd c4 (by omega))
  refine z_lload_n S (pc := 190) dX8_statistic_190 rfl (lv_at hl 3 rfl) ?_
  refine z_lconst S (pc := 191) (x := 0) dX8_statistic_191 rfl ?_
  refine z_lc_ne S (pc := 192) (tgt := 202) (by omega) (by omega) dX8_statistic_192 dX8_statistic_193 rfl (fun c5 => ?_) (fun c5 => absurd c5 (by omega))
  refine z_iload_n S (pc := 202) dX8_statistic_202 rfl (lv_at hl 2 rfl) ?_
  refine z_iconst S (pc := 203) dX8_statistic_203 ?_
  refine z_icmp_ne S (pc := 204) (tgt := 212) (by omega) (by omega) dX8_statistic_204 rfl (fun c6 => ?_) (fun c6 => absurd c6 (by omega))
  refine z_iload_n S (pc := 212) dX8_statistic_212 rfl (lv_at hl 2 rfl) ?_
  refine z_iconst S (pc := 213) dX8_statistic_213 ?_
  refine z_icmp_ne S (pc := 214) (tgt := 222) (by omega) (by omega) dX8_statistic_214 rfl (fun c7 => ?_) (fun c7 => absurd c7 (by omega))
  refine z_lload S (pc := 222) dX8_statistic_222 (lv_at hl 6 rfl) ?_
  refine z_lload_n S (pc := 224) dX8_statistic_224 rfl (lv_at hl 3 rfl) ?_
  refine z_ldiv S (pc := 225) (by omega) (by omega) (by omega) (by omega) dX8_statistic_225 ?_
  exact z_lreturn S hr hlk B () trivial rfl rfl (pc := 226) dX8_statistic_226
set_option maxHeartbeats 4000000 in
set_option maxRecDepth 100000 in
theorem mX8_statistic_b (l : Launch) (E : gT) (a : Nat) (p1 : Nat) (p2 : Nat) (p3 : Nat) (p4 : Nat) (p5 : Nat) (p6 : Nat) (σ : Nat → Int) (ρ : Nat → Int) (pm : Int) (ig : Int) (mo : Int) (rd : Int) (wr : Int) (sm : Int) (f : Int) (k : Int) (hI : inI f ∧ inI k) (hbad : (f < 0 ∨ k < 0 ∨ 4 < k)) : Cd l E yX8_statistic wsX8_statistic 2 46 0 0 [.ref a, .int (iI f), .int (iI k)] [cMod a p1 p2 p3 p4 p5 p6 pm ig mo rd wr sm] (some (.long (iL (-1000000000000000002)))) [cMod a p1 p2 p3 p4 p5 p6 pm ig mo rd wr sm] := by
  refine Ct.mk (cc := cX8_statistic) (maxL := 16) (ret := (some .long)) (plainFor_of_name (by decide)) rfl (Nat.le_of_ble_eq_true rfl) ?_
  intro p e s m below meth c A ls H locs S hr hlk hnm B hl
  have S : CallFix p m c cX8_statistic 16 s #[.ref a, .int (iI f), .int (iI k)] wsX8_statistic RX8 := S
  have hl : lv_has ls 16 [(0, .ref a), (1, .int (iI f)), (2, .int (iI k))] := hl
  refine z_iload_n S (pc := 0) dX8_statistic_0 rfl (lv_at hl 1 rfl) ?_
  refine z_if_lt S (pc := 1) (tgt := 16) (by omega) dX8_statistic_1 rfl (fun c1 => ?_) (fun c1 => ?_)
  · refine z_ldc2 S (pc := 16) (x := (-1000000000000000002)) (by decide +kernel) rfl dX8_statistic_16 ?_
    exact z_lreturn S hr hlk B () trivial rfl rfl (pc := 19) dX8_statistic_19
  · refine z_iload_n S (pc := 4) dX8_statistic_4 rfl (lv_at hl 2 rfl) ?_
    refine z_i2l S (pc := 5) (by omega) dX8_statistic_5 ?_
    refine z_lconst S (pc := 6) (x := 0) dX8_statistic_6 rfl ?_
    refine z_ldc2 S (pc := 7) (x := 4) (by decide +kernel) rfl dX8_statistic_7 ?_
    refine z_callS S (pc := 10) B (wr := [cMod a p1 p2 p3 p4 p5 p6 pm ig mo rd wr sm]) (wn := fun _ => [cMod a p1 p2 p3 p4 p5 p6 pm ig mo rd wr sm]) (st1 := fun _ => [.int (iI (bI (0 ≤ k ∧ k ≤ 4)))]) (As := [.long (iL k), .long (iL 0), .long (iL 4)]) (mX8_in l E k 0 4 (show inL k from by omega) (show inL 0 from by omega) (show inL 4 from by omega)) gX8_statistic_X8_in 3 rfl (by decide +kernel) ⟨Nat.le_of_ble_eq_true rfl, Nat.le_of_ble_eq_true rfl, Nat.le_of_ble_eq_true rfl, Nat.le_of_ble_eq_true rfl⟩ [] [0] [0] rfl rfl ⟨rfl, rfl, rfl, by decide⟩ (fun _ => rfl) rfl (fun _ => rfl) hl.1 (Nat.le_of_ble_eq_true rfl) rfl dX8_statistic_10 (fun _ _ H locs B => ?_)
    refine z_ifne_b S (pc := 13) (tgt := 20) dX8_statistic_13 rfl (fun c2 => ?_) (fun c2 => ?_)
    · exact absurd hbad (by omega)
    · refine z_ldc2 S (pc := 16) (x := (-1000000000000000002)) (by decide +kernel) rfl dX8_statistic_16 ?_
      exact z_lreturn S hr hlk B () trivial rfl rfl (pc := 19) dX8_statistic_19
theorem iX8_say_X8 : ∀ w ∈ wsX80, w ∈ wsX8_say := by decide +kernel
set_option maxHeartbeats 4000000 in
set_option maxRecDepth 100000 in
theorem mX8_say (l : Launch) (E : gT) (a : Nat) (p1 : Nat) (p2 : Nat) (p3 : Nat) (p4 : Nat) (p5 : Nat) (p6 : Nat) (σ : Nat → Int) (ρ : Nat → Int) (pm : Int) (ig : Int) (mo : Int) (rd : Int) (wr : Int) (sm : Int) (χ : Nat → Int) (x : Int) (hn : 0 ≤ pm ∧ pm < 60) (hv : 33 ≤ x ∧ x ≤ 126) : Cd l E yX8_say wsX8_say 1 25 0 0 [.ref a, .int (iI x)] [cMod a p1 p2 p3 p4 p5 p6 pm ig mo rd wr sm, cInt E p5 60 χ] (some (.int (iI (pm + 1)))) [cMod a p1 p2 p3 p4 p5 p6 (pm + 1) ig mo rd wr sm, cInt E p5 60 (up χ pm.toNat x)] := by
  refine Ct.mk (cc := cX8_say) (maxL := 2) (ret := (some .int)) (plainFor_of_name (by decide)) rfl (Nat.le_of_ble_eq_true rfl) ?_
  intro p e s m below meth c A ls H locs S hr hlk hnm B hl
  have S : CallFix p m c cX8_say 2 s #[.ref a, .int (iI x)] wsX8_say RX8 := S
  have hl : lv_has ls 2 [(0, .ref a), (1, .int (iI x))] := hl
  refine z_iload_n S (pc := 0) dX8_say_0 rfl (lv_at hl 1 rfl) ?_
  refine z_i2l S (pc := 1) (by omega) dX8_say_1 ?_
  refine z_ldc2 S (pc := 2) (x := 33) (by decide +kernel) rfl dX8_say_2 ?_
  refine z_ldc2 S (pc := 5) (x := 126) (by decide +kernel) rfl dX8_say_5 ?_
  refine z_callS S (pc := 8) B (wr := [cMod a p1 p2 p3 p4 p5 p6 pm ig mo rd wr sm, cInt E p5 60 χ]) (wn := fun _ => [cMod a p1 p2 p3 p4 p5 p6 pm ig mo rd wr sm, cInt E p5 60 χ]) (st1 := fun _ => [.int (iI (bI (33 ≤ x ∧ x ≤ 126)))]) (As := [.long (iL x), .long (iL 33), .long (iL 126)]) (mX8_in l E x 33 126 (show inL x from by omega) (show inL 33 from by omega) (show inL 126 from by omega)) gX8_say_X8_in 3 rfl (by decide +kernel) ⟨Nat.le_of_ble_eq_true rfl, Nat.le_of_ble_eq_true rfl, Nat.le_of_ble_eq_true rfl, Nat.le_of_ble_eq_true rfl⟩ [] [0, 1] [0, 1] rfl rfl ⟨rfl, rfl, rfl, by decide⟩ (fun _ => rfl) rfl (fun _ => rfl) hl.1 (Nat.le_of_ble_eq_true rfl) rfl dX8_say_8 (fun _ _ H locs B => ?_)
  refine z_ifne_b S (pc := 11) (tgt := 17) dX8_say_11 rfl (fun c1 => ?_) (fun c1 => absurd c1 (by omega))
  refine z_aload_n S (pc := 17) dX8_say_17 rfl (lv_at hl 0 rfl) ?_
  refine z_get S (pc := 18) B iX8_say_X8 0 rfl rfl 5 (by decide) rfl rfl (by decide +kernel) dX8_say_18 ?_
  refine z_bipush S (pc := 21) dX8_say_21 rfl ?_
  refine z_icmp_ne S (pc := 23) (tgt := 29) (by omega) (by omega) dX8_say_23 rfl (fun c2 => ?_) (fun c2 => absurd c2 (by omega))
  refine z_aload_n S (pc := 29) dX8_say_29 rfl (lv_at hl 0 rfl) ?_
  refine z_get S (pc := 30) B iX8_say_X8 0 rfl rfl 4 (by decide) rfl rfl (by decide +kernel) dX8_say_30 ?_
  refine z_aload_n S (pc := 33) dX8_say_33 rfl (lv_at hl 0 rfl) ?_
  refine z_get S (pc := 34) B iX8_say_X8 0 rfl rfl 5 (by decide) rfl rfl (by decide +kernel) dX8_say_34 ?_
  refine z_iload_n S (pc := 37) dX8_say_37 rfl (lv_at hl 1 rfl) ?_
  refine z_iast S (pc := 38) B 1 1 rfl rfl (k := pm.toNat) (by omega) (by omega) (by decide) dX8_say_38 (wn := [cMod a p1 p2 p3 p4 p5 p6 pm ig mo rd wr sm, cInt E p5 60 (up χ pm.toNat x)]) (by rw [iat_up]; rfl) (fun H locs B => ?_)
  refine z_aload_n S (pc := 39) dX8_say_39 rfl (lv_at hl 0 rfl) ?_
  refine lv_dup S.1 S.2.1 (pc := 40) dX8_say_40 rfl ?_
  refine z_get S (pc := 41) B iX8_say_X8 0 rfl rfl 5 (by decide) rfl rfl (by decide +kernel) dX8_say_41 ?_
  refine z_iconst S (pc := 44) dX8_say_44 ?_
  refine z_iadd S (pc := 45) dX8_say_45 ?_
  refine z_put S (pc := 46) B iX8_say_X8 tyX8_ok nmX8 0 rfl rfl 5 (by decide) rfl (by decide +kernel) (ty := .int) (by decide +kernel) rfl rfl (Nat.le_of_ble_eq_true rfl) dX8_say_46 (wn := [cMod a p1 p2 p3 p4 p5 p6 (pm + 1) ig mo rd wr sm, cInt E p5 60 (up χ pm.toNat x)]) rfl (fun H locs B => ?_)
  refine z_aload_n S (pc := 49) dX8_say_49 rfl (lv_at hl 0 rfl) ?_
  refine z_get S (pc := 50) B iX8_say_X8 0 rfl rfl 5 (by decide) rfl rfl (by decide +kernel) dX8_say_50 ?_
  exact z_ireturn S hr hlk B () trivial rfl rfl (pc := 53) dX8_say_53
set_option maxHeartbeats 4000000 in
set_option maxRecDepth 100000 in
theorem mX8_say_m (l : Launch) (E : gT) (a : Nat) (p1 : Nat) (p2 : Nat) (p3 : Nat) (p4 : Nat) (p5 : Nat) (p6 : Nat) (σ : Nat → Int) (ρ : Nat → Int) (pm : Int) (ig : Int) (mo : Int) (rd : Int) (wr : Int) (sm : Int) (x : Int) (hn : pm = 60) (hv : 33 ≤ x ∧ x ≤ 126) : Cd l E yX8_say wsX8_say 1 25 0 0 [.ref a, .int (iI x)] [cMod a p1 p2 p3 p4 p5 p6 pm ig mo rd wr sm] (some (.int (iI (-4)))) [cMod a p1 p2 p3 p4 p5 p6 pm ig mo rd wr sm] := by
  refine Ct.mk (cc := cX8_say) (maxL := 2) (ret := (some .int)) (plainFor_of_name (by decide)) rfl (Nat.le_of_ble_eq_true rfl) ?_
  intro p e s m below meth c A ls H locs S hr hlk hnm B hl
  have S : CallFix p m c cX8_say 2 s #[.ref a, .int (iI x)] wsX8_say RX8 := S
  have hl : lv_has ls 2 [(0, .ref a), (1, .int (iI x))] := hl
  refine z_iload_n S (pc := 0) dX8_say_0 rfl (lv_at hl 1 rfl) ?_
  refine z_i2l S (pc := 1) (by omega) dX8_say_1 ?_
  refine z_ldc2 S (pc := 2) (x := 33) (by decide +kernel) rfl dX8_say_2 ?_
  refine z_ldc2 S (pc := 5) (x := 126) (by decide +kernel) rfl dX8_say_5 ?_
  refine z_callS S (pc := 8) B (wr := [cMod a p1 p2 p3 p4 p5 p6 pm ig mo rd wr sm]) (wn := fun _ => [cMod a p1 p2 p3 p4 p5 p6 pm ig mo rd wr sm]) (st1 := fun _ => [.int (iI (bI (33 ≤ x ∧ x ≤ 126)))]) (As := [.long (iL x), .long (iL 33), .long (iL 126)]) (mX8_in l E x 33 126 (show inL x from by omega) (show inL 33 from by omega) (show inL 126 from by omega)) gX8_say_X8_in 3 rfl (by decide +kernel) ⟨Nat.le_of_ble_eq_true rfl, Nat.le_of_ble_eq_true rfl, Nat.le_of_ble_eq_true rfl, Nat.le_of_ble_eq_true rfl⟩ [] [0] [0] rfl rfl ⟨rfl, rfl, rfl, by decide⟩ (fun _ => rfl) rfl (fun _ => rfl) hl.1 (Nat.le_of_ble_eq_true rfl) rfl dX8_say_8 (fun _ _ H locs B => ?_)
  refine z_ifne_b S (pc := 11) (tgt := 17) dX8_say_11 rfl (fun c1 => ?_) (fun c1 => absurd c1 (by omega))
  refine z_aload_n S (pc := 17) dX8_say_17 rfl (lv_at hl 0 rfl) ?_
  refine z_get S (pc := 18) B iX8_say_X8 0 rfl rfl 5 (by decide) rfl rfl (by decide +kernel) dX8_say_18 ?_
  refine z_bipush S (pc := 21) dX8_say_21 rfl ?_
  refine z_icmp_ne S (pc := 23) (tgt := 29) (by omega) (by omega) dX8_say_23 rfl (fun c2 => absurd c2 (by omega)) (fun c2 => ?_)
  refine z_bipush S (pc := 26) dX8_say_26 rfl ?_
  exact z_ireturn S hr hlk B () trivial rfl rfl (pc := 28) dX8_say_28
set_option maxHeartbeats 4000000 in
set_option maxRecDepth 100000 in
theorem mX8_say_b (l : Launch) (E : gT) (a : Nat) (p1 : Nat) (p2 : Nat) (p3 : Nat) (p4 : Nat) (p5 : Nat) (p6 : Nat) (σ : Nat → Int) (ρ : Nat → Int) (pm : Int) (ig : Int) (mo : Int) (rd : Int) (wr : Int) (sm : Int) (x : Int) (hI : inI x) (hbad : (x < 33 ∨ 126 < x)) : Cd l E yX8_say wsX8_say 1 25 0 0 [.ref a, .int (iI x)] [cMod a p1 p2 p3 p4 p5 p6 pm ig mo rd wr sm] (some (.int (iI (-2)))) [cMod a p1 p2 p3 p4 p5 p6 pm ig mo rd wr sm] := by
  refine Ct.mk (cc := cX8_say) (maxL := 2) (ret := (some .int)) (plainFor_of_name (by decide)) rfl (Nat.le_of_ble_eq_true rfl) ?_
  intro p e s m below meth c A ls H locs S hr hlk hnm B hl
  have S : CallFix p m c cX8_say 2 s #[.ref a, .int (iI x)] wsX8_say RX8 := S
  have hl : lv_has ls 2 [(0, .ref a), (1, .int (iI x))] := hl
  refine z_iload_n S (pc := 0) dX8_say_0 rfl (lv_at hl 1 rfl) ?_
  refine z_i2l S (pc := 1) (by omega) dX8_say_1 ?_
  refine z_ldc2 S (pc := 2) (x := 33) (by decide +kernel) rfl dX8_say_2 ?_
  refine z_ldc2 S (pc := 5) (x := 126) (by decide +kernel) rfl dX8_say_5 ?_
  refine z_callS S (pc := 8) B (wr := [cMod a p1 p2 p3 p4 p5 p6 pm ig mo rd wr sm]) (wn := fun _ => [cMod a p1 p2 p3 p4 p5 p6 pm ig mo rd wr sm]) (st1 := fun _ => [.int (iI (bI (33 ≤ x ∧ x ≤ 126)))]) (As := [.long (iL x), .long (iL 33), .long (iL 126)]) (mX8_in l E x 33 126 (show inL x from by omega) (show inL 33 from by omega) (show inL 126 from by omega)) gX8_say_X8_in 3 rfl (by decide +kernel) ⟨Nat.le_of_ble_eq_true rfl, Nat.le_of_ble_eq_true rfl, Nat.le_of_ble_eq_true rfl, Nat.le_of_ble_eq_true rfl⟩ [] [0] [0] rfl rfl ⟨rfl, rfl, rfl, by decide⟩ (fun _ => rfl) rfl (fun _ => rfl) hl.1 (Nat.le_of_ble_eq_true rfl) rfl dX8_say_8 (fun _ _ H locs B => ?_)
  refine z_ifne_b S (pc := 11) (tgt := 17) dX8_say_11 rfl (fun c1 => absurd c1 (by omega)) (fun c1 => ?_)
  refine z_bipush S (pc := 14) dX8_say_14 rfl ?_
  exact z_ireturn S hr hlk B () trivial rfl rfl (pc := 16) dX8_say_16
theorem iX8_wipe_X8 : ∀ w ∈ wsX80, w ∈ wsX8_wipe := by decide +kernel
set_option maxHeartbeats 4000000 in
set_option maxRecDepth 100000 in
theorem mX8_wipe (l : Launch) (E : gT) (a : Nat) (p1 : Nat) (p2 : Nat) (p3 : Nat) (p4 : Nat) (p5 : Nat) (p6 : Nat) (σ : Nat → Int) (ρ : Nat → Int) (pm : Int) (ig : Int) (mo : Int) (rd : Int) (wr : Int) (sm : Int)  : Cd l E yX8_wipe wsX8_wipe 0 0 0 0 [.ref a] [cMod a p1 p2 p3 p4 p5 p6 pm ig mo rd wr sm] (some (.int (iI pm))) [cMod a p1 p2 p3 p4 p5 p6 0 ig mo rd wr sm] := by
  refine Ct.mk (cc := cX8_wipe) (maxL := 2) (ret := (some .int)) (plainFor_of_name (by decide)) rfl (Nat.le_of_ble_eq_true rfl) ?_
  intro p e s m below meth c A ls H locs S hr hlk hnm B hl
  have S : CallFix p m c cX8_wipe 2 s #[.ref a] wsX8_wipe RX8 := S
  have hl : lv_has ls 2 [(0, .ref a)] := hl
  refine z_aload_n S (pc := 0) dX8_wipe_0 rfl (lv_at hl 0 rfl) ?_
  refine z_get S (pc := 1) B iX8_wipe_X8 0 rfl rfl 5 (by decide) rfl rfl (by decide +kernel) dX8_wipe_1 ?_
  refine lv_istore_n (lv' := [(1, .int (iI pm)), (0, .ref a)]) S.1 S.2.1 (pc := 4) dX8_wipe_4 rfl hl (by decide) rfl (fun ls hl => ?_)
  refine z_aload_n S (pc := 5) dX8_wipe_5 rfl (lv_at hl 1 rfl) ?_
  refine z_iconst S (pc := 6) dX8_wipe_6 ?_
  refine z_put S (pc := 7) B iX8_wipe_X8 tyX8_ok nmX8 0 rfl rfl 5 (by decide) rfl (by decide +kernel) (ty := .int) (by decide +kernel) rfl rfl (Nat.le_of_ble_eq_true rfl) dX8_wipe_7 (wn := [cMod a p1 p2 p3 p4 p5 p6 0 ig mo rd wr sm]) rfl (fun H locs B => ?_)
  refine z_iload_n S (pc := 10) dX8_wipe_10 rfl (lv_at hl 0 rfl) ?_
  exact z_ireturn S hr hlk B () trivial rfl rfl (pc := 11) dX8_wipe_11
theorem iX8_nextSign_X8 : ∀ w ∈ wsX80, w ∈ wsX8_nextSign := by decide +kernel
set_option maxHeartbeats 4000000 in
set_option maxRecDepth 100000 in
theorem mX8_nextSign (l : Launch) (E : gT) (a : Nat) (p1 : Nat) (p2 : Nat) (p3 : Nat) (p4 : Nat) (p5 : Nat) (p6 : Nat) (σ : Nat → Int) (ρ : Nat → Int) (pm : Int) (ig : Int) (mo : Int) (rd : Int) (wr : Int) (sm : Int) (χ : Nat → Int) (hn : 0 ≤ pm ∧ pm ≤ 60) (hi : 0 ≤ rd ∧ rd ≤ pm) (hX : inX χ) : Cd l E yX8_nextSign wsX8_nextSign 0 0 0 0 [.ref a] [cMod a p1 p2 p3 p4 p5 p6 pm ig mo rd wr sm, cInt E p5 60 χ] (some (.int (iI (chr0 χ pm rd)))) [cMod a p1 p2 p3 p4 p5 p6 pm ig mo rd wr sm, cInt E p5 60 χ] := by
  refine Ct.mk (cc := cX8_nextSign) (maxL := 1) (ret := (some .int)) (plainFor_of_name (by decide)) rfl (Nat.le_of_ble_eq_true rfl) ?_
  intro p e s m below meth c A ls H locs S hr hlk hnm B hl
  have S : CallFix p m c cX8_nextSign 1 s #[.ref a] wsX8_nextSign RX8 := S
  have hl : lv_has ls 1 [(0, .ref a)] := hl
  refine z_aload_n S (pc := 0) dX8_nextSign_0 rfl (lv_at hl 0 rfl) ?_
  refine z_get S (pc := 1) B iX8_nextSign_X8 0 rfl rfl 8 (by decide) rfl rfl (by decide +kernel) dX8_nextSign_1 ?_
  refine z_aload_n S (pc := 4) dX8_nextSign_4 rfl (lv_at hl 0 rfl) ?_
  refine z_get S (pc := 5) B iX8_nextSign_X8 0 rfl rfl 5 (by decide) rfl rfl (by decide +kernel) dX8_nextSign_5 ?_
  refine z_icmp_ge S (pc := 8) (tgt := 23) (by omega) (by omega) dX8_nextSign_8 rfl (fun c1 => ?_) (fun c1 => ?_)
  · refine z_iconst S (pc := 23) dX8_nextSign_23 ?_
    exact z_ireturn S hr hlk B () trivial (by unfold chr0; rw [if_neg (by omega)]) rfl (pc := 24) dX8_nextSign_24
  · refine z_aload_n S (pc := 11) dX8_nextSign_11 rfl (lv_at hl 0 rfl) ?_
    refine z_get S (pc := 12) B iX8_nextSign_X8 0 rfl rfl 4 (by decide) rfl rfl (by decide +kernel) dX8_nextSign_12 ?_
    refine z_aload_n S (pc := 15) dX8_nextSign_15 rfl (lv_at hl 0 rfl) ?_
    refine z_get S (pc := 16) B iX8_nextSign_X8 0 rfl rfl 8 (by decide) rfl rfl (by decide +kernel) dX8_nextSign_16 ?_
    refine z_iald S (pc := 19) B 1 1 rfl rfl (k := (rd).toNat) (by omega) (by omega) (by decide) (v := .int (iI (χ (rd).toNat))) rfl dX8_nextSign_19 ?_
    refine lv_goto S.1 S.2.1 (pc := 20) (tgt := 24) dX8_nextSign_20 rfl ?_
    exact z_ireturn S hr hlk B () trivial (by unfold chr0; rw [if_pos (by omega)]) rfl (pc := 24) dX8_nextSign_24
def mnum (χ : Nat → Int) (n le mo i : Int) : Int × Int × Int := if le ≤ chr0 χ n i - 48 ∧ chr0 χ n i ≤ 57 then (0, (numR χ n mo i).1, (numR χ n mo i).2) else (1, 0, i)
theorem mnum_bd {χ : Nat → Int} {n le mo i : Int} (hX : inX χ) (hn : 0 ≤ n ∧ n ≤ 60) (hi : 0 ≤ i ∧ i ≤ n) (hm : 9 ≤ mo ∧ mo ≤ 3000000) (hle : 0 ≤ le) : (0 ≤ (mnum χ n le mo i).2.1 ∧ (mnum χ n le mo i).2.1 ≤ mo) ∧ (i ≤ (mnum χ n le mo i).2.2 ∧ (mnum χ n le mo i).2.2 ≤ n) ∧ ((mnum χ n le mo i).1 = 0 ∨ (mnum χ n le mo i).1 = 1) := by
  unfold mnum
  split
  · rename_i h
    have hin := chr0_lt (χ := χ) (n := n) (i := i) (by omega)
    have b := numL_bd (χ := χ) (n := n) (most := mo) (by omega) 60 (chr0 χ n i - 48) (i + 1) (by omega) (by omega)
    unfold numR
    exact ⟨⟨b.1, by show (numL χ n mo 60 (chr0 χ n i - 48) (i + 1)).1 ≤ mo; omega⟩, ⟨by show i ≤ (numL χ n mo 60 (chr0 χ n i - 48) (i + 1)).2; omega, b.2.2.2 (by omega)⟩, Or.inl rfl⟩
  · exact ⟨⟨Int.le_refl 0, by show (0 : Int) ≤ mo; omega⟩, ⟨Int.le_refl i, hi.2⟩, Or.inr rfl⟩
theorem iX8_takeNumber_X8 : ∀ w ∈ wsX80, w ∈ wsX8_takeNumber := by decide +kernel
set_option maxHeartbeats 4000000 in
set_option maxRecDepth 100000 in
theorem lpX8_takeNumber {p : Program} {l : Launch} {e : Env} {s : State} {m : MethodId} {args : Array Value} {below : List Frame} {meth : Method} {c : Code} {Q : State → Prop} {A : Nat → Prop} (E : gT) (S : CallFix p m c cX8_takeNumber 4 s args wsX8_takeNumber RX8) (a : Nat) (p1 : Nat) (p2 : Nat) (p3 : Nat) (p4 : Nat) (p5 : Nat) (p6 : Nat) (σ : Nat → Int) (ρ : Nat → Int) (pm : Int) (ig : Int) (mo : Int) (wr : Int) (sm : Int) (χ : Nat → Int) (le : Int) (mo2 : Int) (hn : 0 ≤ pm ∧ pm ≤ 60) (hX : inX χ) (hm : 9 ≤ mo2 ∧ mo2 ≤ 3000000) :
    ∀ (n : Nat) (v : Int) (j : Int) (hv : 0 ≤ v ∧ v ≤ mo2) (hj : 0 ≤ j ∧ j ≤ pm) (hk : pm < j + (n : Int)) (res : Int × Int) (hres : numL χ pm mo2 n v j = res) (hx : ∀  (H : Heap) (locs : List Loc) (ls : Array Slot), bw E A s H locs [cMod a p1 p2 p3 p4 p5 p6 pm ig mo res.2 wr sm, cInt E p5 60 χ] → lv_has ls 4 [(0, .ref a), (3, .int (iI res.1))] → W p l e ({ frames := 1, cells := 0, slots := 0, locals := 25 } : Room) s m args below meth c H locs 0 0 Q (F0 m 101 ls [])) (H : Heap) (locs : List Loc) (ls : Array Slot) (B : bw E A s H locs [cMod a p1 p2 p3 p4 p5 p6 pm ig mo j wr sm, cInt E p5 60 χ]) (hl : lv_has ls 4 [(0, .ref a), (1, .int (iI le)), (2, .int (iI mo2)), (3, .int (iI v))]), W p l e ({ frames := 1, cells := 0, slots := 0, locals := 25 } : Room) s m args below meth c H locs 0 0 Q (F0 m 38 ls []) := by
  intro n
  induction n with
  | zero =>
    intro v j hv hj hk res hres hx H locs ls B hl
    have hc := chr0_bd (i := j) hX hn.2
    have hc0 : chr0 χ pm j ≠ 0 → 0 ≤ j ∧ j < pm := chr0_lt
    refine z_iload_n S (pc := 38) dX8_takeNumber_38 rfl (lv_at hl 3 rfl) ?_
    refine z_if_le S (pc := 39) (tgt := 101) (by omega) dX8_takeNumber_39 rfl (fun c1 => ?_) (fun c1 => ?_)
    · subst hres
      exact hx _ _ _ B (lv_sub hl [0, 3] rfl)
    · refine z_aload_n S (pc := 42) dX8_takeNumber_42 rfl (lv_at hl 0 rfl) ?_
      refine z_callV S (pc := 43) B (wr := []) (wn := fun _ => [cMod a p1 p2 p3 p4 p5 p6 pm ig mo j wr sm, cInt E p5 60 χ]) (st1 := fun _ => [.int (iI (chr0 χ pm j))]) (As := []) (mX8_nextSign l E a p1 p2 p3 p4 p5 p6 (fun _ => 0) (fun _ => 0) pm ig mo j wr sm χ (show 0 ≤ pm ∧ pm ≤ 60 from by omega) (show 0 ≤ j ∧ j ≤ pm from by omega) (show inX χ from by assumption)) gX8_takeNumber_X8_nextSign 0 rfl (by decide +kernel) ⟨Nat.le_of_ble_eq_true rfl, Nat.le_of_ble_eq_true rfl, Nat.le_of_ble_eq_true rfl, Nat.le_of_ble_eq_true rfl⟩ 0 rfl (q := (RX8, TX8, 12)) rfl rfl [0, 1] [] [0, 1] rfl rfl ⟨rfl, rfl, rfl, by decide⟩ (fun _ => rfl) rfl (fun _ => rfl) hl.1 (Nat.le_of_ble_eq_true rfl) rfl dX8_takeNumber_43 (fun _ _ H locs B => ?_)
      refine z_i2l S (pc := 46) (by omega) dX8_takeNumber_46 ?_
      refine z_ldc2 S (pc := 47) (x := 48) (by decide +kernel) rfl dX8_takeNumber_47 ?_
      refine z_ldc2 S (pc := 50) (x := 57) (by decide +kernel) rfl dX8_takeNumber_50 ?_
      refine z_callS S (pc := 53) B (wr := [cMod a p1 p2 p3 p4 p5 p6 pm ig mo j wr sm, cInt E p5 60 χ]) (wn := fun _ => [cMod a p1 p2 p3 p4 p5 p6 pm ig mo j wr sm, cInt E p5 60 χ]) (st1 := fun _ => [.int (iI (bI (48 ≤ chr0 χ pm j ∧ chr0 χ pm j ≤ 57)))]) (As := [.long (iL (chr0 χ pm j)), .long (iL 48), .long (iL 57)]) (mX8_in l E (chr0 χ pm j) 48 57 (show inL (chr0 χ pm j) from by omega) (show inL 48 from by omega) (show inL 57 from by omega)) gX8_takeNumber_X8_in 3 rfl (by decide +kernel) ⟨Nat.le_of_ble_eq_true rfl, Nat.le_of_ble_eq_true rfl, Nat.le_of_ble_eq_true rfl, Nat.le_of_ble_eq_true rfl⟩ [] [0, 1] [0, 1] rfl rfl ⟨rfl, rfl, rfl, by decide⟩ (fun _ => rfl) rfl (fun _ => rfl) hl.1 (Nat.le_of_ble_eq_true rfl) rfl dX8_takeNumber_53 (fun _ _ H locs B => ?_)
      refine z_ifeq_b S (pc := 56) (tgt := 101) dX8_takeNumber_56 rfl (fun c2 => ?_) (fun c2 => ?_)
      · subst hres
        exact hx _ _ _ B (lv_sub hl [0, 3] rfl)
      · refine z_bipush S (pc := 59) dX8_takeNumber_59 rfl ?_
        refine z_iload_n S (pc := 61) dX8_takeNumber_61 rfl (lv_at hl 3 rfl) ?_
        refine z_imul S (pc := 62) dX8_takeNumber_62 ?_
        refine z_aload_n S (pc := 63) dX8_takeNumber_63 rfl (lv_at hl 0 rfl) ?_
        refine z_callV S (pc := 64) B (wr := []) (wn := fun _ => [cMod a p1 p2 p3 p4 p5 p6 pm ig mo j wr sm, cInt E p5 60 χ]) (st1 := fun _ => [.int (iI (chr0 χ pm j)), .int (iI (10 * v))]) (As := []) (mX8_nextSign l E a p1 p2 p3 p4 p5 p6 (fun _ => 0) (fun _ => 0) pm ig mo j wr sm χ (show 0 ≤ pm ∧ pm ≤ 60 from by omega) (show 0 ≤ j ∧ j ≤ pm from by omega) (show inX χ from by assumption)) gX8_takeNumber_X8_nextSign 0 rfl (by decide +kernel) ⟨Nat.le_of_ble_eq_true rfl, Nat.le_of_ble_eq_true rfl, Nat.le_of_ble_eq_true rfl, Nat.le_of_ble_eq_true rfl⟩ 0 rfl (q := (RX8, TX8, 12)) rfl rfl [0, 1] [] [0, 1] rfl rfl ⟨rfl, rfl, rfl, by decide⟩ (fun _ => rfl) rfl (fun _ => rfl) hl.1 (Nat.le_of_ble_eq_true rfl) rfl dX8_takeNumber_64 (fun _ _ H locs B => ?_)
        refine z_iadd S (pc := 67) dX8_takeNumber_67 ?_
        refine z_bipush S (pc := 68) dX8_takeNumber_68 rfl ?_
        refine z_isub S (pc := 70) dX8_takeNumber_70 ?_
        refine z_iload_n S (pc := 71) dX8_takeNumber_71 rfl (lv_at hl 2 rfl) ?_
        refine z_icmp_gt S (pc := 72) (tgt := 101) (by omega) (by omega) dX8_takeNumber_72 rfl (fun c3 => ?_) (fun c3 => ?_)
        · subst hres
          exact hx _ _ _ B (lv_sub hl [0, 3] rfl)
        · refine z_bipush S (pc := 75) dX8_takeNumber_75 rfl ?_
          refine z_iload_n S (pc := 77) dX8_takeNumber_77 rfl (lv_at hl 3 rfl) ?_
          refine z_imul S (pc := 78) dX8_takeNumber_78 ?_
          refine z_aload_n S (pc := 79) dX8_takeNumber_79 rfl (lv_at hl 0 rfl) ?_
          refine z_callV S (pc := 80) B (wr := []) (wn := fun _ => [cMod a p1 p2 p3 p4 p5 p6 pm ig mo j wr sm, cInt E p5 60 χ]) (st1 := fun _ => [.int (iI (chr0 χ pm j)), .int (iI (10 * v))]) (As := []) (mX8_nextSign l E a p1 p2 p3 p4 p5 p6 (fun _ => 0) (fun _ => 0) pm ig mo j wr sm χ (show 0 ≤ pm ∧ pm ≤ 60 from by omega) (show 0 ≤ j ∧ j ≤ pm from by omega) (show inX χ from by assumption)) gX8_takeNumber_X8_nextSign 0 rfl (by decide +kernel) ⟨Nat.le_of_ble_eq_true rfl, Nat.le_of_ble_eq_true rfl, Nat.le_of_ble_eq_true rfl, Nat.le_of_ble_eq_true rfl⟩ 0 rfl (q := (RX8, TX8, 12)) rfl rfl [0, 1] [] [0, 1] rfl rfl ⟨rfl, rfl, rfl, by decide⟩ (fun _ => rfl) rfl (fun _ => rfl) hl.1 (Nat.le_of_ble_eq_true rfl) rfl dX8_takeNumber_80 (fun _ _ H locs B => ?_)
          refine z_iadd S (pc := 83) dX8_takeNumber_83 ?_
          refine z_bipush S (pc := 84) dX8_takeNumber_84 rfl ?_
          refine z_isub S (pc := 86) dX8_takeNumber_86 ?_
          refine lv_istore_n (lv' := [(3, .int (iI (((10 * v) + (chr0 χ pm j)) - 48))), (0, .ref a), (1, .int (iI le)), (2, .int (iI mo2))]) S.1 S.2.1 (pc := 87) dX8_takeNumber_87 rfl hl (by decide) rfl (fun ls hl => ?_)
          refine z_aload_n S (pc := 88) dX8_takeNumber_88 rfl (lv_at hl 1 rfl) ?_
          refine lv_dup S.1 S.2.1 (pc := 89) dX8_takeNumber_89 rfl ?_
          refine z_get S (pc := 90) B iX8_takeNumber_X8 0 rfl rfl 8 (by decide) rfl rfl (by decide +kernel) dX8_takeNumber_90 ?_
          refine z_iconst S (pc := 93) dX8_takeNumber_93 ?_
          refine z_iadd S (pc := 94) dX8_takeNumber_94 ?_
          refine z_put S (pc := 95) B iX8_takeNumber_X8 tyX8_ok nmX8 0 rfl rfl 8 (by decide) rfl (by decide +kernel) (ty := .int) (by decide +kernel) rfl rfl (Nat.le_of_ble_eq_true rfl) dX8_takeNumber_95 (wn := [cMod a p1 p2 p3 p4 p5 p6 pm ig mo (j + 1) wr sm, cInt E p5 60 χ]) rfl (fun H locs B => ?_)
          refine lv_goto S.1 S.2.1 (pc := 98) (tgt := 38) dX8_takeNumber_98 rfl ?_
          exact absurd hk (by have := chr0_lt (χ := χ) (n := pm) (i := j) (by omega); omega)
  | succ n ih =>
    intro v j hv hj hk res hres hx H locs ls B hl
    have hc := chr0_bd (i := j) hX hn.2
    have hc0 : chr0 χ pm j ≠ 0 → 0 ≤ j ∧ j < pm := chr0_lt
    refine z_iload_n S (pc := 38) dX8_takeNumber_38 rfl (lv_at hl 3 rfl) ?_
    refine z_if_le S (pc := 39) (tgt := 101) (by omega) dX8_takeNumber_39 rfl (fun c1 => ?_) (fun c1 => ?_)
    · have hres : (v, j) = res := by rw [← hres]; simp only [numL]; rw [if_neg (fun z => by omega)]
      subst hres
      exact hx _ _ _ B (lv_sub hl [0, 3] rfl)
    · refine z_aload_n S (pc := 42) dX8_takeNumber_42 rfl (lv_at hl 0 rfl) ?_
      refine z_callV S (pc := 43) B (wr := []) (wn := fun _ => [cMod a p1 p2 p3 p4 p5 p6 pm ig mo j wr sm, cInt E p5 60 χ]) (st1 := fun _ => [.int (iI (chr0 χ pm j))]) (As := []) (mX8_nextSign l E a p1 p2 p3 p4 p5 p6 (fun _ => 0) (fun _ => 0) pm ig mo j wr sm χ (show 0 ≤ pm ∧ pm ≤ 60 from by omega) (show 0 ≤ j ∧ j ≤ pm from by omega) (show inX χ from by assumption)) gX8_takeNumber_X8_nextSign 0 rfl (by decide +kernel) ⟨Nat.le_of_ble_eq_true rfl, Nat.le_of_ble_eq_true rfl, Nat.le_of_ble_eq_true rfl, Nat.le_of_ble_eq_true rfl⟩ 0 rfl (q := (RX8, TX8, 12)) rfl rfl [0, 1] [] [0, 1] rfl rfl ⟨rfl, rfl, rfl, by decide⟩ (fun _ => rfl) rfl (fun _ => rfl) hl.1 (Nat.le_of_ble_eq_true rfl) rfl dX8_takeNumber_43 (fun _ _ H locs B => ?_)
      refine z_i2l S (pc := 46) (by omega) dX8_takeNumber_46 ?_
      refine z_ldc2 S (pc := 47) (x := 48) (by decide +kernel) rfl dX8_takeNumber_47 ?_
      refine z_ldc2 S (pc := 50) (x := 57) (by decide +kernel) rfl dX8_takeNumber_50 ?_
      refine z_callS S (pc := 53) B (wr := [cMod a p1 p2 p3 p4 p5 p6 pm ig mo j wr sm, cInt E p5 60 χ]) (wn := fun _ => [cMod a p1 p2 p3 p4 p5 p6 pm ig mo j wr sm, cInt E p5 60 χ]) (st1 := fun _ => [.int (iI (bI (48 ≤ chr0 χ pm j ∧ chr0 χ pm j ≤ 57)))]) (As := [.long (iL (chr0 χ pm j)), .long (iL 48), .long (iL 57)]) (mX8_in l E (chr0 χ pm j) 48 57 (show inL (chr0 χ pm j) from by omega) (show inL 48 from by omega) (show inL 57 from by omega)) gX8_takeNumber_X8_in 3 rfl (by decide +kernel) ⟨Nat.le_of_ble_eq_true rfl, Nat.le_of_ble_eq_true rfl, Nat.le_of_ble_eq_true rfl, Nat.le_of_ble_eq_true rfl⟩ [] [0, 1] [0, 1] rfl rfl ⟨rfl, rfl, rfl, by decide⟩ (fun _ => rfl) rfl (fun _ => rfl) hl.1 (Nat.le_of_ble_eq_true rfl) rfl dX8_takeNumber_53 (fun _ _ H locs B => ?_)
      refine z_ifeq_b S (pc := 56) (tgt := 101) dX8_takeNumber_56 rfl (fun c2 => ?_) (fun c2 => ?_)
      · have hres : (v, j) = res := by rw [← hres]; simp only [numL]; rw [if_neg (fun z => by omega)]
        subst hres
        exact hx _ _ _ B (lv_sub hl [0, 3] rfl)
      · refine z_bipush S (pc := 59) dX8_takeNumber_59 rfl ?_
        refine z_iload_n S (pc := 61) dX8_takeNumber_61 rfl (lv_at hl 3 rfl) ?_
        refine z_imul S (pc := 62) dX8_takeNumber_62 ?_
        refine z_aload_n S (pc := 63) dX8_takeNumber_63 rfl (lv_at hl 0 rfl) ?_
        refine z_callV S (pc := 64) B (wr := []) (wn := fun _ => [cMod a p1 p2 p3 p4 p5 p6 pm ig mo j wr sm, cInt E p5 60 χ]) (st1 := fun _ => [.int (iI (chr0 χ pm j)), .int (iI (10 * v))]) (As := []) (mX8_nextSign l E a p1 p2 p3 p4 p5 p6 (fun _ => 0) (fun _ => 0) pm ig mo j wr sm χ (show 0 ≤ pm ∧ pm ≤ 60 from by omega) (show 0 ≤ j ∧ j ≤ pm from by omega) (show inX χ from by assumption)) gX8_takeNumber_X8_nextSign 0 rfl (by decide +kernel) ⟨Nat.le_of_ble_eq_true rfl, Nat.le_of_ble_eq_true rfl, Nat.le_of_ble_eq_true rfl, Nat.le_of_ble_eq_true rfl⟩ 0 rfl (q := (RX8, TX8, 12)) rfl rfl [0, 1] [] [0, 1] rfl rfl ⟨rfl, rfl, rfl, by decide⟩ (fun _ => rfl) rfl (fun _ => rfl) hl.1 (Nat.le_of_ble_eq_true rfl) rfl dX8_takeNumber_64 (fun _ _ H locs B => ?_)
        refine z_iadd S (pc := 67) dX8_takeNumber_67 ?_
        refine z_bipush S (pc := 68) dX8_takeNumber_68 rfl ?_
        refine z_isub S (pc := 70) dX8_takeNumber_70 ?_
        refine z_iload_n S (pc := 71) dX8_takeNumber_71 rfl (lv_at hl 2 rfl) ?_
        refine z_icmp_gt S (pc := 72) (tgt := 101) (by omega) (by omega) dX8_takeNumber_72 rfl (fun c3 => ?_) (fun c3 => ?_)
        · have hres : (v, j) = res := by rw [← hres]; simp only [numL]; rw [if_neg (fun z => by omega)]
          subst hres
          exact hx _ _ _ B (lv_sub hl [0, 3] rfl)
        · refine z_bipush S (pc := 75) dX8_takeNumber_75 rfl ?_
          refine z_iload_n S (pc := 77) dX8_takeNumber_77 rfl (lv_at hl 3 rfl) ?_
          refine z_imul S (pc := 78) dX8_takeNumber_78 ?_
          refine z_aload_n S (pc := 79) dX8_takeNumber_79 rfl (lv_at hl 0 rfl) ?_
          refine z_callV S (pc := 80) B (wr := []) (wn := fun _ => [cMod a p1 p2 p3 p4 p5 p6 pm ig mo j wr sm, cInt E p5 60 χ]) (st1 := fun _ => [.int (iI (chr0 χ pm j)), .int (iI (10 * v))]) (As := []) (mX8_nextSign l E a p1 p2 p3 p4 p5 p6 (fun _ => 0) (fun _ => 0) pm ig mo j wr sm χ (show 0 ≤ pm ∧ pm ≤ 60 from by omega) (show 0 ≤ j ∧ j ≤ pm from by omega) (show inX χ from by assumption)) gX8_takeNumber_X8_nextSign 0 rfl (by decide +kernel) ⟨Nat.le_of_ble_eq_true rfl, Nat.le_of_ble_eq_true rfl, Nat.le_of_ble_eq_true rfl, Nat.le_of_ble_eq_true rfl⟩ 0 rfl (q := (RX8, TX8, 12)) rfl rfl [0, 1] [] [0, 1] rfl rfl ⟨rfl, rfl, rfl, by decide⟩ (fun _ => rfl) rfl (fun _ => rfl) hl.1 (Nat.le_of_ble_eq_true rfl) rfl dX8_takeNumber_80 (fun _ _ H locs B => ?_)
          refine z_iadd S (pc := 83) dX8_takeNumber_83 ?_
          refine z_bipush S (pc := 84) dX8_takeNumber_84 rfl ?_
          refine z_isub S (pc := 86) dX8_takeNumber_86 ?_
          refine lv_istore_n (lv' := [(3, .int (iI (((10 * v) + (chr0 χ pm j)) - 48))), (0, .ref a), (1, .int (iI le)), (2, .int (iI mo2))]) S.1 S.2.1 (pc := 87) dX8_takeNumber_87 rfl hl (by decide) rfl (fun ls hl => ?_)
          refine z_aload_n S (pc := 88) dX8_takeNumber_88 rfl (lv_at hl 1 rfl) ?_
          refine lv_dup S.1 S.2.1 (pc := 89) dX8_takeNumber_89 rfl ?_
          refine z_get S (pc := 90) B iX8_takeNumber_X8 0 rfl rfl 8 (by decide) rfl rfl (by decide +kernel) dX8_takeNumber_90 ?_
          refine z_iconst S (pc := 93) dX8_takeNumber_93 ?_
          refine z_iadd S (pc := 94) dX8_takeNumber_94 ?_
          refine z_put S (pc := 95) B iX8_takeNumber_X8 tyX8_ok nmX8 0 rfl rfl 8 (by decide) rfl (by decide +kernel) (ty := .int) (by decide +kernel) rfl rfl (Nat.le_of_ble_eq_true rfl) dX8_takeNumber_95 (wn := [cMod a p1 p2 p3 p4 p5 p6 pm ig mo (j + 1) wr sm, cInt E p5 60 χ]) rfl (fun H locs B => ?_)
          refine lv_goto S.1 S.2.1 (pc := 98) (tgt := 38) dX8_takeNumber_98 rfl ?_
          have hjn := chr0_lt (χ := χ) (n := pm) (i := j) (by omega)
          have ev : ((10 * v) + (chr0 χ pm j)) - 48 = v * 10 + (chr0 χ pm j - 48) := by omega
          rw [ev] at hl
          exact ih (v * 10 + (chr0 χ pm j - 48)) (j + 1) (by omega) (by omega) (by omega) res (by rw [← hres]; simp only [numL]; rw [if_pos ⟨by omega, by omega, by omega⟩]) hx _ _ _ B (lv_sub hl [1, 2, 3, 0] rfl)
set_option maxHeartbeats 4000000 in
set_option maxRecDepth 100000 in
theorem mX8_takeNumber (l : Launch) (E : gT) (a : Nat) (p1 : Nat) (p2 : Nat) (p3 : Nat) (p4 : Nat) (p5 : Nat) (p6 : Nat) (σ : Nat → Int) (ρ : Nat → Int) (pm : Int) (ig : Int) (mo : Int) (rd : Int) (wr : Int) (sm : Int) (χ : Nat → Int) (le : Int) (mo2 : Int) (hn : 0 ≤ pm ∧ pm ≤ 60) (hi : 0 ≤ rd ∧ rd ≤ pm) (hX : inX χ) (hle : 0 ≤ le ∧ le ≤ 1) (hm : 9 ≤ mo2 ∧ mo2 ≤ 3000000) : Cd l E yX8_takeNumber wsX8_takeNumber 1 25 0 0 [.ref a, .int (iI le), .int (iI mo2)] [cMod a p1 p2 p3 p4 p5 p6 pm ig mo rd wr sm, cInt E p5 60 χ] (some (.int (iI ((mnum χ pm le mo2 rd).2.1)))) [cMod a p1 p2 p3 p4 p5 p6 pm ig mo ((mnum χ pm le mo2 rd).2.2) (if (mnum χ pm le mo2 rd).1 = 1 then 1 else wr) sm, cInt E p5 60 χ] := by
  refine Ct.mk (cc := cX8_takeNumber) (maxL := 4) (ret := (some .int)) (plainFor_of_name (by decide)) rfl (Nat.le_of_ble_eq_true rfl) ?_
  intro p e s m below meth c A ls H locs S hr hlk hnm B hl
  have S : CallFix p m c cX8_takeNumber 4 s #[.ref a, .int (iI le), .int (iI mo2)] wsX8_takeNumber RX8 := S
  have hl : lv_has ls 4 [(0, .ref a), (1, .int (iI le)), (2, .int (iI mo2))] := hl
  have hc := chr0_bd (i := rd) hX hn.2
  refine z_aload_n S (pc := 0) dX8_takeNumber_0 rfl (lv_at hl 0 rfl) ?_
  refine z_callV S (pc := 1) B (wr := []) (wn := fun _ => [cMod a p1 p2 p3 p4 p5 p6 pm ig mo rd wr sm, cInt E p5 60 χ]) (st1 := fun _ => [.int (iI (chr0 χ pm rd))]) (As := []) (mX8_nextSign l E a p1 p2 p3 p4 p5 p6 (fun _ => 0) (fun _ => 0) pm ig mo rd wr sm χ (show 0 ≤ pm ∧ pm ≤ 60 from by omega) (show 0 ≤ rd ∧ rd ≤ pm from by omega) (show inX χ from by assumption)) gX8_takeNumber_X8_nextSign 0 rfl (by decide +kernel) ⟨Nat.le_of_ble_eq_true rfl, Nat.le_of_ble_eq_true rfl, Nat.le_of_ble_eq_true rfl, Nat.le_of_ble_eq_true rfl⟩ 0 rfl (q := (RX8, TX8, 12)) rfl rfl [0, 1] [] [0, 1] rfl rfl ⟨rfl, rfl, rfl, by decide⟩ (fun _ => rfl) rfl (fun _ => rfl) hl.1 (Nat.le_of_ble_eq_true rfl) rfl dX8_takeNumber_1 (fun _ _ H locs B => ?_)
  refine z_bipush S (pc := 4) dX8_takeNumber_4 rfl ?_
  refine z_isub S (pc := 6) dX8_takeNumber_6 ?_
  refine lv_istore_n (lv' := [(3, .int (iI ((chr0 χ pm rd) - 48))), (0, .ref a), (1, .int (iI le)), (2, .int (iI mo2))]) S.1 S.2.1 (pc := 7) dX8_takeNumber_7 rfl hl (by decide) rfl (fun ls hl => ?_)
  refine z_iload_n S (pc := 8) dX8_takeNumber_8 rfl (lv_at hl 0 rfl) ?_
  refine z_i2l S (pc := 9) (by omega) dX8_takeNumber_9 ?_
  refine z_iload_n S (pc := 10) dX8_takeNumber_10 rfl (lv_at hl 2 rfl) ?_
  refine z_i2l S (pc := 11) (by omega) dX8_takeNumber_11 ?_
  refine z_ldc2 S (pc := 12) (x := 9) (by decide +kernel) rfl dX8_takeNumber_12 ?_
  refine z_callS S (pc := 15) B (wr := [cMod a p1 p2 p3 p4 p5 p6 pm ig mo rd wr sm, cInt E p5 60 χ]) (wn := fun _ => [cMod a p1 p2 p3 p4 p5 p6 pm ig mo rd wr sm, cInt E p5 60 χ]) (st1 := fun _ => [.int (iI (bI (le ≤ (chr0 χ pm rd) - 48 ∧ (chr0 χ pm rd) - 48 ≤ 9)))]) (As := [.long (iL ((chr0 χ pm rd) - 48)), .long (iL le), .long (iL 9)]) (mX8_in l E ((chr0 χ pm rd) - 48) le 9 (show inL ((chr0 χ pm rd) - 48) from by omega) (show inL le from by omega) (show inL 9 from by omega)) gX8_takeNumber_X8_in 3 rfl (by decide +kernel) ⟨Nat.le_of_ble_eq_true rfl, Nat.le_of_ble_eq_true rfl, Nat.le_of_ble_eq_true rfl, Nat.le_of_ble_eq_true rfl⟩ [] [0, 1] [0, 1] rfl rfl ⟨rfl, rfl, rfl, by decide⟩ (fun _ => rfl) rfl (fun _ => rfl) hl.1 (Nat.le_of_ble_eq_true rfl) rfl dX8_takeNumber_15 (fun _ _ H locs B => ?_)
  refine z_ifne_b S (pc := 18) (tgt := 28) dX8_takeNumber_18 rfl (fun c1 => ?_) (fun c1 => ?_)
  · refine z_aload_n S (pc := 28) dX8_takeNumber_28 rfl (lv_at hl 1 rfl) ?_
    refine lv_dup S.1 S.2.1 (pc := 29) dX8_takeNumber_29 rfl ?_
    refine z_get S (pc := 30) B iX8_takeNumber_X8 0 rfl rfl 8 (by decide) rfl rfl (by decide +kernel) dX8_takeNumber_30 ?_
    refine z_iconst S (pc := 33) dX8_takeNumber_33 ?_
    refine z_iadd S (pc := 34) dX8_takeNumber_34 ?_
    refine z_put S (pc := 35) B iX8_takeNumber_X8 tyX8_ok nmX8 0 rfl rfl 8 (by decide) rfl (by decide +kernel) (ty := .int) (by decide +kernel) rfl rfl (Nat.le_of_ble_eq_true rfl) dX8_takeNumber_35 (wn := [cMod a p1 p2 p3 p4 p5 p6 pm ig mo (rd + 1) wr sm, cInt E p5 60 χ]) rfl (fun H locs B => ?_)
    have hin := chr0_lt (χ := χ) (n := pm) (i := rd) (by omega)
    obtain ⟨r, hr1⟩ : ∃ r, numR χ pm mo2 rd = r := ⟨_, rfl⟩
    have hmn : mnum χ pm le mo2 rd = (0, r.1, r.2) := by unfold mnum; rw [if_pos (by omega), hr1]
    refine lpX8_takeNumber E S a p1 p2 p3 p4 p5 p6 σ ρ pm ig mo wr sm χ le mo2 hn hX hm 60 (chr0 χ pm rd - 48) (rd + 1) (by omega) (by omega) (by omega) r hr1 (fun H locs ls B hl => ?_) _ _ _ B (lv_sub hl [1, 2, 3, 0] rfl)
    refine z_iload_n S (pc := 101) dX8_takeNumber_101 rfl (lv_at hl 1 rfl) ?_
    exact z_ireturn S hr hlk B () trivial (by rw [hmn]) (by rw [hmn]; rfl) (pc := 102) dX8_takeNumber_102
  · refine z_aload_n S (pc := 21) dX8_takeNumber_21 rfl (lv_at hl 1 rfl) ?_
    refine z_iconst S (pc := 22) dX8_takeNumber_22 ?_
    refine z_put S (pc := 23) B iX8_takeNumber_X8 tyX8_ok nmX8 0 rfl rfl 9 (by decide) rfl (by decide +kernel) (ty := .boolean) (by decide +kernel) rfl rfl (Nat.le_of_ble_eq_true rfl) dX8_takeNumber_23 (wn := [cMod a p1 p2 p3 p4 p5 p6 pm ig mo rd 1 sm, cInt E p5 60 χ]) rfl (fun H locs B => ?_)
    refine z_iconst S (pc := 26) dX8_takeNumber_26 ?_
    have hmn : mnum χ pm le mo2 rd = (1, 0, rd) := by unfold mnum; rw [if_neg (fun z => by omega)]
    exact z_ireturn S hr hlk B () trivial (by rw [hmn]) (by rw [hmn]; rfl) (pc := 27) dX8_takeNumber_27
/-! END mod 6 -/
