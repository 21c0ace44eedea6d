set_option linter.unusedVariables false
theorem cvt_n (σ : Nat → Int) (g : Int) {j : Nat} (h : j ≠ 11 ∧ (j < 15 ∨ 22 < j)) : cvt σ g j = σ j := by
  unfold cvt
  split <;> first | rfl | omega
theorem cvt_fun {σ σ' : Nat → Int} {g : Int} (hr : ∀ j, j ≠ 11 → (j < 15 ∨ 22 < j) → σ' j = σ j) (h11 : σ' 11 = cvt σ g 11) (h15 : σ' 15 = cvt σ g 15) (h16 : σ' 16 = cvt σ g 16) (h17 : σ' 17 = cvt σ g 17) (h18 : σ' 18 = cvt σ g 18) (h19 : σ' 19 = cvt σ g 19) (h20 : σ' 20 = cvt σ g 20) (h21 : σ' 21 = cvt σ g 21) (h22 : σ' 22 = cvt σ g 22) : σ' = cvt σ g := by
  funext j
  by_cases h : j ≠ 11 ∧ (j < 15 ∨ 22 < j)
  · rw [cvt_n σ g h]; exact hr j h.1 h.2
  · rcases (show j = 11 ∨ j = 15 ∨ j = 16 ∨ j = 17 ∨ j = 18 ∨ j = 19 ∨ j = 20 ∨ j = 21 ∨ j = 22 from by omega) with rfl | rfl | rfl | rfl | rfl | rfl | rfl | rfl | rfl <;> assumption
theorem pU_o {σ : Nat → Int} {a b c d : Int} {j : Nat} (h : j ≠ 11 ∧ (j < 15 ∨ 22 < j)) : pU σ a b c d j = σ j := by
  simp only [pU, up]
  rw [if_neg (by omega), if_neg (by omega), if_neg (by omega), if_neg (by omega)]
theorem pD_o {σ : Nat → Int} {a b c : Int} {j : Nat} (h : j ≠ 11 ∧ (j < 15 ∨ 22 < j)) : pD σ a b c j = σ j := by
  simp only [pD, up]
  rw [if_neg (by omega), if_neg (by omega), if_neg (by omega)]
theorem pF_o {σ : Nat → Int} {a b c : Int} {j : Nat} (h : j ≠ 11 ∧ (j < 15 ∨ 22 < j)) : pF σ a b c j = σ j := by
  simp only [pF, up]
  rw [if_neg (by omega), if_neg (by omega), if_neg (by omega)]
theorem up_o {σ : Nat → Int} {k j : Nat} {v : Int} (h : j ≠ k) : up σ k v j = σ j := up_n σ v h
theorem up_comm (σ : Nat → Int) {a b : Nat} (x y : Int) (h : a ≠ b) : up (up σ a x) b y = up (up σ b y) a x := by
  funext j
  simp only [up]
  by_cases h1 : j = a
  · subst h1; simp [h]
  · by_cases h2 : j = b
    · subst h2; simp [h1]
    · simp [h1, h2]
theorem fnL_o {n : Nat} {s x pk f : Int} (h : s ≠ 0 ∧ sg x = s) : fnL n s x pk f = (x, pk, f) := by
  cases n with
  | zero => rfl
  | succ n =>
    simp only [fnL]
    rw [if_neg (fun z => by omega)]
theorem iX8_convert_X8 : ∀ w ∈ wsX80, w ∈ wsX8_convert := by decide +kernel
set_option maxHeartbeats 4000000 in
set_option maxRecDepth 100000 in
theorem lpX8_convert_d0 {p : Program} {l : Launch} {e : Env} {s : State} {m : MethodId} {args : Array Value} {below : List Frame} {meth : Method} {c : Code} {Q : State → Prop} {A : Nat → Prop} (E : gT) (S : CallFix p m c cX8_convert 3 s args wsX8_convert RX8) (a : Nat) (p1 : Nat) (p2 : Nat) (p3 : Nat) (p4 : Nat) (p5 : Nat) (p6 : Nat) (σ : Nat → Int) (ρ : Nat → Int) (pm : Int) (mo : Int) (rd : Int) (wr : Int) (sm : Int) (q : Int) (tm : Int) (hq : q = 0 ∨ q = 1 ∨ q = -1) (hw : 4 ≤ σ 5 ∧ σ 5 ≤ 400) (htm : 0 ≤ tm ∧ tm ≤ 2147400000) :
    ∀ (n : Nat) (x : Int) (pk : Int) (d : Int) (hb : -1677721600 ≤ x ∧ x ≤ 1677721600) (hp : 0 ≤ pk ∧ pk ≤ 1677721600) (hd : 0 ≤ d ∧ d + (n : Int) = 3 * σ 5) (res : Int × Int × Int) (hres : dnL n q x pk d = res) (hx : ∀  (H : Heap) (locs : List Loc) (ls : Array Slot), bw E A s H locs [cMod a p1 p2 p3 p4 p5 p6 pm res.1 mo rd wr sm, cAt E p1 (pD σ (tm + res.2.2) res.2.1 res.2.2) ρ] → lv_has ls 3 [(0, .ref a), (1, .int (iI 0)), (2, .int (iI q))] → W p l e ({ frames := 3, cells := 0, slots := 0, locals := 72 } : Room) s m args below meth c H locs 0 0 Q (F0 m 109 ls [])) (H : Heap) (locs : List Loc) (ls : Array Slot) (B : bw E A s H locs [cMod a p1 p2 p3 p4 p5 p6 pm x mo rd wr sm, cAt E p1 (pD σ (tm + d) pk d) ρ]) (hl : lv_has ls 3 [(0, .ref a), (1, .int (iI 0)), (2, .int (iI q))]), W p l e ({ frames := 3, cells := 0, slots := 0, locals := 72 } : Room) s m args below meth c H locs 0 0 Q (F0 m 48 ls []) := by
  intro n
  induction n with
  | zero =>
    intro x pk d hb hp hd res hres hx H locs ls B hl
    have hsx := sg_c x
    refine z_iload_n S (pc := 48) dX8_convert_48 rfl (lv_at hl 2 rfl) ?_
    refine z_if_eq S (pc := 49) (tgt := 109) (by omega) dX8_convert_49 rfl (fun c1 => ?_) (fun c1 => ?_)
    · subst hres
      exact hx _ _ _ B (lv_sub hl [0, 1, 2] rfl)
    · refine z_aload_n S (pc := 52) dX8_convert_52 rfl (lv_at hl 0 rfl) ?_
      refine z_get S (pc := 53) B iX8_convert_X8 0 rfl rfl 6 (by decide) rfl rfl (by decide +kernel) dX8_convert_53 ?_
      refine z_callS S (pc := 56) B (wr := [cMod a p1 p2 p3 p4 p5 p6 pm x mo rd wr sm, cAt E p1 (pD σ (tm + d) pk d) ρ]) (wn := fun _ => [cMod a p1 p2 p3 p4 p5 p6 pm x mo rd wr sm, cAt E p1 (pD σ (tm + d) pk d) ρ]) (st1 := fun _ => [.int (iI (sg x))]) (As := [.long (iL x)]) (mX8_signOf l E x (show inL x from by omega)) gX8_convert_X8_signOf 1 rfl (by decide +kernel) ⟨Nat.le_of_ble_eq_true rfl, Nat.le_of_ble_eq_true rfl, Nat.le_of_ble_eq_true rfl, Nat.le_of_ble_eq_true rfl⟩ [] [0, 1] [0, 1] rfl rfl ⟨rfl, rfl, rfl, by decide⟩ (fun _ => rfl) rfl (fun _ => rfl) hl.1 (Nat.le_of_ble_eq_true rfl) rfl dX8_convert_56 (fun _ _ H locs B => ?_)
      refine z_iload_n S (pc := 59) dX8_convert_59 rfl (lv_at hl 2 rfl) ?_
      refine z_icmp_ne S (pc := 60) (tgt := 109) (by omega) (by omega) dX8_convert_60 rfl (fun c2 => ?_) (fun c2 => ?_)
      · subst hres
        exact hx _ _ _ B (lv_sub hl [0, 1, 2] rfl)
      · refine z_aload_n S (pc := 63) dX8_convert_63 rfl (lv_at hl 0 rfl) ?_
        refine z_get S (pc := 64) B iX8_convert_X8 0 rfl rfl 0 (by decide) rfl rfl (by decide +kernel) dX8_convert_64 ?_
        refine z_bipush S (pc := 67) dX8_convert_67 rfl ?_
        refine z_lald S (pc := 69) B 1 2 rfl rfl (k := 16) rfl (by decide) (by decide) (v := .long (iL d)) rfl dX8_convert_69 ?_
        refine z_ldc2 S (pc := 70) (x := 3) (by decide +kernel) rfl dX8_convert_70 ?_
        refine z_aload_n S (pc := 73) dX8_convert_73 rfl (lv_at hl 0 rfl) ?_
        refine z_get S (pc := 74) B iX8_convert_X8 0 rfl rfl 0 (by decide) rfl rfl (by decide +kernel) dX8_convert_74 ?_
        refine z_iconst S (pc := 77) dX8_convert_77 ?_
        refine z_lald S (pc := 78) B 1 2 rfl rfl (k := 5) rfl (by decide) (by decide) (v := .long (iL (σ 5))) rfl dX8_convert_78 ?_
        refine z_lmul S (pc := 79) dX8_convert_79 ?_
        refine z_lc_ge S (pc := 80) (tgt := 109) (by omega) (by omega) dX8_convert_80 dX8_convert_81 rfl (fun c3 => ?_) (fun c3 => ?_)
        · subst hres
          exact hx _ _ _ B (lv_sub hl [0, 1, 2] rfl)
        · refine z_aload_n S (pc := 84) dX8_convert_84 rfl (lv_at hl 0 rfl) ?_
          refine z_iload_n S (pc := 85) dX8_convert_85 rfl (lv_at hl 2 rfl) ?_
          refine z_ineg S (pc := 86) dX8_convert_86 ?_
          refine z_i2l S (pc := 87) (by omega) dX8_convert_87 ?_
          refine z_ldc2 S (pc := 88) (x := 1048576) (by decide +kernel) rfl dX8_convert_88 ?_
          refine z_lmul S (pc := 91) dX8_convert_91 ?_
          refine z_callV S (pc := 92) B (wr := []) (wn := fun _ => [cMod a p1 p2 p3 p4 p5 p6 pm (x + ((-q) * 1048576)) mo rd wr sm, cAt E p1 (up (up (pD σ (tm + d) pk d) 11 (tm + d + 1)) 20 (mx pk (x + ((-q) * 1048576)))) ρ]) (st1 := fun _ => []) (As := [.long (iL ((-q) * 1048576))]) (mX8_tick l E a p1 p2 p3 p4 p5 p6 (pD σ (tm + d) pk d) ρ pm x mo rd wr sm ((-q) * 1048576) (show -1000000000000 ≤ x ∧ x ≤ 1000000000000 from by omega) (show -1000000000000 ≤ ((-q) * 1048576) ∧ ((-q) * 1048576) ≤ 1000000000000 from by omega) (show 0 ≤ pk ∧ pk ≤ 2000000000000 from by omega)) gX8_convert_X8_tick 1 rfl (by decide +kernel) ⟨Nat.le_of_ble_eq_true rfl, Nat.le_of_ble_eq_true rfl, Nat.le_of_ble_eq_true rfl, Nat.le_of_ble_eq_true rfl⟩ 0 rfl (q := (RX8, TX8, 12)) rfl rfl [0, 1] [] [0, 1] rfl rfl ⟨rfl, rfl, rfl, by decide⟩ (fun _ => rfl) rfl (fun _ => rfl) hl.1 (Nat.le_of_ble_eq_true rfl) rfl dX8_convert_92 (fun _ _ H locs B => ?_)
          refine z_aload_n S (pc := 95) dX8_convert_95 rfl (lv_at hl 0 rfl) ?_
          refine z_get S (pc := 96) B iX8_convert_X8 0 rfl rfl 0 (by decide) rfl rfl (by decide +kernel) dX8_convert_96 ?_
          refine z_bipush S (pc := 99) dX8_convert_99 rfl ?_
          refine lv_dup2_11 S.1 S.2.1 (pc := 101) dX8_convert_101 rfl rfl ?_
          refine z_lald S (pc := 102) B 1 2 rfl rfl (k := 16) rfl (by decide) (by decide) (v := .long (iL d)) rfl dX8_convert_102 ?_
          refine z_lconst S (pc := 103) (x := 1) dX8_convert_103 rfl ?_
          refine z_ladd S (pc := 104) dX8_convert_104 ?_
          refine z_last S (pc := 105) B 1 2 rfl rfl (k := 16) rfl (by decide) (by decide) dX8_convert_105 (wn := [cMod a p1 p2 p3 p4 p5 p6 pm (x + ((-q) * 1048576)) mo rd wr sm, cAt E p1 (up (up (up (pD σ (tm + d) pk d) 11 (tm + d + 1)) 20 (mx pk (x + ((-q) * 1048576)))) 16 (d + 1)) ρ]) (by rw [lmu _ _ (by decide)]; rfl) (fun H locs B => ?_)
          refine lv_goto S.1 S.2.1 (pc := 106) (tgt := 48) dX8_convert_106 rfl ?_
          exact absurd hd (by omega)
  | succ n ih =>
    intro x pk d hb hp hd res hres hx H locs ls B hl
    have hsx := sg_c x
    refine z_iload_n S (pc := 48) dX8_convert_48 rfl (lv_at hl 2 rfl) ?_
    refine z_if_eq S (pc := 49) (tgt := 109) (by omega) dX8_convert_49 rfl (fun c1 => ?_) (fun c1 => ?_)
    · have hres : (x, pk, d) = res := by rw [← hres]; simp only [dnL]; rw [if_neg (fun z => by omega)]
      subst hres
      exact hx _ _ _ B (lv_sub hl [0, 1, 2] rfl)
    · refine z_aload_n S (pc := 52) dX8_convert_52 rfl (lv_at hl 0 rfl) ?_
      refine z_get S (pc := 53) B iX8_convert_X8 0 rfl rfl 6 (by decide) rfl rfl (by decide +kernel) dX8_convert_53 ?_
      refine z_callS S (pc := 56) B (wr := [cMod a p1 p2 p3 p4 p5 p6 pm x mo rd wr sm, cAt E p1 (pD σ (tm + d) pk d) ρ]) (wn := fun _ => [cMod a p1 p2 p3 p4 p5 p6 pm x mo rd wr sm, cAt E p1 (pD σ (tm + d) pk d) ρ]) (st1 := fun _ => [.int (iI (sg x))]) (As := [.long (iL x)]) (mX8_signOf l E x (show inL x from by omega)) gX8_convert_X8_signOf 1 rfl (by decide +kernel) ⟨Nat.le_of_ble_eq_true rfl, Nat.le_of_ble_eq_true rfl, Nat.le_of_ble_eq_true rfl, Nat.le_of_ble_eq_true rfl⟩ [] [0, 1] [0, 1] rfl rfl ⟨rfl, rfl, rfl, by decide⟩ (fun _ => rfl) rfl (fun _ => rfl) hl.1 (Nat.le_of_ble_eq_true rfl) rfl dX8_convert_56 (fun _ _ H locs B => ?_)
      refine z_iload_n S (pc := 59) dX8_convert_59 rfl (lv_at hl 2 rfl) ?_
      refine z_icmp_ne S (pc := 60) (tgt := 109) (by omega) (by omega) dX8_convert_60 rfl (fun c2 => ?_) (fun c2 => ?_)
      · have hres : (x, pk, d) = res := by rw [← hres]; simp only [dnL]; rw [if_neg (fun z => by omega)]
        subst hres
        exact hx _ _ _ B (lv_sub hl [0, 1, 2] rfl)
      · refine z_aload_n S (pc := 63) dX8_convert_63 rfl (lv_at hl 0 rfl) ?_
        refine z_get S (pc := 64) B iX8_convert_X8 0 rfl rfl 0 (by decide) rfl rfl (by decide +kernel) dX8_convert_64 ?_
        refine z_bipush S (pc := 67) dX8_convert_67 rfl ?_
        refine z_lald S (pc := 69) B 1 2 rfl rfl (k := 16) rfl (by decide) (by decide) (v := .long (iL d)) rfl dX8_convert_69 ?_
        refine z_ldc2 S (pc := 70) (x := 3) (by decide +kernel) rfl dX8_convert_70 ?_
        refine z_aload_n S (pc := 73) dX8_convert_73 rfl (lv_at hl 0 rfl) ?_
        refine z_get S (pc := 74) B iX8_convert_X8 0 rfl rfl 0 (by decide) rfl rfl (by decide +kernel) dX8_convert_74 ?_
        refine z_iconst S (pc := 77) dX8_convert_77 ?_
        refine z_lald S (pc := 78) B 1 2 rfl rfl (k := 5) rfl (by decide) (by decide) (v := .long (iL (σ 5))) rfl dX8_convert_78 ?_
        refine z_lmul S (pc := 79) dX8_convert_79 ?_
        refine z_lc_ge S (pc := 80) (tgt := 109) (by omega) (by omega) dX8_convert_80 dX8_convert_81 rfl (fun c3 => ?_) (fun c3 => ?_)
        · exact absurd c3 (by omega)
        · refine z_aload_n S (pc := 84) dX8_convert_84 rfl (lv_at hl 0 rfl) ?_
          refine z_iload_n S (pc := 85) dX8_convert_85 rfl (lv_at hl 2 rfl) ?_
          refine z_ineg S (pc := 86) dX8_convert_86 ?_
          refine z_i2l S (pc := 87) (by omega) dX8_convert_87 ?_
          refine z_ldc2 S (pc := 88) (x := 1048576) (by decide +kernel) rfl dX8_convert_88 ?_
          refine z_lmul S (pc := 91) dX8_convert_91 ?_
          refine z_callV S (pc := 92) B (wr := []) (wn := fun _ => [cMod a p1 p2 p3 p4 p5 p6 pm (x + ((-q) * 1048576)) mo rd wr sm, cAt E p1 (up (up (pD σ (tm + d) pk d) 11 (tm + d + 1)) 20 (mx pk (x + ((-q) * 1048576)))) ρ]) (st1 := fun _ => []) (As := [.long (iL ((-q) * 1048576))]) (mX8_tick l E a p1 p2 p3 p4 p5 p6 (pD σ (tm + d) pk d) ρ pm x mo rd wr sm ((-q) * 1048576) (show -1000000000000 ≤ x ∧ x ≤ 1000000000000 from by omega) (show -1000000000000 ≤ ((-q) * 1048576) ∧ ((-q) * 1048576) ≤ 1000000000000 from by omega) (show 0 ≤ pk ∧ pk ≤ 2000000000000 from by omega)) gX8_convert_X8_tick 1 rfl (by decide +kernel) ⟨Nat.le_of_ble_eq_true rfl, Nat.le_of_ble_eq_true rfl, Nat.le_of_ble_eq_true rfl, Nat.le_of_ble_eq_true rfl⟩ 0 rfl (q := (RX8, TX8, 12)) rfl rfl [0, 1] [] [0, 1] rfl rfl ⟨rfl, rfl, rfl, by decide⟩ (fun _ => rfl) rfl (fun _ => rfl) hl.1 (Nat.le_of_ble_eq_true rfl) rfl dX8_convert_92 (fun _ _ H locs B => ?_)
          refine z_aload_n S (pc := 95) dX8_convert_95 rfl (lv_at hl 0 rfl) ?_
          refine z_get S (pc := 96) B iX8_convert_X8 0 rfl rfl 0 (by decide) rfl rfl (by decide +kernel) dX8_convert_96 ?_
          refine z_bipush S (pc := 99) dX8_convert_99 rfl ?_
          refine lv_dup2_11 S.1 S.2.1 (pc := 101) dX8_convert_101 rfl rfl ?_
          refine z_lald S (pc := 102) B 1 2 rfl rfl (k := 16) rfl (by decide) (by decide) (v := .long (iL d)) rfl dX8_convert_102 ?_
          refine z_lconst S (pc := 103) (x := 1) dX8_convert_103 rfl ?_
          refine z_ladd S (pc := 104) dX8_convert_104 ?_
          refine z_last S (pc := 105) B 1 2 rfl rfl (k := 16) rfl (by decide) (by decide) dX8_convert_105 (wn := [cMod a p1 p2 p3 p4 p5 p6 pm (x + ((-q) * 1048576)) mo rd wr sm, cAt E p1 (up (up (up (pD σ (tm + d) pk d) 11 (tm + d + 1)) 20 (mx pk (x + ((-q) * 1048576)))) 16 (d + 1)) ρ]) (by rw [lmu _ _ (by decide)]; rfl) (fun H locs B => ?_)
          refine lv_goto S.1 S.2.1 (pc := 106) (tgt := 48) dX8_convert_106 rfl ?_
          rw [pD_s, show tm + d + 1 = tm + (d + 1) from by omega] at B
          have b1 := dn_st hq (by omega) (by omega) hb
          exact ih (x + ((-q) * 1048576)) (mx pk (x + ((-q) * 1048576))) (d + 1) (by omega) (mx_bd hp.1 hp.2 (by omega) (by omega)) (by omega) res (by rw [← hres]; simp only [dnL]; rw [if_pos ⟨by omega, by omega⟩]) hx _ _ _ B (lv_sub hl [0, 1, 2] rfl)
set_option maxHeartbeats 4000000 in
set_option maxRecDepth 100000 in
theorem lpX8_convert_d1 {p : Program} {l : Launch} {e : Env} {s : State} {m : MethodId} {args : Array Value} {below : List Frame} {meth : Method} {c : Code} {Q : State → Prop} {A : Nat → Prop} (E : gT) (S : CallFix p m c cX8_convert 3 s args wsX8_convert RX8) (a : Nat) (p1 : Nat) (p2 : Nat) (p3 : Nat) (p4 : Nat) (p5 : Nat) (p6 : Nat) (σ : Nat → Int) (ρ : Nat → Int) (pm : Int) (mo : Int) (rd : Int) (wr : Int) (sm : Int) (q : Int) (tm : Int) (hq : q = 0 ∨ q = 1 ∨ q = -1) (hw : 4 ≤ σ 5 ∧ σ 5 ≤ 400) (htm : 0 ≤ tm ∧ tm ≤ 2147400000) :
    ∀ (n : Nat) (x : Int) (pk : Int) (d : Int) (hb : -1677721600 ≤ x ∧ x ≤ 1677721600) (hp : 0 ≤ pk ∧ pk ≤ 1677721600) (hd : 0 ≤ d ∧ d + (n : Int) = 3 * σ 5) (res : Int × Int × Int) (hres : dnL n q x pk d = res) (hx : ∀  (H : Heap) (locs : List Loc) (ls : Array Slot), bw E A s H locs [cMod a p1 p2 p3 p4 p5 p6 pm res.1 mo rd wr sm, cAt E p1 (pD σ (tm + res.2.2) res.2.1 res.2.2) ρ] → lv_has ls 3 [(0, .ref a), (1, .int (iI 1)), (2, .int (iI q))] → W p l e ({ frames := 3, cells := 0, slots := 0, locals := 72 } : Room) s m args below meth c H locs 0 0 Q (F0 m 109 ls [])) (H : Heap) (locs : List Loc) (ls : Array Slot) (B : bw E A s H locs [cMod a p1 p2 p3 p4 p5 p6 pm x mo rd wr sm, cAt E p1 (pD σ (tm + d) pk d) ρ]) (hl : lv_has ls 3 [(0, .ref a), (1, .int (iI 1)), (2, .int (iI q))]), W p l e ({ frames := 3, cells := 0, slots := 0, locals := 72 } : Room) s m args below meth c H locs 0 0 Q (F0 m 48 ls []) := by
  intro n
  induction n with
  | zero =>
    intro x pk d hb hp hd res hres hx H locs ls B hl
    have hsx := sg_c x
    refine z_iload_n S (pc := 48) dX8_convert_48 rfl (lv_at hl 2 rfl) ?_
    refine z_if_eq S (pc := 49) (tgt := 109) (by omega) dX8_convert_49 rfl (fun c1 => ?_) (fun c1 => ?_)
    · subst hres
      exact hx _ _ _ B (lv_sub hl [0, 1, 2] rfl)
    · refine z_aload_n S (pc := 52) dX8_convert_52 rfl (lv_at hl 0 rfl) ?_
      refine z_get S (pc := 53) B iX8_convert_X8 0 rfl rfl 6 (by decide) rfl rfl (by decide +kernel) dX8_convert_53 ?_
      refine z_callS S (pc := 56) B (wr := [cMod a p1 p2 p3 p4 p5 p6 pm x mo rd wr sm, cAt E p1 (pD σ (tm + d) pk d) ρ]) (wn := fun _ => [cMod a p1 p2 p3 p4 p5 p6 pm x mo rd wr sm, cAt E p1 (pD σ (tm + d) pk d) ρ]) (st1 := fun _ => [.int (iI (sg x))]) (As := [.long (iL x)]) (mX8_signOf l E x (show inL x from by omega)) gX8_convert_X8_signOf 1 rfl (by decide +kernel) ⟨Nat.le_of_ble_eq_true rfl, Nat.le_of_ble_eq_true rfl, Nat.le_of_ble_eq_true rfl, Nat.le_of_ble_eq_true rfl⟩ [] [0, 1] [0, 1] rfl rfl ⟨rfl, rfl, rfl, by decide⟩ (fun _ => rfl) rfl (fun _ => rfl) hl.1 (Nat.le_of_ble_eq_true rfl) rfl dX8_convert_56 (fun _ _ H locs B => ?_)
      refine z_iload_n S (pc := 59) dX8_convert_59 rfl (lv_at hl 2 rfl) ?_
      refine z_icmp_ne S (pc := 60) (tgt := 109) (by omega) (by omega) dX8_convert_60 rfl (fun c2 => ?_) (fun c2 => ?_)
      · subst hres
        exact hx _ _ _ B (lv_sub hl [0, 1, 2] rfl)
      · refine z_aload_n S (pc := 63) dX8_convert_63 rfl (lv_at hl 0 rfl) ?_
        refine z_get S (pc := 64) B iX8_convert_X8 0 rfl rfl 0 (by decide) rfl rfl (by decide +kernel) dX8_convert_64 ?_
        refine z_bipush S (pc := 67) dX8_convert_67 rfl ?_
        refine z_lald S (pc := 69) B 1 2 rfl rfl (k := 16) rfl (by decide) (by decide) (v := .long (iL d)) rfl dX8_convert_69 ?_
        refine z_ldc2 S (pc := 70) (x := 3) (by decide +kernel) rfl dX8_convert_70 ?_
        refine z_aload_n S (pc := 73) dX8_convert_73 rfl (lv_at hl 0 rfl) ?_
        refine z_get S (pc := 74) B iX8_convert_X8 0 rfl rfl 0 (by decide) rfl rfl (by decide +kernel) dX8_convert_74 ?_
        refine z_iconst S (pc := 77) dX8_convert_77 ?_
        refine z_lald S (pc := 78) B 1 2 rfl rfl (k := 5) rfl (by decide) (by decide) (v := .long (iL (σ 5))) rfl dX8_convert_78 ?_
        refine z_lmul S (pc := 79) dX8_convert_79 ?_
        refine z_lc_ge S (pc := 80) (tgt := 109) (by omega) (by omega) dX8_convert_80 dX8_convert_81 rfl (fun c3 => ?_) (fun c3 => ?_)
        · subst hres
          exact hx _ _ _ B (lv_sub hl [0, 1, 2] rfl)
        · refine z_aload_n S (pc := 84) dX8_convert_84 rfl (lv_at hl 0 rfl) ?_
          refine z_iload_n S (pc := 85) dX8_convert_85 rfl (lv_at hl 2 rfl) ?_
          refine z_ineg S (pc := 86) dX8_convert_86 ?_
          refine z_i2l S (pc := 87) (by omega) dX8_convert_87 ?_
          refine z_ldc2 S (pc := 88) (x := 1048576) (by decide +kernel) rfl dX8_convert_88 ?_
          refine z_lmul S (pc := 91) dX8_convert_91 ?_
          refine z_callV S (pc := 92) B (wr := []) (wn := fun _ => [cMod a p1 p2 p3 p4 p5 p6 pm (x + ((-q) * 1048576)) mo rd wr sm, cAt E p1 (up (up (pD σ (tm + d) pk d) 11 (tm + d + 1)) 20 (mx pk (x + ((-q) * 1048576)))) ρ]) (st1 := fun _ => []) (As := [.long (iL ((-q) * 1048576))]) (mX8_tick l E a p1 p2 p3 p4 p5 p6 (pD σ (tm + d) pk d) ρ pm x mo rd wr sm ((-q) * 1048576) (show -1000000000000 ≤ x ∧ x ≤ 1000000000000 from by omega) (show -1000000000000 ≤ ((-q) * 1048576) ∧ ((-q) * 1048576) ≤ 1000000000000 from by omega) (show 0 ≤ pk ∧ pk ≤ 2000000000000 from by omega)) gX8_convert_X8_tick 1 rfl (by decide +kernel) ⟨Nat.le_of_ble_eq_true rfl, Nat.le_of_ble_eq_true rfl, Nat.le_of_ble_eq_true rfl, Nat.le_of_ble_eq_true rfl⟩ 0 rfl (q := (RX8, TX8, 12)) rfl rfl [0, 1] [] [0, 1] rfl rfl ⟨rfl, rfl, rfl, by decide⟩ (fun _ => rfl) rfl (fun _ => rfl) hl.1 (Nat.le_of_ble_eq_true rfl) rfl dX8_convert_92 (fun _ _ H locs B => ?_)
          refine z_aload_n S (pc := 95) dX8_convert_95 rfl (lv_at hl 0 rfl) ?_
          refine z_get S (pc := 96) B iX8_convert_X8 0 rfl rfl 0 (by decide) rfl rfl (by decide +kernel) dX8_convert_96 ?_
          refine z_bipush S (pc := 99) dX8_convert_99 rfl ?_
          refine lv_dup2_11 S.1 S.2.1 (pc := 101) dX8_convert_101 rfl rfl ?_
          refine z_lald S (pc := 102) B 1 2 rfl rfl (k := 16) rfl (by decide) (by decide) (v := .long (iL d)) rfl dX8_convert_102 ?_
          refine z_lconst S (pc := 103) (x := 1) dX8_convert_103 rfl ?_
          refine z_ladd S (pc := 104) dX8_convert_104 ?_
          refine z_last S (pc := 105) B 1 2 rfl rfl (k := 16) rfl (by decide) (by decide) dX8_convert_105 (wn := [cMod a p1 p2 p3 p4 p5 p6 pm (x + ((-q) * 1048576)) mo rd wr sm, cAt E p1 (up (up (up (pD σ (tm + d) pk d) 11 (tm + d + 1)) 20 (mx pk (x + ((-q) * 1048576)))) 16 (d + 1)) ρ]) (by rw [lmu _ _ (by decide)]; rfl) (fun H locs B => ?_)
          refine lv_goto S.1 S.2.1 (pc := 106) (tgt := 48) dX8_convert_106 rfl ?_
          exact absurd hd (by omega)
  | succ n ih =>
    intro x pk d hb hp hd res hres hx H locs ls B hl
    have hsx := sg_c x
    refine z_iload_n S (pc := 48) dX8_convert_48 rfl (lv_at hl 2 rfl) ?_
    refine z_if_eq S (pc := 49) (tgt := 109) (by omega) dX8_convert_49 rfl (fun c1 => ?_) (fun c1 => ?_)
    · have hres : (x, pk, d) = res := by rw [← hres]; simp only [dnL]; rw [if_neg (fun z => by omega)]
      subst hres
      exact hx _ _ _ B (lv_sub hl [0, 1, 2] rfl)
    · refine z_aload_n S (pc := 52) dX8_convert_52 rfl (lv_at hl 0 rfl) ?_
      refine z_get S (pc := 53) B iX8_convert_X8 0 rfl rfl 6 (by decide) rfl rfl (by decide +kernel) dX8_convert_53 ?_
      refine z_callS S (pc := 56) B (wr := [cMod a p1 p2 p3 p4 p5 p6 pm x mo rd wr sm, cAt E p1 (pD σ (tm + d) pk d) ρ]) (wn := fun _ => [cMod a p1 p2 p3 p4 p5 p6 pm x mo rd wr sm, cAt E p1 (pD σ (tm + d) pk d) ρ]) (st1 := fun _ => [.int (iI (sg x))]) (As := [.long (iL x)]) (mX8_signOf l E x (show inL x from by omega)) gX8_convert_X8_signOf 1 rfl (by decide +kernel) ⟨Nat.le_of_ble_eq_true rfl, Nat.le_of_ble_eq_true rfl, Nat.le_of_ble_eq_true rfl, Nat.le_of_ble_eq_true rfl⟩ [] [0, 1] [0, 1] rfl rfl ⟨rfl, rfl, rfl, by decide⟩ (fun _ => rfl) rfl (fun _ => rfl) hl.1 (Nat.le_of_ble_eq_true rfl) rfl dX8_convert_56 (fun _ _ H locs B => ?_)
      refine z_iload_n S (pc := 59) dX8_convert_59 rfl (lv_at hl 2 rfl) ?_
      refine z_icmp_ne S (pc := 60) (tgt := 109) (by omega) (by omega) dX8_convert_60 rfl (fun c2 => ?_) (fun c2 => ?_)
      · have hres : (x, pk, d) = res := by rw [← hres]; simp only [dnL]; rw [if_neg (fun z => by omega)]
        subst hres
        exact hx _ _ _ B (lv_sub hl [0, 1, 2] rfl)
      · refine z_aload_n S (pc := 63) dX8_convert_63 rfl (lv_at hl 0 rfl) ?_
        refine z_get S (pc := 64) B iX8_convert_X8 0 rfl rfl 0 (by decide) rfl rfl (by decide +kernel) dX8_convert_64 ?_
        refine z_bipush S (pc := 67) dX8_convert_67 rfl ?_
        refine z_lald S (pc := 69) B 1 2 rfl rfl (k := 16) rfl (by decide) (by decide) (v := .long (iL d)) rfl dX8_convert_69 ?_
        refine z_ldc2 S (pc := 70) (x := 3) (by decide +kernel) rfl dX8_convert_70 ?_
        refine z_aload_n S (pc := 73) dX8_convert_73 rfl (lv_at hl 0 rfl) ?_
        refine z_get S (pc := 74) B iX8_convert_X8 0 rfl rfl 0 (by decide) rfl rfl (by decide +kernel) dX8_convert_74 ?_
        refine z_iconst S (pc := 77) dX8_convert_77 ?_
        refine z_lald S (pc := 78) B 1 2 rfl rfl (k := 5) rfl (by decide) (by decide) (v := .long (iL (σ 5))) rfl dX8_convert_78 ?_
        refine z_lmul S (pc := 79) dX8_convert_79 ?_
        refine z_lc_ge S (pc := 80) (tgt := 109) (by omega) (by omega) dX8_convert_80 dX8_convert_81 rfl (fun c3 => ?_) (fun c3 => ?_)
        · exact absurd c3 (by omega)
        · refine z_aload_n S (pc := 84) dX8_convert_84 rfl (lv_at hl 0 rfl) ?_
          refine z_iload_n S (pc := 85) dX8_convert_85 rfl (lv_at hl 2 rfl) ?_
          refine z_ineg S (pc := 86) dX8_convert_86 ?_
          refine z_i2l S (pc := 87) (by omega) dX8_convert_87 ?_
          refine z_ldc2 S (pc := 88) (x := 1048576) (by decide +kernel) rfl dX8_convert_88 ?_
          refine z_lmul S (pc := 91) dX8_convert_91 ?_
          refine z_callV S (pc := 92) B (wr := []) (wn := fun _ => [cMod a p1 p2 p3 p4 p5 p6 pm (x + ((-q) * 1048576)) mo rd wr sm, cAt E p1 (up (up (pD σ (tm + d) pk d) 11 (tm + d + 1)) 20 (mx pk (x + ((-q) * 1048576)))) ρ]) (st1 := fun _ => []) (As := [.long (iL ((-q) * 1048576))]) (mX8_tick l E a p1 p2 p3 p4 p5 p6 (pD σ (tm + d) pk d) ρ pm x mo rd wr sm ((-q) * 1048576) (show -1000000000000 ≤ x ∧ x ≤ 1000000000000 from by omega) (show -1000000000000 ≤ ((-q) * 1048576) ∧ ((-q) * 1048576) ≤ 1000000000000 from by omega) (show 0 ≤ pk ∧ pk ≤ 2000000000000 from by omega)) gX8_convert_X8_tick 1 rfl (by decide +kernel) ⟨Nat.le_of_ble_eq_true rfl, Nat.le_of_ble_eq_true rfl, Nat.le_of_ble_eq_true rfl, Nat.le_of_ble_eq_true rfl⟩ 0 rfl (q := (RX8, TX8, 12)) rfl rfl [0, 1] [] [0, 1] rfl rfl ⟨rfl, rfl, rfl, by decide⟩ (fun _ => rfl) rfl (fun _ => rfl) hl.1 (Nat.le_of_ble_eq_true rfl) rfl dX8_convert_92 (fun _ _ H locs B => ?_)
          refine z_aload_n S (pc := 95) dX8_convert_95 rfl (lv_at hl 0 rfl) ?_
          refine z_get S (pc := 96) B iX8_convert_X8 0 rfl rfl 0 (by decide) rfl rfl (by decide +kernel) dX8_convert_96 ?_
          refine z_bipush S (pc := 99) dX8_convert_99 rfl ?_
          refine lv_dup2_11 S.1 S.2.1 (pc := 101) dX8_convert_101 rfl rfl ?_
          refine z_lald S (pc := 102) B 1 2 rfl rfl (k := 16) rfl (by decide) (by decide) (v := .long (iL d)) rfl dX8_convert_102 ?_
          refine z_lconst S (pc := 103) (x := 1) dX8_convert_103 rfl ?_
          refine z_ladd S (pc := 104) dX8_convert_104 ?_
          refine z_last S (pc := 105) B 1 2 rfl rfl (k := 16) rfl (by decide) (by decide) dX8_convert_105 (wn := [cMod a p1 p2 p3 p4 p5 p6 pm (x + ((-q) * 1048576)) mo rd wr sm, cAt E p1 (up (up (up (pD σ (tm + d) pk d) 11 (tm + d + 1)) 20 (mx pk (x + ((-q) * 1048576)))) 16 (d + 1)) ρ]) (by rw [lmu _ _ (by decide)]; rfl) (fun H locs B => ?_)
          refine lv_goto S.1 S.2.1 (pc := 106) (tgt := 48) dX8_convert_106 rfl ?_
          rw [pD_s, show tm + d + 1 = tm + (d + 1) from by omega] at B
          have b1 := dn_st hq (by omega) (by omega) hb
          exact ih (x + ((-q) * 1048576)) (mx pk (x + ((-q) * 1048576))) (d + 1) (by omega) (mx_bd hp.1 hp.2 (by omega) (by omega)) (by omega) res (by rw [← hres]; simp only [dnL]; rw [if_pos ⟨by omega, by omega⟩]) hx _ _ _ B (lv_sub hl [0, 1, 2] rfl)
set_option maxHeartbeats 4000000 in
set_option maxRecDepth 100000 in
theorem lpX8_convert_f0 {p : Program} {l : Launch} {e : Env} {s : State} {m : MethodId} {args : Array Value} {below : List Frame} {meth : Method} {c : Code} {Q : State → Prop} {A : Nat → Prop} (E : gT) (S : CallFix p m c cX8_convert 3 s args wsX8_convert RX8) (a : Nat) (p1 : Nat) (p2 : Nat) (p3 : Nat) (p4 : Nat) (p5 : Nat) (p6 : Nat) (σ : Nat → Int) (ρ : Nat → Int) (pm : Int) (rd : Int) (wr : Int) (sm : Int) (q : Int) (tm : Int) (hq : q = 0 ∨ q = 1 ∨ q = -1) (hw : 4 ≤ σ 5 ∧ σ 5 ≤ 400) (htm : 0 ≤ tm ∧ tm ≤ 2147400000) :
    ∀ (n : Nat) (x : Int) (pk : Int) (f : Int) (hb : -1677721600 ≤ x ∧ x ≤ 1677721600) (hp : 0 ≤ pk ∧ pk ≤ 1677721600) (hd : 0 ≤ f ∧ f + (n : Int) = 16) (hv : (q = 0 → x = 0) ∧ (q = 1 → -(65536 * (n : Int)) < x) ∧ (q = -1 → x < 65536 * (n : Int))) (res : Int × Int × Int) (hres : fnL n q x pk f = res) (hx : ∀  (H : Heap) (locs : List Loc) (ls : Array Slot), bw E A s H locs [cMod a p1 p2 p3 p4 p5 p6 pm res.1 0 rd wr sm, cAt E p1 (pF σ (tm + res.2.2) res.2.1 res.2.2) ρ] → lv_has ls 3 [(0, .ref a), (1, .int (iI 0)), (2, .int (iI q))] → W p l e ({ frames := 3, cells := 0, slots := 0, locals := 72 } : Room) s m args below meth c H locs 0 0 Q (F0 m 184 ls [])) (H : Heap) (locs : List Loc) (ls : Array Slot) (B : bw E A s H locs [cMod a p1 p2 p3 p4 p5 p6 pm x 0 rd wr sm, cAt E p1 (pF σ (tm + f) pk f) ρ]) (hl : lv_has ls 3 [(0, .ref a), (1, .int (iI 0)), (2, .int (iI q))]), W p l e ({ frames := 3, cells := 0, slots := 0, locals := 72 } : Room) s m args below meth c H locs 0 0 Q (F0 m 133 ls []) := by
  intro n
  induction n with
  | zero =>
    intro x pk f hb hp hd hv res hres hx H locs ls B hl
    have hsx := sg_c x
    refine z_aload_n S (pc := 133) dX8_convert_133 rfl (lv_at hl 0 rfl) ?_
    refine z_get S (pc := 134) B iX8_convert_X8 0 rfl rfl 7 (by decide) rfl rfl (by decide +kernel) dX8_convert_134 ?_
    refine z_if_ne S (pc := 137) (tgt := 184) (by omega) dX8_convert_137 rfl (fun c1 => absurd c1 (by omega)) (fun c1 => ?_)
    refine z_aload_n S (pc := 140) dX8_convert_140 rfl (lv_at hl 0 rfl) ?_
    refine z_get S (pc := 141) B iX8_convert_X8 0 rfl rfl 6 (by decide) rfl rfl (by decide +kernel) dX8_convert_141 ?_
    refine z_lconst S (pc := 144) (x := 0) dX8_convert_144 rfl ?_
    refine z_lc_eq S (pc := 145) (tgt := 184) (by omega) (by omega) dX8_convert_145 dX8_convert_146 rfl (fun c2 => ?_) (fun c2 => ?_)
    · subst hres
      exact hx _ _ _ B (lv_sub hl [0, 1, 2] rfl)
    · refine z_aload_n S (pc := 149) dX8_convert_149 rfl (lv_at hl 0 rfl) ?_
      refine z_get S (pc := 150) B iX8_convert_X8 0 rfl rfl 6 (by decide) rfl rfl (by decide +kernel) dX8_convert_150 ?_
      refine z_callS S (pc := 153) B (wr := [cMod a p1 p2 p3 p4 p5 p6 pm x 0 rd wr sm, cAt E p1 (pF σ (tm + f) pk f) ρ]) (wn := fun _ => [cMod a p1 p2 p3 p4 p5 p6 pm x 0 rd wr sm, cAt E p1 (pF σ (tm + f) pk f) ρ]) (st1 := fun _ => [.int (iI (sg x))]) (As := [.long (iL x)]) (mX8_signOf l E x (show inL x from by omega)) gX8_convert_X8_signOf 1 rfl (by decide +kernel) ⟨Nat.le_of_ble_eq_true rfl, Nat.le_of_ble_eq_true rfl, Nat.le_of_ble_eq_true rfl, Nat.le_of_ble_eq_true rfl⟩ [] [0, 1] [0, 1] rfl rfl ⟨rfl, rfl, rfl, by decide⟩ (fun _ => rfl) rfl (fun _ => rfl) hl.1 (Nat.le_of_ble_eq_true rfl) rfl dX8_convert_153 (fun _ _ H locs B => ?_)
      refine z_iload_n S (pc := 156) dX8_convert_156 rfl (lv_at hl 2 rfl) ?_
      refine z_icmp_eq S (pc := 157) (tgt := 184) (by omega) (by omega) dX8_convert_157 rfl (fun c3 => ?_) (fun c3 => ?_)
      · subst hres
        exact hx _ _ _ B (lv_sub hl [0, 1, 2] rfl)
      · refine z_aload_n S (pc := 160) dX8_convert_160 rfl (lv_at hl 0 rfl) ?_
        refine z_iload_n S (pc := 161) dX8_convert_161 rfl (lv_at hl 2 rfl) ?_
        refine z_i2l S (pc := 162) (by omega) dX8_convert_162 ?_
        refine z_ldc2 S (pc := 163) (x := 65536) (by decide +kernel) rfl dX8_convert_163 ?_
        refine z_lmul S (pc := 166) dX8_convert_166 ?_
        refine z_callV S (pc := 167) B (wr := []) (wn := fun _ => [cMod a p1 p2 p3 p4 p5 p6 pm (x + (q * 65536)) 0 rd wr sm, cAt E p1 (up (up (pF σ (tm + f) pk f) 11 (tm + f + 1)) 20 (mx pk (x + (q * 65536)))) ρ]) (st1 := fun _ => []) (As := [.long (iL (q * 65536))]) (mX8_tick l E a p1 p2 p3 p4 p5 p6 (pF σ (tm + f) pk f) ρ pm x 0 rd wr sm (q * 65536) (show -1000000000000 ≤ x ∧ x ≤ 1000000000000 from by omega) (show -1000000000000 ≤ (q * 65536) ∧ (q * 65536) ≤ 1000000000000 from by omega) (show 0 ≤ pk ∧ pk ≤ 2000000000000 from by omega)) gX8_convert_X8_tick 1 rfl (by decide +kernel) ⟨Nat.le_of_ble_eq_true rfl, Nat.le_of_ble_eq_true rfl, Nat.le_of_ble_eq_true rfl, Nat.le_of_ble_eq_true rfl⟩ 0 rfl (q := (RX8, TX8, 12)) rfl rfl [0, 1] [] [0, 1] rfl rfl ⟨rfl, rfl, rfl, by decide⟩ (fun _ => rfl) rfl (fun _ => rfl) hl.1 (Nat.le_of_ble_eq_true rfl) rfl dX8_convert_167 (fun _ _ H locs B => ?_)
        refine z_aload_n S (pc := 170) dX8_convert_170 rfl (lv_at hl 0 rfl) ?_
        refine z_get S (pc := 171) B iX8_convert_X8 0 rfl rfl 0 (by decide) rfl rfl (by decide +kernel) dX8_convert_171 ?_
        refine z_bipush S (pc := 174) dX8_convert_174 rfl ?_
        refine lv_dup2_11 S.1 S.2.1 (pc := 176) dX8_convert_176 rfl rfl ?_
        refine z_lald S (pc := 177) B 1 2 rfl rfl (k := 17) rfl (by decide) (by decide) (v := .long (iL f)) rfl dX8_convert_177 ?_
        refine z_lconst S (pc := 178) (x := 1) dX8_convert_178 rfl ?_
        refine z_ladd S (pc := 179) dX8_convert_179 ?_
        refine z_last S (pc := 180) B 1 2 rfl rfl (k := 17) rfl (by decide) (by decide) dX8_convert_180 (wn := [cMod a p1 p2 p3 p4 p5 p6 pm (x + (q * 65536)) 0 rd wr sm, cAt E p1 (up (up (up (pF σ (tm + f) pk f) 11 (tm + f + 1)) 20 (mx pk (x + (q * 65536)))) 17 (f + 1)) ρ]) (by rw [lmu _ _ (by decide)]; rfl) (fun H locs B => ?_)
        refine lv_goto S.1 S.2.1 (pc := 181) (tgt := 133) dX8_convert_181 rfl ?_
        exact absurd hv (by omega)
  | succ n ih =>
    intro x pk f hb hp hd hv res hres hx H locs ls B hl
    have hsx := sg_c x
    refine z_aload_n S (pc := 133) dX8_convert_133 rfl (lv_at hl 0 rfl) ?_
    refine z_get S (pc := 134) B iX8_convert_X8 0 rfl rfl 7 (by decide) rfl rfl (by decide +kernel) dX8_convert_134 ?_
    refine z_if_ne S (pc := 137) (tgt := 184) (by omega) dX8_convert_137 rfl (fun c1 => absurd c1 (by omega)) (fun c1 => ?_)
    refine z_aload_n S (pc := 140) dX8_convert_140 rfl (lv_at hl 0 rfl) ?_
    refine z_get S (pc := 141) B iX8_convert_X8 0 rfl rfl 6 (by decide) rfl rfl (by decide +kernel) dX8_convert_141 ?_
    refine z_lconst S (pc := 144) (x := 0) dX8_convert_144 rfl ?_
    refine z_lc_eq S (pc := 145) (tgt := 184) (by omega) (by omega) dX8_convert_145 dX8_convert_146 rfl (fun c2 => ?_) (fun c2 => ?_)
    · have hres : (x, pk, f) = res := by rw [← hres]; simp only [fnL]; rw [if_neg (fun z => by omega)]
      subst hres
      exact hx _ _ _ B (lv_sub hl [0, 1, 2] rfl)
    · refine z_aload_n S (pc := 149) dX8_convert_149 rfl (lv_at hl 0 rfl) ?_
      refine z_get S (pc := 150) B iX8_convert_X8 0 rfl rfl 6 (by decide) rfl rfl (by decide +kernel) dX8_convert_150 ?_
      refine z_callS S (pc := 153) B (wr := [cMod a p1 p2 p3 p4 p5 p6 pm x 0 rd wr sm, cAt E p1 (pF σ (tm + f) pk f) ρ]) (wn := fun _ => [cMod a p1 p2 p3 p4 p5 p6 pm x 0 rd wr sm, cAt E p1 (pF σ (tm + f) pk f) ρ]) (st1 := fun _ => [.int (iI (sg x))]) (As := [.long (iL x)]) (mX8_signOf l E x (show inL x from by omega)) gX8_convert_X8_signOf 1 rfl (by decide +kernel) ⟨Nat.le_of_ble_eq_true rfl, Nat.le_of_ble_eq_true rfl, Nat.le_of_ble_eq_true rfl, Nat.le_of_ble_eq_true rfl⟩ [] [0, 1] [0, 1] rfl rfl ⟨rfl, rfl, rfl, by decide⟩ (fun _ => rfl) rfl (fun _ => rfl) hl.1 (Nat.le_of_ble_eq_true rfl) rfl dX8_convert_153 (fun _ _ H locs B => ?_)
      refine z_iload_n S (pc := 156) dX8_convert_156 rfl (lv_at hl 2 rfl) ?_
      refine z_icmp_eq S (pc := 157) (tgt := 184) (by omega) (by omega) dX8_convert_157 rfl (fun c3 => ?_) (fun c3 => ?_)
      · have hres : (x, pk, f) = res := by rw [← hres]; simp only [fnL]; rw [if_neg (fun z => by omega)]
        subst hres
        exact hx _ _ _ B (lv_sub hl [0, 1, 2] rfl)
      · refine z_aload_n S (pc := 160) dX8_convert_160 rfl (lv_at hl 0 rfl) ?_
        refine z_iload_n S (pc := 161) dX8_convert_161 rfl (lv_at hl 2 rfl) ?_
        refine z_i2l S (pc := 162) (by omega) dX8_convert_162 ?_
        refine z_ldc2 S (pc := 163) (x := 65536) (by decide +kernel) rfl dX8_convert_163 ?_
        refine z_lmul S (pc := 166) dX8_convert_166 ?_
        refine z_callV S (pc := 167) B (wr := []) (wn := fun _ => [cMod a p1 p2 p3 p4 p5 p6 pm (x + (q * 65536)) 0 rd wr sm, cAt E p1 (up (up (pF σ (tm + f) pk f) 11 (tm + f + 1)) 20 (mx pk (x + (q * 65536)))) ρ]) (st1 := fun _ => []) (As := [.long (iL (q * 65536))]) (mX8_tick l E a p1 p2 p3 p4 p5 p6 (pF σ (tm + f) pk f) ρ pm x 0 rd wr sm (q * 65536) (show -1000000000000 ≤ x ∧ x ≤ 1000000000000 from by omega) (show -1000000000000 ≤ (q * 65536) ∧ (q * 65536) ≤ 1000000000000 from by omega) (show 0 ≤ pk ∧ pk ≤ 2000000000000 from by omega)) gX8_convert_X8_tick 1 rfl (by decide +kernel) ⟨Nat.le_of_ble_eq_true rfl, Nat.le_of_ble_eq_true rfl, Nat.le_of_ble_eq_true rfl, Nat.le_of_ble_eq_true rfl⟩ 0 rfl (q := (RX8, TX8, 12)) rfl rfl [0, 1] [] [0, 1] rfl rfl ⟨rfl, rfl, rfl, by decide⟩ (fun _ => rfl) rfl (fun _ => rfl) hl.1 (Nat.le_of_ble_eq_true rfl) rfl dX8_convert_167 (fun _ _ H locs B => ?_)
        refine z_aload_n S (pc := 170) dX8_convert_170 rfl (lv_at hl 0 rfl) ?_
        refine z_get S (pc := 171) B iX8_convert_X8 0 rfl rfl 0 (by decide) rfl rfl (by decide +kernel) dX8_convert_171 ?_
        refine z_bipush S (pc := 174) dX8_convert_174 rfl ?_
        refine lv_dup2_11 S.1 S.2.1 (pc := 176) dX8_convert_176 rfl rfl ?_
        refine z_lald S (pc := 177) B 1 2 rfl rfl (k := 17) rfl (by decide) (by decide) (v := .long (iL f)) rfl dX8_convert_177 ?_
        refine z_lconst S (pc := 178) (x := 1) dX8_convert_178 rfl ?_
        refine z_ladd S (pc := 179) dX8_convert_179 ?_
        refine z_last S (pc := 180) B 1 2 rfl rfl (k := 17) rfl (by decide) (by decide) dX8_convert_180 (wn := [cMod a p1 p2 p3 p4 p5 p6 pm (x + (q * 65536)) 0 rd wr sm, cAt E p1 (up (up (up (pF σ (tm + f) pk f) 11 (tm + f + 1)) 20 (mx pk (x + (q * 65536)))) 17 (f + 1)) ρ]) (by rw [lmu _ _ (by decide)]; rfl) (fun H locs B => ?_)
        refine lv_goto S.1 S.2.1 (pc := 181) (tgt := 133) dX8_convert_181 rfl ?_
        rw [pF_s, show tm + f + 1 = tm + (f + 1) from by omega] at B
        have ex : x + (q * 65536) = x + q * 65536 := rfl
        have hb2 : -1677721600 ≤ x + q * 65536 ∧ x + q * 65536 ≤ 1677721600 := by rcases hq with h | h | h <;> subst h <;> omega
        exact ih (x + (q * 65536)) (mx pk (x + (q * 65536))) (f + 1) (by omega) (mx_bd hp.1 hp.2 (by omega) (by omega)) (by omega) (by rcases hq with h | h | h <;> subst h <;> omega) res (by rw [← hres]; simp only [fnL]; rw [if_pos ⟨by omega, by omega⟩]) hx _ _ _ B (lv_sub hl [0, 1, 2] rfl)
set_option maxHeartbeats 4000000 in
set_option maxRecDepth 100000 in
theorem lpX8_convert_f1 {p : Program} {l : Launch} {e : Env} {s : State} {m : MethodId} {args : Array Value} {below : List Frame} {meth : Method} {c : Code} {Q : State → Prop} {A : Nat → Prop} (E : gT) (S : CallFix p m c cX8_convert 3 s args wsX8_convert RX8) (a : Nat) (p1 : Nat) (p2 : Nat) (p3 : Nat) (p4 : Nat) (p5 : Nat) (p6 : Nat) (σ : Nat → Int) (ρ : Nat → Int) (pm : Int) (rd : Int) (wr : Int) (sm : Int) (q : Int) (tm : Int) (hq : q = 0 ∨ q = 1 ∨ q = -1) (hw : 4 ≤ σ 5 ∧ σ 5 ≤ 400) (htm : 0 ≤ tm ∧ tm ≤ 2147400000) :
    ∀ (n : Nat) (x : Int) (pk : Int) (f : Int) (hb : -1677721600 ≤ x ∧ x ≤ 1677721600) (hp : 0 ≤ pk ∧ pk ≤ 1677721600) (hd : 0 ≤ f ∧ f + (n : Int) = 16) (hv : (q = 0 → x = 0) ∧ (q = 1 → -(65536 * (n : Int)) < x) ∧ (q = -1 → x < 65536 * (n : Int))) (res : Int × Int × Int) (hres : fnL n q x pk f = res) (hx : ∀  (H : Heap) (locs : List Loc) (ls : Array Slot), bw E A s H locs [cMod a p1 p2 p3 p4 p5 p6 pm res.1 0 rd wr sm, cAt E p1 (pF σ (tm + res.2.2) res.2.1 res.2.2) ρ] → lv_has ls 3 [(0, .ref a), (1, .int (iI 1)), (2, .int (iI q))] → W p l e ({ frames := 3, cells := 0, slots := 0, locals := 72 } : Room) s m args below meth c H locs 0 0 Q (F0 m 184 ls [])) (H : Heap) (locs : List Loc) (ls : Array Slot) (B : bw E A s H locs [cMod a p1 p2 p3 p4 p5 p6 pm x 0 rd wr sm, cAt E p1 (pF σ (tm + f) pk f) ρ]) (hl : lv_has ls 3 [(0, .ref a), (1, .int (iI 1)), (2, .int (iI q))]), W p l e ({ frames := 3, cells := 0, slots := 0, locals := 72 } : Room) s m args below meth c H locs 0 0 Q (F0 m 133 ls []) := by
  intro n
  induction n with
  | zero =>
    intro x pk f hb hp hd hv res hres hx H locs ls B hl
    have hsx := sg_c x
    refine z_aload_n S (pc := 133) dX8_convert_133 rfl (lv_at hl 0 rfl) ?_
    refine z_get S (pc := 134) B iX8_convert_X8 0 rfl rfl 7 (by decide) rfl rfl (by decide +kernel) dX8_convert_134 ?_
    refine z_if_ne S (pc := 137) (tgt := 184) (by omega) dX8_convert_137 rfl (fun c1 => absurd c1 (by omega)) (fun c1 => ?_)
    refine z_aload_n S (pc := 140) dX8_convert_140 rfl (lv_at hl 0 rfl) ?_
    refine z_get S (pc := 141) B iX8_convert_X8 0 rfl rfl 6 (by decide) rfl rfl (by decide +kernel) dX8_convert_141 ?_
    refine z_lconst S (pc := 144) (x := 0) dX8_convert_144 rfl ?_
    refine z_lc_eq S (pc := 145) (tgt := 184) (by omega) (by omega) dX8_convert_145 dX8_convert_146 rfl (fun c2 => ?_) (fun c2 => ?_)
    · subst hres
      exact hx _ _ _ B (lv_sub hl [0, 1, 2] rfl)
    · refine z_aload_n S (pc := 149) dX8_convert_149 rfl (lv_at hl 0 rfl) ?_
      refine z_get S (pc := 150) B iX8_convert_X8 0 rfl rfl 6 (by decide) rfl rfl (by decide +kernel) dX8_convert_150 ?_
      refine z_callS S (pc := 153) B (wr := [cMod a p1 p2 p3 p4 p5 p6 pm x 0 rd wr sm, cAt E p1 (pF σ (tm + f) pk f) ρ]) (wn := fun _ => [cMod a p1 p2 p3 p4 p5 p6 pm x 0 rd wr sm, cAt E p1 (pF σ (tm + f) pk f) ρ]) (st1 := fun _ => [.int (iI (sg x))]) (As := [.long (iL x)]) (mX8_signOf l E x (show inL x from by omega)) gX8_convert_X8_signOf 1 rfl (by decide +kernel) ⟨Nat.le_of_ble_eq_true rfl, Nat.le_of_ble_eq_true rfl, Nat.le_of_ble_eq_true rfl, Nat.le_of_ble_eq_true rfl⟩ [] [0, 1] [0, 1] rfl rfl ⟨rfl, rfl, rfl, by decide⟩ (fun _ => rfl) rfl (fun _ => rfl) hl.1 (Nat.le_of_ble_eq_true rfl) rfl dX8_convert_153 (fun _ _ H locs B => ?_)
      refine z_iload_n S (pc := 156) dX8_convert_156 rfl (lv_at hl 2 rfl) ?_
      refine z_icmp_eq S (pc := 157) (tgt := 184) (by omega) (by omega) dX8_convert_157 rfl (fun c3 => ?_) (fun c3 => ?_)
      · subst hres
        exact hx _ _ _ B (lv_sub hl [0, 1, 2] rfl)
      · refine z_aload_n S (pc := 160) dX8_convert_160 rfl (lv_at hl 0 rfl) ?_
        refine z_iload_n S (pc := 161) dX8_convert_161 rfl (lv_at hl 2 rfl) ?_
        refine z_i2l S (pc := 162) (by omega) dX8_convert_162 ?_
        refine z_ldc2 S (pc := 163) (x := 65536) (by decide +kernel) rfl dX8_convert_163 ?_
        refine z_lmul S (pc := 166) dX8_convert_166 ?_
        refine z_callV S (pc := 167) B (wr := []) (wn := fun _ => [cMod a p1 p2 p3 p4 p5 p6 pm (x + (q * 65536)) 0 rd wr sm, cAt E p1 (up (up (pF σ (tm + f) pk f) 11 (tm + f + 1)) 20 (mx pk (x + (q * 65536)))) ρ]) (st1 := fun _ => []) (As := [.long (iL (q * 65536))]) (mX8_tick l E a p1 p2 p3 p4 p5 p6 (pF σ (tm + f) pk f) ρ pm x 0 rd wr sm (q * 65536) (show -1000000000000 ≤ x ∧ x ≤ 1000000000000 from by omega) (show -1000000000000 ≤ (q * 65536) ∧ (q * 65536) ≤ 1000000000000 from by omega) (show 0 ≤ pk ∧ pk ≤ 2000000000000 from by omega)) gX8_convert_X8_tick 1 rfl (by decide +kernel) ⟨Nat.le_of_ble_eq_true rfl, Nat.le_of_ble_eq_true rfl, Nat.le_of_ble_eq_true rfl, Nat.le_of_ble_eq_true rfl⟩ 0 rfl (q := (RX8, TX8, 12)) rfl rfl [0, 1] [] [0, 1] rfl rfl ⟨rfl, rfl, rfl, by decide⟩ (fun _ => rfl) rfl (fun _ => rfl) hl.1 (Nat.le_of_ble_eq_true rfl) rfl dX8_convert_167 (fun _ _ H locs B => ?_)
        refine z_aload_n S (pc := 170) dX8_convert_170 rfl (lv_at hl 0 rfl) ?_
        refine z_get S (pc := 171) B iX8_convert_X8 0 rfl rfl 0 (by decide) rfl rfl (by decide +kernel) dX8_convert_171 ?_
        refine z_bipush S (pc := 174) dX8_convert_174 rfl ?_
        refine lv_dup2_11 S.1 S.2.1 (pc := 176) dX8_convert_176 rfl rfl ?_
        refine z_lald S (pc := 177) B 1 2 rfl rfl (k := 17) rfl (by decide) (by decide) (v := .long (iL f)) rfl dX8_convert_177 ?_
        refine z_lconst S (pc := 178) (x := 1) dX8_convert_178 rfl ?_
        refine z_ladd S (pc := 179) dX8_convert_179 ?_
        refine z_last S (pc := 180) B 1 2 rfl rfl (k := 17) rfl (by decide) (by decide) dX8_convert_180 (wn := [cMod a p1 p2 p3 p4 p5 p6 pm (x + (q * 65536)) 0 rd wr sm, cAt E p1 (up (up (up (pF σ (tm + f) pk f) 11 (tm + f + 1)) 20 (mx pk (x + (q * 65536)))) 17 (f + 1)) ρ]) (by rw [lmu _ _ (by decide)]; rfl) (fun H locs B => ?_)
        refine lv_goto S.1 S.2.1 (pc := 181) (tgt := 133) dX8_convert_181 rfl ?_
        exact absurd hv (by omega)
  | succ n ih =>
    intro x pk f hb hp hd hv res hres hx H locs ls B hl
    have hsx := sg_c x
    refine z_aload_n S (pc := 133) dX8_convert_133 rfl (lv_at hl 0 rfl) ?_
    refine z_get S (pc := 134) B iX8_convert_X8 0 rfl rfl 7 (by decide) rfl rfl (by decide +kernel) dX8_convert_134 ?_
    refine z_if_ne S (pc := 137) (tgt := 184) (by omega) dX8_convert_137 rfl (fun c1 => absurd c1 (by omega)) (fun c1 => ?_)
    refine z_aload_n S (pc := 140) dX8_convert_140 rfl (lv_at hl 0 rfl) ?_
    refine z_get S (pc := 141) B iX8_convert_X8 0 rfl rfl 6 (by decide) rfl rfl (by decide +kernel) dX8_convert_141 ?_
    refine z_lconst S (pc := 144) (x := 0) dX8_convert_144 rfl ?_
    refine z_lc_eq S (pc := 145) (tgt := 184) (by omega) (by omega) dX8_convert_145 dX8_convert_146 rfl (fun c2 => ?_) (fun c2 => ?_)
    · have hres : (x, pk, f) = res := by rw [← hres]; simp only [fnL]; rw [if_neg (fun z => by omega)]
      subst hres
      exact hx _ _ _ B (lv_sub hl [0, 1, 2] rfl)
    · refine z_aload_n S (pc := 149) dX8_convert_149 rfl (lv_at hl 0 rfl) ?_
      refine z_get S (pc := 150) B iX8_convert_X8 0 rfl rfl 6 (by decide) rfl rfl (by decide +kernel) dX8_convert_150 ?_
      refine z_callS S (pc := 153) B (wr := [cMod a p1 p2 p3 p4 p5 p6 pm x 0 rd wr sm, cAt E p1 (pF σ (tm + f) pk f) ρ]) (wn := fun _ => [cMod a p1 p2 p3 p4 p5 p6 pm x 0 rd wr sm, cAt E p1 (pF σ (tm + f) pk f) ρ]) (st1 := fun _ => [.int (iI (sg x))]) (As := [.long (iL x)]) (mX8_signOf l E x (show inL x from by omega)) gX8_convert_X8_signOf 1 rfl (by decide +kernel) ⟨Nat.le_of_ble_eq_true rfl, Nat.le_of_ble_eq_true rfl, Nat.le_of_ble_eq_true rfl, Nat.le_of_ble_eq_true rfl⟩ [] [0, 1] [0, 1] rfl rfl ⟨rfl, rfl, rfl, by decide⟩ (fun _ => rfl) rfl (fun _ => rfl) hl.1 (Nat.le_of_ble_eq_true rfl) rfl dX8_convert_153 (fun _ _ H locs B => ?_)
      refine z_iload_n S (pc := 156) dX8_convert_156 rfl (lv_at hl 2 rfl) ?_
      refine z_icmp_eq S (pc := 157) (tgt := 184) (by omega) (by omega) dX8_convert_157 rfl (fun c3 => ?_) (fun c3 => ?_)
      · have hres : (x, pk, f) = res := by rw [← hres]; simp only [fnL]; rw [if_neg (fun z => by omega)]
        subst hres
        exact hx _ _ _ B (lv_sub hl [0, 1, 2] rfl)
      · refine z_aload_n S (pc := 160) dX8_convert_160 rfl (lv_at hl 0 rfl) ?_
        refine z_iload_n S (pc := 161) dX8_convert_161 rfl (lv_at hl 2 rfl) ?_
        refine z_i2l S (pc := 162) (by omega) dX8_convert_162 ?_
        refine z_ldc2 S (pc := 163) (x := 65536) (by decide +kernel) rfl dX8_convert_163 ?_
        refine z_lmul S (pc := 166) dX8_convert_166 ?_
        refine z_callV S (pc := 167) B (wr := []) (wn := fun _ => [cMod a p1 p2 p3 p4 p5 p6 pm (x + (q * 65536)) 0 rd wr sm, cAt E p1 (up (up (pF σ (tm + f) pk f) 11 (tm + f + 1)) 20 (mx pk (x + (q * 65536)))) ρ]) (st1 := fun _ => []) (As := [.long (iL (q * 65536))]) (mX8_tick l E a p1 p2 p3 p4 p5 p6 (pF σ (tm + f) pk f) ρ pm x 0 rd wr sm (q * 65536) (show -1000000000000 ≤ x ∧ x ≤ 1000000000000 from by omega) (show -1000000000000 ≤ (q * 65536) ∧ (q * 65536) ≤ 1000000000000 from by omega) (show 0 ≤ pk ∧ pk ≤ 2000000000000 from by omega)) gX8_convert_X8_tick 1 rfl (by decide +kernel) ⟨Nat.le_of_ble_eq_true rfl, Nat.le_of_ble_eq_true rfl, Nat.le_of_ble_eq_true rfl, Nat.le_of_ble_eq_true rfl⟩ 0 rfl (q := (RX8, TX8, 12)) rfl rfl [0, 1] [] [0, 1] rfl rfl ⟨rfl, rfl, rfl, by decide⟩ (fun _ => rfl) rfl (fun _ => rfl) hl.1 (Nat.le_of_ble_eq_true rfl) rfl dX8_convert_167 (fun _ _ H locs B => ?_)
        refine z_aload_n S (pc := 170) dX8_convert_170 rfl (lv_at hl 0 rfl) ?_
        refine z_get S (pc := 171) B iX8_convert_X8 0 rfl rfl 0 (by decide) rfl rfl (by decide +kernel) dX8_convert_171 ?_
        refine z_bipush S (pc := 174) dX8_convert_174 rfl ?_
        refine lv_dup2_11 S.1 S.2.1 (pc := 176) dX8_convert_176 rfl rfl ?_
        refine z_lald S (pc := 177) B 1 2 rfl rfl (k := 17) rfl (by decide) (by decide) (v := .long (iL f)) rfl dX8_convert_177 ?_
        refine z_lconst S (pc := 178) (x := 1) dX8_convert_178 rfl ?_
        refine z_ladd S (pc := 179) dX8_convert_179 ?_
        refine z_last S (pc := 180) B 1 2 rfl rfl (k := 17) rfl (by decide) (by decide) dX8_convert_180 (wn := [cMod a p1 p2 p3 p4 p5 p6 pm (x + (q * 65536)) 0 rd wr sm, cAt E p1 (up (up (up (pF σ (tm + f) pk f) 11 (tm + f + 1)) 20 (mx pk (x + (q * 65536)))) 17 (f + 1)) ρ]) (by rw [lmu _ _ (by decide)]; rfl) (fun H locs B => ?_)
        refine lv_goto S.1 S.2.1 (pc := 181) (tgt := 133) dX8_convert_181 rfl ?_
        rw [pF_s, show tm + f + 1 = tm + (f + 1) from by omega] at B
        have ex : x + (q * 65536) = x + q * 65536 := rfl
        have hb2 : -1677721600 ≤ x + q * 65536 ∧ x + q * 65536 ≤ 1677721600 := by rcases hq with h | h | h <;> subst h <;> omega
        exact ih (x + (q * 65536)) (mx pk (x + (q * 65536))) (f + 1) (by omega) (mx_bd hp.1 hp.2 (by omega) (by omega)) (by omega) (by rcases hq with h | h | h <;> subst h <;> omega) res (by rw [← hres]; simp only [fnL]; rw [if_pos ⟨by omega, by omega⟩]) hx _ _ _ B (lv_sub hl [0, 1, 2] rfl)
set_option maxHeartbeats 4000000 in
set_option maxRecDepth 100000 in
theorem mX8_convert_0 (l : Launch) (E : gT) (a : Nat) (p1 : Nat) (p2 : Nat) (p3 : Nat) (p4 : Nat) (p5 : Nat) (p6 : Nat) (σ : Nat → Int) (ρ : Nat → Int) (pm : Int) (ig : Int) (mo : Int) (rd : Int) (wr : Int) (sm : Int) (hs : Sets σ) (h11 : 0 ≤ σ 11 ∧ σ 11 ≤ 2100000000) : Cd l E yX8_convert wsX8_convert 3 72 0 0 [.ref a, .int (iI 0)] [cMod a p1 p2 p3 p4 p5 p6 pm ig mo rd wr sm, cAt E p1 σ ρ] none [cMod a p1 p2 p3 p4 p5 p6 pm ((cvF σ (gn (σ 10))).1) (ovr σ (gn (σ 10))) rd wr sm, cAt E p1 (cvt σ (gn (σ 10))) ρ] := by
  refine Ct.mk (cc := cX8_convert) (maxL := 3) (ret := none) (plainFor_of_name (by decide)) rfl (Nat.le_of_ble_eq_true rfl) ?_
  intro p e s m below meth c A ls H locs S hr hlk hnm B hl
  have S : CallFix p m c cX8_convert 3 s #[.ref a, .int (iI 0)] wsX8_convert RX8 := S
  have hl : lv_has ls 3 [(0, .ref a), (1, .int (iI 0))] := hl
  obtain ⟨h0, h1, h2, h3, h4, h5, h6, h7, h8, h9, h10⟩ := id hs
  refine z_bipush S (pc := 0) dX8_convert_0 rfl ?_
  refine lv_istore_n (lv' := [(2, .int (iI 15)), (0, .ref a), (1, .int (iI 0))]) S.1 S.2.1 (pc := 2) dX8_convert_2 rfl hl (by decide) rfl (fun ls hl => ?_)
  refine z_iload_n S (pc := 3) dX8_convert_3 rfl (lv_at hl 0 rfl) ?_
  refine z_bipush S (pc := 4) dX8_convert_4 rfl ?_
  refine z_icmp_ge S (pc := 6) (tgt := 22) (by omega) (by omega) dX8_convert_6 rfl (fun c1 => absurd c1 (by omega)) (fun c1 => ?_)
  refine z_aload_n S (pc := 9) dX8_convert_9 rfl (lv_at hl 1 rfl) ?_
  refine z_get S (pc := 10) B iX8_convert_X8 0 rfl rfl 0 (by decide) rfl rfl (by decide +kernel) dX8_convert_10 ?_
  refine z_iload_n S (pc := 13) dX8_convert_13 rfl (lv_at hl 0 rfl) ?_
  refine z_lconst S (pc := 14) (x := 0) dX8_convert_14 rfl ?_
  refine z_last S (pc := 15) B 1 2 rfl rfl (k := 15) rfl (by decide) (by decide) dX8_convert_15 (wn := [cMod a p1 p2 p3 p4 p5 p6 pm ig mo rd wr sm, cAt E p1 (up σ 15 0) ρ]) (by rw [lmu _ _ (by decide)]; rfl) (fun H locs B => ?_)
  refine lv_iinc (v := iI (16)) (lv' := [(2, .int (iI 16)), (0, .ref a), (1, .int (iI 0))]) S.1 S.2.1 (pc := 16) dX8_convert_16 hl (k := 0) rfl (by decide) (by decide) rfl (fun ls hl => ?_)
  refine lv_goto S.1 S.2.1 (pc := 19) (tgt := 3) dX8_convert_19 rfl ?_
  refine z_iload_n S (pc := 3) dX8_convert_3 rfl (lv_at hl 0 rfl) ?_
  refine z_bipush S (pc := 4) dX8_convert_4 rfl ?_
  refine z_icmp_ge S (pc := 6) (tgt := 22) (by omega) (by omega) dX8_convert_6 rfl (fun c2 => absurd c2 (by omega)) (fun c2 => ?_)
  refine z_aload_n S (pc := 9) dX8_convert_9 rfl (lv_at hl 1 rfl) ?_
  refine z_get S (pc := 10) B iX8_convert_X8 0 rfl rfl 0 (by decide) rfl rfl (by decide +kernel) dX8_convert_10 ?_
  refine z_iload_n S (pc := 13) dX8_convert_13 rfl (lv_at hl 0 rfl) ?_
  refine z_lconst S (pc := 14) (x := 0) dX8_convert_14 rfl ?_
  refine z_last S (pc := 15) B 1 2 rfl rfl (k := 16) rfl (by decide) (by decide) dX8_convert_15 (wn := [cMod a p1 p2 p3 p4 p5 p6 pm ig mo rd wr sm, cAt E p1 (up (up σ 15 0) 16 0) ρ]) (by rw [lmu _ _ (by decide)]; rfl) (fun H locs B => ?_)
  refine lv_iinc (v := iI (17)) (lv' := [(2, .int (iI 17)), (0, .ref a), (1, .int (iI 0))]) S.1 S.2.1 (pc := 16) dX8_convert_16 hl (k := 0) rfl (by decide) (by decide) rfl (fun ls hl => ?_)
  refine lv_goto S.1 S.2.1 (pc := 19) (tgt := 3) dX8_convert_19 rfl ?_
  refine z_iload_n S (pc := 3) dX8_convert_3 rfl (lv_at hl 0 rfl) ?_
  refine z_bipush S (pc := 4) dX8_convert_4 rfl ?_
  refine z_icmp_ge S (pc := 6) (tgt := 22) (by omega) (by omega) dX8_convert_6 rfl (fun c3 => absurd c3 (by omega)) (fun c3 => ?_)
  refine z_aload_n S (pc := 9) dX8_convert_9 rfl (lv_at hl 1 rfl) ?_
  refine z_get S (pc := 10) B iX8_convert_X8 0 rfl rfl 0 (by decide) rfl rfl (by decide +kernel) dX8_convert_10 ?_
  refine z_iload_n S (pc := 13) dX8_convert_13 rfl (lv_at hl 0 rfl) ?_
  refine z_lconst S (pc := 14) (x := 0) dX8_convert_14 rfl ?_
  refine z_last S (pc := 15) B 1 2 rfl rfl (k := 17) rfl (by decide) (by decide) dX8_convert_15 (wn := [cMod a p1 p2 p3 p4 p5 p6 pm ig mo rd wr sm, cAt E p1 (up (up (up σ 15 0) 16 0) 17 0) ρ]) (by rw [lmu _ _ (by decide)]; rfl) (fun H locs B => ?_)
  refine lv_iinc (v := iI (18)) (lv' := [(2, .int (iI 18)), (0, .ref a), (1, .int (iI 0))]) S.1 S.2.1 (pc := 16) dX8_convert_16 hl (k := 0) rfl (by decide) (by decide) rfl (fun ls hl => ?_)
  refine lv_goto S.1 S.2.1 (pc := 19) (tgt := 3) dX8_convert_19 rfl ?_
  refine z_iload_n S (pc := 3) dX8_convert_3 rfl (lv_at hl 0 rfl) ?_
  refine z_bipush S (pc := 4) dX8_convert_4 rfl ?_
  refine z_icmp_ge S (pc := 6) (tgt := 22) (by omega) (by omega) dX8_convert_6 rfl (fun c4 => absurd c4 (by omega)) (fun c4 => ?_)
  refine z_aload_n S (pc := 9) dX8_convert_9 rfl (lv_at hl 1 rfl) ?_
  refine z_get S (pc := 10) B iX8_convert_X8 0 rfl rfl 0 (by decide) rfl rfl (by decide +kernel) dX8_convert_10 ?_
  refine z_iload_n S (pc := 13) dX8_convert_13 rfl (lv_at hl 0 rfl) ?_
  refine z_lconst S (pc := 14) (x := 0) dX8_convert_14 rfl ?_
  refine z_last S (pc := 15) B 1 2 rfl rfl (k := 18) rfl (by decide) (by decide) dX8_convert_15 (wn := [cMod a p1 p2 p3 p4 p5 p6 pm ig mo rd wr sm, cAt E p1 (up (up (up (up σ 15 0) 16 0) 17 0) 18 0) ρ]) (by rw [lmu _ _ (by decide)]; rfl) (fun H locs B => ?_)
  refine lv_iinc (v := iI (19)) (lv' := [(2, .int (iI 19)), (0, .ref a), (1, .int (iI 0))]) S.1 S.2.1 (pc := 16) dX8_convert_16 hl (k := 0) rfl (by decide) (by decide) rfl (fun ls hl => ?_)
  refine lv_goto S.1 S.2.1 (pc := 19) (tgt := 3) dX8_convert_19 rfl ?_
  refine z_iload_n S (pc := 3) dX8_convert_3 rfl (lv_at hl 0 rfl) ?_
  refine z_bipush S (pc := 4) dX8_convert_4 rfl ?_
  refine z_icmp_ge S (pc := 6) (tgt := 22) (by omega) (by omega) dX8_convert_6 rfl (fun c5 => absurd c5 (by omega)) (fun c5 => ?_)
  refine z_aload_n S (pc := 9) dX8_convert_9 rfl (lv_at hl 1 rfl) ?_
  refine z_get S (pc := 10) B iX8_convert_X8 0 rfl rfl 0 (by decide) rfl rfl (by decide +kernel) dX8_convert_10 ?_
  refine z_iload_n S (pc := 13) dX8_convert_13 rfl (lv_at hl 0 rfl) ?_
  refine z_lconst S (pc := 14) (x := 0) dX8_convert_14 rfl ?_
  refine z_last S (pc := 15) B 1 2 rfl rfl (k := 19) rfl (by decide) (by decide) dX8_convert_15 (wn := [cMod a p1 p2 p3 p4 p5 p6 pm ig mo rd wr sm, cAt E p1 (up (up (up (up (up σ 15 0) 16 0) 17 0) 18 0) 19 0) ρ]) (by rw [lmu _ _ (by decide)]; rfl) (fun H locs B => ?_)
  refine lv_iinc (v := iI (20)) (lv' := [(2, .int (iI 20)), (0, .ref a), (1, .int (iI 0))]) S.1 S.2.1 (pc := 16) dX8_convert_16 hl (k := 0) rfl (by decide) (by decide) rfl (fun ls hl => ?_)
  refine lv_goto S.1 S.2.1 (pc := 19) (tgt := 3) dX8_convert_19 rfl ?_
  refine z_iload_n S (pc := 3) dX8_convert_3 rfl (lv_at hl 0 rfl) ?_
  refine z_bipush S (pc := 4) dX8_convert_4 rfl ?_
  refine z_icmp_ge S (pc := 6) (tgt := 22) (by omega) (by omega) dX8_convert_6 rfl (fun c6 => absurd c6 (by omega)) (fun c6 => ?_)
  refine z_aload_n S (pc := 9) dX8_convert_9 rfl (lv_at hl 1 rfl) ?_
  refine z_get S (pc := 10) B iX8_convert_X8 0 rfl rfl 0 (by decide) rfl rfl (by decide +kernel) dX8_convert_10 ?_
  refine z_iload_n S (pc := 13) dX8_convert_13 rfl (lv_at hl 0 rfl) ?_
  refine z_lconst S (pc := 14) (x := 0) dX8_convert_14 rfl ?_
  refine z_last S (pc := 15) B 1 2 rfl rfl (k := 20) rfl (by decide) (by decide) dX8_convert_15 (wn := [cMod a p1 p2 p3 p4 p5 p6 pm ig mo rd wr sm, cAt E p1 (up (up (up (up (up (up σ 15 0) 16 0) 17 0) 18 0) 19 0) 20 0) ρ]) (by rw [lmu _ _ (by decide)]; rfl) (fun H locs B => ?_)
  refine lv_iinc (v := iI (21)) (lv' := [(2, .int (iI 21)), (0, .ref a), (1, .int (iI 0))]) S.1 S.2.1 (pc := 16) dX8_convert_16 hl (k := 0) rfl (by decide) (by decide) rfl (fun ls hl => ?_)
  refine lv_goto S.1 S.2.1 (pc := 19) (tgt := 3) dX8_convert_19 rfl ?_
  refine z_iload_n S (pc := 3) dX8_convert_3 rfl (lv_at hl 0 rfl) ?_
  refine z_bipush S (pc := 4) dX8_convert_4 rfl ?_
  refine z_icmp_ge S (pc := 6) (tgt := 22) (by omega) (by omega) dX8_convert_6 rfl (fun c7 => absurd c7 (by omega)) (fun c7 => ?_)
  refine z_aload_n S (pc := 9) dX8_convert_9 rfl (lv_at hl 1 rfl) ?_
  refine z_get S (pc := 10) B iX8_convert_X8 0 rfl rfl 0 (by decide) rfl rfl (by decide +kernel) dX8_convert_10 ?_
  refine z_iload_n S (pc := 13) dX8_convert_13 rfl (lv_at hl 0 rfl) ?_
  refine z_lconst S (pc := 14) (x := 0) dX8_convert_14 rfl ?_
  refine z_last S (pc := 15) B 1 2 rfl rfl (k := 21) rfl (by decide) (by decide) dX8_convert_15 (wn := [cMod a p1 p2 p3 p4 p5 p6 pm ig mo rd wr sm, cAt E p1 (up (up (up (up (up (up (up σ 15 0) 16 0) 17 0) 18 0) 19 0) 20 0) 21 0) ρ]) (by rw [lmu _ _ (by decide)]; rfl) (fun H locs B => ?_)
  refine lv_iinc (v := iI (22)) (lv' := [(2, .int (iI 22)), (0, .ref a), (1, .int (iI 0))]) S.1 S.2.1 (pc := 16) dX8_convert_16 hl (k := 0) rfl (by decide) (by decide) rfl (fun ls hl => ?_)
  refine lv_goto S.1 S.2.1 (pc := 19) (tgt := 3) dX8_convert_19 rfl ?_
  refine z_iload_n S (pc := 3) dX8_convert_3 rfl (lv_at hl 0 rfl) ?_
  refine z_bipush S (pc := 4) dX8_convert_4 rfl ?_
  refine z_icmp_ge S (pc := 6) (tgt := 22) (by omega) (by omega) dX8_convert_6 rfl (fun c8 => ?_) (fun c8 => absurd c8 (by omega))
  refine z_aload_n S (pc := 22) dX8_convert_22 rfl (lv_at hl 1 rfl) ?_
  refine z_get S (pc := 23) B iX8_convert_X8 0 rfl rfl 0 (by decide) rfl rfl (by decide +kernel) dX8_convert_23 ?_
  refine z_bipush S (pc := 26) dX8_convert_26 rfl ?_
  refine z_lconst S (pc := 28) (x := 1) dX8_convert_28 rfl ?_
  refine z_last S (pc := 29) B 1 2 rfl rfl (k := 22) rfl (by decide) (by decide) dX8_convert_29 (wn := [cMod a p1 p2 p3 p4 p5 p6 pm ig mo rd wr sm, cAt E p1 (up (up (up (up (up (up (up (up σ 15 0) 16 0) 17 0) 18 0) 19 0) 20 0) 21 0) 22 1) ρ]) (by rw [lmu _ _ (by decide)]; rfl) (fun H locs B => ?_)
  refine z_aload_n S (pc := 30) dX8_convert_30 rfl (lv_at hl 1 rfl) ?_
  refine z_lconst S (pc := 31) (x := 0) dX8_convert_31 rfl ?_
  refine z_put S (pc := 32) B iX8_convert_X8 tyX8_ok nmX8 0 rfl rfl 6 (by decide) rfl (by decide +kernel) (ty := .long) (by decide +kernel) rfl rfl (Nat.le_of_ble_eq_true rfl) dX8_convert_32 (wn := [cMod a p1 p2 p3 p4 p5 p6 pm 0 mo rd wr sm, cAt E p1 (up (up (up (up (up (up (up (up σ 15 0) 16 0) 17 0) 18 0) 19 0) 20 0) 21 0) 22 1) ρ]) rfl (fun H locs B => ?_)
  refine z_aload_n S (pc := 35) dX8_convert_35 rfl (lv_at hl 1 rfl) ?_
  refine z_iload_n S (pc := 36) dX8_convert_36 rfl (lv_at hl 2 rfl) ?_
  refine z_callV S (pc := 37) B (wr := []) (wn := fun _ => [cMod a p1 p2 p3 p4 p5 p6 pm ((cvU (up (up (up (up (up (up (up (up σ 15 0) 16 0) 17 0) 18 0) 19 0) 20 0) 21 0) 22 1) (gn (σ 10))).1) mo rd wr sm, cAt E p1 (pU (up (up (up (up (up (up (up (up σ 15 0) 16 0) 17 0) 18 0) 19 0) 20 0) 21 0) 22 1) (cvU (up (up (up (up (up (up (up (up σ 15 0) 16 0) 17 0) 18 0) 19 0) 20 0) 21 0) 22 1) (gn (σ 10))).2.2.1 (cvU (up (up (up (up (up (up (up (up σ 15 0) 16 0) 17 0) 18 0) 19 0) 20 0) 21 0) 22 1) (gn (σ 10))).2.2.2.1 (cvU (up (up (up (up (up (up (up (up σ 15 0) 16 0) 17 0) 18 0) 19 0) 20 0) 21 0) 22 1) (gn (σ 10))).2.2.2.2 (cvU (up (up (up (up (up (up (up (up σ 15 0) 16 0) 17 0) 18 0) 19 0) 20 0) 21 0) 22 1) (gn (σ 10))).2.1) ρ]) (st1 := fun _ => []) (As := [.int (iI 0)]) (mX8_runUp_0 l E a p1 p2 p3 p4 p5 p6 (up (up (up (up (up (up (up (up σ 15 0) 16 0) 17 0) 18 0) 19 0) 20 0) 21 0) 22 1) ρ pm 0 mo rd wr sm (show Sets (up (up (up (up (up (up (up (up σ 15 0) 16 0) 17 0) 18 0) 19 0) 20 0) 21 0) 22 1) from by assumption) (show 0 ≤ σ 11 ∧ σ 11 ≤ 2100000000 from by omega) (show 0 = 0 from by rfl) (show 0 = 0 from by rfl) (show 0 = 0 from by rfl) (show 0 = 0 from by rfl)) gX8_convert_X8_runUp 1 rfl (by decide +kernel) ⟨Nat.le_of_ble_eq_true rfl, Nat.le_of_ble_eq_true rfl, Nat.le_of_ble_eq_true rfl, Nat.le_of_ble_eq_true rfl⟩ 0 rfl (q := (RX8, TX8, 12)) rfl rfl [0, 1] [] [0, 1] rfl rfl ⟨rfl, rfl, rfl, by decide⟩ (fun _ => rfl) rfl (fun _ => rfl) hl.1 (Nat.le_of_ble_eq_true rfl) rfl dX8_convert_37 (fun _ _ H locs B => ?_)
  obtain ⟨r, hr1⟩ : ∃ r, cvU σ (gn (σ 10)) = r := ⟨_, rfl⟩
  have eU : cvU (up (up (up (up (up (up (up (up σ 15 0) 16 0) 17 0) 18 0) 19 0) 20 0) 21 0) 22 1) (gn (σ 10)) = r := hr1
  rw [eU] at B
  have hb1 := cvU_bd σ (gn (σ 10)) h5
  rw [hr1] at hb1
  refine z_aload_n S (pc := 40) dX8_convert_40 rfl (lv_at hl 1 rfl) ?_
  refine z_get S (pc := 41) B iX8_convert_X8 0 rfl rfl 6 (by decide) rfl rfl (by decide +kernel) dX8_convert_41 ?_
  refine z_callS S (pc := 44) B (wr := [cMod a p1 p2 p3 p4 p5 p6 pm r.1 mo rd wr sm, cAt E p1 (pU (up (up (up (up (up (up (up (up σ 15 0) 16 0) 17 0) 18 0) 19 0) 20 0) 21 0) 22 1) r.2.2.1 r.2.2.2.1 r.2.2.2.2 r.2.1) ρ]) (wn := fun _ => [cMod a p1 p2 p3 p4 p5 p6 pm r.1 mo rd wr sm, cAt E p1 (pU (up (up (up (up (up (up (up (up σ 15 0) 16 0) 17 0) 18 0) 19 0) 20 0) 21 0) 22 1) r.2.2.1 r.2.2.2.1 r.2.2.2.2 r.2.1) ρ]) (st1 := fun _ => [.int (iI (sg r.1))]) (As := [.long (iL r.1)]) (mX8_signOf l E r.1 (show inL r.1 from by omega)) gX8_convert_X8_signOf 1 rfl (by decide +kernel) ⟨Nat.le_of_ble_eq_true rfl, Nat.le_of_ble_eq_true rfl, Nat.le_of_ble_eq_true rfl, Nat.le_of_ble_eq_true rfl⟩ [] [0, 1] [0, 1] rfl rfl ⟨rfl, rfl, rfl, by decide⟩ (fun _ => rfl) rfl (fun _ => rfl) hl.1 (Nat.le_of_ble_eq_true rfl) rfl dX8_convert_44 (fun _ _ H locs B => ?_)
  refine lv_istore_n (lv' := [(2, .int (iI (sg r.1))), (0, .ref a), (1, .int (iI 0))]) S.1 S.2.1 (pc := 47) dX8_convert_47 rfl hl (by decide) rfl (fun ls hl => ?_)
  have hq : sg r.1 = 0 ∨ sg r.1 = 1 ∨ sg r.1 = -1 := by rcases sg_c r.1 with h | h | h <;> omega
  obtain ⟨q, hqe⟩ : ∃ q, sg r.1 = q := ⟨_, rfl⟩
  rw [hqe] at hq
  have hl : lv_has ls 3 [(2, .int (iI (sg r.1))), (0, .ref a), (1, .int (iI 0))] := hl
  rw [hqe] at hl
  obtain ⟨τ, hτ⟩ : ∃ τ, pU (up (up (up (up (up (up (up (up σ 15 0) 16 0) 17 0) 18 0) 19 0) 20 0) 21 0) 22 1) r.2.2.1 r.2.2.2.1 r.2.2.2.2 r.2.1 = τ := ⟨_, rfl⟩
  rw [hτ] at B
  have t11 : τ 11 = r.2.2.2.2 + 0 := by rw [← hτ, Int.add_zero]; rfl
  have t20 : τ 20 = r.2.1 := by rw [← hτ]; rfl
  have t16 : τ 16 = 0 := by rw [← hτ]; rfl
  have t17 : τ 17 = 0 := by rw [← hτ]; rfl
  have t5 : τ 5 = σ 5 := by rw [← hτ]; rfl
  have t18 : τ 18 = r.2.2.1 := by rw [← hτ]; rfl
  have t19 : τ 19 = r.2.2.2.1 := by rw [← hτ]; rfl
  have t22 : τ 22 = 1 := by rw [← hτ]; rfl
  have to : ∀ j, j ≠ 11 ∧ (j < 15 ∨ 22 < j) → τ j = σ j := fun j hj => by rw [← hτ, pU_o hj, up_o (by omega), up_o (by omega), up_o (by omega), up_o (by omega), up_o (by omega), up_o (by omega), up_o (by omega), up_o (by omega)]
  rw [← pD_self t11 t20 t16] at B
  obtain ⟨r2, hr2⟩ : ∃ r2, dnL (3 * σ 5).toNat q r.1 r.2.1 0 = r2 := ⟨_, rfl⟩
  have hb2 := dnL_bd (3 * σ 5).toNat q r.1 r.2.1 0 1677721600 hq (by omega) hb1.1 hb1.2.1 (by omega)
  rw [hr2] at hb2
  have hend := dnL_end (3 * σ 5).toNat q r.1 r.2.1 0 hq (fun h => by have := sg_c r.1; omega) (Or.inl hqe)
  rw [hr2] at hend
  refine lpX8_convert_d0 E S a p1 p2 p3 p4 p5 p6 τ ρ pm mo rd wr sm q r.2.2.2.2 hq (by rw [t5]; exact h5) (by omega) (3 * σ 5).toNat r.1 r.2.1 0 hb1.1 hb1.2.1 (by rw [t5]; omega) r2 hr2 (fun H locs ls B hl => ?_) _ _ _ B (lv_sub hl [1, 2, 0] rfl)
  have hsr := sg_c r2.1
  refine z_aload_n S (pc := 109) dX8_convert_109 rfl (lv_at hl 0 rfl) ?_
  refine z_iload_n S (pc := 110) dX8_convert_110 rfl (lv_at hl 2 rfl) ?_
  refine z_if_eq S (pc := 111) (tgt := 129) (by omega) dX8_convert_111 rfl (fun c9 => ?_) (fun c9 => ?_)
  · refine z_iconst S (pc := 129) dX8_convert_129 ?_
    refine z_put S (pc := 130) B iX8_convert_X8 tyX8_ok nmX8 0 rfl rfl 7 (by decide) rfl (by decide +kernel) (ty := .boolean) (by decide +kernel) rfl rfl (Nat.le_of_ble_eq_true rfl) dX8_convert_130 (wn := [cMod a p1 p2 p3 p4 p5 p6 pm r2.1 0 rd wr sm, cAt E p1 (pD τ (r.2.2.2.2 + r2.2.2) r2.2.1 r2.2.2) ρ]) rfl (fun H locs B => ?_)
    obtain ⟨r3, hr3⟩ : ∃ r3, fnL 16 q r2.1 r2.2.1 0 = r3 := ⟨_, rfl⟩
    have hb3 := fnL_bd 16 q r2.1 r2.2.1 0 1677721600 hq (by omega) hb2.1 hb2.2.1 (by omega)
    rw [hr3] at hb3
    obtain ⟨υ, hυ⟩ : ∃ υ, pD τ (r.2.2.2.2 + r2.2.2) r2.2.1 r2.2.2 = υ := ⟨_, rfl⟩
    rw [hυ] at B
    have u11 : υ 11 = r.2.2.2.2 + r2.2.2 + 0 := by rw [← hυ, Int.add_zero]; rfl
    have u20 : υ 20 = r2.2.1 := by rw [← hυ]; rfl
    have u17 : υ 17 = 0 := by rw [← hυ]; exact t17
    have u5 : υ 5 = σ 5 := by rw [← hυ]; exact t5
    have u16 : υ 16 = r2.2.2 := by rw [← hυ]; rfl
    have u18 : υ 18 = r.2.2.1 := by rw [← hυ]; exact t18
    have u19 : υ 19 = r.2.2.2.1 := by rw [← hυ]; exact t19
    have u22 : υ 22 = 1 := by rw [← hυ]; exact t22
    have uo : ∀ j, j ≠ 11 ∧ (j < 15 ∨ 22 < j) → υ j = σ j := fun j hj => by rw [← hυ, pD_o hj]; exact to j hj
    rw [← pF_self u11 u20 u17] at B
    have ho : ovr σ (gn (σ 10)) = 0 := by unfold ovr cvD cvS; rw [hr1, hqe, hr2]; exact bI_f (fun z => by omega)
    refine lpX8_convert_f0 E S a p1 p2 p3 p4 p5 p6 υ ρ pm rd wr sm q (r.2.2.2.2 + r2.2.2) hq (by rw [u5]; exact h5) (by omega) 16 r2.1 r2.2.1 0 hb2.1 hb2.2.1 (by omega) ⟨fun h => by omega, fun h => by omega, fun h => by omega⟩ r3 hr3 (fun H locs ls B hl => ?_) _ _ _ B (lv_sub hl [0, 1, 2] rfl)
    refine z_aload_n S (pc := 184) dX8_convert_184 rfl (lv_at hl 0 rfl) ?_
    refine z_get S (pc := 185) B iX8_convert_X8 0 rfl rfl 0 (by decide) rfl rfl (by decide +kernel) dX8_convert_185 ?_
    refine z_bipush S (pc := 188) dX8_convert_188 rfl ?_
    refine z_ldc2 S (pc := 190) (x := 16) (by decide +kernel) rfl dX8_convert_190 ?_
    refine z_aload_n S (pc := 193) dX8_convert_193 rfl (lv_at hl 0 rfl) ?_
    refine z_get S (pc := 194) B iX8_convert_X8 0 rfl rfl 0 (by decide) rfl rfl (by decide +kernel) dX8_convert_194 ?_
    refine z_bipush S (pc := 197) dX8_convert_197 rfl ?_
    refine z_lald S (pc := 199) B 1 2 rfl rfl (k := 18) rfl (by decide) (by decide) (v := .long (iL (υ 18))) rfl dX8_convert_199 ?_
    refine z_aload_n S (pc := 200) dX8_convert_200 rfl (lv_at hl 0 rfl) ?_
    refine z_get S (pc := 201) B iX8_convert_X8 0 rfl rfl 0 (by decide) rfl rfl (by decide +kernel) dX8_convert_201 ?_
    refine z_bipush S (pc := 204) dX8_convert_204 rfl ?_
    refine z_lald S (pc := 206) B 1 2 rfl rfl (k := 19) rfl (by decide) (by decide) (v := .long (iL (υ 19))) rfl dX8_convert_206 ?_
    refine z_lsub S (pc := 207) dX8_convert_207 ?_
    refine z_lmul S (pc := 208) dX8_convert_208 ?_
    refine z_iload_n S (pc := 209) dX8_convert_209 rfl (lv_at hl 2 rfl) ?_
    refine z_i2l S (pc := 210) (by omega) dX8_convert_210 ?_
    refine z_ldc2 S (pc := 211) (x := 16) (by decide +kernel) rfl dX8_convert_211 ?_
    refine z_aload_n S (pc := 214) dX8_convert_214 rfl (lv_at hl 0 rfl) ?_
    refine z_get S (pc := 215) B iX8_convert_X8 0 rfl rfl 0 (by decide) rfl rfl (by decide +kernel) dX8_convert_215 ?_
    refine z_bipush S (pc := 218) dX8_convert_218 rfl ?_
    refine z_lald S (pc := 220) B 1 2 rfl rfl (k := 16) rfl (by decide) (by decide) (v := .long (iL (υ 16))) rfl dX8_convert_220 ?_
    refine z_lmul S (pc := 221) dX8_convert_221 ?_
    refine z_aload_n S (pc := 222) dX8_convert_222 rfl (lv_at hl 0 rfl) ?_
    refine z_get S (pc := 223) B iX8_convert_X8 0 rfl rfl 0 (by decide) rfl rfl (by decide +kernel) dX8_convert_223 ?_
    refine z_bipush S (pc := 226) dX8_convert_226 rfl ?_
    refine z_lald S (pc := 228) B 1 2 rfl rfl (k := 17) rfl (by decide) (by decide) (v := .long (iL r3.2.2)) rfl dX8_convert_228 ?_
    refine z_lsub S (pc := 229) dX8_convert_229 ?_
    refine z_lmul S (pc := 230) dX8_convert_230 ?_
    refine z_ladd S (pc := 231) dX8_convert_231 ?_
    refine z_last S (pc := 232) B 1 2 rfl rfl (k := 15) rfl (by decide) (by decide) dX8_convert_232 (wn := [cMod a p1 p2 p3 p4 p5 p6 pm r3.1 0 rd wr sm, cAt E p1 (up (pF υ (r.2.2.2.2 + r2.2.2 + r3.2.2) r3.2.1 r3.2.2) 15 ((16 * ((υ 18) - (υ 19))) + (q * ((16 * (υ 16)) - r3.2.2)))) ρ]) (by rw [lmu _ _ (by decide)]; rfl) (fun H locs B => ?_)
    refine z_aload_n S (pc := 233) dX8_convert_233 rfl (lv_at hl 0 rfl) ?_
    refine z_get S (pc := 234) B iX8_convert_X8 0 rfl rfl 0 (by decide) rfl rfl (by decide +kernel) dX8_convert_234 ?_
    refine z_bipush S (pc := 237) dX8_convert_237 rfl ?_
    refine z_aload_n S (pc := 239) dX8_convert_239 rfl (lv_at hl 0 rfl) ?_
    refine z_get S (pc := 240) B iX8_convert_X8 0 rfl rfl 6 (by decide) rfl rfl (by decide +kernel) dX8_convert_240 ?_
    refine z_last S (pc := 243) B 1 2 rfl rfl (k := 21) rfl (by decide) (by decide) dX8_convert_243 (wn := [cMod a p1 p2 p3 p4 p5 p6 pm r3.1 0 rd wr sm, cAt E p1 (up (up (pF υ (r.2.2.2.2 + r2.2.2 + r3.2.2) r3.2.1 r3.2.2) 15 ((16 * ((υ 18) - (υ 19))) + (q * ((16 * (υ 16)) - r3.2.2)))) 21 r3.1) ρ]) (by rw [lmu _ _ (by decide)]; rfl) (fun H locs B => ?_)
    have hcF : cvF σ (gn (σ 10)) = r3 := by unfold cvF cvD cvS; rw [hr1, hqe, hr2]; exact hr3
    have hcD : cvD σ (gn (σ 10)) = r2 := by unfold cvD cvS; rw [hr1, hqe, hr2]
    have hcS : cvS σ (gn (σ 10)) = q := by unfold cvS; rw [hr1, hqe]
    have hfun : up (up (pF υ (r.2.2.2.2 + r2.2.2 + r3.2.2) r3.2.1 r3.2.2) 15 ((16 * ((υ 18) - (υ 19))) + (q * ((16 * (υ 16)) - r3.2.2)))) 21 r3.1 = cvt σ (gn (σ 10)) := cvt_fun (fun j h1 h2 => by rw [up_o (by omega), up_o (by omega), pF_o ⟨h1, h2⟩, uo j ⟨h1, h2⟩]) (by show r.2.2.2.2 + r2.2.2 + r3.2.2 = (cvU σ (gn (σ 10))).2.2.2.2 + ((cvD σ (gn (σ 10))).2.2 + (cvF σ (gn (σ 10))).2.2); rw [hr1, hcD, hcF]; show r.2.2.2.2 + r2.2.2 + r3.2.2 = r.2.2.2.2 + (r2.2.2 + r3.2.2); omega) (by show (16 * ((υ 18) - (υ 19))) + (q * ((16 * (υ 16)) - r3.2.2)) = cnt σ (gn (σ 10)); unfold cnt; rw [hr1, hcD, hcF, hcS, u18, u19, u16]) (by show υ 16 = (cvD σ (gn (σ 10))).2.2; rw [u16, hcD]) (by show r3.2.2 = (cvF σ (gn (σ 10))).2.2; rw [hcF]) (by show υ 18 = (cvU σ (gn (σ 10))).2.2.1; rw [u18, hr1]) (by show υ 19 = (cvU σ (gn (σ 10))).2.2.2.1; rw [u19, hr1]) (by show r3.2.1 = (cvF σ (gn (σ 10))).2.1; rw [hcF]) (by show r3.1 = (cvF σ (gn (σ 10))).1; rw [hcF]) u22
    rw [hfun] at B
    exact z_return S hr hlk B () trivial rfl (by rw [hcF, ho]) (pc := 244) dX8_convert_244
  · refine z_aload_n S (pc := 114) dX8_convert_114 rfl (lv_at hl 0 rfl) ?_
    refine z_get S (pc := 115) B iX8_convert_X8 0 rfl rfl 6 (by decide) rfl rfl (by decide +kernel) dX8_convert_115 ?_
    refine z_callS S (pc := 118) B (wr := [cMod a p1 p2 p3 p4 p5 p6 pm r2.1 mo rd wr sm, cAt E p1 (pD τ (r.2.2.2.2 + r2.2.2) r2.2.1 r2.2.2) ρ]) (wn := fun _ => [cMod a p1 p2 p3 p4 p5 p6 pm r2.1 mo rd wr sm, cAt E p1 (pD τ (r.2.2.2.2 + r2.2.2) r2.2.1 r2.2.2) ρ]) (st1 := fun _ => [.int (iI (sg r2.1)), .ref a]) (As := [.long (iL r2.1)]) (mX8_signOf l E r2.1 (show inL r2.1 from by omega)) gX8_convert_X8_signOf 1 rfl (by decide +kernel) ⟨Nat.le_of_ble_eq_true rfl, Nat.le_of_ble_eq_true rfl, Nat.le_of_ble_eq_true rfl, Nat.le_of_ble_eq_true rfl⟩ [] [0, 1] [0, 1] rfl rfl ⟨rfl, rfl, rfl, by decide⟩ (fun _ => rfl) rfl (fun _ => rfl) hl.1 (Nat.le_of_ble_eq_true rfl) rfl dX8_convert_118 (fun _ _ H locs B => ?_)
    refine z_iload_n S (pc := 121) dX8_convert_121 rfl (lv_at hl 2 rfl) ?_
    refine z_icmp_ne S (pc := 122) (tgt := 129) (by omega) (by omega) dX8_convert_122 rfl (fun c10 => ?_) (fun c10 => ?_)
    · refine z_iconst S (pc := 129) dX8_convert_129 ?_
      refine z_put S (pc := 130) B iX8_convert_X8 tyX8_ok nmX8 0 rfl rfl 7 (by decide) rfl (by decide +kernel) (ty := .boolean) (by decide +kernel) rfl rfl (Nat.le_of_ble_eq_true rfl) dX8_convert_130 (wn := [cMod a p1 p2 p3 p4 p5 p6 pm r2.1 0 rd wr sm, cAt E p1 (pD τ (r.2.2.2.2 + r2.2.2) r2.2.1 r2.2.2) ρ]) rfl (fun H locs B => ?_)
      obtain ⟨r3, hr3⟩ : ∃ r3, fnL 16 q r2.1 r2.2.1 0 = r3 := ⟨_, rfl⟩
      have hb3 := fnL_bd 16 q r2.1 r2.2.1 0 1677721600 hq (by omega) hb2.1 hb2.2.1 (by omega)
      rw [hr3] at hb3
      obtain ⟨υ, hυ⟩ : ∃ υ, pD τ (r.2.2.2.2 + r2.2.2) r2.2.1 r2.2.2 = υ := ⟨_, rfl⟩
      rw [hυ] at B
      have u11 : υ 11 = r.2.2.2.2 + r2.2.2 + 0 := by rw [← hυ, Int.add_zero]; rfl
      have u20 : υ 20 = r2.2.1 := by rw [← hυ]; rfl
      have u17 : υ 17 = 0 := by rw [← hυ]; exact t17
      have u5 : υ 5 = σ 5 := by rw [← hυ]; exact t5
      have u16 : υ 16 = r2.2.2 := by rw [← hυ]; rfl
      have u18 : υ 18 = r.2.2.1 := by rw [← hυ]; exact t18
      have u19 : υ 19 = r.2.2.2.1 := by rw [← hυ]; exact t19
      have u22 : υ 22 = 1 := by rw [← hυ]; exact t22
      have uo : ∀ j, j ≠ 11 ∧ (j < 15 ∨ 22 < j) → υ j = σ j := fun j hj => by rw [← hυ, pD_o hj]; exact to j hj
      rw [← pF_self u11 u20 u17] at B
      have ho : ovr σ (gn (σ 10)) = 0 := by unfold ovr cvD cvS; rw [hr1, hqe, hr2]; exact bI_f (fun z => by omega)
      refine lpX8_convert_f0 E S a p1 p2 p3 p4 p5 p6 υ ρ pm rd wr sm q (r.2.2.2.2 + r2.2.2) hq (by rw [u5]; exact h5) (by omega) 16 r2.1 r2.2.1 0 hb2.1 hb2.2.1 (by omega) ⟨fun h => by omega, fun h => by omega, fun h => by omega⟩ r3 hr3 (fun H locs ls B hl => ?_) _ _ _ B (lv_sub hl [0, 1, 2] rfl)
      refine z_aload_n S (pc := 184) dX8_convert_184 rfl (lv_at hl 0 rfl) ?_
      refine z_get S (pc := 185) B iX8_convert_X8 0 rfl rfl 0 (by decide) rfl rfl (by decide +kernel) dX8_convert_185 ?_
      refine z_bipush S (pc := 188) dX8_convert_188 rfl ?_
      refine z_ldc2 S (pc := 190) (x := 16) (by decide +kernel) rfl dX8_convert_190 ?_
      refine z_aload_n S (pc := 193) dX8_convert_193 rfl (lv_at hl 0 rfl) ?_
      refine z_get S (pc := 194) B iX8_convert_X8 0 rfl rfl 0 (by decide) rfl rfl (by decide +kernel) dX8_convert_194 ?_
      refine z_bipush S (pc := 197) dX8_convert_197 rfl ?_
      refine z_lald S (pc := 199) B 1 2 rfl rfl (k := 18) rfl (by decide) (by decide) (v := .long (iL (υ 18))) rfl dX8_convert_199 ?_
      refine z_aload_n S (pc := 200) dX8_convert_200 rfl (lv_at hl 0 rfl) ?_
      refine z_get S (pc := 201) B iX8_convert_X8 0 rfl rfl 0 (by decide) rfl rfl (by decide +kernel) dX8_convert_201 ?_
      refine z_bipush S (pc := 204) dX8_convert_204 rfl ?_
      refine z_lald S (pc := 206) B 1 2 rfl rfl (k := 19) rfl (by decide) (by decide) (v := .long (iL (υ 19))) rfl dX8_convert_206 ?_
      refine z_lsub S (pc := 207) dX8_convert_207 ?_
      refine z_lmul S (pc := 208) dX8_convert_208 ?_
      refine z_iload_n S (pc := 209) dX8_convert_209 rfl (lv_at hl 2 rfl) ?_
      refine z_i2l S (pc := 210) (by omega) dX8_convert_210 ?_
      refine z_ldc2 S (pc := 211) (x := 16) (by decide +kernel) rfl dX8_convert_211 ?_
      refine z_aload_n S (pc := 214) dX8_convert_214 rfl (lv_at hl 0 rfl) ?_
      refine z_get S (pc := 215) B iX8_convert_X8 0 rfl rfl 0 (by decide) rfl rfl (by decide +kernel) dX8_convert_215 ?_
      refine z_bipush S (pc := 218) dX8_convert_218 rfl ?_
      refine z_lald S (pc := 220) B 1 2 rfl rfl (k := 16) rfl (by decide) (by decide) (v := .long (iL (υ 16))) rfl dX8_convert_220 ?_
      refine z_lmul S (pc := 221) dX8_convert_221 ?_
      refine z_aload_n S (pc := 222) dX8_convert_222 rfl (lv_at hl 0 rfl) ?_
      refine z_get S (pc := 223) B iX8_convert_X8 0 rfl rfl 0 (by decide) rfl rfl (by decide +kernel) dX8_convert_223 ?_
      refine z_bipush S (pc := 226) dX8_convert_226 rfl ?_
      refine z_lald S (pc := 228) B 1 2 rfl rfl (k := 17) rfl (by decide) (by decide) (v := .long (iL r3.2.2)) rfl dX8_convert_228 ?_
      refine z_lsub S (pc := 229) dX8_convert_229 ?_
      refine z_lmul S (pc := 230) dX8_convert_230 ?_
      refine z_ladd S (pc := 231) dX8_convert_231 ?_
      refine z_last S (pc := 232) B 1 2 rfl rfl (k := 15) rfl (by decide) (by decide) dX8_convert_232 (wn := [cMod a p1 p2 p3 p4 p5 p6 pm r3.1 0 rd wr sm, cAt E p1 (up (pF υ (r.2.2.2.2 + r2.2.2 + r3.2.2) r3.2.1 r3.2.2) 15 ((16 * ((υ 18) - (υ 19))) + (q * ((16 * (υ 16)) - r3.2.2)))) ρ]) (by rw [lmu _ _ (by decide)]; rfl) (fun H locs B => ?_)
      refine z_aload_n S (pc := 233) dX8_convert_233 rfl (lv_at hl 0 rfl) ?_
      refine z_get S (pc := 234) B iX8_convert_X8 0 rfl rfl 0 (by decide) rfl rfl (by decide +kernel) dX8_convert_234 ?_
      refine z_bipush S (pc := 237) dX8_convert_237 rfl ?_
      refine z_aload_n S (pc := 239) dX8_convert_239 rfl (lv_at hl 0 rfl) ?_
      refine z_get S (pc := 240) B iX8_convert_X8 0 rfl rfl 6 (by decide) rfl rfl (by decide +kernel) dX8_convert_240 ?_
      refine z_last S (pc := 243) B 1 2 rfl rfl (k := 21) rfl (by decide) (by decide) dX8_convert_243 (wn := [cMod a p1 p2 p3 p4 p5 p6 pm r3.1 0 rd wr sm, cAt E p1 (up (up (pF υ (r.2.2.2.2 + r2.2.2 + r3.2.2) r3.2.1 r3.2.2) 15 ((16 * ((υ 18) - (υ 19))) + (q * ((16 * (υ 16)) - r3.2.2)))) 21 r3.1) ρ]) (by rw [lmu _ _ (by decide)]; rfl) (fun H locs B => ?_)
      have hcF : cvF σ (gn (σ 10)) = r3 := by unfold cvF cvD cvS; rw [hr1, hqe, hr2]; exact hr3
      have hcD : cvD σ (gn (σ 10)) = r2 := by unfold cvD cvS; rw [hr1, hqe, hr2]
      have hcS : cvS σ (gn (σ 10)) = q := by unfold cvS; rw [hr1, hqe]
      have hfun : up (up (pF υ (r.2.2.2.2 + r2.2.2 + r3.2.2) r3.2.1 r3.2.2) 15 ((16 * ((υ 18) - (υ 19))) + (q * ((16 * (υ 16)) - r3.2.2)))) 21 r3.1 = cvt σ (gn (σ 10)) := cvt_fun (fun j h1 h2 => by rw [up_o (by omega), up_o (by omega), pF_o ⟨h1, h2⟩, uo j ⟨h1, h2⟩]) (by show r.2.2.2.2 + r2.2.2 + r3.2.2 = (cvU σ (gn (σ 10))).2.2.2.2 + ((cvD σ (gn (σ 10))).2.2 + (cvF σ (gn (σ 10))).2.2); rw [hr1, hcD, hcF]; show r.2.2.2.2 + r2.2.2 + r3.2.2 = r.2.2.2.2 + (r2.2.2 + r3.2.2); omega) (by show (16 * ((υ 18) - (υ 19))) + (q * ((16 * (υ 16)) - r3.2.2)) = cnt σ (gn (σ 10)); unfold cnt; rw [hr1, hcD, hcF, hcS, u18, u19, u16]) (by show υ 16 = (cvD σ (gn (σ 10))).2.2; rw [u16, hcD]) (by show r3.2.2 = (cvF σ (gn (σ 10))).2.2; rw [hcF]) (by show υ 18 = (cvU σ (gn (σ 10))).2.2.1; rw [u18, hr1]) (by show υ 19 = (cvU σ (gn (σ 10))).2.2.2.1; rw [u19, hr1]) (by show r3.2.1 = (cvF σ (gn (σ 10))).2.1; rw [hcF]) (by show r3.1 = (cvF σ (gn (σ 10))).1; rw [hcF]) u22
      rw [hfun] at B
      exact z_return S hr hlk B () trivial rfl (by rw [hcF, ho]) (pc := 244) dX8_convert_244
    · refine z_iconst S (pc := 125) dX8_convert_125 ?_
      refine lv_goto S.1 S.2.1 (pc := 126) (tgt := 130) dX8_convert_126 rfl ?_
      refine z_put S (pc := 130) B iX8_convert_X8 tyX8_ok nmX8 0 rfl rfl 7 (by decide) rfl (by decide +kernel) (ty := .boolean) (by decide +kernel) rfl rfl (Nat.le_of_ble_eq_true rfl) dX8_convert_130 (wn := [cMod a p1 p2 p3 p4 p5 p6 pm r2.1 1 rd wr sm, cAt E p1 (pD τ (r.2.2.2.2 + r2.2.2) r2.2.1 r2.2.2) ρ]) rfl (fun H locs B => ?_)
      obtain ⟨r3, hr3⟩ : ∃ r3, fnL 16 q r2.1 r2.2.1 0 = r3 := ⟨_, rfl⟩
      have hb3 := fnL_bd 16 q r2.1 r2.2.1 0 1677721600 hq (by omega) hb2.1 hb2.2.1 (by omega)
      rw [hr3] at hb3
      obtain ⟨υ, hυ⟩ : ∃ υ, pD τ (r.2.2.2.2 + r2.2.2) r2.2.1 r2.2.2 = υ := ⟨_, rfl⟩
      rw [hυ] at B
      have u11 : υ 11 = r.2.2.2.2 + r2.2.2 + 0 := by rw [← hυ, Int.add_zero]; rfl
      have u20 : υ 20 = r2.2.1 := by rw [← hυ]; rfl
      have u17 : υ 17 = 0 := by rw [← hυ]; exact t17
      have u5 : υ 5 = σ 5 := by rw [← hυ]; exact t5
      have u16 : υ 16 = r2.2.2 := by rw [← hυ]; rfl
      have u18 : υ 18 = r.2.2.1 := by rw [← hυ]; exact t18
      have u19 : υ 19 = r.2.2.2.1 := by rw [← hυ]; exact t19
      have u22 : υ 22 = 1 := by rw [← hυ]; exact t22
      have uo : ∀ j, j ≠ 11 ∧ (j < 15 ∨ 22 < j) → υ j = σ j := fun j hj => by rw [← hυ, pD_o hj]; exact to j hj
      rw [← pF_self u11 u20 u17] at B
      have ho : ovr σ (gn (σ 10)) = 1 := by unfold ovr cvD cvS; rw [hr1, hqe, hr2]; exact bI_t ⟨by omega, by omega⟩
      rw [fnL_o ⟨by omega, by omega⟩] at hr3
      subst hr3
      refine z_aload_n S (pc := 133) dX8_convert_133 rfl (lv_at hl 0 rfl) ?_
      refine z_get S (pc := 134) B iX8_convert_X8 0 rfl rfl 7 (by decide) rfl rfl (by decide +kernel) dX8_convert_134 ?_
      refine z_if_ne S (pc := 137) (tgt := 184) (by omega) dX8_convert_137 rfl (fun c11 => ?_) (fun c11 => absurd c11 (by omega))
      refine z_aload_n S (pc := 184) dX8_convert_184 rfl (lv_at hl 0 rfl) ?_
      refine z_get S (pc := 185) B iX8_convert_X8 0 rfl rfl 0 (by decide) rfl rfl (by decide +kernel) dX8_convert_185 ?_
      refine z_bipush S (pc := 188) dX8_convert_188 rfl ?_
      refine z_ldc2 S (pc := 190) (x := 16) (by decide +kernel) rfl dX8_convert_190 ?_
      refine z_aload_n S (pc := 193) dX8_convert_193 rfl (lv_at hl 0 rfl) ?_
      refine z_get S (pc := 194) B iX8_convert_X8 0 rfl rfl 0 (by decide) rfl rfl (by decide +kernel) dX8_convert_194 ?_
      refine z_bipush S (pc := 197) dX8_convert_197 rfl ?_
      refine z_lald S (pc := 199) B 1 2 rfl rfl (k := 18) rfl (by decide) (by decide) (v := .long (iL (υ 18))) rfl dX8_convert_199 ?_
      refine z_aload_n S (pc := 200) dX8_convert_200 rfl (lv_at hl 0 rfl) ?_
      refine z_get S (pc := 201) B iX8_convert_X8 0 rfl rfl 0 (by decide) rfl rfl (by decide +kernel) dX8_convert_201 ?_
      refine z_bipush S (pc := 204) dX8_convert_204 rfl ?_
      refine z_lald S (pc := 206) B 1 2 rfl rfl (k := 19) rfl (by decide) (by decide) (v := .long (iL (υ 19))) rfl dX8_convert_206 ?_
      refine z_lsub S (pc := 207) dX8_convert_207 ?_
      refine z_lmul S (pc := 208) dX8_convert_208 ?_
      refine z_iload_n S (pc := 209) dX8_convert_209 rfl (lv_at hl 2 rfl) ?_
      refine z_i2l S (pc := 210) (by omega) dX8_convert_210 ?_
      refine z_ldc2 S (pc := 211) (x := 16) (by decide +kernel) rfl dX8_convert_211 ?_
      refine z_aload_n S (pc := 214) dX8_convert_214 rfl (lv_at hl 0 rfl) ?_
      refine z_get S (pc := 215) B iX8_convert_X8 0 rfl rfl 0 (by decide) rfl rfl (by decide +kernel) dX8_convert_215 ?_
      refine z_bipush S (pc := 218) dX8_convert_218 rfl ?_
      refine z_lald S (pc := 220) B 1 2 rfl rfl (k := 16) rfl (by decide) (by decide) (v := .long (iL (υ 16))) rfl dX8_convert_220 ?_
      refine z_lmul S (pc := 221) dX8_convert_221 ?_
      refine z_aload_n S (pc := 222) dX8_convert_222 rfl (lv_at hl 0 rfl) ?_
      refine z_get S (pc := 223) B iX8_convert_X8 0 rfl rfl 0 (by decide) rfl rfl (by decide +kernel) dX8_convert_223 ?_
      refine z_bipush S (pc := 226) dX8_convert_226 rfl ?_
      refine z_lald S (pc := 228) B 1 2 rfl rfl (k := 17) rfl (by decide) (by decide) (v := .long (iL 0)) rfl dX8_convert_228 ?_
      refine z_lsub S (pc := 229) dX8_convert_229 ?_
      refine z_lmul S (pc := 230) dX8_convert_230 ?_
      refine z_ladd S (pc := 231) dX8_convert_231 ?_
      refine z_last S (pc := 232) B 1 2 rfl rfl (k := 15) rfl (by decide) (by decide) dX8_convert_232 (wn := [cMod a p1 p2 p3 p4 p5 p6 pm r2.1 1 rd wr sm, cAt E p1 (up (pF υ (r.2.2.2.2 + r2.2.2 + 0) r2.2.1 0) 15 ((16 * ((υ 18) - (υ 19))) + (q * ((16 * (υ 16)) - 0)))) ρ]) (by rw [lmu _ _ (by decide)]; rfl) (fun H locs B => ?_)
      refine z_aload_n S (pc := 233) dX8_convert_233 rfl (lv_at hl 0 rfl) ?_
      refine z_get S (pc := 234) B iX8_convert_X8 0 rfl rfl 0 (by decide) rfl rfl (by decide +kernel) dX8_convert_234 ?_
      refine z_bipush S (pc := 237) dX8_convert_237 rfl ?_
      refine z_aload_n S (pc := 239) dX8_convert_239 rfl (lv_at hl 0 rfl) ?_
      refine z_get S (pc := 240) B iX8_convert_X8 0 rfl rfl 6 (by decide) rfl rfl (by decide +kernel) dX8_convert_240 ?_
      refine z_last S (pc := 243) B 1 2 rfl rfl (k := 21) rfl (by decide) (by decide) dX8_convert_243 (wn := [cMod a p1 p2 p3 p4 p5 p6 pm r2.1 1 rd wr sm, cAt E p1 (up (up (pF υ (r.2.2.2.2 + r2.2.2 + 0) r2.2.1 0) 15 ((16 * ((υ 18) - (υ 19))) + (q * ((16 * (υ 16)) - 0)))) 21 r2.1) ρ]) (by rw [lmu _ _ (by decide)]; rfl) (fun H locs B => ?_)
      have hcF : cvF σ (gn (σ 10)) = (r2.1, r2.2.1, (0 : Int)) := by unfold cvF cvD cvS; rw [hr1, hqe, hr2]; exact fnL_o ⟨by omega, by omega⟩
      have hcD : cvD σ (gn (σ 10)) = r2 := by unfold cvD cvS; rw [hr1, hqe, hr2]
      have hcS : cvS σ (gn (σ 10)) = q := by unfold cvS; rw [hr1, hqe]
      have hfun : up (up (pF υ (r.2.2.2.2 + r2.2.2 + 0) r2.2.1 0) 15 ((16 * ((υ 18) - (υ 19))) + (q * ((16 * (υ 16)) - 0)))) 21 r2.1 = cvt σ (gn (σ 10)) := cvt_fun (fun j h1 h2 => by rw [up_o (by omega), up_o (by omega), pF_o ⟨h1, h2⟩, uo j ⟨h1, h2⟩]) (by show r.2.2.2.2 + r2.2.2 + 0 = (cvU σ (gn (σ 10))).2.2.2.2 + ((cvD σ (gn (σ 10))).2.2 + (cvF σ (gn (σ 10))).2.2); rw [hr1, hcD, hcF]; show r.2.2.2.2 + r2.2.2 + 0 = r.2.2.2.2 + (r2.2.2 + 0); omega) (by show (16 * ((υ 18) - (υ 19))) + (q * ((16 * (υ 16)) - 0)) = cnt σ (gn (σ 10)); unfold cnt; rw [hr1, hcD, hcF, hcS, u18, u19, u16]) (by show υ 16 = (cvD σ (gn (σ 10))).2.2; rw [u16, hcD]) (by show 0 = (cvF σ (gn (σ 10))).2.2; rw [hcF]) (by show υ 18 = (cvU σ (gn (σ 10))).2.2.1; rw [u18, hr1]) (by show υ 19 = (cvU σ (gn (σ 10))).2.2.2.1; rw [u19, hr1]) (by show r2.2.1 = (cvF σ (gn (σ 10))).2.1; rw [hcF]) (by show r2.1 = (cvF σ (gn (σ 10))).1; rw [hcF]) u22
      rw [hfun] at B
      exact z_return S hr hlk B () trivial rfl (by rw [hcF, ho]) (pc := 244) dX8_convert_244
set_option maxHeartbeats 4000000 in
set_option maxRecDepth 100000 in
theorem mX8_convert_1 (l : Launch) (E : gT) (a : Nat) (p1 : Nat) (p2 : Nat) (p3 : Nat) (p4 : Nat) (p5 : Nat) (p6 : Nat) (σ : Nat → Int) (ρ : Nat → Int) (pm : Int) (ig : Int) (mo : Int) (rd : Int) (wr : Int) (sm : Int) (hs : Sets σ) (h11 : 0 ≤ σ 11 ∧ σ 11 ≤ 2100000000) : Cd l E yX8_convert wsX8_convert 3 72 0 0 [.ref a, .int (iI 1)] [cMod a p1 p2 p3 p4 p5 p6 pm ig mo rd wr sm, cAt E p1 σ ρ] none [cMod a p1 p2 p3 p4 p5 p6 pm ((cvF σ 0).1) (ovr σ 0) rd wr sm, cAt E p1 (cvt σ 0) ρ] := by
  refine Ct.mk (cc := cX8_convert) (maxL := 3) (ret := none) (plainFor_of_name (by decide)) rfl (Nat.le_of_ble_eq_true rfl) ?_
  intro p e s m below meth c A ls H locs S hr hlk hnm B hl
  have S : CallFix p m c cX8_convert 3 s #[.ref a, .int (iI 1)] wsX8_convert RX8 := S
  have hl : lv_has ls 3 [(0, .ref a), (1, .int (iI 1))] := hl
  obtain ⟨h0, h1, h2, h3, h4, h5, h6, h7, h8, h9, h10⟩ := id hs
  refine z_bipush S (pc := 0) dX8_convert_0 rfl ?_
  refine lv_istore_n (lv' := [(2, .int (iI 15)), (0, .ref a), (1, .int (iI 1))]) S.1 S.2.1 (pc := 2) dX8_convert_2 rfl hl (by decide) rfl (fun ls hl => ?_)
  refine z_iload_n S (pc := 3) dX8_convert_3 rfl (lv_at hl 0 rfl) ?_
  refine z_bipush S (pc := 4) dX8_convert_4 rfl ?_
  refine z_icmp_ge S (pc := 6) (tgt := 22) (by omega) (by omega) dX8_convert_6 rfl (fun c1 => absurd c1 (by omega)) (fun c1 => ?_)
  refine z_aload_n S (pc := 9) dX8_convert_9 rfl (lv_at hl 1 rfl) ?_
  refine z_get S (pc := 10) B iX8_convert_X8 0 rfl rfl 0 (by decide) rfl rfl (by decide +kernel) dX8_convert_10 ?_
  refine z_iload_n S (pc := 13) dX8_convert_13 rfl (lv_at hl 0 rfl) ?_
  refine z_lconst S (pc := 14) (x := 0) dX8_convert_14 rfl ?_
  refine z_last S (pc := 15) B 1 2 rfl rfl (k := 15) rfl (by decide) (by decide) dX8_convert_15 (wn := [cMod a p1 p2 p3 p4 p5 p6 pm ig mo rd wr sm, cAt E p1 (up σ 15 0) ρ]) (by rw [lmu _ _ (by decide)]; rfl) (fun H locs B => ?_)
  refine lv_iinc (v := iI (16)) (lv' := [(2, .int (iI 16)), (0, .ref a), (1, .int (iI 1))]) S.1 S.2.1 (pc := 16) dX8_convert_16 hl (k := 0) rfl (by decide) (by decide) rfl (fun ls hl => ?_)
  refine lv_goto S.1 S.2.1 (pc := 19) (tgt := 3) dX8_convert_19 rfl ?_
  refine z_iload_n S (pc := 3) dX8_convert_3 rfl (lv_at hl 0 rfl) ?_
  refine z_bipush S (pc := 4) dX8_convert_4 rfl ?_
  refine z_icmp_ge S (pc := 6) (tgt := 22) (by omega) (by omega) dX8_convert_6 rfl (fun c2 => absurd c2 (by omega)) (fun c2 => ?_)
  refine z_aload_n S (pc := 9) dX8_convert_9 rfl (lv_at hl 1 rfl) ?_
  refine z_get S (pc := 10) B iX8_convert_X8 0 rfl rfl 0 (by decide) rfl rfl (by decide +kernel) dX8_convert_10 ?_
  refine z_iload_n S (pc := 13) dX8_convert_13 rfl (lv_at hl 0 rfl) ?_
  refine z_lconst S (pc := 14) (x := 0) dX8_convert_14 rfl ?_
  refine z_last S (pc := 15) B 1 2 rfl rfl (k := 16) rfl (by decide) (by decide) dX8_convert_15 (wn := [cMod a p1 p2 p3 p4 p5 p6 pm ig mo rd wr sm, cAt E p1 (up (up σ 15 0) 16 0) ρ]) (by rw [lmu _ _ (by decide)]; rfl) (fun H locs B => ?_)
  refine lv_iinc (v := iI (17)) (lv' := [(2, .int (iI 17)), (0, .ref a), (1, .int (iI 1))]) S.1 S.2.1 (pc := 16) dX8_convert_16 hl (k := 0) rfl (by decide) (by decide) rfl (fun ls hl => ?_)
  refine lv_goto S.1 S.2.1 (pc := 19) (tgt := 3) dX8_convert_19 rfl ?_
  refine z_iload_n S (pc := 3) dX8_convert_3 rfl (lv_at hl 0 rfl) ?_
  refine z_bipush S (pc := 4) dX8_convert_4 rfl ?_
  refine z_icmp_ge S (pc := 6) (tgt := 22) (by omega) (by omega) dX8_convert_6 rfl (fun c3 => absurd c3 (by omega)) (fun c3 => ?_)
  refine z_aload_n S (pc := 9) dX8_convert_9 rfl (lv_at hl 1 rfl) ?_
  refine z_get S (pc := 10) B iX8_convert_X8 0 rfl rfl 0 (by decide) rfl rfl (by decide +kernel) dX8_convert_10 ?_
  refine z_iload_n S (pc := 13) dX8_convert_13 rfl (lv_at hl 0 rfl) ?_
  refine z_lconst S (pc := 14) (x := 0) dX8_convert_14 rfl ?_
  refine z_last S (pc := 15) B 1 2 rfl rfl (k := 17) rfl (by decide) (by decide) dX8_convert_15 (wn := [cMod a p1 p2 p3 p4 p5 p6 pm ig mo rd wr sm, cAt E p1 (up (up (up σ 15 0) 16 0) 17 0) ρ]) (by rw [lmu _ _ (by decide)]; rfl) (fun H locs B => ?_)
  refine lv_iinc (v := iI (18)) (lv' := [(2, .int (iI 18)), (0, .ref a), (1, .int (iI 1))]) S.1 S.2.1 (pc := 16) dX8_convert_16 hl (k := 0) rfl (by decide) (by decide) rfl (fun ls hl => ?_)
  refine lv_goto S.1 S.2.1 (pc := 19) (tgt := 3) dX8_convert_19 rfl ?_
  refine z_iload_n S (pc := 3) dX8_convert_3 rfl (lv_at hl 0 rfl) ?_
  refine z_bipush S (pc := 4) dX8_convert_4 rfl ?_
  refine z_icmp_ge S (pc := 6) (tgt := 22) (by omega) (by omega) dX8_convert_6 rfl (fun c4 => absurd c4 (by omega)) (fun c4 => ?_)
  refine z_aload_n S (pc := 9) dX8_convert_9 rfl (lv_at hl 1 rfl) ?_
  refine z_get S (pc := 10) B iX8_convert_X8 0 rfl rfl 0 (by decide) rfl rfl (by decide +kernel) dX8_convert_10 ?_
  refine z_iload_n S (pc := 13) dX8_convert_13 rfl (lv_at hl 0 rfl) ?_
  refine z_lconst S (pc := 14) (x := 0) dX8_convert_14 rfl ?_
  refine z_last S (pc := 15) B 1 2 rfl rfl (k := 18) rfl (by decide) (by decide) dX8_convert_15 (wn := [cMod a p1 p2 p3 p4 p5 p6 pm ig mo rd wr sm, cAt E p1 (up (up (up (up σ 15 0) 16 0) 17 0) 18 0) ρ]) (by rw [lmu _ _ (by decide)]; rfl) (fun H locs B => ?_)
  refine lv_iinc (v := iI (19)) (lv' := [(2, .int (iI 19)), (0, .ref a), (1, .int (iI 1))]) S.1 S.2.1 (pc := 16) dX8_convert_16 hl (k := 0) rfl (by decide) (by decide) rfl (fun ls hl => ?_)
  refine lv_goto S.1 S.2.1 (pc := 19) (tgt := 3) dX8_convert_19 rfl ?_
  refine z_iload_n S (pc := 3) dX8_convert_3 rfl (lv_at hl 0 rfl) ?_
  refine z_bipush S (pc := 4) dX8_convert_4 rfl ?_
  refine z_icmp_ge S (pc := 6) (tgt := 22) (by omega) (by omega) dX8_convert_6 rfl (fun c5 => absurd c5 (by omega)) (fun c5 => ?_)
  refine z_aload_n S (pc := 9) dX8_convert_9 rfl (lv_at hl 1 rfl) ?_
  refine z_get S (pc := 10) B iX8_convert_X8 0 rfl rfl 0 (by decide) rfl rfl (by decide +kernel) dX8_convert_10 ?_
  refine z_iload_n S (pc := 13) dX8_convert_13 rfl (lv_at hl 0 rfl) ?_
  refine z_lconst S (pc := 14) (x := 0) dX8_convert_14 rfl ?_
  refine z_last S (pc := 15) B 1 2 rfl rfl (k := 19) rfl (by decide) (by decide) dX8_convert_15 (wn := [cMod a p1 p2 p3 p4 p5 p6 pm ig mo rd wr sm, cAt E p1 (up (up (up (up (up σ 15 0) 16 0) 17 0) 18 0) 19 0) ρ]) (by rw [lmu _ _ (by decide)]; rfl) (fun H locs B => ?_)
  refine lv_iinc (v := iI (20)) (lv' := [(2, .int (iI 20)), (0, .ref a), (1, .int (iI 1))]) S.1 S.2.1 (pc := 16) dX8_convert_16 hl (k := 0) rfl (by decide) (by decide) rfl (fun ls hl => ?_)
  refine lv_goto S.1 S.2.1 (pc := 19) (tgt := 3) dX8_convert_19 rfl ?_
  refine z_iload_n S (pc := 3) dX8_convert_3 rfl (lv_at hl 0 rfl) ?_
  refine z_bipush S (pc := 4) dX8_convert_4 rfl ?_
  refine z_icmp_ge S (pc := 6) (tgt := 22) (by omega) (by omega) dX8_convert_6 rfl (fun c6 => absurd c6 (by omega)) (fun c6 => ?_)
  refine z_aload_n S (pc := 9) dX8_convert_9 rfl (lv_at hl 1 rfl) ?_
  refine z_get S (pc := 10) B iX8_convert_X8 0 rfl rfl 0 (by decide) rfl rfl (by decide +kernel) dX8_convert_10 ?_
  refine z_iload_n S (pc := 13) dX8_convert_13 rfl (lv_at hl 0 rfl) ?_
  refine z_lconst S (pc := 14) (x := 0) dX8_convert_14 rfl ?_
  refine z_last S (pc := 15) B 1 2 rfl rfl (k := 20) rfl (by decide) (by decide) dX8_convert_15 (wn := [cMod a p1 p2 p3 p4 p5 p6 pm ig mo rd wr sm, cAt E p1 (up (up (up (up (up (up σ 15 0) 16 0) 17 0) 18 0) 19 0) 20 0) ρ]) (by rw [lmu _ _ (by decide)]; rfl) (fun H locs B => ?_)
  refine lv_iinc (v := iI (21)) (lv' := [(2, .int (iI 21)), (0, .ref a), (1, .int (iI 1))]) S.1 S.2.1 (pc := 16) dX8_convert_16 hl (k := 0) rfl (by decide) (by decide) rfl (fun ls hl => ?_)
  refine lv_goto S.1 S.2.1 (pc := 19) (tgt := 3) dX8_convert_19 rfl ?_
  refine z_iload_n S (pc := 3) dX8_convert_3 rfl (lv_at hl 0 rfl) ?_
  refine z_bipush S (pc := 4) dX8_convert_4 rfl ?_
  refine z_icmp_ge S (pc := 6) (tgt := 22) (by omega) (by omega) dX8_convert_6 rfl (fun c7 => absurd c7 (by omega)) (fun c7 => ?_)
  refine z_aload_n S (pc := 9) dX8_convert_9 rfl (lv_at hl 1 rfl) ?_
  refine z_get S (pc := 10) B iX8_convert_X8 0 rfl rfl 0 (by decide) rfl rfl (by decide +kernel) dX8_convert_10 ?_
  refine z_iload_n S (pc := 13) dX8_convert_13 rfl (lv_at hl 0 rfl) ?_
  refine z_lconst S (pc := 14) (x := 0) dX8_convert_14 rfl ?_
  refine z_last S (pc := 15) B 1 2 rfl rfl (k := 21) rfl (by decide) (by decide) dX8_convert_15 (wn := [cMod a p1 p2 p3 p4 p5 p6 pm ig mo rd wr sm, cAt E p1 (up (up (up (up (up (up (up σ 15 0) 16 0) 17 0) 18 0) 19 0) 20 0) 21 0) ρ]) (by rw [lmu _ _ (by decide)]; rfl) (fun H locs B => ?_)
  refine lv_iinc (v := iI (22)) (lv' := [(2, .int (iI 22)), (0, .ref a), (1, .int (iI 1))]) S.1 S.2.1 (pc := 16) dX8_convert_16 hl (k := 0) rfl (by decide) (by decide) rfl (fun ls hl => ?_)
  refine lv_goto S.1 S.2.1 (pc := 19) (tgt := 3) dX8_convert_19 rfl ?_
  refine z_iload_n S (pc := 3) dX8_convert_3 rfl (lv_at hl 0 rfl) ?_
  refine z_bipush S (pc := 4) dX8_convert_4 rfl ?_
  refine z_icmp_ge S (pc := 6) (tgt := 22) (by omega) (by omega) dX8_convert_6 rfl (fun c8 => ?_) (fun c8 => absurd c8 (by omega))
  refine z_aload_n S (pc := 22) dX8_convert_22 rfl (lv_at hl 1 rfl) ?_
  refine z_get S (pc := 23) B iX8_convert_X8 0 rfl rfl 0 (by decide) rfl rfl (by decide +kernel) dX8_convert_23 ?_
  refine z_bipush S (pc := 26) dX8_convert_26 rfl ?_
  refine z_lconst S (pc := 28) (x := 1) dX8_convert_28 rfl ?_
  refine z_last S (pc := 29) B 1 2 rfl rfl (k := 22) rfl (by decide) (by decide) dX8_convert_29 (wn := [cMod a p1 p2 p3 p4 p5 p6 pm ig mo rd wr sm, cAt E p1 (up (up (up (up (up (up (up (up σ 15 0) 16 0) 17 0) 18 0) 19 0) 20 0) 21 0) 22 1) ρ]) (by rw [lmu _ _ (by decide)]; rfl) (fun H locs B => ?_)
  refine z_aload_n S (pc := 30) dX8_convert_30 rfl (lv_at hl 1 rfl) ?_
  refine z_lconst S (pc := 31) (x := 0) dX8_convert_31 rfl ?_
  refine z_put S (pc := 32) B iX8_convert_X8 tyX8_ok nmX8 0 rfl rfl 6 (by decide) rfl (by decide +kernel) (ty := .long) (by decide +kernel) rfl rfl (Nat.le_of_ble_eq_true rfl) dX8_convert_32 (wn := [cMod a p1 p2 p3 p4 p5 p6 pm 0 mo rd wr sm, cAt E p1 (up (up (up (up (up (up (up (up σ 15 0) 16 0) 17 0) 18 0) 19 0) 20 0) 21 0) 22 1) ρ]) rfl (fun H locs B => ?_)
  refine z_aload_n S (pc := 35) dX8_convert_35 rfl (lv_at hl 1 rfl) ?_
  refine z_iload_n S (pc := 36) dX8_convert_36 rfl (lv_at hl 2 rfl) ?_
  refine z_callV S (pc := 37) B (wr := []) (wn := fun _ => [cMod a p1 p2 p3 p4 p5 p6 pm ((cvU (up (up (up (up (up (up (up (up σ 15 0) 16 0) 17 0) 18 0) 19 0) 20 0) 21 0) 22 1) 0).1) mo rd wr sm, cAt E p1 (pU (up (up (up (up (up (up (up (up σ 15 0) 16 0) 17 0) 18 0) 19 0) 20 0) 21 0) 22 1) (cvU (up (up (up (up (up (up (up (up σ 15 0) 16 0) 17 0) 18 0) 19 0) 20 0) 21 0) 22 1) 0).2.2.1 (cvU (up (up (up (up (up (up (up (up σ 15 0) 16 0) 17 0) 18 0) 19 0) 20 0) 21 0) 22 1) 0).2.2.2.1 (cvU (up (up (up (up (up (up (up (up σ 15 0) 16 0) 17 0) 18 0) 19 0) 20 0) 21 0) 22 1) 0).2.2.2.2 (cvU (up (up (up (up (up (up (up (up σ 15 0) 16 0) 17 0) 18 0) 19 0) 20 0) 21 0) 22 1) 0).2.1) ρ]) (st1 := fun _ => []) (As := [.int (iI 1)]) (mX8_runUp_1 l E a p1 p2 p3 p4 p5 p6 (up (up (up (up (up (up (up (up σ 15 0) 16 0) 17 0) 18 0) 19 0) 20 0) 21 0) 22 1) ρ pm 0 mo rd wr sm (show Sets (up (up (up (up (up (up (up (up σ 15 0) 16 0) 17 0) 18 0) 19 0) 20 0) 21 0) 22 1) from by assumption) (show 0 ≤ σ 11 ∧ σ 11 ≤ 2100000000 from by omega) (show 0 = 0 from by rfl) (show 0 = 0 from by rfl) (show 0 = 0 from by rfl) (show 0 = 0 from by rfl)) gX8_convert_X8_runUp 1 rfl (by decide +kernel) ⟨Nat.le_of_ble_eq_true rfl, Nat.le_of_ble_eq_true rfl, Nat.le_of_ble_eq_true rfl, Nat.le_of_ble_eq_true rfl⟩ 0 rfl (q := (RX8, TX8, 12)) rfl rfl [0, 1] [] [0, 1] rfl rfl ⟨rfl, rfl, rfl, by decide⟩ (fun _ => rfl) rfl (fun _ => rfl) hl.1 (Nat.le_of_ble_eq_true rfl) rfl dX8_convert_37 (fun _ _ H locs B => ?_)
  obtain ⟨r, hr1⟩ : ∃ r, cvU σ 0 = r := ⟨_, rfl⟩
  have eU : cvU (up (up (up (up (up (up (up (up σ 15 0) 16 0) 17 0) 18 0) 19 0) 20 0) 21 0) 22 1) 0 = r := hr1
  rw [eU] at B
  have hb1 := cvU_bd σ 0 h5
  rw [hr1] at hb1
  refine z_aload_n S (pc := 40) dX8_convert_40 rfl (lv_at hl 1 rfl) ?_
  refine z_get S (pc := 41) B iX8_convert_X8 0 rfl rfl 6 (by decide) rfl rfl (by decide +kernel) dX8_convert_41 ?_
  refine z_callS S (pc := 44) B (wr := [cMod a p1 p2 p3 p4 p5 p6 pm r.1 mo rd wr sm, cAt E p1 (pU (up (up (up (up (up (up (up (up σ 15 0) 16 0) 17 0) 18 0) 19 0) 20 0) 21 0) 22 1) r.2.2.1 r.2.2.2.1 r.2.2.2.2 r.2.1) ρ]) (wn := fun _ => [cMod a p1 p2 p3 p4 p5 p6 pm r.1 mo rd wr sm, cAt E p1 (pU (up (up (up (up (up (up (up (up σ 15 0) 16 0) 17 0) 18 0) 19 0) 20 0) 21 0) 22 1) r.2.2.1 r.2.2.2.1 r.2.2.2.2 r.2.1) ρ]) (st1 := fun _ => [.int (iI (sg r.1))]) (As := [.long (iL r.1)]) (mX8_signOf l E r.1 (show inL r.1 from by omega)) gX8_convert_X8_signOf 1 rfl (by decide +kernel) ⟨Nat.le_of_ble_eq_true rfl, Nat.le_of_ble_eq_true rfl, Nat.le_of_ble_eq_true rfl, Nat.le_of_ble_eq_true rfl⟩ [] [0, 1] [0, 1] rfl rfl ⟨rfl, rfl, rfl, by decide⟩ (fun _ => rfl) rfl (fun _ => rfl) hl.1 (Nat.le_of_ble_eq_true rfl) rfl dX8_convert_44 (fun _ _ H locs B => ?_)
  refine lv_istore_n (lv' := [(2, .int (iI (sg r.1))), (0, .ref a), (1, .int (iI 1))]) S.1 S.2.1 (pc := 47) dX8_convert_47 rfl hl (by decide) rfl (fun ls hl => ?_)
  have hq : sg r.1 = 0 ∨ sg r.1 = 1 ∨ sg r.1 = -1 := by rcases sg_c r.1 with h | h | h <;> omega
  obtain ⟨q, hqe⟩ : ∃ q, sg r.1 = q := ⟨_, rfl⟩
  rw [hqe] at hq
  have hl : lv_has ls 3 [(2, .int (iI (sg r.1))), (0, .ref a), (1, .int (iI 1))] := hl
  rw [hqe] at hl
  obtain ⟨τ, hτ⟩ : ∃ τ, pU (up (up (up (up (up (up (up (up σ 15 0) 16 0) 17 0) 18 0) 19 0) 20 0) 21 0) 22 1) r.2.2.1 r.2.2.2.1 r.2.2.2.2 r.2.1 = τ := ⟨_, rfl⟩
  rw [hτ] at B
  have t11 : τ 11 = r.2.2.2.2 + 0 := by rw [← hτ, Int.add_zero]; rfl
  have t20 : τ 20 = r.2.1 := by rw [← hτ]; rfl
  have t16 : τ 16 = 0 := by rw [← hτ]; rfl
  have t17 : τ 17 = 0 := by rw [← hτ]; rfl
  have t5 : τ 5 = σ 5 := by rw [← hτ]; rfl
  have t18 : τ 18 = r.2.2.1 := by rw [← hτ]; rfl
  have t19 : τ 19 = r.2.2.2.1 := by rw [← hτ]; rfl
  have t22 : τ 22 = 1 := by rw [← hτ]; rfl
  have to : ∀ j, j ≠ 11 ∧ (j < 15 ∨ 22 < j) → τ j = σ j := fun j hj => by rw [← hτ, pU_o hj, up_o (by omega), up_o (by omega), up_o (by omega), up_o (by omega), up_o (by omega), up_o (by omega), up_o (by omega), up_o (by omega)]
  rw [← pD_self t11 t20 t16] at B
  obtain ⟨r2, hr2⟩ : ∃ r2, dnL (3 * σ 5).toNat q r.1 r.2.1 0 = r2 := ⟨_, rfl⟩
  have hb2 := dnL_bd (3 * σ 5).toNat q r.1 r.2.1 0 1677721600 hq (by omega) hb1.1 hb1.2.1 (by omega)
  rw [hr2] at hb2
  have hend := dnL_end (3 * σ 5).toNat q r.1 r.2.1 0 hq (fun h => by have := sg_c r.1; omega) (Or.inl hqe)
  rw [hr2] at hend
  refine lpX8_convert_d1 E S a p1 p2 p3 p4 p5 p6 τ ρ pm mo rd wr sm q r.2.2.2.2 hq (by rw [t5]; exact h5) (by omega) (3 * σ 5).toNat r.1 r.2.1 0 hb1.1 hb1.2.1 (by rw [t5]; omega) r2 hr2 (fun H locs ls B hl => ?_) _ _ _ B (lv_sub hl [1, 2, 0] rfl)
  have hsr := sg_c r2.1
  refine z_aload_n S (pc := 109) dX8_convert_109 rfl (lv_at hl 0 rfl) ?_
  refine z_iload_n S (pc := 110) dX8_convert_110 rfl (lv_at hl 2 rfl) ?_
  refine z_if_eq S (pc := 111) (tgt := 129) (by omega) dX8_convert_111 rfl (fun c9 => ?_) (fun c9 => ?_)
  · refine z_iconst S (pc := 129) dX8_convert_129 ?_
    refine z_put S (pc := 130) B iX8_convert_X8 tyX8_ok nmX8 0 rfl rfl 7 (by decide) rfl (by decide +kernel) (ty := .boolean) (by decide +kernel) rfl rfl (Nat.le_of_ble_eq_true rfl) dX8_convert_130 (wn := [cMod a p1 p2 p3 p4 p5 p6 pm r2.1 0 rd wr sm, cAt E p1 (pD τ (r.2.2.2.2 + r2.2.2) r2.2.1 r2.2.2) ρ]) rfl (fun H locs B => ?_)
    obtain ⟨r3, hr3⟩ : ∃ r3, fnL 16 q r2.1 r2.2.1 0 = r3 := ⟨_, rfl⟩
    have hb3 := fnL_bd 16 q r2.1 r2.2.1 0 1677721600 hq (by omega) hb2.1 hb2.2.1 (by omega)
    rw [hr3] at hb3
    obtain ⟨υ, hυ⟩ : ∃ υ, pD τ (r.2.2.2.2 + r2.2.2) r2.2.1 r2.2.2 = υ := ⟨_, rfl⟩
    rw [hυ] at B
    have u11 : υ 11 = r.2.2.2.2 + r2.2.2 + 0 := by rw [← hυ, Int.add_zero]; rfl
    have u20 : υ 20 = r2.2.1 := by rw [← hυ]; rfl
    have u17 : υ 17 = 0 := by rw [← hυ]; exact t17
    have u5 : υ 5 = σ 5 := by rw [← hυ]; exact t5
    have u16 : υ 16 = r2.2.2 := by rw [← hυ]; rfl
    have u18 : υ 18 = r.2.2.1 := by rw [← hυ]; exact t18
    have u19 : υ 19 = r.2.2.2.1 := by rw [← hυ]; exact t19
    have u22 : υ 22 = 1 := by rw [← hυ]; exact t22
    have uo : ∀ j, j ≠ 11 ∧ (j < 15 ∨ 22 < j) → υ j = σ j := fun j hj => by rw [← hυ, pD_o hj]; exact to j hj
    rw [← pF_self u11 u20 u17] at B
    have ho : ovr σ 0 = 0 := by unfold ovr cvD cvS; rw [hr1, hqe, hr2]; exact bI_f (fun z => by omega)
    refine lpX8_convert_f1 E S a p1 p2 p3 p4 p5 p6 υ ρ pm rd wr sm q (r.2.2.2.2 + r2.2.2) hq (by rw [u5]; exact h5) (by omega) 16 r2.1 r2.2.1 0 hb2.1 hb2.2.1 (by omega) ⟨fun h => by omega, fun h => by omega, fun h => by omega⟩ r3 hr3 (fun H locs ls B hl => ?_) _ _ _ B (lv_sub hl [0, 1, 2] rfl)
    refine z_aload_n S (pc := 184) dX8_convert_184 rfl (lv_at hl 0 rfl) ?_
    refine z_get S (pc := 185) B iX8_convert_X8 0 rfl rfl 0 (by decide) rfl rfl (by decide +kernel) dX8_convert_185 ?_
    refine z_bipush S (pc := 188) dX8_convert_188 rfl ?_
    refine z_ldc2 S (pc := 190) (x := 16) (by decide +kernel) rfl dX8_convert_190 ?_
    refine z_aload_n S (pc := 193) dX8_convert_193 rfl (lv_at hl 0 rfl) ?_
    refine z_get S (pc := 194) B iX8_convert_X8 0 rfl rfl 0 (by decide) rfl rfl (by decide +kernel) dX8_convert_194 ?_
    refine z_bipush S (pc := 197) dX8_convert_197 rfl ?_
    refine z_lald S (pc := 199) B 1 2 rfl rfl (k := 18) rfl (by decide) (by decide) (v := .long (iL (υ 18))) rfl dX8_convert_199 ?_
    refine z_aload_n S (pc := 200) dX8_convert_200 rfl (lv_at hl 0 rfl) ?_
    refine z_get S (pc := 201) B iX8_convert_X8 0 rfl rfl 0 (by decide) rfl rfl (by decide +kernel) dX8_convert_201 ?_
    refine z_bipush S (pc := 204) dX8_convert_204 rfl ?_
    refine z_lald S (pc := 206) B 1 2 rfl rfl (k := 19) rfl (by decide) (by decide) (v := .long (iL (υ 19))) rfl dX8_convert_206 ?_
    refine z_lsub S (pc := 207) dX8_convert_207 ?_
    refine z_lmul S (pc := 208) dX8_convert_208 ?_
    refine z_iload_n S (pc := 209) dX8_convert_209 rfl (lv_at hl 2 rfl) ?_
    refine z_i2l S (pc := 210) (by omega) dX8_convert_210 ?_
    refine z_ldc2 S (pc := 211) (x := 16) (by decide +kernel) rfl dX8_convert_211 ?_
    refine z_aload_n S (pc := 214) dX8_convert_214 rfl (lv_at hl 0 rfl) ?_
    refine z_get S (pc := 215) B iX8_convert_X8 0 rfl rfl 0 (by decide) rfl rfl (by decide +kernel) dX8_convert_215 ?_
    refine z_bipush S (pc := 218) dX8_convert_218 rfl ?_
    refine z_lald S (pc := 220) B 1 2 rfl rfl (k := 16) rfl (by decide) (by decide) (v := .long (iL (υ 16))) rfl dX8_convert_220 ?_
    refine z_lmul S (pc := 221) dX8_convert_221 ?_
    refine z_aload_n S (pc := 222) dX8_convert_222 rfl (lv_at hl 0 rfl) ?_
    refine z_get S (pc := 223) B iX8_convert_X8 0 rfl rfl 0 (by decide) rfl rfl (by decide +kernel) dX8_convert_223 ?_
    refine z_bipush S (pc := 226) dX8_convert_226 rfl ?_
    refine z_lald S (pc := 228) B 1 2 rfl rfl (k := 17) rfl (by decide) (by decide) (v := .long (iL r3.2.2)) rfl dX8_convert_228 ?_
    refine z_lsub S (pc := 229) dX8_convert_229 ?_
    refine z_lmul S (pc := 230) dX8_convert_230 ?_
    refine z_ladd S (pc := 231) dX8_convert_231 ?_
    refine z_last S (pc := 232) B 1 2 rfl rfl (k := 15) rfl (by decide) (by decide) dX8_convert_232 (wn := [cMod a p1 p2 p3 p4 p5 p6 pm r3.1 0 rd wr sm, cAt E p1 (up (pF υ (r.2.2.2.2 + r2.2.2 + r3.2.2) r3.2.1 r3.2.2) 15 ((16 * ((υ 18) - (υ 19))) + (q * ((16 * (υ 16)) - r3.2.2)))) ρ]) (by rw [lmu _ _ (by decide)]; rfl) (fun H locs B => ?_)
    refine z_aload_n S (pc := 233) dX8_convert_233 rfl (lv_at hl 0 rfl) ?_
    refine z_get S (pc := 234) B iX8_convert_X8 0 rfl rfl 0 (by decide) rfl rfl (by decide +kernel) dX8_convert_234 ?_
    refine z_bipush S (pc := 237) dX8_convert_237 rfl ?_
    refine z_aload_n S (pc := 239) dX8_convert_239 rfl (lv_at hl 0 rfl) ?_
    refine z_get S (pc := 240) B iX8_convert_X8 0 rfl rfl 6 (by decide) rfl rfl (by decide +kernel) dX8_convert_240 ?_
    refine z_last S (pc := 243) B 1 2 rfl rfl (k := 21) rfl (by decide) (by decide) dX8_convert_243 (wn := [cMod a p1 p2 p3 p4 p5 p6 pm r3.1 0 rd wr sm, cAt E p1 (up (up (pF υ (r.2.2.2.2 + r2.2.2 + r3.2.2) r3.2.1 r3.2.2) 15 ((16 * ((υ 18) - (υ 19))) + (q * ((16 * (υ 16)) - r3.2.2)))) 21 r3.1) ρ]) (by rw [lmu _ _ (by decide)]; rfl) (fun H locs B => ?_)
    have hcF : cvF σ 0 = r3 := by unfold cvF cvD cvS; rw [hr1, hqe, hr2]; exact hr3
    have hcD : cvD σ 0 = r2 := by unfold cvD cvS; rw [hr1, hqe, hr2]
    have hcS : cvS σ 0 = q := by unfold cvS; rw [hr1, hqe]
    have hfun : up (up (pF υ (r.2.2.2.2 + r2.2.2 + r3.2.2) r3.2.1 r3.2.2) 15 ((16 * ((υ 18) - (υ 19))) + (q * ((16 * (υ 16)) - r3.2.2)))) 21 r3.1 = cvt σ 0 := cvt_fun (fun j h1 h2 => by rw [up_o (by omega), up_o (by omega), pF_o ⟨h1, h2⟩, uo j ⟨h1, h2⟩]) (by show r.2.2.2.2 + r2.2.2 + r3.2.2 = (cvU σ 0).2.2.2.2 + ((cvD σ 0).2.2 + (cvF σ 0).2.2); rw [hr1, hcD, hcF]; show r.2.2.2.2 + r2.2.2 + r3.2.2 = r.2.2.2.2 + (r2.2.2 + r3.2.2); omega) (by show (16 * ((υ 18) - (υ 19))) + (q * ((16 * (υ 16)) - r3.2.2)) = cnt σ 0; unfold cnt; rw [hr1, hcD, hcF, hcS, u18, u19, u16]) (by show υ 16 = (cvD σ 0).2.2; rw [u16, hcD]) (by show r3.2.2 = (cvF σ 0).2.2; rw [hcF]) (by show υ 18 = (cvU σ 0).2.2.1; rw [u18, hr1]) (by show υ 19 = (cvU σ 0).2.2.2.1; rw [u19, hr1]) (by show r3.2.1 = (cvF σ 0).2.1; rw [hcF]) (by show r3.1 = (cvF σ 0).1; rw [hcF]) u22
    rw [hfun] at B
    exact z_return S hr hlk B () trivial rfl (by rw [hcF, ho]) (pc := 244) dX8_convert_244
  · refine z_aload_n S (pc := 114) dX8_convert_114 rfl (lv_at hl 0 rfl) ?_
    refine z_get S (pc := 115) B iX8_convert_X8 0 rfl rfl 6 (by decide) rfl rfl (by decide +kernel) dX8_convert_115 ?_
    refine z_callS S (pc := 118) B (wr := [cMod a p1 p2 p3 p4 p5 p6 pm r2.1 mo rd wr sm, cAt E p1 (pD τ (r.2.2.2.2 + r2.2.2) r2.2.1 r2.2.2) ρ]) (wn := fun _ => [cMod a p1 p2 p3 p4 p5 p6 pm r2.1 mo rd wr sm, cAt E p1 (pD τ (r.2.2.2.2 + r2.2.2) r2.2.1 r2.2.2) ρ]) (st1 := fun _ => [.int (iI (sg r2.1)), .ref a]) (As := [.long (iL r2.1)]) (mX8_signOf l E r2.1 (show inL r2.1 from by omega)) gX8_convert_X8_signOf 1 rfl (by decide +kernel) ⟨Nat.le_of_ble_eq_true rfl, Nat.le_of_ble_eq_true rfl, Nat.le_of_ble_eq_true rfl, Nat.le_of_ble_eq_true rfl⟩ [] [0, 1] [0, 1] rfl rfl ⟨rfl, rfl, rfl, by decide⟩ (fun _ => rfl) rfl (fun _ => rfl) hl.1 (Nat.le_of_ble_eq_true rfl) rfl dX8_convert_118 (fun _ _ H locs B => ?_)
    refine z_iload_n S (pc := 121) dX8_convert_121 rfl (lv_at hl 2 rfl) ?_
    refine z_icmp_ne S (pc := 122) (tgt := 129) (by omega) (by omega) dX8_convert_122 rfl (fun c10 => ?_) (fun c10 => ?_)
    · refine z_iconst S (pc := 129) dX8_convert_129 ?_
      refine z_put S (pc := 130) B iX8_convert_X8 tyX8_ok nmX8 0 rfl rfl 7 (by decide) rfl (by decide +kernel) (ty := .boolean) (by decide +kernel) rfl rfl (Nat.le_of_ble_eq_true rfl) dX8_convert_130 (wn := [cMod a p1 p2 p3 p4 p5 p6 pm r2.1 0 rd wr sm, cAt E p1 (pD τ (r.2.2.2.2 + r2.2.2) r2.2.1 r2.2.2) ρ]) rfl (fun H locs B => ?_)
      obtain ⟨r3, hr3⟩ : ∃ r3, fnL 16 q r2.1 r2.2.1 0 = r3 := ⟨_, rfl⟩
      have hb3 := fnL_bd 16 q r2.1 r2.2.1 0 1677721600 hq (by omega) hb2.1 hb2.2.1 (by omega)
      rw [hr3] at hb3
      obtain ⟨υ, hυ⟩ : ∃ υ, pD τ (r.2.2.2.2 + r2.2.2) r2.2.1 r2.2.2 = υ := ⟨_, rfl⟩
      rw [hυ] at B
      have u11 : υ 11 = r.2.2.2.2 + r2.2.2 + 0 := by rw [← hυ, Int.add_zero]; rfl
      have u20 : υ 20 = r2.2.1 := by rw [← hυ]; rfl
      have u17 : υ 17 = 0 := by rw [← hυ]; exact t17
      have u5 : υ 5 = σ 5 := by rw [← hυ]; exact t5
      have u16 : υ 16 = r2.2.2 := by rw [← hυ]; rfl
      have u18 : υ 18 = r.2.2.1 := by rw [← hυ]; exact t18
      have u19 : υ 19 = r.2.2.2.1 := by rw [← hυ]; exact t19
      have u22 : υ 22 = 1 := by rw [← hυ]; exact t22
      have uo : ∀ j, j ≠ 11 ∧ (j < 15 ∨ 22 < j) → υ j = σ j := fun j hj => by rw [← hυ, pD_o hj]; exact to j hj
      rw [← pF_self u11 u20 u17] at B
      have ho : ovr σ 0 = 0 := by unfold ovr cvD cvS; rw [hr1, hqe, hr2]; exact bI_f (fun z => by omega)
      refine lpX8_convert_f1 E S a p1 p2 p3 p4 p5 p6 υ ρ pm rd wr sm q (r.2.2.2.2 + r2.2.2) hq (by rw [u5]; exact h5) (by omega) 16 r2.1 r2.2.1 0 hb2.1 hb2.2.1 (by omega) ⟨fun h => by omega, fun h => by omega, fun h => by omega⟩ r3 hr3 (fun H locs ls B hl => ?_) _ _ _ B (lv_sub hl [0, 1, 2] rfl)
      refine z_aload_n S (pc := 184) dX8_convert_184 rfl (lv_at hl 0 rfl) ?_
      refine z_get S (pc := 185) B iX8_convert_X8 0 rfl rfl 0 (by decide) rfl rfl (by decide +kernel) dX8_convert_185 ?_
      refine z_bipush S (pc := 188) dX8_convert_188 rfl ?_
      refine z_ldc2 S (pc := 190) (x := 16) (by decide +kernel) rfl dX8_convert_190 ?_
      refine z_aload_n S (pc := 193) dX8_convert_193 rfl (lv_at hl 0 rfl) ?_
      refine z_get S (pc := 194) B iX8_convert_X8 0 rfl rfl 0 (by decide) rfl rfl (by decide +kernel) dX8_convert_194 ?_
      refine z_bipush S (pc := 197) dX8_convert_197 rfl ?_
      refine z_lald S (pc := 199) B 1 2 rfl rfl (k := 18) rfl (by decide) (by decide) (v := .long (iL (υ 18))) rfl dX8_convert_199 ?_
      refine z_aload_n S (pc := 200) dX8_convert_200 rfl (lv_at hl 0 rfl) ?_
      refine z_get S (pc := 201) B iX8_convert_X8 0 rfl rfl 0 (by decide) rfl rfl (by decide +kernel) dX8_convert_201 ?_
      refine z_bipush S (pc := 204) dX8_convert_204 rfl ?_
      refine z_lald S (pc := 206) B 1 2 rfl rfl (k := 19) rfl (by decide) (by decide) (v := .long (iL (υ 19))) rfl dX8_convert_206 ?_
      refine z_lsub S (pc := 207) dX8_convert_207 ?_
      refine z_lmul S (pc := 208) dX8_convert_208 ?_
      refine z_iload_n S (pc := 209) dX8_convert_209 rfl (lv_at hl 2 rfl) ?_
      refine z_i2l S (pc := 210) (by omega) dX8_convert_210 ?_
      refine z_ldc2 S (pc := 211) (x := 16) (by decide +kernel) rfl dX8_convert_211 ?_
      refine z_aload_n S (pc := 214) dX8_convert_214 rfl (lv_at hl 0 rfl) ?_
      refine z_get S (pc := 215) B iX8_convert_X8 0 rfl rfl 0 (by decide) rfl rfl (by decide +kernel) dX8_convert_215 ?_
      refine z_bipush S (pc := 218) dX8_convert_218 rfl ?_
      refine z_lald S (pc := 220) B 1 2 rfl rfl (k := 16) rfl (by decide) (by decide) (v := .long (iL (υ 16))) rfl dX8_convert_220 ?_
      refine z_lmul S (pc := 221) dX8_convert_221 ?_
      refine z_aload_n S (pc := 222) dX8_convert_222 rfl (lv_at hl 0 rfl) ?_
      refine z_get S (pc := 223) B iX8_convert_X8 0 rfl rfl 0 (by decide) rfl rfl (by decide +kernel) dX8_convert_223 ?_
      refine z_bipush S (pc := 226) dX8_convert_226 rfl ?_
      refine z_lald S (pc := 228) B 1 2 rfl rfl (k := 17) rfl (by decide) (by decide) (v := .long (iL r3.2.2)) rfl dX8_convert_228 ?_
      refine z_lsub S (pc := 229) dX8_convert_229 ?_
      refine z_lmul S (pc := 230) dX8_convert_230 ?_
      refine z_ladd S (pc := 231) dX8_convert_231 ?_
      refine z_last S (pc := 232) B 1 2 rfl rfl (k := 15) rfl (by decide) (by decide) dX8_convert_232 (wn := [cMod a p1 p2 p3 p4 p5 p6 pm r3.1 0 rd wr sm, cAt E p1 (up (pF υ (r.2.2.2.2 + r2.2.2 + r3.2.2) r3.2.1 r3.2.2) 15 ((16 * ((υ 18) - (υ 19))) + (q * ((16 * (υ 16)) - r3.2.2)))) ρ]) (by rw [lmu _ _ (by decide)]; rfl) (fun H locs B => ?_)
      refine z_aload_n S (pc := 233) dX8_convert_233 rfl (lv_at hl 0 rfl) ?_
      refine z_get S (pc := 234) B iX8_convert_X8 0 rfl rfl 0 (by decide) rfl rfl (by decide +kernel) dX8_convert_234 ?_
      refine z_bipush S (pc := 237) dX8_convert_237 rfl ?_
      refine z_aload_n S (pc := 239) dX8_convert_239 rfl (lv_at hl 0 rfl) ?_
      refine z_get S (pc := 240) B iX8_convert_X8 0 rfl rfl 6 (by decide) rfl rfl (by decide +kernel) dX8_convert_240 ?_
      refine z_last S (pc := 243) B 1 2 rfl rfl (k := 21) rfl (by decide) (by decide) dX8_convert_243 (wn := [cMod a p1 p2 p3 p4 p5 p6 pm r3.1 0 rd wr sm, cAt E p1 (up (up (pF υ (r.2.2.2.2 + r2.2.2 + r3.2.2) r3.2.1 r3.2.2) 15 ((16 * ((υ 18) - (υ 19))) + (q * ((16 * (υ 16)) - r3.2.2)))) 21 r3.1) ρ]) (by rw [lmu _ _ (by decide)]; rfl) (fun H locs B => ?_)
      have hcF : cvF σ 0 = r3 := by unfold cvF cvD cvS; rw [hr1, hqe, hr2]; exact hr3
      have hcD : cvD σ 0 = r2 := by unfold cvD cvS; rw [hr1, hqe, hr2]
      have hcS : cvS σ 0 = q := by unfold cvS; rw [hr1, hqe]
      have hfun : up (up (pF υ (r.2.2.2.2 + r2.2.2 + r3.2.2) r3.2.1 r3.2.2) 15 ((16 * ((υ 18) - (υ 19))) + (q * ((16 * (υ 16)) - r3.2.2)))) 21 r3.1 = cvt σ 0 := cvt_fun (fun j h1 h2 => by rw [up_o (by omega), up_o (by omega), pF_o ⟨h1, h2⟩, uo j ⟨h1, h2⟩]) (by show r.2.2.2.2 + r2.2.2 + r3.2.2 = (cvU σ 0).2.2.2.2 + ((cvD σ 0).2.2 + (cvF σ 0).2.2); rw [hr1, hcD, hcF]; show r.2.2.2.2 + r2.2.2 + r3.2.2 = r.2.2.2.2 + (r2.2.2 + r3.2.2); omega) (by show (16 * ((υ 18) - (υ 19))) + (q * ((16 * (υ 16)) - r3.2.2)) = cnt σ 0; unfold cnt; rw [hr1, hcD, hcF, hcS, u18, u19, u16]) (by show υ 16 = (cvD σ 0).2.2; rw [u16, hcD]) (by show r3.2.2 = (cvF σ 0).2.2; rw [hcF]) (by show υ 18 = (cvU σ 0).2.2.1; rw [u18, hr1]) (by show υ 19 = (cvU σ 0).2.2.2.1; rw [u19, hr1]) (by show r3.2.1 = (cvF σ 0).2.1; rw [hcF]) (by show r3.1 = (cvF σ 0).1; rw [hcF]) u22
      rw [hfun] at B
      exact z_return S hr hlk B () trivial rfl (by rw [hcF, ho]) (pc := 244) dX8_convert_244
    · refine z_iconst S (pc := 125) dX8_convert_125 ?_
      refine lv_goto S.1 S.2.1 (pc := 126) (tgt := 130) dX8_convert_126 rfl ?_
      refine z_put S (pc := 130) B iX8_convert_X8 tyX8_ok nmX8 0 rfl rfl 7 (by decide) rfl (by decide +kernel) (ty := .boolean) (by decide +kernel) rfl rfl (Nat.le_of_ble_eq_true rfl) dX8_convert_130 (wn := [cMod a p1 p2 p3 p4 p5 p6 pm r2.1 1 rd wr sm, cAt E p1 (pD τ (r.2.2.2.2 + r2.2.2) r2.2.1 r2.2.2) ρ]) rfl (fun H locs B => ?_)
      obtain ⟨r3, hr3⟩ : ∃ r3, fnL 16 q r2.1 r2.2.1 0 = r3 := ⟨_, rfl⟩
      have hb3 := fnL_bd 16 q r2.1 r2.2.1 0 1677721600 hq (by omega) hb2.1 hb2.2.1 (by omega)
      rw [hr3] at hb3
      obtain ⟨υ, hυ⟩ : ∃ υ, pD τ (r.2.2.2.2 + r2.2.2) r2.2.1 r2.2.2 = υ := ⟨_, rfl⟩
      rw [hυ] at B
      have u11 : υ 11 = r.2.2.2.2 + r2.2.2 + 0 := by rw [← hυ, Int.add_zero]; rfl
      have u20 : υ 20 = r2.2.1 := by rw [← hυ]; rfl
      have u17 : υ 17 = 0 := by rw [← hυ]; exact t17
      have u5 : υ 5 = σ 5 := by rw [← hυ]; exact t5
      have u16 : υ 16 = r2.2.2 := by rw [← hυ]; rfl
      have u18 : υ 18 = r.2.2.1 := by rw [← hυ]; exact t18
      have u19 : υ 19 = r.2.2.2.1 := by rw [← hυ]; exact t19
      have u22 : υ 22 = 1 := by rw [← hυ]; exact t22
      have uo : ∀ j, j ≠ 11 ∧ (j < 15 ∨ 22 < j) → υ j = σ j := fun j hj => by rw [← hυ, pD_o hj]; exact to j hj
      rw [← pF_self u11 u20 u17] at B
      have ho : ovr σ 0 = 1 := by unfold ovr cvD cvS; rw [hr1, hqe, hr2]; exact bI_t ⟨by omega, by omega⟩
      rw [fnL_o ⟨by omega, by omega⟩] at hr3
      subst hr3
      refine z_aload_n S (pc := 133) dX8_convert_133 rfl (lv_at hl 0 rfl) ?_
      refine z_get S (pc := 134) B iX8_convert_X8 0 rfl rfl 7 (by decide) rfl rfl (by decide +kernel) dX8_convert_134 ?_
      refine z_if_ne S (pc := 137) (tgt := 184) (by omega) dX8_convert_137 rfl (fun c11 => ?_) (fun c11 => absurd c11 (by omega))
      refine z_aload_n S (pc := 184) dX8_convert_184 rfl (lv_at hl 0 rfl) ?_
      refine z_get S (pc := 185) B iX8_convert_X8 0 rfl rfl 0 (by decide) rfl rfl (by decide +kernel) dX8_convert_185 ?_
      refine z_bipush S (pc := 188) dX8_convert_188 rfl ?_
      refine z_ldc2 S (pc := 190) (x := 16) (by decide +kernel) rfl dX8_convert_190 ?_
      refine z_aload_n S (pc := 193) dX8_convert_193 rfl (lv_at hl 0 rfl) ?_
      refine z_get S (pc := 194) B iX8_convert_X8 0 rfl rfl 0 (by decide) rfl rfl (by decide +kernel) dX8_convert_194 ?_
      refine z_bipush S (pc := 197) dX8_convert_197 rfl ?_
      refine z_lald S (pc := 199) B 1 2 rfl rfl (k := 18) rfl (by decide) (by decide) (v := .long (iL (υ 18))) rfl dX8_convert_199 ?_
      refine z_aload_n S (pc := 200) dX8_convert_200 rfl (lv_at hl 0 rfl) ?_
      refine z_get S (pc := 201) B iX8_convert_X8 0 rfl rfl 0 (by decide) rfl rfl (by decide +kernel) dX8_convert_201 ?_
      refine z_bipush S (pc := 204) dX8_convert_204 rfl ?_
      refine z_lald S (pc := 206) B 1 2 rfl rfl (k := 19) rfl (by decide) (by decide) (v := .long (iL (υ 19))) rfl dX8_convert_206 ?_
      refine z_lsub S (pc := 207) dX8_convert_207 ?_
      refine z_lmul S (pc := 208) dX8_convert_208 ?_
      refine z_iload_n S (pc := 209) dX8_convert_209 rfl (lv_at hl 2 rfl) ?_
      refine z_i2l S (pc := 210) (by omega) dX8_convert_210 ?_
      refine z_ldc2 S (pc := 211) (x := 16) (by decide +kernel) rfl dX8_convert_211 ?_
      refine z_aload_n S (pc := 214) dX8_convert_214 rfl (lv_at hl 0 rfl) ?_
      refine z_get S (pc := 215) B iX8_convert_X8 0 rfl rfl 0 (by decide) rfl rfl (by decide +kernel) dX8_convert_215 ?_
      refine z_bipush S (pc := 218) dX8_convert_218 rfl ?_
      refine z_lald S (pc := 220) B 1 2 rfl rfl (k := 16) rfl (by decide) (by decide) (v := .long (iL (υ 16))) rfl dX8_convert_220 ?_
      refine z_lmul S (pc := 221) dX8_convert_221 ?_
      refine z_aload_n S (pc := 222) dX8_convert_222 rfl (lv_at hl 0 rfl) ?_
      refine z_get S (pc := 223) B iX8_convert_X8 0 rfl rfl 0 (by decide) rfl rfl (by decide +kernel) dX8_convert_223 ?_
      refine z_bipush S (pc := 226) dX8_convert_226 rfl ?_
      refine z_lald S (pc := 228) B 1 2 rfl rfl (k := 17) rfl (by decide) (by decide) (v := .long (iL 0)) rfl dX8_convert_228 ?_
      refine z_lsub S (pc := 229) dX8_convert_229 ?_
      refine z_lmul S (pc := 230) dX8_convert_230 ?_
      refine z_ladd S (pc := 231) dX8_convert_231 ?_
      refine z_last S (pc := 232) B 1 2 rfl rfl (k := 15) rfl (by decide) (by decide) dX8_convert_232 (wn := [cMod a p1 p2 p3 p4 p5 p6 pm r2.1 1 rd wr sm, cAt E p1 (up (pF υ (r.2.2.2.2 + r2.2.2 + 0) r2.2.1 0) 15 ((16 * ((υ 18) - (υ 19))) + (q * ((16 * (υ 16)) - 0)))) ρ]) (by rw [lmu _ _ (by decide)]; rfl) (fun H locs B => ?_)
      refine z_aload_n S (pc := 233) dX8_convert_233 rfl (lv_at hl 0 rfl) ?_
      refine z_get S (pc := 234) B iX8_convert_X8 0 rfl rfl 0 (by decide) rfl rfl (by decide +kernel) dX8_convert_234 ?_
      refine z_bipush S (pc := 237) dX8_convert_237 rfl ?_
      refine z_aload_n S (pc := 239) dX8_convert_239 rfl (lv_at hl 0 rfl) ?_
      refine z_get S (pc := 240) B iX8_convert_X8 0 rfl rfl 6 (by decide) rfl rfl (by decide +kernel) dX8_convert_240 ?_
      refine z_last S (pc := 243) B 1 2 rfl rfl (k := 21) rfl (by decide) (by decide) dX8_convert_243 (wn := [cMod a p1 p2 p3 p4 p5 p6 pm r2.1 1 rd wr sm, cAt E p1 (up (up (pF υ (r.2.2.2.2 + r2.2.2 + 0) r2.2.1 0) 15 ((16 * ((υ 18) - (υ 19))) + (q * ((16 * (υ 16)) - 0)))) 21 r2.1) ρ]) (by rw [lmu _ _ (by decide)]; rfl) (fun H locs B => ?_)
      have hcF : cvF σ 0 = (r2.1, r2.2.1, (0 : Int)) := by unfold cvF cvD cvS; rw [hr1, hqe, hr2]; exact fnL_o ⟨by omega, by omega⟩
      have hcD : cvD σ 0 = r2 := by unfold cvD cvS; rw [hr1, hqe, hr2]
      have hcS : cvS σ 0 = q := by unfold cvS; rw [hr1, hqe]
      have hfun : up (up (pF υ (r.2.2.2.2 + r2.2.2 + 0) r2.2.1 0) 15 ((16 * ((υ 18) - (υ 19))) + (q * ((16 * (υ 16)) - 0)))) 21 r2.1 = cvt σ 0 := cvt_fun (fun j h1 h2 => by rw [up_o (by omega), up_o (by omega), pF_o ⟨h1, h2⟩, uo j ⟨h1, h2⟩]) (by show r.2.2.2.2 + r2.2.2 + 0 = (cvU σ 0).2.2.2.2 + ((cvD σ 0).2.2 + (cvF σ 0).2.2); rw [hr1, hcD, hcF]; show r.2.2.2.2 + r2.2.2 + 0 = r.2.2.2.2 + (r2.2.2 + 0); omega) (by show (16 * ((υ 18) - (υ 19))) + (q * ((16 * (υ 16)) - 0)) = cnt σ 0; unfold cnt; rw [hr1, hcD, hcF, hcS, u18, u19, u16]) (by show υ 16 = (cvD σ 0).2.2; rw [u16, hcD]) (by show 0 = (cvF σ 0).2.2; rw [hcF]) (by show υ 18 = (cvU σ 0).2.2.1; rw [u18, hr1]) (by show υ 19 = (cvU σ 0).2.2.2.1; rw [u19, hr1]) (by show r2.2.1 = (cvF σ 0).2.1; rw [hcF]) (by show r2.1 = (cvF σ 0).1; rw [hcF]) u22
      rw [hfun] at B
      exact z_return S hr hlk B () trivial rfl (by rw [hcF, ho]) (pc := 244) dX8_convert_244
theorem iX8_changeRange_X8 : ∀ w ∈ wsX80, w ∈ wsX8_changeRange := by decide +kernel
set_option maxHeartbeats 4000000 in
set_option maxRecDepth 100000 in
theorem mX8_changeRange (l : Launch) (E : gT) (a : Nat) (p1 : Nat) (p2 : Nat) (p3 : Nat) (p4 : Nat) (p5 : Nat) (p6 : Nat) (σ : Nat → Int) (ρ : Nat → Int) (pm : Int) (ig : Int) (mo : Int) (rd : Int) (wr : Int) (sm : Int) (n : Int) (h5 : 4 ≤ σ 5 ∧ σ 5 ≤ 400) (h9 : 0 ≤ σ 9 ∧ σ 9 ≤ 1) (h10 : 0 ≤ σ 10 ∧ σ 10 ≤ 3) (ho : 0 ≤ mo ∧ mo ≤ 1) (hn : -90000 ≤ n ∧ n ≤ 90000) : Cd l E yX8_changeRange wsX8_changeRange 1 21 0 0 [.ref a, .long (iL n)] [cMod a p1 p2 p3 p4 p5 p6 pm ig mo rd wr sm, cAt E p1 σ ρ] none [cMod a p1 p2 p3 p4 p5 p6 pm ig mo rd wr sm, cAt E p1 (up σ 10 (if (σ 9) = 0 then (σ 10) else swr mo n (σ 5) (σ 10))) ρ] := by
  refine Ct.mk (cc := cX8_changeRange) (maxL := 3) (ret := none) (plainFor_of_name (by decide)) rfl (Nat.le_of_ble_eq_true rfl) ?_
  intro p e s m below meth c A ls H locs S hr hlk hnm B hl
  have S : CallFix p m c cX8_changeRange 3 s #[.ref a, .long (iL n)] wsX8_changeRange RX8 := S
  have hl : lv_has ls 3 [(0, .ref a), (1, .long (iL n))] := hl
  have hab := ab_le (x := n) (m := 90000) (by omega) (by omega)
  have hab2 := ab_nn n
  refine z_aload_n S (pc := 0) dX8_changeRange_0 rfl (lv_at hl 0 rfl) ?_
  refine z_get S (pc := 1) B iX8_changeRange_X8 0 rfl rfl 0 (by decide) rfl rfl (by decide +kernel) dX8_changeRange_1 ?_
  refine z_bipush S (pc := 4) dX8_changeRange_4 rfl ?_
  refine z_lald S (pc := 6) B 1 2 rfl rfl (k := 9) rfl (by decide) (by decide) (v := .long (iL (σ 9))) rfl dX8_changeRange_6 ?_
  refine z_lconst S (pc := 7) (x := 0) dX8_changeRange_7 rfl ?_
  refine z_lc_ne S (pc := 8) (tgt := 13) (by omega) (by omega) dX8_changeRange_8 dX8_changeRange_9 rfl (fun c1 => ?_) (fun c1 => ?_)
  · refine z_aload_n S (pc := 13) dX8_changeRange_13 rfl (lv_at hl 0 rfl) ?_
    refine z_get S (pc := 14) B iX8_changeRange_X8 0 rfl rfl 7 (by decide) rfl rfl (by decide +kernel) dX8_changeRange_14 ?_
    refine z_if_ne S (pc := 17) (tgt := 38) (by omega) dX8_changeRange_17 rfl (fun c2 => ?_) (fun c2 => ?_)
    · refine z_aload_n S (pc := 38) dX8_changeRange_38 rfl (lv_at hl 0 rfl) ?_
      refine z_get S (pc := 39) B iX8_changeRange_X8 0 rfl rfl 0 (by decide) rfl rfl (by decide +kernel) dX8_changeRange_39 ?_
      refine z_bipush S (pc := 42) dX8_changeRange_42 rfl ?_
      refine lv_dup2_11 S.1 S.2.1 (pc := 44) dX8_changeRange_44 rfl rfl ?_
      refine z_lald S (pc := 45) B 1 2 rfl rfl (k := 10) rfl (by decide) (by decide) (v := .long (iL (σ 10))) rfl dX8_changeRange_45 ?_
      refine z_aload_n S (pc := 46) dX8_changeRange_46 rfl (lv_at hl 0 rfl) ?_
      refine z_get S (pc := 47) B iX8_changeRange_X8 0 rfl rfl 0 (by decide) rfl rfl (by decide +kernel) dX8_changeRange_47 ?_
      refine z_bipush S (pc := 50) dX8_changeRange_50 rfl ?_
      refine z_lald S (pc := 52) B 1 2 rfl rfl (k := 10) rfl (by decide) (by decide) (v := .long (iL (σ 10))) rfl dX8_changeRange_52 ?_
      refine z_lconst S (pc := 53) (x := 0) dX8_changeRange_53 rfl ?_
      refine z_lc_le S (pc := 54) (tgt := 62) (by omega) (by omega) dX8_changeRange_54 dX8_changeRange_55 rfl (fun c3 => ?_) (fun c3 => ?_)
      · refine z_lconst S (pc := 62) (x := 0) dX8_changeRange_62 rfl ?_
        refine z_lsub S (pc := 63) dX8_changeRange_63 ?_
        refine z_last S (pc := 64) B 1 2 rfl rfl (k := 10) rfl (by decide) (by decide) dX8_changeRange_64 (wn := [cMod a p1 p2 p3 p4 p5 p6 pm ig mo rd wr sm, cAt E p1 (up σ 10 ((σ 10) - 0)) ρ]) (by rw [lmu _ _ (by decide)]; rfl) (fun H locs B => ?_)
        refine lv_goto S.1 S.2.1 (pc := 65) (tgt := 119) dX8_changeRange_65 rfl ?_
        exact z_return S hr hlk B () trivial rfl (by rw [if_neg (by omega), show swr mo n (σ 5) (σ 10) = (σ 10) - 0 from by unfold swr; first | (rw [if_pos (by omega), if_pos (by omega)]; done) | (rw [if_pos (by omega), if_neg (by omega)]; omega) | (rw [if_neg (by omega), if_pos (by omega), if_pos (by omega)]; done) | (rw [if_neg (by omega), if_pos (by omega), if_neg (by omega)]; omega)]) (pc := 119) dX8_changeRange_119
      · refine z_lconst S (pc := 58) (x := 1) dX8_changeRange_58 rfl ?_
        refine lv_goto S.1 S.2.1 (pc := 59) (tgt := 63) dX8_changeRange_59 rfl ?_
        refine z_lsub S (pc := 63) dX8_changeRange_63 ?_
        refine z_last S (pc := 64) B 1 2 rfl rfl (k := 10) rfl (by decide) (by decide) dX8_changeRange_64 (wn := [cMod a p1 p2 p3 p4 p5 p6 pm ig mo rd wr sm, cAt E p1 (up σ 10 ((σ 10) - 1)) ρ]) (by rw [lmu _ _ (by decide)]; rfl) (fun H locs B => ?_)
        refine lv_goto S.1 S.2.1 (pc := 65) (tgt := 119) dX8_changeRange_65 rfl ?_
        exact z_return S hr hlk B () trivial rfl (by rw [if_neg (by omega), show swr mo n (σ 5) (σ 10) = (σ 10) - 1 from by unfold swr; first | (rw [if_pos (by omega), if_pos (by omega)]; done) | (rw [if_pos (by omega), if_neg (by omega)]; omega) | (rw [if_neg (by omega), if_pos (by omega), if_pos (by omega)]; done) | (rw [if_neg (by omega), if_pos (by omega), if_neg (by omega)]; omega)]) (pc := 119) dX8_changeRange_119
    · refine z_lload_n S (pc := 20) dX8_changeRange_20 rfl (lv_at hl 1 rfl) ?_
      refine z_callS S (pc := 21) B (wr := [cMod a p1 p2 p3 p4 p5 p6 pm ig mo rd wr sm, cAt E p1 σ ρ]) (wn := fun _ => [cMod a p1 p2 p3 p4 p5 p6 pm ig mo rd wr sm, cAt E p1 σ ρ]) (st1 := fun _ => [.long (iL (ab n))]) (As := [.long (iL n)]) (mX8_size l E n (show -9000000000000000000 ≤ n ∧ n ≤ 9000000000000000000 from by omega)) gX8_changeRange_X8_size 1 rfl (by decide +kernel) ⟨Nat.le_of_ble_eq_true rfl, Nat.le_of_ble_eq_true rfl, Nat.le_of_ble_eq_true rfl, Nat.le_of_ble_eq_true rfl⟩ [] [0, 1] [0, 1] rfl rfl ⟨rfl, rfl, rfl, by decide⟩ (fun _ => rfl) rfl (fun _ => rfl) hl.1 (Nat.le_of_ble_eq_true rfl) rfl dX8_changeRange_21 (fun _ _ H locs B => ?_)
      refine z_ldc2 S (pc := 24) (x := 16) (by decide +kernel) rfl dX8_changeRange_24 ?_
      refine z_aload_n S (pc := 27) dX8_changeRange_27 rfl (lv_at hl 0 rfl) ?_
      refine z_get S (pc := 28) B iX8_changeRange_X8 0 rfl rfl 0 (by decide) rfl rfl (by decide +kernel) dX8_changeRange_28 ?_
      refine z_iconst S (pc := 31) dX8_changeRange_31 ?_
      refine z_lald S (pc := 32) B 1 2 rfl rfl (k := 5) rfl (by decide) (by decide) (v := .long (iL (σ 5))) rfl dX8_changeRange_32 ?_
      refine z_lmul S (pc := 33) dX8_changeRange_33 ?_
      refine z_lc_le S (pc := 34) (tgt := 68) (by omega) (by omega) dX8_changeRange_34 dX8_changeRange_35 rfl (fun c4 => ?_) (fun c4 => ?_)
      · refine z_lload_n S (pc := 68) dX8_changeRange_68 rfl (lv_at hl 1 rfl) ?_
        refine z_callS S (pc := 69) B (wr := [cMod a p1 p2 p3 p4 p5 p6 pm ig mo rd wr sm, cAt E p1 σ ρ]) (wn := fun _ => [cMod a p1 p2 p3 p4 p5 p6 pm ig mo rd wr sm, cAt E p1 σ ρ]) (st1 := fun _ => [.long (iL (ab n))]) (As := [.long (iL n)]) (mX8_size l E n (show -9000000000000000000 ≤ n ∧ n ≤ 9000000000000000000 from by omega)) gX8_changeRange_X8_size 1 rfl (by decide +kernel) ⟨Nat.le_of_ble_eq_true rfl, Nat.le_of_ble_eq_true rfl, Nat.le_of_ble_eq_true rfl, Nat.le_of_ble_eq_true rfl⟩ [] [0, 1] [0, 1] rfl rfl ⟨rfl, rfl, rfl, by decide⟩ (fun _ => rfl) rfl (fun _ => rfl) hl.1 (Nat.le_of_ble_eq_true rfl) rfl dX8_changeRange_69 (fun _ _ H locs B => ?_)
        refine z_ldc2 S (pc := 72) (x := 16) (by decide +kernel) rfl dX8_changeRange_72 ?_
        refine z_aload_n S (pc := 75) dX8_changeRange_75 rfl (lv_at hl 0 rfl) ?_
        refine z_get S (pc := 76) B iX8_changeRange_X8 0 rfl rfl 0 (by decide) rfl rfl (by decide +kernel) dX8_changeRange_76 ?_
        refine z_iconst S (pc := 79) dX8_changeRange_79 ?_
        refine z_lald S (pc := 80) B 1 2 rfl rfl (k := 5) rfl (by decide) (by decide) (v := .long (iL (σ 5))) rfl dX8_changeRange_80 ?_
        refine z_lmul S (pc := 81) dX8_changeRange_81 ?_
        refine z_ldc2 S (pc := 82) (x := 12) (by decide +kernel) rfl dX8_changeRange_82 ?_
        refine z_ldivn S (pc := 85) (by omega) (by omega) dX8_changeRange_85 ?_
        refine z_lc_ge S (pc := 86) (tgt := 119) (by omega) (by omega) dX8_changeRange_86 dX8_changeRange_87 rfl (fun c5 => ?_) (fun c5 => ?_)
        · exact z_return S hr hlk B () trivial rfl (by rw [if_neg (by omega), show swr mo n (σ 5) (σ 10) = σ 10 from by unfold swr; rw [if_neg (by omega), if_neg (by omega)], up_self]) (pc := 119) dX8_changeRange_119
        · refine z_aload_n S (pc := 90) dX8_changeRange_90 rfl (lv_at hl 0 rfl) ?_
          refine z_get S (pc := 91) B iX8_changeRange_X8 0 rfl rfl 0 (by decide) rfl rfl (by decide +kernel) dX8_changeRange_91 ?_
          refine z_bipush S (pc := 94) dX8_changeRange_94 rfl ?_
          refine lv_dup2_11 S.1 S.2.1 (pc := 96) dX8_changeRange_96 rfl rfl ?_
          refine z_lald S (pc := 97) B 1 2 rfl rfl (k := 10) rfl (by decide) (by decide) (v := .long (iL (σ 10))) rfl dX8_changeRange_97 ?_
          refine z_aload_n S (pc := 98) dX8_changeRange_98 rfl (lv_at hl 0 rfl) ?_
          refine z_get S (pc := 99) B iX8_changeRange_X8 0 rfl rfl 0 (by decide) rfl rfl (by decide +kernel) dX8_changeRange_99 ?_
          refine z_bipush S (pc := 102) dX8_changeRange_102 rfl ?_
          refine z_lald S (pc := 104) B 1 2 rfl rfl (k := 10) rfl (by decide) (by decide) (v := .long (iL (σ 10))) rfl dX8_changeRange_104 ?_
          refine z_ldc2 S (pc := 105) (x := 3) (by decide +kernel) rfl dX8_changeRange_105 ?_
          refine z_lc_ge S (pc := 108) (tgt := 116) (by omega) (by omega) dX8_changeRange_108 dX8_changeRange_109 rfl (fun c6 => ?_) (fun c6 => ?_)
          · refine z_lconst S (pc := 116) (x := 0) dX8_changeRange_116 rfl ?_
            refine z_ladd S (pc := 117) dX8_changeRange_117 ?_
            refine z_last S (pc := 118) B 1 2 rfl rfl (k := 10) rfl (by decide) (by decide) dX8_changeRange_118 (wn := [cMod a p1 p2 p3 p4 p5 p6 pm ig mo rd wr sm, cAt E p1 (up σ 10 ((σ 10) + 0)) ρ]) (by rw [lmu _ _ (by decide)]; rfl) (fun H locs B => ?_)
            exact z_return S hr hlk B () trivial rfl (by rw [if_neg (by omega), show swr mo n (σ 5) (σ 10) = (σ 10) + 0 from by unfold swr; first | (rw [if_pos (by omega), if_pos (by omega)]; done) | (rw [if_pos (by omega), if_neg (by omega)]; omega) | (rw [if_neg (by omega), if_pos (by omega), if_pos (by omega)]; done) | (rw [if_neg (by omega), if_pos (by omega), if_neg (by omega)]; omega)]) (pc := 119) dX8_changeRange_119
          · refine z_lconst S (pc := 112) (x := 1) dX8_changeRange_112 rfl ?_
            refine lv_goto S.1 S.2.1 (pc := 113) (tgt := 117) dX8_changeRange_113 rfl ?_
            refine z_ladd S (pc := 117) dX8_changeRange_117 ?_
            refine z_last S (pc := 118) B 1 2 rfl rfl (k := 10) rfl (by decide) (by decide) dX8_changeRange_118 (wn := [cMod a p1 p2 p3 p4 p5 p6 pm ig mo rd wr sm, cAt E p1 (up σ 10 ((σ 10) + 1)) ρ]) (by rw [lmu _ _ (by decide)]; rfl) (fun H locs B => ?_)
            exact z_return S hr hlk B () trivial rfl (by rw [if_neg (by omega), show swr mo n (σ 5) (σ 10) = (σ 10) + 1 from by unfold swr; first | (rw [if_pos (by omega), if_pos (by omega)]; done) | (rw [if_pos (by omega), if_neg (by omega)]; omega) | (rw [if_neg (by omega), if_pos (by omega), if_pos (by omega)]; done) | (rw [if_neg (by omega), if_pos (by omega), if_neg (by omega)]; omega)]) (pc := 119) dX8_changeRange_119
      · refine z_aload_n S (pc := 38) dX8_changeRange_38 rfl (lv_at hl 0 rfl) ?_
        refine z_get S (pc := 39) B iX8_changeRange_X8 0 rfl rfl 0 (by decide) rfl rfl (by decide +kernel) dX8_changeRange_39 ?_
        refine z_bipush S (pc := 42) dX8_changeRange_42 rfl ?_
        refine lv_dup2_11 S.1 S.2.1 (pc := 44) dX8_changeRange_44 rfl rfl ?_
        refine z_lald S (pc := 45) B 1 2 rfl rfl (k := 10) rfl (by decide) (by decide) (v := .long (iL (σ 10))) rfl dX8_changeRange_45 ?_
        refine z_aload_n S (pc := 46) dX8_changeRange_46 rfl (lv_at hl 0 rfl) ?_
        refine z_get S (pc := 47) B iX8_changeRange_X8 0 rfl rfl 0 (by decide) rfl rfl (by decide +kernel) dX8_changeRange_47 ?_
        refine z_bipush S (pc := 50) dX8_changeRange_50 rfl ?_
        refine z_lald S (pc := 52) B 1 2 rfl rfl (k := 10) rfl (by decide) (by decide) (v := .long (iL (σ 10))) rfl dX8_changeRange_52 ?_
        refine z_lconst S (pc := 53) (x := 0) dX8_changeRange_53 rfl ?_
        refine z_lc_le S (pc := 54) (tgt := 62) (by omega) (by omega) dX8_changeRange_54 dX8_changeRange_55 rfl (fun c7 => ?_) (fun c7 => ?_)
        · refine z_lconst S (pc := 62) (x := 0) dX8_changeRange_62 rfl ?_
          refine z_lsub S (pc := 63) dX8_changeRange_63 ?_
          refine z_last S (pc := 64) B 1 2 rfl rfl (k := 10) rfl (by decide) (by decide) dX8_changeRange_64 (wn := [cMod a p1 p2 p3 p4 p5 p6 pm ig mo rd wr sm, cAt E p1 (up σ 10 ((σ 10) - 0)) ρ]) (by rw [lmu _ _ (by decide)]; rfl) (fun H locs B => ?_)
          refine lv_goto S.1 S.2.1 (pc := 65) (tgt := 119) dX8_changeRange_65 rfl ?_
          exact z_return S hr hlk B () trivial rfl (by rw [if_neg (by omega), show swr mo n (σ 5) (σ 10) = (σ 10) - 0 from by unfold swr; first | (rw [if_pos (by omega), if_pos (by omega)]; done) | (rw [if_pos (by omega), if_neg (by omega)]; omega) | (rw [if_neg (by omega), if_pos (by omega), if_pos (by omega)]; done) | (rw [if_neg (by omega), if_pos (by omega), if_neg (by omega)]; omega)]) (pc := 119) dX8_changeRange_119
        · refine z_lconst S (pc := 58) (x := 1) dX8_changeRange_58 rfl ?_
          refine lv_goto S.1 S.2.1 (pc := 59) (tgt := 63) dX8_changeRange_59 rfl ?_
          refine z_lsub S (pc := 63) dX8_changeRange_63 ?_
          refine z_last S (pc := 64) B 1 2 rfl rfl (k := 10) rfl (by decide) (by decide) dX8_changeRange_64 (wn := [cMod a p1 p2 p3 p4 p5 p6 pm ig mo rd wr sm, cAt E p1 (up σ 10 ((σ 10) - 1)) ρ]) (by rw [lmu _ _ (by decide)]; rfl) (fun H locs B => ?_)
          refine lv_goto S.1 S.2.1 (pc := 65) (tgt := 119) dX8_changeRange_65 rfl ?_
          exact z_return S hr hlk B () trivial rfl (by rw [if_neg (by omega), show swr mo n (σ 5) (σ 10) = (σ 10) - 1 from by unfold swr; first | (rw [if_pos (by omega), if_pos (by omega)]; done) | (rw [if_pos (by omega), if_neg (by omega)]; omega) | (rw [if_neg (by omega), if_pos (by omega), if_pos (by omega)]; done) | (rw [if_neg (by omega), if_pos (by omega), if_neg (by omega)]; omega)]) (pc := 119) dX8_changeRange_119
  · exact z_return S hr hlk B () trivial rfl (by rw [if_pos (by omega), up_self]) (pc := 12) dX8_changeRange_12
theorem iX8_makeReading_X8 : ∀ w ∈ wsX80, w ∈ wsX8_makeReading := by decide +kernel
set_option maxHeartbeats 4000000 in
set_option maxRecDepth 100000 in
theorem mX8_makeReading (l : Launch) (E : gT) (a : Nat) (p1 : Nat) (p2 : Nat) (p3 : Nat) (p4 : Nat) (p5 : Nat) (p6 : Nat) (σ : Nat → Int) (ρ : Nat → Int) (pm : Int) (ig : Int) (mo : Int) (rd : Int) (wr : Int) (sm : Int) (hs : Sets σ) (hn : Nums σ) (h11 : 0 ≤ σ 11 ∧ σ 11 ≤ 2000000000) : Cd l E yX8_makeReading wsX8_makeReading 4 94 0 0 [.ref a] [cMod a p1 p2 p3 p4 p5 p6 pm ig mo rd wr sm, cAt E p1 σ ρ] (some (.long (iL (val0 (rz σ))))) [cMod a p1 p2 p3 p4 p5 p6 pm ((cvF (rz σ) (gn (rz σ 10))).1) (ov0 (rz σ)) rd wr sm, cAt E p1 (rdS σ) (rowS σ ρ)] := by
  refine Ct.mk (cc := cX8_makeReading) (maxL := 8) (ret := (some .long)) (plainFor_of_name (by decide)) rfl (Nat.le_of_ble_eq_true rfl) ?_
  intro p e s m below meth c A ls H locs S hr hlk hnm B hl
  have S : CallFix p m c cX8_makeReading 8 s #[.ref a] wsX8_makeReading RX8 := S
  have hl : lv_has ls 8 [(0, .ref a)] := hl
  obtain ⟨h0, h1, h2, h3, h4, h5, h6, h7, h8, h9, h10⟩ := id hs
  obtain ⟨n12, n13, n14, nrest⟩ := id hn
  refine z_aload_n S (pc := 0) dX8_makeReading_0 rfl (lv_at hl 0 rfl) ?_
  refine z_get S (pc := 1) B iX8_makeReading_X8 0 rfl rfl 0 (by decide) rfl rfl (by decide +kernel) dX8_makeReading_1 ?_
  refine z_bipush S (pc := 4) dX8_makeReading_4 rfl ?_
  refine z_lald S (pc := 6) B 1 2 rfl rfl (k := 8) rfl (by decide) (by decide) (v := .long (iL (σ 8))) rfl dX8_makeReading_6 ?_
  refine z_lconst S (pc := 7) (x := 0) dX8_makeReading_7 rfl ?_
  refine z_lc_le S (pc := 8) (tgt := 85) (by omega) (by omega) dX8_makeReading_8 dX8_makeReading_9 rfl (fun c1 => ?_) (fun c1 => ?_)
  · have e1 : rz σ = σ := by unfold rz; rw [if_neg (by omega)]
    obtain ⟨τ, hτ⟩ : ∃ τ, τ = rz σ := ⟨_, rfl⟩
    have B : bw E A s H locs [cMod a p1 p2 p3 p4 p5 p6 pm ig mo rd wr sm, cAt E p1 τ ρ] := by rw [hτ, e1]; exact B
    clear e1
    have hts : Sets τ := by rw [hτ]; exact rz_sets hs
    have ht12 : -60000 ≤ τ 12 ∧ τ 12 ≤ 60000 := by rw [hτ]; exact (rz_nums hs hn).1
    have ht11 : σ 11 ≤ τ 11 ∧ τ 11 ≤ σ 11 + 1616 := by rw [hτ]; exact rz_time hs
    have ht14 : τ 14 = σ 14 := by rw [hτ]; exact rz_14 σ
    obtain ⟨u0, u1, u2, u3, u4, u5, u6, u7, u8, u9, u10⟩ := id hts
    have hgn := gn_bd (τ 10)
    have hdv := div0 hts
    have hn0 := net0_bd hts ht12
    have hc15 := cnt_bd τ (gn (τ 10)) u5
    have ho : ov0 τ = 0 ∨ ov0 τ = 1 := ovr_01 τ (gn (τ 10))
    have hpl : (plc σ : Int) = 7 * (σ 14 % 40) := by unfold plc; omega
    have hpl2 : plc σ ≤ 273 := by unfold plc; omega
    have hq := tdiv_bd (a := net0 τ * 65536) (q := τ 5 * gn (τ 10)) (B := 6000000000) (by omega) (by omega) (by omega)
    refine z_aload_n S (pc := 85) dX8_makeReading_85 rfl (lv_at hl 0 rfl) ?_
    refine z_get S (pc := 86) B iX8_makeReading_X8 0 rfl rfl 0 (by decide) rfl rfl (by decide +kernel) dX8_makeReading_86 ?_
    refine z_bipush S (pc := 89) dX8_makeReading_89 rfl ?_
    refine z_lald S (pc := 91) B 1 2 rfl rfl (k := 11) rfl (by decide) (by decide) (v := .long (iL (τ 11))) rfl dX8_makeReading_91 ?_
    refine lv_lstore_n (lv' := [(1, .long (iL (τ 11))), (0, .ref a)]) S.1 S.2.1 (pc := 92) dX8_makeReading_92 rfl hl (by decide) rfl (fun ls hl => ?_)
    refine z_aload_n S (pc := 93) dX8_makeReading_93 rfl (lv_at hl 1 rfl) ?_
    refine z_iconst S (pc := 94) dX8_makeReading_94 ?_
    refine z_callV S (pc := 95) B (wr := []) (wn := fun _ => [cMod a p1 p2 p3 p4 p5 p6 pm ((cvF τ (gn (τ 10))).1) (ovr τ (gn (τ 10))) rd wr sm, cAt E p1 (cvt τ (gn (τ 10))) ρ]) (st1 := fun _ => []) (As := [.int (iI 0)]) (mX8_convert_0 l E a p1 p2 p3 p4 p5 p6 τ ρ pm ig mo rd wr sm (show Sets τ from by assumption) (show 0 ≤ τ 11 ∧ τ 11 ≤ 2100000000 from by omega)) gX8_makeReading_X8_convert 1 rfl (by decide +kernel) ⟨Nat.le_of_ble_eq_true rfl, Nat.le_of_ble_eq_true rfl, Nat.le_of_ble_eq_true rfl, Nat.le_of_ble_eq_true rfl⟩ 0 rfl (q := (RX8, TX8, 12)) rfl rfl [0, 1] [] [0, 1] rfl rfl ⟨rfl, rfl, rfl, by decide⟩ (fun _ => rfl) rfl (fun _ => rfl) hl.1 (Nat.le_of_ble_eq_true rfl) rfl dX8_makeReading_95 (fun _ _ H locs B => ?_)
    have B : bw E A s H locs [cMod a p1 p2 p3 p4 p5 p6 pm ((cvF τ (gn (τ 10))).1) (ov0 τ) rd wr sm, cAt E p1 (cvt τ (gn (τ 10))) ρ] := B
    refine z_aload_n S (pc := 98) dX8_makeReading_98 rfl (lv_at hl 1 rfl) ?_
    refine z_get S (pc := 99) B iX8_makeReading_X8 0 rfl rfl 0 (by decide) rfl rfl (by decide +kernel) dX8_makeReading_99 ?_
    refine z_bipush S (pc := 102) dX8_makeReading_102 rfl ?_
    refine z_lald S (pc := 104) B 1 2 rfl rfl (k := 15) rfl (by decide) (by decide) (v := .long (iL ((cvt τ (gn (τ 10))) 15))) rfl dX8_makeReading_104 ?_
    refine z_aload_n S (pc := 105) dX8_makeReading_105 rfl (lv_at hl 1 rfl) ?_
    refine z_get S (pc := 106) B iX8_makeReading_X8 0 rfl rfl 0 (by decide) rfl rfl (by decide +kernel) dX8_makeReading_106 ?_
    refine z_bipush S (pc := 109) dX8_makeReading_109 rfl ?_
    refine z_lald S (pc := 111) B 1 2 rfl rfl (k := 12) rfl (by decide) (by decide) (v := .long (iL (τ 12))) rfl dX8_makeReading_111 ?_
    refine z_lsub S (pc := 112) dX8_makeReading_112 ?_
    rw [show (((cvt τ (gn (τ 10))) 15) - (τ 12) : Int) = net0 τ from rfl]
    refine lv_lstore_n (lv' := [(3, .long (iL (net0 τ))), (1, .long (iL (τ 11))), (0, .ref a)]) S.1 S.2.1 (pc := 113) dX8_makeReading_113 rfl hl (by decide) rfl (fun ls hl => ?_)
    refine z_lload_n S (pc := 114) dX8_makeReading_114 rfl (lv_at hl 0 rfl) ?_
    refine z_ldc2 S (pc := 115) (x := 65536) (by decide +kernel) rfl dX8_makeReading_115 ?_
    refine z_lmul S (pc := 118) dX8_makeReading_118 ?_
    refine z_aload_n S (pc := 119) dX8_makeReading_119 rfl (lv_at hl 2 rfl) ?_
    refine z_get S (pc := 120) B iX8_makeReading_X8 0 rfl rfl 0 (by decide) rfl rfl (by decide +kernel) dX8_makeReading_120 ?_
    refine z_iconst S (pc := 123) dX8_makeReading_123 ?_
    refine z_lald S (pc := 124) B 1 2 rfl rfl (k := 5) rfl (by decide) (by decide) (v := .long (iL (τ 5))) rfl dX8_makeReading_124 ?_
    refine z_aload_n S (pc := 125) dX8_makeReading_125 rfl (lv_at hl 2 rfl) ?_
    refine z_callV S (pc := 126) B (wr := []) (wn := fun _ => [cMod a p1 p2 p3 p4 p5 p6 pm ((cvF τ (gn (τ 10))).1) (ov0 τ) rd wr sm, cAt E p1 (cvt τ (gn (τ 10))) ρ]) (st1 := fun _ => [.long (iL (gn (τ 10))), .long (iL (τ 5)), .long (iL ((net0 τ) * 65536))]) (As := []) (mX8_gain l E a p1 p2 p3 p4 p5 p6 (cvt τ (gn (τ 10))) ρ pm ((cvF τ (gn (τ 10))).1) (ov0 τ) rd wr sm (show 0 ≤ τ 10 ∧ τ 10 ≤ 3 from by omega)) gX8_makeReading_X8_gain 0 rfl (by decide +kernel) ⟨Nat.le_of_ble_eq_true rfl, Nat.le_of_ble_eq_true rfl, Nat.le_of_ble_eq_true rfl, Nat.le_of_ble_eq_true rfl⟩ 0 rfl (q := (RX8, TX8, 12)) rfl rfl [0, 1] [] [0, 1] rfl rfl ⟨rfl, rfl, rfl, by decide⟩ (fun _ => rfl) rfl (fun _ => rfl) hl.1 (Nat.le_of_ble_eq_true rfl) rfl dX8_makeReading_126 (fun _ _ H locs B => ?_)
    refine z_lmul S (pc := 129) dX8_makeReading_129 ?_
    refine z_ldiv S (pc := 130) (by omega) (by omega) (by omega) (by omega) dX8_makeReading_130 ?_
    rw [show (((net0 τ) * 65536).tdiv ((τ 5) * (gn (τ 10))) : Int) = val0 τ from rfl]
    refine lv_lstore (lv' := [(5, .long (iL (val0 τ))), (3, .long (iL (net0 τ))), (1, .long (iL (τ 11))), (0, .ref a)]) S.1 S.2.1 (pc := 131) dX8_makeReading_131 hl (by decide) rfl (fun ls hl => ?_)
    refine z_bipush S (pc := 133) dX8_makeReading_133 rfl ?_
    refine z_bipush S (pc := 135) dX8_makeReading_135 rfl ?_
    refine z_aload_n S (pc := 137) dX8_makeReading_137 rfl (lv_at hl 3 rfl) ?_
    refine z_get S (pc := 138) B iX8_makeReading_X8 0 rfl rfl 0 (by decide) rfl rfl (by decide +kernel) dX8_makeReading_138 ?_
    refine z_bipush S (pc := 141) dX8_makeReading_141 rfl ?_
    refine z_lald S (pc := 143) B 1 2 rfl rfl (k := 14) rfl (by decide) (by decide) (v := .long (iL (τ 14))) rfl dX8_makeReading_143 ?_
    refine z_ldc2 S (pc := 144) (x := 40) (by decide +kernel) rfl dX8_makeReading_144 ?_
    refine z_lremn S (pc := 147) (by omega) (by omega) dX8_makeReading_147 ?_
    refine z_l2i S (pc := 148) dX8_makeReading_148 ?_
    refine z_imul S (pc := 149) dX8_makeReading_149 ?_
    refine z_iadd S (pc := 150) dX8_makeReading_150 ?_
    rw [show (23 + (7 * ((τ 14) % 40)) : Int) = 23 + 7 * (σ 14 % 40) from by rw [← ht14]]
    refine lv_istore (lv' := [(7, .int (iI (23 + 7 * (σ 14 % 40)))), (5, .long (iL (val0 τ))), (3, .long (iL (net0 τ))), (1, .long (iL (τ 11))), (0, .ref a)]) S.1 S.2.1 (pc := 151) dX8_makeReading_151 hl (by decide) rfl (fun ls hl => ?_)
    refine z_aload_n S (pc := 153) dX8_makeReading_153 rfl (lv_at hl 4 rfl) ?_
    refine z_get S (pc := 154) B iX8_makeReading_X8 0 rfl rfl 0 (by decide) rfl rfl (by decide +kernel) dX8_makeReading_154 ?_
    refine z_iload S (pc := 157) dX8_makeReading_157 (lv_at hl 0 rfl) ?_
    refine z_lload S (pc := 159) dX8_makeReading_159 (lv_at hl 1 rfl) ?_
    refine z_last S (pc := 161) B 1 2 rfl rfl (k := 23 + (plc σ)) (by omega) (by omega) (by decide) dX8_makeReading_161 (wn := [cMod a p1 p2 p3 p4 p5 p6 pm ((cvF τ (gn (τ 10))).1) (ov0 τ) rd wr sm, cAt E p1 (cvt τ (gn (τ 10))) (up ρ (plc σ) (val0 τ))]) (by rw [lmr]; rfl) (fun H locs B => ?_)
    refine z_aload_n S (pc := 162) dX8_makeReading_162 rfl (lv_at hl 4 rfl) ?_
    refine z_get S (pc := 163) B iX8_makeReading_X8 0 rfl rfl 0 (by decide) rfl rfl (by decide +kernel) dX8_makeReading_163 ?_
    refine z_iload S (pc := 166) dX8_makeReading_166 (lv_at hl 0 rfl) ?_
    refine z_iconst S (pc := 168) dX8_makeReading_168 ?_
    refine z_iadd S (pc := 169) dX8_makeReading_169 ?_
    refine z_lload_n S (pc := 170) dX8_makeReading_170 rfl (lv_at hl 2 rfl) ?_
    refine z_last S (pc := 171) B 1 2 rfl rfl (k := 23 + (plc σ + 1)) (by omega) (by omega) (by decide) dX8_makeReading_171 (wn := [cMod a p1 p2 p3 p4 p5 p6 pm ((cvF τ (gn (τ 10))).1) (ov0 τ) rd wr sm, cAt E p1 (cvt τ (gn (τ 10))) (up (up ρ (plc σ) (val0 τ)) (plc σ + 1) (net0 τ))]) (by rw [lmr]; rfl) (fun H locs B => ?_)
    refine z_aload_n S (pc := 172) dX8_makeReading_172 rfl (lv_at hl 4 rfl) ?_
    refine z_get S (pc := 173) B iX8_makeReading_X8 0 rfl rfl 0 (by decide) rfl rfl (by decide +kernel) dX8_makeReading_173 ?_
    refine z_iload S (pc := 176) dX8_makeReading_176 (lv_at hl 0 rfl) ?_
    refine z_iconst S (pc := 178) dX8_makeReading_178 ?_
    refine z_iadd S (pc := 179) dX8_makeReading_179 ?_
    refine z_aload_n S (pc := 180) dX8_makeReading_180 rfl (lv_at hl 4 rfl) ?_
    refine z_get S (pc := 181) B iX8_makeReading_X8 0 rfl rfl 0 (by decide) rfl rfl (by decide +kernel) dX8_makeReading_181 ?_
    refine z_bipush S (pc := 184) dX8_makeReading_184 rfl ?_
    refine z_lald S (pc := 186) B 1 2 rfl rfl (k := 10) rfl (by decide) (by decide) (v := .long (iL (τ 10))) rfl dX8_makeReading_186 ?_
    refine z_last S (pc := 187) B 1 2 rfl rfl (k := 23 + (plc σ + 2)) (by omega) (by omega) (by decide) dX8_makeReading_187 (wn := [cMod a p1 p2 p3 p4 p5 p6 pm ((cvF τ (gn (τ 10))).1) (ov0 τ) rd wr sm, cAt E p1 (cvt τ (gn (τ 10))) (up (up (up ρ (plc σ) (val0 τ)) (plc σ + 1) (net0 τ)) (plc σ + 2) (τ 10))]) (by rw [lmr]; rfl) (fun H locs B => ?_)
    refine z_aload_n S (pc := 188) dX8_makeReading_188 rfl (lv_at hl 4 rfl) ?_
    refine z_get S (pc := 189) B iX8_makeReading_X8 0 rfl rfl 0 (by decide) rfl rfl (by decide +kernel) dX8_makeReading_189 ?_
    refine z_iload S (pc := 192) dX8_makeReading_192 (lv_at hl 0 rfl) ?_
    refine z_iconst S (pc := 194) dX8_makeReading_194 ?_
    refine z_iadd S (pc := 195) dX8_makeReading_195 ?_
    refine z_aload_n S (pc := 196) dX8_makeReading_196 rfl (lv_at hl 4 rfl) ?_
    refine z_get S (pc := 197) B iX8_makeReading_X8 0 rfl rfl 7 (by decide) rfl rfl (by decide +kernel) dX8_makeReading_197 ?_
    refine z_if_eq S (pc := 200) (tgt := 207) (by omega) dX8_makeReading_200 rfl (fun c2 => ?_) (fun c2 => ?_)
    · refine z_lconst S (pc := 207) (x := 0) dX8_makeReading_207 rfl ?_
      rw [show Value.long (iL 0) = Value.long (iL (ov0 τ)) from by rw [show ov0 τ = 0 from by omega]]
      refine z_last S (pc := 208) B 1 2 rfl rfl (k := 23 + (plc σ + 3)) (by omega) (by omega) (by decide) dX8_makeReading_208 (wn := [cMod a p1 p2 p3 p4 p5 p6 pm ((cvF τ (gn (τ 10))).1) (ov0 τ) rd wr sm, cAt E p1 (cvt τ (gn (τ 10))) (up (up (up (up ρ (plc σ) (val0 τ)) (plc σ + 1) (net0 τ)) (plc σ + 2) (τ 10)) (plc σ + 3) (ov0 τ))]) (by rw [lmr]; rfl) (fun H locs B => ?_)
      refine z_aload_n S (pc := 209) dX8_makeReading_209 rfl (lv_at hl 4 rfl) ?_
      refine z_get S (pc := 210) B iX8_makeReading_X8 0 rfl rfl 0 (by decide) rfl rfl (by decide +kernel) dX8_makeReading_210 ?_
      refine z_iload S (pc := 213) dX8_makeReading_213 (lv_at hl 0 rfl) ?_
      refine z_iconst S (pc := 215) dX8_makeReading_215 ?_
      refine z_iadd S (pc := 216) dX8_makeReading_216 ?_
      refine z_lload_n S (pc := 217) dX8_makeReading_217 rfl (lv_at hl 3 rfl) ?_
      refine z_last S (pc := 218) B 1 2 rfl rfl (k := 23 + (plc σ + 4)) (by omega) (by omega) (by decide) dX8_makeReading_218 (wn := [cMod a p1 p2 p3 p4 p5 p6 pm ((cvF τ (gn (τ 10))).1) (ov0 τ) rd wr sm, cAt E p1 (cvt τ (gn (τ 10))) (up (up (up (up (up ρ (plc σ) (val0 τ)) (plc σ + 1) (net0 τ)) (plc σ + 2) (τ 10)) (plc σ + 3) (ov0 τ)) (plc σ + 4) (τ 11))]) (by rw [lmr]; rfl) (fun H locs B => ?_)
      refine z_aload_n S (pc := 219) dX8_makeReading_219 rfl (lv_at hl 4 rfl) ?_
      refine z_get S (pc := 220) B iX8_makeReading_X8 0 rfl rfl 0 (by decide) rfl rfl (by decide +kernel) dX8_makeReading_220 ?_
      refine z_iload S (pc := 223) dX8_makeReading_223 (lv_at hl 0 rfl) ?_
      refine z_iconst S (pc := 225) dX8_makeReading_225 ?_
      refine z_iadd S (pc := 226) dX8_makeReading_226 ?_
      refine z_aload_n S (pc := 227) dX8_makeReading_227 rfl (lv_at hl 4 rfl) ?_
      refine z_get S (pc := 228) B iX8_makeReading_X8 0 rfl rfl 0 (by decide) rfl rfl (by decide +kernel) dX8_makeReading_228 ?_
      refine z_bipush S (pc := 231) dX8_makeReading_231 rfl ?_
      refine z_lald S (pc := 233) B 1 2 rfl rfl (k := 11) rfl (by decide) (by decide) (v := .long (iL ((cvt τ (gn (τ 10))) 11))) rfl dX8_makeReading_233 ?_
      refine z_last S (pc := 234) B 1 2 rfl rfl (k := 23 + (plc σ + 5)) (by omega) (by omega) (by decide) dX8_makeReading_234 (wn := [cMod a p1 p2 p3 p4 p5 p6 pm ((cvF τ (gn (τ 10))).1) (ov0 τ) rd wr sm, cAt E p1 (cvt τ (gn (τ 10))) (up (up (up (up (up (up ρ (plc σ) (val0 τ)) (plc σ + 1) (net0 τ)) (plc σ + 2) (τ 10)) (plc σ + 3) (ov0 τ)) (plc σ + 4) (τ 11)) (plc σ + 5) ((cvt τ (gn (τ 10))) 11))]) (by rw [lmr]; rfl) (fun H locs B => ?_)
      refine z_aload_n S (pc := 235) dX8_makeReading_235 rfl (lv_at hl 4 rfl) ?_
      refine z_get S (pc := 236) B iX8_makeReading_X8 0 rfl rfl 0 (by decide) rfl rfl (by decide +kernel) dX8_makeReading_236 ?_
      refine z_iload S (pc := 239) dX8_makeReading_239 (lv_at hl 0 rfl) ?_
      refine z_bipush S (pc := 241) dX8_makeReading_241 rfl ?_
      refine z_iadd S (pc := 243) dX8_makeReading_243 ?_
      refine z_aload_n S (pc := 244) dX8_makeReading_244 rfl (lv_at hl 4 rfl) ?_
      refine z_get S (pc := 245) B iX8_makeReading_X8 0 rfl rfl 0 (by decide) rfl rfl (by decide +kernel) dX8_makeReading_245 ?_
      refine z_bipush S (pc := 248) dX8_makeReading_248 rfl ?_
      refine z_lald S (pc := 250) B 1 2 rfl rfl (k := 12) rfl (by decide) (by decide) (v := .long (iL (τ 12))) rfl dX8_makeReading_250 ?_
      refine z_last S (pc := 251) B 1 2 rfl rfl (k := 23 + (plc σ + 6)) (by omega) (by omega) (by decide) dX8_makeReading_251 (wn := [cMod a p1 p2 p3 p4 p5 p6 pm ((cvF τ (gn (τ 10))).1) (ov0 τ) rd wr sm, cAt E p1 (cvt τ (gn (τ 10))) (up (up (up (up (up (up (up ρ (plc σ) (val0 τ)) (plc σ + 1) (net0 τ)) (plc σ + 2) (τ 10)) (plc σ + 3) (ov0 τ)) (plc σ + 4) (τ 11)) (plc σ + 5) ((cvt τ (gn (τ 10))) 11)) (plc σ + 6) (τ 12))]) (by rw [lmr]; rfl) (fun H locs B => ?_)
      refine z_aload_n S (pc := 252) dX8_makeReading_252 rfl (lv_at hl 4 rfl) ?_
      refine z_get S (pc := 253) B iX8_makeReading_X8 0 rfl rfl 0 (by decide) rfl rfl (by decide +kernel) dX8_makeReading_253 ?_
      refine z_bipush S (pc := 256) dX8_makeReading_256 rfl ?_
      refine lv_dup2_11 S.1 S.2.1 (pc := 258) dX8_makeReading_258 rfl rfl ?_
      refine z_lald S (pc := 259) B 1 2 rfl rfl (k := 14) rfl (by decide) (by decide) (v := .long (iL (τ 14))) rfl dX8_makeReading_259 ?_
      refine z_lconst S (pc := 260) (x := 1) dX8_makeReading_260 rfl ?_
      refine z_ladd S (pc := 261) dX8_makeReading_261 ?_
      refine z_last S (pc := 262) B 1 2 rfl rfl (k := 14) rfl (by decide) (by decide) dX8_makeReading_262 (wn := [cMod a p1 p2 p3 p4 p5 p6 pm ((cvF τ (gn (τ 10))).1) (ov0 τ) rd wr sm, cAt E p1 (up (cvt τ (gn (τ 10))) 14 ((τ 14) + 1)) (up (up (up (up (up (up (up ρ (plc σ) (val0 τ)) (plc σ + 1) (net0 τ)) (plc σ + 2) (τ 10)) (plc σ + 3) (ov0 τ)) (plc σ + 4) (τ 11)) (plc σ + 5) ((cvt τ (gn (τ 10))) 11)) (plc σ + 6) (τ 12))]) (by rw [lmu _ _ (by decide)]; rfl) (fun H locs B => ?_)
      refine z_aload_n S (pc := 263) dX8_makeReading_263 rfl (lv_at hl 4 rfl) ?_
      refine z_lload_n S (pc := 264) dX8_makeReading_264 rfl (lv_at hl 2 rfl) ?_
      refine z_callV S (pc := 265) B (wr := []) (wn := fun _ => [cMod a p1 p2 p3 p4 p5 p6 pm ((cvF τ (gn (τ 10))).1) (ov0 τ) rd wr sm, cAt E p1 (up (up (cvt τ (gn (τ 10))) 14 ((τ 14) + 1)) 10 (if (τ 9) = 0 then (τ 10) else swr (ov0 τ) (net0 τ) (τ 5) (τ 10))) (up (up (up (up (up (up (up ρ (plc σ) (val0 τ)) (plc σ + 1) (net0 τ)) (plc σ + 2) (τ 10)) (plc σ + 3) (ov0 τ)) (plc σ + 4) (τ 11)) (plc σ + 5) ((cvt τ (gn (τ 10))) 11)) (plc σ + 6) (τ 12))]) (st1 := fun _ => []) (As := [.long (iL (net0 τ))]) (mX8_changeRange l E a p1 p2 p3 p4 p5 p6 (up (cvt τ (gn (τ 10))) 14 ((τ 14) + 1)) (up (up (up (up (up (up (up ρ (plc σ) (val0 τ)) (plc σ + 1) (net0 τ)) (plc σ + 2) (τ 10)) (plc σ + 3) (ov0 τ)) (plc σ + 4) (τ 11)) (plc σ + 5) ((cvt τ (gn (τ 10))) 11)) (plc σ + 6) (τ 12)) pm ((cvF τ (gn (τ 10))).1) (ov0 τ) rd wr sm (net0 τ) (show 4 ≤ τ 5 ∧ τ 5 ≤ 400 from by omega) (show 0 ≤ τ 9 ∧ τ 9 ≤ 1 from by omega) (show 0 ≤ τ 10 ∧ τ 10 ≤ 3 from by omega) (show 0 ≤ (ov0 τ) ∧ (ov0 τ) ≤ 1 from by omega) (show -90000 ≤ (net0 τ) ∧ (net0 τ) ≤ 90000 from by omega)) gX8_makeReading_X8_changeRange 1 rfl (by decide +kernel) ⟨Nat.le_of_ble_eq_true rfl, Nat.le_of_ble_eq_true rfl, Nat.le_of_ble_eq_true rfl, Nat.le_of_ble_eq_true rfl⟩ 0 rfl (q := (RX8, TX8, 12)) rfl rfl [0, 1] [] [0, 1] rfl rfl ⟨rfl, rfl, rfl, by decide⟩ (fun _ => rfl) rfl (fun _ => rfl) hl.1 (Nat.le_of_ble_eq_true rfl) rfl dX8_makeReading_265 (fun _ _ H locs B => ?_)
      refine z_lload S (pc := 268) dX8_makeReading_268 (lv_at hl 1 rfl) ?_
      have e10 : (if τ 9 = 0 then τ 10 else swr (ov0 τ) (net0 τ) (τ 5) (τ 10)) = rg0 τ := by unfold rg0; rcases (show τ 9 = 0 ∨ τ 9 = 1 from by omega) with h | h <;> rw [h] <;> rfl
      have e9 : up (up (cvt τ (gn (τ 10))) 14 ((τ 14) + 1)) 10 (if (τ 9) = 0 then (τ 10) else swr (ov0 τ) (net0 τ) (τ 5) (τ 10)) = rdS σ := by rw [up_comm _ _ _ (by decide), ht14, e10]; subst hτ; rfl
      subst hτ
      exact z_lreturn S hr hlk B () trivial rfl (by rw [e9]; rfl) (pc := 270) dX8_makeReading_270
    · refine z_lconst S (pc := 203) (x := 1) dX8_makeReading_203 rfl ?_
      refine lv_goto S.1 S.2.1 (pc := 204) (tgt := 208) dX8_makeReading_204 rfl ?_
      rw [show Value.long (iL 1) = Value.long (iL (ov0 τ)) from by rw [show ov0 τ = 1 from by omega]]
      refine z_last S (pc := 208) B 1 2 rfl rfl (k := 23 + (plc σ + 3)) (by omega) (by omega) (by decide) dX8_makeReading_208 (wn := [cMod a p1 p2 p3 p4 p5 p6 pm ((cvF τ (gn (τ 10))).1) (ov0 τ) rd wr sm, cAt E p1 (cvt τ (gn (τ 10))) (up (up (up (up ρ (plc σ) (val0 τ)) (plc σ + 1) (net0 τ)) (plc σ + 2) (τ 10)) (plc σ + 3) (ov0 τ))]) (by rw [lmr]; rfl) (fun H locs B => ?_)
      refine z_aload_n S (pc := 209) dX8_makeReading_209 rfl (lv_at hl 4 rfl) ?_
      refine z_get S (pc := 210) B iX8_makeReading_X8 0 rfl rfl 0 (by decide) rfl rfl (by decide +kernel) dX8_makeReading_210 ?_
      refine z_iload S (pc := 213) dX8_makeReading_213 (lv_at hl 0 rfl) ?_
      refine z_iconst S (pc := 215) dX8_makeReading_215 ?_
      refine z_iadd S (pc := 216) dX8_makeReading_216 ?_
      refine z_lload_n S (pc := 217) dX8_makeReading_217 rfl (lv_at hl 3 rfl) ?_
      refine z_last S (pc := 218) B 1 2 rfl rfl (k := 23 + (plc σ + 4)) (by omega) (by omega) (by decide) dX8_makeReading_218 (wn := [cMod a p1 p2 p3 p4 p5 p6 pm ((cvF τ (gn (τ 10))).1) (ov0 τ) rd wr sm, cAt E p1 (cvt τ (gn (τ 10))) (up (up (up (up (up ρ (plc σ) (val0 τ)) (plc σ + 1) (net0 τ)) (plc σ + 2) (τ 10)) (plc σ + 3) (ov0 τ)) (plc σ + 4) (τ 11))]) (by rw [lmr]; rfl) (fun H locs B => ?_)
      refine z_aload_n S (pc := 219) dX8_makeReading_219 rfl (lv_at hl 4 rfl) ?_
      refine z_get S (pc := 220) B iX8_makeReading_X8 0 rfl rfl 0 (by decide) rfl rfl (by decide +kernel) dX8_makeReading_220 ?_
      refine z_iload S (pc := 223) dX8_makeReading_223 (lv_at hl 0 rfl) ?_
      refine z_iconst S (pc := 225) dX8_makeReading_225 ?_
      refine z_iadd S (pc := 226) dX8_makeReading_226 ?_
      refine z_aload_n S (pc := 227) dX8_makeReading_227 rfl (lv_at hl 4 rfl) ?_
      refine z_get S (pc := 228) B iX8_makeReading_X8 0 rfl rfl 0 (by decide) rfl rfl (by decide +kernel) dX8_makeReading_228 ?_
      refine z_bipush S (pc := 231) dX8_makeReading_231 rfl ?_
      refine z_lald S (pc := 233) B 1 2 rfl rfl (k := 11) rfl (by decide) (by decide) (v := .long (iL ((cvt τ (gn (τ 10))) 11))) rfl dX8_makeReading_233 ?_
      refine z_last S (pc := 234) B 1 2 rfl rfl (k := 23 + (plc σ + 5)) (by omega) (by omega) (by decide) dX8_makeReading_234 (wn := [cMod a p1 p2 p3 p4 p5 p6 pm ((cvF τ (gn (τ 10))).1) (ov0 τ) rd wr sm, cAt E p1 (cvt τ (gn (τ 10))) (up (up (up (up (up (up ρ (plc σ) (val0 τ)) (plc σ + 1) (net0 τ)) (plc σ + 2) (τ 10)) (plc σ + 3) (ov0 τ)) (plc σ + 4) (τ 11)) (plc σ + 5) ((cvt τ (gn (τ 10))) 11))]) (by rw [lmr]; rfl) (fun H locs B => ?_)
      refine z_aload_n S (pc := 235) dX8_makeReading_235 rfl (lv_at hl 4 rfl) ?_
      refine z_get S (pc := 236) B iX8_makeReading_X8 0 rfl rfl 0 (by decide) rfl rfl (by decide +kernel) dX8_makeReading_236 ?_
      refine z_iload S (pc := 239) dX8_makeReading_239 (lv_at hl 0 rfl) ?_
      refine z_bipush S (pc := 241) dX8_makeReading_241 rfl ?_
      refine z_iadd S (pc := 243) dX8_makeReading_243 ?_
      refine z_aload_n S (pc := 244) dX8_makeReading_244 rfl (lv_at hl 4 rfl) ?_
      refine z_get S (pc := 245) B iX8_makeReading_X8 0 rfl rfl 0 (by decide) rfl rfl (by decide +kernel) dX8_makeReading_245 ?_
      refine z_bipush S (pc := 248) dX8_makeReading_248 rfl ?_
      refine z_lald S (pc := 250) B 1 2 rfl rfl (k := 12) rfl (by decide) (by decide) (v := .long (iL (τ 12))) rfl dX8_makeReading_250 ?_
      refine z_last S (pc := 251) B 1 2 rfl rfl (k := 23 + (plc σ + 6)) (by omega) (by omega) (by decide) dX8_makeReading_251 (wn := [cMod a p1 p2 p3 p4 p5 p6 pm ((cvF τ (gn (τ 10))).1) (ov0 τ) rd wr sm, cAt E p1 (cvt τ (gn (τ 10))) (up (up (up (up (up (up (up ρ (plc σ) (val0 τ)) (plc σ + 1) (net0 τ)) (plc σ + 2) (τ 10)) (plc σ + 3) (ov0 τ)) (plc σ + 4) (τ 11)) (plc σ + 5) ((cvt τ (gn (τ 10))) 11)) (plc σ + 6) (τ 12))]) (by rw [lmr]; rfl) (fun H locs B => ?_)
      refine z_aload_n S (pc := 252) dX8_makeReading_252 rfl (lv_at hl 4 rfl) ?_
      refine z_get S (pc := 253) B iX8_makeReading_X8 0 rfl rfl 0 (by decide) rfl rfl (by decide +kernel) dX8_makeReading_253 ?_
      refine z_bipush S (pc := 256) dX8_makeReading_256 rfl ?_
      refine lv_dup2_11 S.1 S.2.1 (pc := 258) dX8_makeReading_258 rfl rfl ?_
      refine z_lald S (pc := 259) B 1 2 rfl rfl (k := 14) rfl (by decide) (by decide) (v := .long (iL (τ 14))) rfl dX8_makeReading_259 ?_
      refine z_lconst S (pc := 260) (x := 1) dX8_makeReading_260 rfl ?_
      refine z_ladd S (pc := 261) dX8_makeReading_261 ?_
      refine z_last S (pc := 262) B 1 2 rfl rfl (k := 14) rfl (by decide) (by decide) dX8_makeReading_262 (wn := [cMod a p1 p2 p3 p4 p5 p6 pm ((cvF τ (gn (τ 10))).1) (ov0 τ) rd wr sm, cAt E p1 (up (cvt τ (gn (τ 10))) 14 ((τ 14) + 1)) (up (up (up (up (up (up (up ρ (plc σ) (val0 τ)) (plc σ + 1) (net0 τ)) (plc σ + 2) (τ 10)) (plc σ + 3) (ov0 τ)) (plc σ + 4) (τ 11)) (plc σ + 5) ((cvt τ (gn (τ 10))) 11)) (plc σ + 6) (τ 12))]) (by rw [lmu _ _ (by decide)]; rfl) (fun H locs B => ?_)
      refine z_aload_n S (pc := 263) dX8_makeReading_263 rfl (lv_at hl 4 rfl) ?_
      refine z_lload_n S (pc := 264) dX8_makeReading_264 rfl (lv_at hl 2 rfl) ?_
      refine z_callV S (pc := 265) B (wr := []) (wn := fun _ => [cMod a p1 p2 p3 p4 p5 p6 pm ((cvF τ (gn (τ 10))).1) (ov0 τ) rd wr sm, cAt E p1 (up (up (cvt τ (gn (τ 10))) 14 ((τ 14) + 1)) 10 (if (τ 9) = 0 then (τ 10) else swr (ov0 τ) (net0 τ) (τ 5) (τ 10))) (up (up (up (up (up (up (up ρ (plc σ) (val0 τ)) (plc σ + 1) (net0 τ)) (plc σ + 2) (τ 10)) (plc σ + 3) (ov0 τ)) (plc σ + 4) (τ 11)) (plc σ + 5) ((cvt τ (gn (τ 10))) 11)) (plc σ + 6) (τ 12))]) (st1 := fun _ => []) (As := [.long (iL (net0 τ))]) (mX8_changeRange l E a p1 p2 p3 p4 p5 p6 (up (cvt τ (gn (τ 10))) 14 ((τ 14) + 1)) (up (up (up (up (up (up (up ρ (plc σ) (val0 τ)) (plc σ + 1) (net0 τ)) (plc σ + 2) (τ 10)) (plc σ + 3) (ov0 τ)) (plc σ + 4) (τ 11)) (plc σ + 5) ((cvt τ (gn (τ 10))) 11)) (plc σ + 6) (τ 12)) pm ((cvF τ (gn (τ 10))).1) (ov0 τ) rd wr sm (net0 τ) (show 4 ≤ τ 5 ∧ τ 5 ≤ 400 from by omega) (show 0 ≤ τ 9 ∧ τ 9 ≤ 1 from by omega) (show 0 ≤ τ 10 ∧ τ 10 ≤ 3 from by omega) (show 0 ≤ (ov0 τ) ∧ (ov0 τ) ≤ 1 from by omega) (show -90000 ≤ (net0 τ) ∧ (net0 τ) ≤ 90000 from by omega)) gX8_makeReading_X8_changeRange 1 rfl (by decide +kernel) ⟨Nat.le_of_ble_eq_true rfl, Nat.le_of_ble_eq_true rfl, Nat.le_of_ble_eq_true rfl, Nat.le_of_ble_eq_true rfl⟩ 0 rfl (q := (RX8, TX8, 12)) rfl rfl [0, 1] [] [0, 1] rfl rfl ⟨rfl, rfl, rfl, by decide⟩ (fun _ => rfl) rfl (fun _ => rfl) hl.1 (Nat.le_of_ble_eq_true rfl) rfl dX8_makeReading_265 (fun _ _ H locs B => ?_)
      refine z_lload S (pc := 268) dX8_makeReading_268 (lv_at hl 1 rfl) ?_
      have e10 : (if τ 9 = 0 then τ 10 else swr (ov0 τ) (net0 τ) (τ 5) (τ 10)) = rg0 τ := by unfold rg0; rcases (show τ 9 = 0 ∨ τ 9 = 1 from by omega) with h | h <;> rw [h] <;> rfl
      have e9 : up (up (cvt τ (gn (τ 10))) 14 ((τ 14) + 1)) 10 (if (τ 9) = 0 then (τ 10) else swr (ov0 τ) (net0 τ) (τ 5) (τ 10)) = rdS σ := by rw [up_comm _ _ _ (by decide), ht14, e10]; subst hτ; rfl
      subst hτ
      exact z_lreturn S hr hlk B () trivial rfl (by rw [e9]; rfl) (pc := 270) dX8_makeReading_270
  · refine z_aload_n S (pc := 12) dX8_makeReading_12 rfl (lv_at hl 0 rfl) ?_
    refine z_get S (pc := 13) B iX8_makeReading_X8 0 rfl rfl 0 (by decide) rfl rfl (by decide +kernel) dX8_makeReading_13 ?_
    refine z_bipush S (pc := 16) dX8_makeReading_16 rfl ?_
    refine z_lald S (pc := 18) B 1 2 rfl rfl (k := 13) rfl (by decide) (by decide) (v := .long (iL (σ 13))) rfl dX8_makeReading_18 ?_
    refine z_lconst S (pc := 19) (x := 0) dX8_makeReading_19 rfl ?_
    refine z_lc_ne S (pc := 20) (tgt := 28) (by omega) (by omega) dX8_makeReading_20 dX8_makeReading_21 rfl (fun c3 => ?_) (fun c3 => ?_)
    · refine z_iconst S (pc := 28) dX8_makeReading_28 ?_
      refine lv_istore_n (lv' := [(1, .int (iI 0)), (0, .ref a)]) S.1 S.2.1 (pc := 29) dX8_makeReading_29 rfl hl (by decide) rfl (fun ls hl => ?_)
      refine z_iload_n S (pc := 30) dX8_makeReading_30 rfl (lv_at hl 0 rfl) ?_
      refine z_if_eq S (pc := 31) (tgt := 53) (by omega) dX8_makeReading_31 rfl (fun c4 => ?_) (fun c4 => absurd c4 (by omega))
      refine z_aload_n S (pc := 53) dX8_makeReading_53 rfl (lv_at hl 1 rfl) ?_
      refine z_get S (pc := 54) B iX8_makeReading_X8 0 rfl rfl 0 (by decide) rfl rfl (by decide +kernel) dX8_makeReading_54 ?_
      refine z_bipush S (pc := 57) dX8_makeReading_57 rfl ?_
      refine z_iload_n S (pc := 59) dX8_makeReading_59 rfl (lv_at hl 0 rfl) ?_
      refine z_if_eq S (pc := 60) (tgt := 75) (by omega) dX8_makeReading_60 rfl (fun c5 => ?_) (fun c5 => absurd c5 (by omega))
      refine z_aload_n S (pc := 75) dX8_makeReading_75 rfl (lv_at hl 1 rfl) ?_
      refine z_get S (pc := 76) B iX8_makeReading_X8 0 rfl rfl 0 (by decide) rfl rfl (by decide +kernel) dX8_makeReading_76 ?_
      refine z_bipush S (pc := 79) dX8_makeReading_79 rfl ?_
      refine z_lald S (pc := 81) B 1 2 rfl rfl (k := 13) rfl (by decide) (by decide) (v := .long (iL (σ 13))) rfl dX8_makeReading_81 ?_
      refine z_lconst S (pc := 82) (x := 1) dX8_makeReading_82 rfl ?_
      refine z_lsub S (pc := 83) dX8_makeReading_83 ?_
      refine z_last S (pc := 84) B 1 2 rfl rfl (k := 13) rfl (by decide) (by decide) dX8_makeReading_84 (wn := [cMod a p1 p2 p3 p4 p5 p6 pm ig mo rd wr sm, cAt E p1 (up σ 13 ((σ 13) - 1)) ρ]) (by rw [lmu _ _ (by decide)]; rfl) (fun H locs B => ?_)
      have e1 : rz σ = up σ 13 (σ 13 - 1) := by unfold rz; rw [if_pos (by omega), if_neg (by omega)]
      obtain ⟨τ, hτ⟩ : ∃ τ, τ = rz σ := ⟨_, rfl⟩
      have B : bw E A s H locs [cMod a p1 p2 p3 p4 p5 p6 pm ig mo rd wr sm, cAt E p1 τ ρ] := by rw [hτ, e1]; exact B
      clear e1
      have hts : Sets τ := by rw [hτ]; exact rz_sets hs
      have ht12 : -60000 ≤ τ 12 ∧ τ 12 ≤ 60000 := by rw [hτ]; exact (rz_nums hs hn).1
      have ht11 : σ 11 ≤ τ 11 ∧ τ 11 ≤ σ 11 + 1616 := by rw [hτ]; exact rz_time hs
      have ht14 : τ 14 = σ 14 := by rw [hτ]; exact rz_14 σ
      obtain ⟨u0, u1, u2, u3, u4, u5, u6, u7, u8, u9, u10⟩ := id hts
      have hgn := gn_bd (τ 10)
      have hdv := div0 hts
      have hn0 := net0_bd hts ht12
      have hc15 := cnt_bd τ (gn (τ 10)) u5
      have ho : ov0 τ = 0 ∨ ov0 τ = 1 := ovr_01 τ (gn (τ 10))
      have hpl : (plc σ : Int) = 7 * (σ 14 % 40) := by unfold plc; omega
      have hpl2 : plc σ ≤ 273 := by unfold plc; omega
      have hq := tdiv_bd (a := net0 τ * 65536) (q := τ 5 * gn (τ 10)) (B := 6000000000) (by omega) (by omega) (by omega)
      refine z_aload_n S (pc := 85) dX8_makeReading_85 rfl (lv_at hl 1 rfl) ?_
      refine z_get S (pc := 86) B iX8_makeReading_X8 0 rfl rfl 0 (by decide) rfl rfl (by decide +kernel) dX8_makeReading_86 ?_
      refine z_bipush S (pc := 89) dX8_makeReading_89 rfl ?_
      refine z_lald S (pc := 91) B 1 2 rfl rfl (k := 11) rfl (by decide) (by decide) (v := .long (iL (τ 11))) rfl dX8_makeReading_91 ?_
      refine lv_lstore_n (lv' := [(1, .long (iL (τ 11))), (0, .ref a)]) S.1 S.2.1 (pc := 92) dX8_makeReading_92 rfl hl (by decide) rfl (fun ls hl => ?_)
      refine z_aload_n S (pc := 93) dX8_makeReading_93 rfl (lv_at hl 1 rfl) ?_
      refine z_iconst S (pc := 94) dX8_makeReading_94 ?_
      refine z_callV S (pc := 95) B (wr := []) (wn := fun _ => [cMod a p1 p2 p3 p4 p5 p6 pm ((cvF τ (gn (τ 10))).1) (ovr τ (gn (τ 10))) rd wr sm, cAt E p1 (cvt τ (gn (τ 10))) ρ]) (st1 := fun _ => []) (As := [.int (iI 0)]) (mX8_convert_0 l E a p1 p2 p3 p4 p5 p6 τ ρ pm ig mo rd wr sm (show Sets τ from by assumption) (show 0 ≤ τ 11 ∧ τ 11 ≤ 2100000000 from by omega)) gX8_makeReading_X8_convert 1 rfl (by decide +kernel) ⟨Nat.le_of_ble_eq_true rfl, Nat.le_of_ble_eq_true rfl, Nat.le_of_ble_eq_true rfl, Nat.le_of_ble_eq_true rfl⟩ 0 rfl (q := (RX8, TX8, 12)) rfl rfl [0, 1] [] [0, 1] rfl rfl ⟨rfl, rfl, rfl, by decide⟩ (fun _ => rfl) rfl (fun _ => rfl) hl.1 (Nat.le_of_ble_eq_true rfl) rfl dX8_makeReading_95 (fun _ _ H locs B => ?_)
      have B : bw E A s H locs [cMod a p1 p2 p3 p4 p5 p6 pm ((cvF τ (gn (τ 10))).1) (ov0 τ) rd wr sm, cAt E p1 (cvt τ (gn (τ 10))) ρ] := B
      refine z_aload_n S (pc := 98) dX8_makeReading_98 rfl (lv_at hl 1 rfl) ?_
      refine z_get S (pc := 99) B iX8_makeReading_X8 0 rfl rfl 0 (by decide) rfl rfl (by decide +kernel) dX8_makeReading_99 ?_
      refine z_bipush S (pc := 102) dX8_makeReading_102 rfl ?_
      refine z_lald S (pc := 104) B 1 2 rfl rfl (k := 15) rfl (by decide) (by decide) (v := .long (iL ((cvt τ (gn (τ 10))) 15))) rfl dX8_makeReading_104 ?_
      refine z_aload_n S (pc := 105) dX8_makeReading_105 rfl (lv_at hl 1 rfl) ?_
      refine z_get S (pc := 106) B iX8_makeReading_X8 0 rfl rfl 0 (by decide) rfl rfl (by decide +kernel) dX8_makeReading_106 ?_
      refine z_bipush S (pc := 109) dX8_makeReading_109 rfl ?_
      refine z_lald S (pc := 111) B 1 2 rfl rfl (k := 12) rfl (by decide) (by decide) (v := .long (iL (τ 12))) rfl dX8_makeReading_111 ?_
      refine z_lsub S (pc := 112) dX8_makeReading_112 ?_
      rw [show (((cvt τ (gn (τ 10))) 15) - (τ 12) : Int) = net0 τ from rfl]
      refine lv_lstore_n (lv' := [(3, .long (iL (net0 τ))), (1, .long (iL (τ 11))), (0, .ref a)]) S.1 S.2.1 (pc := 113) dX8_makeReading_113 rfl hl (by decide) rfl (fun ls hl => ?_)
      refine z_lload_n S (pc := 114) dX8_makeReading_114 rfl (lv_at hl 0 rfl) ?_
      refine z_ldc2 S (pc := 115) (x := 65536) (by decide +kernel) rfl dX8_makeReading_115 ?_
      refine z_lmul S (pc := 118) dX8_makeReading_118 ?_
      refine z_aload_n S (pc := 119) dX8_makeReading_119 rfl (lv_at hl 2 rfl) ?_
      refine z_get S (pc := 120) B iX8_makeReading_X8 0 rfl rfl 0 (by decide) rfl rfl (by decide +kernel) dX8_makeReading_120 ?_
      refine z_iconst S (pc := 123) dX8_makeReading_123 ?_
      refine z_lald S (pc := 124) B 1 2 rfl rfl (k := 5) rfl (by decide) (by decide) (v := .long (iL (τ 5))) rfl dX8_makeReading_124 ?_
      refine z_aload_n S (pc := 125) dX8_makeReading_125 rfl (lv_at hl 2 rfl) ?_
      refine z_callV S (pc := 126) B (wr := []) (wn := fun _ => [cMod a p1 p2 p3 p4 p5 p6 pm ((cvF τ (gn (τ 10))).1) (ov0 τ) rd wr sm, cAt E p1 (cvt τ (gn (τ 10))) ρ]) (st1 := fun _ => [.long (iL (gn (τ 10))), .long (iL (τ 5)), .long (iL ((net0 τ) * 65536))]) (As := []) (mX8_gain l E a p1 p2 p3 p4 p5 p6 (cvt τ (gn (τ 10))) ρ pm ((cvF τ (gn (τ 10))).1) (ov0 τ) rd wr sm (show 0 ≤ τ 10 ∧ τ 10 ≤ 3 from by omega)) gX8_makeReading_X8_gain 0 rfl (by decide +kernel) ⟨Nat.le_of_ble_eq_true rfl, Nat.le_of_ble_eq_true rfl, Nat.le_of_ble_eq_true rfl, Nat.le_of_ble_eq_true rfl⟩ 0 rfl (q := (RX8, TX8, 12)) rfl rfl [0, 1] [] [0, 1] rfl rfl ⟨rfl, rfl, rfl, by decide⟩ (fun _ => rfl) rfl (fun _ => rfl) hl.1 (Nat.le_of_ble_eq_true rfl) rfl dX8_makeReading_126 (fun _ _ H locs B => ?_)
      refine z_lmul S (pc := 129) dX8_makeReading_129 ?_
      refine z_ldiv S (pc := 130) (by omega) (by omega) (by omega) (by omega) dX8_makeReading_130 ?_
      rw [show (((net0 τ) * 65536).tdiv ((τ 5) * (gn (τ 10))) : Int) = val0 τ from rfl]
      refine lv_lstore (lv' := [(5, .long (iL (val0 τ))), (3, .long (iL (net0 τ))), (1, .long (iL (τ 11))), (0, .ref a)]) S.1 S.2.1 (pc := 131) dX8_makeReading_131 hl (by decide) rfl (fun ls hl => ?_)
      refine z_bipush S (pc := 133) dX8_makeReading_133 rfl ?_
      refine z_bipush S (pc := 135) dX8_makeReading_135 rfl ?_
      refine z_aload_n S (pc := 137) dX8_makeReading_137 rfl (lv_at hl 3 rfl) ?_
      refine z_get S (pc := 138) B iX8_makeReading_X8 0 rfl rfl 0 (by decide) rfl rfl (by decide +kernel) dX8_makeReading_138 ?_
      refine z_bipush S (pc := 141) dX8_makeReading_141 rfl ?_
      refine z_lald S (pc := 143) B 1 2 rfl rfl (k := 14) rfl (by decide) (by decide) (v := .long (iL (τ 14))) rfl dX8_makeReading_143 ?_
      refine z_ldc2 S (pc := 144) (x := 40) (by decide +kernel) rfl dX8_makeReading_144 ?_
      refine z_lremn S (pc := 147) (by omega) (by omega) dX8_makeReading_147 ?_
      refine z_l2i S (pc := 148) dX8_makeReading_148 ?_
      refine z_imul S (pc := 149) dX8_makeReading_149 ?_
      refine z_iadd S (pc := 150) dX8_makeReading_150 ?_
      rw [show (23 + (7 * ((τ 14) % 40)) : Int) = 23 + 7 * (σ 14 % 40) from by rw [← ht14]]
      refine lv_istore (lv' := [(7, .int (iI (23 + 7 * (σ 14 % 40)))), (5, .long (iL (val0 τ))), (3, .long (iL (net0 τ))), (1, .long (iL (τ 11))), (0, .ref a)]) S.1 S.2.1 (pc := 151) dX8_makeReading_151 hl (by decide) rfl (fun ls hl => ?_)
      refine z_aload_n S (pc := 153) dX8_makeReading_153 rfl (lv_at hl 4 rfl) ?_
      refine z_get S (pc := 154) B iX8_makeReading_X8 0 rfl rfl 0 (by decide) rfl rfl (by decide +kernel) dX8_makeReading_154 ?_
      refine z_iload S (pc := 157) dX8_makeReading_157 (lv_at hl 0 rfl) ?_
      refine z_lload S (pc := 159) dX8_makeReading_159 (lv_at hl 1 rfl) ?_
      refine z_last S (pc := 161) B 1 2 rfl rfl (k := 23 + (plc σ)) (by omega) (by omega) (by decide) dX8_makeReading_161 (wn := [cMod a p1 p2 p3 p4 p5 p6 pm ((cvF τ (gn (τ 10))).1) (ov0 τ) rd wr sm, cAt E p1 (cvt τ (gn (τ 10))) (up ρ (plc σ) (val0 τ))]) (by rw [lmr]; rfl) (fun H locs B => ?_)
      refine z_aload_n S (pc := 162) dX8_makeReading_162 rfl (lv_at hl 4 rfl) ?_
      refine z_get S (pc := 163) B iX8_makeReading_X8 0 rfl rfl 0 (by decide) rfl rfl (by decide +kernel) dX8_makeReading_163 ?_
      refine z_iload S (pc := 166) dX8_makeReading_166 (lv_at hl 0 rfl) ?_
      refine z_iconst S (pc := 168) dX8_makeReading_168 ?_
      refine z_iadd S (pc := 169) dX8_makeReading_169 ?_
      refine z_lload_n S (pc := 170) dX8_makeReading_170 rfl (lv_at hl 2 rfl) ?_
      refine z_last S (pc := 171) B 1 2 rfl rfl (k := 23 + (plc σ + 1)) (by omega) (by omega) (by decide) dX8_makeReading_171 (wn := [cMod a p1 p2 p3 p4 p5 p6 pm ((cvF τ (gn (τ 10))).1) (ov0 τ) rd wr sm, cAt E p1 (cvt τ (gn (τ 10))) (up (up ρ (plc σ) (val0 τ)) (plc σ + 1) (net0 τ))]) (by rw [lmr]; rfl) (fun H locs B => ?_)
      refine z_aload_n S (pc := 172) dX8_makeReading_172 rfl (lv_at hl 4 rfl) ?_
      refine z_get S (pc := 173) B iX8_makeReading_X8 0 rfl rfl 0 (by decide) rfl rfl (by decide +kernel) dX8_makeReading_173 ?_
      refine z_iload S (pc := 176) dX8_makeReading_176 (lv_at hl 0 rfl) ?_
      refine z_iconst S (pc := 178) dX8_makeReading_178 ?_
      refine z_iadd S (pc := 179) dX8_makeReading_179 ?_
      refine z_aload_n S (pc := 180) dX8_makeReading_180 rfl (lv_at hl 4 rfl) ?_
      refine z_get S (pc := 181) B iX8_makeReading_X8 0 rfl rfl 0 (by decide) rfl rfl (by decide +kernel) dX8_makeReading_181 ?_
      refine z_bipush S (pc := 184) dX8_makeReading_184 rfl ?_
      refine z_lald S (pc := 186) B 1 2 rfl rfl (k := 10) rfl (by decide) (by decide) (v := .long (iL (τ 10))) rfl dX8_makeReading_186 ?_
      refine z_last S (pc := 187) B 1 2 rfl rfl (k := 23 + (plc σ + 2)) (by omega) (by omega) (by decide) dX8_makeReading_187 (wn := [cMod a p1 p2 p3 p4 p5 p6 pm ((cvF τ (gn (τ 10))).1) (ov0 τ) rd wr sm, cAt E p1 (cvt τ (gn (τ 10))) (up (up (up ρ (plc σ) (val0 τ)) (plc σ + 1) (net0 τ)) (plc σ + 2) (τ 10))]) (by rw [lmr]; rfl) (fun H locs B => ?_)
      refine z_aload_n S (pc := 188) dX8_makeReading_188 rfl (lv_at hl 4 rfl) ?_
      refine z_get S (pc := 189) B iX8_makeReading_X8 0 rfl rfl 0 (by decide) rfl rfl (by decide +kernel) dX8_makeReading_189 ?_
      refine z_iload S (pc := 192) dX8_makeReading_192 (lv_at hl 0 rfl) ?_
      refine z_iconst S (pc := 194) dX8_makeReading_194 ?_
      refine z_iadd S (pc := 195) dX8_makeReading_195 ?_
      refine z_aload_n S (pc := 196) dX8_makeReading_196 rfl (lv_at hl 4 rfl) ?_
      refine z_get S (pc := 197) B iX8_makeReading_X8 0 rfl rfl 7 (by decide) rfl rfl (by decide +kernel) dX8_makeReading_197 ?_
      refine z_if_eq S (pc := 200) (tgt := 207) (by omega) dX8_makeReading_200 rfl (fun c6 => ?_) (fun c6 => ?_)
      · refine z_lconst S (pc := 207) (x := 0) dX8_makeReading_207 rfl ?_
        rw [show Value.long (iL 0) = Value.long (iL (ov0 τ)) from by rw [show ov0 τ = 0 from by omega]]
        refine z_last S (pc := 208) B 1 2 rfl rfl (k := 23 + (plc σ + 3)) (by omega) (by omega) (by decide) dX8_makeReading_208 (wn := [cMod a p1 p2 p3 p4 p5 p6 pm ((cvF τ (gn (τ 10))).1) (ov0 τ) rd wr sm, cAt E p1 (cvt τ (gn (τ 10))) (up (up (up (up ρ (plc σ) (val0 τ)) (plc σ + 1) (net0 τ)) (plc σ + 2) (τ 10)) (plc σ + 3) (ov0 τ))]) (by rw [lmr]; rfl) (fun H locs B => ?_)
        refine z_aload_n S (pc := 209) dX8_makeReading_209 rfl (lv_at hl 4 rfl) ?_
        refine z_get S (pc := 210) B iX8_makeReading_X8 0 rfl rfl 0 (by decide) rfl rfl (by decide +kernel) dX8_makeReading_210 ?_
        refine z_iload S (pc := 213) dX8_makeReading_213 (lv_at hl 0 rfl) ?_
        refine z_iconst S (pc := 215) dX8_makeReading_215 ?_
        refine z_iadd S (pc := 216) dX8_makeReading_216 ?_
        refine z_lload_n S (pc := 217) dX8_makeReading_217 rfl (lv_at hl 3 rfl) ?_
        refine z_last S (pc := 218) B 1 2 rfl rfl (k := 23 + (plc σ + 4)) (by omega) (by omega) (by decide) dX8_makeReading_218 (wn := [cMod a p1 p2 p3 p4 p5 p6 pm ((cvF τ (gn (τ 10))).1) (ov0 τ) rd wr sm, cAt E p1 (cvt τ (gn (τ 10))) (up (up (up (up (up ρ (plc σ) (val0 τ)) (plc σ + 1) (net0 τ)) (plc σ + 2) (τ 10)) (plc σ + 3) (ov0 τ)) (plc σ + 4) (τ 11))]) (by rw [lmr]; rfl) (fun H locs B => ?_)
        refine z_aload_n S (pc := 219) dX8_makeReading_219 rfl (lv_at hl 4 rfl) ?_
        refine z_get S (pc := 220) B iX8_makeReading_X8 0 rfl rfl 0 (by decide) rfl rfl (by decide +kernel) dX8_makeReading_220 ?_
        refine z_iload S (pc := 223) dX8_makeReading_223 (lv_at hl 0 rfl) ?_
        refine z_iconst S (pc := 225) dX8_makeReading_225 ?_
        refine z_iadd S (pc := 226) dX8_makeReading_226 ?_
        refine z_aload_n S (pc := 227) dX8_makeReading_227 rfl (lv_at hl 4 rfl) ?_
        refine z_get S (pc := 228) B iX8_makeReading_X8 0 rfl rfl 0 (by decide) rfl rfl (by decide +kernel) dX8_makeReading_228 ?_
        refine z_bipush S (pc := 231) dX8_makeReading_231 rfl ?_
        refine z_lald S (pc := 233) B 1 2 rfl rfl (k := 11) rfl (by decide) (by decide) (v := .long (iL ((cvt τ (gn (τ 10))) 11))) rfl dX8_makeReading_233 ?_
        refine z_last S (pc := 234) B 1 2 rfl rfl (k := 23 + (plc σ + 5)) (by omega) (by omega) (by decide) dX8_makeReading_234 (wn := [cMod a p1 p2 p3 p4 p5 p6 pm ((cvF τ (gn (τ 10))).1) (ov0 τ) rd wr sm, cAt E p1 (cvt τ (gn (τ 10))) (up (up (up (up (up (up ρ (plc σ) (val0 τ)) (plc σ + 1) (net0 τ)) (plc σ + 2) (τ 10)) (plc σ + 3) (ov0 τ)) (plc σ + 4) (τ 11)) (plc σ + 5) ((cvt τ (gn (τ 10))) 11))]) (by rw [lmr]; rfl) (fun H locs B => ?_)
        refine z_aload_n S (pc := 235) dX8_makeReading_235 rfl (lv_at hl 4 rfl) ?_
        refine z_get S (pc := 236) B iX8_makeReading_X8 0 rfl rfl 0 (by decide) rfl rfl (by decide +kernel) dX8_makeReading_236 ?_
        refine z_iload S (pc := 239) dX8_makeReading_239 (lv_at hl 0 rfl) ?_
        refine z_bipush S (pc := 241) dX8_makeReading_241 rfl ?_
        refine z_iadd S (pc := 243) dX8_makeReading_243 ?_
        refine z_aload_n S (pc := 244) dX8_makeReading_244 rfl (lv_at hl 4 rfl) ?_
        refine z_get S (pc := 245) B iX8_makeReading_X8 0 rfl rfl 0 (by decide) rfl rfl (by decide +kernel) dX8_makeReading_245 ?_
        refine z_bipush S (pc := 248) dX8_makeReading_248 rfl ?_
        refine z_lald S (pc := 250) B 1 2 rfl rfl (k := 12) rfl (by decide) (by decide) (v := .long (iL (τ 12))) rfl dX8_makeReading_250 ?_
        refine z_last S (pc := 251) B 1 2 rfl rfl (k := 23 + (plc σ + 6)) (by omega) (by omega) (by decide) dX8_makeReading_251 (wn := [cMod a p1 p2 p3 p4 p5 p6 pm ((cvF τ (gn (τ 10))).1) (ov0 τ) rd wr sm, cAt E p1 (cvt τ (gn (τ 10))) (up (up (up (up (up (up (up ρ (plc σ) (val0 τ)) (plc σ + 1) (net0 τ)) (plc σ + 2) (τ 10)) (plc σ + 3) (ov0 τ)) (plc σ + 4) (τ 11)) (plc σ + 5) ((cvt τ (gn (τ 10))) 11)) (plc σ + 6) (τ 12))]) (by rw [lmr]; rfl) (fun H locs B => ?_)
        refine z_aload_n S (pc := 252) dX8_makeReading_252 rfl (lv_at hl 4 rfl) ?_
        refine z_get S (pc := 253) B iX8_makeReading_X8 0 rfl rfl 0 (by decide) rfl rfl (by decide +kernel) dX8_makeReading_253 ?_
        refine z_bipush S (pc := 256) dX8_makeReading_256 rfl ?_
        refine lv_dup2_11 S.1 S.2.1 (pc := 258) dX8_makeReading_258 rfl rfl ?_
        refine z_lald S (pc := 259) B 1 2 rfl rfl (k := 14) rfl (by decide) (by decide) (v := .long (iL (τ 14))) rfl dX8_makeReading_259 ?_
        refine z_lconst S (pc := 260) (x := 1) dX8_makeReading_260 rfl ?_
        refine z_ladd S (pc := 261) dX8_makeReading_261 ?_
        refine z_last S (pc := 262) B 1 2 rfl rfl (k := 14) rfl (by decide) (by decide) dX8_makeReading_262 (wn := [cMod a p1 p2 p3 p4 p5 p6 pm ((cvF τ (gn (τ 10))).1) (ov0 τ) rd wr sm, cAt E p1 (up (cvt τ (gn (τ 10))) 14 ((τ 14) + 1)) (up (up (up (up (up (up (up ρ (plc σ) (val0 τ)) (plc σ + 1) (net0 τ)) (plc σ + 2) (τ 10)) (plc σ + 3) (ov0 τ)) (plc σ + 4) (τ 11)) (plc σ + 5) ((cvt τ (gn (τ 10))) 11)) (plc σ + 6) (τ 12))]) (by rw [lmu _ _ (by decide)]; rfl) (fun H locs B => ?_)
        refine z_aload_n S (pc := 263) dX8_makeReading_263 rfl (lv_at hl 4 rfl) ?_
        refine z_lload_n S (pc := 264) dX8_makeReading_264 rfl (lv_at hl 2 rfl) ?_
        refine z_callV S (pc := 265) B (wr := []) (wn := fun _ => [cMod a p1 p2 p3 p4 p5 p6 pm ((cvF τ (gn (τ 10))).1) (ov0 τ) rd wr sm, cAt E p1 (up (up (cvt τ (gn (τ 10))) 14 ((τ 14) + 1)) 10 (if (τ 9) = 0 then (τ 10) else swr (ov0 τ) (net0 τ) (τ 5) (τ 10))) (up (up (up (up (up (up (up ρ (plc σ) (val0 τ)) (plc σ + 1) (net0 τ)) (plc σ + 2) (τ 10)) (plc σ + 3) (ov0 τ)) (plc σ + 4) (τ 11)) (plc σ + 5) ((cvt τ (gn (τ 10))) 11)) (plc σ + 6) (τ 12))]) (st1 := fun _ => []) (As := [.long (iL (net0 τ))]) (mX8_changeRange l E a p1 p2 p3 p4 p5 p6 (up (cvt τ (gn (τ 10))) 14 ((τ 14) + 1)) (up (up (up (up (up (up (up ρ (plc σ) (val0 τ)) (plc σ + 1) (net0 τ)) (plc σ + 2) (τ 10)) (plc σ + 3) (ov0 τ)) (plc σ + 4) (τ 11)) (plc σ + 5) ((cvt τ (gn (τ 10))) 11)) (plc σ + 6) (τ 12)) pm ((cvF τ (gn (τ 10))).1) (ov0 τ) rd wr sm (net0 τ) (show 4 ≤ τ 5 ∧ τ 5 ≤ 400 from by omega) (show 0 ≤ τ 9 ∧ τ 9 ≤ 1 from by omega) (show 0 ≤ τ 10 ∧ τ 10 ≤ 3 from by omega) (show 0 ≤ (ov0 τ) ∧ (ov0 τ) ≤ 1 from by omega) (show -90000 ≤ (net0 τ) ∧ (net0 τ) ≤ 90000 from by omega)) gX8_makeReading_X8_changeRange 1 rfl (by decide +kernel) ⟨Nat.le_of_ble_eq_true rfl, Nat.le_of_ble_eq_true rfl, Nat.le_of_ble_eq_true rfl, Nat.le_of_ble_eq_true rfl⟩ 0 rfl (q := (RX8, TX8, 12)) rfl rfl [0, 1] [] [0, 1] rfl rfl ⟨rfl, rfl, rfl, by decide⟩ (fun _ => rfl) rfl (fun _ => rfl) hl.1 (Nat.le_of_ble_eq_true rfl) rfl dX8_makeReading_265 (fun _ _ H locs B => ?_)
        refine z_lload S (pc := 268) dX8_makeReading_268 (lv_at hl 1 rfl) ?_
        have e10 : (if τ 9 = 0 then τ 10 else swr (ov0 τ) (net0 τ) (τ 5) (τ 10)) = rg0 τ := by unfold rg0; rcases (show τ 9 = 0 ∨ τ 9 = 1 from by omega) with h | h <;> rw [h] <;> rfl
        have e9 : up (up (cvt τ (gn (τ 10))) 14 ((τ 14) + 1)) 10 (if (τ 9) = 0 then (τ 10) else swr (ov0 τ) (net0 τ) (τ 5) (τ 10)) = rdS σ := by rw [up_comm _ _ _ (by decide), ht14, e10]; subst hτ; rfl
        subst hτ
        exact z_lreturn S hr hlk B () trivial rfl (by rw [e9]; rfl) (pc := 270) dX8_makeReading_270
      · refine z_lconst S (pc := 203) (x := 1) dX8_makeReading_203 rfl ?_
        refine lv_goto S.1 S.2.1 (pc := 204) (tgt := 208) dX8_makeReading_204 rfl ?_
        rw [show Value.long (iL 1) = Value.long (iL (ov0 τ)) from by rw [show ov0 τ = 1 from by omega]]
        refine z_last S (pc := 208) B 1 2 rfl rfl (k := 23 + (plc σ + 3)) (by omega) (by omega) (by decide) dX8_makeReading_208 (wn := [cMod a p1 p2 p3 p4 p5 p6 pm ((cvF τ (gn (τ 10))).1) (ov0 τ) rd wr sm, cAt E p1 (cvt τ (gn (τ 10))) (up (up (up (up ρ (plc σ) (val0 τ)) (plc σ + 1) (net0 τ)) (plc σ + 2) (τ 10)) (plc σ + 3) (ov0 τ))]) (by rw [lmr]; rfl) (fun H locs B => ?_)
        refine z_aload_n S (pc := 209) dX8_makeReading_209 rfl (lv_at hl 4 rfl) ?_
        refine z_get S (pc := 210) B iX8_makeReading_X8 0 rfl rfl 0 (by decide) rfl rfl (by decide +kernel) dX8_makeReading_210 ?_
        refine z_iload S (pc := 213) dX8_makeReading_213 (lv_at hl 0 rfl) ?_
        refine z_iconst S (pc := 215) dX8_makeReading_215 ?_
        refine z_iadd S (pc := 216) dX8_makeReading_216 ?_
        refine z_lload_n S (pc := 217) dX8_makeReading_217 rfl (lv_at hl 3 rfl) ?_
        refine z_last S (pc := 218) B 1 2 rfl rfl (k := 23 + (plc σ + 4)) (by omega) (by omega) (by decide) dX8_makeReading_218 (wn := [cMod a p1 p2 p3 p4 p5 p6 pm ((cvF τ (gn (τ 10))).1) (ov0 τ) rd wr sm, cAt E p1 (cvt τ (gn (τ 10))) (up (up (up (up (up ρ (plc σ) (val0 τ)) (plc σ + 1) (net0 τ)) (plc σ + 2) (τ 10)) (plc σ + 3) (ov0 τ)) (plc σ + 4) (τ 11))]) (by rw [lmr]; rfl) (fun H locs B => ?_)
        refine z_aload_n S (pc := 219) dX8_makeReading_219 rfl (lv_at hl 4 rfl) ?_
        refine z_get S (pc := 220) B iX8_makeReading_X8 0 rfl rfl 0 (by decide) rfl rfl (by decide +kernel) dX8_makeReading_220 ?_
        refine z_iload S (pc := 223) dX8_makeReading_223 (lv_at hl 0 rfl) ?_
        refine z_iconst S (pc := 225) dX8_makeReading_225 ?_
        refine z_iadd S (pc := 226) dX8_makeReading_226 ?_
        refine z_aload_n S (pc := 227) dX8_makeReading_227 rfl (lv_at hl 4 rfl) ?_
        refine z_get S (pc := 228) B iX8_makeReading_X8 0 rfl rfl 0 (by decide) rfl rfl (by decide +kernel) dX8_makeReading_228 ?_
        refine z_bipush S (pc := 231) dX8_makeReading_231 rfl ?_
        refine z_lald S (pc := 233) B 1 2 rfl rfl (k := 11) rfl (by decide) (by decide) (v := .long (iL ((cvt τ (gn (τ 10))) 11))) rfl dX8_makeReading_233 ?_
        refine z_last S (pc := 234) B 1 2 rfl rfl (k := 23 + (plc σ + 5)) (by omega) (by omega) (by decide) dX8_makeReading_234 (wn := [cMod a p1 p2 p3 p4 p5 p6 pm ((cvF τ (gn (τ 10))).1) (ov0 τ) rd wr sm, cAt E p1 (cvt τ (gn (τ 10))) (up (up (up (up (up (up ρ (plc σ) (val0 τ)) (plc σ + 1) (net0 τ)) (plc σ + 2) (τ 10)) (plc σ + 3) (ov0 τ)) (plc σ + 4) (τ 11)) (plc σ + 5) ((cvt τ (gn (τ 10))) 11))]) (by rw [lmr]; rfl) (fun H locs B => ?_)
        refine z_aload_n S (pc := 235) dX8_makeReading_235 rfl (lv_at hl 4 rfl) ?_
        refine z_get S (pc := 236) B iX8_makeReading_X8 0 rfl rfl 0 (by decide) rfl rfl (by decide +kernel) dX8_makeReading_236 ?_
        refine z_iload S (pc := 239) dX8_makeReading_239 (lv_at hl 0 rfl) ?_
        refine z_bipush S (pc := 241) dX8_makeReading_241 rfl ?_
        refine z_iadd S (pc := 243) dX8_makeReading_243 ?_
        refine z_aload_n S (pc := 244) dX8_makeReading_244 rfl (lv_at hl 4 rfl) ?_
        refine z_get S (pc := 245) B iX8_makeReading_X8 0 rfl rfl 0 (by decide) rfl rfl (by decide +kernel) dX8_makeReading_245 ?_
        refine z_bipush S (pc := 248) dX8_makeReading_248 rfl ?_
        refine z_lald S (pc := 250) B 1 2 rfl rfl (k := 12) rfl (by decide) (by decide) (v := .long (iL (τ 12))) rfl dX8_makeReading_250 ?_
        refine z_last S (pc := 251) B 1 2 rfl rfl (k := 23 + (plc σ + 6)) (by omega) (by omega) (by decide) dX8_makeReading_251 (wn := [cMod a p1 p2 p3 p4 p5 p6 pm ((cvF τ (gn (τ 10))).1) (ov0 τ) rd wr sm, cAt E p1 (cvt τ (gn (τ 10))) (up (up (up (up (up (up (up ρ (plc σ) (val0 τ)) (plc σ + 1) (net0 τ)) (plc σ + 2) (τ 10)) (plc σ + 3) (ov0 τ)) (plc σ + 4) (τ 11)) (plc σ + 5) ((cvt τ (gn (τ 10))) 11)) (plc σ + 6) (τ 12))]) (by rw [lmr]; rfl) (fun H locs B => ?_)
        refine z_aload_n S (pc := 252) dX8_makeReading_252 rfl (lv_at hl 4 rfl) ?_
        refine z_get S (pc := 253) B iX8_makeReading_X8 0 rfl rfl 0 (by decide) rfl rfl (by decide +kernel) dX8_makeReading_253 ?_
        refine z_bipush S (pc := 256) dX8_makeReading_256 rfl ?_
        refine lv_dup2_11 S.1 S.2.1 (pc := 258) dX8_makeReading_258 rfl rfl ?_
        refine z_lald S (pc := 259) B 1 2 rfl rfl (k := 14) rfl (by decide) (by decide) (v := .long (iL (τ 14))) rfl dX8_makeReading_259 ?_
        refine z_lconst S (pc := 260) (x := 1) dX8_makeReading_260 rfl ?_
        refine z_ladd S (pc := 261) dX8_makeReading_261 ?_
        refine z_last S (pc := 262) B 1 2 rfl rfl (k := 14) rfl (by decide) (by decide) dX8_makeReading_262 (wn := [cMod a p1 p2 p3 p4 p5 p6 pm ((cvF τ (gn (τ 10))).1) (ov0 τ) rd wr sm, cAt E p1 (up (cvt τ (gn (τ 10))) 14 ((τ 14) + 1)) (up (up (up (up (up (up (up ρ (plc σ) (val0 τ)) (plc σ + 1) (net0 τ)) (plc σ + 2) (τ 10)) (plc σ + 3) (ov0 τ)) (plc σ + 4) (τ 11)) (plc σ + 5) ((cvt τ (gn (τ 10))) 11)) (plc σ + 6) (τ 12))]) (by rw [lmu _ _ (by decide)]; rfl) (fun H locs B => ?_)
        refine z_aload_n S (pc := 263) dX8_makeReading_263 rfl (lv_at hl 4 rfl) ?_
        refine z_lload_n S (pc := 264) dX8_makeReading_264 rfl (lv_at hl 2 rfl) ?_
        refine z_callV S (pc := 265) B (wr := []) (wn := fun _ => [cMod a p1 p2 p3 p4 p5 p6 pm ((cvF τ (gn (τ 10))).1) (ov0 τ) rd wr sm, cAt E p1 (up (up (cvt τ (gn (τ 10))) 14 ((τ 14) + 1)) 10 (if (τ 9) = 0 then (τ 10) else swr (ov0 τ) (net0 τ) (τ 5) (τ 10))) (up (up (up (up (up (up (up ρ (plc σ) (val0 τ)) (plc σ + 1) (net0 τ)) (plc σ + 2) (τ 10)) (plc σ + 3) (ov0 τ)) (plc σ + 4) (τ 11)) (plc σ + 5) ((cvt τ (gn (τ 10))) 11)) (plc σ + 6) (τ 12))]) (st1 := fun _ => []) (As := [.long (iL (net0 τ))]) (mX8_changeRange l E a p1 p2 p3 p4 p5 p6 (up (cvt τ (gn (τ 10))) 14 ((τ 14) + 1)) (up (up (up (up (up (up (up ρ (plc σ) (val0 τ)) (plc σ + 1) (net0 τ)) (plc σ + 2) (τ 10)) (plc σ + 3) (ov0 τ)) (plc σ + 4) (τ 11)) (plc σ + 5) ((cvt τ (gn (τ 10))) 11)) (plc σ + 6) (τ 12)) pm ((cvF τ (gn (τ 10))).1) (ov0 τ) rd wr sm (net0 τ) (show 4 ≤ τ 5 ∧ τ 5 ≤ 400 from by omega) (show 0 ≤ τ 9 ∧ τ 9 ≤ 1 from by omega) (show 0 ≤ τ 10 ∧ τ 10 ≤ 3 from by omega) (show 0 ≤ (ov0 τ) ∧ (ov0 τ) ≤ 1 from by omega) (show -90000 ≤ (net0 τ) ∧ (net0 τ) ≤ 90000 from by omega)) gX8_makeReading_X8_changeRange 1 rfl (by decide +kernel) ⟨Nat.le_of_ble_eq_true rfl, Nat.le_of_ble_eq_true rfl, Nat.le_of_ble_eq_true rfl, Nat.le_of_ble_eq_true rfl⟩ 0 rfl (q := (RX8, TX8, 12)) rfl rfl [0, 1] [] [0, 1] rfl rfl ⟨rfl, rfl, rfl, by decide⟩ (fun _ => rfl) rfl (fun _ => rfl) hl.1 (Nat.le_of_ble_eq_true rfl) rfl dX8_makeReading_265 (fun _ _ H locs B => ?_)
        refine z_lload S (pc := 268) dX8_makeReading_268 (lv_at hl 1 rfl) ?_
        have e10 : (if τ 9 = 0 then τ 10 else swr (ov0 τ) (net0 τ) (τ 5) (τ 10)) = rg0 τ := by unfold rg0; rcases (show τ 9 = 0 ∨ τ 9 = 1 from by omega) with h | h <;> rw [h] <;> rfl
        have e9 : up (up (cvt τ (gn (τ 10))) 14 ((τ 14) + 1)) 10 (if (τ 9) = 0 then (τ 10) else swr (ov0 τ) (net0 τ) (τ 5) (τ 10)) = rdS σ := by rw [up_comm _ _ _ (by decide), ht14, e10]; subst hτ; rfl
        subst hτ
        exact z_lreturn S hr hlk B () trivial rfl (by rw [e9]; rfl) (pc := 270) dX8_makeReading_270
    · refine z_iconst S (pc := 24) dX8_makeReading_24 ?_
      refine lv_goto S.1 S.2.1 (pc := 25) (tgt := 29) dX8_makeReading_25 rfl ?_
      refine lv_istore_n (lv' := [(1, .int (iI 1)), (0, .ref a)]) S.1 S.2.1 (pc := 29) dX8_makeReading_29 rfl hl (by decide) rfl (fun ls hl => ?_)
      refine z_iload_n S (pc := 30) dX8_makeReading_30 rfl (lv_at hl 0 rfl) ?_
      refine z_if_eq S (pc := 31) (tgt := 53) (by omega) dX8_makeReading_31 rfl (fun c7 => absurd c7 (by omega)) (fun c7 => ?_)
      refine z_aload_n S (pc := 34) dX8_makeReading_34 rfl (lv_at hl 1 rfl) ?_
      refine z_iconst S (pc := 35) dX8_makeReading_35 ?_
      refine z_callV S (pc := 36) B (wr := []) (wn := fun _ => [cMod a p1 p2 p3 p4 p5 p6 pm ((cvF σ 0).1) (ovr σ 0) rd wr sm, cAt E p1 (cvt σ 0) ρ]) (st1 := fun _ => []) (As := [.int (iI 1)]) (mX8_convert_1 l E a p1 p2 p3 p4 p5 p6 σ ρ pm ig mo rd wr sm (show Sets σ from by assumption) (show 0 ≤ σ 11 ∧ σ 11 ≤ 2100000000 from by omega)) gX8_makeReading_X8_convert 1 rfl (by decide +kernel) ⟨Nat.le_of_ble_eq_true rfl, Nat.le_of_ble_eq_true rfl, Nat.le_of_ble_eq_true rfl, Nat.le_of_ble_eq_true rfl⟩ 0 rfl (q := (RX8, TX8, 12)) rfl rfl [0, 1] [] [0, 1] rfl rfl ⟨rfl, rfl, rfl, by decide⟩ (fun _ => rfl) rfl (fun _ => rfl) hl.1 (Nat.le_of_ble_eq_true rfl) rfl dX8_makeReading_36 (fun _ _ H locs B => ?_)
      refine z_aload_n S (pc := 39) dX8_makeReading_39 rfl (lv_at hl 1 rfl) ?_
      refine z_get S (pc := 40) B iX8_makeReading_X8 0 rfl rfl 0 (by decide) rfl rfl (by decide +kernel) dX8_makeReading_40 ?_
      refine z_bipush S (pc := 43) dX8_makeReading_43 rfl ?_
      refine z_aload_n S (pc := 45) dX8_makeReading_45 rfl (lv_at hl 1 rfl) ?_
      refine z_get S (pc := 46) B iX8_makeReading_X8 0 rfl rfl 0 (by decide) rfl rfl (by decide +kernel) dX8_makeReading_46 ?_
      refine z_bipush S (pc := 49) dX8_makeReading_49 rfl ?_
      refine z_lald S (pc := 51) B 1 2 rfl rfl (k := 15) rfl (by decide) (by decide) (v := .long (iL ((cvt σ 0) 15))) rfl dX8_makeReading_51 ?_
      refine z_last S (pc := 52) B 1 2 rfl rfl (k := 12) rfl (by decide) (by decide) dX8_makeReading_52 (wn := [cMod a p1 p2 p3 p4 p5 p6 pm ((cvF σ 0).1) (ovr σ 0) rd wr sm, cAt E p1 (up (cvt σ 0) 12 ((cvt σ 0) 15)) ρ]) (by rw [lmu _ _ (by decide)]; rfl) (fun H locs B => ?_)
      refine z_aload_n S (pc := 53) dX8_makeReading_53 rfl (lv_at hl 1 rfl) ?_
      refine z_get S (pc := 54) B iX8_makeReading_X8 0 rfl rfl 0 (by decide) rfl rfl (by decide +kernel) dX8_makeReading_54 ?_
      refine z_bipush S (pc := 57) dX8_makeReading_57 rfl ?_
      refine z_iload_n S (pc := 59) dX8_makeReading_59 rfl (lv_at hl 0 rfl) ?_
      refine z_if_eq S (pc := 60) (tgt := 75) (by omega) dX8_makeReading_60 rfl (fun c8 => absurd c8 (by omega)) (fun c8 => ?_)
      refine z_aload_n S (pc := 63) dX8_makeReading_63 rfl (lv_at hl 1 rfl) ?_
      refine z_get S (pc := 64) B iX8_makeReading_X8 0 rfl rfl 0 (by decide) rfl rfl (by decide +kernel) dX8_makeReading_64 ?_
      refine z_bipush S (pc := 67) dX8_makeReading_67 rfl ?_
      refine z_lald S (pc := 69) B 1 2 rfl rfl (k := 8) rfl (by decide) (by decide) (v := .long (iL (σ 8))) rfl dX8_makeReading_69 ?_
      refine z_lconst S (pc := 70) (x := 1) dX8_makeReading_70 rfl ?_
      refine z_lsub S (pc := 71) dX8_makeReading_71 ?_
      refine lv_goto S.1 S.2.1 (pc := 72) (tgt := 84) dX8_makeReading_72 rfl ?_
      refine z_last S (pc := 84) B 1 2 rfl rfl (k := 13) rfl (by decide) (by decide) dX8_makeReading_84 (wn := [cMod a p1 p2 p3 p4 p5 p6 pm ((cvF σ 0).1) (ovr σ 0) rd wr sm, cAt E p1 (up (up (cvt σ 0) 12 ((cvt σ 0) 15)) 13 ((σ 8) - 1)) ρ]) (by rw [lmu _ _ (by decide)]; rfl) (fun H locs B => ?_)
      have e1 : rz σ = up (up (cvt σ 0) 12 (cnt σ 0)) 13 (σ 8 - 1) := by unfold rz; rw [if_pos (by omega), if_pos (by omega)]
      obtain ⟨τ, hτ⟩ : ∃ τ, τ = rz σ := ⟨_, rfl⟩
      have B : bw E A s H locs [cMod a p1 p2 p3 p4 p5 p6 pm ((cvF σ 0).1) (ovr σ 0) rd wr sm, cAt E p1 τ ρ] := by rw [hτ, e1]; exact B
      clear e1
      have hts : Sets τ := by rw [hτ]; exact rz_sets hs
      have ht12 : -60000 ≤ τ 12 ∧ τ 12 ≤ 60000 := by rw [hτ]; exact (rz_nums hs hn).1
      have ht11 : σ 11 ≤ τ 11 ∧ τ 11 ≤ σ 11 + 1616 := by rw [hτ]; exact rz_time hs
      have ht14 : τ 14 = σ 14 := by rw [hτ]; exact rz_14 σ
      obtain ⟨u0, u1, u2, u3, u4, u5, u6, u7, u8, u9, u10⟩ := id hts
      have hgn := gn_bd (τ 10)
      have hdv := div0 hts
      have hn0 := net0_bd hts ht12
      have hc15 := cnt_bd τ (gn (τ 10)) u5
      have ho : ov0 τ = 0 ∨ ov0 τ = 1 := ovr_01 τ (gn (τ 10))
      have hpl : (plc σ : Int) = 7 * (σ 14 % 40) := by unfold plc; omega
      have hpl2 : plc σ ≤ 273 := by unfold plc; omega
      have hq := tdiv_bd (a := net0 τ * 65536) (q := τ 5 * gn (τ 10)) (B := 6000000000) (by omega) (by omega) (by omega)
      refine z_aload_n S (pc := 85) dX8_makeReading_85 rfl (lv_at hl 1 rfl) ?_
      refine z_get S (pc := 86) B iX8_makeReading_X8 0 rfl rfl 0 (by decide) rfl rfl (by decide +kernel) dX8_makeReading_86 ?_
      refine z_bipush S (pc := 89) dX8_makeReading_89 rfl ?_
      refine z_lald S (pc := 91) B 1 2 rfl rfl (k := 11) rfl (by decide) (by decide) (v := .long (iL (τ 11))) rfl dX8_makeReading_91 ?_
      refine lv_lstore_n (lv' := [(1, .long (iL (τ 11))), (0, .ref a)]) S.1 S.2.1 (pc := 92) dX8_makeReading_92 rfl hl (by decide) rfl (fun ls hl => ?_)
      refine z_aload_n S (pc := 93) dX8_makeReading_93 rfl (lv_at hl 1 rfl) ?_
      refine z_iconst S (pc := 94) dX8_makeReading_94 ?_
      refine z_callV S (pc := 95) B (wr := []) (wn := fun _ => [cMod a p1 p2 p3 p4 p5 p6 pm ((cvF τ (gn (τ 10))).1) (ovr τ (gn (τ 10))) rd wr sm, cAt E p1 (cvt τ (gn (τ 10))) ρ]) (st1 := fun _ => []) (As := [.int (iI 0)]) (mX8_convert_0 l E a p1 p2 p3 p4 p5 p6 τ ρ pm ((cvF σ 0).1) (ovr σ 0) rd wr sm (show Sets τ from by assumption) (show 0 ≤ τ 11 ∧ τ 11 ≤ 2100000000 from by omega)) gX8_makeReading_X8_convert 1 rfl (by decide +kernel) ⟨Nat.le_of_ble_eq_true rfl, Nat.le_of_ble_eq_true rfl, Nat.le_of_ble_eq_true rfl, Nat.le_of_ble_eq_true rfl⟩ 0 rfl (q := (RX8, TX8, 12)) rfl rfl [0, 1] [] [0, 1] rfl rfl ⟨rfl, rfl, rfl, by decide⟩ (fun _ => rfl) rfl (fun _ => rfl) hl.1 (Nat.le_of_ble_eq_true rfl) rfl dX8_makeReading_95 (fun _ _ H locs B => ?_)
      have B : bw E A s H locs [cMod a p1 p2 p3 p4 p5 p6 pm ((cvF τ (gn (τ 10))).1) (ov0 τ) rd wr sm, cAt E p1 (cvt τ (gn (τ 10))) ρ] := B
      refine z_aload_n S (pc := 98) dX8_makeReading_98 rfl (lv_at hl 1 rfl) ?_
      refine z_get S (pc := 99) B iX8_makeReading_X8 0 rfl rfl 0 (by decide) rfl rfl (by decide +kernel) dX8_makeReading_99 ?_
      refine z_bipush S (pc := 102) dX8_makeReading_102 rfl ?_
      refine z_lald S (pc := 104) B 1 2 rfl rfl (k := 15) rfl (by decide) (by decide) (v := .long (iL ((cvt τ (gn (τ 10))) 15))) rfl dX8_makeReading_104 ?_
      refine z_aload_n S (pc := 105) dX8_makeReading_105 rfl (lv_at hl 1 rfl) ?_
      refine z_get S (pc := 106) B iX8_makeReading_X8 0 rfl rfl 0 (by decide) rfl rfl (by decide +kernel) dX8_makeReading_106 ?_
      refine z_bipush S (pc := 109) dX8_makeReading_109 rfl ?_
      refine z_lald S (pc := 111) B 1 2 rfl rfl (k := 12) rfl (by decide) (by decide) (v := .long (iL (τ 12))) rfl dX8_makeReading_111 ?_
      refine z_lsub S (pc := 112) dX8_makeReading_112 ?_
      rw [show (((cvt τ (gn (τ 10))) 15) - (τ 12) : Int) = net0 τ from rfl]
      refine lv_lstore_n (lv' := [(3, .long (iL (net0 τ))), (1, .long (iL (τ 11))), (0, .ref a)]) S.1 S.2.1 (pc := 113) dX8_makeReading_113 rfl hl (by decide) rfl (fun ls hl => ?_)
      refine z_lload_n S (pc := 114) dX8_makeReading_114 rfl (lv_at hl 0 rfl) ?_
      refine z_ldc2 S (pc := 115) (x := 65536) (by decide +kernel) rfl dX8_makeReading_115 ?_
      refine z_lmul S (pc := 118) dX8_makeReading_118 ?_
      refine z_aload_n S (pc := 119) dX8_makeReading_119 rfl (lv_at hl 2 rfl) ?_
      refine z_get S (pc := 120) B iX8_makeReading_X8 0 rfl rfl 0 (by decide) rfl rfl (by decide +kernel) dX8_makeReading_120 ?_
      refine z_iconst S (pc := 123) dX8_makeReading_123 ?_
      refine z_lald S (pc := 124) B 1 2 rfl rfl (k := 5) rfl (by decide) (by decide) (v := .long (iL (τ 5))) rfl dX8_makeReading_124 ?_
      refine z_aload_n S (pc := 125) dX8_makeReading_125 rfl (lv_at hl 2 rfl) ?_
      refine z_callV S (pc := 126) B (wr := []) (wn := fun _ => [cMod a p1 p2 p3 p4 p5 p6 pm ((cvF τ (gn (τ 10))).1) (ov0 τ) rd wr sm, cAt E p1 (cvt τ (gn (τ 10))) ρ]) (st1 := fun _ => [.long (iL (gn (τ 10))), .long (iL (τ 5)), .long (iL ((net0 τ) * 65536))]) (As := []) (mX8_gain l E a p1 p2 p3 p4 p5 p6 (cvt τ (gn (τ 10))) ρ pm ((cvF τ (gn (τ 10))).1) (ov0 τ) rd wr sm (show 0 ≤ τ 10 ∧ τ 10 ≤ 3 from by omega)) gX8_makeReading_X8_gain 0 rfl (by decide +kernel) ⟨Nat.le_of_ble_eq_true rfl, Nat.le_of_ble_eq_true rfl, Nat.le_of_ble_eq_true rfl, Nat.le_of_ble_eq_true rfl⟩ 0 rfl (q := (RX8, TX8, 12)) rfl rfl [0, 1] [] [0, 1] rfl rfl ⟨rfl, rfl, rfl, by decide⟩ (fun _ => rfl) rfl (fun _ => rfl) hl.1 (Nat.le_of_ble_eq_true rfl) rfl dX8_makeReading_126 (fun _ _ H locs B => ?_)
      refine z_lmul S (pc := 129) dX8_makeReading_129 ?_
      refine z_ldiv S (pc := 130) (by omega) (by omega) (by omega) (by omega) dX8_makeReading_130 ?_
      rw [show (((net0 τ) * 65536).tdiv ((τ 5) * (gn (τ 10))) : Int) = val0 τ from rfl]
      refine lv_lstore (lv' := [(5, .long (iL (val0 τ))), (3, .long (iL (net0 τ))), (1, .long (iL (τ 11))), (0, .ref a)]) S.1 S.2.1 (pc := 131) dX8_makeReading_131 hl (by decide) rfl (fun ls hl => ?_)
      refine z_bipush S (pc := 133) dX8_makeReading_133 rfl ?_
      refine z_bipush S (pc := 135) dX8_makeReading_135 rfl ?_
      refine z_aload_n S (pc := 137) dX8_makeReading_137 rfl (lv_at hl 3 rfl) ?_
      refine z_get S (pc := 138) B iX8_makeReading_X8 0 rfl rfl 0 (by decide) rfl rfl (by decide +kernel) dX8_makeReading_138 ?_
      refine z_bipush S (pc := 141) dX8_makeReading_141 rfl ?_
      refine z_lald S (pc := 143) B 1 2 rfl rfl (k := 14) rfl (by decide) (by decide) (v := .long (iL (τ 14))) rfl dX8_makeReading_143 ?_
      refine z_ldc2 S (pc := 144) (x := 40) (by decide +kernel) rfl dX8_makeReading_144 ?_
      refine z_lremn S (pc := 147) (by omega) (by omega) dX8_makeReading_147 ?_
      refine z_l2i S (pc := 148) dX8_makeReading_148 ?_
      refine z_imul S (pc := 149) dX8_makeReading_149 ?_
      refine z_iadd S (pc := 150) dX8_makeReading_150 ?_
      rw [show (23 + (7 * ((τ 14) % 40)) : Int) = 23 + 7 * (σ 14 % 40) from by rw [← ht14]]
      refine lv_istore (lv' := [(7, .int (iI (23 + 7 * (σ 14 % 40)))), (5, .long (iL (val0 τ))), (3, .long (iL (net0 τ))), (1, .long (iL (τ 11))), (0, .ref a)]) S.1 S.2.1 (pc := 151) dX8_makeReading_151 hl (by decide) rfl (fun ls hl => ?_)
      refine z_aload_n S (pc := 153) dX8_makeReading_153 rfl (lv_at hl 4 rfl) ?_
      refine z_get S (pc := 154) B iX8_makeReading_X8 0 rfl rfl 0 (by decide) rfl rfl (by decide +kernel) dX8_makeReading_154 ?_
      refine z_iload S (pc := 157) dX8_makeReading_157 (lv_at hl 0 rfl) ?_
      refine z_lload S (pc := 159) dX8_makeReading_159 (lv_at hl 1 rfl) ?_
      refine z_last S (pc := 161) B 1 2 rfl rfl (k := 23 + (plc σ)) (by omega) (by omega) (by decide) dX8_makeReading_161 (wn := [cMod a p1 p2 p3 p4 p5 p6 pm ((cvF τ (gn (τ 10))).1) (ov0 τ) rd wr sm, cAt E p1 (cvt τ (gn (τ 10))) (up ρ (plc σ) (val0 τ))]) (by rw [lmr]; rfl) (fun H locs B => ?_)
      refine z_aload_n S (pc := 162) dX8_makeReading_162 rfl (lv_at hl 4 rfl) ?_
      refine z_get S (pc := 163) B iX8_makeReading_X8 0 rfl rfl 0 (by decide) rfl rfl (by decide +kernel) dX8_makeReading_163 ?_
      refine z_iload S (pc := 166) dX8_makeReading_166 (lv_at hl 0 rfl) ?_
      refine z_iconst S (pc := 168) dX8_makeReading_168 ?_
      refine z_iadd S (pc := 169) dX8_makeReading_169 ?_
      refine z_lload_n S (pc := 170) dX8_makeReading_170 rfl (lv_at hl 2 rfl) ?_
      refine z_last S (pc := 171) B 1 2 rfl rfl (k := 23 + (plc σ + 1)) (by omega) (by omega) (by decide) dX8_makeReading_171 (wn := [cMod a p1 p2 p3 p4 p5 p6 pm ((cvF τ (gn (τ 10))).1) (ov0 τ) rd wr sm, cAt E p1 (cvt τ (gn (τ 10))) (up (up ρ (plc σ) (val0 τ)) (plc σ + 1) (net0 τ))]) (by rw [lmr]; rfl) (fun H locs B => ?_)
      refine z_aload_n S (pc := 172) dX8_makeReading_172 rfl (lv_at hl 4 rfl) ?_
      refine z_get S (pc := 173) B iX8_makeReading_X8 0 rfl rfl 0 (by decide) rfl rfl (by decide +kernel) dX8_makeReading_173 ?_
      refine z_iload S (pc := 176) dX8_makeReading_176 (lv_at hl 0 rfl) ?_
      refine z_iconst S (pc := 178) dX8_makeReading_178 ?_
      refine z_iadd S (pc := 179) dX8_makeReading_179 ?_
      refine z_aload_n S (pc := 180) dX8_makeReading_180 rfl (lv_at hl 4 rfl) ?_
      refine z_get S (pc := 181) B iX8_makeReading_X8 0 rfl rfl 0 (by decide) rfl rfl (by decide +kernel) dX8_makeReading_181 ?_
      refine z_bipush S (pc := 184) dX8_makeReading_184 rfl ?_
      refine z_lald S (pc := 186) B 1 2 rfl rfl (k := 10) rfl (by decide) (by decide) (v := .long (iL (τ 10))) rfl dX8_makeReading_186 ?_
      refine z_last S (pc := 187) B 1 2 rfl rfl (k := 23 + (plc σ + 2)) (by omega) (by omega) (by decide) dX8_makeReading_187 (wn := [cMod a p1 p2 p3 p4 p5 p6 pm ((cvF τ (gn (τ 10))).1) (ov0 τ) rd wr sm, cAt E p1 (cvt τ (gn (τ 10))) (up (up (up ρ (plc σ) (val0 τ)) (plc σ + 1) (net0 τ)) (plc σ + 2) (τ 10))]) (by rw [lmr]; rfl) (fun H locs B => ?_)
      refine z_aload_n S (pc := 188) dX8_makeReading_188 rfl (lv_at hl 4 rfl) ?_
      refine z_get S (pc := 189) B iX8_makeReading_X8 0 rfl rfl 0 (by decide) rfl rfl (by decide +kernel) dX8_makeReading_189 ?_
      refine z_iload S (pc := 192) dX8_makeReading_192 (lv_at hl 0 rfl) ?_
      refine z_iconst S (pc := 194) dX8_makeReading_194 ?_
      refine z_iadd S (pc := 195) dX8_makeReading_195 ?_
      refine z_aload_n S (pc := 196) dX8_makeReading_196 rfl (lv_at hl 4 rfl) ?_
      refine z_get S (pc := 197) B iX8_makeReading_X8 0 rfl rfl 7 (by decide) rfl rfl (by decide +kernel) dX8_makeReading_197 ?_
      refine z_if_eq S (pc := 200) (tgt := 207) (by omega) dX8_makeReading_200 rfl (fun c9 => ?_) (fun c9 => ?_)
      · refine z_lconst S (pc := 207) (x := 0) dX8_makeReading_207 rfl ?_
        rw [show Value.long (iL 0) = Value.long (iL (ov0 τ)) from by rw [show ov0 τ = 0 from by omega]]
        refine z_last S (pc := 208) B 1 2 rfl rfl (k := 23 + (plc σ + 3)) (by omega) (by omega) (by decide) dX8_makeReading_208 (wn := [cMod a p1 p2 p3 p4 p5 p6 pm ((cvF τ (gn (τ 10))).1) (ov0 τ) rd wr sm, cAt E p1 (cvt τ (gn (τ 10))) (up (up (up (up ρ (plc σ) (val0 τ)) (plc σ + 1) (net0 τ)) (plc σ + 2) (τ 10)) (plc σ + 3) (ov0 τ))]) (by rw [lmr]; rfl) (fun H locs B => ?_)
        refine z_aload_n S (pc := 209) dX8_makeReading_209 rfl (lv_at hl 4 rfl) ?_
        refine z_get S (pc := 210) B iX8_makeReading_X8 0 rfl rfl 0 (by decide) rfl rfl (by decide +kernel) dX8_makeReading_210 ?_
        refine z_iload S (pc := 213) dX8_makeReading_213 (lv_at hl 0 rfl) ?_
        refine z_iconst S (pc := 215) dX8_makeReading_215 ?_
        refine z_iadd S (pc := 216) dX8_makeReading_216 ?_
        refine z_lload_n S (pc := 217) dX8_makeReading_217 rfl (lv_at hl 3 rfl) ?_
        refine z_last S (pc := 218) B 1 2 rfl rfl (k := 23 + (plc σ + 4)) (by omega) (by omega) (by decide) dX8_makeReading_218 (wn := [cMod a p1 p2 p3 p4 p5 p6 pm ((cvF τ (gn (τ 10))).1) (ov0 τ) rd wr sm, cAt E p1 (cvt τ (gn (τ 10))) (up (up (up (up (up ρ (plc σ) (val0 τ)) (plc σ + 1) (net0 τ)) (plc σ + 2) (τ 10)) (plc σ + 3) (ov0 τ)) (plc σ + 4) (τ 11))]) (by rw [lmr]; rfl) (fun H locs B => ?_)
        refine z_aload_n S (pc := 219) dX8_makeReading_219 rfl (lv_at hl 4 rfl) ?_
        refine z_get S (pc := 220) B iX8_makeReading_X8 0 rfl rfl 0 (by decide) rfl rfl (by decide +kernel) dX8_makeReading_220 ?_
        refine z_iload S (pc := 223) dX8_makeReading_223 (lv_at hl 0 rfl) ?_
        refine z_iconst S (pc := 225) dX8_makeReading_225 ?_
        refine z_iadd S (pc := 226) dX8_makeReading_226 ?_
        refine z_aload_n S (pc := 227) dX8_makeReading_227 rfl (lv_at hl 4 rfl) ?_
        refine z_get S (pc := 228) B iX8_makeReading_X8 0 rfl rfl 0 (by decide) rfl rfl (by decide +kernel) dX8_makeReading_228 ?_
        refine z_bipush S (pc := 231) dX8_makeReading_231 rfl ?_
        refine z_lald S (pc := 233) B 1 2 rfl rfl (k := 11) rfl (by decide) (by decide) (v := .long (iL ((cvt τ (gn (τ 10))) 11))) rfl dX8_makeReading_233 ?_
        refine z_last S (pc := 234) B 1 2 rfl rfl (k := 23 + (plc σ + 5)) (by omega) (by omega) (by decide) dX8_makeReading_234 (wn := [cMod a p1 p2 p3 p4 p5 p6 pm ((cvF τ (gn (τ 10))).1) (ov0 τ) rd wr sm, cAt E p1 (cvt τ (gn (τ 10))) (up (up (up (up (up (up ρ (plc σ) (val0 τ)) (plc σ + 1) (net0 τ)) (plc σ + 2) (τ 10)) (plc σ + 3) (ov0 τ)) (plc σ + 4) (τ 11)) (plc σ + 5) ((cvt τ (gn (τ 10))) 11))]) (by rw [lmr]; rfl) (fun H locs B => ?_)
        refine z_aload_n S (pc := 235) dX8_makeReading_235 rfl (lv_at hl 4 rfl) ?_
        refine z_get S (pc := 236) B iX8_makeReading_X8 0 rfl rfl 0 (by decide) rfl rfl (by decide +kernel) dX8_makeReading_236 ?_
        refine z_iload S (pc := 239) dX8_makeReading_239 (lv_at hl 0 rfl) ?_
        refine z_bipush S (pc := 241) dX8_makeReading_241 rfl ?_
        refine z_iadd S (pc := 243) dX8_makeReading_243 ?_
        refine z_aload_n S (pc := 244) dX8_makeReading_244 rfl (lv_at hl 4 rfl) ?_
        refine z_get S (pc := 245) B iX8_makeReading_X8 0 rfl rfl 0 (by decide) rfl rfl (by decide +kernel) dX8_makeReading_245 ?_
        refine z_bipush S (pc := 248) dX8_makeReading_248 rfl ?_
        refine z_lald S (pc := 250) B 1 2 rfl rfl (k := 12) rfl (by decide) (by decide) (v := .long (iL (τ 12))) rfl dX8_makeReading_250 ?_
        refine z_last S (pc := 251) B 1 2 rfl rfl (k := 23 + (plc σ + 6)) (by omega) (by omega) (by decide) dX8_makeReading_251 (wn := [cMod a p1 p2 p3 p4 p5 p6 pm ((cvF τ (gn (τ 10))).1) (ov0 τ) rd wr sm, cAt E p1 (cvt τ (gn (τ 10))) (up (up (up (up (up (up (up ρ (plc σ) (val0 τ)) (plc σ + 1) (net0 τ)) (plc σ + 2) (τ 10)) (plc σ + 3) (ov0 τ)) (plc σ + 4) (τ 11)) (plc σ + 5) ((cvt τ (gn (τ 10))) 11)) (plc σ + 6) (τ 12))]) (by rw [lmr]; rfl) (fun H locs B => ?_)
        refine z_aload_n S (pc := 252) dX8_makeReading_252 rfl (lv_at hl 4 rfl) ?_
        refine z_get S (pc := 253) B iX8_makeReading_X8 0 rfl rfl 0 (by decide) rfl rfl (by decide +kernel) dX8_makeReading_253 ?_
        refine z_bipush S (pc := 256) dX8_makeReading_256 rfl ?_
        refine lv_dup2_11 S.1 S.2.1 (pc := 258) dX8_makeReading_258 rfl rfl ?_
        refine z_lald S (pc := 259) B 1 2 rfl rfl (k := 14) rfl (by decide) (by decide) (v := .long (iL (τ 14))) rfl dX8_makeReading_259 ?_
        refine z_lconst S (pc := 260) (x := 1) dX8_makeReading_260 rfl ?_
        refine z_ladd S (pc := 261) dX8_makeReading_261 ?_
        refine z_last S (pc := 262) B 1 2 rfl rfl (k := 14) rfl (by decide) (by decide) dX8_makeReading_262 (wn := [cMod a p1 p2 p3 p4 p5 p6 pm ((cvF τ (gn (τ 10))).1) (ov0 τ) rd wr sm, cAt E p1 (up (cvt τ (gn (τ 10))) 14 ((τ 14) + 1)) (up (up (up (up (up (up (up ρ (plc σ) (val0 τ)) (plc σ + 1) (net0 τ)) (plc σ + 2) (τ 10)) (plc σ + 3) (ov0 τ)) (plc σ + 4) (τ 11)) (plc σ + 5) ((cvt τ (gn (τ 10))) 11)) (plc σ + 6) (τ 12))]) (by rw [lmu _ _ (by decide)]; rfl) (fun H locs B => ?_)
        refine z_aload_n S (pc := 263) dX8_makeReading_263 rfl (lv_at hl 4 rfl) ?_
        refine z_lload_n S (pc := 264) dX8_makeReading_264 rfl (lv_at hl 2 rfl) ?_
        refine z_callV S (pc := 265) B (wr := []) (wn := fun _ => [cMod a p1 p2 p3 p4 p5 p6 pm ((cvF τ (gn (τ 10))).1) (ov0 τ) rd wr sm, cAt E p1 (up (up (cvt τ (gn (τ 10))) 14 ((τ 14) + 1)) 10 (if (τ 9) = 0 then (τ 10) else swr (ov0 τ) (net0 τ) (τ 5) (τ 10))) (up (up (up (up (up (up (up ρ (plc σ) (val0 τ)) (plc σ + 1) (net0 τ)) (plc σ + 2) (τ 10)) (plc σ + 3) (ov0 τ)) (plc σ + 4) (τ 11)) (plc σ + 5) ((cvt τ (gn (τ 10))) 11)) (plc σ + 6) (τ 12))]) (st1 := fun _ => []) (As := [.long (iL (net0 τ))]) (mX8_changeRange l E a p1 p2 p3 p4 p5 p6 (up (cvt τ (gn (τ 10))) 14 ((τ 14) + 1)) (up (up (up (up (up (up (up ρ (plc σ) (val0 τ)) (plc σ + 1) (net0 τ)) (plc σ + 2) (τ 10)) (plc σ + 3) (ov0 τ)) (plc σ + 4) (τ 11)) (plc σ + 5) ((cvt τ (gn (τ 10))) 11)) (plc σ + 6) (τ 12)) pm ((cvF τ (gn (τ 10))).1) (ov0 τ) rd wr sm (net0 τ) (show 4 ≤ τ 5 ∧ τ 5 ≤ 400 from by omega) (show 0 ≤ τ 9 ∧ τ 9 ≤ 1 from by omega) (show 0 ≤ τ 10 ∧ τ 10 ≤ 3 from by omega) (show 0 ≤ (ov0 τ) ∧ (ov0 τ) ≤ 1 from by omega) (show -90000 ≤ (net0 τ) ∧ (net0 τ) ≤ 90000 from by omega)) gX8_makeReading_X8_changeRange 1 rfl (by decide +kernel) ⟨Nat.le_of_ble_eq_true rfl, Nat.le_of_ble_eq_true rfl, Nat.le_of_ble_eq_true rfl, Nat.le_of_ble_eq_true rfl⟩ 0 rfl (q := (RX8, TX8, 12)) rfl rfl [0, 1] [] [0, 1] rfl rfl ⟨rfl, rfl, rfl, by decide⟩ (fun _ => rfl) rfl (fun _ => rfl) hl.1 (Nat.le_of_ble_eq_true rfl) rfl dX8_makeReading_265 (fun _ _ H locs B => ?_)
        refine z_lload S (pc := 268) dX8_makeReading_268 (lv_at hl 1 rfl) ?_
        have e10 : (if τ 9 = 0 then τ 10 else swr (ov0 τ) (net0 τ) (τ 5) (τ 10)) = rg0 τ := by unfold rg0; rcases (show τ 9 = 0 ∨ τ 9 = 1 from by omega) with h | h <;> rw [h] <;> rfl
        have e9 : up (up (cvt τ (gn (τ 10))) 14 ((τ 14) + 1)) 10 (if (τ 9) = 0 then (τ 10) else swr (ov0 τ) (net0 τ) (τ 5) (τ 10)) = rdS σ := by rw [up_comm _ _ _ (by decide), ht14, e10]; subst hτ; rfl
        subst hτ
        exact z_lreturn S hr hlk B () trivial rfl (by rw [e9]; rfl) (pc := 270) dX8_makeReading_270
      · refine z_lconst S (pc := 203) (x := 1) dX8_makeReading_203 rfl ?_
        refine lv_goto S.1 S.2.1 (pc := 204) (tgt := 208) dX8_makeReading_204 rfl ?_
        rw [show Value.long (iL 1) = Value.long (iL (ov0 τ)) from by rw [show ov0 τ = 1 from by omega]]
        refine z_last S (pc := 208) B 1 2 rfl rfl (k := 23 + (plc σ + 3)) (by omega) (by omega) (by decide) dX8_makeReading_208 (wn := [cMod a p1 p2 p3 p4 p5 p6 pm ((cvF τ (gn (τ 10))).1) (ov0 τ) rd wr sm, cAt E p1 (cvt τ (gn (τ 10))) (up (up (up (up ρ (plc σ) (val0 τ)) (plc σ + 1) (net0 τ)) (plc σ + 2) (τ 10)) (plc σ + 3) (ov0 τ))]) (by rw [lmr]; rfl) (fun H locs B => ?_)
        refine z_aload_n S (pc := 209) dX8_makeReading_209 rfl (lv_at hl 4 rfl) ?_
        refine z_get S (pc := 210) B iX8_makeReading_X8 0 rfl rfl 0 (by decide) rfl rfl (by decide +kernel) dX8_makeReading_210 ?_
        refine z_iload S (pc := 213) dX8_makeReading_213 (lv_at hl 0 rfl) ?_
        refine z_iconst S (pc := 215) dX8_makeReading_215 ?_
        refine z_iadd S (pc := 216) dX8_makeReading_216 ?_
        refine z_lload_n S (pc := 217) dX8_makeReading_217 rfl (lv_at hl 3 rfl) ?_
        refine z_last S (pc := 218) B 1 2 rfl rfl (k := 23 + (plc σ + 4)) (by omega) (by omega) (by decide) dX8_makeReading_218 (wn := [cMod a p1 p2 p3 p4 p5 p6 pm ((cvF τ (gn (τ 10))).1) (ov0 τ) rd wr sm, cAt E p1 (cvt τ (gn (τ 10))) (up (up (up (up (up ρ (plc σ) (val0 τ)) (plc σ + 1) (net0 τ)) (plc σ + 2) (τ 10)) (plc σ + 3) (ov0 τ)) (plc σ + 4) (τ 11))]) (by rw [lmr]; rfl) (fun H locs B => ?_)
        refine z_aload_n S (pc := 219) dX8_makeReading_219 rfl (lv_at hl 4 rfl) ?_
        refine z_get S (pc := 220) B iX8_makeReading_X8 0 rfl rfl 0 (by decide) rfl rfl (by decide +kernel) dX8_makeReading_220 ?_
        refine z_iload S (pc := 223) dX8_makeReading_223 (lv_at hl 0 rfl) ?_
        refine z_iconst S (pc := 225) dX8_makeReading_225 ?_
        refine z_iadd S (pc := 226) dX8_makeReading_226 ?_
        refine z_aload_n S (pc := 227) dX8_makeReading_227 rfl (lv_at hl 4 rfl) ?_
        refine z_get S (pc := 228) B iX8_makeReading_X8 0 rfl rfl 0 (by decide) rfl rfl (by decide +kernel) dX8_makeReading_228 ?_
        refine z_bipush S (pc := 231) dX8_makeReading_231 rfl ?_
        refine z_lald S (pc := 233) B 1 2 rfl rfl (k := 11) rfl (by decide) (by decide) (v := .long (iL ((cvt τ (gn (τ 10))) 11))) rfl dX8_makeReading_233 ?_
        refine z_last S (pc := 234) B 1 2 rfl rfl (k := 23 + (plc σ + 5)) (by omega) (by omega) (by decide) dX8_makeReading_234 (wn := [cMod a p1 p2 p3 p4 p5 p6 pm ((cvF τ (gn (τ 10))).1) (ov0 τ) rd wr sm, cAt E p1 (cvt τ (gn (τ 10))) (up (up (up (up (up (up ρ (plc σ) (val0 τ)) (plc σ + 1) (net0 τ)) (plc σ + 2) (τ 10)) (plc σ + 3) (ov0 τ)) (plc σ + 4) (τ 11)) (plc σ + 5) ((cvt τ (gn (τ 10))) 11))]) (by rw [lmr]; rfl) (fun H locs B => ?_)
        refine z_aload_n S (pc := 235) dX8_makeReading_235 rfl (lv_at hl 4 rfl) ?_
        refine z_get S (pc := 236) B iX8_makeReading_X8 0 rfl rfl 0 (by decide) rfl rfl (by decide +kernel) dX8_makeReading_236 ?_
        refine z_iload S (pc := 239) dX8_makeReading_239 (lv_at hl 0 rfl) ?_
        refine z_bipush S (pc := 241) dX8_makeReading_241 rfl ?_
        refine z_iadd S (pc := 243) dX8_makeReading_243 ?_
        refine z_aload_n S (pc := 244) dX8_makeReading_244 rfl (lv_at hl 4 rfl) ?_
        refine z_get S (pc := 245) B iX8_makeReading_X8 0 rfl rfl 0 (by decide) rfl rfl (by decide +kernel) dX8_makeReading_245 ?_
        refine z_bipush S (pc := 248) dX8_makeReading_248 rfl ?_
        refine z_lald S (pc := 250) B 1 2 rfl rfl (k := 12) rfl (by decide) (by decide) (v := .long (iL (τ 12))) rfl dX8_makeReading_250 ?_
        refine z_last S (pc := 251) B 1 2 rfl rfl (k := 23 + (plc σ + 6)) (by omega) (by omega) (by decide) dX8_makeReading_251 (wn := [cMod a p1 p2 p3 p4 p5 p6 pm ((cvF τ (gn (τ 10))).1) (ov0 τ) rd wr sm, cAt E p1 (cvt τ (gn (τ 10))) (up (up (up (up (up (up (up ρ (plc σ) (val0 τ)) (plc σ + 1) (net0 τ)) (plc σ + 2) (τ 10)) (plc σ + 3) (ov0 τ)) (plc σ + 4) (τ 11)) (plc σ + 5) ((cvt τ (gn (τ 10))) 11)) (plc σ + 6) (τ 12))]) (by rw [lmr]; rfl) (fun H locs B => ?_)
        refine z_aload_n S (pc := 252) dX8_makeReading_252 rfl (lv_at hl 4 rfl) ?_
        refine z_get S (pc := 253) B iX8_makeReading_X8 0 rfl rfl 0 (by decide) rfl rfl (by decide +kernel) dX8_makeReading_253 ?_
        refine z_bipush S (pc := 256) dX8_makeReading_256 rfl ?_
        refine lv_dup2_11 S.1 S.2.1 (pc := 258) dX8_makeReading_258 rfl rfl ?_
        refine z_lald S (pc := 259) B 1 2 rfl rfl (k := 14) rfl (by decide) (by decide) (v := .long (iL (τ 14))) rfl dX8_makeReading_259 ?_
        refine z_lconst S (pc := 260) (x := 1) dX8_makeReading_260 rfl ?_
        refine z_ladd S (pc := 261) dX8_makeReading_261 ?_
        refine z_last S (pc := 262) B 1 2 rfl rfl (k := 14) rfl (by decide) (by decide) dX8_makeReading_262 (wn := [cMod a p1 p2 p3 p4 p5 p6 pm ((cvF τ (gn (τ 10))).1) (ov0 τ) rd wr sm, cAt E p1 (up (cvt τ (gn (τ 10))) 14 ((τ 14) + 1)) (up (up (up (up (up (up (up ρ (plc σ) (val0 τ)) (plc σ + 1) (net0 τ)) (plc σ + 2) (τ 10)) (plc σ + 3) (ov0 τ)) (plc σ + 4) (τ 11)) (plc σ + 5) ((cvt τ (gn (τ 10))) 11)) (plc σ + 6) (τ 12))]) (by rw [lmu _ _ (by decide)]; rfl) (fun H locs B => ?_)
        refine z_aload_n S (pc := 263) dX8_makeReading_263 rfl (lv_at hl 4 rfl) ?_
        refine z_lload_n S (pc := 264) dX8_makeReading_264 rfl (lv_at hl 2 rfl) ?_
        refine z_callV S (pc := 265) B (wr := []) (wn := fun _ => [cMod a p1 p2 p3 p4 p5 p6 pm ((cvF τ (gn (τ 10))).1) (ov0 τ) rd wr sm, cAt E p1 (up (up (cvt τ (gn (τ 10))) 14 ((τ 14) + 1)) 10 (if (τ 9) = 0 then (τ 10) else swr (ov0 τ) (net0 τ) (τ 5) (τ 10))) (up (up (up (up (up (up (up ρ (plc σ) (val0 τ)) (plc σ + 1) (net0 τ)) (plc σ + 2) (τ 10)) (plc σ + 3) (ov0 τ)) (plc σ + 4) (τ 11)) (plc σ + 5) ((cvt τ (gn (τ 10))) 11)) (plc σ + 6) (τ 12))]) (st1 := fun _ => []) (As := [.long (iL (net0 τ))]) (mX8_changeRange l E a p1 p2 p3 p4 p5 p6 (up (cvt τ (gn (τ 10))) 14 ((τ 14) + 1)) (up (up (up (up (up (up (up ρ (plc σ) (val0 τ)) (plc σ + 1) (net0 τ)) (plc σ + 2) (τ 10)) (plc σ + 3) (ov0 τ)) (plc σ + 4) (τ 11)) (plc σ + 5) ((cvt τ (gn (τ 10))) 11)) (plc σ + 6) (τ 12)) pm ((cvF τ (gn (τ 10))).1) (ov0 τ) rd wr sm (net0 τ) (show 4 ≤ τ 5 ∧ τ 5 ≤ 400 from by omega) (show 0 ≤ τ 9 ∧ τ 9 ≤ 1 from by omega) (show 0 ≤ τ 10 ∧ τ 10 ≤ 3 from by omega) (show 0 ≤ (ov0 τ) ∧ (ov0 τ) ≤ 1 from by omega) (show -90000 ≤ (net0 τ) ∧ (net0 τ) ≤ 90000 from by omega)) gX8_makeReading_X8_changeRange 1 rfl (by decide +kernel) ⟨Nat.le_of_ble_eq_true rfl, Nat.le_of_ble_eq_true rfl, Nat.le_of_ble_eq_true rfl, Nat.le_of_ble_eq_true rfl⟩ 0 rfl (q := (RX8, TX8, 12)) rfl rfl [0, 1] [] [0, 1] rfl rfl ⟨rfl, rfl, rfl, by decide⟩ (fun _ => rfl) rfl (fun _ => rfl) hl.1 (Nat.le_of_ble_eq_true rfl) rfl dX8_makeReading_265 (fun _ _ H locs B => ?_)
        refine z_lload S (pc := 268) dX8_makeReading_268 (lv_at hl 1 rfl) ?_
        have e10 : (if τ 9 = 0 then τ 10 else swr (ov0 τ) (net0 τ) (τ 5) (τ 10)) = rg0 τ := by unfold rg0; rcases (show τ 9 = 0 ∨ τ 9 = 1 from by omega) with h | h <;> rw [h] <;> rfl
        have e9 : up (up (cvt τ (gn (τ 10))) 14 ((τ 14) + 1)) 10 (if (τ 9) = 0 then (τ 10) else swr (ov0 τ) (net0 τ) (τ 5) (τ 10)) = rdS σ := by rw [up_comm _ _ _ (by decide), ht14, e10]; subst hτ; rfl
        subst hτ
        exact z_lreturn S hr hlk B () trivial rfl (by rw [e9]; rfl) (pc := 270) dX8_makeReading_270
/-! END mod 2 -/
