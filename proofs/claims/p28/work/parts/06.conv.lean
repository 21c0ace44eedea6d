set_option linter.unusedVariables false
theorem dn_st {s x B : Int} (hs : s = 0 ∨ s = 1 ∨ s = -1) (h : sg x = s) (hB : 1048576 ≤ B) (hx : -B ≤ x ∧ x ≤ B) : -B ≤ x + -s * 1048576 ∧ x + -s * 1048576 ≤ B := by
  rcases sg_c x with h1 | h1 | h1 <;> rcases hs with h2 | h2 | h2 <;> subst h2 <;> omega
theorem fn_st {s x B : Int} (hs : s = 0 ∨ s = 1 ∨ s = -1) (h : sg x = -s) (hB : 65536 ≤ B) (hx : -B ≤ x ∧ x ≤ B) : -B ≤ x + s * 65536 ∧ x + s * 65536 ≤ B := by
  rcases sg_c x with h1 | h1 | h1 <;> rcases hs with h2 | h2 | h2 <;> subst h2 <;> omega
theorem upL_s {v : Int → Int} {md sl : Int} {n : Nat} {k d x pk sb ad t : Int} (D : Int) (e : dirn md sl k d x = D) : upL v md sl (n + 1) k d x pk sb ad t = upL v md sl n (k + 1) D (x + (v t + D * 1048576)) (mx pk (x + (v t + D * 1048576))) (if D < 0 then sb + 1 else sb) (if 0 < D then ad + 1 else ad) (t + 1) := by
  subst e
  rfl
theorem dirn_s {md sl k d x : Int} (h : md = 1 ∧ k % sl = 0) (h2 : 0 < x) : dirn md sl k d x = -1 := by
  unfold dirn
  rw [if_pos h, if_pos h2]
theorem dirn_a {md sl k d x : Int} (h : md = 1 ∧ k % sl = 0) (h2 : x ≤ 0) : dirn md sl k d x = 1 := by
  unfold dirn
  rw [if_pos h, if_neg (by omega)]
theorem dirn_n {md sl k d x : Int} (h : ¬ (md = 1 ∧ k % sl = 0)) : dirn md sl k d x = d := by
  unfold dirn
  rw [if_neg h]
theorem sg_pos {x : Int} (h : 0 < sg x) : 0 < x := by
  rcases sg_c x with h1 | h1 | h1 <;> omega
theorem sg_npos {x : Int} (h : sg x ≤ 0) : x ≤ 0 := by
  rcases sg_c x with h1 | h1 | h1 <;> omega
theorem iX0_runDown_X0 : ∀ w ∈ wsX00, w ∈ wsX0_runDown := by decide +kernel
set_option maxHeartbeats 4000000 in
set_option maxRecDepth 100000 in
theorem lpX0_runDown_1 {p : Program} {l : Launch} {e : Env} {s : State} {m : MethodId} {args : Array Value} {below : List Frame} {meth : Method} {c : Code} {Q : State → Prop} {A : Nat → Prop} (E : gT) (S : CallFix p m c cX0_runDown 3 s args wsX0_runDown RX0) (a : Nat) (σ : Nat → Int) (ov : Int) (q : Int) (w : Int) (hs : q = 0 ∨ q = 1 ∨ q = -1) (hw : 4 ≤ w ∧ w ≤ 400) :
    ∀ (n : Nat) (x : Int) (pk : Int) (d : Int) (hb : -1677721600 ≤ x ∧ x ≤ 1677721600) (hp : 0 ≤ pk ∧ pk ≤ 1677721600) (hd : 0 ≤ d ∧ d + (n : Int) = 3 * w) (res : Int × Int × Int) (hres : dnL n q x pk d = res) (hx : ∀  (H : Heap) (locs : List Loc) (ls : Array Slot), bw E A s H locs [(a, .inr (0, [.int (iI (σ 22)), .int (iI ov), .int (iI (σ 15)), .int (iI res.2.2), .int (iI (σ 17)), .int (iI (σ 18)), .int (iI (σ 19)), .long (iL res.2.1), .long (iL res.1)]))] → lv_has ls 3 [(2, .int (iI q)), (0, .ref a), (1, .int (iI w))] → W p l e ({ frames := 1, cells := 0, slots := 0, locals := 24 } : Room) s m args below meth c H locs 0 0 Q (F0 m 51 ls [])) (H : Heap) (locs : List Loc) (ls : Array Slot) (B : bw E A s H locs [(a, .inr (0, [.int (iI (σ 22)), .int (iI ov), .int (iI (σ 15)), .int (iI d), .int (iI (σ 17)), .int (iI (σ 18)), .int (iI (σ 19)), .long (iL pk), .long (iL x)]))]) (hl : lv_has ls 3 [(2, .int (iI q)), (0, .ref a), (1, .int (iI w))]), W p l e ({ frames := 1, cells := 0, slots := 0, locals := 24 } : Room) s m args below meth c H locs 0 0 Q (F0 m 5 ls []) := by
  intro n
  induction n with
  | zero =>
    intro x pk d hb hp hd res hres hx H locs ls B hl
    have hsx := sg_c x
    refine z_iload_n S (pc := 5) dX0_runDown_5 rfl (lv_at hl 0 rfl) ?_
    refine z_if_eq S (pc := 6) (tgt := 51) (by omega) dX0_runDown_6 rfl (fun c1 => ?_) (fun c1 => ?_)
    · subst hres
      exact hx _ _ _ B (lv_sub hl [0, 1, 2] rfl)
    · refine z_aload_n S (pc := 9) dX0_runDown_9 rfl (lv_at hl 1 rfl) ?_
      refine z_callV S (pc := 10) B (wr := []) (wn := fun _ => [(a, .inr (0, [.int (iI (σ 22)), .int (iI ov), .int (iI (σ 15)), .int (iI d), .int (iI (σ 17)), .int (iI (σ 18)), .int (iI (σ 19)), .long (iL pk), .long (iL x)]))]) (st1 := fun _ => [.int (iI (sg x))]) (As := []) (mX0_sign l E a (up (up (up σ 21 x) 20 pk) 16 d) ov (show inL x from by omega)) gX0_runDown_X0_sign 0 rfl (by decide +kernel) ⟨Nat.le_of_ble_eq_true rfl, Nat.le_of_ble_eq_true rfl, Nat.le_of_ble_eq_true rfl, Nat.le_of_ble_eq_true rfl⟩ 0 rfl (q := (RX0, TX0, 9)) rfl rfl [0] [] [0] rfl rfl ⟨rfl, rfl, rfl, by decide⟩ (fun _ => rfl) rfl (fun _ => rfl) hl.1 (Nat.le_of_ble_eq_true rfl) rfl dX0_runDown_10 (fun _ _ H locs B => ?_)
      refine z_iload_n S (pc := 13) dX0_runDown_13 rfl (lv_at hl 0 rfl) ?_
      refine z_icmp_ne S (pc := 14) (tgt := 51) (by omega) (by omega) dX0_runDown_14 rfl (fun c2 => ?_) (fun c2 => ?_)
      · subst hres
        exact hx _ _ _ B (lv_sub hl [0, 1, 2] rfl)
      · refine z_aload_n S (pc := 17) dX0_runDown_17 rfl (lv_at hl 1 rfl) ?_
        refine z_get S (pc := 18) B iX0_runDown_X0 0 rfl rfl 3 (by decide) rfl rfl (by decide +kernel) dX0_runDown_18 ?_
        refine z_iconst S (pc := 21) dX0_runDown_21 ?_
        refine z_iload_n S (pc := 22) dX0_runDown_22 rfl (lv_at hl 2 rfl) ?_
        refine z_imul S (pc := 23) dX0_runDown_23 ?_
        refine z_icmp_ge S (pc := 24) (tgt := 51) (by omega) (by omega) dX0_runDown_24 rfl (fun c3 => ?_) (fun c3 => absurd c3 (by omega))
        subst hres
        exact hx _ _ _ B (lv_sub hl [0, 1, 2] rfl)
  | succ n ih =>
    intro x pk d hb hp hd res hres hx H locs ls B hl
    have hsx := sg_c x
    refine z_iload_n S (pc := 5) dX0_runDown_5 rfl (lv_at hl 0 rfl) ?_
    refine z_if_eq S (pc := 6) (tgt := 51) (by omega) dX0_runDown_6 rfl (fun c1 => ?_) (fun c1 => ?_)
    · have hres : (x, pk, d) = res := by rw [← hres]; simp only [dnL]; rw [if_neg (fun z => z.1 c1)]
      subst hres
      exact hx _ _ _ B (lv_sub hl [0, 1, 2] rfl)
    · refine z_aload_n S (pc := 9) dX0_runDown_9 rfl (lv_at hl 1 rfl) ?_
      refine z_callV S (pc := 10) B (wr := []) (wn := fun _ => [(a, .inr (0, [.int (iI (σ 22)), .int (iI ov), .int (iI (σ 15)), .int (iI d), .int (iI (σ 17)), .int (iI (σ 18)), .int (iI (σ 19)), .long (iL pk), .long (iL x)]))]) (st1 := fun _ => [.int (iI (sg x))]) (As := []) (mX0_sign l E a (up (up (up σ 21 x) 20 pk) 16 d) ov (show inL x from by omega)) gX0_runDown_X0_sign 0 rfl (by decide +kernel) ⟨Nat.le_of_ble_eq_true rfl, Nat.le_of_ble_eq_true rfl, Nat.le_of_ble_eq_true rfl, Nat.le_of_ble_eq_true rfl⟩ 0 rfl (q := (RX0, TX0, 9)) rfl rfl [0] [] [0] rfl rfl ⟨rfl, rfl, rfl, by decide⟩ (fun _ => rfl) rfl (fun _ => rfl) hl.1 (Nat.le_of_ble_eq_true rfl) rfl dX0_runDown_10 (fun _ _ H locs B => ?_)
      refine z_iload_n S (pc := 13) dX0_runDown_13 rfl (lv_at hl 0 rfl) ?_
      refine z_icmp_ne S (pc := 14) (tgt := 51) (by omega) (by omega) dX0_runDown_14 rfl (fun c2 => ?_) (fun c2 => ?_)
      · have hres : (x, pk, d) = res := by rw [← hres]; simp only [dnL]; rw [if_neg (fun z => c2 z.2)]
        subst hres
        exact hx _ _ _ B (lv_sub hl [0, 1, 2] rfl)
      · refine z_aload_n S (pc := 17) dX0_runDown_17 rfl (lv_at hl 1 rfl) ?_
        refine z_get S (pc := 18) B iX0_runDown_X0 0 rfl rfl 3 (by decide) rfl rfl (by decide +kernel) dX0_runDown_18 ?_
        refine z_iconst S (pc := 21) dX0_runDown_21 ?_
        refine z_iload_n S (pc := 22) dX0_runDown_22 rfl (lv_at hl 2 rfl) ?_
        refine z_imul S (pc := 23) dX0_runDown_23 ?_
        refine z_icmp_ge S (pc := 24) (tgt := 51) (by omega) (by omega) dX0_runDown_24 rfl (fun c3 => ?_) (fun c3 => ?_)
        · exact absurd c3 (by omega)
        · refine z_aload_n S (pc := 27) dX0_runDown_27 rfl (lv_at hl 1 rfl) ?_
          refine z_iload_n S (pc := 28) dX0_runDown_28 rfl (lv_at hl 0 rfl) ?_
          refine z_ineg S (pc := 29) dX0_runDown_29 ?_
          refine z_i2l S (pc := 30) (by omega) dX0_runDown_30 ?_
          refine z_ldc2 S (pc := 31) (x := 1048576) (by decide +kernel) rfl dX0_runDown_31 ?_
          refine z_lmul S (pc := 34) dX0_runDown_34 ?_
          refine z_callV S (pc := 35) B (wr := []) (wn := fun _ => [(a, .inr (0, [.int (iI (σ 22)), .int (iI ov), .int (iI (σ 15)), .int (iI d), .int (iI (σ 17)), .int (iI (σ 18)), .int (iI (σ 19)), .long (iL (mx pk (x + ((-q) * 1048576)))), .long (iL (x + ((-q) * 1048576)))]))]) (st1 := fun _ => []) (As := [.long (iL ((-q) * 1048576))]) (mX0_tick l E a (up (up (up σ 21 x) 20 pk) 16 d) ov ((-q) * 1048576) (show -1000000000000 ≤ x ∧ x ≤ 1000000000000 from by omega) (show -1000000000000 ≤ ((-q) * 1048576) ∧ ((-q) * 1048576) ≤ 1000000000000 from by omega) (show 0 ≤ pk ∧ pk ≤ 2000000000000 from by omega)) gX0_runDown_X0_tick 1 rfl (by decide +kernel) ⟨Nat.le_of_ble_eq_true rfl, Nat.le_of_ble_eq_true rfl, Nat.le_of_ble_eq_true rfl, Nat.le_of_ble_eq_true rfl⟩ 0 rfl (q := (RX0, TX0, 9)) rfl rfl [0] [] [0] rfl rfl ⟨rfl, rfl, rfl, by decide⟩ (fun _ => rfl) rfl (fun _ => rfl) hl.1 (Nat.le_of_ble_eq_true rfl) rfl dX0_runDown_35 (fun _ _ H locs B => ?_)
          refine z_aload_n S (pc := 38) dX0_runDown_38 rfl (lv_at hl 1 rfl) ?_
          refine lv_dup S.1 S.2.1 (pc := 39) dX0_runDown_39 rfl ?_
          refine z_get S (pc := 40) B iX0_runDown_X0 0 rfl rfl 3 (by decide) rfl rfl (by decide +kernel) dX0_runDown_40 ?_
          refine z_iconst S (pc := 43) dX0_runDown_43 ?_
          refine z_iadd S (pc := 44) dX0_runDown_44 ?_
          refine z_put S (pc := 45) B iX0_runDown_X0 tyX0_ok nmX0 0 rfl rfl 3 (by decide) rfl (by decide +kernel) (ty := .int) (by decide +kernel) rfl rfl (Nat.le_of_ble_eq_true rfl) dX0_runDown_45 (wn := [(a, .inr (0, [.int (iI (σ 22)), .int (iI ov), .int (iI (σ 15)), .int (iI (d + 1)), .int (iI (σ 17)), .int (iI (σ 18)), .int (iI (σ 19)), .long (iL (mx pk (x + ((-q) * 1048576)))), .long (iL (x + ((-q) * 1048576)))]))]) rfl (fun H locs B => ?_)
          refine lv_goto S.1 S.2.1 (pc := 48) (tgt := 5) dX0_runDown_48 rfl ?_
          have b1 := dn_st hs c2 (by omega) hb
          exact ih (x + ((-q) * 1048576)) (mx pk (x + ((-q) * 1048576))) (d + 1) b1 (mx_bd hp.1 hp.2 b1.1 b1.2) (by omega) res (by rw [← hres]; simp only [dnL]; rw [if_pos ⟨c1, c2⟩]) hx _ _ _ B (lv_sub hl [0, 1, 2] rfl)
set_option maxHeartbeats 4000000 in
set_option maxRecDepth 100000 in
theorem lpX0_runDown_2 {p : Program} {l : Launch} {e : Env} {s : State} {m : MethodId} {args : Array Value} {below : List Frame} {meth : Method} {c : Code} {Q : State → Prop} {A : Nat → Prop} (E : gT) (S : CallFix p m c cX0_runDown 3 s args wsX0_runDown RX0) (a : Nat) (σ : Nat → Int) (ov : Int) (q : Int) (w : Int) (hs : q = 0 ∨ q = 1 ∨ q = -1) (hw : 4 ≤ w ∧ w ≤ 400) :
    ∀ (n : Nat) (x : Int) (pk : Int) (d : Int) (hb : -1677721600 ≤ x ∧ x ≤ 1677721600) (hp : 0 ≤ pk ∧ pk ≤ 1677721600) (hd : 0 ≤ d ∧ d + (n : Int) = 16) (res : Int × Int × Int) (hres : fnL n q x pk d = res) (hx : ∀  (H : Heap) (locs : List Loc) (ls : Array Slot), bw E A s H locs [(a, .inr (0, [.int (iI (σ 22)), .int (iI ov), .int (iI (σ 15)), .int (iI (σ 16)), .int (iI res.2.2), .int (iI (σ 18)), .int (iI (σ 19)), .long (iL res.2.1), .long (iL res.1)]))] → lv_has ls 3 [(2, .int (iI q)), (0, .ref a), (1, .int (iI w))] → W p l e ({ frames := 1, cells := 0, slots := 0, locals := 24 } : Room) s m args below meth c H locs 0 0 Q (F0 m 117 ls [])) (H : Heap) (locs : List Loc) (ls : Array Slot) (B : bw E A s H locs [(a, .inr (0, [.int (iI (σ 22)), .int (iI ov), .int (iI (σ 15)), .int (iI (σ 16)), .int (iI d), .int (iI (σ 18)), .int (iI (σ 19)), .long (iL pk), .long (iL x)]))]) (hl : lv_has ls 3 [(2, .int (iI q)), (0, .ref a), (1, .int (iI w))]), W p l e ({ frames := 1, cells := 0, slots := 0, locals := 24 } : Room) s m args below meth c H locs 0 0 Q (F0 m 72 ls []) := by
  intro n
  induction n with
  | zero =>
    intro x pk d hb hp hd res hres hx H locs ls B hl
    have hsx := sg_c x
    refine z_iload_n S (pc := 72) dX0_runDown_72 rfl (lv_at hl 0 rfl) ?_
    refine z_if_eq S (pc := 73) (tgt := 117) (by omega) dX0_runDown_73 rfl (fun c1 => ?_) (fun c1 => ?_)
    · subst hres
      exact hx _ _ _ B (lv_sub hl [0, 1, 2] rfl)
    · refine z_aload_n S (pc := 76) dX0_runDown_76 rfl (lv_at hl 1 rfl) ?_
      refine z_callV S (pc := 77) B (wr := []) (wn := fun _ => [(a, .inr (0, [.int (iI (σ 22)), .int (iI ov), .int (iI (σ 15)), .int (iI (σ 16)), .int (iI d), .int (iI (σ 18)), .int (iI (σ 19)), .long (iL pk), .long (iL x)]))]) (st1 := fun _ => [.int (iI (sg x))]) (As := []) (mX0_sign l E a (up (up (up σ 21 x) 20 pk) 17 d) ov (show inL x from by omega)) gX0_runDown_X0_sign 0 rfl (by decide +kernel) ⟨Nat.le_of_ble_eq_true rfl, Nat.le_of_ble_eq_true rfl, Nat.le_of_ble_eq_true rfl, Nat.le_of_ble_eq_true rfl⟩ 0 rfl (q := (RX0, TX0, 9)) rfl rfl [0] [] [0] rfl rfl ⟨rfl, rfl, rfl, by decide⟩ (fun _ => rfl) rfl (fun _ => rfl) hl.1 (Nat.le_of_ble_eq_true rfl) rfl dX0_runDown_77 (fun _ _ H locs B => ?_)
      refine z_iload_n S (pc := 80) dX0_runDown_80 rfl (lv_at hl 0 rfl) ?_
      refine z_ineg S (pc := 81) dX0_runDown_81 ?_
      refine z_icmp_ne S (pc := 82) (tgt := 117) (by omega) (by omega) dX0_runDown_82 rfl (fun c2 => ?_) (fun c2 => ?_)
      · subst hres
        exact hx _ _ _ B (lv_sub hl [0, 1, 2] rfl)
      · refine z_aload_n S (pc := 85) dX0_runDown_85 rfl (lv_at hl 1 rfl) ?_
        refine z_get S (pc := 86) B iX0_runDown_X0 0 rfl rfl 4 (by decide) rfl rfl (by decide +kernel) dX0_runDown_86 ?_
        refine z_bipush S (pc := 89) dX0_runDown_89 rfl ?_
        refine z_icmp_ge S (pc := 91) (tgt := 117) (by omega) (by omega) dX0_runDown_91 rfl (fun c3 => ?_) (fun c3 => absurd c3 (by omega))
        subst hres
        exact hx _ _ _ B (lv_sub hl [0, 1, 2] rfl)
  | succ n ih =>
    intro x pk d hb hp hd res hres hx H locs ls B hl
    have hsx := sg_c x
    refine z_iload_n S (pc := 72) dX0_runDown_72 rfl (lv_at hl 0 rfl) ?_
    refine z_if_eq S (pc := 73) (tgt := 117) (by omega) dX0_runDown_73 rfl (fun c1 => ?_) (fun c1 => ?_)
    · have hres : (x, pk, d) = res := by rw [← hres]; simp only [fnL]; rw [if_neg (fun z => z.1 c1)]
      subst hres
      exact hx _ _ _ B (lv_sub hl [0, 1, 2] rfl)
    · refine z_aload_n S (pc := 76) dX0_runDown_76 rfl (lv_at hl 1 rfl) ?_
      refine z_callV S (pc := 77) B (wr := []) (wn := fun _ => [(a, .inr (0, [.int (iI (σ 22)), .int (iI ov), .int (iI (σ 15)), .int (iI (σ 16)), .int (iI d), .int (iI (σ 18)), .int (iI (σ 19)), .long (iL pk), .long (iL x)]))]) (st1 := fun _ => [.int (iI (sg x))]) (As := []) (mX0_sign l E a (up (up (up σ 21 x) 20 pk) 17 d) ov (show inL x from by omega)) gX0_runDown_X0_sign 0 rfl (by decide +kernel) ⟨Nat.le_of_ble_eq_true rfl, Nat.le_of_ble_eq_true rfl, Nat.le_of_ble_eq_true rfl, Nat.le_of_ble_eq_true rfl⟩ 0 rfl (q := (RX0, TX0, 9)) rfl rfl [0] [] [0] rfl rfl ⟨rfl, rfl, rfl, by decide⟩ (fun _ => rfl) rfl (fun _ => rfl) hl.1 (Nat.le_of_ble_eq_true rfl) rfl dX0_runDown_77 (fun _ _ H locs B => ?_)
      refine z_iload_n S (pc := 80) dX0_runDown_80 rfl (lv_at hl 0 rfl) ?_
      refine z_ineg S (pc := 81) dX0_runDown_81 ?_
      refine z_icmp_ne S (pc := 82) (tgt := 117) (by omega) (by omega) dX0_runDown_82 rfl (fun c2 => ?_) (fun c2 => ?_)
      · have hres : (x, pk, d) = res := by rw [← hres]; simp only [fnL]; rw [if_neg (fun z => c2 z.2)]
        subst hres
        exact hx _ _ _ B (lv_sub hl [0, 1, 2] rfl)
      · refine z_aload_n S (pc := 85) dX0_runDown_85 rfl (lv_at hl 1 rfl) ?_
        refine z_get S (pc := 86) B iX0_runDown_X0 0 rfl rfl 4 (by decide) rfl rfl (by decide +kernel) dX0_runDown_86 ?_
        refine z_bipush S (pc := 89) dX0_runDown_89 rfl ?_
        refine z_icmp_ge S (pc := 91) (tgt := 117) (by omega) (by omega) dX0_runDown_91 rfl (fun c3 => ?_) (fun c3 => ?_)
        · exact absurd c3 (by omega)
        · refine z_aload_n S (pc := 94) dX0_runDown_94 rfl (lv_at hl 1 rfl) ?_
          refine z_iload_n S (pc := 95) dX0_runDown_95 rfl (lv_at hl 0 rfl) ?_
          refine z_i2l S (pc := 96) (by omega) dX0_runDown_96 ?_
          refine z_ldc2 S (pc := 97) (x := 65536) (by decide +kernel) rfl dX0_runDown_97 ?_
          refine z_lmul S (pc := 100) dX0_runDown_100 ?_
          refine z_callV S (pc := 101) B (wr := []) (wn := fun _ => [(a, .inr (0, [.int (iI (σ 22)), .int (iI ov), .int (iI (σ 15)), .int (iI (σ 16)), .int (iI d), .int (iI (σ 18)), .int (iI (σ 19)), .long (iL (mx pk (x + (q * 65536)))), .long (iL (x + (q * 65536)))]))]) (st1 := fun _ => []) (As := [.long (iL (q * 65536))]) (mX0_tick l E a (up (up (up σ 21 x) 20 pk) 17 d) ov (q * 65536) (show -1000000000000 ≤ x ∧ x ≤ 1000000000000 from by omega) (show -1000000000000 ≤ (q * 65536) ∧ (q * 65536) ≤ 1000000000000 from by omega) (show 0 ≤ pk ∧ pk ≤ 2000000000000 from by omega)) gX0_runDown_X0_tick 1 rfl (by decide +kernel) ⟨Nat.le_of_ble_eq_true rfl, Nat.le_of_ble_eq_true rfl, Nat.le_of_ble_eq_true rfl, Nat.le_of_ble_eq_true rfl⟩ 0 rfl (q := (RX0, TX0, 9)) rfl rfl [0] [] [0] rfl rfl ⟨rfl, rfl, rfl, by decide⟩ (fun _ => rfl) rfl (fun _ => rfl) hl.1 (Nat.le_of_ble_eq_true rfl) rfl dX0_runDown_101 (fun _ _ H locs B => ?_)
          refine z_aload_n S (pc := 104) dX0_runDown_104 rfl (lv_at hl 1 rfl) ?_
          refine lv_dup S.1 S.2.1 (pc := 105) dX0_runDown_105 rfl ?_
          refine z_get S (pc := 106) B iX0_runDown_X0 0 rfl rfl 4 (by decide) rfl rfl (by decide +kernel) dX0_runDown_106 ?_
          refine z_iconst S (pc := 109) dX0_runDown_109 ?_
          refine z_iadd S (pc := 110) dX0_runDown_110 ?_
          refine z_put S (pc := 111) B iX0_runDown_X0 tyX0_ok nmX0 0 rfl rfl 4 (by decide) rfl (by decide +kernel) (ty := .int) (by decide +kernel) rfl rfl (Nat.le_of_ble_eq_true rfl) dX0_runDown_111 (wn := [(a, .inr (0, [.int (iI (σ 22)), .int (iI ov), .int (iI (σ 15)), .int (iI (σ 16)), .int (iI (d + 1)), .int (iI (σ 18)), .int (iI (σ 19)), .long (iL (mx pk (x + (q * 65536)))), .long (iL (x + (q * 65536)))]))]) rfl (fun H locs B => ?_)
          refine lv_goto S.1 S.2.1 (pc := 114) (tgt := 72) dX0_runDown_114 rfl ?_
          have b1 := fn_st hs c2 (by omega) hb
          exact ih (x + (q * 65536)) (mx pk (x + (q * 65536))) (d + 1) b1 (mx_bd hp.1 hp.2 b1.1 b1.2) (by omega) res (by rw [← hres]; simp only [fnL]; rw [if_pos ⟨c1, c2⟩]) hx _ _ _ B (lv_sub hl [0, 1, 2] rfl)
set_option maxHeartbeats 4000000 in
set_option maxRecDepth 100000 in
theorem mX0_runDown (l : Launch) (E : gT) (a : Nat) (σ : Nat → Int) (ov : Int) (w : Int) (hx : -1677721600 ≤ σ 21 ∧ σ 21 ≤ 1677721600) (hp : 0 ≤ σ 20 ∧ σ 20 ≤ 1677721600) (hw : 4 ≤ w ∧ w ≤ 400) (h16 : σ 16 = 0) (h17 : σ 17 = 0) : Cd l E yX0_runDown wsX0_runDown 1 24 0 0 [.ref a, .int (iI w)] [cCon a σ ov] none [(a, .inr (0, [.int (iI (σ 22)), .int (iI (bI (sg (σ 21) ≠ 0 ∧ sg (dnL (3 * w).toNat (sg (σ 21)) (σ 21) (σ 20) 0).1 = sg (σ 21)))), .int (iI (16 * (σ 18 - σ 19) + (sg (σ 21)) * (16 * (dnL (3 * w).toNat (sg (σ 21)) (σ 21) (σ 20) 0).2.2 - (fnL 16 (sg (σ 21)) (dnL (3 * w).toNat (sg (σ 21)) (σ 21) (σ 20) 0).1 (dnL (3 * w).toNat (sg (σ 21)) (σ 21) (σ 20) 0).2.1 0).2.2))), .int (iI ((dnL (3 * w).toNat (sg (σ 21)) (σ 21) (σ 20) 0).2.2)), .int (iI ((fnL 16 (sg (σ 21)) (dnL (3 * w).toNat (sg (σ 21)) (σ 21) (σ 20) 0).1 (dnL (3 * w).toNat (sg (σ 21)) (σ 21) (σ 20) 0).2.1 0).2.2)), .int (iI (σ 18)), .int (iI (σ 19)), .long (iL ((fnL 16 (sg (σ 21)) (dnL (3 * w).toNat (sg (σ 21)) (σ 21) (σ 20) 0).1 (dnL (3 * w).toNat (sg (σ 21)) (σ 21) (σ 20) 0).2.1 0).2.1)), .long (iL ((fnL 16 (sg (σ 21)) (dnL (3 * w).toNat (sg (σ 21)) (σ 21) (σ 20) 0).1 (dnL (3 * w).toNat (sg (σ 21)) (σ 21) (σ 20) 0).2.1 0).1))]))] := by
  refine Ct.mk (cc := cX0_runDown) (maxL := 3) (ret := none) (plainFor_of_name (by decide)) rfl (Nat.le_of_ble_eq_true rfl) ?_
  intro p e s m below meth c A ls H locs S hr hlk hnm B hl
  have S : CallFix p m c cX0_runDown 3 s #[.ref a, .int (iI w)] wsX0_runDown RX0 := S
  have hl : lv_has ls 3 [(0, .ref a), (1, .int (iI w))] := hl
  refine z_aload_n S (pc := 0) dX0_runDown_0 rfl (lv_at hl 0 rfl) ?_
  refine z_callV S (pc := 1) B (wr := []) (wn := fun _ => [cCon a σ ov]) (st1 := fun _ => [.int (iI (sg (σ 21)))]) (As := []) (mX0_sign l E a σ ov (show inL (σ 21) from by omega)) gX0_runDown_X0_sign 0 rfl (by decide +kernel) ⟨Nat.le_of_ble_eq_true rfl, Nat.le_of_ble_eq_true rfl, Nat.le_of_ble_eq_true rfl, Nat.le_of_ble_eq_true rfl⟩ 0 rfl (q := (RX0, TX0, 9)) rfl rfl [0] [] [0] rfl rfl ⟨rfl, rfl, rfl, by decide⟩ (fun _ => rfl) rfl (fun _ => rfl) hl.1 (Nat.le_of_ble_eq_true rfl) rfl dX0_runDown_1 (fun _ _ H locs B => ?_)
  refine lv_istore_n (lv' := [(2, .int (iI (sg (σ 21)))), (0, .ref a), (1, .int (iI w))]) S.1 S.2.1 (pc := 4) dX0_runDown_4 rfl hl (by decide) rfl (fun ls hl => ?_)
  obtain ⟨q, hq⟩ : ∃ q, q = sg (σ 21) := ⟨_, rfl⟩
  rw [← hq] at hl
  have hs : q = 0 ∨ q = 1 ∨ q = -1 := by rcases sg_c (σ 21) with h | h | h <;> omega
  obtain ⟨r1, hr1⟩ : ∃ r, dnL (3 * w).toNat q (σ 21) (σ 20) 0 = r := ⟨_, rfl⟩
  have hb1 := dnL_bd (3 * w).toNat q (σ 21) (σ 20) 0 1677721600 hs (by omega) hx hp (by omega)
  rw [hr1] at hb1
  have hsx := sg_c r1.1
  refine lpX0_runDown_1 E S a σ ov q w hs hw (3 * w).toNat (σ 21) (σ 20) 0 hx hp (by omega) r1 hr1 (fun H locs ls B hl => ?_) _ _ _ (by rw [← h16]; exact B) (lv_sub hl [0, 1, 2] rfl)
  refine z_aload_n S (pc := 51) dX0_runDown_51 rfl (lv_at hl 1 rfl) ?_
  refine z_iload_n S (pc := 52) dX0_runDown_52 rfl (lv_at hl 0 rfl) ?_
  refine z_if_eq S (pc := 53) (tgt := 68) (by omega) dX0_runDown_53 rfl (fun c1 => ?_) (fun c1 => ?_)
  · refine z_iconst S (pc := 68) dX0_runDown_68 ?_
    refine z_put S (pc := 69) B iX0_runDown_X0 tyX0_ok nmX0 0 rfl rfl 1 (by decide) rfl (by decide +kernel) (ty := .boolean) (by decide +kernel) rfl rfl (Nat.le_of_ble_eq_true rfl) dX0_runDown_69 (wn := [(a, .inr (0, [.int (iI (σ 22)), .int (iI 0), .int (iI (σ 15)), .int (iI r1.2.2), .int (iI (σ 17)), .int (iI (σ 18)), .int (iI (σ 19)), .long (iL r1.2.1), .long (iL r1.1)]))]) rfl (fun H locs B => ?_)
    have B : bw E A s H locs [(a, .inr (0, [.int (iI (σ 22)), .int (iI (bI (q ≠ 0 ∧ sg r1.1 = q))), .int (iI (σ 15)), .int (iI r1.2.2), .int (iI (σ 17)), .int (iI (σ 18)), .int (iI (σ 19)), .long (iL r1.2.1), .long (iL r1.1)]))] := by rw [bI_f (P := q ≠ 0 ∧ sg r1.1 = q) (fun z => z.1 c1)]; exact B
    have B : bw E A s H locs [(a, .inr (0, [.int (iI (σ 22)), .int (iI (bI (q ≠ 0 ∧ sg r1.1 = q))), .int (iI (σ 15)), .int (iI r1.2.2), .int (iI 0), .int (iI (σ 18)), .int (iI (σ 19)), .long (iL r1.2.1), .long (iL r1.1)]))] := Eq.mp (congrArg (fun zz => bw E A s H locs [(a, .inr (0, [.int (iI (σ 22)), .int (iI (bI (q ≠ 0 ∧ sg r1.1 = q))), .int (iI (σ 15)), .int (iI r1.2.2), .int (iI (zz)), .int (iI (σ 18)), .int (iI (σ 19)), .long (iL r1.2.1), .long (iL r1.1)]))]) h17) B
    obtain ⟨r2, hr2⟩ : ∃ r, fnL 16 q r1.1 r1.2.1 0 = r := ⟨_, rfl⟩
    refine lpX0_runDown_2 E S a (up (up (up σ 21 r1.1) 20 r1.2.1) 16 r1.2.2) (bI (q ≠ 0 ∧ sg r1.1 = q)) q w hs hw 16 r1.1 r1.2.1 0 hb1.1 hb1.2.1 (by omega) r2 hr2 (fun H locs ls B hl => ?_) _ _ _ B (lv_sub hl [0, 1, 2] rfl)
    have B : bw E A s H locs [(a, .inr (0, [.int (iI (σ 22)), .int (iI (bI (q ≠ 0 ∧ sg r1.1 = q))), .int (iI (σ 15)), .int (iI r1.2.2), .int (iI r2.2.2), .int (iI (σ 18)), .int (iI (σ 19)), .long (iL r2.2.1), .long (iL r2.1)]))] := B
    refine z_aload_n S (pc := 117) dX0_runDown_117 rfl (lv_at hl 1 rfl) ?_
    refine z_bipush S (pc := 118) dX0_runDown_118 rfl ?_
    refine z_aload_n S (pc := 120) dX0_runDown_120 rfl (lv_at hl 1 rfl) ?_
    refine z_get S (pc := 121) B iX0_runDown_X0 0 rfl rfl 5 (by decide) rfl rfl (by decide +kernel) dX0_runDown_121 ?_
    refine z_aload_n S (pc := 124) dX0_runDown_124 rfl (lv_at hl 1 rfl) ?_
    refine z_get S (pc := 125) B iX0_runDown_X0 0 rfl rfl 6 (by decide) rfl rfl (by decide +kernel) dX0_runDown_125 ?_
    refine z_isub S (pc := 128) dX0_runDown_128 ?_
    refine z_imul S (pc := 129) dX0_runDown_129 ?_
    refine z_iload_n S (pc := 130) dX0_runDown_130 rfl (lv_at hl 0 rfl) ?_
    refine z_bipush S (pc := 131) dX0_runDown_131 rfl ?_
    refine z_aload_n S (pc := 133) dX0_runDown_133 rfl (lv_at hl 1 rfl) ?_
    refine z_get S (pc := 134) B iX0_runDown_X0 0 rfl rfl 3 (by decide) rfl rfl (by decide +kernel) dX0_runDown_134 ?_
    refine z_imul S (pc := 137) dX0_runDown_137 ?_
    refine z_aload_n S (pc := 138) dX0_runDown_138 rfl (lv_at hl 1 rfl) ?_
    refine z_get S (pc := 139) B iX0_runDown_X0 0 rfl rfl 4 (by decide) rfl rfl (by decide +kernel) dX0_runDown_139 ?_
    refine z_isub S (pc := 142) dX0_runDown_142 ?_
    refine z_imul S (pc := 143) dX0_runDown_143 ?_
    refine z_iadd S (pc := 144) dX0_runDown_144 ?_
    refine z_put S (pc := 145) B iX0_runDown_X0 tyX0_ok nmX0 0 rfl rfl 2 (by decide) rfl (by decide +kernel) (ty := .int) (by decide +kernel) rfl rfl (Nat.le_of_ble_eq_true rfl) dX0_runDown_145 (wn := [(a, .inr (0, [.int (iI (σ 22)), .int (iI (bI (q ≠ 0 ∧ sg r1.1 = q))), .int (iI ((16 * ((σ 18) - (σ 19))) + (q * ((16 * r1.2.2) - r2.2.2)))), .int (iI r1.2.2), .int (iI r2.2.2), .int (iI (σ 18)), .int (iI (σ 19)), .long (iL r2.2.1), .long (iL r2.1)]))]) rfl (fun H locs B => ?_)
    subst hr2 hr1 hq
    exact z_return S hr hlk B () trivial rfl rfl (pc := 148) dX0_runDown_148
  · refine z_aload_n S (pc := 56) dX0_runDown_56 rfl (lv_at hl 1 rfl) ?_
    refine z_callV S (pc := 57) B (wr := []) (wn := fun _ => [(a, .inr (0, [.int (iI (σ 22)), .int (iI ov), .int (iI (σ 15)), .int (iI r1.2.2), .int (iI (σ 17)), .int (iI (σ 18)), .int (iI (σ 19)), .long (iL r1.2.1), .long (iL r1.1)]))]) (st1 := fun _ => [.int (iI (sg r1.1)), .ref a]) (As := []) (mX0_sign l E a (up (up (up σ 21 r1.1) 20 r1.2.1) 16 r1.2.2) ov (show inL r1.1 from by omega)) gX0_runDown_X0_sign 0 rfl (by decide +kernel) ⟨Nat.le_of_ble_eq_true rfl, Nat.le_of_ble_eq_true rfl, Nat.le_of_ble_eq_true rfl, Nat.le_of_ble_eq_true rfl⟩ 0 rfl (q := (RX0, TX0, 9)) rfl rfl [0] [] [0] rfl rfl ⟨rfl, rfl, rfl, by decide⟩ (fun _ => rfl) rfl (fun _ => rfl) hl.1 (Nat.le_of_ble_eq_true rfl) rfl dX0_runDown_57 (fun _ _ H locs B => ?_)
    refine z_iload_n S (pc := 60) dX0_runDown_60 rfl (lv_at hl 0 rfl) ?_
    refine z_icmp_ne S (pc := 61) (tgt := 68) (by omega) (by omega) dX0_runDown_61 rfl (fun c2 => ?_) (fun c2 => ?_)
    · refine z_iconst S (pc := 68) dX0_runDown_68 ?_
      refine z_put S (pc := 69) B iX0_runDown_X0 tyX0_ok nmX0 0 rfl rfl 1 (by decide) rfl (by decide +kernel) (ty := .boolean) (by decide +kernel) rfl rfl (Nat.le_of_ble_eq_true rfl) dX0_runDown_69 (wn := [(a, .inr (0, [.int (iI (σ 22)), .int (iI 0), .int (iI (σ 15)), .int (iI r1.2.2), .int (iI (σ 17)), .int (iI (σ 18)), .int (iI (σ 19)), .long (iL r1.2.1), .long (iL r1.1)]))]) rfl (fun H locs B => ?_)
      have B : bw E A s H locs [(a, .inr (0, [.int (iI (σ 22)), .int (iI (bI (q ≠ 0 ∧ sg r1.1 = q))), .int (iI (σ 15)), .int (iI r1.2.2), .int (iI (σ 17)), .int (iI (σ 18)), .int (iI (σ 19)), .long (iL r1.2.1), .long (iL r1.1)]))] := by rw [bI_f (P := q ≠ 0 ∧ sg r1.1 = q) (fun z => c2 z.2)]; exact B
      have B : bw E A s H locs [(a, .inr (0, [.int (iI (σ 22)), .int (iI (bI (q ≠ 0 ∧ sg r1.1 = q))), .int (iI (σ 15)), .int (iI r1.2.2), .int (iI 0), .int (iI (σ 18)), .int (iI (σ 19)), .long (iL r1.2.1), .long (iL r1.1)]))] := Eq.mp (congrArg (fun zz => bw E A s H locs [(a, .inr (0, [.int (iI (σ 22)), .int (iI (bI (q ≠ 0 ∧ sg r1.1 = q))), .int (iI (σ 15)), .int (iI r1.2.2), .int (iI (zz)), .int (iI (σ 18)), .int (iI (σ 19)), .long (iL r1.2.1), .long (iL r1.1)]))]) h17) B
      obtain ⟨r2, hr2⟩ : ∃ r, fnL 16 q r1.1 r1.2.1 0 = r := ⟨_, rfl⟩
      refine lpX0_runDown_2 E S a (up (up (up σ 21 r1.1) 20 r1.2.1) 16 r1.2.2) (bI (q ≠ 0 ∧ sg r1.1 = q)) q w hs hw 16 r1.1 r1.2.1 0 hb1.1 hb1.2.1 (by omega) r2 hr2 (fun H locs ls B hl => ?_) _ _ _ B (lv_sub hl [0, 1, 2] rfl)
      have B : bw E A s H locs [(a, .inr (0, [.int (iI (σ 22)), .int (iI (bI (q ≠ 0 ∧ sg r1.1 = q))), .int (iI (σ 15)), .int (iI r1.2.2), .int (iI r2.2.2), .int (iI (σ 18)), .int (iI (σ 19)), .long (iL r2.2.1), .long (iL r2.1)]))] := B
      refine z_aload_n S (pc := 117) dX0_runDown_117 rfl (lv_at hl 1 rfl) ?_
      refine z_bipush S (pc := 118) dX0_runDown_118 rfl ?_
      refine z_aload_n S (pc := 120) dX0_runDown_120 rfl (lv_at hl 1 rfl) ?_
      refine z_get S (pc := 121) B iX0_runDown_X0 0 rfl rfl 5 (by decide) rfl rfl (by decide +kernel) dX0_runDown_121 ?_
      refine z_aload_n S (pc := 124) dX0_runDown_124 rfl (lv_at hl 1 rfl) ?_
      refine z_get S (pc := 125) B iX0_runDown_X0 0 rfl rfl 6 (by decide) rfl rfl (by decide +kernel) dX0_runDown_125 ?_
      refine z_isub S (pc := 128) dX0_runDown_128 ?_
      refine z_imul S (pc := 129) dX0_runDown_129 ?_
      refine z_iload_n S (pc := 130) dX0_runDown_130 rfl (lv_at hl 0 rfl) ?_
      refine z_bipush S (pc := 131) dX0_runDown_131 rfl ?_
      refine z_aload_n S (pc := 133) dX0_runDown_133 rfl (lv_at hl 1 rfl) ?_
      refine z_get S (pc := 134) B iX0_runDown_X0 0 rfl rfl 3 (by decide) rfl rfl (by decide +kernel) dX0_runDown_134 ?_
      refine z_imul S (pc := 137) dX0_runDown_137 ?_
      refine z_aload_n S (pc := 138) dX0_runDown_138 rfl (lv_at hl 1 rfl) ?_
      refine z_get S (pc := 139) B iX0_runDown_X0 0 rfl rfl 4 (by decide) rfl rfl (by decide +kernel) dX0_runDown_139 ?_
      refine z_isub S (pc := 142) dX0_runDown_142 ?_
      refine z_imul S (pc := 143) dX0_runDown_143 ?_
      refine z_iadd S (pc := 144) dX0_runDown_144 ?_
      refine z_put S (pc := 145) B iX0_runDown_X0 tyX0_ok nmX0 0 rfl rfl 2 (by decide) rfl (by decide +kernel) (ty := .int) (by decide +kernel) rfl rfl (Nat.le_of_ble_eq_true rfl) dX0_runDown_145 (wn := [(a, .inr (0, [.int (iI (σ 22)), .int (iI (bI (q ≠ 0 ∧ sg r1.1 = q))), .int (iI ((16 * ((σ 18) - (σ 19))) + (q * ((16 * r1.2.2) - r2.2.2)))), .int (iI r1.2.2), .int (iI r2.2.2), .int (iI (σ 18)), .int (iI (σ 19)), .long (iL r2.2.1), .long (iL r2.1)]))]) rfl (fun H locs B => ?_)
      subst hr2 hr1 hq
      exact z_return S hr hlk B () trivial rfl rfl (pc := 148) dX0_runDown_148
    · refine z_iconst S (pc := 64) dX0_runDown_64 ?_
      refine lv_goto S.1 S.2.1 (pc := 65) (tgt := 69) dX0_runDown_65 rfl ?_
      refine z_put S (pc := 69) B iX0_runDown_X0 tyX0_ok nmX0 0 rfl rfl 1 (by decide) rfl (by decide +kernel) (ty := .boolean) (by decide +kernel) rfl rfl (Nat.le_of_ble_eq_true rfl) dX0_runDown_69 (wn := [(a, .inr (0, [.int (iI (σ 22)), .int (iI 1), .int (iI (σ 15)), .int (iI r1.2.2), .int (iI (σ 17)), .int (iI (σ 18)), .int (iI (σ 19)), .long (iL r1.2.1), .long (iL r1.1)]))]) rfl (fun H locs B => ?_)
      have B : bw E A s H locs [(a, .inr (0, [.int (iI (σ 22)), .int (iI (bI (q ≠ 0 ∧ sg r1.1 = q))), .int (iI (σ 15)), .int (iI r1.2.2), .int (iI (σ 17)), .int (iI (σ 18)), .int (iI (σ 19)), .long (iL r1.2.1), .long (iL r1.1)]))] := by rw [bI_t (P := q ≠ 0 ∧ sg r1.1 = q) ⟨c1, c2⟩]; exact B
      have B : bw E A s H locs [(a, .inr (0, [.int (iI (σ 22)), .int (iI (bI (q ≠ 0 ∧ sg r1.1 = q))), .int (iI (σ 15)), .int (iI r1.2.2), .int (iI 0), .int (iI (σ 18)), .int (iI (σ 19)), .long (iL r1.2.1), .long (iL r1.1)]))] := Eq.mp (congrArg (fun zz => bw E A s H locs [(a, .inr (0, [.int (iI (σ 22)), .int (iI (bI (q ≠ 0 ∧ sg r1.1 = q))), .int (iI (σ 15)), .int (iI r1.2.2), .int (iI (zz)), .int (iI (σ 18)), .int (iI (σ 19)), .long (iL r1.2.1), .long (iL r1.1)]))]) h17) B
      obtain ⟨r2, hr2⟩ : ∃ r, fnL 16 q r1.1 r1.2.1 0 = r := ⟨_, rfl⟩
      refine lpX0_runDown_2 E S a (up (up (up σ 21 r1.1) 20 r1.2.1) 16 r1.2.2) (bI (q ≠ 0 ∧ sg r1.1 = q)) q w hs hw 16 r1.1 r1.2.1 0 hb1.1 hb1.2.1 (by omega) r2 hr2 (fun H locs ls B hl => ?_) _ _ _ B (lv_sub hl [0, 1, 2] rfl)
      have B : bw E A s H locs [(a, .inr (0, [.int (iI (σ 22)), .int (iI (bI (q ≠ 0 ∧ sg r1.1 = q))), .int (iI (σ 15)), .int (iI r1.2.2), .int (iI r2.2.2), .int (iI (σ 18)), .int (iI (σ 19)), .long (iL r2.2.1), .long (iL r2.1)]))] := B
      refine z_aload_n S (pc := 117) dX0_runDown_117 rfl (lv_at hl 1 rfl) ?_
      refine z_bipush S (pc := 118) dX0_runDown_118 rfl ?_
      refine z_aload_n S (pc := 120) dX0_runDown_120 rfl (lv_at hl 1 rfl) ?_
      refine z_get S (pc := 121) B iX0_runDown_X0 0 rfl rfl 5 (by decide) rfl rfl (by decide +kernel) dX0_runDown_121 ?_
      refine z_aload_n S (pc := 124) dX0_runDown_124 rfl (lv_at hl 1 rfl) ?_
      refine z_get S (pc := 125) B iX0_runDown_X0 0 rfl rfl 6 (by decide) rfl rfl (by decide +kernel) dX0_runDown_125 ?_
      refine z_isub S (pc := 128) dX0_runDown_128 ?_
      refine z_imul S (pc := 129) dX0_runDown_129 ?_
      refine z_iload_n S (pc := 130) dX0_runDown_130 rfl (lv_at hl 0 rfl) ?_
      refine z_bipush S (pc := 131) dX0_runDown_131 rfl ?_
      refine z_aload_n S (pc := 133) dX0_runDown_133 rfl (lv_at hl 1 rfl) ?_
      refine z_get S (pc := 134) B iX0_runDown_X0 0 rfl rfl 3 (by decide) rfl rfl (by decide +kernel) dX0_runDown_134 ?_
      refine z_imul S (pc := 137) dX0_runDown_137 ?_
      refine z_aload_n S (pc := 138) dX0_runDown_138 rfl (lv_at hl 1 rfl) ?_
      refine z_get S (pc := 139) B iX0_runDown_X0 0 rfl rfl 4 (by decide) rfl rfl (by decide +kernel) dX0_runDown_139 ?_
      refine z_isub S (pc := 142) dX0_runDown_142 ?_
      refine z_imul S (pc := 143) dX0_runDown_143 ?_
      refine z_iadd S (pc := 144) dX0_runDown_144 ?_
      refine z_put S (pc := 145) B iX0_runDown_X0 tyX0_ok nmX0 0 rfl rfl 2 (by decide) rfl (by decide +kernel) (ty := .int) (by decide +kernel) rfl rfl (Nat.le_of_ble_eq_true rfl) dX0_runDown_145 (wn := [(a, .inr (0, [.int (iI (σ 22)), .int (iI (bI (q ≠ 0 ∧ sg r1.1 = q))), .int (iI ((16 * ((σ 18) - (σ 19))) + (q * ((16 * r1.2.2) - r2.2.2)))), .int (iI r1.2.2), .int (iI r2.2.2), .int (iI (σ 18)), .int (iI (σ 19)), .long (iL r2.2.1), .long (iL r2.1)]))]) rfl (fun H locs B => ?_)
      subst hr2 hr1 hq
      exact z_return S hr hlk B () trivial rfl rfl (pc := 148) dX0_runDown_148
/-! END conv -/
