set_option linter.unusedVariables false
/-! the reference -/
def pU (σ : Nat → Int) (sb ad t pk : Int) : Nat → Int := up (up (up (up σ 18 sb) 19 ad) 11 t) 20 pk
def pD (σ : Nat → Int) (t pk d : Int) : Nat → Int := up (up (up σ 11 t) 20 pk) 16 d
def pF (σ : Nat → Int) (t pk d : Int) : Nat → Int := up (up (up σ 11 t) 20 pk) 17 d
theorem pU_s (σ : Nat → Int) (a b c d a2 b2 c2 d2 : Int) : up (up (up (up (pU σ a b c d) 18 a2) 19 b2) 11 c2) 20 d2 = pU σ a2 b2 c2 d2 := by
  funext j
  simp only [pU, up]
  by_cases h1 : j = 20
  · simp [h1]
  · by_cases h2 : j = 11
    · simp [h2]
    · by_cases h3 : j = 19
      · simp [h3]
      · by_cases h4 : j = 18
        · simp [h4]
        · simp [h1, h2, h3, h4]
theorem pD_s (σ : Nat → Int) (a b c a2 b2 c2 : Int) : up (up (up (pD σ a b c) 11 a2) 20 b2) 16 c2 = pD σ a2 b2 c2 := by
  funext j
  simp only [pD, up]
  by_cases h1 : j = 16
  · simp [h1]
  · by_cases h2 : j = 20
    · simp [h2]
    · by_cases h3 : j = 11
      · simp [h3]
      · simp [h1, h2, h3]
theorem pF_s (σ : Nat → Int) (a b c a2 b2 c2 : Int) : up (up (up (pF σ a b c) 11 a2) 20 b2) 17 c2 = pF σ a2 b2 c2 := by
  funext j
  simp only [pF, up]
  by_cases h1 : j = 17
  · simp [h1]
  · by_cases h2 : j = 20
    · simp [h2]
    · by_cases h3 : j = 11
      · simp [h3]
      · simp [h1, h2, h3]
theorem pD_self {σ : Nat → Int} {a b c : Int} (h1 : σ 11 = a) (h2 : σ 20 = b) (h3 : σ 16 = c) : pD σ a b c = σ := by
  subst h1; subst h2; subst h3
  unfold pD
  rw [up_self, up_self]
  exact up_self σ 16
theorem pF_self {σ : Nat → Int} {a b c : Int} (h1 : σ 11 = a) (h2 : σ 20 = b) (h3 : σ 17 = c) : pF σ a b c = σ := by
  subst h1; subst h2; subst h3
  unfold pF
  rw [up_self, up_self]
  exact up_self σ 17
theorem pU_self {σ : Nat → Int} {a b c d : Int} (h1 : σ 18 = a) (h2 : σ 19 = b) (h3 : σ 11 = c) (h4 : σ 20 = d) : pU σ a b c d = σ := by
  subst h1; subst h2; subst h3; subst h4
  unfold pU
  rw [up_self, up_self, up_self]
  exact up_self σ 20
def gnL : Nat → Int → Int
  | 0, g => g
  | n + 1, g => gnL n (g * 10)
theorem gnL_gn {r : Int} (h : 0 ≤ r ∧ r ≤ 3) : gnL r.toNat 1 = gn r := by
  rcases (show r = 0 ∨ r = 1 ∨ r = 2 ∨ r = 3 from by omega) with rfl | rfl | rfl | rfl <;> rfl
set_option maxHeartbeats 4000000 in
set_option maxRecDepth 100000 in
theorem mX8_in (l : Launch) (E : gT) (v : Int) (lo : Int) (hi : Int) (hv : inL v) (hlo : inL lo) (hhi : inL hi) : Cd l E yX8_in wsX8_in 0 0 0 0 [.long (iL v), .long (iL lo), .long (iL hi)] [] (some (.int (iI (bI (lo ≤ v ∧ v ≤ hi))))) [] := by
  refine Ct.mk (cc := cX8_in) (maxL := 6) (ret := (some .boolean)) (plainFor_of_name (by decide)) rfl (Nat.le_of_ble_eq_true rfl) ?_
  intro p e s m below meth c A ls H locs S hr hlk hnm B hl
  have S : CallFix p m c cX8_in 6 s #[.long (iL v), .long (iL lo), .long (iL hi)] wsX8_in RX8 := S
  have hl : lv_has ls 6 [(0, .long (iL v)), (2, .long (iL lo)), (4, .long (iL hi))] := hl
  refine z_lload_n S (pc := 0) dX8_in_0 rfl (lv_at hl 0 rfl) ?_
  refine z_lload_n S (pc := 1) dX8_in_1 rfl (lv_at hl 1 rfl) ?_
  refine z_lc_lt S (pc := 2) (tgt := 17) (by omega) (by omega) dX8_in_2 dX8_in_3 rfl (fun c1 => ?_) (fun c1 => ?_)
  · refine z_iconst S (pc := 17) dX8_in_17 ?_
    exact z_zreturn S (by omega) hr hlk B () trivial (by rw [bI_f (by omega)]) rfl (pc := 18) dX8_in_18
  · refine z_lload_n S (pc := 6) dX8_in_6 rfl (lv_at hl 0 rfl) ?_
    refine z_lload S (pc := 7) dX8_in_7 (lv_at hl 2 rfl) ?_
    refine z_lc_gt S (pc := 9) (tgt := 17) (by omega) (by omega) dX8_in_9 dX8_in_10 rfl (fun c2 => ?_) (fun c2 => ?_)
    · refine z_iconst S (pc := 17) dX8_in_17 ?_
      exact z_zreturn S (by omega) hr hlk B () trivial (by rw [bI_f (by omega)]) rfl (pc := 18) dX8_in_18
    · refine z_iconst S (pc := 13) dX8_in_13 ?_
      refine lv_goto S.1 S.2.1 (pc := 14) (tgt := 18) dX8_in_14 rfl ?_
      exact z_zreturn S (by omega) hr hlk B () trivial (by rw [bI_t (by omega)]) rfl (pc := 18) dX8_in_18
set_option maxHeartbeats 4000000 in
set_option maxRecDepth 100000 in
theorem mX8_size (l : Launch) (E : gT) (v : Int) (hv : -9000000000000000000 ≤ v ∧ v ≤ 9000000000000000000) : Cd l E yX8_size wsX8_size 0 0 0 0 [.long (iL v)] [] (some (.long (iL (ab v)))) [] := by
  refine Ct.mk (cc := cX8_size) (maxL := 2) (ret := (some .long)) (plainFor_of_name (by decide)) rfl (Nat.le_of_ble_eq_true rfl) ?_
  intro p e s m below meth c A ls H locs S hr hlk hnm B hl
  have S : CallFix p m c cX8_size 2 s #[.long (iL v)] wsX8_size RX8 := S
  have hl : lv_has ls 2 [(0, .long (iL v))] := hl
  refine z_lload_n S (pc := 0) dX8_size_0 rfl (lv_at hl 0 rfl) ?_
  refine z_lconst S (pc := 1) (x := 0) dX8_size_1 rfl ?_
  refine z_lc_ge S (pc := 2) (tgt := 11) (by omega) (by omega) dX8_size_2 dX8_size_3 rfl (fun c1 => ?_) (fun c1 => ?_)
  · refine z_lload_n S (pc := 11) dX8_size_11 rfl (lv_at hl 0 rfl) ?_
    exact z_lreturn S hr hlk B () trivial (by unfold ab; first | rw [if_pos (by omega)] | rw [if_neg (by omega)]) rfl (pc := 12) dX8_size_12
  · refine z_lload_n S (pc := 6) dX8_size_6 rfl (lv_at hl 0 rfl) ?_
    refine z_lneg S (pc := 7) dX8_size_7 ?_
    refine lv_goto S.1 S.2.1 (pc := 8) (tgt := 12) dX8_size_8 rfl ?_
    exact z_lreturn S hr hlk B () trivial (by unfold ab; first | rw [if_pos (by omega)] | rw [if_neg (by omega)]) rfl (pc := 12) dX8_size_12
set_option maxHeartbeats 4000000 in
set_option maxRecDepth 100000 in
theorem mX8_limited (l : Launch) (E : gT) (v : Int) (k : Int) (hv : inL v) (hk : 0 ≤ k ∧ k ≤ 1000000000) : Cd l E yX8_limited wsX8_limited 0 0 0 0 [.long (iL v), .long (iL k)] [] (some (.long (iL (lim v k)))) [] := by
  refine Ct.mk (cc := cX8_limited) (maxL := 4) (ret := (some .long)) (plainFor_of_name (by decide)) rfl (Nat.le_of_ble_eq_true rfl) ?_
  intro p e s m below meth c A ls H locs S hr hlk hnm B hl
  have S : CallFix p m c cX8_limited 4 s #[.long (iL v), .long (iL k)] wsX8_limited RX8 := S
  have hl : lv_has ls 4 [(0, .long (iL v)), (2, .long (iL k))] := hl
  refine z_lload_n S (pc := 0) dX8_limited_0 rfl (lv_at hl 0 rfl) ?_
  refine z_lload_n S (pc := 1) dX8_limited_1 rfl (lv_at hl 1 rfl) ?_
  refine z_lc_le S (pc := 2) (tgt := 10) (by omega) (by omega) dX8_limited_2 dX8_limited_3 rfl (fun c1 => ?_) (fun c1 => ?_)
  · refine z_lload_n S (pc := 10) dX8_limited_10 rfl (lv_at hl 0 rfl) ?_
    refine z_lload_n S (pc := 11) dX8_limited_11 rfl (lv_at hl 1 rfl) ?_
    refine z_lneg S (pc := 12) dX8_limited_12 ?_
    refine z_lc_ge S (pc := 13) (tgt := 22) (by omega) (by omega) dX8_limited_13 dX8_limited_14 rfl (fun c2 => ?_) (fun c2 => ?_)
    · refine z_lload_n S (pc := 22) dX8_limited_22 rfl (lv_at hl 0 rfl) ?_
      exact z_lreturn S hr hlk B () trivial (by unfold lim; first | rw [if_pos (by omega)] | rw [if_neg (by omega), if_pos (by omega)] | rw [if_neg (by omega), if_neg (by omega)]) rfl (pc := 23) dX8_limited_23
    · refine z_lload_n S (pc := 17) dX8_limited_17 rfl (lv_at hl 1 rfl) ?_
      refine z_lneg S (pc := 18) dX8_limited_18 ?_
      refine lv_goto S.1 S.2.1 (pc := 19) (tgt := 23) dX8_limited_19 rfl ?_
      exact z_lreturn S hr hlk B () trivial (by unfold lim; first | rw [if_pos (by omega)] | rw [if_neg (by omega), if_pos (by omega)] | rw [if_neg (by omega), if_neg (by omega)]) rfl (pc := 23) dX8_limited_23
  · refine z_lload_n S (pc := 6) dX8_limited_6 rfl (lv_at hl 1 rfl) ?_
    refine lv_goto S.1 S.2.1 (pc := 7) (tgt := 23) dX8_limited_7 rfl ?_
    exact z_lreturn S hr hlk B () trivial (by unfold lim; first | rw [if_pos (by omega)] | rw [if_neg (by omega), if_pos (by omega)] | rw [if_neg (by omega), if_neg (by omega)]) rfl (pc := 23) dX8_limited_23
set_option maxHeartbeats 4000000 in
set_option maxRecDepth 100000 in
theorem mX8_isLevel (l : Launch) (E : gT) (v : Int) (hI : inI v) : Cd l E yX8_isLevel wsX8_isLevel 1 25 0 0 [.int (iI v)] [] (some (.int (iI (bI ((-3000000) ≤ v ∧ v ≤ 3000000))))) [] := by
  refine Ct.mk (cc := cX8_isLevel) (maxL := 1) (ret := (some .boolean)) (plainFor_of_name (by decide)) rfl (Nat.le_of_ble_eq_true rfl) ?_
  intro p e s m below meth c A ls H locs S hr hlk hnm B hl
  have S : CallFix p m c cX8_isLevel 1 s #[.int (iI v)] wsX8_isLevel RX8 := S
  have hl : lv_has ls 1 [(0, .int (iI v))] := hl
  refine z_iload_n S (pc := 0) dX8_isLevel_0 rfl (lv_at hl 0 rfl) ?_
  refine z_i2l S (pc := 1) (by omega) dX8_isLevel_1 ?_
  refine z_ldc2 S (pc := 2) (x := (-3000000)) (by decide +kernel) rfl dX8_isLevel_2 ?_
  refine z_ldc2 S (pc := 5) (x := 3000000) (by decide +kernel) rfl dX8_isLevel_5 ?_
  refine z_callS S (pc := 8) B (wr := []) (wn := fun _ => []) (st1 := fun _ => [.int (iI (bI ((-3000000) ≤ v ∧ v ≤ 3000000)))]) (As := [.long (iL v), .long (iL (-3000000)), .long (iL 3000000)]) (mX8_in l E v (-3000000) 3000000 (show inL v from by omega) (show inL (-3000000) from by omega) (show inL 3000000 from by omega)) gX8_isLevel_X8_in 3 rfl (by decide +kernel) ⟨Nat.le_of_ble_eq_true rfl, Nat.le_of_ble_eq_true rfl, Nat.le_of_ble_eq_true rfl, Nat.le_of_ble_eq_true rfl⟩ [] [] [] rfl rfl ⟨rfl, rfl, rfl, by decide⟩ (fun _ => rfl) rfl (fun _ => rfl) hl.1 (Nat.le_of_ble_eq_true rfl) rfl dX8_isLevel_8 (fun _ _ H locs B => ?_)
  exact z_zreturn S (bI_01 _) hr hlk B () trivial rfl rfl (pc := 11) dX8_isLevel_11
set_option maxHeartbeats 4000000 in
set_option maxRecDepth 100000 in
theorem mX8_signOf (l : Launch) (E : gT) (v : Int) (hv : inL v) : Cd l E yX8_signOf wsX8_signOf 0 0 0 0 [.long (iL v)] [] (some (.int (iI (sg v)))) [] := by
  refine Ct.mk (cc := cX8_signOf) (maxL := 2) (ret := (some .int)) (plainFor_of_name (by decide)) rfl (Nat.le_of_ble_eq_true rfl) ?_
  intro p e s m below meth c A ls H locs S hr hlk hnm B hl
  have S : CallFix p m c cX8_signOf 2 s #[.long (iL v)] wsX8_signOf RX8 := S
  have hl : lv_has ls 2 [(0, .long (iL v))] := hl
  refine z_lload_n S (pc := 0) dX8_signOf_0 rfl (lv_at hl 0 rfl) ?_
  refine z_lconst S (pc := 1) (x := 0) dX8_signOf_1 rfl ?_
  refine z_lc_le S (pc := 2) (tgt := 10) (by omega) (by omega) dX8_signOf_2 dX8_signOf_3 rfl (fun c1 => ?_) (fun c1 => ?_)
  · refine z_lload_n S (pc := 10) dX8_signOf_10 rfl (lv_at hl 0 rfl) ?_
    refine z_lconst S (pc := 11) (x := 0) dX8_signOf_11 rfl ?_
    refine z_lc_ge S (pc := 12) (tgt := 20) (by omega) (by omega) dX8_signOf_12 dX8_signOf_13 rfl (fun c2 => ?_) (fun c2 => ?_)
    · refine z_iconst S (pc := 20) dX8_signOf_20 ?_
      exact z_ireturn S hr hlk B () trivial (by unfold sg; first | rw [if_pos (by omega)] | rw [if_neg (by omega), if_pos (by omega)] | rw [if_neg (by omega), if_neg (by omega)]) rfl (pc := 21) dX8_signOf_21
    · refine z_iconst S (pc := 16) dX8_signOf_16 ?_
      refine lv_goto S.1 S.2.1 (pc := 17) (tgt := 21) dX8_signOf_17 rfl ?_
      exact z_ireturn S hr hlk B () trivial (by unfold sg; first | rw [if_pos (by omega)] | rw [if_neg (by omega), if_pos (by omega)] | rw [if_neg (by omega), if_neg (by omega)]) rfl (pc := 21) dX8_signOf_21
  · refine z_iconst S (pc := 6) dX8_signOf_6 ?_
    refine lv_goto S.1 S.2.1 (pc := 7) (tgt := 21) dX8_signOf_7 rfl ?_
    exact z_ireturn S hr hlk B () trivial (by unfold sg; first | rw [if_pos (by omega)] | rw [if_neg (by omega), if_pos (by omega)] | rw [if_neg (by omega), if_neg (by omega)]) rfl (pc := 21) dX8_signOf_21
theorem iX8_hum_X8 : ∀ w ∈ wsX80, w ∈ wsX8_hum := by decide +kernel
set_option maxHeartbeats 4000000 in
set_option maxRecDepth 100000 in
theorem mX8_hum (l : Launch) (E : gT) (a : Nat) (p1 : Nat) (p2 : Nat) (p3 : Nat) (p4 : Nat) (p5 : Nat) (p6 : Nat) (σ : Nat → Int) (ρ : Nat → Int) (pm : Int) (ig : Int) (mo : Int) (rd : Int) (wr : Int) (sm : Int) (t : Int) (h1 : 0 ≤ σ 1 ∧ σ 1 ≤ 1000000) (hp : inPe (σ 2)) (ht : 0 ≤ t ∧ t ≤ 2147483647) : Cd l E yX8_hum wsX8_hum 0 0 0 0 [.ref a, .long (iL t)] [cMod a p1 p2 p3 p4 p5 p6 pm ig mo rd wr sm, cAt E p1 σ ρ] (some (.long (iL (hum (σ 1) (σ 2) t)))) [cMod a p1 p2 p3 p4 p5 p6 pm ig mo rd wr sm, cAt E p1 σ ρ] := by
  refine Ct.mk (cc := cX8_hum) (maxL := 7) (ret := (some .long)) (plainFor_of_name (by decide)) rfl (Nat.le_of_ble_eq_true rfl) ?_
  intro p e s m below meth c A ls H locs S hr hlk hnm B hl
  have S : CallFix p m c cX8_hum 7 s #[.ref a, .long (iL t)] wsX8_hum RX8 := S
  have hl : lv_has ls 7 [(0, .ref a), (1, .long (iL t))] := hl
  have q1 := pe_q hp
  have q2 := rem_bd hp t
  refine z_aload_n S (pc := 0) dX8_hum_0 rfl (lv_at hl 0 rfl) ?_
  refine z_get S (pc := 1) B iX8_hum_X8 0 rfl rfl 0 (by decide) rfl rfl (by decide +kernel) dX8_hum_1 ?_
  refine z_iconst S (pc := 4) dX8_hum_4 ?_
  refine z_lald S (pc := 5) B 1 2 rfl rfl (k := 2) rfl (by decide) (by decide) (v := .long (iL (σ 2))) rfl dX8_hum_5 ?_
  refine z_ldc2 S (pc := 6) (x := 4) (by decide +kernel) rfl dX8_hum_6 ?_
  refine z_ldivn S (pc := 9) (by omega) (by omega) dX8_hum_9 ?_
  refine lv_lstore_n (lv' := [(3, .long (iL ((σ 2) / 4))), (0, .ref a), (1, .long (iL t))]) S.1 S.2.1 (pc := 10) dX8_hum_10 rfl hl (by decide) rfl (fun ls hl => ?_)
  refine z_lload_n S (pc := 11) dX8_hum_11 rfl (lv_at hl 2 rfl) ?_
  refine z_aload_n S (pc := 12) dX8_hum_12 rfl (lv_at hl 1 rfl) ?_
  refine z_get S (pc := 13) B iX8_hum_X8 0 rfl rfl 0 (by decide) rfl rfl (by decide +kernel) dX8_hum_13 ?_
  refine z_iconst S (pc := 16) dX8_hum_16 ?_
  refine z_lald S (pc := 17) B 1 2 rfl rfl (k := 2) rfl (by decide) (by decide) (v := .long (iL (σ 2))) rfl dX8_hum_17 ?_
  refine z_lremn S (pc := 18) (by omega) (by omega) dX8_hum_18 ?_
  refine lv_lstore (lv' := [(5, .long (iL (t % (σ 2)))), (3, .long (iL ((σ 2) / 4))), (0, .ref a), (1, .long (iL t))]) S.1 S.2.1 (pc := 19) dX8_hum_19 hl (by decide) rfl (fun ls hl => ?_)
  refine z_lload S (pc := 21) dX8_hum_21 (lv_at hl 0 rfl) ?_
  refine z_lload_n S (pc := 23) dX8_hum_23 rfl (lv_at hl 1 rfl) ?_
  refine z_lc_ge S (pc := 24) (tgt := 40) (by omega) (by omega) dX8_hum_24 dX8_hum_25 rfl (fun c1 => ?_) (fun c1 => ?_)
  · refine z_lload S (pc := 40) dX8_hum_40 (lv_at hl 0 rfl) ?_
    refine z_ldc2 S (pc := 42) (x := 3) (by decide +kernel) rfl dX8_hum_42 ?_
    refine z_lload_n S (pc := 45) dX8_hum_45 rfl (lv_at hl 1 rfl) ?_
    refine z_lmul S (pc := 46) dX8_hum_46 ?_
    refine z_lc_ge S (pc := 47) (tgt := 71) (by omega) (by omega) dX8_hum_47 dX8_hum_48 rfl (fun c2 => ?_) (fun c2 => ?_)
    · have m1 := mul_bd (a := σ 1) (x := t % σ 2 - 4 * (σ 2 / 4)) (M := 1000000) (X := 400) (by omega) (by omega) (by omega) (by omega)
      have m2 := tdiv_bd (a := (σ 1) * (t % σ 2 - 4 * (σ 2 / 4))) (q := σ 2 / 4) (B := 400000000) (by omega) (by omega) (by omega)
      refine z_aload_n S (pc := 71) dX8_hum_71 rfl (lv_at hl 2 rfl) ?_
      refine z_get S (pc := 72) B iX8_hum_X8 0 rfl rfl 0 (by decide) rfl rfl (by decide +kernel) dX8_hum_72 ?_
      refine z_iconst S (pc := 75) dX8_hum_75 ?_
      refine z_lald S (pc := 76) B 1 2 rfl rfl (k := 1) rfl (by decide) (by decide) (v := .long (iL (σ 1))) rfl dX8_hum_76 ?_
      refine z_lload S (pc := 77) dX8_hum_77 (lv_at hl 0 rfl) ?_
      refine z_ldc2 S (pc := 79) (x := 4) (by decide +kernel) rfl dX8_hum_79 ?_
      refine z_lload_n S (pc := 82) dX8_hum_82 rfl (lv_at hl 1 rfl) ?_
      refine z_lmul S (pc := 83) dX8_hum_83 ?_
      refine z_lsub S (pc := 84) dX8_hum_84 ?_
      refine z_lmul S (pc := 85) dX8_hum_85 ?_
      refine z_lload_n S (pc := 86) dX8_hum_86 rfl (lv_at hl 1 rfl) ?_
      refine z_ldiv S (pc := 87) (by omega) (by omega) (by omega) (by omega) dX8_hum_87 ?_
      exact z_lreturn S hr hlk B () trivial (by unfold hum; first | rw [if_pos (by omega)] | rw [if_neg (by omega), if_pos (by omega)] | rw [if_neg (by omega), if_neg (by omega)]) rfl (pc := 88) dX8_hum_88
    · have m1 := mul_bd (a := σ 1) (x := 2 * (σ 2 / 4) - t % σ 2) (M := 1000000) (X := 400) (by omega) (by omega) (by omega) (by omega)
      have m2 := tdiv_bd (a := (σ 1) * (2 * (σ 2 / 4) - t % σ 2)) (q := σ 2 / 4) (B := 400000000) (by omega) (by omega) (by omega)
      refine z_aload_n S (pc := 51) dX8_hum_51 rfl (lv_at hl 2 rfl) ?_
      refine z_get S (pc := 52) B iX8_hum_X8 0 rfl rfl 0 (by decide) rfl rfl (by decide +kernel) dX8_hum_52 ?_
      refine z_iconst S (pc := 55) dX8_hum_55 ?_
      refine z_lald S (pc := 56) B 1 2 rfl rfl (k := 1) rfl (by decide) (by decide) (v := .long (iL (σ 1))) rfl dX8_hum_56 ?_
      refine z_ldc2 S (pc := 57) (x := 2) (by decide +kernel) rfl dX8_hum_57 ?_
      refine z_lload_n S (pc := 60) dX8_hum_60 rfl (lv_at hl 1 rfl) ?_
      refine z_lmul S (pc := 61) dX8_hum_61 ?_
      refine z_lload S (pc := 62) dX8_hum_62 (lv_at hl 0 rfl) ?_
      refine z_lsub S (pc := 64) dX8_hum_64 ?_
      refine z_lmul S (pc := 65) dX8_hum_65 ?_
      refine z_lload_n S (pc := 66) dX8_hum_66 rfl (lv_at hl 1 rfl) ?_
      refine z_ldiv S (pc := 67) (by omega) (by omega) (by omega) (by omega) dX8_hum_67 ?_
      refine lv_goto S.1 S.2.1 (pc := 68) (tgt := 88) dX8_hum_68 rfl ?_
      exact z_lreturn S hr hlk B () trivial (by unfold hum; first | rw [if_pos (by omega)] | rw [if_neg (by omega), if_pos (by omega)] | rw [if_neg (by omega), if_neg (by omega)]) rfl (pc := 88) dX8_hum_88
  · have m1 := mul_bd (a := σ 1) (x := t % σ 2) (M := 1000000) (X := 400) (by omega) (by omega) (by omega) (by omega)
    have m2 := tdiv_bd (a := (σ 1) * (t % σ 2)) (q := σ 2 / 4) (B := 400000000) (by omega) (by omega) (by omega)
    refine z_aload_n S (pc := 28) dX8_hum_28 rfl (lv_at hl 2 rfl) ?_
    refine z_get S (pc := 29) B iX8_hum_X8 0 rfl rfl 0 (by decide) rfl rfl (by decide +kernel) dX8_hum_29 ?_
    refine z_iconst S (pc := 32) dX8_hum_32 ?_
    refine z_lald S (pc := 33) B 1 2 rfl rfl (k := 1) rfl (by decide) (by decide) (v := .long (iL (σ 1))) rfl dX8_hum_33 ?_
    refine z_lload S (pc := 34) dX8_hum_34 (lv_at hl 0 rfl) ?_
    refine z_lmul S (pc := 36) dX8_hum_36 ?_
    refine z_lload_n S (pc := 37) dX8_hum_37 rfl (lv_at hl 1 rfl) ?_
    refine z_ldiv S (pc := 38) (by omega) (by omega) (by omega) (by omega) dX8_hum_38 ?_
    exact z_lreturn S hr hlk B () trivial (by unfold hum; first | rw [if_pos (by omega)] | rw [if_neg (by omega), if_pos (by omega)] | rw [if_neg (by omega), if_neg (by omega)]) rfl (pc := 39) dX8_hum_39
theorem iX8_gain_X8 : ∀ w ∈ wsX80, w ∈ wsX8_gain := by decide +kernel
set_option maxHeartbeats 4000000 in
set_option maxRecDepth 100000 in
theorem lpX8_gain {p : Program} {l : Launch} {e : Env} {s : State} {m : MethodId} {args : Array Value} {below : List Frame} {meth : Method} {c : Code} {Q : State → Prop} {A : Nat → Prop} (E : gT) (S : CallFix p m c cX8_gain 4 s args wsX8_gain RX8) (a : Nat) (p1 : Nat) (p2 : Nat) (p3 : Nat) (p4 : Nat) (p5 : Nat) (p6 : Nat) (σ : Nat → Int) (ρ : Nat → Int) (pm : Int) (ig : Int) (mo : Int) (rd : Int) (wr : Int) (sm : Int) (h10 : 0 ≤ σ 10 ∧ σ 10 ≤ 3) :
    ∀ (n : Nat) (k : Int) (g : Int) (hk : 0 ≤ k ∧ k + (n : Int) = σ 10) (res : Int) (hres : gnL n g = res) (hx : ∀  (H : Heap) (locs : List Loc) (ls : Array Slot), bw E A s H locs [cMod a p1 p2 p3 p4 p5 p6 pm ig mo rd wr sm, cAt E p1 σ ρ] → lv_has ls 4 [(0, .ref a), (1, .long (iL res))] → W p l e ({ frames := 0, cells := 0, slots := 0, locals := 0 } : Room) s m args below meth c H locs 0 0 Q (F0 m 29 ls [])) (H : Heap) (locs : List Loc) (ls : Array Slot) (B : bw E A s H locs [cMod a p1 p2 p3 p4 p5 p6 pm ig mo rd wr sm, cAt E p1 σ ρ]) (hl : lv_has ls 4 [(0, .ref a), (1, .long (iL g)), (3, .int (iI k))]), W p l e ({ frames := 0, cells := 0, slots := 0, locals := 0 } : Room) s m args below meth c H locs 0 0 Q (F0 m 4 ls []) := by
  intro n
  induction n with
  | zero =>
    intro k g hk res hres hx H locs ls B hl
    refine z_iload_n S (pc := 4) dX8_gain_4 rfl (lv_at hl 2 rfl) ?_
    refine z_i2l S (pc := 5) (by omega) dX8_gain_5 ?_
    refine z_aload_n S (pc := 6) dX8_gain_6 rfl (lv_at hl 0 rfl) ?_
    refine z_get S (pc := 7) B iX8_gain_X8 0 rfl rfl 0 (by decide) rfl rfl (by decide +kernel) dX8_gain_7 ?_
    refine z_bipush S (pc := 10) dX8_gain_10 rfl ?_
    refine z_lald S (pc := 12) B 1 2 rfl rfl (k := 10) rfl (by decide) (by decide) (v := .long (iL (σ 10))) rfl dX8_gain_12 ?_
    refine z_lc_ge S (pc := 13) (tgt := 29) (by omega) (by omega) dX8_gain_13 dX8_gain_14 rfl (fun c1 => ?_) (fun c1 => absurd c1 (by omega))
    subst hres
    exact hx _ _ _ B (lv_sub hl [0, 1] rfl)
  | succ n ih =>
    intro k g hk res hres hx H locs ls B hl
    refine z_iload_n S (pc := 4) dX8_gain_4 rfl (lv_at hl 2 rfl) ?_
    refine z_i2l S (pc := 5) (by omega) dX8_gain_5 ?_
    refine z_aload_n S (pc := 6) dX8_gain_6 rfl (lv_at hl 0 rfl) ?_
    refine z_get S (pc := 7) B iX8_gain_X8 0 rfl rfl 0 (by decide) rfl rfl (by decide +kernel) dX8_gain_7 ?_
    refine z_bipush S (pc := 10) dX8_gain_10 rfl ?_
    refine z_lald S (pc := 12) B 1 2 rfl rfl (k := 10) rfl (by decide) (by decide) (v := .long (iL (σ 10))) rfl dX8_gain_12 ?_
    refine z_lc_ge S (pc := 13) (tgt := 29) (by omega) (by omega) dX8_gain_13 dX8_gain_14 rfl (fun c1 => ?_) (fun c1 => ?_)
    · exact absurd c1 (by omega)
    · refine z_lload_n S (pc := 17) dX8_gain_17 rfl (lv_at hl 1 rfl) ?_
      refine z_ldc2 S (pc := 18) (x := 10) (by decide +kernel) rfl dX8_gain_18 ?_
      refine z_lmul S (pc := 21) dX8_gain_21 ?_
      refine lv_lstore_n (lv' := [(1, .long (iL (g * 10))), (0, .ref a), (3, .int (iI k))]) S.1 S.2.1 (pc := 22) dX8_gain_22 rfl hl (by decide) rfl (fun ls hl => ?_)
      refine lv_iinc (v := iI (k + 1)) (lv' := [(3, .int (iI (k + 1))), (1, .long (iL (g * 10))), (0, .ref a)]) S.1 S.2.1 (pc := 23) dX8_gain_23 hl (k := 2) rfl (iI_add _ _) (by decide) rfl (fun ls hl => ?_)
      refine lv_goto S.1 S.2.1 (pc := 26) (tgt := 4) dX8_gain_26 rfl ?_
      exact ih (k + 1) (g * 10) (by omega) res hres hx _ _ _ B (lv_sub hl [2, 1, 0] rfl)
set_option maxHeartbeats 4000000 in
set_option maxRecDepth 100000 in
theorem mX8_gain (l : Launch) (E : gT) (a : Nat) (p1 : Nat) (p2 : Nat) (p3 : Nat) (p4 : Nat) (p5 : Nat) (p6 : Nat) (σ : Nat → Int) (ρ : Nat → Int) (pm : Int) (ig : Int) (mo : Int) (rd : Int) (wr : Int) (sm : Int) (h10 : 0 ≤ σ 10 ∧ σ 10 ≤ 3) : Cd l E yX8_gain wsX8_gain 0 0 0 0 [.ref a] [cMod a p1 p2 p3 p4 p5 p6 pm ig mo rd wr sm, cAt E p1 σ ρ] (some (.long (iL (gn (σ 10))))) [cMod a p1 p2 p3 p4 p5 p6 pm ig mo rd wr sm, cAt E p1 σ ρ] := by
  refine Ct.mk (cc := cX8_gain) (maxL := 4) (ret := (some .long)) (plainFor_of_name (by decide)) rfl (Nat.le_of_ble_eq_true rfl) ?_
  intro p e s m below meth c A ls H locs S hr hlk hnm B hl
  have S : CallFix p m c cX8_gain 4 s #[.ref a] wsX8_gain RX8 := S
  have hl : lv_has ls 4 [(0, .ref a)] := hl
  refine z_lconst S (pc := 0) (x := 1) dX8_gain_0 rfl ?_
  refine lv_lstore_n (lv' := [(1, .long (iL 1)), (0, .ref a)]) S.1 S.2.1 (pc := 1) dX8_gain_1 rfl hl (by decide) rfl (fun ls hl => ?_)
  refine z_iconst S (pc := 2) dX8_gain_2 ?_
  refine lv_istore_n (lv' := [(3, .int (iI 0)), (1, .long (iL 1)), (0, .ref a)]) S.1 S.2.1 (pc := 3) dX8_gain_3 rfl hl (by decide) rfl (fun ls hl => ?_)
  refine lpX8_gain E S a p1 p2 p3 p4 p5 p6 σ ρ pm ig mo rd wr sm h10 (σ 10).toNat 0 1 (by omega) (gn (σ 10)) (gnL_gn h10) (fun H locs ls B hl => ?_) _ _ _ B (lv_sub hl [2, 1, 0] rfl)
  refine z_lload_n S (pc := 29) dX8_gain_29 rfl (lv_at hl 1 rfl) ?_
  exact z_lreturn S hr hlk B () trivial rfl rfl (pc := 30) dX8_gain_30
theorem iX8_input_X8 : ∀ w ∈ wsX80, w ∈ wsX8_input := by decide +kernel
set_option maxHeartbeats 4000000 in
set_option maxRecDepth 100000 in
theorem mX8_input (l : Launch) (E : gT) (a : Nat) (p1 : Nat) (p2 : Nat) (p3 : Nat) (p4 : Nat) (p5 : Nat) (p6 : Nat) (σ : Nat → Int) (ρ : Nat → Int) (pm : Int) (ig : Int) (mo : Int) (rd : Int) (wr : Int) (sm : Int) (t : Int) (h0 : -4000000 ≤ σ 0 ∧ σ 0 ≤ 4000000) (h1 : 0 ≤ σ 1 ∧ σ 1 ≤ 1000000) (hp : inPe (σ 2)) (h10 : 0 ≤ σ 10 ∧ σ 10 ≤ 3) (ht : 0 ≤ t ∧ t ≤ 2147483647) : Cd l E yX8_input wsX8_input 1 26 0 0 [.ref a, .long (iL t)] [cMod a p1 p2 p3 p4 p5 p6 pm ig mo rd wr sm, cAt E p1 σ ρ] (some (.long (iL (inpg (σ 0) (σ 1) (σ 2) t (gn (σ 10)))))) [cMod a p1 p2 p3 p4 p5 p6 pm ig mo rd wr sm, cAt E p1 σ ρ] := by
  refine Ct.mk (cc := cX8_input) (maxL := 3) (ret := (some .long)) (plainFor_of_name (by decide)) rfl (Nat.le_of_ble_eq_true rfl) ?_
  intro p e s m below meth c A ls H locs S hr hlk hnm B hl
  have S : CallFix p m c cX8_input 3 s #[.ref a, .long (iL t)] wsX8_input RX8 := S
  have hl : lv_has ls 3 [(0, .ref a), (1, .long (iL t))] := hl
  have hb := hum_bd (t := t) h1 hp
  have hg := gn_bd (σ 10)
  have m1 := mul_bd2 (a := σ 0 + hum (σ 1) (σ 2) t) (x := gn (σ 10)) (M := 5000000) (X := 1000) (by omega) (by omega) (by omega) (by omega)
  refine z_aload_n S (pc := 0) dX8_input_0 rfl (lv_at hl 0 rfl) ?_
  refine z_get S (pc := 1) B iX8_input_X8 0 rfl rfl 0 (by decide) rfl rfl (by decide +kernel) dX8_input_1 ?_
  refine z_iconst S (pc := 4) dX8_input_4 ?_
  refine z_lald S (pc := 5) B 1 2 rfl rfl (k := 0) rfl (by decide) (by decide) (v := .long (iL (σ 0))) rfl dX8_input_5 ?_
  refine z_aload_n S (pc := 6) dX8_input_6 rfl (lv_at hl 0 rfl) ?_
  refine z_lload_n S (pc := 7) dX8_input_7 rfl (lv_at hl 1 rfl) ?_
  refine z_callV S (pc := 8) B (wr := []) (wn := fun _ => [cMod a p1 p2 p3 p4 p5 p6 pm ig mo rd wr sm, cAt E p1 σ ρ]) (st1 := fun _ => [.long (iL (hum (σ 1) (σ 2) t)), .long (iL (σ 0))]) (As := [.long (iL t)]) (mX8_hum l E a p1 p2 p3 p4 p5 p6 σ ρ pm ig mo rd wr sm t (show 0 ≤ σ 1 ∧ σ 1 ≤ 1000000 from by omega) (show inPe (σ 2) from by omega) (show 0 ≤ t ∧ t ≤ 2147483647 from by omega)) gX8_input_X8_hum 1 rfl (by decide +kernel) ⟨Nat.le_of_ble_eq_true rfl, Nat.le_of_ble_eq_true rfl, Nat.le_of_ble_eq_true rfl, Nat.le_of_ble_eq_true rfl⟩ 0 rfl (q := (RX8, TX8, 12)) rfl rfl [0, 1] [] [0, 1] rfl rfl ⟨rfl, rfl, rfl, by decide⟩ (fun _ => rfl) rfl (fun _ => rfl) hl.1 (Nat.le_of_ble_eq_true rfl) rfl dX8_input_8 (fun _ _ H locs B => ?_)
  refine z_ladd S (pc := 11) dX8_input_11 ?_
  refine z_aload_n S (pc := 12) dX8_input_12 rfl (lv_at hl 0 rfl) ?_
  refine z_callV S (pc := 13) B (wr := []) (wn := fun _ => [cMod a p1 p2 p3 p4 p5 p6 pm ig mo rd wr sm, cAt E p1 σ ρ]) (st1 := fun _ => [.long (iL (gn (σ 10))), .long (iL ((σ 0) + (hum (σ 1) (σ 2) t)))]) (As := []) (mX8_gain l E a p1 p2 p3 p4 p5 p6 σ ρ pm ig mo rd wr sm (show 0 ≤ σ 10 ∧ σ 10 ≤ 3 from by omega)) gX8_input_X8_gain 0 rfl (by decide +kernel) ⟨Nat.le_of_ble_eq_true rfl, Nat.le_of_ble_eq_true rfl, Nat.le_of_ble_eq_true rfl, Nat.le_of_ble_eq_true rfl⟩ 0 rfl (q := (RX8, TX8, 12)) rfl rfl [0, 1] [] [0, 1] rfl rfl ⟨rfl, rfl, rfl, by decide⟩ (fun _ => rfl) rfl (fun _ => rfl) hl.1 (Nat.le_of_ble_eq_true rfl) rfl dX8_input_13 (fun _ _ H locs B => ?_)
  refine z_lmul S (pc := 16) dX8_input_16 ?_
  refine z_ldc2 S (pc := 17) (x := 2500000) (by decide +kernel) rfl dX8_input_17 ?_
  refine z_callS S (pc := 20) B (wr := [cMod a p1 p2 p3 p4 p5 p6 pm ig mo rd wr sm, cAt E p1 σ ρ]) (wn := fun _ => [cMod a p1 p2 p3 p4 p5 p6 pm ig mo rd wr sm, cAt E p1 σ ρ]) (st1 := fun _ => [.long (iL (lim (((σ 0) + (hum (σ 1) (σ 2) t)) * (gn (σ 10))) 2500000))]) (As := [.long (iL (((σ 0) + (hum (σ 1) (σ 2) t)) * (gn (σ 10)))), .long (iL 2500000)]) (mX8_limited l E (((σ 0) + (hum (σ 1) (σ 2) t)) * (gn (σ 10))) 2500000 (show inL (((σ 0) + (hum (σ 1) (σ 2) t)) * (gn (σ 10))) from by omega) (show 0 ≤ 2500000 ∧ 2500000 ≤ 1000000000 from by omega)) gX8_input_X8_limited 2 rfl (by decide +kernel) ⟨Nat.le_of_ble_eq_true rfl, Nat.le_of_ble_eq_true rfl, Nat.le_of_ble_eq_true rfl, Nat.le_of_ble_eq_true rfl⟩ [] [0, 1] [0, 1] rfl rfl ⟨rfl, rfl, rfl, by decide⟩ (fun _ => rfl) rfl (fun _ => rfl) hl.1 (Nat.le_of_ble_eq_true rfl) rfl dX8_input_20 (fun _ _ H locs B => ?_)
  exact z_lreturn S hr hlk B () trivial rfl rfl (pc := 23) dX8_input_23
theorem iX8_offset_X8 : ∀ w ∈ wsX80, w ∈ wsX8_offset := by decide +kernel
set_option maxHeartbeats 4000000 in
set_option maxRecDepth 100000 in
theorem mX8_offset (l : Launch) (E : gT) (a : Nat) (p1 : Nat) (p2 : Nat) (p3 : Nat) (p4 : Nat) (p5 : Nat) (p6 : Nat) (σ : Nat → Int) (ρ : Nat → Int) (pm : Int) (ig : Int) (mo : Int) (rd : Int) (wr : Int) (sm : Int) (t : Int) (h3 : -100000 ≤ σ 3 ∧ σ 3 ≤ 100000) (h4 : -1000 ≤ σ 4 ∧ σ 4 ≤ 1000) (ht : 0 ≤ t ∧ t ≤ 2147483647) : Cd l E yX8_offset wsX8_offset 1 23 0 0 [.ref a, .long (iL t)] [cMod a p1 p2 p3 p4 p5 p6 pm ig mo rd wr sm, cAt E p1 σ ρ] (some (.long (iL (offs (σ 3) (σ 4) t)))) [cMod a p1 p2 p3 p4 p5 p6 pm ig mo rd wr sm, cAt E p1 σ ρ] := by
  refine Ct.mk (cc := cX8_offset) (maxL := 3) (ret := (some .long)) (plainFor_of_name (by decide)) rfl (Nat.le_of_ble_eq_true rfl) ?_
  intro p e s m below meth c A ls H locs S hr hlk hnm B hl
  have S : CallFix p m c cX8_offset 3 s #[.ref a, .long (iL t)] wsX8_offset RX8 := S
  have hl : lv_has ls 3 [(0, .ref a), (1, .long (iL t))] := hl
  have m1 := mul_bd2 (a := σ 4) (x := t) (M := 1000) (X := 2147483647) (by omega) (by omega) (by omega) (by omega)
  have m2 := tdiv_bd (a := σ 4 * t) (q := 1000) (B := 2147483647000) (by omega) (by omega) (by omega)
  refine z_aload_n S (pc := 0) dX8_offset_0 rfl (lv_at hl 0 rfl) ?_
  refine z_get S (pc := 1) B iX8_offset_X8 0 rfl rfl 0 (by decide) rfl rfl (by decide +kernel) dX8_offset_1 ?_
  refine z_iconst S (pc := 4) dX8_offset_4 ?_
  refine z_lald S (pc := 5) B 1 2 rfl rfl (k := 3) rfl (by decide) (by decide) (v := .long (iL (σ 3))) rfl dX8_offset_5 ?_
  refine z_aload_n S (pc := 6) dX8_offset_6 rfl (lv_at hl 0 rfl) ?_
  refine z_get S (pc := 7) B iX8_offset_X8 0 rfl rfl 0 (by decide) rfl rfl (by decide +kernel) dX8_offset_7 ?_
  refine z_iconst S (pc := 10) dX8_offset_10 ?_
  refine z_lald S (pc := 11) B 1 2 rfl rfl (k := 4) rfl (by decide) (by decide) (v := .long (iL (σ 4))) rfl dX8_offset_11 ?_
  refine z_lload_n S (pc := 12) dX8_offset_12 rfl (lv_at hl 1 rfl) ?_
  refine z_lmul S (pc := 13) dX8_offset_13 ?_
  refine z_ldc2 S (pc := 14) (x := 1000) (by decide +kernel) rfl dX8_offset_14 ?_
  refine z_ldiv S (pc := 17) (by omega) (by omega) (by omega) (by omega) dX8_offset_17 ?_
  refine z_ladd S (pc := 18) dX8_offset_18 ?_
  refine z_ldc2 S (pc := 19) (x := 500000) (by decide +kernel) rfl dX8_offset_19 ?_
  refine z_callS S (pc := 22) B (wr := [cMod a p1 p2 p3 p4 p5 p6 pm ig mo rd wr sm, cAt E p1 σ ρ]) (wn := fun _ => [cMod a p1 p2 p3 p4 p5 p6 pm ig mo rd wr sm, cAt E p1 σ ρ]) (st1 := fun _ => [.long (iL (lim ((σ 3) + (((σ 4) * t).tdiv 1000)) 500000))]) (As := [.long (iL ((σ 3) + (((σ 4) * t).tdiv 1000))), .long (iL 500000)]) (mX8_limited l E ((σ 3) + (((σ 4) * t).tdiv 1000)) 500000 (show inL ((σ 3) + (((σ 4) * t).tdiv 1000)) from by omega) (show 0 ≤ 500000 ∧ 500000 ≤ 1000000000 from by omega)) gX8_offset_X8_limited 2 rfl (by decide +kernel) ⟨Nat.le_of_ble_eq_true rfl, Nat.le_of_ble_eq_true rfl, Nat.le_of_ble_eq_true rfl, Nat.le_of_ble_eq_true rfl⟩ [] [0, 1] [0, 1] rfl rfl ⟨rfl, rfl, rfl, by decide⟩ (fun _ => rfl) rfl (fun _ => rfl) hl.1 (Nat.le_of_ble_eq_true rfl) rfl dX8_offset_22 (fun _ _ H locs B => ?_)
  exact z_lreturn S hr hlk B () trivial rfl rfl (pc := 25) dX8_offset_25
theorem iX8_tick_X8 : ∀ w ∈ wsX80, w ∈ wsX8_tick := by decide +kernel
set_option maxHeartbeats 4000000 in
set_option maxRecDepth 100000 in
theorem mX8_tick (l : Launch) (E : gT) (a : Nat) (p1 : Nat) (p2 : Nat) (p3 : Nat) (p4 : Nat) (p5 : Nat) (p6 : Nat) (σ : Nat → Int) (ρ : Nat → Int) (pm : Int) (ig : Int) (mo : Int) (rd : Int) (wr : Int) (sm : Int) (y : Int) (hx : -1000000000000 ≤ ig ∧ ig ≤ 1000000000000) (hy : -1000000000000 ≤ y ∧ y ≤ 1000000000000) (hp : 0 ≤ σ 20 ∧ σ 20 ≤ 2000000000000) : Cd l E yX8_tick wsX8_tick 1 21 0 0 [.ref a, .long (iL y)] [cMod a p1 p2 p3 p4 p5 p6 pm ig mo rd wr sm, cAt E p1 σ ρ] none [cMod a p1 p2 p3 p4 p5 p6 pm (ig + y) mo rd wr sm, cAt E p1 (up (up σ 11 (σ 11 + 1)) 20 (mx (σ 20) (ig + y))) ρ] := by
  refine Ct.mk (cc := cX8_tick) (maxL := 3) (ret := none) (plainFor_of_name (by decide)) rfl (Nat.le_of_ble_eq_true rfl) ?_
  intro p e s m below meth c A ls H locs S hr hlk hnm B hl
  have S : CallFix p m c cX8_tick 3 s #[.ref a, .long (iL y)] wsX8_tick RX8 := S
  have hl : lv_has ls 3 [(0, .ref a), (1, .long (iL y))] := hl
  have hab := ab_nn (ig + y)
  have hab2 := ab_le (x := ig + y) (m := 2000000000000) (by omega) (by omega)
  refine z_aload_n S (pc := 0) dX8_tick_0 rfl (lv_at hl 0 rfl) ?_
  refine lv_dup S.1 S.2.1 (pc := 1) dX8_tick_1 rfl ?_
  refine z_get S (pc := 2) B iX8_tick_X8 0 rfl rfl 6 (by decide) rfl rfl (by decide +kernel) dX8_tick_2 ?_
  refine z_lload_n S (pc := 5) dX8_tick_5 rfl (lv_at hl 1 rfl) ?_
  refine z_ladd S (pc := 6) dX8_tick_6 ?_
  refine z_put S (pc := 7) B iX8_tick_X8 tyX8_ok nmX8 0 rfl rfl 6 (by decide) rfl (by decide +kernel) (ty := .long) (by decide +kernel) rfl rfl (Nat.le_of_ble_eq_true rfl) dX8_tick_7 (wn := [cMod a p1 p2 p3 p4 p5 p6 pm (ig + y) mo rd wr sm, cAt E p1 σ ρ]) rfl (fun H locs B => ?_)
  refine z_aload_n S (pc := 10) dX8_tick_10 rfl (lv_at hl 0 rfl) ?_
  refine z_get S (pc := 11) B iX8_tick_X8 0 rfl rfl 0 (by decide) rfl rfl (by decide +kernel) dX8_tick_11 ?_
  refine z_bipush S (pc := 14) dX8_tick_14 rfl ?_
  refine lv_dup2_11 S.1 S.2.1 (pc := 16) dX8_tick_16 rfl rfl ?_
  refine z_lald S (pc := 17) B 1 2 rfl rfl (k := 11) rfl (by decide) (by decide) (v := .long (iL (σ 11))) rfl dX8_tick_17 ?_
  refine z_lconst S (pc := 18) (x := 1) dX8_tick_18 rfl ?_
  refine z_ladd S (pc := 19) dX8_tick_19 ?_
  refine z_last S (pc := 20) B 1 2 rfl rfl (k := 11) rfl (by decide) (by decide) dX8_tick_20 (wn := [cMod a p1 p2 p3 p4 p5 p6 pm (ig + y) mo rd wr sm, cAt E p1 (up σ 11 ((σ 11) + 1)) ρ]) (by rw [lmu _ _ (by decide)]; rfl) (fun H locs B => ?_)
  refine z_aload_n S (pc := 21) dX8_tick_21 rfl (lv_at hl 0 rfl) ?_
  refine z_get S (pc := 22) B iX8_tick_X8 0 rfl rfl 0 (by decide) rfl rfl (by decide +kernel) dX8_tick_22 ?_
  refine z_bipush S (pc := 25) dX8_tick_25 rfl ?_
  refine z_aload_n S (pc := 27) dX8_tick_27 rfl (lv_at hl 0 rfl) ?_
  refine z_get S (pc := 28) B iX8_tick_X8 0 rfl rfl 6 (by decide) rfl rfl (by decide +kernel) dX8_tick_28 ?_
  refine z_callS S (pc := 31) B (wr := [cMod a p1 p2 p3 p4 p5 p6 pm (ig + y) mo rd wr sm, cAt E p1 (up σ 11 ((σ 11) + 1)) ρ]) (wn := fun _ => [cMod a p1 p2 p3 p4 p5 p6 pm (ig + y) mo rd wr sm, cAt E p1 (up σ 11 ((σ 11) + 1)) ρ]) (st1 := fun _ => [.long (iL (ab (ig + y))), .int (iI 20), .ref p1]) (As := [.long (iL (ig + y))]) (mX8_size l E (ig + y) (show -9000000000000000000 ≤ (ig + y) ∧ (ig + y) ≤ 9000000000000000000 from by omega)) gX8_tick_X8_size 1 rfl (by decide +kernel) ⟨Nat.le_of_ble_eq_true rfl, Nat.le_of_ble_eq_true rfl, Nat.le_of_ble_eq_true rfl, Nat.le_of_ble_eq_true rfl⟩ [] [0, 1] [0, 1] rfl rfl ⟨rfl, rfl, rfl, by decide⟩ (fun _ => rfl) rfl (fun _ => rfl) hl.1 (Nat.le_of_ble_eq_true rfl) rfl dX8_tick_31 (fun _ _ H locs B => ?_)
  refine z_aload_n S (pc := 34) dX8_tick_34 rfl (lv_at hl 0 rfl) ?_
  refine z_get S (pc := 35) B iX8_tick_X8 0 rfl rfl 0 (by decide) rfl rfl (by decide +kernel) dX8_tick_35 ?_
  refine z_bipush S (pc := 38) dX8_tick_38 rfl ?_
  refine z_lald S (pc := 40) B 1 2 rfl rfl (k := 20) rfl (by decide) (by decide) (v := .long (iL (σ 20))) rfl dX8_tick_40 ?_
  refine z_lc_le S (pc := 41) (tgt := 55) (by omega) (by omega) dX8_tick_41 dX8_tick_42 rfl (fun c1 => ?_) (fun c1 => ?_)
  · refine z_aload_n S (pc := 55) dX8_tick_55 rfl (lv_at hl 0 rfl) ?_
    refine z_get S (pc := 56) B iX8_tick_X8 0 rfl rfl 0 (by decide) rfl rfl (by decide +kernel) dX8_tick_56 ?_
    refine z_bipush S (pc := 59) dX8_tick_59 rfl ?_
    refine z_lald S (pc := 61) B 1 2 rfl rfl (k := 20) rfl (by decide) (by decide) (v := .long (iL (σ 20))) rfl dX8_tick_61 ?_
    refine z_last S (pc := 62) B 1 2 rfl rfl (k := 20) rfl (by decide) (by decide) dX8_tick_62 (wn := [cMod a p1 p2 p3 p4 p5 p6 pm (ig + y) mo rd wr sm, cAt E p1 (up (up σ 11 ((σ 11) + 1)) 20 (σ 20)) ρ]) (by rw [lmu _ _ (by decide)]; rfl) (fun H locs B => ?_)
    exact z_return S hr hlk B () trivial rfl (by rw [show mx (σ 20) (ig + y) = (σ 20) from by unfold mx; first | rw [if_pos (by omega)] | rw [if_neg (by omega)]]; try rfl) (pc := 63) dX8_tick_63
  · refine z_aload_n S (pc := 45) dX8_tick_45 rfl (lv_at hl 0 rfl) ?_
    refine z_get S (pc := 46) B iX8_tick_X8 0 rfl rfl 6 (by decide) rfl rfl (by decide +kernel) dX8_tick_46 ?_
    refine z_callS S (pc := 49) B (wr := [cMod a p1 p2 p3 p4 p5 p6 pm (ig + y) mo rd wr sm, cAt E p1 (up σ 11 ((σ 11) + 1)) ρ]) (wn := fun _ => [cMod a p1 p2 p3 p4 p5 p6 pm (ig + y) mo rd wr sm, cAt E p1 (up σ 11 ((σ 11) + 1)) ρ]) (st1 := fun _ => [.long (iL (ab (ig + y))), .int (iI 20), .ref p1]) (As := [.long (iL (ig + y))]) (mX8_size l E (ig + y) (show -9000000000000000000 ≤ (ig + y) ∧ (ig + y) ≤ 9000000000000000000 from by omega)) gX8_tick_X8_size 1 rfl (by decide +kernel) ⟨Nat.le_of_ble_eq_true rfl, Nat.le_of_ble_eq_true rfl, Nat.le_of_ble_eq_true rfl, Nat.le_of_ble_eq_true rfl⟩ [] [0, 1] [0, 1] rfl rfl ⟨rfl, rfl, rfl, by decide⟩ (fun _ => rfl) rfl (fun _ => rfl) hl.1 (Nat.le_of_ble_eq_true rfl) rfl dX8_tick_49 (fun _ _ H locs B => ?_)
    refine lv_goto S.1 S.2.1 (pc := 52) (tgt := 62) dX8_tick_52 rfl ?_
    refine z_last S (pc := 62) B 1 2 rfl rfl (k := 20) rfl (by decide) (by decide) dX8_tick_62 (wn := [cMod a p1 p2 p3 p4 p5 p6 pm (ig + y) mo rd wr sm, cAt E p1 (up (up σ 11 ((σ 11) + 1)) 20 (ab (ig + y))) ρ]) (by rw [lmu _ _ (by decide)]; rfl) (fun H locs B => ?_)
    exact z_return S hr hlk B () trivial rfl (by rw [show mx (σ 20) (ig + y) = (ab (ig + y)) from by unfold mx; first | rw [if_pos (by omega)] | rw [if_neg (by omega)]]; try rfl) (pc := 63) dX8_tick_63
theorem iX8_runUp_X8 : ∀ w ∈ wsX80, w ∈ wsX8_runUp := by decide +kernel
set_option maxHeartbeats 4000000 in
set_option maxRecDepth 100000 in
theorem lpX8_runUp_0 {p : Program} {l : Launch} {e : Env} {s : State} {m : MethodId} {args : Array Value} {below : List Frame} {meth : Method} {c : Code} {Q : State → Prop} {A : Nat → Prop} (E : gT) (S : CallFix p m c cX8_runUp 5 s args wsX8_runUp RX8) (a : Nat) (p1 : Nat) (p2 : Nat) (p3 : Nat) (p4 : Nat) (p5 : Nat) (p6 : Nat) (σ : Nat → Int) (ρ : Nat → Int) (pm : Int) (mo : Int) (rd : Int) (wr : Int) (sm : Int) (hs : Sets σ) (h11 : 0 ≤ σ 11 ∧ σ 11 ≤ 2100000000) :
    ∀ (n : Nat) (k : Int) (d : Int) (x : Int) (pk : Int) (sb : Int) (ad : Int) (t : Int) (rf : Int) (hk : 0 ≤ k ∧ k + (n : Int) = σ 5) (hd : -1 ≤ d ∧ d ≤ 1) (hrf : rf = d * 1048576) (hb : -(4194304 * k) ≤ x ∧ x ≤ 4194304 * k) (hpk : 0 ≤ pk ∧ pk ≤ 4194304 * k) (hsb : 0 ≤ sb ∧ sb ≤ k) (had : 0 ≤ ad ∧ ad ≤ k) (ht : t = σ 11 + k) (res : Int × Int × Int × Int × Int) (hres : upL (volt σ (gn (σ 10))) (σ 7) (σ 6) n k d x pk sb ad t = res) (hx : ∀  (H : Heap) (locs : List Loc) (ls : Array Slot), bw E A s H locs [cMod a p1 p2 p3 p4 p5 p6 pm res.1 mo rd wr sm, cAt E p1 (pU σ res.2.2.1 res.2.2.2.1 res.2.2.2.2 res.2.1) ρ] → lv_has ls 5 [(0, .ref a), (1, .int (iI 0))] → W p l e ({ frames := 2, cells := 0, slots := 0, locals := 48 } : Room) s m args below meth c H locs 0 0 Q (F0 m 150 ls [])) (H : Heap) (locs : List Loc) (ls : Array Slot) (B : bw E A s H locs [cMod a p1 p2 p3 p4 p5 p6 pm x mo rd wr sm, cAt E p1 (pU σ sb ad t pk) ρ]) (hl : lv_has ls 5 [(0, .ref a), (1, .int (iI 0)), (2, .long (iL rf)), (4, .int (iI k))]), W p l e ({ frames := 2, cells := 0, slots := 0, locals := 48 } : Room) s m args below meth c H locs 0 0 Q (F0 m 5 ls []) := by
  intro n
  induction n with
  | zero =>
    intro k d x pk sb ad t rf hk hd hrf hb hpk hsb had ht res hres hx H locs ls B hl
    obtain ⟨h0, h1, h2, h3, h4, h5, h6, h7, h8, h9, h10⟩ := id hs
    have q1 : 0 ≤ k % σ 6 ∧ k % σ 6 < σ 6 := ⟨Int.emod_nonneg k (by omega), Int.emod_lt_of_pos k (by omega)⟩
    refine z_iload S (pc := 5) dX8_runUp_5 (lv_at hl 3 rfl) ?_
    refine z_i2l S (pc := 7) (by omega) dX8_runUp_7 ?_
    refine z_aload_n S (pc := 8) dX8_runUp_8 rfl (lv_at hl 0 rfl) ?_
    refine z_get S (pc := 9) B iX8_runUp_X8 0 rfl rfl 0 (by decide) rfl rfl (by decide +kernel) dX8_runUp_9 ?_
    refine z_iconst S (pc := 12) dX8_runUp_12 ?_
    refine z_lald S (pc := 13) B 1 2 rfl rfl (k := 5) rfl (by decide) (by decide) (v := .long (iL (σ 5))) rfl dX8_runUp_13 ?_
    refine z_lc_ge S (pc := 14) (tgt := 150) (by omega) (by omega) dX8_runUp_14 dX8_runUp_15 rfl (fun c1 => ?_) (fun c1 => absurd c1 (by omega))
    subst hres
    exact hx _ _ _ B (lv_sub hl [0, 1] rfl)
  | succ n ih =>
    intro k d x pk sb ad t rf hk hd hrf hb hpk hsb had ht res hres hx H locs ls B hl
    obtain ⟨h0, h1, h2, h3, h4, h5, h6, h7, h8, h9, h10⟩ := id hs
    have q1 : 0 ≤ k % σ 6 ∧ k % σ 6 < σ 6 := ⟨Int.emod_nonneg k (by omega), Int.emod_lt_of_pos k (by omega)⟩
    refine z_iload S (pc := 5) dX8_runUp_5 (lv_at hl 3 rfl) ?_
    refine z_i2l S (pc := 7) (by omega) dX8_runUp_7 ?_
    refine z_aload_n S (pc := 8) dX8_runUp_8 rfl (lv_at hl 0 rfl) ?_
    refine z_get S (pc := 9) B iX8_runUp_X8 0 rfl rfl 0 (by decide) rfl rfl (by decide +kernel) dX8_runUp_9 ?_
    refine z_iconst S (pc := 12) dX8_runUp_12 ?_
    refine z_lald S (pc := 13) B 1 2 rfl rfl (k := 5) rfl (by decide) (by decide) (v := .long (iL (σ 5))) rfl dX8_runUp_13 ?_
    refine z_lc_ge S (pc := 14) (tgt := 150) (by omega) (by omega) dX8_runUp_14 dX8_runUp_15 rfl (fun c1 => ?_) (fun c1 => ?_)
    · exact absurd c1 (by omega)
    · refine z_aload_n S (pc := 18) dX8_runUp_18 rfl (lv_at hl 0 rfl) ?_
      refine z_get S (pc := 19) B iX8_runUp_X8 0 rfl rfl 0 (by decide) rfl rfl (by decide +kernel) dX8_runUp_19 ?_
      refine z_bipush S (pc := 22) dX8_runUp_22 rfl ?_
      refine z_lald S (pc := 24) B 1 2 rfl rfl (k := 7) rfl (by decide) (by decide) (v := .long (iL (σ 7))) rfl dX8_runUp_24 ?_
      refine z_lconst S (pc := 25) (x := 1) dX8_runUp_25 rfl ?_
      refine z_lc_ne S (pc := 26) (tgt := 65) (by omega) (by omega) dX8_runUp_26 dX8_runUp_27 rfl (fun c2 => ?_) (fun c2 => ?_)
      · refine z_aload_n S (pc := 65) dX8_runUp_65 rfl (lv_at hl 0 rfl) ?_
        refine z_get S (pc := 66) B iX8_runUp_X8 0 rfl rfl 0 (by decide) rfl rfl (by decide +kernel) dX8_runUp_66 ?_
        refine z_bipush S (pc := 69) dX8_runUp_69 rfl ?_
        refine lv_dup2_11 S.1 S.2.1 (pc := 71) dX8_runUp_71 rfl rfl ?_
        refine z_lald S (pc := 72) B 1 2 rfl rfl (k := 18) rfl (by decide) (by decide) (v := .long (iL sb)) rfl dX8_runUp_72 ?_
        refine z_lload_n S (pc := 73) dX8_runUp_73 rfl (lv_at hl 2 rfl) ?_
        refine z_lconst S (pc := 74) (x := 0) dX8_runUp_74 rfl ?_
        refine z_lc_ge S (pc := 75) (tgt := 83) (by omega) (by omega) dX8_runUp_75 dX8_runUp_76 rfl (fun c3 => ?_) (fun c3 => ?_)
        · refine z_lconst S (pc := 83) (x := 0) dX8_runUp_83 rfl ?_
          refine z_ladd S (pc := 84) dX8_runUp_84 ?_
          refine z_last S (pc := 85) B 1 2 rfl rfl (k := 18) rfl (by decide) (by decide) dX8_runUp_85 (wn := [cMod a p1 p2 p3 p4 p5 p6 pm x mo rd wr sm, cAt E p1 (up (pU σ sb ad t pk) 18 (sb + 0)) ρ]) (by rw [lmu _ _ (by decide)]; rfl) (fun H locs B => ?_)
          refine z_aload_n S (pc := 86) dX8_runUp_86 rfl (lv_at hl 0 rfl) ?_
          refine z_get S (pc := 87) B iX8_runUp_X8 0 rfl rfl 0 (by decide) rfl rfl (by decide +kernel) dX8_runUp_87 ?_
          refine z_bipush S (pc := 90) dX8_runUp_90 rfl ?_
          refine lv_dup2_11 S.1 S.2.1 (pc := 92) dX8_runUp_92 rfl rfl ?_
          refine z_lald S (pc := 93) B 1 2 rfl rfl (k := 19) rfl (by decide) (by decide) (v := .long (iL ad)) rfl dX8_runUp_93 ?_
          refine z_lload_n S (pc := 94) dX8_runUp_94 rfl (lv_at hl 2 rfl) ?_
          refine z_lconst S (pc := 95) (x := 0) dX8_runUp_95 rfl ?_
          refine z_lc_le S (pc := 96) (tgt := 104) (by omega) (by omega) dX8_runUp_96 dX8_runUp_97 rfl (fun c4 => ?_) (fun c4 => ?_)
          · refine z_lconst S (pc := 104) (x := 0) dX8_runUp_104 rfl ?_
            refine z_ladd S (pc := 105) dX8_runUp_105 ?_
            refine z_last S (pc := 106) B 1 2 rfl rfl (k := 19) rfl (by decide) (by decide) dX8_runUp_106 (wn := [cMod a p1 p2 p3 p4 p5 p6 pm x mo rd wr sm, cAt E p1 (up (up (pU σ sb ad t pk) 18 (sb + 0)) 19 (ad + 0)) ρ]) (by rw [lmu _ _ (by decide)]; rfl) (fun H locs B => ?_)
            refine z_aload_n S (pc := 107) dX8_runUp_107 rfl (lv_at hl 0 rfl) ?_
            refine z_iload_n S (pc := 108) dX8_runUp_108 rfl (lv_at hl 1 rfl) ?_
            refine z_if_eq S (pc := 109) (tgt := 116) (by omega) dX8_runUp_109 rfl (fun c5 => ?_) (fun c5 => absurd c5 (by omega))
            refine z_aload_n S (pc := 116) dX8_runUp_116 rfl (lv_at hl 0 rfl) ?_
            refine z_aload_n S (pc := 117) dX8_runUp_117 rfl (lv_at hl 0 rfl) ?_
            refine z_get S (pc := 118) B iX8_runUp_X8 0 rfl rfl 0 (by decide) rfl rfl (by decide +kernel) dX8_runUp_118 ?_
            refine z_bipush S (pc := 121) dX8_runUp_121 rfl ?_
            refine z_lald S (pc := 123) B 1 2 rfl rfl (k := 11) rfl (by decide) (by decide) (v := .long (iL t)) rfl dX8_runUp_123 ?_
            refine z_callV S (pc := 124) B (wr := []) (wn := fun _ => [cMod a p1 p2 p3 p4 p5 p6 pm x mo rd wr sm, cAt E p1 (up (up (pU σ sb ad t pk) 18 (sb + 0)) 19 (ad + 0)) ρ]) (st1 := fun _ => [.long (iL (inpg (σ 0) (σ 1) (σ 2) t (gn (σ 10)))), .ref a]) (As := [.long (iL t)]) (mX8_input l E a p1 p2 p3 p4 p5 p6 (up (up (pU σ sb ad t pk) 18 (sb + 0)) 19 (ad + 0)) ρ pm x mo rd wr sm t (show -4000000 ≤ σ 0 ∧ σ 0 ≤ 4000000 from by omega) (show 0 ≤ σ 1 ∧ σ 1 ≤ 1000000 from by omega) (show inPe (σ 2) from by omega) (show 0 ≤ σ 10 ∧ σ 10 ≤ 3 from by omega) (show 0 ≤ t ∧ t ≤ 2147483647 from by omega)) gX8_runUp_X8_input 1 rfl (by decide +kernel) ⟨Nat.le_of_ble_eq_true rfl, Nat.le_of_ble_eq_true rfl, Nat.le_of_ble_eq_true rfl, Nat.le_of_ble_eq_true rfl⟩ 0 rfl (q := (RX8, TX8, 12)) rfl rfl [0, 1] [] [0, 1] rfl rfl ⟨rfl, rfl, rfl, by decide⟩ (fun _ => rfl) rfl (fun _ => rfl) hl.1 (Nat.le_of_ble_eq_true rfl) rfl dX8_runUp_124 (fun _ _ H locs B => ?_)
            refine z_aload_n S (pc := 127) dX8_runUp_127 rfl (lv_at hl 0 rfl) ?_
            refine z_aload_n S (pc := 128) dX8_runUp_128 rfl (lv_at hl 0 rfl) ?_
            refine z_get S (pc := 129) B iX8_runUp_X8 0 rfl rfl 0 (by decide) rfl rfl (by decide +kernel) dX8_runUp_129 ?_
            refine z_bipush S (pc := 132) dX8_runUp_132 rfl ?_
            refine z_lald S (pc := 134) B 1 2 rfl rfl (k := 11) rfl (by decide) (by decide) (v := .long (iL t)) rfl dX8_runUp_134 ?_
            refine z_callV S (pc := 135) B (wr := []) (wn := fun _ => [cMod a p1 p2 p3 p4 p5 p6 pm x mo rd wr sm, cAt E p1 (up (up (pU σ sb ad t pk) 18 (sb + 0)) 19 (ad + 0)) ρ]) (st1 := fun _ => [.long (iL (offs (σ 3) (σ 4) t)), .long (iL (inpg (σ 0) (σ 1) (σ 2) t (gn (σ 10)))), .ref a]) (As := [.long (iL t)]) (mX8_offset l E a p1 p2 p3 p4 p5 p6 (up (up (pU σ sb ad t pk) 18 (sb + 0)) 19 (ad + 0)) ρ pm x mo rd wr sm t (show -100000 ≤ σ 3 ∧ σ 3 ≤ 100000 from by omega) (show -1000 ≤ σ 4 ∧ σ 4 ≤ 1000 from by omega) (show 0 ≤ t ∧ t ≤ 2147483647 from by omega)) gX8_runUp_X8_offset 1 rfl (by decide +kernel) ⟨Nat.le_of_ble_eq_true rfl, Nat.le_of_ble_eq_true rfl, Nat.le_of_ble_eq_true rfl, Nat.le_of_ble_eq_true rfl⟩ 0 rfl (q := (RX8, TX8, 12)) rfl rfl [0, 1] [] [0, 1] rfl rfl ⟨rfl, rfl, rfl, by decide⟩ (fun _ => rfl) rfl (fun _ => rfl) hl.1 (Nat.le_of_ble_eq_true rfl) rfl dX8_runUp_135 (fun _ _ H locs B => ?_)
            have hv1 := inpg_bd (σ 0) (σ 1) (σ 2) t (gn (σ 10))
            have hv2 := offs_bd (σ 3) (σ 4) t
            refine z_ladd S (pc := 138) dX8_runUp_138 ?_
            refine z_lload_n S (pc := 139) dX8_runUp_139 rfl (lv_at hl 2 rfl) ?_
            refine z_ladd S (pc := 140) dX8_runUp_140 ?_
            refine z_callV S (pc := 141) B (wr := []) (wn := fun _ => [cMod a p1 p2 p3 p4 p5 p6 pm (x + (((inpg (σ 0) (σ 1) (σ 2) t (gn (σ 10))) + (offs (σ 3) (σ 4) t)) + rf)) mo rd wr sm, cAt E p1 (up (up (up (up (pU σ sb ad t pk) 18 (sb + 0)) 19 (ad + 0)) 11 (t + 1)) 20 (mx pk (x + (((inpg (σ 0) (σ 1) (σ 2) t (gn (σ 10))) + (offs (σ 3) (σ 4) t)) + rf)))) ρ]) (st1 := fun _ => []) (As := [.long (iL (((inpg (σ 0) (σ 1) (σ 2) t (gn (σ 10))) + (offs (σ 3) (σ 4) t)) + rf))]) (mX8_tick l E a p1 p2 p3 p4 p5 p6 (up (up (pU σ sb ad t pk) 18 (sb + 0)) 19 (ad + 0)) ρ pm x mo rd wr sm (((inpg (σ 0) (σ 1) (σ 2) t (gn (σ 10))) + (offs (σ 3) (σ 4) t)) + rf) (show -1000000000000 ≤ x ∧ x ≤ 1000000000000 from by omega) (show -1000000000000 ≤ (((inpg (σ 0) (σ 1) (σ 2) t (gn (σ 10))) + (offs (σ 3) (σ 4) t)) + rf) ∧ (((inpg (σ 0) (σ 1) (σ 2) t (gn (σ 10))) + (offs (σ 3) (σ 4) t)) + rf) ≤ 1000000000000 from by omega) (show 0 ≤ pk ∧ pk ≤ 2000000000000 from by omega)) gX8_runUp_X8_tick 1 rfl (by decide +kernel) ⟨Nat.le_of_ble_eq_true rfl, Nat.le_of_ble_eq_true rfl, Nat.le_of_ble_eq_true rfl, Nat.le_of_ble_eq_true rfl⟩ 0 rfl (q := (RX8, TX8, 12)) rfl rfl [0, 1] [] [0, 1] rfl rfl ⟨rfl, rfl, rfl, by decide⟩ (fun _ => rfl) rfl (fun _ => rfl) hl.1 (Nat.le_of_ble_eq_true rfl) rfl dX8_runUp_141 (fun _ _ H locs B => ?_)
            refine lv_iinc (v := iI (k + 1)) (lv' := [(4, .int (iI (k + 1))), (0, .ref a), (1, .int (iI 0)), (2, .long (iL rf))]) S.1 S.2.1 (pc := 144) dX8_runUp_144 hl (k := 3) rfl (iI_add _ _) (by decide) rfl (fun ls hl => ?_)
            refine lv_goto S.1 S.2.1 (pc := 147) (tgt := 5) dX8_runUp_147 rfl ?_
            have e1 : dirn (σ 7) (σ 6) k d x = d := dirn_n (fun z => by omega)
            have b1 := stx_bd (md := σ 7) (sl := σ 6) (k := k) (t := t) (volt_bd σ (gn (σ 10))) hd hb
            have ex : x + (((inpg (σ 0) (σ 1) (σ 2) t (gn (σ 10))) + (offs (σ 3) (σ 4) t)) + rf) = stx (volt σ (gn (σ 10))) (σ 7) (σ 6) k d x t := by unfold stx volt; rw [e1]; omega
            have es : sb + 0 = (if dirn (σ 7) (σ 6) k d x < 0 then sb + 1 else sb) := by rw [e1, if_neg (by omega)]; omega
            have ea : ad + 0 = (if 0 < dirn (σ 7) (σ 6) k d x then ad + 1 else ad) := by rw [e1, if_neg (by omega)]; omega
            rw [pU_s, ex, es, ea] at B
            have b2 := mx_bd (p := pk) (x := stx (volt σ (gn (σ 10))) (σ 7) (σ 6) k d x t) (m := 4194304 * (k + 1)) hpk.1 (by omega) (by have := b1.2.1; omega) (by have := b1.2.2; omega)
            exact ih (k + 1) (dirn (σ 7) (σ 6) k d x) (stx (volt σ (gn (σ 10))) (σ 7) (σ 6) k d x t) (mx pk (stx (volt σ (gn (σ 10))) (σ 7) (σ 6) k d x t)) (if dirn (σ 7) (σ 6) k d x < 0 then sb + 1 else sb) (if 0 < dirn (σ 7) (σ 6) k d x then ad + 1 else ad) (t + 1) rf (by omega) b1.1 (by rw [e1]; omega) (by have := b1.2; omega) b2 (by rw [e1]; split <;> omega) (by rw [e1]; split <;> omega) (by omega) res (by simp only [upL] at hres; exact hres) hx _ _ _ B (lv_sub hl [1, 2, 3, 0] rfl)
          · refine z_lconst S (pc := 100) (x := 1) dX8_runUp_100 rfl ?_
            refine lv_goto S.1 S.2.1 (pc := 101) (tgt := 105) dX8_runUp_101 rfl ?_
            refine z_ladd S (pc := 105) dX8_runUp_105 ?_
            refine z_last S (pc := 106) B 1 2 rfl rfl (k := 19) rfl (by decide) (by decide) dX8_runUp_106 (wn := [cMod a p1 p2 p3 p4 p5 p6 pm x mo rd wr sm, cAt E p1 (up (up (pU σ sb ad t pk) 18 (sb + 0)) 19 (ad + 1)) ρ]) (by rw [lmu _ _ (by decide)]; rfl) (fun H locs B => ?_)
            refine z_aload_n S (pc := 107) dX8_runUp_107 rfl (lv_at hl 0 rfl) ?_
            refine z_iload_n S (pc := 108) dX8_runUp_108 rfl (lv_at hl 1 rfl) ?_
            refine z_if_eq S (pc := 109) (tgt := 116) (by omega) dX8_runUp_109 rfl (fun c6 => ?_) (fun c6 => absurd c6 (by omega))
            refine z_aload_n S (pc := 116) dX8_runUp_116 rfl (lv_at hl 0 rfl) ?_
            refine z_aload_n S (pc := 117) dX8_runUp_117 rfl (lv_at hl 0 rfl) ?_
            refine z_get S (pc := 118) B iX8_runUp_X8 0 rfl rfl 0 (by decide) rfl rfl (by decide +kernel) dX8_runUp_118 ?_
            refine z_bipush S (pc := 121) dX8_runUp_121 rfl ?_
            refine z_lald S (pc := 123) B 1 2 rfl rfl (k := 11) rfl (by decide) (by decide) (v := .long (iL t)) rfl dX8_runUp_123 ?_
            refine z_callV S (pc := 124) B (wr := []) (wn := fun _ => [cMod a p1 p2 p3 p4 p5 p6 pm x mo rd wr sm, cAt E p1 (up (up (pU σ sb ad t pk) 18 (sb + 0)) 19 (ad + 1)) ρ]) (st1 := fun _ => [.long (iL (inpg (σ 0) (σ 1) (σ 2) t (gn (σ 10)))), .ref a]) (As := [.long (iL t)]) (mX8_input l E a p1 p2 p3 p4 p5 p6 (up (up (pU σ sb ad t pk) 18 (sb + 0)) 19 (ad + 1)) ρ pm x mo rd wr sm t (show -4000000 ≤ σ 0 ∧ σ 0 ≤ 4000000 from by omega) (show 0 ≤ σ 1 ∧ σ 1 ≤ 1000000 from by omega) (show inPe (σ 2) from by omega) (show 0 ≤ σ 10 ∧ σ 10 ≤ 3 from by omega) (show 0 ≤ t ∧ t ≤ 2147483647 from by omega)) gX8_runUp_X8_input 1 rfl (by decide +kernel) ⟨Nat.le_of_ble_eq_true rfl, Nat.le_of_ble_eq_true rfl, Nat.le_of_ble_eq_true rfl, Nat.le_of_ble_eq_true rfl⟩ 0 rfl (q := (RX8, TX8, 12)) rfl rfl [0, 1] [] [0, 1] rfl rfl ⟨rfl, rfl, rfl, by decide⟩ (fun _ => rfl) rfl (fun _ => rfl) hl.1 (Nat.le_of_ble_eq_true rfl) rfl dX8_runUp_124 (fun _ _ H locs B => ?_)
            refine z_aload_n S (pc := 127) dX8_runUp_127 rfl (lv_at hl 0 rfl) ?_
            refine z_aload_n S (pc := 128) dX8_runUp_128 rfl (lv_at hl 0 rfl) ?_
            refine z_get S (pc := 129) B iX8_runUp_X8 0 rfl rfl 0 (by decide) rfl rfl (by decide +kernel) dX8_runUp_129 ?_
            refine z_bipush S (pc := 132) dX8_runUp_132 rfl ?_
            refine z_lald S (pc := 134) B 1 2 rfl rfl (k := 11) rfl (by decide) (by decide) (v := .long (iL t)) rfl dX8_runUp_134 ?_
            refine z_callV S (pc := 135) B (wr := []) (wn := fun _ => [cMod a p1 p2 p3 p4 p5 p6 pm x mo rd wr sm, cAt E p1 (up (up (pU σ sb ad t pk) 18 (sb + 0)) 19 (ad + 1)) ρ]) (st1 := fun _ => [.long (iL (offs (σ 3) (σ 4) t)), .long (iL (inpg (σ 0) (σ 1) (σ 2) t (gn (σ 10)))), .ref a]) (As := [.long (iL t)]) (mX8_offset l E a p1 p2 p3 p4 p5 p6 (up (up (pU σ sb ad t pk) 18 (sb + 0)) 19 (ad + 1)) ρ pm x mo rd wr sm t (show -100000 ≤ σ 3 ∧ σ 3 ≤ 100000 from by omega) (show -1000 ≤ σ 4 ∧ σ 4 ≤ 1000 from by omega) (show 0 ≤ t ∧ t ≤ 2147483647 from by omega)) gX8_runUp_X8_offset 1 rfl (by decide +kernel) ⟨Nat.le_of_ble_eq_true rfl, Nat.le_of_ble_eq_true rfl, Nat.le_of_ble_eq_true rfl, Nat.le_of_ble_eq_true rfl⟩ 0 rfl (q := (RX8, TX8, 12)) rfl rfl [0, 1] [] [0, 1] rfl rfl ⟨rfl, rfl, rfl, by decide⟩ (fun _ => rfl) rfl (fun _ => rfl) hl.1 (Nat.le_of_ble_eq_true rfl) rfl dX8_runUp_135 (fun _ _ H locs B => ?_)
            have hv1 := inpg_bd (σ 0) (σ 1) (σ 2) t (gn (σ 10))
            have hv2 := offs_bd (σ 3) (σ 4) t
            refine z_ladd S (pc := 138) dX8_runUp_138 ?_
            refine z_lload_n S (pc := 139) dX8_runUp_139 rfl (lv_at hl 2 rfl) ?_
            refine z_ladd S (pc := 140) dX8_runUp_140 ?_
            refine z_callV S (pc := 141) B (wr := []) (wn := fun _ => [cMod a p1 p2 p3 p4 p5 p6 pm (x + (((inpg (σ 0) (σ 1) (σ 2) t (gn (σ 10))) + (offs (σ 3) (σ 4) t)) + rf)) mo rd wr sm, cAt E p1 (up (up (up (up (pU σ sb ad t pk) 18 (sb + 0)) 19 (ad + 1)) 11 (t + 1)) 20 (mx pk (x + (((inpg (σ 0) (σ 1) (σ 2) t (gn (σ 10))) + (offs (σ 3) (σ 4) t)) + rf)))) ρ]) (st1 := fun _ => []) (As := [.long (iL (((inpg (σ 0) (σ 1) (σ 2) t (gn (σ 10))) + (offs (σ 3) (σ 4) t)) + rf))]) (mX8_tick l E a p1 p2 p3 p4 p5 p6 (up (up (pU σ sb ad t pk) 18 (sb + 0)) 19 (ad + 1)) ρ pm x mo rd wr sm (((inpg (σ 0) (σ 1) (σ 2) t (gn (σ 10))) + (offs (σ 3) (σ 4) t)) + rf) (show -1000000000000 ≤ x ∧ x ≤ 1000000000000 from by omega) (show -1000000000000 ≤ (((inpg (σ 0) (σ 1) (σ 2) t (gn (σ 10))) + (offs (σ 3) (σ 4) t)) + rf) ∧ (((inpg (σ 0) (σ 1) (σ 2) t (gn (σ 10))) + (offs (σ 3) (σ 4) t)) + rf) ≤ 1000000000000 from by omega) (show 0 ≤ pk ∧ pk ≤ 2000000000000 from by omega)) gX8_runUp_X8_tick 1 rfl (by decide +kernel) ⟨Nat.le_of_ble_eq_true rfl, Nat.le_of_ble_eq_true rfl, Nat.le_of_ble_eq_true rfl, Nat.le_of_ble_eq_true rfl⟩ 0 rfl (q := (RX8, TX8, 12)) rfl rfl [0, 1] [] [0, 1] rfl rfl ⟨rfl, rfl, rfl, by decide⟩ (fun _ => rfl) rfl (fun _ => rfl) hl.1 (Nat.le_of_ble_eq_true rfl) rfl dX8_runUp_141 (fun _ _ H locs B => ?_)
            refine lv_iinc (v := iI (k + 1)) (lv' := [(4, .int (iI (k + 1))), (0, .ref a), (1, .int (iI 0)), (2, .long (iL rf))]) S.1 S.2.1 (pc := 144) dX8_runUp_144 hl (k := 3) rfl (iI_add _ _) (by decide) rfl (fun ls hl => ?_)
            refine lv_goto S.1 S.2.1 (pc := 147) (tgt := 5) dX8_runUp_147 rfl ?_
            have e1 : dirn (σ 7) (σ 6) k d x = d := dirn_n (fun z => by omega)
            have b1 := stx_bd (md := σ 7) (sl := σ 6) (k := k) (t := t) (volt_bd σ (gn (σ 10))) hd hb
            have ex : x + (((inpg (σ 0) (σ 1) (σ 2) t (gn (σ 10))) + (offs (σ 3) (σ 4) t)) + rf) = stx (volt σ (gn (σ 10))) (σ 7) (σ 6) k d x t := by unfold stx volt; rw [e1]; omega
            have es : sb + 0 = (if dirn (σ 7) (σ 6) k d x < 0 then sb + 1 else sb) := by rw [e1, if_neg (by omega)]; omega
            have ea : ad + 1 = (if 0 < dirn (σ 7) (σ 6) k d x then ad + 1 else ad) := by rw [e1, if_pos (by omega)]
            rw [pU_s, ex, es, ea] at B
            have b2 := mx_bd (p := pk) (x := stx (volt σ (gn (σ 10))) (σ 7) (σ 6) k d x t) (m := 4194304 * (k + 1)) hpk.1 (by omega) (by have := b1.2.1; omega) (by have := b1.2.2; omega)
            exact ih (k + 1) (dirn (σ 7) (σ 6) k d x) (stx (volt σ (gn (σ 10))) (σ 7) (σ 6) k d x t) (mx pk (stx (volt σ (gn (σ 10))) (σ 7) (σ 6) k d x t)) (if dirn (σ 7) (σ 6) k d x < 0 then sb + 1 else sb) (if 0 < dirn (σ 7) (σ 6) k d x then ad + 1 else ad) (t + 1) rf (by omega) b1.1 (by rw [e1]; omega) (by have := b1.2; omega) b2 (by rw [e1]; split <;> omega) (by rw [e1]; split <;> omega) (by omega) res (by simp only [upL] at hres; exact hres) hx _ _ _ B (lv_sub hl [1, 2, 3, 0] rfl)
        · refine z_lconst S (pc := 79) (x := 1) dX8_runUp_79 rfl ?_
          refine lv_goto S.1 S.2.1 (pc := 80) (tgt := 84) dX8_runUp_80 rfl ?_
          refine z_ladd S (pc := 84) dX8_runUp_84 ?_
          refine z_last S (pc := 85) B 1 2 rfl rfl (k := 18) rfl (by decide) (by decide) dX8_runUp_85 (wn := [cMod a p1 p2 p3 p4 p5 p6 pm x mo rd wr sm, cAt E p1 (up (pU σ sb ad t pk) 18 (sb + 1)) ρ]) (by rw [lmu _ _ (by decide)]; rfl) (fun H locs B => ?_)
          refine z_aload_n S (pc := 86) dX8_runUp_86 rfl (lv_at hl 0 rfl) ?_
          refine z_get S (pc := 87) B iX8_runUp_X8 0 rfl rfl 0 (by decide) rfl rfl (by decide +kernel) dX8_runUp_87 ?_
          refine z_bipush S (pc := 90) dX8_runUp_90 rfl ?_
          refine lv_dup2_11 S.1 S.2.1 (pc := 92) dX8_runUp_92 rfl rfl ?_
          refine z_lald S (pc := 93) B 1 2 rfl rfl (k := 19) rfl (by decide) (by decide) (v := .long (iL ad)) rfl dX8_runUp_93 ?_
          refine z_lload_n S (pc := 94) dX8_runUp_94 rfl (lv_at hl 2 rfl) ?_
          refine z_lconst S (pc := 95) (x := 0) dX8_runUp_95 rfl ?_
          refine z_lc_le S (pc := 96) (tgt := 104) (by omega) (by omega) dX8_runUp_96 dX8_runUp_97 rfl (fun c7 => ?_) (fun c7 => ?_)
          · refine z_lconst S (pc := 104) (x := 0) dX8_runUp_104 rfl ?_
            refine z_ladd S (pc := 105) dX8_runUp_105 ?_
            refine z_last S (pc := 106) B 1 2 rfl rfl (k := 19) rfl (by decide) (by decide) dX8_runUp_106 (wn := [cMod a p1 p2 p3 p4 p5 p6 pm x mo rd wr sm, cAt E p1 (up (up (pU σ sb ad t pk) 18 (sb + 1)) 19 (ad + 0)) ρ]) (by rw [lmu _ _ (by decide)]; rfl) (fun H locs B => ?_)
            refine z_aload_n S (pc := 107) dX8_runUp_107 rfl (lv_at hl 0 rfl) ?_
            refine z_iload_n S (pc := 108) dX8_runUp_108 rfl (lv_at hl 1 rfl) ?_
            refine z_if_eq S (pc := 109) (tgt := 116) (by omega) dX8_runUp_109 rfl (fun c8 => ?_) (fun c8 => absurd c8 (by omega))
            refine z_aload_n S (pc := 116) dX8_runUp_116 rfl (lv_at hl 0 rfl) ?_
            refine z_aload_n S (pc := 117) dX8_runUp_117 rfl (lv_at hl 0 rfl) ?_
            refine z_get S (pc := 118) B iX8_runUp_X8 0 rfl rfl 0 (by decide) rfl rfl (by decide +kernel) dX8_runUp_118 ?_
            refine z_bipush S (pc := 121) dX8_runUp_121 rfl ?_
            refine z_lald S (pc := 123) B 1 2 rfl rfl (k := 11) rfl (by decide) (by decide) (v := .long (iL t)) rfl dX8_runUp_123 ?_
            refine z_callV S (pc := 124) B (wr := []) (wn := fun _ => [cMod a p1 p2 p3 p4 p5 p6 pm x mo rd wr sm, cAt E p1 (up (up (pU σ sb ad t pk) 18 (sb + 1)) 19 (ad + 0)) ρ]) (st1 := fun _ => [.long (iL (inpg (σ 0) (σ 1) (σ 2) t (gn (σ 10)))), .ref a]) (As := [.long (iL t)]) (mX8_input l E a p1 p2 p3 p4 p5 p6 (up (up (pU σ sb ad t pk) 18 (sb + 1)) 19 (ad + 0)) ρ pm x mo rd wr sm t (show -4000000 ≤ σ 0 ∧ σ 0 ≤ 4000000 from by omega) (show 0 ≤ σ 1 ∧ σ 1 ≤ 1000000 from by omega) (show inPe (σ 2) from by omega) (show 0 ≤ σ 10 ∧ σ 10 ≤ 3 from by omega) (show 0 ≤ t ∧ t ≤ 2147483647 from by omega)) gX8_runUp_X8_input 1 rfl (by decide +kernel) ⟨Nat.le_of_ble_eq_true rfl, Nat.le_of_ble_eq_true rfl, Nat.le_of_ble_eq_true rfl, Nat.le_of_ble_eq_true rfl⟩ 0 rfl (q := (RX8, TX8, 12)) rfl rfl [0, 1] [] [0, 1] rfl rfl ⟨rfl, rfl, rfl, by decide⟩ (fun _ => rfl) rfl (fun _ => rfl) hl.1 (Nat.le_of_ble_eq_true rfl) rfl dX8_runUp_124 (fun _ _ H locs B => ?_)
            refine z_aload_n S (pc := 127) dX8_runUp_127 rfl (lv_at hl 0 rfl) ?_
            refine z_aload_n S (pc := 128) dX8_runUp_128 rfl (lv_at hl 0 rfl) ?_
            refine z_get S (pc := 129) B iX8_runUp_X8 0 rfl rfl 0 (by decide) rfl rfl (by decide +kernel) dX8_runUp_129 ?_
            refine z_bipush S (pc := 132) dX8_runUp_132 rfl ?_
            refine z_lald S (pc := 134) B 1 2 rfl rfl (k := 11) rfl (by decide) (by decide) (v := .long (iL t)) rfl dX8_runUp_134 ?_
            refine z_callV S (pc := 135) B (wr := []) (wn := fun _ => [cMod a p1 p2 p3 p4 p5 p6 pm x mo rd wr sm, cAt E p1 (up (up (pU σ sb ad t pk) 18 (sb + 1)) 19 (ad + 0)) ρ]) (st1 := fun _ => [.long (iL (offs (σ 3) (σ 4) t)), .long (iL (inpg (σ 0) (σ 1) (σ 2) t (gn (σ 10)))), .ref a]) (As := [.long (iL t)]) (mX8_offset l E a p1 p2 p3 p4 p5 p6 (up (up (pU σ sb ad t pk) 18 (sb + 1)) 19 (ad + 0)) ρ pm x mo rd wr sm t (show -100000 ≤ σ 3 ∧ σ 3 ≤ 100000 from by omega) (show -1000 ≤ σ 4 ∧ σ 4 ≤ 1000 from by omega) (show 0 ≤ t ∧ t ≤ 2147483647 from by omega)) gX8_runUp_X8_offset 1 rfl (by decide +kernel) ⟨Nat.le_of_ble_eq_true rfl, Nat.le_of_ble_eq_true rfl, Nat.le_of_ble_eq_true rfl, Nat.le_of_ble_eq_true rfl⟩ 0 rfl (q := (RX8, TX8, 12)) rfl rfl [0, 1] [] [0, 1] rfl rfl ⟨rfl, rfl, rfl, by decide⟩ (fun _ => rfl) rfl (fun _ => rfl) hl.1 (Nat.le_of_ble_eq_true rfl) rfl dX8_runUp_135 (fun _ _ H locs B => ?_)
            have hv1 := inpg_bd (σ 0) (σ 1) (σ 2) t (gn (σ 10))
            have hv2 := offs_bd (σ 3) (σ 4) t
            refine z_ladd S (pc := 138) dX8_runUp_138 ?_
            refine z_lload_n S (pc := 139) dX8_runUp_139 rfl (lv_at hl 2 rfl) ?_
            refine z_ladd S (pc := 140) dX8_runUp_140 ?_
            refine z_callV S (pc := 141) B (wr := []) (wn := fun _ => [cMod a p1 p2 p3 p4 p5 p6 pm (x + (((inpg (σ 0) (σ 1) (σ 2) t (gn (σ 10))) + (offs (σ 3) (σ 4) t)) + rf)) mo rd wr sm, cAt E p1 (up (up (up (up (pU σ sb ad t pk) 18 (sb + 1)) 19 (ad + 0)) 11 (t + 1)) 20 (mx pk (x + (((inpg (σ 0) (σ 1) (σ 2) t (gn (σ 10))) + (offs (σ 3) (σ 4) t)) + rf)))) ρ]) (st1 := fun _ => []) (As := [.long (iL (((inpg (σ 0) (σ 1) (σ 2) t (gn (σ 10))) + (offs (σ 3) (σ 4) t)) + rf))]) (mX8_tick l E a p1 p2 p3 p4 p5 p6 (up (up (pU σ sb ad t pk) 18 (sb + 1)) 19 (ad + 0)) ρ pm x mo rd wr sm (((inpg (σ 0) (σ 1) (σ 2) t (gn (σ 10))) + (offs (σ 3) (σ 4) t)) + rf) (show -1000000000000 ≤ x ∧ x ≤ 1000000000000 from by omega) (show -1000000000000 ≤ (((inpg (σ 0) (σ 1) (σ 2) t (gn (σ 10))) + (offs (σ 3) (σ 4) t)) + rf) ∧ (((inpg (σ 0) (σ 1) (σ 2) t (gn (σ 10))) + (offs (σ 3) (σ 4) t)) + rf) ≤ 1000000000000 from by omega) (show 0 ≤ pk ∧ pk ≤ 2000000000000 from by omega)) gX8_runUp_X8_tick 1 rfl (by decide +kernel) ⟨Nat.le_of_ble_eq_true rfl, Nat.le_of_ble_eq_true rfl, Nat.le_of_ble_eq_true rfl, Nat.le_of_ble_eq_true rfl⟩ 0 rfl (q := (RX8, TX8, 12)) rfl rfl [0, 1] [] [0, 1] rfl rfl ⟨rfl, rfl, rfl, by decide⟩ (fun _ => rfl) rfl (fun _ => rfl) hl.1 (Nat.le_of_ble_eq_true rfl) rfl dX8_runUp_141 (fun _ _ H locs B => ?_)
            refine lv_iinc (v := iI (k + 1)) (lv' := [(4, .int (iI (k + 1))), (0, .ref a), (1, .int (iI 0)), (2, .long (iL rf))]) S.1 S.2.1 (pc := 144) dX8_runUp_144 hl (k := 3) rfl (iI_add _ _) (by decide) rfl (fun ls hl => ?_)
            refine lv_goto S.1 S.2.1 (pc := 147) (tgt := 5) dX8_runUp_147 rfl ?_
            have e1 : dirn (σ 7) (σ 6) k d x = d := dirn_n (fun z => by omega)
            have b1 := stx_bd (md := σ 7) (sl := σ 6) (k := k) (t := t) (volt_bd σ (gn (σ 10))) hd hb
            have ex : x + (((inpg (σ 0) (σ 1) (σ 2) t (gn (σ 10))) + (offs (σ 3) (σ 4) t)) + rf) = stx (volt σ (gn (σ 10))) (σ 7) (σ 6) k d x t := by unfold stx volt; rw [e1]; omega
            have es : sb + 1 = (if dirn (σ 7) (σ 6) k d x < 0 then sb + 1 else sb) := by rw [e1, if_pos (by omega)]
            have ea : ad + 0 = (if 0 < dirn (σ 7) (σ 6) k d x then ad + 1 else ad) := by rw [e1, if_neg (by omega)]; omega
            rw [pU_s, ex, es, ea] at B
            have b2 := mx_bd (p := pk) (x := stx (volt σ (gn (σ 10))) (σ 7) (σ 6) k d x t) (m := 4194304 * (k + 1)) hpk.1 (by omega) (by have := b1.2.1; omega) (by have := b1.2.2; omega)
            exact ih (k + 1) (dirn (σ 7) (σ 6) k d x) (stx (volt σ (gn (σ 10))) (σ 7) (σ 6) k d x t) (mx pk (stx (volt σ (gn (σ 10))) (σ 7) (σ 6) k d x t)) (if dirn (σ 7) (σ 6) k d x < 0 then sb + 1 else sb) (if 0 < dirn (σ 7) (σ 6) k d x then ad + 1 else ad) (t + 1) rf (by omega) b1.1 (by rw [e1]; omega) (by have := b1.2; omega) b2 (by rw [e1]; split <;> omega) (by rw [e1]; split <;> omega) (by omega) res (by simp only [upL] at hres; exact hres) hx _ _ _ B (lv_sub hl [1, 2, 3, 0] rfl)
          · refine z_lconst S (pc := 100) (x := 1) dX8_runUp_100 rfl ?_
            refine lv_goto S.1 S.2.1 (pc := 101) (tgt := 105) dX8_runUp_101 rfl ?_
            refine z_ladd S (pc := 105) dX8_runUp_105 ?_
            refine z_last S (pc := 106) B 1 2 rfl rfl (k := 19) rfl (by decide) (by decide) dX8_runUp_106 (wn := [cMod a p1 p2 p3 p4 p5 p6 pm x mo rd wr sm, cAt E p1 (up (up (pU σ sb ad t pk) 18 (sb + 1)) 19 (ad + 1)) ρ]) (by rw [lmu _ _ (by decide)]; rfl) (fun H locs B => ?_)
            refine z_aload_n S (pc := 107) dX8_runUp_107 rfl (lv_at hl 0 rfl) ?_
            refine z_iload_n S (pc := 108) dX8_runUp_108 rfl (lv_at hl 1 rfl) ?_
            refine z_if_eq S (pc := 109) (tgt := 116) (by omega) dX8_runUp_109 rfl (fun c9 => ?_) (fun c9 => absurd c9 (by omega))
            refine z_aload_n S (pc := 116) dX8_runUp_116 rfl (lv_at hl 0 rfl) ?_
            refine z_aload_n S (pc := 117) dX8_runUp_117 rfl (lv_at hl 0 rfl) ?_
            refine z_get S (pc := 118) B iX8_runUp_X8 0 rfl rfl 0 (by decide) rfl rfl (by decide +kernel) dX8_runUp_118 ?_
            refine z_bipush S (pc := 121) dX8_runUp_121 rfl ?_
            refine z_lald S (pc := 123) B 1 2 rfl rfl (k := 11) rfl (by decide) (by decide) (v := .long (iL t)) rfl dX8_runUp_123 ?_
            refine z_callV S (pc := 124) B (wr := []) (wn := fun _ => [cMod a p1 p2 p3 p4 p5 p6 pm x mo rd wr sm, cAt E p1 (up (up (pU σ sb ad t pk) 18 (sb + 1)) 19 (ad + 1)) ρ]) (st1 := fun _ => [.long (iL (inpg (σ 0) (σ 1) (σ 2) t (gn (σ 10)))), .ref a]) (As := [.long (iL t)]) (mX8_input l E a p1 p2 p3 p4 p5 p6 (up (up (pU σ sb ad t pk) 18 (sb + 1)) 19 (ad + 1)) ρ pm x mo rd wr sm t (show -4000000 ≤ σ 0 ∧ σ 0 ≤ 4000000 from by omega) (show 0 ≤ σ 1 ∧ σ 1 ≤ 1000000 from by omega) (show inPe (σ 2) from by omega) (show 0 ≤ σ 10 ∧ σ 10 ≤ 3 from by omega) (show 0 ≤ t ∧ t ≤ 2147483647 from by omega)) gX8_runUp_X8_input 1 rfl (by decide +kernel) ⟨Nat.le_of_ble_eq_true rfl, Nat.le_of_ble_eq_true rfl, Nat.le_of_ble_eq_true rfl, Nat.le_of_ble_eq_true rfl⟩ 0 rfl (q := (RX8, TX8, 12)) rfl rfl [0, 1] [] [0, 1] rfl rfl ⟨rfl, rfl, rfl, by decide⟩ (fun _ => rfl) rfl (fun _ => rfl) hl.1 (Nat.le_of_ble_eq_true rfl) rfl dX8_runUp_124 (fun _ _ H locs B => ?_)
            refine z_aload_n S (pc := 127) dX8_runUp_127 rfl (lv_at hl 0 rfl) ?_
            refine z_aload_n S (pc := 128) dX8_runUp_128 rfl (lv_at hl 0 rfl) ?_
            refine z_get S (pc := 129) B iX8_runUp_X8 0 rfl rfl 0 (by decide) rfl rfl (by decide +kernel) dX8_runUp_129 ?_
            refine z_bipush S (pc := 132) dX8_runUp_132 rfl ?_
            refine z_lald S (pc := 134) B 1 2 rfl rfl (k := 11) rfl (by decide) (by decide) (v := .long (iL t)) rfl dX8_runUp_134 ?_
            refine z_callV S (pc := 135) B (wr := []) (wn := fun _ => [cMod a p1 p2 p3 p4 p5 p6 pm x mo rd wr sm, cAt E p1 (up (up (pU σ sb ad t pk) 18 (sb + 1)) 19 (ad + 1)) ρ]) (st1 := fun _ => [.long (iL (offs (σ 3) (σ 4) t)), .long (iL (inpg (σ 0) (σ 1) (σ 2) t (gn (σ 10)))), .ref a]) (As := [.long (iL t)]) (mX8_offset l E a p1 p2 p3 p4 p5 p6 (up (up (pU σ sb ad t pk) 18 (sb + 1)) 19 (ad + 1)) ρ pm x mo rd wr sm t (show -100000 ≤ σ 3 ∧ σ 3 ≤ 100000 from by omega) (show -1000 ≤ σ 4 ∧ σ 4 ≤ 1000 from by omega) (show 0 ≤ t ∧ t ≤ 2147483647 from by omega)) gX8_runUp_X8_offset 1 rfl (by decide +kernel) ⟨Nat.le_of_ble_eq_true rfl, Nat.le_of_ble_eq_true rfl, Nat.le_of_ble_eq_true rfl, Nat.le_of_ble_eq_true rfl⟩ 0 rfl (q := (RX8, TX8, 12)) rfl rfl [0, 1] [] [0, 1] rfl rfl ⟨rfl, rfl, rfl, by decide⟩ (fun _ => rfl) rfl (fun _ => rfl) hl.1 (Nat.le_of_ble_eq_true rfl) rfl dX8_runUp_135 (fun _ _ H locs B => ?_)
            have hv1 := inpg_bd (σ 0) (σ 1) (σ 2) t (gn (σ 10))
            have hv2 := offs_bd (σ 3) (σ 4) t
            refine z_ladd S (pc := 138) dX8_runUp_138 ?_
            refine z_lload_n S (pc := 139) dX8_runUp_139 rfl (lv_at hl 2 rfl) ?_
            refine z_ladd S (pc := 140) dX8_runUp_140 ?_
            refine z_callV S (pc := 141) B (wr := []) (wn := fun _ => [cMod a p1 p2 p3 p4 p5 p6 pm (x + (((inpg (σ 0) (σ 1) (σ 2) t (gn (σ 10))) + (offs (σ 3) (σ 4) t)) + rf)) mo rd wr sm, cAt E p1 (up (up (up (up (pU σ sb ad t pk) 18 (sb + 1)) 19 (ad + 1)) 11 (t + 1)) 20 (mx pk (x + (((inpg (σ 0) (σ 1) (σ 2) t (gn (σ 10))) + (offs (σ 3) (σ 4) t)) + rf)))) ρ]) (st1 := fun _ => []) (As := [.long (iL (((inpg (σ 0) (σ 1) (σ 2) t (gn (σ 10))) + (offs (σ 3) (σ 4) t)) + rf))]) (mX8_tick l E a p1 p2 p3 p4 p5 p6 (up (up (pU σ sb ad t pk) 18 (sb + 1)) 19 (ad + 1)) ρ pm x mo rd wr sm (((inpg (σ 0) (σ 1) (σ 2) t (gn (σ 10))) + (offs (σ 3) (σ 4) t)) + rf) (show -1000000000000 ≤ x ∧ x ≤ 1000000000000 from by omega) (show -1000000000000 ≤ (((inpg (σ 0) (σ 1) (σ 2) t (gn (σ 10))) + (offs (σ 3) (σ 4) t)) + rf) ∧ (((inpg (σ 0) (σ 1) (σ 2) t (gn (σ 10))) + (offs (σ 3) (σ 4) t)) + rf) ≤ 1000000000000 from by omega) (show 0 ≤ pk ∧ pk ≤ 2000000000000 from by omega)) gX8_runUp_X8_tick 1 rfl (by decide +kernel) ⟨Nat.le_of_ble_eq_true rfl, Nat.le_of_ble_eq_true rfl, Nat.le_of_ble_eq_true rfl, Nat.le_of_ble_eq_true rfl⟩ 0 rfl (q := (RX8, TX8, 12)) rfl rfl [0, 1] [] [0, 1] rfl rfl ⟨rfl, rfl, rfl, by decide⟩ (fun _ => rfl) rfl (fun _ => rfl) hl.1 (Nat.le_of_ble_eq_true rfl) rfl dX8_runUp_141 (fun _ _ H locs B => ?_)
            refine lv_iinc (v := iI (k + 1)) (lv' := [(4, .int (iI (k + 1))), (0, .ref a), (1, .int (iI 0)), (2, .long (iL rf))]) S.1 S.2.1 (pc := 144) dX8_runUp_144 hl (k := 3) rfl (iI_add _ _) (by decide) rfl (fun ls hl => ?_)
            refine lv_goto S.1 S.2.1 (pc := 147) (tgt := 5) dX8_runUp_147 rfl ?_
            exact absurd c3 (by omega)
      · refine z_iload S (pc := 30) dX8_runUp_30 (lv_at hl 3 rfl) ?_
        refine z_i2l S (pc := 32) (by omega) dX8_runUp_32 ?_
        refine z_aload_n S (pc := 33) dX8_runUp_33 rfl (lv_at hl 0 rfl) ?_
        refine z_get S (pc := 34) B iX8_runUp_X8 0 rfl rfl 0 (by decide) rfl rfl (by decide +kernel) dX8_runUp_34 ?_
        refine z_bipush S (pc := 37) dX8_runUp_37 rfl ?_
        refine z_lald S (pc := 39) B 1 2 rfl rfl (k := 6) rfl (by decide) (by decide) (v := .long (iL (σ 6))) rfl dX8_runUp_39 ?_
        refine z_lremn S (pc := 40) (by omega) (by omega) dX8_runUp_40 ?_
        refine z_lconst S (pc := 41) (x := 0) dX8_runUp_41 rfl ?_
        refine z_lc_ne S (pc := 42) (tgt := 65) (by omega) (by omega) dX8_runUp_42 dX8_runUp_43 rfl (fun c10 => ?_) (fun c10 => ?_)
        · refine z_aload_n S (pc := 65) dX8_runUp_65 rfl (lv_at hl 0 rfl) ?_
          refine z_get S (pc := 66) B iX8_runUp_X8 0 rfl rfl 0 (by decide) rfl rfl (by decide +kernel) dX8_runUp_66 ?_
          refine z_bipush S (pc := 69) dX8_runUp_69 rfl ?_
          refine lv_dup2_11 S.1 S.2.1 (pc := 71) dX8_runUp_71 rfl rfl ?_
          refine z_lald S (pc := 72) B 1 2 rfl rfl (k := 18) rfl (by decide) (by decide) (v := .long (iL sb)) rfl dX8_runUp_72 ?_
          refine z_lload_n S (pc := 73) dX8_runUp_73 rfl (lv_at hl 2 rfl) ?_
          refine z_lconst S (pc := 74) (x := 0) dX8_runUp_74 rfl ?_
          refine z_lc_ge S (pc := 75) (tgt := 83) (by omega) (by omega) dX8_runUp_75 dX8_runUp_76 rfl (fun c11 => ?_) (fun c11 => ?_)
          · refine z_lconst S (pc := 83) (x := 0) dX8_runUp_83 rfl ?_
            refine z_ladd S (pc := 84) dX8_runUp_84 ?_
            refine z_last S (pc := 85) B 1 2 rfl rfl (k := 18) rfl (by decide) (by decide) dX8_runUp_85 (wn := [cMod a p1 p2 p3 p4 p5 p6 pm x mo rd wr sm, cAt E p1 (up (pU σ sb ad t pk) 18 (sb + 0)) ρ]) (by rw [lmu _ _ (by decide)]; rfl) (fun H locs B => ?_)
            refine z_aload_n S (pc := 86) dX8_runUp_86 rfl (lv_at hl 0 rfl) ?_
            refine z_get S (pc := 87) B iX8_runUp_X8 0 rfl rfl 0 (by decide) rfl rfl (by decide +kernel) dX8_runUp_87 ?_
            refine z_bipush S (pc := 90) dX8_runUp_90 rfl ?_
            refine lv_dup2_11 S.1 S.2.1 (pc := 92) dX8_runUp_92 rfl rfl ?_
            refine z_lald S (pc := 93) B 1 2 rfl rfl (k := 19) rfl (by decide) (by decide) (v := .long (iL ad)) rfl dX8_runUp_93 ?_
            refine z_lload_n S (pc := 94) dX8_runUp_94 rfl (lv_at hl 2 rfl) ?_
            refine z_lconst S (pc := 95) (x := 0) dX8_runUp_95 rfl ?_
            refine z_lc_le S (pc := 96) (tgt := 104) (by omega) (by omega) dX8_runUp_96 dX8_runUp_97 rfl (fun c12 => ?_) (fun c12 => ?_)
            · refine z_lconst S (pc := 104) (x := 0) dX8_runUp_104 rfl ?_
              refine z_ladd S (pc := 105) dX8_runUp_105 ?_
              refine z_last S (pc := 106) B 1 2 rfl rfl (k := 19) rfl (by decide) (by decide) dX8_runUp_106 (wn := [cMod a p1 p2 p3 p4 p5 p6 pm x mo rd wr sm, cAt E p1 (up (up (pU σ sb ad t pk) 18 (sb + 0)) 19 (ad + 0)) ρ]) (by rw [lmu _ _ (by decide)]; rfl) (fun H locs B => ?_)
              refine z_aload_n S (pc := 107) dX8_runUp_107 rfl (lv_at hl 0 rfl) ?_
              refine z_iload_n S (pc := 108) dX8_runUp_108 rfl (lv_at hl 1 rfl) ?_
              refine z_if_eq S (pc := 109) (tgt := 116) (by omega) dX8_runUp_109 rfl (fun c13 => ?_) (fun c13 => absurd c13 (by omega))
              refine z_aload_n S (pc := 116) dX8_runUp_116 rfl (lv_at hl 0 rfl) ?_
              refine z_aload_n S (pc := 117) dX8_runUp_117 rfl (lv_at hl 0 rfl) ?_
              refine z_get S (pc := 118) B iX8_runUp_X8 0 rfl rfl 0 (by decide) rfl rfl (by decide +kernel) dX8_runUp_118 ?_
              refine z_bipush S (pc := 121) dX8_runUp_121 rfl ?_
              refine z_lald S (pc := 123) B 1 2 rfl rfl (k := 11) rfl (by decide) (by decide) (v := .long (iL t)) rfl dX8_runUp_123 ?_
              refine z_callV S (pc := 124) B (wr := []) (wn := fun _ => [cMod a p1 p2 p3 p4 p5 p6 pm x mo rd wr sm, cAt E p1 (up (up (pU σ sb ad t pk) 18 (sb + 0)) 19 (ad + 0)) ρ]) (st1 := fun _ => [.long (iL (inpg (σ 0) (σ 1) (σ 2) t (gn (σ 10)))), .ref a]) (As := [.long (iL t)]) (mX8_input l E a p1 p2 p3 p4 p5 p6 (up (up (pU σ sb ad t pk) 18 (sb + 0)) 19 (ad + 0)) ρ pm x mo rd wr sm t (show -4000000 ≤ σ 0 ∧ σ 0 ≤ 4000000 from by omega) (show 0 ≤ σ 1 ∧ σ 1 ≤ 1000000 from by omega) (show inPe (σ 2) from by omega) (show 0 ≤ σ 10 ∧ σ 10 ≤ 3 from by omega) (show 0 ≤ t ∧ t ≤ 2147483647 from by omega)) gX8_runUp_X8_input 1 rfl (by decide +kernel) ⟨Nat.le_of_ble_eq_true rfl, Nat.le_of_ble_eq_true rfl, Nat.le_of_ble_eq_true rfl, Nat.le_of_ble_eq_true rfl⟩ 0 rfl (q := (RX8, TX8, 12)) rfl rfl [0, 1] [] [0, 1] rfl rfl ⟨rfl, rfl, rfl, by decide⟩ (fun _ => rfl) rfl (fun _ => rfl) hl.1 (Nat.le_of_ble_eq_true rfl) rfl dX8_runUp_124 (fun _ _ H locs B => ?_)
              refine z_aload_n S (pc := 127) dX8_runUp_127 rfl (lv_at hl 0 rfl) ?_
              refine z_aload_n S (pc := 128) dX8_runUp_128 rfl (lv_at hl 0 rfl) ?_
              refine z_get S (pc := 129) B iX8_runUp_X8 0 rfl rfl 0 (by decide) rfl rfl (by decide +kernel) dX8_runUp_129 ?_
              refine z_bipush S (pc := 132) dX8_runUp_132 rfl ?_
              refine z_lald S (pc := 134) B 1 2 rfl rfl (k := 11) rfl (by decide) (by decide) (v := .long (iL t)) rfl dX8_runUp_134 ?_
              refine z_callV S (pc := 135) B (wr := []) (wn := fun _ => [cMod a p1 p2 p3 p4 p5 p6 pm x mo rd wr sm, cAt E p1 (up (up (pU σ sb ad t pk) 18 (sb + 0)) 19 (ad + 0)) ρ]) (st1 := fun _ => [.long (iL (offs (σ 3) (σ 4) t)), .long (iL (inpg (σ 0) (σ 1) (σ 2) t (gn (σ 10)))), .ref a]) (As := [.long (iL t)]) (mX8_offset l E a p1 p2 p3 p4 p5 p6 (up (up (pU σ sb ad t pk) 18 (sb + 0)) 19 (ad + 0)) ρ pm x mo rd wr sm t (show -100000 ≤ σ 3 ∧ σ 3 ≤ 100000 from by omega) (show -1000 ≤ σ 4 ∧ σ 4 ≤ 1000 from by omega) (show 0 ≤ t ∧ t ≤ 2147483647 from by omega)) gX8_runUp_X8_offset 1 rfl (by decide +kernel) ⟨Nat.le_of_ble_eq_true rfl, Nat.le_of_ble_eq_true rfl, Nat.le_of_ble_eq_true rfl, Nat.le_of_ble_eq_true rfl⟩ 0 rfl (q := (RX8, TX8, 12)) rfl rfl [0, 1] [] [0, 1] rfl rfl ⟨rfl, rfl, rfl, by decide⟩ (fun _ => rfl) rfl (fun _ => rfl) hl.1 (Nat.le_of_ble_eq_true rfl) rfl dX8_runUp_135 (fun _ _ H locs B => ?_)
              have hv1 := inpg_bd (σ 0) (σ 1) (σ 2) t (gn (σ 10))
              have hv2 := offs_bd (σ 3) (σ 4) t
              refine z_ladd S (pc := 138) dX8_runUp_138 ?_
              refine z_lload_n S (pc := 139) dX8_runUp_139 rfl (lv_at hl 2 rfl) ?_
              refine z_ladd S (pc := 140) dX8_runUp_140 ?_
              refine z_callV S (pc := 141) B (wr := []) (wn := fun _ => [cMod a p1 p2 p3 p4 p5 p6 pm (x + (((inpg (σ 0) (σ 1) (σ 2) t (gn (σ 10))) + (offs (σ 3) (σ 4) t)) + rf)) mo rd wr sm, cAt E p1 (up (up (up (up (pU σ sb ad t pk) 18 (sb + 0)) 19 (ad + 0)) 11 (t + 1)) 20 (mx pk (x + (((inpg (σ 0) (σ 1) (σ 2) t (gn (σ 10))) + (offs (σ 3) (σ 4) t)) + rf)))) ρ]) (st1 := fun _ => []) (As := [.long (iL (((inpg (σ 0) (σ 1) (σ 2) t (gn (σ 10))) + (offs (σ 3) (σ 4) t)) + rf))]) (mX8_tick l E a p1 p2 p3 p4 p5 p6 (up (up (pU σ sb ad t pk) 18 (sb + 0)) 19 (ad + 0)) ρ pm x mo rd wr sm (((inpg (σ 0) (σ 1) (σ 2) t (gn (σ 10))) + (offs (σ 3) (σ 4) t)) + rf) (show -1000000000000 ≤ x ∧ x ≤ 1000000000000 from by omega) (show -1000000000000 ≤ (((inpg (σ 0) (σ 1) (σ 2) t (gn (σ 10))) + (offs (σ 3) (σ 4) t)) + rf) ∧ (((inpg (σ 0) (σ 1) (σ 2) t (gn (σ 10))) + (offs (σ 3) (σ 4) t)) + rf) ≤ 1000000000000 from by omega) (show 0 ≤ pk ∧ pk ≤ 2000000000000 from by omega)) gX8_runUp_X8_tick 1 rfl (by decide +kernel) ⟨Nat.le_of_ble_eq_true rfl, Nat.le_of_ble_eq_true rfl, Nat.le_of_ble_eq_true rfl, Nat.le_of_ble_eq_true rfl⟩ 0 rfl (q := (RX8, TX8, 12)) rfl rfl [0, 1] [] [0, 1] rfl rfl ⟨rfl, rfl, rfl, by decide⟩ (fun _ => rfl) rfl (fun _ => rfl) hl.1 (Nat.le_of_ble_eq_true rfl) rfl dX8_runUp_141 (fun _ _ H locs B => ?_)
              refine lv_iinc (v := iI (k + 1)) (lv' := [(4, .int (iI (k + 1))), (0, .ref a), (1, .int (iI 0)), (2, .long (iL rf))]) S.1 S.2.1 (pc := 144) dX8_runUp_144 hl (k := 3) rfl (iI_add _ _) (by decide) rfl (fun ls hl => ?_)
              refine lv_goto S.1 S.2.1 (pc := 147) (tgt := 5) dX8_runUp_147 rfl ?_
              have e1 : dirn (σ 7) (σ 6) k d x = d := dirn_n (fun z => by omega)
              have b1 := stx_bd (md := σ 7) (sl := σ 6) (k := k) (t := t) (volt_bd σ (gn (σ 10))) hd hb
              have ex : x + (((inpg (σ 0) (σ 1) (σ 2) t (gn (σ 10))) + (offs (σ 3) (σ 4) t)) + rf) = stx (volt σ (gn (σ 10))) (σ 7) (σ 6) k d x t := by unfold stx volt; rw [e1]; omega
              have es : sb + 0 = (if dirn (σ 7) (σ 6) k d x < 0 then sb + 1 else sb) := by rw [e1, if_neg (by omega)]; omega
              have ea : ad + 0 = (if 0 < dirn (σ 7) (σ 6) k d x then ad + 1 else ad) := by rw [e1, if_neg (by omega)]; omega
              rw [pU_s, ex, es, ea] at B
              have b2 := mx_bd (p := pk) (x := stx (volt σ (gn (σ 10))) (σ 7) (σ 6) k d x t) (m := 4194304 * (k + 1)) hpk.1 (by omega) (by have := b1.2.1; omega) (by have := b1.2.2; omega)
              exact ih (k + 1) (dirn (σ 7) (σ 6) k d x) (stx (volt σ (gn (σ 10))) (σ 7) (σ 6) k d x t) (mx pk (stx (volt σ (gn (σ 10))) (σ 7) (σ 6) k d x t)) (if dirn (σ 7) (σ 6) k d x < 0 then sb + 1 else sb) (if 0 < dirn (σ 7) (σ 6) k d x then ad + 1 else ad) (t + 1) rf (by omega) b1.1 (by rw [e1]; omega) (by have := b1.2; omega) b2 (by rw [e1]; split <;> omega) (by rw [e1]; split <;> omega) (by omega) res (by simp only [upL] at hres; exact hres) hx _ _ _ B (lv_sub hl [1, 2, 3, 0] rfl)
            · refine z_lconst S (pc := 100) (x := 1) dX8_runUp_100 rfl ?_
              refine lv_goto S.1 S.2.1 (pc := 101) (tgt := 105) dX8_runUp_101 rfl ?_
              refine z_ladd S (pc := 105) dX8_runUp_105 ?_
              refine z_last S (pc := 106) B 1 2 rfl rfl (k := 19) rfl (by decide) (by decide) dX8_runUp_106 (wn := [cMod a p1 p2 p3 p4 p5 p6 pm x mo rd wr sm, cAt E p1 (up (up (pU σ sb ad t pk) 18 (sb + 0)) 19 (ad + 1)) ρ]) (by rw [lmu _ _ (by decide)]; rfl) (fun H locs B => ?_)
              refine z_aload_n S (pc := 107) dX8_runUp_107 rfl (lv_at hl 0 rfl) ?_
              refine z_iload_n S (pc := 108) dX8_runUp_108 rfl (lv_at hl 1 rfl) ?_
              refine z_if_eq S (pc := 109) (tgt := 116) (by omega) dX8_runUp_109 rfl (fun c14 => ?_) (fun c14 => absurd c14 (by omega))
              refine z_aload_n S (pc := 116) dX8_runUp_116 rfl (lv_at hl 0 rfl) ?_
              refine z_aload_n S (pc := 117) dX8_runUp_117 rfl (lv_at hl 0 rfl) ?_
              refine z_get S (pc := 118) B iX8_runUp_X8 0 rfl rfl 0 (by decide) rfl rfl (by decide +kernel) dX8_runUp_118 ?_
              refine z_bipush S (pc := 121) dX8_runUp_121 rfl ?_
              refine z_lald S (pc := 123) B 1 2 rfl rfl (k := 11) rfl (by decide) (by decide) (v := .long (iL t)) rfl dX8_runUp_123 ?_
              refine z_callV S (pc := 124) B (wr := []) (wn := fun _ => [cMod a p1 p2 p3 p4 p5 p6 pm x mo rd wr sm, cAt E p1 (up (up (pU σ sb ad t pk) 18 (sb + 0)) 19 (ad + 1)) ρ]) (st1 := fun _ => [.long (iL (inpg (σ 0) (σ 1) (σ 2) t (gn (σ 10)))), .ref a]) (As := [.long (iL t)]) (mX8_input l E a p1 p2 p3 p4 p5 p6 (up (up (pU σ sb ad t pk) 18 (sb + 0)) 19 (ad + 1)) ρ pm x mo rd wr sm t (show -4000000 ≤ σ 0 ∧ σ 0 ≤ 4000000 from by omega) (show 0 ≤ σ 1 ∧ σ 1 ≤ 1000000 from by omega) (show inPe (σ 2) from by omega) (show 0 ≤ σ 10 ∧ σ 10 ≤ 3 from by omega) (show 0 ≤ t ∧ t ≤ 2147483647 from by omega)) gX8_runUp_X8_input 1 rfl (by decide +kernel) ⟨Nat.le_of_ble_eq_true rfl, Nat.le_of_ble_eq_true rfl, Nat.le_of_ble_eq_true rfl, Nat.le_of_ble_eq_true rfl⟩ 0 rfl (q := (RX8, TX8, 12)) rfl rfl [0, 1] [] [0, 1] rfl rfl ⟨rfl, rfl, rfl, by decide⟩ (fun _ => rfl) rfl (fun _ => rfl) hl.1 (Nat.le_of_ble_eq_true rfl) rfl dX8_runUp_124 (fun _ _ H locs B => ?_)
              refine z_aload_n S (pc := 127) dX8_runUp_127 rfl (lv_at hl 0 rfl) ?_
              refine z_aload_n S (pc := 128) dX8_runUp_128 rfl (lv_at hl 0 rfl) ?_
              refine z_get S (pc := 129) B iX8_runUp_X8 0 rfl rfl 0 (by decide) rfl rfl (by decide +kernel) dX8_runUp_129 ?_
              refine z_bipush S (pc := 132) dX8_runUp_132 rfl ?_
              refine z_lald S (pc := 134) B 1 2 rfl rfl (k := 11) rfl (by decide) (by decide) (v := .long (iL t)) rfl dX8_runUp_134 ?_
              refine z_callV S (pc := 135) B (wr := []) (wn := fun _ => [cMod a p1 p2 p3 p4 p5 p6 pm x mo rd wr sm, cAt E p1 (up (up (pU σ sb ad t pk) 18 (sb + 0)) 19 (ad + 1)) ρ]) (st1 := fun _ => [.long (iL (offs (σ 3) (σ 4) t)), .long (iL (inpg (σ 0) (σ 1) (σ 2) t (gn (σ 10)))), .ref a]) (As := [.long (iL t)]) (mX8_offset l E a p1 p2 p3 p4 p5 p6 (up (up (pU σ sb ad t pk) 18 (sb + 0)) 19 (ad + 1)) ρ pm x mo rd wr sm t (show -100000 ≤ σ 3 ∧ σ 3 ≤ 100000 from by omega) (show -1000 ≤ σ 4 ∧ σ 4 ≤ 1000 from by omega) (show 0 ≤ t ∧ t ≤ 2147483647 from by omega)) gX8_runUp_X8_offset 1 rfl (by decide +kernel) ⟨Nat.le_of_ble_eq_true rfl, Nat.le_of_ble_eq_true rfl, Nat.le_of_ble_eq_true rfl, Nat.le_of_ble_eq_true rfl⟩ 0 rfl (q := (RX8, TX8, 12)) rfl rfl [0, 1] [] [0, 1] rfl rfl ⟨rfl, rfl, rfl, by decide⟩ (fun _ => rfl) rfl (fun _ => rfl) hl.1 (Nat.le_of_ble_eq_true rfl) rfl dX8_runUp_135 (fun _ _ H locs B => ?_)
              have hv1 := inpg_bd (σ 0) (σ 1) (σ 2) t (gn (σ 10))
              have hv2 := offs_bd (σ 3) (σ 4) t
              refine z_ladd S (pc := 138) dX8_runUp_138 ?_
              refine z_lload_n S (pc := 139) dX8_runUp_139 rfl (lv_at hl 2 rfl) ?_
              refine z_ladd S (pc := 140) dX8_runUp_140 ?_
              refine z_callV S (pc := 141) B (wr := []) (wn := fun _ => [cMod a p1 p2 p3 p4 p5 p6 pm (x + (((inpg (σ 0) (σ 1) (σ 2) t (gn (σ 10))) + (offs (σ 3) (σ 4) t)) + rf)) mo rd wr sm, cAt E p1 (up (up (up (up (pU σ sb ad t pk) 18 (sb + 0)) 19 (ad + 1)) 11 (t + 1)) 20 (mx pk (x + (((inpg (σ 0) (σ 1) (σ 2) t (gn (σ 10))) + (offs (σ 3) (σ 4) t)) + rf)))) ρ]) (st1 := fun _ => []) (As := [.long (iL (((inpg (σ 0) (σ 1) (σ 2) t (gn (σ 10))) + (offs (σ 3) (σ 4) t)) + rf))]) (mX8_tick l E a p1 p2 p3 p4 p5 p6 (up (up (pU σ sb ad t pk) 18 (sb + 0)) 19 (ad + 1)) ρ pm x mo rd wr sm (((inpg (σ 0) (σ 1) (σ 2) t (gn (σ 10))) + (offs (σ 3) (σ 4) t)) + rf) (show -1000000000000 ≤ x ∧ x ≤ 1000000000000 from by omega) (show -1000000000000 ≤ (((inpg (σ 0) (σ 1) (σ 2) t (gn (σ 10))) + (offs (σ 3) (σ 4) t)) + rf) ∧ (((inpg (σ 0) (σ 1) (σ 2) t (gn (σ 10))) + (offs (σ 3) (σ 4) t)) + rf) ≤ 1000000000000 from by omega) (show 0 ≤ pk ∧ pk ≤ 2000000000000 from by omega)) gX8_runUp_X8_tick 1 rfl (by decide +kernel) ⟨Nat.le_of_ble_eq_true rfl, Nat.le_of_ble_eq_true rfl, Nat.le_of_ble_eq_true rfl, Nat.le_of_ble_eq_true rfl⟩ 0 rfl (q := (RX8, TX8, 12)) rfl rfl [0, 1] [] [0, 1] rfl rfl ⟨rfl, rfl, rfl, by decide⟩ (fun _ => rfl) rfl (fun _ => rfl) hl.1 (Nat.le_of_ble_eq_true rfl) rfl dX8_runUp_141 (fun _ _ H locs B => ?_)
              refine lv_iinc (v := iI (k + 1)) (lv' := [(4, .int (iI (k + 1))), (0, .ref a), (1, .int (iI 0)), (2, .long (iL rf))]) S.1 S.2.1 (pc := 144) dX8_runUp_144 hl (k := 3) rfl (iI_add _ _) (by decide) rfl (fun ls hl => ?_)
              refine lv_goto S.1 S.2.1 (pc := 147) (tgt := 5) dX8_runUp_147 rfl ?_
              have e1 : dirn (σ 7) (σ 6) k d x = d := dirn_n (fun z => by omega)
              have b1 := stx_bd (md := σ 7) (sl := σ 6) (k := k) (t := t) (volt_bd σ (gn (σ 10))) hd hb
              have ex : x + (((inpg (σ 0) (σ 1) (σ 2) t (gn (σ 10))) + (offs (σ 3) (σ 4) t)) + rf) = stx (volt σ (gn (σ 10))) (σ 7) (σ 6) k d x t := by unfold stx volt; rw [e1]; omega
              have es : sb + 0 = (if dirn (σ 7) (σ 6) k d x < 0 then sb + 1 else sb) := by rw [e1, if_neg (by omega)]; omega
              have ea : ad + 1 = (if 0 < dirn (σ 7) (σ 6) k d x then ad + 1 else ad) := by rw [e1, if_pos (by omega)]
              rw [pU_s, ex, es, ea] at B
              have b2 := mx_bd (p := pk) (x := stx (volt σ (gn (σ 10))) (σ 7) (σ 6) k d x t) (m := 4194304 * (k + 1)) hpk.1 (by omega) (by have := b1.2.1; omega) (by have := b1.2.2; omega)
              exact ih (k + 1) (dirn (σ 7) (σ 6) k d x) (stx (volt σ (gn (σ 10))) (σ 7) (σ 6) k d x t) (mx pk (stx (volt σ (gn (σ 10))) (σ 7) (σ 6) k d x t)) (if dirn (σ 7) (σ 6) k d x < 0 then sb + 1 else sb) (if 0 < dirn (σ 7) (σ 6) k d x then ad + 1 else ad) (t + 1) rf (by omega) b1.1 (by rw [e1]; omega) (by have := b1.2; omega) b2 (by rw [e1]; split <;> omega) (by rw [e1]; split <;> omega) (by omega) res (by simp only [upL] at hres; exact hres) hx _ _ _ B (lv_sub hl [1, 2, 3, 0] rfl)
          · refine z_lconst S (pc := 79) (x := 1) dX8_runUp_79 rfl ?_
            refine lv_goto S.1 S.2.1 (pc := 80) (tgt := 84) dX8_runUp_80 rfl ?_
            refine z_ladd S (pc := 84) dX8_runUp_84 ?_
            refine z_last S (pc := 85) B 1 2 rfl rfl (k := 18) rfl (by decide) (by decide) dX8_runUp_85 (wn := [cMod a p1 p2 p3 p4 p5 p6 pm x mo rd wr sm, cAt E p1 (up (pU σ sb ad t pk) 18 (sb + 1)) ρ]) (by rw [lmu _ _ (by decide)]; rfl) (fun H locs B => ?_)
            refine z_aload_n S (pc := 86) dX8_runUp_86 rfl (lv_at hl 0 rfl) ?_
            refine z_get S (pc := 87) B iX8_runUp_X8 0 rfl rfl 0 (by decide) rfl rfl (by decide +kernel) dX8_runUp_87 ?_
            refine z_bipush S (pc := 90) dX8_runUp_90 rfl ?_
            refine lv_dup2_11 S.1 S.2.1 (pc := 92) dX8_runUp_92 rfl rfl ?_
            refine z_lald S (pc := 93) B 1 2 rfl rfl (k := 19) rfl (by decide) (by decide) (v := .long (iL ad)) rfl dX8_runUp_93 ?_
            refine z_lload_n S (pc := 94) dX8_runUp_94 rfl (lv_at hl 2 rfl) ?_
            refine z_lconst S (pc := 95) (x := 0) dX8_runUp_95 rfl ?_
            refine z_lc_le S (pc := 96) (tgt := 104) (by omega) (by omega) dX8_runUp_96 dX8_runUp_97 rfl (fun c15 => ?_) (fun c15 => ?_)
            · refine z_lconst S (pc := 104) (x := 0) dX8_runUp_104 rfl ?_
              refine z_ladd S (pc := 105) dX8_runUp_105 ?_
              refine z_last S (pc := 106) B 1 2 rfl rfl (k := 19) rfl (by decide) (by decide) dX8_runUp_106 (wn := [cMod a p1 p2 p3 p4 p5 p6 pm x mo rd wr sm, cAt E p1 (up (up (pU σ sb ad t pk) 18 (sb + 1)) 19 (ad + 0)) ρ]) (by rw [lmu _ _ (by decide)]; rfl) (fun H locs B => ?_)
              refine z_aload_n S (pc := 107) dX8_runUp_107 rfl (lv_at hl 0 rfl) ?_
              refine z_iload_n S (pc := 108) dX8_runUp_108 rfl (lv_at hl 1 rfl) ?_
              refine z_if_eq S (pc := 109) (tgt := 116) (by omega) dX8_runUp_109 rfl (fun c16 => ?_) (fun c16 => absurd c16 (by omega))
              refine z_aload_n S (pc := 116) dX8_runUp_116 rfl (lv_at hl 0 rfl) ?_
              refine z_aload_n S (pc := 117) dX8_runUp_117 rfl (lv_at hl 0 rfl) ?_
              refine z_get S (pc := 118) B iX8_runUp_X8 0 rfl rfl 0 (by decide) rfl rfl (by decide +kernel) dX8_runUp_118 ?_
              refine z_bipush S (pc := 121) dX8_runUp_121 rfl ?_
              refine z_lald S (pc := 123) B 1 2 rfl rfl (k := 11) rfl (by decide) (by decide) (v := .long (iL t)) rfl dX8_runUp_123 ?_
              refine z_callV S (pc := 124) B (wr := []) (wn := fun _ => [cMod a p1 p2 p3 p4 p5 p6 pm x mo rd wr sm, cAt E p1 (up (up (pU σ sb ad t pk) 18 (sb + 1)) 19 (ad + 0)) ρ]) (st1 := fun _ => [.long (iL (inpg (σ 0) (σ 1) (σ 2) t (gn (σ 10)))), .ref a]) (As := [.long (iL t)]) (mX8_input l E a p1 p2 p3 p4 p5 p6 (up (up (pU σ sb ad t pk) 18 (sb + 1)) 19 (ad + 0)) ρ pm x mo rd wr sm t (show -4000000 ≤ σ 0 ∧ σ 0 ≤ 4000000 from by omega) (show 0 ≤ σ 1 ∧ σ 1 ≤ 1000000 from by omega) (show inPe (σ 2) from by omega) (show 0 ≤ σ 10 ∧ σ 10 ≤ 3 from by omega) (show 0 ≤ t ∧ t ≤ 2147483647 from by omega)) gX8_runUp_X8_input 1 rfl (by decide +kernel) ⟨Nat.le_of_ble_eq_true rfl, Nat.le_of_ble_eq_true rfl, Nat.le_of_ble_eq_true rfl, Nat.le_of_ble_eq_true rfl⟩ 0 rfl (q := (RX8, TX8, 12)) rfl rfl [0, 1] [] [0, 1] rfl rfl ⟨rfl, rfl, rfl, by decide⟩ (fun _ => rfl) rfl (fun _ => rfl) hl.1 (Nat.le_of_ble_eq_true rfl) rfl dX8_runUp_124 (fun _ _ H locs B => ?_)
              refine z_aload_n S (pc := 127) dX8_runUp_127 rfl (lv_at hl 0 rfl) ?_
              refine z_aload_n S (pc := 128) dX8_runUp_128 rfl (lv_at hl 0 rfl) ?_
              refine z_get S (pc := 129) B iX8_runUp_X8 0 rfl rfl 0 (by decide) rfl rfl (by decide +kernel) dX8_runUp_129 ?_
              refine z_bipush S (pc := 132) dX8_runUp_132 rfl ?_
              refine z_lald S (pc := 134) B 1 2 rfl rfl (k := 11) rfl (by decide) (by decide) (v := .long (iL t)) rfl dX8_runUp_134 ?_
              refine z_callV S (pc := 135) B (wr := []) (wn := fun _ => [cMod a p1 p2 p3 p4 p5 p6 pm x mo rd wr sm, cAt E p1 (up (up (pU σ sb ad t pk) 18 (sb + 1)) 19 (ad + 0)) ρ]) (st1 := fun _ => [.long (iL (offs (σ 3) (σ 4) t)), .long (iL (inpg (σ 0) (σ 1) (σ 2) t (gn (σ 10)))), .ref a]) (As := [.long (iL t)]) (mX8_offset l E a p1 p2 p3 p4 p5 p6 (up (up (pU σ sb ad t pk) 18 (sb + 1)) 19 (ad + 0)) ρ pm x mo rd wr sm t (show -100000 ≤ σ 3 ∧ σ 3 ≤ 100000 from by omega) (show -1000 ≤ σ 4 ∧ σ 4 ≤ 1000 from by omega) (show 0 ≤ t ∧ t ≤ 2147483647 from by omega)) gX8_runUp_X8_offset 1 rfl (by decide +kernel) ⟨Nat.le_of_ble_eq_true rfl, Nat.le_of_ble_eq_true rfl, Nat.le_of_ble_eq_true rfl, Nat.le_of_ble_eq_true rfl⟩ 0 rfl (q := (RX8, TX8, 12)) rfl rfl [0, 1] [] [0, 1] rfl rfl ⟨rfl, rfl, rfl, by decide⟩ (fun _ => rfl) rfl (fun _ => rfl) hl.1 (Nat.le_of_ble_eq_true rfl) rfl dX8_runUp_135 (fun _ _ H locs B => ?_)
              have hv1 := inpg_bd (σ 0) (σ 1) (σ 2) t (gn (σ 10))
              have hv2 := offs_bd (σ 3) (σ 4) t
              refine z_ladd S (pc := 138) dX8_runUp_138 ?_
              refine z_lload_n S (pc := 139) dX8_runUp_139 rfl (lv_at hl 2 rfl) ?_
              refine z_ladd S (pc := 140) dX8_runUp_140 ?_
              refine z_callV S (pc := 141) B (wr := []) (wn := fun _ => [cMod a p1 p2 p3 p4 p5 p6 pm (x + (((inpg (σ 0) (σ 1) (σ 2) t (gn (σ 10))) + (offs (σ 3) (σ 4) t)) + rf)) mo rd wr sm, cAt E p1 (up (up (up (up (pU σ sb ad t pk) 18 (sb + 1)) 19 (ad + 0)) 11 (t + 1)) 20 (mx pk (x + (((inpg (σ 0) (σ 1) (σ 2) t (gn (σ 10))) + (offs (σ 3) (σ 4) t)) + rf)))) ρ]) (st1 := fun _ => []) (As := [.long (iL (((inpg (σ 0) (σ 1) (σ 2) t (gn (σ 10))) + (offs (σ 3) (σ 4) t)) + rf))]) (mX8_tick l E a p1 p2 p3 p4 p5 p6 (up (up (pU σ sb ad t pk) 18 (sb + 1)) 19 (ad + 0)) ρ pm x mo rd wr sm (((inpg (σ 0) (σ 1) (σ 2) t (gn (σ 10))) + (offs (σ 3) (σ 4) t)) + rf) (show -1000000000000 ≤ x ∧ x ≤ 1000000000000 from by omega) (show -1000000000000 ≤ (((inpg (σ 0) (σ 1) (σ 2) t (gn (σ 10))) + (offs (σ 3) (σ 4) t)) + rf) ∧ (((inpg (σ 0) (σ 1) (σ 2) t (gn (σ 10))) + (offs (σ 3) (σ 4) t)) + rf) ≤ 1000000000000 from by omega) (show 0 ≤ pk ∧ pk ≤ 2000000000000 from by omega)) gX8_runUp_X8_tick 1 rfl (by decide +kernel) ⟨Nat.le_of_ble_eq_true rfl, Nat.le_of_ble_eq_true rfl, Nat.le_of_ble_eq_true rfl, Nat.le_of_ble_eq_true rfl⟩ 0 rfl (q := (RX8, TX8, 12)) rfl rfl [0, 1] [] [0, 1] rfl rfl ⟨rfl, rfl, rfl, by decide⟩ (fun _ => rfl) rfl (fun _ => rfl) hl.1 (Nat.le_of_ble_eq_true rfl) rfl dX8_runUp_141 (fun _ _ H locs B => ?_)
              refine lv_iinc (v := iI (k + 1)) (lv' := [(4, .int (iI (k + 1))), (0, .ref a), (1, .int (iI 0)), (2, .long (iL rf))]) S.1 S.2.1 (pc := 144) dX8_runUp_144 hl (k := 3) rfl (iI_add _ _) (by decide) rfl (fun ls hl => ?_)
              refine lv_goto S.1 S.2.1 (pc := 147) (tgt := 5) dX8_runUp_147 rfl ?_
              have e1 : dirn (σ 7) (σ 6) k d x = d := dirn_n (fun z => by omega)
              have b1 := stx_bd (md := σ 7) (sl := σ 6) (k := k) (t := t) (volt_bd σ (gn (σ 10))) hd hb
              have ex : x + (((inpg (σ 0) (σ 1) (σ 2) t (gn (σ 10))) + (offs (σ 3) (σ 4) t)) + rf) = stx (volt σ (gn (σ 10))) (σ 7) (σ 6) k d x t := by unfold stx volt; rw [e1]; omega
              have es : sb + 1 = (if dirn (σ 7) (σ 6) k d x < 0 then sb + 1 else sb) := by rw [e1, if_pos (by omega)]
              have ea : ad + 0 = (if 0 < dirn (σ 7) (σ 6) k d x then ad + 1 else ad) := by rw [e1, if_neg (by omega)]; omega
              rw [pU_s, ex, es, ea] at B
              have b2 := mx_bd (p := pk) (x := stx (volt σ (gn (σ 10))) (σ 7) (σ 6) k d x t) (m := 4194304 * (k + 1)) hpk.1 (by omega) (by have := b1.2.1; omega) (by have := b1.2.2; omega)
              exact ih (k + 1) (dirn (σ 7) (σ 6) k d x) (stx (volt σ (gn (σ 10))) (σ 7) (σ 6) k d x t) (mx pk (stx (volt σ (gn (σ 10))) (σ 7) (σ 6) k d x t)) (if dirn (σ 7) (σ 6) k d x < 0 then sb + 1 else sb) (if 0 < dirn (σ 7) (σ 6) k d x then ad + 1 else ad) (t + 1) rf (by omega) b1.1 (by rw [e1]; omega) (by have := b1.2; omega) b2 (by rw [e1]; split <;> omega) (by rw [e1]; split <;> omega) (by omega) res (by simp only [upL] at hres; exact hres) hx _ _ _ B (lv_sub hl [1, 2, 3, 0] rfl)
            · refine z_lconst S (pc := 100) (x := 1) dX8_runUp_100 rfl ?_
              refine lv_goto S.1 S.2.1 (pc := 101) (tgt := 105) dX8_runUp_101 rfl ?_
              refine z_ladd S (pc := 105) dX8_runUp_105 ?_
              refine z_last S (pc := 106) B 1 2 rfl rfl (k := 19) rfl (by decide) (by decide) dX8_runUp_106 (wn := [cMod a p1 p2 p3 p4 p5 p6 pm x mo rd wr sm, cAt E p1 (up (up (pU σ sb ad t pk) 18 (sb + 1)) 19 (ad + 1)) ρ]) (by rw [lmu _ _ (by decide)]; rfl) (fun H locs B => ?_)
              refine z_aload_n S (pc := 107) dX8_runUp_107 rfl (lv_at hl 0 rfl) ?_
              refine z_iload_n S (pc := 108) dX8_runUp_108 rfl (lv_at hl 1 rfl) ?_
              refine z_if_eq S (pc := 109) (tgt := 116) (by omega) dX8_runUp_109 rfl (fun c17 => ?_) (fun c17 => absurd c17 (by omega))
              refine z_aload_n S (pc := 116) dX8_runUp_116 rfl (lv_at hl 0 rfl) ?_
              refine z_aload_n S (pc := 117) dX8_runUp_117 rfl (lv_at hl 0 rfl) ?_
              refine z_get S (pc := 118) B iX8_runUp_X8 0 rfl rfl 0 (by decide) rfl rfl (by decide +kernel) dX8_runUp_118 ?_
              refine z_bipush S (pc := 121) dX8_runUp_121 rfl ?_
              refine z_lald S (pc := 123) B 1 2 rfl rfl (k := 11) rfl (by decide) (by decide) (v := .long (iL t)) rfl dX8_runUp_123 ?_
              refine z_callV S (pc := 124) B (wr := []) (wn := fun _ => [cMod a p1 p2 p3 p4 p5 p6 pm x mo rd wr sm, cAt E p1 (up (up (pU σ sb ad t pk) 18 (sb + 1)) 19 (ad + 1)) ρ]) (st1 := fun _ => [.long (iL (inpg (σ 0) (σ 1) (σ 2) t (gn (σ 10)))), .ref a]) (As := [.long (iL t)]) (mX8_input l E a p1 p2 p3 p4 p5 p6 (up (up (pU σ sb ad t pk) 18 (sb + 1)) 19 (ad + 1)) ρ pm x mo rd wr sm t (show -4000000 ≤ σ 0 ∧ σ 0 ≤ 4000000 from by omega) (show 0 ≤ σ 1 ∧ σ 1 ≤ 1000000 from by omega) (show inPe (σ 2) from by omega) (show 0 ≤ σ 10 ∧ σ 10 ≤ 3 from by omega) (show 0 ≤ t ∧ t ≤ 2147483647 from by omega)) gX8_runUp_X8_input 1 rfl (by decide +kernel) ⟨Nat.le_of_ble_eq_true rfl, Nat.le_of_ble_eq_true rfl, Nat.le_of_ble_eq_true rfl, Nat.le_of_ble_eq_true rfl⟩ 0 rfl (q := (RX8, TX8, 12)) rfl rfl [0, 1] [] [0, 1] rfl rfl ⟨rfl, rfl, rfl, by decide⟩ (fun _ => rfl) rfl (fun _ => rfl) hl.1 (Nat.le_of_ble_eq_true rfl) rfl dX8_runUp_124 (fun _ _ H locs B => ?_)
              refine z_aload_n S (pc := 127) dX8_runUp_127 rfl (lv_at hl 0 rfl) ?_
              refine z_aload_n S (pc := 128) dX8_runUp_128 rfl (lv_at hl 0 rfl) ?_
              refine z_get S (pc := 129) B iX8_runUp_X8 0 rfl rfl 0 (by decide) rfl rfl (by decide +kernel) dX8_runUp_129 ?_
              refine z_bipush S (pc := 132) dX8_runUp_132 rfl ?_
              refine z_lald S (pc := 134) B 1 2 rfl rfl (k := 11) rfl (by decide) (by decide) (v := .long (iL t)) rfl dX8_runUp_134 ?_
              refine z_callV S (pc := 135) B (wr := []) (wn := fun _ => [cMod a p1 p2 p3 p4 p5 p6 pm x mo rd wr sm, cAt E p1 (up (up (pU σ sb ad t pk) 18 (sb + 1)) 19 (ad + 1)) ρ]) (st1 := fun _ => [.long (iL (offs (σ 3) (σ 4) t)), .long (iL (inpg (σ 0) (σ 1) (σ 2) t (gn (σ 10)))), .ref a]) (As := [.long (iL t)]) (mX8_offset l E a p1 p2 p3 p4 p5 p6 (up (up (pU σ sb ad t pk) 18 (sb + 1)) 19 (ad + 1)) ρ pm x mo rd wr sm t (show -100000 ≤ σ 3 ∧ σ 3 ≤ 100000 from by omega) (show -1000 ≤ σ 4 ∧ σ 4 ≤ 1000 from by omega) (show 0 ≤ t ∧ t ≤ 2147483647 from by omega)) gX8_runUp_X8_offset 1 rfl (by decide +kernel) ⟨Nat.le_of_ble_eq_true rfl, Nat.le_of_ble_eq_true rfl, Nat.le_of_ble_eq_true rfl, Nat.le_of_ble_eq_true rfl⟩ 0 rfl (q := (RX8, TX8, 12)) rfl rfl [0, 1] [] [0, 1] rfl rfl ⟨rfl, rfl, rfl, by decide⟩ (fun _ => rfl) rfl (fun _ => rfl) hl.1 (Nat.le_of_ble_eq_true rfl) rfl dX8_runUp_135 (fun _ _ H locs B => ?_)
              have hv1 := inpg_bd (σ 0) (σ 1) (σ 2) t (gn (σ 10))
              have hv2 := offs_bd (σ 3) (σ 4) t
              refine z_ladd S (pc := 138) dX8_runUp_138 ?_
              refine z_lload_n S (pc := 139) dX8_runUp_139 rfl (lv_at hl 2 rfl) ?_
              refine z_ladd S (pc := 140) dX8_runUp_140 ?_
              refine z_callV S (pc := 141) B (wr := []) (wn := fun _ => [cMod a p1 p2 p3 p4 p5 p6 pm (x + (((inpg (σ 0) (σ 1) (σ 2) t (gn (σ 10))) + (offs (σ 3) (σ 4) t)) + rf)) mo rd wr sm, cAt E p1 (up (up (up (up (pU σ sb ad t pk) 18 (sb + 1)) 19 (ad + 1)) 11 (t + 1)) 20 (mx pk (x + (((inpg (σ 0) (σ 1) (σ 2) t (gn (σ 10))) + (offs (σ 3) (σ 4) t)) + rf)))) ρ]) (st1 := fun _ => []) (As := [.long (iL (((inpg (σ 0) (σ 1) (σ 2) t (gn (σ 10))) + (offs (σ 3) (σ 4) t)) + rf))]) (mX8_tick l E a p1 p2 p3 p4 p5 p6 (up (up (pU σ sb ad t pk) 18 (sb + 1)) 19 (ad + 1)) ρ pm x mo rd wr sm (((inpg (σ 0) (σ 1) (σ 2) t (gn (σ 10))) + (offs (σ 3) (σ 4) t)) + rf) (show -1000000000000 ≤ x ∧ x ≤ 1000000000000 from by omega) (show -1000000000000 ≤ (((inpg (σ 0) (σ 1) (σ 2) t (gn (σ 10))) + (offs (σ 3) (σ 4) t)) + rf) ∧ (((inpg (σ 0) (σ 1) (σ 2) t (gn (σ 10))) + (offs (σ 3) (σ 4) t)) + rf) ≤ 1000000000000 from by omega) (show 0 ≤ pk ∧ pk ≤ 2000000000000 from by omega)) gX8_runUp_X8_tick 1 rfl (by decide +kernel) ⟨Nat.le_of_ble_eq_true rfl, Nat.le_of_ble_eq_true rfl, Nat.le_of_ble_eq_true rfl, Nat.le_of_ble_eq_true rfl⟩ 0 rfl (q := (RX8, TX8, 12)) rfl rfl [0, 1] [] [0, 1] rfl rfl ⟨rfl, rfl, rfl, by decide⟩ (fun _ => rfl) rfl (fun _ => rfl) hl.1 (Nat.le_of_ble_eq_true rfl) rfl dX8_runUp_141 (fun _ _ H locs B => ?_)
              refine lv_iinc (v := iI (k + 1)) (lv' := [(4, .int (iI (k + 1))), (0, .ref a), (1, .int (iI 0)), (2, .long (iL rf))]) S.1 S.2.1 (pc := 144) dX8_runUp_144 hl (k := 3) rfl (iI_add _ _) (by decide) rfl (fun ls hl => ?_)
              refine lv_goto S.1 S.2.1 (pc := 147) (tgt := 5) dX8_runUp_147 rfl ?_
              exact absurd c11 (by omega)
        · refine z_aload_n S (pc := 46) dX8_runUp_46 rfl (lv_at hl 0 rfl) ?_
          refine z_get S (pc := 47) B iX8_runUp_X8 0 rfl rfl 6 (by decide) rfl rfl (by decide +kernel) dX8_runUp_47 ?_
          refine z_lconst S (pc := 50) (x := 0) dX8_runUp_50 rfl ?_
          refine z_lc_le S (pc := 51) (tgt := 61) (by omega) (by omega) dX8_runUp_51 dX8_runUp_52 rfl (fun c18 => ?_) (fun c18 => ?_)
          · refine z_ldc2 S (pc := 61) (x := 1048576) (by decide +kernel) rfl dX8_runUp_61 ?_
            refine lv_lstore_n (lv' := [(2, .long (iL 1048576)), (0, .ref a), (1, .int (iI 0)), (4, .int (iI k))]) S.1 S.2.1 (pc := 64) dX8_runUp_64 rfl hl (by decide) rfl (fun ls hl => ?_)
            refine z_aload_n S (pc := 65) dX8_runUp_65 rfl (lv_at hl 1 rfl) ?_
            refine z_get S (pc := 66) B iX8_runUp_X8 0 rfl rfl 0 (by decide) rfl rfl (by decide +kernel) dX8_runUp_66 ?_
            refine z_bipush S (pc := 69) dX8_runUp_69 rfl ?_
            refine lv_dup2_11 S.1 S.2.1 (pc := 71) dX8_runUp_71 rfl rfl ?_
            refine z_lald S (pc := 72) B 1 2 rfl rfl (k := 18) rfl (by decide) (by decide) (v := .long (iL sb)) rfl dX8_runUp_72 ?_
            refine z_lload_n S (pc := 73) dX8_runUp_73 rfl (lv_at hl 0 rfl) ?_
            refine z_lconst S (pc := 74) (x := 0) dX8_runUp_74 rfl ?_
            refine z_lc_ge S (pc := 75) (tgt := 83) (by omega) (by omega) dX8_runUp_75 dX8_runUp_76 rfl (fun c19 => ?_) (fun c19 => absurd c19 (by omega))
            refine z_lconst S (pc := 83) (x := 0) dX8_runUp_83 rfl ?_
            refine z_ladd S (pc := 84) dX8_runUp_84 ?_
            refine z_last S (pc := 85) B 1 2 rfl rfl (k := 18) rfl (by decide) (by decide) dX8_runUp_85 (wn := [cMod a p1 p2 p3 p4 p5 p6 pm x mo rd wr sm, cAt E p1 (up (pU σ sb ad t pk) 18 (sb + 0)) ρ]) (by rw [lmu _ _ (by decide)]; rfl) (fun H locs B => ?_)
            refine z_aload_n S (pc := 86) dX8_runUp_86 rfl (lv_at hl 1 rfl) ?_
            refine z_get S (pc := 87) B iX8_runUp_X8 0 rfl rfl 0 (by decide) rfl rfl (by decide +kernel) dX8_runUp_87 ?_
            refine z_bipush S (pc := 90) dX8_runUp_90 rfl ?_
            refine lv_dup2_11 S.1 S.2.1 (pc := 92) dX8_runUp_92 rfl rfl ?_
            refine z_lald S (pc := 93) B 1 2 rfl rfl (k := 19) rfl (by decide) (by decide) (v := .long (iL ad)) rfl dX8_runUp_93 ?_
            refine z_lload_n S (pc := 94) dX8_runUp_94 rfl (lv_at hl 0 rfl) ?_
            refine z_lconst S (pc := 95) (x := 0) dX8_runUp_95 rfl ?_
            refine z_lc_le S (pc := 96) (tgt := 104) (by omega) (by omega) dX8_runUp_96 dX8_runUp_97 rfl (fun c20 => absurd c20 (by omega)) (fun c20 => ?_)
            refine z_lconst S (pc := 100) (x := 1) dX8_runUp_100 rfl ?_
            refine lv_goto S.1 S.2.1 (pc := 101) (tgt := 105) dX8_runUp_101 rfl ?_
            refine z_ladd S (pc := 105) dX8_runUp_105 ?_
            refine z_last S (pc := 106) B 1 2 rfl rfl (k := 19) rfl (by decide) (by decide) dX8_runUp_106 (wn := [cMod a p1 p2 p3 p4 p5 p6 pm x mo rd wr sm, cAt E p1 (up (up (pU σ sb ad t pk) 18 (sb + 0)) 19 (ad + 1)) ρ]) (by rw [lmu _ _ (by decide)]; rfl) (fun H locs B => ?_)
            refine z_aload_n S (pc := 107) dX8_runUp_107 rfl (lv_at hl 1 rfl) ?_
            refine z_iload_n S (pc := 108) dX8_runUp_108 rfl (lv_at hl 2 rfl) ?_
            refine z_if_eq S (pc := 109) (tgt := 116) (by omega) dX8_runUp_109 rfl (fun c21 => ?_) (fun c21 => absurd c21 (by omega))
            refine z_aload_n S (pc := 116) dX8_runUp_116 rfl (lv_at hl 1 rfl) ?_
            refine z_aload_n S (pc := 117) dX8_runUp_117 rfl (lv_at hl 1 rfl) ?_
            refine z_get S (pc := 118) B iX8_runUp_X8 0 rfl rfl 0 (by decide) rfl rfl (by decide +kernel) dX8_runUp_118 ?_
            refine z_bipush S (pc := 121) dX8_runUp_121 rfl ?_
            refine z_lald S (pc := 123) B 1 2 rfl rfl (k := 11) rfl (by decide) (by decide) (v := .long (iL t)) rfl dX8_runUp_123 ?_
            refine z_callV S (pc := 124) B (wr := []) (wn := fun _ => [cMod a p1 p2 p3 p4 p5 p6 pm x mo rd wr sm, cAt E p1 (up (up (pU σ sb ad t pk) 18 (sb + 0)) 19 (ad + 1)) ρ]) (st1 := fun _ => [.long (iL (inpg (σ 0) (σ 1) (σ 2) t (gn (σ 10)))), .ref a]) (As := [.long (iL t)]) (mX8_input l E a p1 p2 p3 p4 p5 p6 (up (up (pU σ sb ad t pk) 18 (sb + 0)) 19 (ad + 1)) ρ pm x mo rd wr sm t (show -4000000 ≤ σ 0 ∧ σ 0 ≤ 4000000 from by omega) (show 0 ≤ σ 1 ∧ σ 1 ≤ 1000000 from by omega) (show inPe (σ 2) from by omega) (show 0 ≤ σ 10 ∧ σ 10 ≤ 3 from by omega) (show 0 ≤ t ∧ t ≤ 2147483647 from by omega)) gX8_runUp_X8_input 1 rfl (by decide +kernel) ⟨Nat.le_of_ble_eq_true rfl, Nat.le_of_ble_eq_true rfl, Nat.le_of_ble_eq_true rfl, Nat.le_of_ble_eq_true rfl⟩ 0 rfl (q := (RX8, TX8, 12)) rfl rfl [0, 1] [] [0, 1] rfl rfl ⟨rfl, rfl, rfl, by decide⟩ (fun _ => rfl) rfl (fun _ => rfl) hl.1 (Nat.le_of_ble_eq_true rfl) rfl dX8_runUp_124 (fun _ _ H locs B => ?_)
            refine z_aload_n S (pc := 127) dX8_runUp_127 rfl (lv_at hl 1 rfl) ?_
            refine z_aload_n S (pc := 128) dX8_runUp_128 rfl (lv_at hl 1 rfl) ?_
            refine z_get S (pc := 129) B iX8_runUp_X8 0 rfl rfl 0 (by decide) rfl rfl (by decide +kernel) dX8_runUp_129 ?_
            refine z_bipush S (pc := 132) dX8_runUp_132 rfl ?_
            refine z_lald S (pc := 134) B 1 2 rfl rfl (k := 11) rfl (by decide) (by decide) (v := .long (iL t)) rfl dX8_runUp_134 ?_
            refine z_callV S (pc := 135) B (wr := []) (wn := fun _ => [cMod a p1 p2 p3 p4 p5 p6 pm x mo rd wr sm, cAt E p1 (up (up (pU σ sb ad t pk) 18 (sb + 0)) 19 (ad + 1)) ρ]) (st1 := fun _ => [.long (iL (offs (σ 3) (σ 4) t)), .long (iL (inpg (σ 0) (σ 1) (σ 2) t (gn (σ 10)))), .ref a]) (As := [.long (iL t)]) (mX8_offset l E a p1 p2 p3 p4 p5 p6 (up (up (pU σ sb ad t pk) 18 (sb + 0)) 19 (ad + 1)) ρ pm x mo rd wr sm t (show -100000 ≤ σ 3 ∧ σ 3 ≤ 100000 from by omega) (show -1000 ≤ σ 4 ∧ σ 4 ≤ 1000 from by omega) (show 0 ≤ t ∧ t ≤ 2147483647 from by omega)) gX8_runUp_X8_offset 1 rfl (by decide +kernel) ⟨Nat.le_of_ble_eq_true rfl, Nat.le_of_ble_eq_true rfl, Nat.le_of_ble_eq_true rfl, Nat.le_of_ble_eq_true rfl⟩ 0 rfl (q := (RX8, TX8, 12)) rfl rfl [0, 1] [] [0, 1] rfl rfl ⟨rfl, rfl, rfl, by decide⟩ (fun _ => rfl) rfl (fun _ => rfl) hl.1 (Nat.le_of_ble_eq_true rfl) rfl dX8_runUp_135 (fun _ _ H locs B => ?_)
            have hv1 := inpg_bd (σ 0) (σ 1) (σ 2) t (gn (σ 10))
            have hv2 := offs_bd (σ 3) (σ 4) t
            refine z_ladd S (pc := 138) dX8_runUp_138 ?_
            refine z_lload_n S (pc := 139) dX8_runUp_139 rfl (lv_at hl 0 rfl) ?_
            refine z_ladd S (pc := 140) dX8_runUp_140 ?_
            refine z_callV S (pc := 141) B (wr := []) (wn := fun _ => [cMod a p1 p2 p3 p4 p5 p6 pm (x + (((inpg (σ 0) (σ 1) (σ 2) t (gn (σ 10))) + (offs (σ 3) (σ 4) t)) + 1048576)) mo rd wr sm, cAt E p1 (up (up (up (up (pU σ sb ad t pk) 18 (sb + 0)) 19 (ad + 1)) 11 (t + 1)) 20 (mx pk (x + (((inpg (σ 0) (σ 1) (σ 2) t (gn (σ 10))) + (offs (σ 3) (σ 4) t)) + 1048576)))) ρ]) (st1 := fun _ => []) (As := [.long (iL (((inpg (σ 0) (σ 1) (σ 2) t (gn (σ 10))) + (offs (σ 3) (σ 4) t)) + 1048576))]) (mX8_tick l E a p1 p2 p3 p4 p5 p6 (up (up (pU σ sb ad t pk) 18 (sb + 0)) 19 (ad + 1)) ρ pm x mo rd wr sm (((inpg (σ 0) (σ 1) (σ 2) t (gn (σ 10))) + (offs (σ 3) (σ 4) t)) + 1048576) (show -1000000000000 ≤ x ∧ x ≤ 1000000000000 from by omega) (show -1000000000000 ≤ (((inpg (σ 0) (σ 1) (σ 2) t (gn (σ 10))) + (offs (σ 3) (σ 4) t)) + 1048576) ∧ (((inpg (σ 0) (σ 1) (σ 2) t (gn (σ 10))) + (offs (σ 3) (σ 4) t)) + 1048576) ≤ 1000000000000 from by omega) (show 0 ≤ pk ∧ pk ≤ 2000000000000 from by omega)) gX8_runUp_X8_tick 1 rfl (by decide +kernel) ⟨Nat.le_of_ble_eq_true rfl, Nat.le_of_ble_eq_true rfl, Nat.le_of_ble_eq_true rfl, Nat.le_of_ble_eq_true rfl⟩ 0 rfl (q := (RX8, TX8, 12)) rfl rfl [0, 1] [] [0, 1] rfl rfl ⟨rfl, rfl, rfl, by decide⟩ (fun _ => rfl) rfl (fun _ => rfl) hl.1 (Nat.le_of_ble_eq_true rfl) rfl dX8_runUp_141 (fun _ _ H locs B => ?_)
            refine lv_iinc (v := iI (k + 1)) (lv' := [(4, .int (iI (k + 1))), (2, .long (iL 1048576)), (0, .ref a), (1, .int (iI 0))]) S.1 S.2.1 (pc := 144) dX8_runUp_144 hl (k := 3) rfl (iI_add _ _) (by decide) rfl (fun ls hl => ?_)
            refine lv_goto S.1 S.2.1 (pc := 147) (tgt := 5) dX8_runUp_147 rfl ?_
            have e1 : dirn (σ 7) (σ 6) k d x = 1 := dirn_a ⟨by omega, by omega⟩ (by omega)
            have b1 := stx_bd (md := σ 7) (sl := σ 6) (k := k) (t := t) (volt_bd σ (gn (σ 10))) hd hb
            have ex : x + (((inpg (σ 0) (σ 1) (σ 2) t (gn (σ 10))) + (offs (σ 3) (σ 4) t)) + 1048576) = stx (volt σ (gn (σ 10))) (σ 7) (σ 6) k d x t := by unfold stx volt; rw [e1]; omega
            have es : sb + 0 = (if dirn (σ 7) (σ 6) k d x < 0 then sb + 1 else sb) := by rw [e1, if_neg (by omega)]; omega
            have ea : ad + 1 = (if 0 < dirn (σ 7) (σ 6) k d x then ad + 1 else ad) := by rw [e1, if_pos (by omega)]
            rw [pU_s, ex, es, ea] at B
            have b2 := mx_bd (p := pk) (x := stx (volt σ (gn (σ 10))) (σ 7) (σ 6) k d x t) (m := 4194304 * (k + 1)) hpk.1 (by omega) (by have := b1.2.1; omega) (by have := b1.2.2; omega)
            exact ih (k + 1) (dirn (σ 7) (σ 6) k d x) (stx (volt σ (gn (σ 10))) (σ 7) (σ 6) k d x t) (mx pk (stx (volt σ (gn (σ 10))) (σ 7) (σ 6) k d x t)) (if dirn (σ 7) (σ 6) k d x < 0 then sb + 1 else sb) (if 0 < dirn (σ 7) (σ 6) k d x then ad + 1 else ad) (t + 1) 1048576 (by omega) b1.1 (by rw [e1]; omega) (by have := b1.2; omega) b2 (by rw [e1]; split <;> omega) (by rw [e1]; split <;> omega) (by omega) res (by simp only [upL] at hres; exact hres) hx _ _ _ B (lv_sub hl [2, 3, 1, 0] rfl)
          · refine z_ldc2 S (pc := 55) (x := (-1048576)) (by decide +kernel) rfl dX8_runUp_55 ?_
            refine lv_goto S.1 S.2.1 (pc := 58) (tgt := 64) dX8_runUp_58 rfl ?_
            refine lv_lstore_n (lv' := [(2, .long (iL (-1048576))), (0, .ref a), (1, .int (iI 0)), (4, .int (iI k))]) S.1 S.2.1 (pc := 64) dX8_runUp_64 rfl hl (by decide) rfl (fun ls hl => ?_)
            refine z_aload_n S (pc := 65) dX8_runUp_65 rfl (lv_at hl 1 rfl) ?_
            refine z_get S (pc := 66) B iX8_runUp_X8 0 rfl rfl 0 (by decide) rfl rfl (by decide +kernel) dX8_runUp_66 ?_
            refine z_bipush S (pc := 69) dX8_runUp_69 rfl ?_
            refine lv_dup2_11 S.1 S.2.1 (pc := 71) dX8_runUp_71 rfl rfl ?_
            refine z_lald S (pc := 72) B 1 2 rfl rfl (k := 18) rfl (by decide) (by decide) (v := .long (iL sb)) rfl dX8_runUp_72 ?_
            refine z_lload_n S (pc := 73) dX8_runUp_73 rfl (lv_at hl 0 rfl) ?_
            refine z_lconst S (pc := 74) (x := 0) dX8_runUp_74 rfl ?_
            refine z_lc_ge S (pc := 75) (tgt := 83) (by omega) (by omega) dX8_runUp_75 dX8_runUp_76 rfl (fun c22 => absurd c22 (by omega)) (fun c22 => ?_)
            refine z_lconst S (pc := 79) (x := 1) dX8_runUp_79 rfl ?_
            refine lv_goto S.1 S.2.1 (pc := 80) (tgt := 84) dX8_runUp_80 rfl ?_
            refine z_ladd S (pc := 84) dX8_runUp_84 ?_
            refine z_last S (pc := 85) B 1 2 rfl rfl (k := 18) rfl (by decide) (by decide) dX8_runUp_85 (wn := [cMod a p1 p2 p3 p4 p5 p6 pm x mo rd wr sm, cAt E p1 (up (pU σ sb ad t pk) 18 (sb + 1)) ρ]) (by rw [lmu _ _ (by decide)]; rfl) (fun H locs B => ?_)
            refine z_aload_n S (pc := 86) dX8_runUp_86 rfl (lv_at hl 1 rfl) ?_
            refine z_get S (pc := 87) B iX8_runUp_X8 0 rfl rfl 0 (by decide) rfl rfl (by decide +kernel) dX8_runUp_87 ?_
            refine z_bipush S (pc := 90) dX8_runUp_90 rfl ?_
            refine lv_dup2_11 S.1 S.2.1 (pc := 92) dX8_runUp_92 rfl rfl ?_
            refine z_lald S (pc := 93) B 1 2 rfl rfl (k := 19) rfl (by decide) (by decide) (v := .long (iL ad)) rfl dX8_runUp_93 ?_
            refine z_lload_n S (pc := 94) dX8_runUp_94 rfl (lv_at hl 0 rfl) ?_
            refine z_lconst S (pc := 95) (x := 0) dX8_runUp_95 rfl ?_
            refine z_lc_le S (pc := 96) (tgt := 104) (by omega) (by omega) dX8_runUp_96 dX8_runUp_97 rfl (fun c23 => ?_) (fun c23 => absurd c23 (by omega))
            refine z_lconst S (pc := 104) (x := 0) dX8_runUp_104 rfl ?_
            refine z_ladd S (pc := 105) dX8_runUp_105 ?_
            refine z_last S (pc := 106) B 1 2 rfl rfl (k := 19) rfl (by decide) (by decide) dX8_runUp_106 (wn := [cMod a p1 p2 p3 p4 p5 p6 pm x mo rd wr sm, cAt E p1 (up (up (pU σ sb ad t pk) 18 (sb + 1)) 19 (ad + 0)) ρ]) (by rw [lmu _ _ (by decide)]; rfl) (fun H locs B => ?_)
            refine z_aload_n S (pc := 107) dX8_runUp_107 rfl (lv_at hl 1 rfl) ?_
            refine z_iload_n S (pc := 108) dX8_runUp_108 rfl (lv_at hl 2 rfl) ?_
            refine z_if_eq S (pc := 109) (tgt := 116) (by omega) dX8_runUp_109 rfl (fun c24 => ?_) (fun c24 => absurd c24 (by omega))
            refine z_aload_n S (pc := 116) dX8_runUp_116 rfl (lv_at hl 1 rfl) ?_
            refine z_aload_n S (pc := 117) dX8_runUp_117 rfl (lv_at hl 1 rfl) ?_
            refine z_get S (pc := 118) B iX8_runUp_X8 0 rfl rfl 0 (by decide) rfl rfl (by decide +kernel) dX8_runUp_118 ?_
            refine z_bipush S (pc := 121) dX8_runUp_121 rfl ?_
            refine z_lald S (pc := 123) B 1 2 rfl rfl (k := 11) rfl (by decide) (by decide) (v := .long (iL t)) rfl dX8_runUp_123 ?_
            refine z_callV S (pc := 124) B (wr := []) (wn := fun _ => [cMod a p1 p2 p3 p4 p5 p6 pm x mo rd wr sm, cAt E p1 (up (up (pU σ sb ad t pk) 18 (sb + 1)) 19 (ad + 0)) ρ]) (st1 := fun _ => [.long (iL (inpg (σ 0) (σ 1) (σ 2) t (gn (σ 10)))), .ref a]) (As := [.long (iL t)]) (mX8_input l E a p1 p2 p3 p4 p5 p6 (up (up (pU σ sb ad t pk) 18 (sb + 1)) 19 (ad + 0)) ρ pm x mo rd wr sm t (show -4000000 ≤ σ 0 ∧ σ 0 ≤ 4000000 from by omega) (show 0 ≤ σ 1 ∧ σ 1 ≤ 1000000 from by omega) (show inPe (σ 2) from by omega) (show 0 ≤ σ 10 ∧ σ 10 ≤ 3 from by omega) (show 0 ≤ t ∧ t ≤ 2147483647 from by omega)) gX8_runUp_X8_input 1 rfl (by decide +kernel) ⟨Nat.le_of_ble_eq_true rfl, Nat.le_of_ble_eq_true rfl, Nat.le_of_ble_eq_true rfl, Nat.le_of_ble_eq_true rfl⟩ 0 rfl (q := (RX8, TX8, 12)) rfl rfl [0, 1] [] [0, 1] rfl rfl ⟨rfl, rfl, rfl, by decide⟩ (fun _ => rfl) rfl (fun _ => rfl) hl.1 (Nat.le_of_ble_eq_true rfl) rfl dX8_runUp_124 (fun _ _ H locs B => ?_)
            refine z_aload_n S (pc := 127) dX8_runUp_127 rfl (lv_at hl 1 rfl) ?_
            refine z_aload_n S (pc := 128) dX8_runUp_128 rfl (lv_at hl 1 rfl) ?_
            refine z_get S (pc := 129) B iX8_runUp_X8 0 rfl rfl 0 (by decide) rfl rfl (by decide +kernel) dX8_runUp_129 ?_
            refine z_bipush S (pc := 132) dX8_runUp_132 rfl ?_
            refine z_lald S (pc := 134) B 1 2 rfl rfl (k := 11) rfl (by decide) (by decide) (v := .long (iL t)) rfl dX8_runUp_134 ?_
            refine z_callV S (pc := 135) B (wr := []) (wn := fun _ => [cMod a p1 p2 p3 p4 p5 p6 pm x mo rd wr sm, cAt E p1 (up (up (pU σ sb ad t pk) 18 (sb + 1)) 19 (ad + 0)) ρ]) (st1 := fun _ => [.long (iL (offs (σ 3) (σ 4) t)), .long (iL (inpg (σ 0) (σ 1) (σ 2) t (gn (σ 10)))), .ref a]) (As := [.long (iL t)]) (mX8_offset l E a p1 p2 p3 p4 p5 p6 (up (up (pU σ sb ad t pk) 18 (sb + 1)) 19 (ad + 0)) ρ pm x mo rd wr sm t (show -100000 ≤ σ 3 ∧ σ 3 ≤ 100000 from by omega) (show -1000 ≤ σ 4 ∧ σ 4 ≤ 1000 from by omega) (show 0 ≤ t ∧ t ≤ 2147483647 from by omega)) gX8_runUp_X8_offset 1 rfl (by decide +kernel) ⟨Nat.le_of_ble_eq_true rfl, Nat.le_of_ble_eq_true rfl, Nat.le_of_ble_eq_true rfl, Nat.le_of_ble_eq_true rfl⟩ 0 rfl (q := (RX8, TX8, 12)) rfl rfl [0, 1] [] [0, 1] rfl rfl ⟨rfl, rfl, rfl, by decide⟩ (fun _ => rfl) rfl (fun _ => rfl) hl.1 (Nat.le_of_ble_eq_true rfl) rfl dX8_runUp_135 (fun _ _ H locs B => ?_)
            have hv1 := inpg_bd (σ 0) (σ 1) (σ 2) t (gn (σ 10))
            have hv2 := offs_bd (σ 3) (σ 4) t
            refine z_ladd S (pc := 138) dX8_runUp_138 ?_
            refine z_lload_n S (pc := 139) dX8_runUp_139 rfl (lv_at hl 0 rfl) ?_
            refine z_ladd S (pc := 140) dX8_runUp_140 ?_
            refine z_callV S (pc := 141) B (wr := []) (wn := fun _ => [cMod a p1 p2 p3 p4 p5 p6 pm (x + (((inpg (σ 0) (σ 1) (σ 2) t (gn (σ 10))) + (offs (σ 3) (σ 4) t)) + (-1048576))) mo rd wr sm, cAt E p1 (up (up (up (up (pU σ sb ad t pk) 18 (sb + 1)) 19 (ad + 0)) 11 (t + 1)) 20 (mx pk (x + (((inpg (σ 0) (σ 1) (σ 2) t (gn (σ 10))) + (offs (σ 3) (σ 4) t)) + (-1048576))))) ρ]) (st1 := fun _ => []) (As := [.long (iL (((inpg (σ 0) (σ 1) (σ 2) t (gn (σ 10))) + (offs (σ 3) (σ 4) t)) + (-1048576)))]) (mX8_tick l E a p1 p2 p3 p4 p5 p6 (up (up (pU σ sb ad t pk) 18 (sb + 1)) 19 (ad + 0)) ρ pm x mo rd wr sm (((inpg (σ 0) (σ 1) (σ 2) t (gn (σ 10))) + (offs (σ 3) (σ 4) t)) + (-1048576)) (show -1000000000000 ≤ x ∧ x ≤ 1000000000000 from by omega) (show -1000000000000 ≤ (((inpg (σ 0) (σ 1) (σ 2) t (gn (σ 10))) + (offs (σ 3) (σ 4) t)) + (-1048576)) ∧ (((inpg (σ 0) (σ 1) (σ 2) t (gn (σ 10))) + (offs (σ 3) (σ 4) t)) + (-1048576)) ≤ 1000000000000 from by omega) (show 0 ≤ pk ∧ pk ≤ 2000000000000 from by omega)) gX8_runUp_X8_tick 1 rfl (by decide +kernel) ⟨Nat.le_of_ble_eq_true rfl, Nat.le_of_ble_eq_true rfl, Nat.le_of_ble_eq_true rfl, Nat.le_of_ble_eq_true rfl⟩ 0 rfl (q := (RX8, TX8, 12)) rfl rfl [0, 1] [] [0, 1] rfl rfl ⟨rfl, rfl, rfl, by decide⟩ (fun _ => rfl) rfl (fun _ => rfl) hl.1 (Nat.le_of_ble_eq_true rfl) rfl dX8_runUp_141 (fun _ _ H locs B => ?_)
            refine lv_iinc (v := iI (k + 1)) (lv' := [(4, .int (iI (k + 1))), (2, .long (iL (-1048576))), (0, .ref a), (1, .int (iI 0))]) S.1 S.2.1 (pc := 144) dX8_runUp_144 hl (k := 3) rfl (iI_add _ _) (by decide) rfl (fun ls hl => ?_)
            refine lv_goto S.1 S.2.1 (pc := 147) (tgt := 5) dX8_runUp_147 rfl ?_
            have e1 : dirn (σ 7) (σ 6) k d x = -1 := dirn_s ⟨by omega, by omega⟩ (by omega)
            have b1 := stx_bd (md := σ 7) (sl := σ 6) (k := k) (t := t) (volt_bd σ (gn (σ 10))) hd hb
            have ex : x + (((inpg (σ 0) (σ 1) (σ 2) t (gn (σ 10))) + (offs (σ 3) (σ 4) t)) + (-1048576)) = stx (volt σ (gn (σ 10))) (σ 7) (σ 6) k d x t := by unfold stx volt; rw [e1]; omega
            have es : sb + 1 = (if dirn (σ 7) (σ 6) k d x < 0 then sb + 1 else sb) := by rw [e1, if_pos (by omega)]
            have ea : ad + 0 = (if 0 < dirn (σ 7) (σ 6) k d x then ad + 1 else ad) := by rw [e1, if_neg (by omega)]; omega
            rw [pU_s, ex, es, ea] at B
            have b2 := mx_bd (p := pk) (x := stx (volt σ (gn (σ 10))) (σ 7) (σ 6) k d x t) (m := 4194304 * (k + 1)) hpk.1 (by omega) (by have := b1.2.1; omega) (by have := b1.2.2; omega)
            exact ih (k + 1) (dirn (σ 7) (σ 6) k d x) (stx (volt σ (gn (σ 10))) (σ 7) (σ 6) k d x t) (mx pk (stx (volt σ (gn (σ 10))) (σ 7) (σ 6) k d x t)) (if dirn (σ 7) (σ 6) k d x < 0 then sb + 1 else sb) (if 0 < dirn (σ 7) (σ 6) k d x then ad + 1 else ad) (t + 1) (-1048576) (by omega) b1.1 (by rw [e1]; omega) (by have := b1.2; omega) b2 (by rw [e1]; split <;> omega) (by rw [e1]; split <;> omega) (by omega) res (by simp only [upL] at hres; exact hres) hx _ _ _ B (lv_sub hl [2, 3, 1, 0] rfl)
set_option maxHeartbeats 4000000 in
set_option maxRecDepth 100000 in
theorem mX8_runUp_0 (l : Launch) (E : gT) (a : Nat) (p1 : Nat) (p2 : Nat) (p3 : Nat) (p4 : Nat) (p5 : Nat) (p6 : Nat) (σ : Nat → Int) (ρ : Nat → Int) (pm : Int) (ig : Int) (mo : Int) (rd : Int) (wr : Int) (sm : Int) (hs : Sets σ) (h11 : 0 ≤ σ 11 ∧ σ 11 ≤ 2100000000) (h18 : σ 18 = 0) (h19 : σ 19 = 0) (h20 : σ 20 = 0) (hig : ig = 0) : Cd l E yX8_runUp wsX8_runUp 2 48 0 0 [.ref a, .int (iI 0)] [cMod a p1 p2 p3 p4 p5 p6 pm ig mo rd wr sm, cAt E p1 σ ρ] none [cMod a p1 p2 p3 p4 p5 p6 pm ((cvU σ (gn (σ 10))).1) mo rd wr sm, cAt E p1 (pU σ (cvU σ (gn (σ 10))).2.2.1 (cvU σ (gn (σ 10))).2.2.2.1 (cvU σ (gn (σ 10))).2.2.2.2 (cvU σ (gn (σ 10))).2.1) ρ] := by
  refine Ct.mk (cc := cX8_runUp) (maxL := 5) (ret := none) (plainFor_of_name (by decide)) rfl (Nat.le_of_ble_eq_true rfl) ?_
  intro p e s m below meth c A ls H locs S hr hlk hnm B hl
  have S : CallFix p m c cX8_runUp 5 s #[.ref a, .int (iI 0)] wsX8_runUp RX8 := S
  have hl : lv_has ls 5 [(0, .ref a), (1, .int (iI 0))] := hl
  obtain ⟨h0, h1, h2, h3, h4, h5, h6, h7, h8, h9, h10⟩ := id hs
  refine z_lconst S (pc := 0) (x := 0) dX8_runUp_0 rfl ?_
  refine lv_lstore_n (lv' := [(2, .long (iL 0)), (0, .ref a), (1, .int (iI 0))]) S.1 S.2.1 (pc := 1) dX8_runUp_1 rfl hl (by decide) rfl (fun ls hl => ?_)
  refine z_iconst S (pc := 2) dX8_runUp_2 ?_
  refine lv_istore (lv' := [(4, .int (iI 0)), (2, .long (iL 0)), (0, .ref a), (1, .int (iI 0))]) S.1 S.2.1 (pc := 3) dX8_runUp_3 hl (by decide) rfl (fun ls hl => ?_)
  obtain ⟨r, hr1⟩ : ∃ r, cvU σ (gn (σ 10)) = r := ⟨_, rfl⟩
  rw [← pU_self (σ := σ) h18 h19 rfl h20, hig] at B
  refine lpX8_runUp_0 E S a p1 p2 p3 p4 p5 p6 σ ρ pm mo rd wr sm hs h11 (σ 5).toNat 0 0 0 0 0 0 (σ 11) 0 (by omega) (by omega) rfl (by omega) (by omega) (by omega) (by omega) (by omega) r hr1 (fun H locs ls B hl => ?_) _ _ _ B (lv_sub hl [2, 3, 1, 0] rfl)
  subst hr1
  exact z_return S hr hlk B () trivial rfl rfl (pc := 150) dX8_runUp_150
set_option maxHeartbeats 4000000 in
set_option maxRecDepth 100000 in
theorem lpX8_runUp_1 {p : Program} {l : Launch} {e : Env} {s : State} {m : MethodId} {args : Array Value} {below : List Frame} {meth : Method} {c : Code} {Q : State → Prop} {A : Nat → Prop} (E : gT) (S : CallFix p m c cX8_runUp 5 s args wsX8_runUp RX8) (a : Nat) (p1 : Nat) (p2 : Nat) (p3 : Nat) (p4 : Nat) (p5 : Nat) (p6 : Nat) (σ : Nat → Int) (ρ : Nat → Int) (pm : Int) (mo : Int) (rd : Int) (wr : Int) (sm : Int) (hs : Sets σ) (h11 : 0 ≤ σ 11 ∧ σ 11 ≤ 2100000000) :
    ∀ (n : Nat) (k : Int) (d : Int) (x : Int) (pk : Int) (sb : Int) (ad : Int) (t : Int) (rf : Int) (hk : 0 ≤ k ∧ k + (n : Int) = σ 5) (hd : -1 ≤ d ∧ d ≤ 1) (hrf : rf = d * 1048576) (hb : -(4194304 * k) ≤ x ∧ x ≤ 4194304 * k) (hpk : 0 ≤ pk ∧ pk ≤ 4194304 * k) (hsb : 0 ≤ sb ∧ sb ≤ k) (had : 0 ≤ ad ∧ ad ≤ k) (ht : t = σ 11 + k) (res : Int × Int × Int × Int × Int) (hres : upL (volt σ 0) (σ 7) (σ 6) n k d x pk sb ad t = res) (hx : ∀  (H : Heap) (locs : List Loc) (ls : Array Slot), bw E A s H locs [cMod a p1 p2 p3 p4 p5 p6 pm res.1 mo rd wr sm, cAt E p1 (pU σ res.2.2.1 res.2.2.2.1 res.2.2.2.2 res.2.1) ρ] → lv_has ls 5 [(0, .ref a), (1, .int (iI 1))] → W p l e ({ frames := 2, cells := 0, slots := 0, locals := 48 } : Room) s m args below meth c H locs 0 0 Q (F0 m 150 ls [])) (H : Heap) (locs : List Loc) (ls : Array Slot) (B : bw E A s H locs [cMod a p1 p2 p3 p4 p5 p6 pm x mo rd wr sm, cAt E p1 (pU σ sb ad t pk) ρ]) (hl : lv_has ls 5 [(0, .ref a), (1, .int (iI 1)), (2, .long (iL rf)), (4, .int (iI k))]), W p l e ({ frames := 2, cells := 0, slots := 0, locals := 48 } : Room) s m args below meth c H locs 0 0 Q (F0 m 5 ls []) := by
  intro n
  induction n with
  | zero =>
    intro k d x pk sb ad t rf hk hd hrf hb hpk hsb had ht res hres hx H locs ls B hl
    obtain ⟨h0, h1, h2, h3, h4, h5, h6, h7, h8, h9, h10⟩ := id hs
    have q1 : 0 ≤ k % σ 6 ∧ k % σ 6 < σ 6 := ⟨Int.emod_nonneg k (by omega), Int.emod_lt_of_pos k (by omega)⟩
    refine z_iload S (pc := 5) dX8_runUp_5 (lv_at hl 3 rfl) ?_
    refine z_i2l S (pc := 7) (by omega) dX8_runUp_7 ?_
    refine z_aload_n S (pc := 8) dX8_runUp_8 rfl (lv_at hl 0 rfl) ?_
    refine z_get S (pc := 9) B iX8_runUp_X8 0 rfl rfl 0 (by decide) rfl rfl (by decide +kernel) dX8_runUp_9 ?_
    refine z_iconst S (pc := 12) dX8_runUp_12 ?_
    refine z_lald S (pc := 13) B 1 2 rfl rfl (k := 5) rfl (by decide) (by decide) (v := .long (iL (σ 5))) rfl dX8_runUp_13 ?_
    refine z_lc_ge S (pc := 14) (tgt := 150) (by omega) (by omega) dX8_runUp_14 dX8_runUp_15 rfl (fun c1 => ?_) (fun c1 => absurd c1 (by omega))
    subst hres
    exact hx _ _ _ B (lv_sub hl [0, 1] rfl)
  | succ n ih =>
    intro k d x pk sb ad t rf hk hd hrf hb hpk hsb had ht res hres hx H locs ls B hl
    obtain ⟨h0, h1, h2, h3, h4, h5, h6, h7, h8, h9, h10⟩ := id hs
    have q1 : 0 ≤ k % σ 6 ∧ k % σ 6 < σ 6 := ⟨Int.emod_nonneg k (by omega), Int.emod_lt_of_pos k (by omega)⟩
    refine z_iload S (pc := 5) dX8_runUp_5 (lv_at hl 3 rfl) ?_
    refine z_i2l S (pc := 7) (by omega) dX8_runUp_7 ?_
    refine z_aload_n S (pc := 8) dX8_runUp_8 rfl (lv_at hl 0 rfl) ?_
    refine z_get S (pc := 9) B iX8_runUp_X8 0 rfl rfl 0 (by decide) rfl rfl (by decide +kernel) dX8_runUp_9 ?_
    refine z_iconst S (pc := 12) dX8_runUp_12 ?_
    refine z_lald S (pc := 13) B 1 2 rfl rfl (k := 5) rfl (by decide) (by decide) (v := .long (iL (σ 5))) rfl dX8_runUp_13 ?_
    refine z_lc_ge S (pc := 14) (tgt := 150) (by omega) (by omega) dX8_runUp_14 dX8_runUp_15 rfl (fun c1 => ?_) (fun c1 => ?_)
    · exact absurd c1 (by omega)
    · refine z_aload_n S (pc := 18) dX8_runUp_18 rfl (lv_at hl 0 rfl) ?_
      refine z_get S (pc := 19) B iX8_runUp_X8 0 rfl rfl 0 (by decide) rfl rfl (by decide +kernel) dX8_runUp_19 ?_
      refine z_bipush S (pc := 22) dX8_runUp_22 rfl ?_
      refine z_lald S (pc := 24) B 1 2 rfl rfl (k := 7) rfl (by decide) (by decide) (v := .long (iL (σ 7))) rfl dX8_runUp_24 ?_
      refine z_lconst S (pc := 25) (x := 1) dX8_runUp_25 rfl ?_
      refine z_lc_ne S (pc := 26) (tgt := 65) (by omega) (by omega) dX8_runUp_26 dX8_runUp_27 rfl (fun c2 => ?_) (fun c2 => ?_)
      · refine z_aload_n S (pc := 65) dX8_runUp_65 rfl (lv_at hl 0 rfl) ?_
        refine z_get S (pc := 66) B iX8_runUp_X8 0 rfl rfl 0 (by decide) rfl rfl (by decide +kernel) dX8_runUp_66 ?_
        refine z_bipush S (pc := 69) dX8_runUp_69 rfl ?_
        refine lv_dup2_11 S.1 S.2.1 (pc := 71) dX8_runUp_71 rfl rfl ?_
        refine z_lald S (pc := 72) B 1 2 rfl rfl (k := 18) rfl (by decide) (by decide) (v := .long (iL sb)) rfl dX8_runUp_72 ?_
        refine z_lload_n S (pc := 73) dX8_runUp_73 rfl (lv_at hl 2 rfl) ?_
        refine z_lconst S (pc := 74) (x := 0) dX8_runUp_74 rfl ?_
        refine z_lc_ge S (pc := 75) (tgt := 83) (by omega) (by omega) dX8_runUp_75 dX8_runUp_76 rfl (fun c3 => ?_) (fun c3 => ?_)
        · refine z_lconst S (pc := 83) (x := 0) dX8_runUp_83 rfl ?_
          refine z_ladd S (pc := 84) dX8_runUp_84 ?_
          refine z_last S (pc := 85) B 1 2 rfl rfl (k := 18) rfl (by decide) (by decide) dX8_runUp_85 (wn := [cMod a p1 p2 p3 p4 p5 p6 pm x mo rd wr sm, cAt E p1 (up (pU σ sb ad t pk) 18 (sb + 0)) ρ]) (by rw [lmu _ _ (by decide)]; rfl) (fun H locs B => ?_)
          refine z_aload_n S (pc := 86) dX8_runUp_86 rfl (lv_at hl 0 rfl) ?_
          refine z_get S (pc := 87) B iX8_runUp_X8 0 rfl rfl 0 (by decide) rfl rfl (by decide +kernel) dX8_runUp_87 ?_
          refine z_bipush S (pc := 90) dX8_runUp_90 rfl ?_
          refine lv_dup2_11 S.1 S.2.1 (pc := 92) dX8_runUp_92 rfl rfl ?_
          refine z_lald S (pc := 93) B 1 2 rfl rfl (k := 19) rfl (by decide) (by decide) (v := .long (iL ad)) rfl dX8_runUp_93 ?_
          refine z_lload_n S (pc := 94) dX8_runUp_94 rfl (lv_at hl 2 rfl) ?_
          refine z_lconst S (pc := 95) (x := 0) dX8_runUp_95 rfl ?_
          refine z_lc_le S (pc := 96) (tgt := 104) (by omega) (by omega) dX8_runUp_96 dX8_runUp_97 rfl (fun c4 => ?_) (fun c4 => ?_)
          · refine z_lconst S (pc := 104) (x := 0) dX8_runUp_104 rfl ?_
            refine z_ladd S (pc := 105) dX8_runUp_105 ?_
            refine z_last S (pc := 106) B 1 2 rfl rfl (k := 19) rfl (by decide) (by decide) dX8_runUp_106 (wn := [cMod a p1 p2 p3 p4 p5 p6 pm x mo rd wr sm, cAt E p1 (up (up (pU σ sb ad t pk) 18 (sb + 0)) 19 (ad + 0)) ρ]) (by rw [lmu _ _ (by decide)]; rfl) (fun H locs B => ?_)
            refine z_aload_n S (pc := 107) dX8_runUp_107 rfl (lv_at hl 0 rfl) ?_
            refine z_iload_n S (pc := 108) dX8_runUp_108 rfl (lv_at hl 1 rfl) ?_
            refine z_if_eq S (pc := 109) (tgt := 116) (by omega) dX8_runUp_109 rfl (fun c5 => absurd c5 (by omega)) (fun c5 => ?_)
            refine z_lconst S (pc := 112) (x := 0) dX8_runUp_112 rfl ?_
            refine lv_goto S.1 S.2.1 (pc := 113) (tgt := 127) dX8_runUp_113 rfl ?_
            refine z_aload_n S (pc := 127) dX8_runUp_127 rfl (lv_at hl 0 rfl) ?_
            refine z_aload_n S (pc := 128) dX8_runUp_128 rfl (lv_at hl 0 rfl) ?_
            refine z_get S (pc := 129) B iX8_runUp_X8 0 rfl rfl 0 (by decide) rfl rfl (by decide +kernel) dX8_runUp_129 ?_
            refine z_bipush S (pc := 132) dX8_runUp_132 rfl ?_
            refine z_lald S (pc := 134) B 1 2 rfl rfl (k := 11) rfl (by decide) (by decide) (v := .long (iL t)) rfl dX8_runUp_134 ?_
            refine z_callV S (pc := 135) B (wr := []) (wn := fun _ => [cMod a p1 p2 p3 p4 p5 p6 pm x mo rd wr sm, cAt E p1 (up (up (pU σ sb ad t pk) 18 (sb + 0)) 19 (ad + 0)) ρ]) (st1 := fun _ => [.long (iL (offs (σ 3) (σ 4) t)), .long (iL 0), .ref a]) (As := [.long (iL t)]) (mX8_offset l E a p1 p2 p3 p4 p5 p6 (up (up (pU σ sb ad t pk) 18 (sb + 0)) 19 (ad + 0)) ρ pm x mo rd wr sm t (show -100000 ≤ σ 3 ∧ σ 3 ≤ 100000 from by omega) (show -1000 ≤ σ 4 ∧ σ 4 ≤ 1000 from by omega) (show 0 ≤ t ∧ t ≤ 2147483647 from by omega)) gX8_runUp_X8_offset 1 rfl (by decide +kernel) ⟨Nat.le_of_ble_eq_true rfl, Nat.le_of_ble_eq_true rfl, Nat.le_of_ble_eq_true rfl, Nat.le_of_ble_eq_true rfl⟩ 0 rfl (q := (RX8, TX8, 12)) rfl rfl [0, 1] [] [0, 1] rfl rfl ⟨rfl, rfl, rfl, by decide⟩ (fun _ => rfl) rfl (fun _ => rfl) hl.1 (Nat.le_of_ble_eq_true rfl) rfl dX8_runUp_135 (fun _ _ H locs B => ?_)
            have hv1 := inpg_bd (σ 0) (σ 1) (σ 2) t (gn (σ 10))
            have hv2 := offs_bd (σ 3) (σ 4) t
            refine z_ladd S (pc := 138) dX8_runUp_138 ?_
            refine z_lload_n S (pc := 139) dX8_runUp_139 rfl (lv_at hl 2 rfl) ?_
            refine z_ladd S (pc := 140) dX8_runUp_140 ?_
            refine z_callV S (pc := 141) B (wr := []) (wn := fun _ => [cMod a p1 p2 p3 p4 p5 p6 pm (x + ((0 + (offs (σ 3) (σ 4) t)) + rf)) mo rd wr sm, cAt E p1 (up (up (up (up (pU σ sb ad t pk) 18 (sb + 0)) 19 (ad + 0)) 11 (t + 1)) 20 (mx pk (x + ((0 + (offs (σ 3) (σ 4) t)) + rf)))) ρ]) (st1 := fun _ => []) (As := [.long (iL ((0 + (offs (σ 3) (σ 4) t)) + rf))]) (mX8_tick l E a p1 p2 p3 p4 p5 p6 (up (up (pU σ sb ad t pk) 18 (sb + 0)) 19 (ad + 0)) ρ pm x mo rd wr sm ((0 + (offs (σ 3) (σ 4) t)) + rf) (show -1000000000000 ≤ x ∧ x ≤ 1000000000000 from by omega) (show -1000000000000 ≤ ((0 + (offs (σ 3) (σ 4) t)) + rf) ∧ ((0 + (offs (σ 3) (σ 4) t)) + rf) ≤ 1000000000000 from by omega) (show 0 ≤ pk ∧ pk ≤ 2000000000000 from by omega)) gX8_runUp_X8_tick 1 rfl (by decide +kernel) ⟨Nat.le_of_ble_eq_true rfl, Nat.le_of_ble_eq_true rfl, Nat.le_of_ble_eq_true rfl, Nat.le_of_ble_eq_true rfl⟩ 0 rfl (q := (RX8, TX8, 12)) rfl rfl [0, 1] [] [0, 1] rfl rfl ⟨rfl, rfl, rfl, by decide⟩ (fun _ => rfl) rfl (fun _ => rfl) hl.1 (Nat.le_of_ble_eq_true rfl) rfl dX8_runUp_141 (fun _ _ H locs B => ?_)
            refine lv_iinc (v := iI (k + 1)) (lv' := [(4, .int (iI (k + 1))), (0, .ref a), (1, .int (iI 1)), (2, .long (iL rf))]) S.1 S.2.1 (pc := 144) dX8_runUp_144 hl (k := 3) rfl (iI_add _ _) (by decide) rfl (fun ls hl => ?_)
            refine lv_goto S.1 S.2.1 (pc := 147) (tgt := 5) dX8_runUp_147 rfl ?_
            have e1 : dirn (σ 7) (σ 6) k d x = d := dirn_n (fun z => by omega)
            have b1 := stx_bd (md := σ 7) (sl := σ 6) (k := k) (t := t) (volt_bd σ 0) hd hb
            have ex : x + ((0 + (offs (σ 3) (σ 4) t)) + rf) = stx (volt σ 0) (σ 7) (σ 6) k d x t := by unfold stx volt; rw [e1, inpg_0]; omega
            have es : sb + 0 = (if dirn (σ 7) (σ 6) k d x < 0 then sb + 1 else sb) := by rw [e1, if_neg (by omega)]; omega
            have ea : ad + 0 = (if 0 < dirn (σ 7) (σ 6) k d x then ad + 1 else ad) := by rw [e1, if_neg (by omega)]; omega
            rw [pU_s, ex, es, ea] at B
            have b2 := mx_bd (p := pk) (x := stx (volt σ 0) (σ 7) (σ 6) k d x t) (m := 4194304 * (k + 1)) hpk.1 (by omega) (by have := b1.2.1; omega) (by have := b1.2.2; omega)
            exact ih (k + 1) (dirn (σ 7) (σ 6) k d x) (stx (volt σ 0) (σ 7) (σ 6) k d x t) (mx pk (stx (volt σ 0) (σ 7) (σ 6) k d x t)) (if dirn (σ 7) (σ 6) k d x < 0 then sb + 1 else sb) (if 0 < dirn (σ 7) (σ 6) k d x then ad + 1 else ad) (t + 1) rf (by omega) b1.1 (by rw [e1]; omega) (by have := b1.2; omega) b2 (by rw [e1]; split <;> omega) (by rw [e1]; split <;> omega) (by omega) res (by simp only [upL] at hres; exact hres) hx _ _ _ B (lv_sub hl [1, 2, 3, 0] rfl)
          · refine z_lconst S (pc := 100) (x := 1) dX8_runUp_100 rfl ?_
            refine lv_goto S.1 S.2.1 (pc := 101) (tgt := 105) dX8_runUp_101 rfl ?_
            refine z_ladd S (pc := 105) dX8_runUp_105 ?_
            refine z_last S (pc := 106) B 1 2 rfl rfl (k := 19) rfl (by decide) (by decide) dX8_runUp_106 (wn := [cMod a p1 p2 p3 p4 p5 p6 pm x mo rd wr sm, cAt E p1 (up (up (pU σ sb ad t pk) 18 (sb + 0)) 19 (ad + 1)) ρ]) (by rw [lmu _ _ (by decide)]; rfl) (fun H locs B => ?_)
            refine z_aload_n S (pc := 107) dX8_runUp_107 rfl (lv_at hl 0 rfl) ?_
            refine z_iload_n S (pc := 108) dX8_runUp_108 rfl (lv_at hl 1 rfl) ?_
            refine z_if_eq S (pc := 109) (tgt := 116) (by omega) dX8_runUp_109 rfl (fun c6 => absurd c6 (by omega)) (fun c6 => ?_)
            refine z_lconst S (pc := 112) (x := 0) dX8_runUp_112 rfl ?_
            refine lv_goto S.1 S.2.1 (pc := 113) (tgt := 127) dX8_runUp_113 rfl ?_
            refine z_aload_n S (pc := 127) dX8_runUp_127 rfl (lv_at hl 0 rfl) ?_
            refine z_aload_n S (pc := 128) dX8_runUp_128 rfl (lv_at hl 0 rfl) ?_
            refine z_get S (pc := 129) B iX8_runUp_X8 0 rfl rfl 0 (by decide) rfl rfl (by decide +kernel) dX8_runUp_129 ?_
            refine z_bipush S (pc := 132) dX8_runUp_132 rfl ?_
            refine z_lald S (pc := 134) B 1 2 rfl rfl (k := 11) rfl (by decide) (by decide) (v := .long (iL t)) rfl dX8_runUp_134 ?_
            refine z_callV S (pc := 135) B (wr := []) (wn := fun _ => [cMod a p1 p2 p3 p4 p5 p6 pm x mo rd wr sm, cAt E p1 (up (up (pU σ sb ad t pk) 18 (sb + 0)) 19 (ad + 1)) ρ]) (st1 := fun _ => [.long (iL (offs (σ 3) (σ 4) t)), .long (iL 0), .ref a]) (As := [.long (iL t)]) (mX8_offset l E a p1 p2 p3 p4 p5 p6 (up (up (pU σ sb ad t pk) 18 (sb + 0)) 19 (ad + 1)) ρ pm x mo rd wr sm t (show -100000 ≤ σ 3 ∧ σ 3 ≤ 100000 from by omega) (show -1000 ≤ σ 4 ∧ σ 4 ≤ 1000 from by omega) (show 0 ≤ t ∧ t ≤ 2147483647 from by omega)) gX8_runUp_X8_offset 1 rfl (by decide +kernel) ⟨Nat.le_of_ble_eq_true rfl, Nat.le_of_ble_eq_true rfl, Nat.le_of_ble_eq_true rfl, Nat.le_of_ble_eq_true rfl⟩ 0 rfl (q := (RX8, TX8, 12)) rfl rfl [0, 1] [] [0, 1] rfl rfl ⟨rfl, rfl, rfl, by decide⟩ (fun _ => rfl) rfl (fun _ => rfl) hl.1 (Nat.le_of_ble_eq_true rfl) rfl dX8_runUp_135 (fun _ _ H locs B => ?_)
            have hv1 := inpg_bd (σ 0) (σ 1) (σ 2) t (gn (σ 10))
            have hv2 := offs_bd (σ 3) (σ 4) t
            refine z_ladd S (pc := 138) dX8_runUp_138 ?_
            refine z_lload_n S (pc := 139) dX8_runUp_139 rfl (lv_at hl 2 rfl) ?_
            refine z_ladd S (pc := 140) dX8_runUp_140 ?_
            refine z_callV S (pc := 141) B (wr := []) (wn := fun _ => [cMod a p1 p2 p3 p4 p5 p6 pm (x + ((0 + (offs (σ 3) (σ 4) t)) + rf)) mo rd wr sm, cAt E p1 (up (up (up (up (pU σ sb ad t pk) 18 (sb + 0)) 19 (ad + 1)) 11 (t + 1)) 20 (mx pk (x + ((0 + (offs (σ 3) (σ 4) t)) + rf)))) ρ]) (st1 := fun _ => []) (As := [.long (iL ((0 + (offs (σ 3) (σ 4) t)) + rf))]) (mX8_tick l E a p1 p2 p3 p4 p5 p6 (up (up (pU σ sb ad t pk) 18 (sb + 0)) 19 (ad + 1)) ρ pm x mo rd wr sm ((0 + (offs (σ 3) (σ 4) t)) + rf) (show -1000000000000 ≤ x ∧ x ≤ 1000000000000 from by omega) (show -1000000000000 ≤ ((0 + (offs (σ 3) (σ 4) t)) + rf) ∧ ((0 + (offs (σ 3) (σ 4) t)) + rf) ≤ 1000000000000 from by omega) (show 0 ≤ pk ∧ pk ≤ 2000000000000 from by omega)) gX8_runUp_X8_tick 1 rfl (by decide +kernel) ⟨Nat.le_of_ble_eq_true rfl, Nat.le_of_ble_eq_true rfl, Nat.le_of_ble_eq_true rfl, Nat.le_of_ble_eq_true rfl⟩ 0 rfl (q := (RX8, TX8, 12)) rfl rfl [0, 1] [] [0, 1] rfl rfl ⟨rfl, rfl, rfl, by decide⟩ (fun _ => rfl) rfl (fun _ => rfl) hl.1 (Nat.le_of_ble_eq_true rfl) rfl dX8_runUp_141 (fun _ _ H locs B => ?_)
            refine lv_iinc (v := iI (k + 1)) (lv' := [(4, .int (iI (k + 1))), (0, .ref a), (1, .int (iI 1)), (2, .long (iL rf))]) S.1 S.2.1 (pc := 144) dX8_runUp_144 hl (k := 3) rfl (iI_add _ _) (by decide) rfl (fun ls hl => ?_)
            refine lv_goto S.1 S.2.1 (pc := 147) (tgt := 5) dX8_runUp_147 rfl ?_
            have e1 : dirn (σ 7) (σ 6) k d x = d := dirn_n (fun z => by omega)
            have b1 := stx_bd (md := σ 7) (sl := σ 6) (k := k) (t := t) (volt_bd σ 0) hd hb
            have ex : x + ((0 + (offs (σ 3) (σ 4) t)) + rf) = stx (volt σ 0) (σ 7) (σ 6) k d x t := by unfold stx volt; rw [e1, inpg_0]; omega
            have es : sb + 0 = (if dirn (σ 7) (σ 6) k d x < 0 then sb + 1 else sb) := by rw [e1, if_neg (by omega)]; omega
            have ea : ad + 1 = (if 0 < dirn (σ 7) (σ 6) k d x then ad + 1 else ad) := by rw [e1, if_pos (by omega)]
            rw [pU_s, ex, es, ea] at B
            have b2 := mx_bd (p := pk) (x := stx (volt σ 0) (σ 7) (σ 6) k d x t) (m := 4194304 * (k + 1)) hpk.1 (by omega) (by have := b1.2.1; omega) (by have := b1.2.2; omega)
            exact ih (k + 1) (dirn (σ 7) (σ 6) k d x) (stx (volt σ 0) (σ 7) (σ 6) k d x t) (mx pk (stx (volt σ 0) (σ 7) (σ 6) k d x t)) (if dirn (σ 7) (σ 6) k d x < 0 then sb + 1 else sb) (if 0 < dirn (σ 7) (σ 6) k d x then ad + 1 else ad) (t + 1) rf (by omega) b1.1 (by rw [e1]; omega) (by have := b1.2; omega) b2 (by rw [e1]; split <;> omega) (by rw [e1]; split <;> omega) (by omega) res (by simp only [upL] at hres; exact hres) hx _ _ _ B (lv_sub hl [1, 2, 3, 0] rfl)
        · refine z_lconst S (pc := 79) (x := 1) dX8_runUp_79 rfl ?_
          refine lv_goto S.1 S.2.1 (pc := 80) (tgt := 84) dX8_runUp_80 rfl ?_
          refine z_ladd S (pc := 84) dX8_runUp_84 ?_
          refine z_last S (pc := 85) B 1 2 rfl rfl (k := 18) rfl (by decide) (by decide) dX8_runUp_85 (wn := [cMod a p1 p2 p3 p4 p5 p6 pm x mo rd wr sm, cAt E p1 (up (pU σ sb ad t pk) 18 (sb + 1)) ρ]) (by rw [lmu _ _ (by decide)]; rfl) (fun H locs B => ?_)
          refine z_aload_n S (pc := 86) dX8_runUp_86 rfl (lv_at hl 0 rfl) ?_
          refine z_get S (pc := 87) B iX8_runUp_X8 0 rfl rfl 0 (by decide) rfl rfl (by decide +kernel) dX8_runUp_87 ?_
          refine z_bipush S (pc := 90) dX8_runUp_90 rfl ?_
          refine lv_dup2_11 S.1 S.2.1 (pc := 92) dX8_runUp_92 rfl rfl ?_
          refine z_lald S (pc := 93) B 1 2 rfl rfl (k := 19) rfl (by decide) (by decide) (v := .long (iL ad)) rfl dX8_runUp_93 ?_
          refine z_lload_n S (pc := 94) dX8_runUp_94 rfl (lv_at hl 2 rfl) ?_
          refine z_lconst S (pc := 95) (x := 0) dX8_runUp_95 rfl ?_
          refine z_lc_le S (pc := 96) (tgt := 104) (by omega) (by omega) dX8_runUp_96 dX8_runUp_97 rfl (fun c7 => ?_) (fun c7 => ?_)
          · refine z_lconst S (pc := 104) (x := 0) dX8_runUp_104 rfl ?_
            refine z_ladd S (pc := 105) dX8_runUp_105 ?_
            refine z_last S (pc := 106) B 1 2 rfl rfl (k := 19) rfl (by decide) (by decide) dX8_runUp_106 (wn := [cMod a p1 p2 p3 p4 p5 p6 pm x mo rd wr sm, cAt E p1 (up (up (pU σ sb ad t pk) 18 (sb + 1)) 19 (ad + 0)) ρ]) (by rw [lmu _ _ (by decide)]; rfl) (fun H locs B => ?_)
            refine z_aload_n S (pc := 107) dX8_runUp_107 rfl (lv_at hl 0 rfl) ?_
            refine z_iload_n S (pc := 108) dX8_runUp_108 rfl (lv_at hl 1 rfl) ?_
            refine z_if_eq S (pc := 109) (tgt := 116) (by omega) dX8_runUp_109 rfl (fun c8 => absurd c8 (by omega)) (fun c8 => ?_)
            refine z_lconst S (pc := 112) (x := 0) dX8_runUp_112 rfl ?_
            refine lv_goto S.1 S.2.1 (pc := 113) (tgt := 127) dX8_runUp_113 rfl ?_
            refine z_aload_n S (pc := 127) dX8_runUp_127 rfl (lv_at hl 0 rfl) ?_
            refine z_aload_n S (pc := 128) dX8_runUp_128 rfl (lv_at hl 0 rfl) ?_
            refine z_get S (pc := 129) B iX8_runUp_X8 0 rfl rfl 0 (by decide) rfl rfl (by decide +kernel) dX8_runUp_129 ?_
            refine z_bipush S (pc := 132) dX8_runUp_132 rfl ?_
            refine z_lald S (pc := 134) B 1 2 rfl rfl (k := 11) rfl (by decide) (by decide) (v := .long (iL t)) rfl dX8_runUp_134 ?_
            refine z_callV S (pc := 135) B (wr := []) (wn := fun _ => [cMod a p1 p2 p3 p4 p5 p6 pm x mo rd wr sm, cAt E p1 (up (up (pU σ sb ad t pk) 18 (sb + 1)) 19 (ad + 0)) ρ]) (st1 := fun _ => [.long (iL (offs (σ 3) (σ 4) t)), .long (iL 0), .ref a]) (As := [.long (iL t)]) (mX8_offset l E a p1 p2 p3 p4 p5 p6 (up (up (pU σ sb ad t pk) 18 (sb + 1)) 19 (ad + 0)) ρ pm x mo rd wr sm t (show -100000 ≤ σ 3 ∧ σ 3 ≤ 100000 from by omega) (show -1000 ≤ σ 4 ∧ σ 4 ≤ 1000 from by omega) (show 0 ≤ t ∧ t ≤ 2147483647 from by omega)) gX8_runUp_X8_offset 1 rfl (by decide +kernel) ⟨Nat.le_of_ble_eq_true rfl, Nat.le_of_ble_eq_true rfl, Nat.le_of_ble_eq_true rfl, Nat.le_of_ble_eq_true rfl⟩ 0 rfl (q := (RX8, TX8, 12)) rfl rfl [0, 1] [] [0, 1] rfl rfl ⟨rfl, rfl, rfl, by decide⟩ (fun _ => rfl) rfl (fun _ => rfl) hl.1 (Nat.le_of_ble_eq_true rfl) rfl dX8_runUp_135 (fun _ _ H locs B => ?_)
            have hv1 := inpg_bd (σ 0) (σ 1) (σ 2) t (gn (σ 10))
            have hv2 := offs_bd (σ 3) (σ 4) t
            refine z_ladd S (pc := 138) dX8_runUp_138 ?_
            refine z_lload_n S (pc := 139) dX8_runUp_139 rfl (lv_at hl 2 rfl) ?_
            refine z_ladd S (pc := 140) dX8_runUp_140 ?_
            refine z_callV S (pc := 141) B (wr := []) (wn := fun _ => [cMod a p1 p2 p3 p4 p5 p6 pm (x + ((0 + (offs (σ 3) (σ 4) t)) + rf)) mo rd wr sm, cAt E p1 (up (up (up (up (pU σ sb ad t pk) 18 (sb + 1)) 19 (ad + 0)) 11 (t + 1)) 20 (mx pk (x + ((0 + (offs (σ 3) (σ 4) t)) + rf)))) ρ]) (st1 := fun _ => []) (As := [.long (iL ((0 + (offs (σ 3) (σ 4) t)) + rf))]) (mX8_tick l E a p1 p2 p3 p4 p5 p6 (up (up (pU σ sb ad t pk) 18 (sb + 1)) 19 (ad + 0)) ρ pm x mo rd wr sm ((0 + (offs (σ 3) (σ 4) t)) + rf) (show -1000000000000 ≤ x ∧ x ≤ 1000000000000 from by omega) (show -1000000000000 ≤ ((0 + (offs (σ 3) (σ 4) t)) + rf) ∧ ((0 + (offs (σ 3) (σ 4) t)) + rf) ≤ 1000000000000 from by omega) (show 0 ≤ pk ∧ pk ≤ 2000000000000 from by omega)) gX8_runUp_X8_tick 1 rfl (by decide +kernel) ⟨Nat.le_of_ble_eq_true rfl, Nat.le_of_ble_eq_true rfl, Nat.le_of_ble_eq_true rfl, Nat.le_of_ble_eq_true rfl⟩ 0 rfl (q := (RX8, TX8, 12)) rfl rfl [0, 1] [] [0, 1] rfl rfl ⟨rfl, rfl, rfl, by decide⟩ (fun _ => rfl) rfl (fun _ => rfl) hl.1 (Nat.le_of_ble_eq_true rfl) rfl dX8_runUp_141 (fun _ _ H locs B => ?_)
            refine lv_iinc (v := iI (k + 1)) (lv' := [(4, .int (iI (k + 1))), (0, .ref a), (1, .int (iI 1)), (2, .long (iL rf))]) S.1 S.2.1 (pc := 144) dX8_runUp_144 hl (k := 3) rfl (iI_add _ _) (by decide) rfl (fun ls hl => ?_)
            refine lv_goto S.1 S.2.1 (pc := 147) (tgt := 5) dX8_runUp_147 rfl ?_
            have e1 : dirn (σ 7) (σ 6) k d x = d := dirn_n (fun z => by omega)
            have b1 := stx_bd (md := σ 7) (sl := σ 6) (k := k) (t := t) (volt_bd σ 0) hd hb
            have ex : x + ((0 + (offs (σ 3) (σ 4) t)) + rf) = stx (volt σ 0) (σ 7) (σ 6) k d x t := by unfold stx volt; rw [e1, inpg_0]; omega
            have es : sb + 1 = (if dirn (σ 7) (σ 6) k d x < 0 then sb + 1 else sb) := by rw [e1, if_pos (by omega)]
            have ea : ad + 0 = (if 0 < dirn (σ 7) (σ 6) k d x then ad + 1 else ad) := by rw [e1, if_neg (by omega)]; omega
            rw [pU_s, ex, es, ea] at B
            have b2 := mx_bd (p := pk) (x := stx (volt σ 0) (σ 7) (σ 6) k d x t) (m := 4194304 * (k + 1)) hpk.1 (by omega) (by have := b1.2.1; omega) (by have := b1.2.2; omega)
            exact ih (k + 1) (dirn (σ 7) (σ 6) k d x) (stx (volt σ 0) (σ 7) (σ 6) k d x t) (mx pk (stx (volt σ 0) (σ 7) (σ 6) k d x t)) (if dirn (σ 7) (σ 6) k d x < 0 then sb + 1 else sb) (if 0 < dirn (σ 7) (σ 6) k d x then ad + 1 else ad) (t + 1) rf (by omega) b1.1 (by rw [e1]; omega) (by have := b1.2; omega) b2 (by rw [e1]; split <;> omega) (by rw [e1]; split <;> omega) (by omega) res (by simp only [upL] at hres; exact hres) hx _ _ _ B (lv_sub hl [1, 2, 3, 0] rfl)
          · refine z_lconst S (pc := 100) (x := 1) dX8_runUp_100 rfl ?_
            refine lv_goto S.1 S.2.1 (pc := 101) (tgt := 105) dX8_runUp_101 rfl ?_
            refine z_ladd S (pc := 105) dX8_runUp_105 ?_
            refine z_last S (pc := 106) B 1 2 rfl rfl (k := 19) rfl (by decide) (by decide) dX8_runUp_106 (wn := [cMod a p1 p2 p3 p4 p5 p6 pm x mo rd wr sm, cAt E p1 (up (up (pU σ sb ad t pk) 18 (sb + 1)) 19 (ad + 1)) ρ]) (by rw [lmu _ _ (by decide)]; rfl) (fun H locs B => ?_)
            refine z_aload_n S (pc := 107) dX8_runUp_107 rfl (lv_at hl 0 rfl) ?_
            refine z_iload_n S (pc := 108) dX8_runUp_108 rfl (lv_at hl 1 rfl) ?_
            refine z_if_eq S (pc := 109) (tgt := 116) (by omega) dX8_runUp_109 rfl (fun c9 => absurd c9 (by omega)) (fun c9 => ?_)
            refine z_lconst S (pc := 112) (x := 0) dX8_runUp_112 rfl ?_
            refine lv_goto S.1 S.2.1 (pc := 113) (tgt := 127) dX8_runUp_113 rfl ?_
            refine z_aload_n S (pc := 127) dX8_runUp_127 rfl (lv_at hl 0 rfl) ?_
            refine z_aload_n S (pc := 128) dX8_runUp_128 rfl (lv_at hl 0 rfl) ?_
            refine z_get S (pc := 129) B iX8_runUp_X8 0 rfl rfl 0 (by decide) rfl rfl (by decide +kernel) dX8_runUp_129 ?_
            refine z_bipush S (pc := 132) dX8_runUp_132 rfl ?_
            refine z_lald S (pc := 134) B 1 2 rfl rfl (k := 11) rfl (by decide) (by decide) (v := .long (iL t)) rfl dX8_runUp_134 ?_
            refine z_callV S (pc := 135) B (wr := []) (wn := fun _ => [cMod a p1 p2 p3 p4 p5 p6 pm x mo rd wr sm, cAt E p1 (up (up (pU σ sb ad t pk) 18 (sb + 1)) 19 (ad + 1)) ρ]) (st1 := fun _ => [.long (iL (offs (σ 3) (σ 4) t)), .long (iL 0), .ref a]) (As := [.long (iL t)]) (mX8_offset l E a p1 p2 p3 p4 p5 p6 (up (up (pU σ sb ad t pk) 18 (sb + 1)) 19 (ad + 1)) ρ pm x mo rd wr sm t (show -100000 ≤ σ 3 ∧ σ 3 ≤ 100000 from by omega) (show -1000 ≤ σ 4 ∧ σ 4 ≤ 1000 from by omega) (show 0 ≤ t ∧ t ≤ 2147483647 from by omega)) gX8_runUp_X8_offset 1 rfl (by decide +kernel) ⟨Nat.le_of_ble_eq_true rfl, Nat.le_of_ble_eq_true rfl, Nat.le_of_ble_eq_true rfl, Nat.le_of_ble_eq_true rfl⟩ 0 rfl (q := (RX8, TX8, 12)) rfl rfl [0, 1] [] [0, 1] rfl rfl ⟨rfl, rfl, rfl, by decide⟩ (fun _ => rfl) rfl (fun _ => rfl) hl.1 (Nat.le_of_ble_eq_true rfl) rfl dX8_runUp_135 (fun _ _ H locs B => ?_)
            have hv1 := inpg_bd (σ 0) (σ 1) (σ 2) t (gn (σ 10))
            have hv2 := offs_bd (σ 3) (σ 4) t
            refine z_ladd S (pc := 138) dX8_runUp_138 ?_
            refine z_lload_n S (pc := 139) dX8_runUp_139 rfl (lv_at hl 2 rfl) ?_
            refine z_ladd S (pc := 140) dX8_runUp_140 ?_
            refine z_callV S (pc := 141) B (wr := []) (wn := fun _ => [cMod a p1 p2 p3 p4 p5 p6 pm (x + ((0 + (offs (σ 3) (σ 4) t)) + rf)) mo rd wr sm, cAt E p1 (up (up (up (up (pU σ sb ad t pk) 18 (sb + 1)) 19 (ad + 1)) 11 (t + 1)) 20 (mx pk (x + ((0 + (offs (σ 3) (σ 4) t)) + rf)))) ρ]) (st1 := fun _ => []) (As := [.long (iL ((0 + (offs (σ 3) (σ 4) t)) + rf))]) (mX8_tick l E a p1 p2 p3 p4 p5 p6 (up (up (pU σ sb ad t pk) 18 (sb + 1)) 19 (ad + 1)) ρ pm x mo rd wr sm ((0 + (offs (σ 3) (σ 4) t)) + rf) (show -1000000000000 ≤ x ∧ x ≤ 1000000000000 from by omega) (show -1000000000000 ≤ ((0 + (offs (σ 3) (σ 4) t)) + rf) ∧ ((0 + (offs (σ 3) (σ 4) t)) + rf) ≤ 1000000000000 from by omega) (show 0 ≤ pk ∧ pk ≤ 2000000000000 from by omega)) gX8_runUp_X8_tick 1 rfl (by decide +kernel) ⟨Nat.le_of_ble_eq_true rfl, Nat.le_of_ble_eq_true rfl, Nat.le_of_ble_eq_true rfl, Nat.le_of_ble_eq_true rfl⟩ 0 rfl (q := (RX8, TX8, 12)) rfl rfl [0, 1] [] [0, 1] rfl rfl ⟨rfl, rfl, rfl, by decide⟩ (fun _ => rfl) rfl (fun _ => rfl) hl.1 (Nat.le_of_ble_eq_true rfl) rfl dX8_runUp_141 (fun _ _ H locs B => ?_)
            refine lv_iinc (v := iI (k + 1)) (lv' := [(4, .int (iI (k + 1))), (0, .ref a), (1, .int (iI 1)), (2, .long (iL rf))]) S.1 S.2.1 (pc := 144) dX8_runUp_144 hl (k := 3) rfl (iI_add _ _) (by decide) rfl (fun ls hl => ?_)
            refine lv_goto S.1 S.2.1 (pc := 147) (tgt := 5) dX8_runUp_147 rfl ?_
            exact absurd c3 (by omega)
      · refine z_iload S (pc := 30) dX8_runUp_30 (lv_at hl 3 rfl) ?_
        refine z_i2l S (pc := 32) (by omega) dX8_runUp_32 ?_
        refine z_aload_n S (pc := 33) dX8_runUp_33 rfl (lv_at hl 0 rfl) ?_
        refine z_get S (pc := 34) B iX8_runUp_X8 0 rfl rfl 0 (by decide) rfl rfl (by decide +kernel) dX8_runUp_34 ?_
        refine z_bipush S (pc := 37) dX8_runUp_37 rfl ?_
        refine z_lald S (pc := 39) B 1 2 rfl rfl (k := 6) rfl (by decide) (by decide) (v := .long (iL (σ 6))) rfl dX8_runUp_39 ?_
        refine z_lremn S (pc := 40) (by omega) (by omega) dX8_runUp_40 ?_
        refine z_lconst S (pc := 41) (x := 0) dX8_runUp_41 rfl ?_
        refine z_lc_ne S (pc := 42) (tgt := 65) (by omega) (by omega) dX8_runUp_42 dX8_runUp_43 rfl (fun c10 => ?_) (fun c10 => ?_)
        · refine z_aload_n S (pc := 65) dX8_runUp_65 rfl (lv_at hl 0 rfl) ?_
          refine z_get S (pc := 66) B iX8_runUp_X8 0 rfl rfl 0 (by decide) rfl rfl (by decide +kernel) dX8_runUp_66 ?_
          refine z_bipush S (pc := 69) dX8_runUp_69 rfl ?_
          refine lv_dup2_11 S.1 S.2.1 (pc := 71) dX8_runUp_71 rfl rfl ?_
          refine z_lald S (pc := 72) B 1 2 rfl rfl (k := 18) rfl (by decide) (by decide) (v := .long (iL sb)) rfl dX8_runUp_72 ?_
          refine z_lload_n S (pc := 73) dX8_runUp_73 rfl (lv_at hl 2 rfl) ?_
          refine z_lconst S (pc := 74) (x := 0) dX8_runUp_74 rfl ?_
          refine z_lc_ge S (pc := 75) (tgt := 83) (by omega) (by omega) dX8_runUp_75 dX8_runUp_76 rfl (fun c11 => ?_) (fun c11 => ?_)
          · refine z_lconst S (pc := 83) (x := 0) dX8_runUp_83 rfl ?_
            refine z_ladd S (pc := 84) dX8_runUp_84 ?_
            refine z_last S (pc := 85) B 1 2 rfl rfl (k := 18) rfl (by decide) (by decide) dX8_runUp_85 (wn := [cMod a p1 p2 p3 p4 p5 p6 pm x mo rd wr sm, cAt E p1 (up (pU σ sb ad t pk) 18 (sb + 0)) ρ]) (by rw [lmu _ _ (by decide)]; rfl) (fun H locs B => ?_)
            refine z_aload_n S (pc := 86) dX8_runUp_86 rfl (lv_at hl 0 rfl) ?_
            refine z_get S (pc := 87) B iX8_runUp_X8 0 rfl rfl 0 (by decide) rfl rfl (by decide +kernel) dX8_runUp_87 ?_
            refine z_bipush S (pc := 90) dX8_runUp_90 rfl ?_
            refine lv_dup2_11 S.1 S.2.1 (pc := 92) dX8_runUp_92 rfl rfl ?_
            refine z_lald S (pc := 93) B 1 2 rfl rfl (k := 19) rfl (by decide) (by decide) (v := .long (iL ad)) rfl dX8_runUp_93 ?_
            refine z_lload_n S (pc := 94) dX8_runUp_94 rfl (lv_at hl 2 rfl) ?_
            refine z_lconst S (pc := 95) (x := 0) dX8_runUp_95 rfl ?_
            refine z_lc_le S (pc := 96) (tgt := 104) (by omega) (by omega) dX8_runUp_96 dX8_runUp_97 rfl (fun c12 => ?_) (fun c12 => ?_)
            · refine z_lconst S (pc := 104) (x := 0) dX8_runUp_104 rfl ?_
              refine z_ladd S (pc := 105) dX8_runUp_105 ?_
              refine z_last S (pc := 106) B 1 2 rfl rfl (k := 19) rfl (by decide) (by decide) dX8_runUp_106 (wn := [cMod a p1 p2 p3 p4 p5 p6 pm x mo rd wr sm, cAt E p1 (up (up (pU σ sb ad t pk) 18 (sb + 0)) 19 (ad + 0)) ρ]) (by rw [lmu _ _ (by decide)]; rfl) (fun H locs B => ?_)
              refine z_aload_n S (pc := 107) dX8_runUp_107 rfl (lv_at hl 0 rfl) ?_
              refine z_iload_n S (pc := 108) dX8_runUp_108 rfl (lv_at hl 1 rfl) ?_
              refine z_if_eq S (pc := 109) (tgt := 116) (by omega) dX8_runUp_109 rfl (fun c13 => absurd c13 (by omega)) (fun c13 => ?_)
              refine z_lconst S (pc := 112) (x := 0) dX8_runUp_112 rfl ?_
              refine lv_goto S.1 S.2.1 (pc := 113) (tgt := 127) dX8_runUp_113 rfl ?_
              refine z_aload_n S (pc := 127) dX8_runUp_127 rfl (lv_at hl 0 rfl) ?_
              refine z_aload_n S (pc := 128) dX8_runUp_128 rfl (lv_at hl 0 rfl) ?_
              refine z_get S (pc := 129) B iX8_runUp_X8 0 rfl rfl 0 (by decide) rfl rfl (by decide +kernel) dX8_runUp_129 ?_
              refine z_bipush S (pc := 132) dX8_runUp_132 rfl ?_
              refine z_lald S (pc := 134) B 1 2 rfl rfl (k := 11) rfl (by decide) (by decide) (v := .long (iL t)) rfl dX8_runUp_134 ?_
              refine z_callV S (pc := 135) B (wr := []) (wn := fun _ => [cMod a p1 p2 p3 p4 p5 p6 pm x mo rd wr sm, cAt E p1 (up (up (pU σ sb ad t pk) 18 (sb + 0)) 19 (ad + 0)) ρ]) (st1 := fun _ => [.long (iL (offs (σ 3) (σ 4) t)), .long (iL 0), .ref a]) (As := [.long (iL t)]) (mX8_offset l E a p1 p2 p3 p4 p5 p6 (up (up (pU σ sb ad t pk) 18 (sb + 0)) 19 (ad + 0)) ρ pm x mo rd wr sm t (show -100000 ≤ σ 3 ∧ σ 3 ≤ 100000 from by omega) (show -1000 ≤ σ 4 ∧ σ 4 ≤ 1000 from by omega) (show 0 ≤ t ∧ t ≤ 2147483647 from by omega)) gX8_runUp_X8_offset 1 rfl (by decide +kernel) ⟨Nat.le_of_ble_eq_true rfl, Nat.le_of_ble_eq_true rfl, Nat.le_of_ble_eq_true rfl, Nat.le_of_ble_eq_true rfl⟩ 0 rfl (q := (RX8, TX8, 12)) rfl rfl [0, 1] [] [0, 1] rfl rfl ⟨rfl, rfl, rfl, by decide⟩ (fun _ => rfl) rfl (fun _ => rfl) hl.1 (Nat.le_of_ble_eq_true rfl) rfl dX8_runUp_135 (fun _ _ H locs B => ?_)
              have hv1 := inpg_bd (σ 0) (σ 1) (σ 2) t (gn (σ 10))
              have hv2 := offs_bd (σ 3) (σ 4) t
              refine z_ladd S (pc := 138) dX8_runUp_138 ?_
              refine z_lload_n S (pc := 139) dX8_runUp_139 rfl (lv_at hl 2 rfl) ?_
              refine z_ladd S (pc := 140) dX8_runUp_140 ?_
              refine z_callV S (pc := 141) B (wr := []) (wn := fun _ => [cMod a p1 p2 p3 p4 p5 p6 pm (x + ((0 + (offs (σ 3) (σ 4) t)) + rf)) mo rd wr sm, cAt E p1 (up (up (up (up (pU σ sb ad t pk) 18 (sb + 0)) 19 (ad + 0)) 11 (t + 1)) 20 (mx pk (x + ((0 + (offs (σ 3) (σ 4) t)) + rf)))) ρ]) (st1 := fun _ => []) (As := [.long (iL ((0 + (offs (σ 3) (σ 4) t)) + rf))]) (mX8_tick l E a p1 p2 p3 p4 p5 p6 (up (up (pU σ sb ad t pk) 18 (sb + 0)) 19 (ad + 0)) ρ pm x mo rd wr sm ((0 + (offs (σ 3) (σ 4) t)) + rf) (show -1000000000000 ≤ x ∧ x ≤ 1000000000000 from by omega) (show -1000000000000 ≤ ((0 + (offs (σ 3) (σ 4) t)) + rf) ∧ ((0 + (offs (σ 3) (σ 4) t)) + rf) ≤ 1000000000000 from by omega) (show 0 ≤ pk ∧ pk ≤ 2000000000000 from by omega)) gX8_runUp_X8_tick 1 rfl (by decide +kernel) ⟨Nat.le_of_ble_eq_true rfl, Nat.le_of_ble_eq_true rfl, Nat.le_of_ble_eq_true rfl, Nat.le_of_ble_eq_true rfl⟩ 0 rfl (q := (RX8, TX8, 12)) rfl rfl [0, 1] [] [0, 1] rfl rfl ⟨rfl, rfl, rfl, by decide⟩ (fun _ => rfl) rfl (fun _ => rfl) hl.1 (Nat.le_of_ble_eq_true rfl) rfl dX8_runUp_141 (fun _ _ H locs B => ?_)
              refine lv_iinc (v := iI (k + 1)) (lv' := [(4, .int (iI (k + 1))), (0, .ref a), (1, .int (iI 1)), (2, .long (iL rf))]) S.1 S.2.1 (pc := 144) dX8_runUp_144 hl (k := 3) rfl (iI_add _ _) (by decide) rfl (fun ls hl => ?_)
              refine lv_goto S.1 S.2.1 (pc := 147) (tgt := 5) dX8_runUp_147 rfl ?_
              have e1 : dirn (σ 7) (σ 6) k d x = d := dirn_n (fun z => by omega)
              have b1 := stx_bd (md := σ 7) (sl := σ 6) (k := k) (t := t) (volt_bd σ 0) hd hb
              have ex : x + ((0 + (offs (σ 3) (σ 4) t)) + rf) = stx (volt σ 0) (σ 7) (σ 6) k d x t := by unfold stx volt; rw [e1, inpg_0]; omega
              have es : sb + 0 = (if dirn (σ 7) (σ 6) k d x < 0 then sb + 1 else sb) := by rw [e1, if_neg (by omega)]; omega
              have ea : ad + 0 = (if 0 < dirn (σ 7) (σ 6) k d x then ad + 1 else ad) := by rw [e1, if_neg (by omega)]; omega
              rw [pU_s, ex, es, ea] at B
              have b2 := mx_bd (p := pk) (x := stx (volt σ 0) (σ 7) (σ 6) k d x t) (m := 4194304 * (k + 1)) hpk.1 (by omega) (by have := b1.2.1; omega) (by have := b1.2.2; omega)
              exact ih (k + 1) (dirn (σ 7) (σ 6) k d x) (stx (volt σ 0) (σ 7) (σ 6) k d x t) (mx pk (stx (volt σ 0) (σ 7) (σ 6) k d x t)) (if dirn (σ 7) (σ 6) k d x < 0 then sb + 1 else sb) (if 0 < dirn (σ 7) (σ 6) k d x then ad + 1 else ad) (t + 1) rf (by omega) b1.1 (by rw [e1]; omega) (by have := b1.2; omega) b2 (by rw [e1]; split <;> omega) (by rw [e1]; split <;> omega) (by omega) res (by simp only [upL] at hres; exact hres) hx _ _ _ B (lv_sub hl [1, 2, 3, 0] rfl)
            · refine z_lconst S (pc := 100) (x := 1) dX8_runUp_100 rfl ?_
              refine lv_goto S.1 S.2.1 (pc := 101) (tgt := 105) dX8_runUp_101 rfl ?_
              refine z_ladd S (pc := 105) dX8_runUp_105 ?_
              refine z_last S (pc := 106) B 1 2 rfl rfl (k := 19) rfl (by decide) (by decide) dX8_runUp_106 (wn := [cMod a p1 p2 p3 p4 p5 p6 pm x mo rd wr sm, cAt E p1 (up (up (pU σ sb ad t pk) 18 (sb + 0)) 19 (ad + 1)) ρ]) (by rw [lmu _ _ (by decide)]; rfl) (fun H locs B => ?_)
              refine z_aload_n S (pc := 107) dX8_runUp_107 rfl (lv_at hl 0 rfl) ?_
              refine z_iload_n S (pc := 108) dX8_runUp_108 rfl (lv_at hl 1 rfl) ?_
              refine z_if_eq S (pc := 109) (tgt := 116) (by omega) dX8_runUp_109 rfl (fun c14 => absurd c14 (by omega)) (fun c14 => ?_)
              refine z_lconst S (pc := 112) (x := 0) dX8_runUp_112 rfl ?_
              refine lv_goto S.1 S.2.1 (pc := 113) (tgt := 127) dX8_runUp_113 rfl ?_
              refine z_aload_n S (pc := 127) dX8_runUp_127 rfl (lv_at hl 0 rfl) ?_
              refine z_aload_n S (pc := 128) dX8_runUp_128 rfl (lv_at hl 0 rfl) ?_
              refine z_get S (pc := 129) B iX8_runUp_X8 0 rfl rfl 0 (by decide) rfl rfl (by decide +kernel) dX8_runUp_129 ?_
              refine z_bipush S (pc := 132) dX8_runUp_132 rfl ?_
              refine z_lald S (pc := 134) B 1 2 rfl rfl (k := 11) rfl (by decide) (by decide) (v := .long (iL t)) rfl dX8_runUp_134 ?_
              refine z_callV S (pc := 135) B (wr := []) (wn := fun _ => [cMod a p1 p2 p3 p4 p5 p6 pm x mo rd wr sm, cAt E p1 (up (up (pU σ sb ad t pk) 18 (sb + 0)) 19 (ad + 1)) ρ]) (st1 := fun _ => [.long (iL (offs (σ 3) (σ 4) t)), .long (iL 0), .ref a]) (As := [.long (iL t)]) (mX8_offset l E a p1 p2 p3 p4 p5 p6 (up (up (pU σ sb ad t pk) 18 (sb + 0)) 19 (ad + 1)) ρ pm x mo rd wr sm t (show -100000 ≤ σ 3 ∧ σ 3 ≤ 100000 from by omega) (show -1000 ≤ σ 4 ∧ σ 4 ≤ 1000 from by omega) (show 0 ≤ t ∧ t ≤ 2147483647 from by omega)) gX8_runUp_X8_offset 1 rfl (by decide +kernel) ⟨Nat.le_of_ble_eq_true rfl, Nat.le_of_ble_eq_true rfl, Nat.le_of_ble_eq_true rfl, Nat.le_of_ble_eq_true rfl⟩ 0 rfl (q := (RX8, TX8, 12)) rfl rfl [0, 1] [] [0, 1] rfl rfl ⟨rfl, rfl, rfl, by decide⟩ (fun _ => rfl) rfl (fun _ => rfl) hl.1 (Nat.le_of_ble_eq_true rfl) rfl dX8_runUp_135 (fun _ _ H locs B => ?_)
              have hv1 := inpg_bd (σ 0) (σ 1) (σ 2) t (gn (σ 10))
              have hv2 := offs_bd (σ 3) (σ 4) t
              refine z_ladd S (pc := 138) dX8_runUp_138 ?_
              refine z_lload_n S (pc := 139) dX8_runUp_139 rfl (lv_at hl 2 rfl) ?_
              refine z_ladd S (pc := 140) dX8_runUp_140 ?_
              refine z_callV S (pc := 141) B (wr := []) (wn := fun _ => [cMod a p1 p2 p3 p4 p5 p6 pm (x + ((0 + (offs (σ 3) (σ 4) t)) + rf)) mo rd wr sm, cAt E p1 (up (up (up (up (pU σ sb ad t pk) 18 (sb + 0)) 19 (ad + 1)) 11 (t + 1)) 20 (mx pk (x + ((0 + (offs (σ 3) (σ 4) t)) + rf)))) ρ]) (st1 := fun _ => []) (As := [.long (iL ((0 + (offs (σ 3) (σ 4) t)) + rf))]) (mX8_tick l E a p1 p2 p3 p4 p5 p6 (up (up (pU σ sb ad t pk) 18 (sb + 0)) 19 (ad + 1)) ρ pm x mo rd wr sm ((0 + (offs (σ 3) (σ 4) t)) + rf) (show -1000000000000 ≤ x ∧ x ≤ 1000000000000 from by omega) (show -1000000000000 ≤ ((0 + (offs (σ 3) (σ 4) t)) + rf) ∧ ((0 + (offs (σ 3) (σ 4) t)) + rf) ≤ 1000000000000 from by omega) (show 0 ≤ pk ∧ pk ≤ 2000000000000 from by omega)) gX8_runUp_X8_tick 1 rfl (by decide +kernel) ⟨Nat.le_of_ble_eq_true rfl, Nat.le_of_ble_eq_true rfl, Nat.le_of_ble_eq_true rfl, Nat.le_of_ble_eq_true rfl⟩ 0 rfl (q := (RX8, TX8, 12)) rfl rfl [0, 1] [] [0, 1] rfl rfl ⟨rfl, rfl, rfl, by decide⟩ (fun _ => rfl) rfl (fun _ => rfl) hl.1 (Nat.le_of_ble_eq_true rfl) rfl dX8_runUp_141 (fun _ _ H locs B => ?_)
              refine lv_iinc (v := iI (k + 1)) (lv' := [(4, .int (iI (k + 1))), (0, .ref a), (1, .int (iI 1)), (2, .long (iL rf))]) S.1 S.2.1 (pc := 144) dX8_runUp_144 hl (k := 3) rfl (iI_add _ _) (by decide) rfl (fun ls hl => ?_)
              refine lv_goto S.1 S.2.1 (pc := 147) (tgt := 5) dX8_runUp_147 rfl ?_
              have e1 : dirn (σ 7) (σ 6) k d x = d := dirn_n (fun z => by omega)
              have b1 := stx_bd (md := σ 7) (sl := σ 6) (k := k) (t := t) (volt_bd σ 0) hd hb
              have ex : x + ((0 + (offs (σ 3) (σ 4) t)) + rf) = stx (volt σ 0) (σ 7) (σ 6) k d x t := by unfold stx volt; rw [e1, inpg_0]; omega
              have es : sb + 0 = (if dirn (σ 7) (σ 6) k d x < 0 then sb + 1 else sb) := by rw [e1, if_neg (by omega)]; omega
              have ea : ad + 1 = (if 0 < dirn (σ 7) (σ 6) k d x then ad + 1 else ad) := by rw [e1, if_pos (by omega)]
              rw [pU_s, ex, es, ea] at B
              have b2 := mx_bd (p := pk) (x := stx (volt σ 0) (σ 7) (σ 6) k d x t) (m := 4194304 * (k + 1)) hpk.1 (by omega) (by have := b1.2.1; omega) (by have := b1.2.2; omega)
              exact ih (k + 1) (dirn (σ 7) (σ 6) k d x) (stx (volt σ 0) (σ 7) (σ 6) k d x t) (mx pk (stx (volt σ 0) (σ 7) (σ 6) k d x t)) (if dirn (σ 7) (σ 6) k d x < 0 then sb + 1 else sb) (if 0 < dirn (σ 7) (σ 6) k d x then ad + 1 else ad) (t + 1) rf (by omega) b1.1 (by rw [e1]; omega) (by have := b1.2; omega) b2 (by rw [e1]; split <;> omega) (by rw [e1]; split <;> omega) (by omega) res (by simp only [upL] at hres; exact hres) hx _ _ _ B (lv_sub hl [1, 2, 3, 0] rfl)
          · refine z_lconst S (pc := 79) (x := 1) dX8_runUp_79 rfl ?_
            refine lv_goto S.1 S.2.1 (pc := 80) (tgt := 84) dX8_runUp_80 rfl ?_
            refine z_ladd S (pc := 84) dX8_runUp_84 ?_
            refine z_last S (pc := 85) B 1 2 rfl rfl (k := 18) rfl (by decide) (by decide) dX8_runUp_85 (wn := [cMod a p1 p2 p3 p4 p5 p6 pm x mo rd wr sm, cAt E p1 (up (pU σ sb ad t pk) 18 (sb + 1)) ρ]) (by rw [lmu _ _ (by decide)]; rfl) (fun H locs B => ?_)
            refine z_aload_n S (pc := 86) dX8_runUp_86 rfl (lv_at hl 0 rfl) ?_
            refine z_get S (pc := 87) B iX8_runUp_X8 0 rfl rfl 0 (by decide) rfl rfl (by decide +kernel) dX8_runUp_87 ?_
            refine z_bipush S (pc := 90) dX8_runUp_90 rfl ?_
            refine lv_dup2_11 S.1 S.2.1 (pc := 92) dX8_runUp_92 rfl rfl ?_
            refine z_lald S (pc := 93) B 1 2 rfl rfl (k := 19) rfl (by decide) (by decide) (v := .long (iL ad)) rfl dX8_runUp_93 ?_
            refine z_lload_n S (pc := 94) dX8_runUp_94 rfl (lv_at hl 2 rfl) ?_
            refine z_lconst S (pc := 95) (x := 0) dX8_runUp_95 rfl ?_
            refine z_lc_le S (pc := 96) (tgt := 104) (by omega) (by omega) dX8_runUp_96 dX8_runUp_97 rfl (fun c15 => ?_) (fun c15 => ?_)
            · refine z_lconst S (pc := 104) (x := 0) dX8_runUp_104 rfl ?_
              refine z_ladd S (pc := 105) dX8_runUp_105 ?_
              refine z_last S (pc := 106) B 1 2 rfl rfl (k := 19) rfl (by decide) (by decide) dX8_runUp_106 (wn := [cMod a p1 p2 p3 p4 p5 p6 pm x mo rd wr sm, cAt E p1 (up (up (pU σ sb ad t pk) 18 (sb + 1)) 19 (ad + 0)) ρ]) (by rw [lmu _ _ (by decide)]; rfl) (fun H locs B => ?_)
              refine z_aload_n S (pc := 107) dX8_runUp_107 rfl (lv_at hl 0 rfl) ?_
              refine z_iload_n S (pc := 108) dX8_runUp_108 rfl (lv_at hl 1 rfl) ?_
              refine z_if_eq S (pc := 109) (tgt := 116) (by omega) dX8_runUp_109 rfl (fun c16 => absurd c16 (by omega)) (fun c16 => ?_)
              refine z_lconst S (pc := 112) (x := 0) dX8_runUp_112 rfl ?_
              refine lv_goto S.1 S.2.1 (pc := 113) (tgt := 127) dX8_runUp_113 rfl ?_
              refine z_aload_n S (pc := 127) dX8_runUp_127 rfl (lv_at hl 0 rfl) ?_
              refine z_aload_n S (pc := 128) dX8_runUp_128 rfl (lv_at hl 0 rfl) ?_
              refine z_get S (pc := 129) B iX8_runUp_X8 0 rfl rfl 0 (by decide) rfl rfl (by decide +kernel) dX8_runUp_129 ?_
              refine z_bipush S (pc := 132) dX8_runUp_132 rfl ?_
              refine z_lald S (pc := 134) B 1 2 rfl rfl (k := 11) rfl (by decide) (by decide) (v := .long (iL t)) rfl dX8_runUp_134 ?_
              refine z_callV S (pc := 135) B (wr := []) (wn := fun _ => [cMod a p1 p2 p3 p4 p5 p6 pm x mo rd wr sm, cAt E p1 (up (up (pU σ sb ad t pk) 18 (sb + 1)) 19 (ad + 0)) ρ]) (st1 := fun _ => [.long (iL (offs (σ 3) (σ 4) t)), .long (iL 0), .ref a]) (As := [.long (iL t)]) (mX8_offset l E a p1 p2 p3 p4 p5 p6 (up (up (pU σ sb ad t pk) 18 (sb + 1)) 19 (ad + 0)) ρ pm x mo rd wr sm t (show -100000 ≤ σ 3 ∧ σ 3 ≤ 100000 from by omega) (show -1000 ≤ σ 4 ∧ σ 4 ≤ 1000 from by omega) (show 0 ≤ t ∧ t ≤ 2147483647 from by omega)) gX8_runUp_X8_offset 1 rfl (by decide +kernel) ⟨Nat.le_of_ble_eq_true rfl, Nat.le_of_ble_eq_true rfl, Nat.le_of_ble_eq_true rfl, Nat.le_of_ble_eq_true rfl⟩ 0 rfl (q := (RX8, TX8, 12)) rfl rfl [0, 1] [] [0, 1] rfl rfl ⟨rfl, rfl, rfl, by decide⟩ (fun _ => rfl) rfl (fun _ => rfl) hl.1 (Nat.le_of_ble_eq_true rfl) rfl dX8_runUp_135 (fun _ _ H locs B => ?_)
              have hv1 := inpg_bd (σ 0) (σ 1) (σ 2) t (gn (σ 10))
              have hv2 := offs_bd (σ 3) (σ 4) t
              refine z_ladd S (pc := 138) dX8_runUp_138 ?_
              refine z_lload_n S (pc := 139) dX8_runUp_139 rfl (lv_at hl 2 rfl) ?_
              refine z_ladd S (pc := 140) dX8_runUp_140 ?_
              refine z_callV S (pc := 141) B (wr := []) (wn := fun _ => [cMod a p1 p2 p3 p4 p5 p6 pm (x + ((0 + (offs (σ 3) (σ 4) t)) + rf)) mo rd wr sm, cAt E p1 (up (up (up (up (pU σ sb ad t pk) 18 (sb + 1)) 19 (ad + 0)) 11 (t + 1)) 20 (mx pk (x + ((0 + (offs (σ 3) (σ 4) t)) + rf)))) ρ]) (st1 := fun _ => []) (As := [.long (iL ((0 + (offs (σ 3) (σ 4) t)) + rf))]) (mX8_tick l E a p1 p2 p3 p4 p5 p6 (up (up (pU σ sb ad t pk) 18 (sb + 1)) 19 (ad + 0)) ρ pm x mo rd wr sm ((0 + (offs (σ 3) (σ 4) t)) + rf) (show -1000000000000 ≤ x ∧ x ≤ 1000000000000 from by omega) (show -1000000000000 ≤ ((0 + (offs (σ 3) (σ 4) t)) + rf) ∧ ((0 + (offs (σ 3) (σ 4) t)) + rf) ≤ 1000000000000 from by omega) (show 0 ≤ pk ∧ pk ≤ 2000000000000 from by omega)) gX8_runUp_X8_tick 1 rfl (by decide +kernel) ⟨Nat.le_of_ble_eq_true rfl, Nat.le_of_ble_eq_true rfl, Nat.le_of_ble_eq_true rfl, Nat.le_of_ble_eq_true rfl⟩ 0 rfl (q := (RX8, TX8, 12)) rfl rfl [0, 1] [] [0, 1] rfl rfl ⟨rfl, rfl, rfl, by decide⟩ (fun _ => rfl) rfl (fun _ => rfl) hl.1 (Nat.le_of_ble_eq_true rfl) rfl dX8_runUp_141 (fun _ _ H locs B => ?_)
              refine lv_iinc (v := iI (k + 1)) (lv' := [(4, .int (iI (k + 1))), (0, .ref a), (1, .int (iI 1)), (2, .long (iL rf))]) S.1 S.2.1 (pc := 144) dX8_runUp_144 hl (k := 3) rfl (iI_add _ _) (by decide) rfl (fun ls hl => ?_)
              refine lv_goto S.1 S.2.1 (pc := 147) (tgt := 5) dX8_runUp_147 rfl ?_
              have e1 : dirn (σ 7) (σ 6) k d x = d := dirn_n (fun z => by omega)
              have b1 := stx_bd (md := σ 7) (sl := σ 6) (k := k) (t := t) (volt_bd σ 0) hd hb
              have ex : x + ((0 + (offs (σ 3) (σ 4) t)) + rf) = stx (volt σ 0) (σ 7) (σ 6) k d x t := by unfold stx volt; rw [e1, inpg_0]; omega
              have es : sb + 1 = (if dirn (σ 7) (σ 6) k d x < 0 then sb + 1 else sb) := by rw [e1, if_pos (by omega)]
              have ea : ad + 0 = (if 0 < dirn (σ 7) (σ 6) k d x then ad + 1 else ad) := by rw [e1, if_neg (by omega)]; omega
              rw [pU_s, ex, es, ea] at B
              have b2 := mx_bd (p := pk) (x := stx (volt σ 0) (σ 7) (σ 6) k d x t) (m := 4194304 * (k + 1)) hpk.1 (by omega) (by have := b1.2.1; omega) (by have := b1.2.2; omega)
              exact ih (k + 1) (dirn (σ 7) (σ 6) k d x) (stx (volt σ 0) (σ 7) (σ 6) k d x t) (mx pk (stx (volt σ 0) (σ 7) (σ 6) k d x t)) (if dirn (σ 7) (σ 6) k d x < 0 then sb + 1 else sb) (if 0 < dirn (σ 7) (σ 6) k d x then ad + 1 else ad) (t + 1) rf (by omega) b1.1 (by rw [e1]; omega) (by have := b1.2; omega) b2 (by rw [e1]; split <;> omega) (by rw [e1]; split <;> omega) (by omega) res (by simp only [upL] at hres; exact hres) hx _ _ _ B (lv_sub hl [1, 2, 3, 0] rfl)
            · refine z_lconst S (pc := 100) (x := 1) dX8_runUp_100 rfl ?_
              refine lv_goto S.1 S.2.1 (pc := 101) (tgt := 105) dX8_runUp_101 rfl ?_
              refine z_ladd S (pc := 105) dX8_runUp_105 ?_
              refine z_last S (pc := 106) B 1 2 rfl rfl (k := 19) rfl (by decide) (by decide) dX8_runUp_106 (wn := [cMod a p1 p2 p3 p4 p5 p6 pm x mo rd wr sm, cAt E p1 (up (up (pU σ sb ad t pk) 18 (sb + 1)) 19 (ad + 1)) ρ]) (by rw [lmu _ _ (by decide)]; rfl) (fun H locs B => ?_)
              refine z_aload_n S (pc := 107) dX8_runUp_107 rfl (lv_at hl 0 rfl) ?_
              refine z_iload_n S (pc := 108) dX8_runUp_108 rfl (lv_at hl 1 rfl) ?_
              refine z_if_eq S (pc := 109) (tgt := 116) (by omega) dX8_runUp_109 rfl (fun c17 => absurd c17 (by omega)) (fun c17 => ?_)
              refine z_lconst S (pc := 112) (x := 0) dX8_runUp_112 rfl ?_
              refine lv_goto S.1 S.2.1 (pc := 113) (tgt := 127) dX8_runUp_113 rfl ?_
              refine z_aload_n S (pc := 127) dX8_runUp_127 rfl (lv_at hl 0 rfl) ?_
              refine z_aload_n S (pc := 128) dX8_runUp_128 rfl (lv_at hl 0 rfl) ?_
              refine z_get S (pc := 129) B iX8_runUp_X8 0 rfl rfl 0 (by decide) rfl rfl (by decide +kernel) dX8_runUp_129 ?_
              refine z_bipush S (pc := 132) dX8_runUp_132 rfl ?_
              refine z_lald S (pc := 134) B 1 2 rfl rfl (k := 11) rfl (by decide) (by decide) (v := .long (iL t)) rfl dX8_runUp_134 ?_
              refine z_callV S (pc := 135) B (wr := []) (wn := fun _ => [cMod a p1 p2 p3 p4 p5 p6 pm x mo rd wr sm, cAt E p1 (up (up (pU σ sb ad t pk) 18 (sb + 1)) 19 (ad + 1)) ρ]) (st1 := fun _ => [.long (iL (offs (σ 3) (σ 4) t)), .long (iL 0), .ref a]) (As := [.long (iL t)]) (mX8_offset l E a p1 p2 p3 p4 p5 p6 (up (up (pU σ sb ad t pk) 18 (sb + 1)) 19 (ad + 1)) ρ pm x mo rd wr sm t (show -100000 ≤ σ 3 ∧ σ 3 ≤ 100000 from by omega) (show -1000 ≤ σ 4 ∧ σ 4 ≤ 1000 from by omega) (show 0 ≤ t ∧ t ≤ 2147483647 from by omega)) gX8_runUp_X8_offset 1 rfl (by decide +kernel) ⟨Nat.le_of_ble_eq_true rfl, Nat.le_of_ble_eq_true rfl, Nat.le_of_ble_eq_true rfl, Nat.le_of_ble_eq_true rfl⟩ 0 rfl (q := (RX8, TX8, 12)) rfl rfl [0, 1] [] [0, 1] rfl rfl ⟨rfl, rfl, rfl, by decide⟩ (fun _ => rfl) rfl (fun _ => rfl) hl.1 (Nat.le_of_ble_eq_true rfl) rfl dX8_runUp_135 (fun _ _ H locs B => ?_)
              have hv1 := inpg_bd (σ 0) (σ 1) (σ 2) t (gn (σ 10))
              have hv2 := offs_bd (σ 3) (σ 4) t
              refine z_ladd S (pc := 138) dX8_runUp_138 ?_
              refine z_lload_n S (pc := 139) dX8_runUp_139 rfl (lv_at hl 2 rfl) ?_
              refine z_ladd S (pc := 140) dX8_runUp_140 ?_
              refine z_callV S (pc := 141) B (wr := []) (wn := fun _ => [cMod a p1 p2 p3 p4 p5 p6 pm (x + ((0 + (offs (σ 3) (σ 4) t)) + rf)) mo rd wr sm, cAt E p1 (up (up (up (up (pU σ sb ad t pk) 18 (sb + 1)) 19 (ad + 1)) 11 (t + 1)) 20 (mx pk (x + ((0 + (offs (σ 3) (σ 4) t)) + rf)))) ρ]) (st1 := fun _ => []) (As := [.long (iL ((0 + (offs (σ 3) (σ 4) t)) + rf))]) (mX8_tick l E a p1 p2 p3 p4 p5 p6 (up (up (pU σ sb ad t pk) 18 (sb + 1)) 19 (ad + 1)) ρ pm x mo rd wr sm ((0 + (offs (σ 3) (σ 4) t)) + rf) (show -1000000000000 ≤ x ∧ x ≤ 1000000000000 from by omega) (show -1000000000000 ≤ ((0 + (offs (σ 3) (σ 4) t)) + rf) ∧ ((0 + (offs (σ 3) (σ 4) t)) + rf) ≤ 1000000000000 from by omega) (show 0 ≤ pk ∧ pk ≤ 2000000000000 from by omega)) gX8_runUp_X8_tick 1 rfl (by decide +kernel) ⟨Nat.le_of_ble_eq_true rfl, Nat.le_of_ble_eq_true rfl, Nat.le_of_ble_eq_true rfl, Nat.le_of_ble_eq_true rfl⟩ 0 rfl (q := (RX8, TX8, 12)) rfl rfl [0, 1] [] [0, 1] rfl rfl ⟨rfl, rfl, rfl, by decide⟩ (fun _ => rfl) rfl (fun _ => rfl) hl.1 (Nat.le_of_ble_eq_true rfl) rfl dX8_runUp_141 (fun _ _ H locs B => ?_)
              refine lv_iinc (v := iI (k + 1)) (lv' := [(4, .int (iI (k + 1))), (0, .ref a), (1, .int (iI 1)), (2, .long (iL rf))]) S.1 S.2.1 (pc := 144) dX8_runUp_144 hl (k := 3) rfl (iI_add _ _) (by decide) rfl (fun ls hl => ?_)
              refine lv_goto S.1 S.2.1 (pc := 147) (tgt := 5) dX8_runUp_147 rfl ?_
              exact absurd c11 (by omega)
        · refine z_aload_n S (pc := 46) dX8_runUp_46 rfl (lv_at hl 0 rfl) ?_
          refine z_get S (pc := 47) B iX8_runUp_X8 0 rfl rfl 6 (by decide) rfl rfl (by decide +kernel) dX8_runUp_47 ?_
          refine z_lconst S (pc := 50) (x := 0) dX8_runUp_50 rfl ?_
          refine z_lc_le S (pc := 51) (tgt := 61) (by omega) (by omega) dX8_runUp_51 dX8_runUp_52 rfl (fun c18 => ?_) (fun c18 => ?_)
          · refine z_ldc2 S (pc := 61) (x := 1048576) (by decide +kernel) rfl dX8_runUp_61 ?_
            refine lv_lstore_n (lv' := [(2, .long (iL 1048576)), (0, .ref a), (1, .int (iI 1)), (4, .int (iI k))]) S.1 S.2.1 (pc := 64) dX8_runUp_64 rfl hl (by decide) rfl (fun ls hl => ?_)
            refine z_aload_n S (pc := 65) dX8_runUp_65 rfl (lv_at hl 1 rfl) ?_
            refine z_get S (pc := 66) B iX8_runUp_X8 0 rfl rfl 0 (by decide) rfl rfl (by decide +kernel) dX8_runUp_66 ?_
            refine z_bipush S (pc := 69) dX8_runUp_69 rfl ?_
            refine lv_dup2_11 S.1 S.2.1 (pc := 71) dX8_runUp_71 rfl rfl ?_
            refine z_lald S (pc := 72) B 1 2 rfl rfl (k := 18) rfl (by decide) (by decide) (v := .long (iL sb)) rfl dX8_runUp_72 ?_
            refine z_lload_n S (pc := 73) dX8_runUp_73 rfl (lv_at hl 0 rfl) ?_
            refine z_lconst S (pc := 74) (x := 0) dX8_runUp_74 rfl ?_
            refine z_lc_ge S (pc := 75) (tgt := 83) (by omega) (by omega) dX8_runUp_75 dX8_runUp_76 rfl (fun c19 => ?_) (fun c19 => absurd c19 (by omega))
            refine z_lconst S (pc := 83) (x := 0) dX8_runUp_83 rfl ?_
            refine z_ladd S (pc := 84) dX8_runUp_84 ?_
            refine z_last S (pc := 85) B 1 2 rfl rfl (k := 18) rfl (by decide) (by decide) dX8_runUp_85 (wn := [cMod a p1 p2 p3 p4 p5 p6 pm x mo rd wr sm, cAt E p1 (up (pU σ sb ad t pk) 18 (sb + 0)) ρ]) (by rw [lmu _ _ (by decide)]; rfl) (fun H locs B => ?_)
            refine z_aload_n S (pc := 86) dX8_runUp_86 rfl (lv_at hl 1 rfl) ?_
            refine z_get S (pc := 87) B iX8_runUp_X8 0 rfl rfl 0 (by decide) rfl rfl (by decide +kernel) dX8_runUp_87 ?_
            refine z_bipush S (pc := 90) dX8_runUp_90 rfl ?_
            refine lv_dup2_11 S.1 S.2.1 (pc := 92) dX8_runUp_92 rfl rfl ?_
            refine z_lald S (pc := 93) B 1 2 rfl rfl (k := 19) rfl (by decide) (by decide) (v := .long (iL ad)) rfl dX8_runUp_93 ?_
            refine z_lload_n S (pc := 94) dX8_runUp_94 rfl (lv_at hl 0 rfl) ?_
            refine z_lconst S (pc := 95) (x := 0) dX8_runUp_95 rfl ?_
            refine z_lc_le S (pc := 96) (tgt := 104) (by omega) (by omega) dX8_runUp_96 dX8_runUp_97 rfl (fun c20 => absurd c20 (by omega)) (fun c20 => ?_)
            refine z_lconst S (pc := 100) (x := 1) dX8_runUp_100 rfl ?_
            refine lv_goto S.1 S.2.1 (pc := 101) (tgt := 105) dX8_runUp_101 rfl ?_
            refine z_ladd S (pc := 105) dX8_runUp_105 ?_
            refine z_last S (pc := 106) B 1 2 rfl rfl (k := 19) rfl (by decide) (by decide) dX8_runUp_106 (wn := [cMod a p1 p2 p3 p4 p5 p6 pm x mo rd wr sm, cAt E p1 (up (up (pU σ sb ad t pk) 18 (sb + 0)) 19 (ad + 1)) ρ]) (by rw [lmu _ _ (by decide)]; rfl) (fun H locs B => ?_)
            refine z_aload_n S (pc := 107) dX8_runUp_107 rfl (lv_at hl 1 rfl) ?_
            refine z_iload_n S (pc := 108) dX8_runUp_108 rfl (lv_at hl 2 rfl) ?_
            refine z_if_eq S (pc := 109) (tgt := 116) (by omega) dX8_runUp_109 rfl (fun c21 => absurd c21 (by omega)) (fun c21 => ?_)
            refine z_lconst S (pc := 112) (x := 0) dX8_runUp_112 rfl ?_
            refine lv_goto S.1 S.2.1 (pc := 113) (tgt := 127) dX8_runUp_113 rfl ?_
            refine z_aload_n S (pc := 127) dX8_runUp_127 rfl (lv_at hl 1 rfl) ?_
            refine z_aload_n S (pc := 128) dX8_runUp_128 rfl (lv_at hl 1 rfl) ?_
            refine z_get S (pc := 129) B iX8_runUp_X8 0 rfl rfl 0 (by decide) rfl rfl (by decide +kernel) dX8_runUp_129 ?_
            refine z_bipush S (pc := 132) dX8_runUp_132 rfl ?_
            refine z_lald S (pc := 134) B 1 2 rfl rfl (k := 11) rfl (by decide) (by decide) (v := .long (iL t)) rfl dX8_runUp_134 ?_
            refine z_callV S (pc := 135) B (wr := []) (wn := fun _ => [cMod a p1 p2 p3 p4 p5 p6 pm x mo rd wr sm, cAt E p1 (up (up (pU σ sb ad t pk) 18 (sb + 0)) 19 (ad + 1)) ρ]) (st1 := fun _ => [.long (iL (offs (σ 3) (σ 4) t)), .long (iL 0), .ref a]) (As := [.long (iL t)]) (mX8_offset l E a p1 p2 p3 p4 p5 p6 (up (up (pU σ sb ad t pk) 18 (sb + 0)) 19 (ad + 1)) ρ pm x mo rd wr sm t (show -100000 ≤ σ 3 ∧ σ 3 ≤ 100000 from by omega) (show -1000 ≤ σ 4 ∧ σ 4 ≤ 1000 from by omega) (show 0 ≤ t ∧ t ≤ 2147483647 from by omega)) gX8_runUp_X8_offset 1 rfl (by decide +kernel) ⟨Nat.le_of_ble_eq_true rfl, Nat.le_of_ble_eq_true rfl, Nat.le_of_ble_eq_true rfl, Nat.le_of_ble_eq_true rfl⟩ 0 rfl (q := (RX8, TX8, 12)) rfl rfl [0, 1] [] [0, 1] rfl rfl ⟨rfl, rfl, rfl, by decide⟩ (fun _ => rfl) rfl (fun _ => rfl) hl.1 (Nat.le_of_ble_eq_true rfl) rfl dX8_runUp_135 (fun _ _ H locs B => ?_)
            have hv1 := inpg_bd (σ 0) (σ 1) (σ 2) t (gn (σ 10))
            have hv2 := offs_bd (σ 3) (σ 4) t
            refine z_ladd S (pc := 138) dX8_runUp_138 ?_
            refine z_lload_n S (pc := 139) dX8_runUp_139 rfl (lv_at hl 0 rfl) ?_
            refine z_ladd S (pc := 140) dX8_runUp_140 ?_
            refine z_callV S (pc := 141) B (wr := []) (wn := fun _ => [cMod a p1 p2 p3 p4 p5 p6 pm (x + ((0 + (offs (σ 3) (σ 4) t)) + 1048576)) mo rd wr sm, cAt E p1 (up (up (up (up (pU σ sb ad t pk) 18 (sb + 0)) 19 (ad + 1)) 11 (t + 1)) 20 (mx pk (x + ((0 + (offs (σ 3) (σ 4) t)) + 1048576)))) ρ]) (st1 := fun _ => []) (As := [.long (iL ((0 + (offs (σ 3) (σ 4) t)) + 1048576))]) (mX8_tick l E a p1 p2 p3 p4 p5 p6 (up (up (pU σ sb ad t pk) 18 (sb + 0)) 19 (ad + 1)) ρ pm x mo rd wr sm ((0 + (offs (σ 3) (σ 4) t)) + 1048576) (show -1000000000000 ≤ x ∧ x ≤ 1000000000000 from by omega) (show -1000000000000 ≤ ((0 + (offs (σ 3) (σ 4) t)) + 1048576) ∧ ((0 + (offs (σ 3) (σ 4) t)) + 1048576) ≤ 1000000000000 from by omega) (show 0 ≤ pk ∧ pk ≤ 2000000000000 from by omega)) gX8_runUp_X8_tick 1 rfl (by decide +kernel) ⟨Nat.le_of_ble_eq_true rfl, Nat.le_of_ble_eq_true rfl, Nat.le_of_ble_eq_true rfl, Nat.le_of_ble_eq_true rfl⟩ 0 rfl (q := (RX8, TX8, 12)) rfl rfl [0, 1] [] [0, 1] rfl rfl ⟨rfl, rfl, rfl, by decide⟩ (fun _ => rfl) rfl (fun _ => rfl) hl.1 (Nat.le_of_ble_eq_true rfl) rfl dX8_runUp_141 (fun _ _ H locs B => ?_)
            refine lv_iinc (v := iI (k + 1)) (lv' := [(4, .int (iI (k + 1))), (2, .long (iL 1048576)), (0, .ref a), (1, .int (iI 1))]) S.1 S.2.1 (pc := 144) dX8_runUp_144 hl (k := 3) rfl (iI_add _ _) (by decide) rfl (fun ls hl => ?_)
            refine lv_goto S.1 S.2.1 (pc := 147) (tgt := 5) dX8_runUp_147 rfl ?_
            have e1 : dirn (σ 7) (σ 6) k d x = 1 := dirn_a ⟨by omega, by omega⟩ (by omega)
            have b1 := stx_bd (md := σ 7) (sl := σ 6) (k := k) (t := t) (volt_bd σ 0) hd hb
            have ex : x + ((0 + (offs (σ 3) (σ 4) t)) + 1048576) = stx (volt σ 0) (σ 7) (σ 6) k d x t := by unfold stx volt; rw [e1, inpg_0]; omega
            have es : sb + 0 = (if dirn (σ 7) (σ 6) k d x < 0 then sb + 1 else sb) := by rw [e1, if_neg (by omega)]; omega
            have ea : ad + 1 = (if 0 < dirn (σ 7) (σ 6) k d x then ad + 1 else ad) := by rw [e1, if_pos (by omega)]
            rw [pU_s, ex, es, ea] at B
            have b2 := mx_bd (p := pk) (x := stx (volt σ 0) (σ 7) (σ 6) k d x t) (m := 4194304 * (k + 1)) hpk.1 (by omega) (by have := b1.2.1; omega) (by have := b1.2.2; omega)
            exact ih (k + 1) (dirn (σ 7) (σ 6) k d x) (stx (volt σ 0) (σ 7) (σ 6) k d x t) (mx pk (stx (volt σ 0) (σ 7) (σ 6) k d x t)) (if dirn (σ 7) (σ 6) k d x < 0 then sb + 1 else sb) (if 0 < dirn (σ 7) (σ 6) k d x then ad + 1 else ad) (t + 1) 1048576 (by omega) b1.1 (by rw [e1]; omega) (by have := b1.2; omega) b2 (by rw [e1]; split <;> omega) (by rw [e1]; split <;> omega) (by omega) res (by simp only [upL] at hres; exact hres) hx _ _ _ B (lv_sub hl [2, 3, 1, 0] rfl)
          · refine z_ldc2 S (pc := 55) (x := (-1048576)) (by decide +kernel) rfl dX8_runUp_55 ?_
            refine lv_goto S.1 S.2.1 (pc := 58) (tgt := 64) dX8_runUp_58 rfl ?_
            refine lv_lstore_n (lv' := [(2, .long (iL (-1048576))), (0, .ref a), (1, .int (iI 1)), (4, .int (iI k))]) S.1 S.2.1 (pc := 64) dX8_runUp_64 rfl hl (by decide) rfl (fun ls hl => ?_)
            refine z_aload_n S (pc := 65) dX8_runUp_65 rfl (lv_at hl 1 rfl) ?_
            refine z_get S (pc := 66) B iX8_runUp_X8 0 rfl rfl 0 (by decide) rfl rfl (by decide +kernel) dX8_runUp_66 ?_
            refine z_bipush S (pc := 69) dX8_runUp_69 rfl ?_
            refine lv_dup2_11 S.1 S.2.1 (pc := 71) dX8_runUp_71 rfl rfl ?_
            refine z_lald S (pc := 72) B 1 2 rfl rfl (k := 18) rfl (by decide) (by decide) (v := .long (iL sb)) rfl dX8_runUp_72 ?_
            refine z_lload_n S (pc := 73) dX8_runUp_73 rfl (lv_at hl 0 rfl) ?_
            refine z_lconst S (pc := 74) (x := 0) dX8_runUp_74 rfl ?_
            refine z_lc_ge S (pc := 75) (tgt := 83) (by omega) (by omega) dX8_runUp_75 dX8_runUp_76 rfl (fun c22 => absurd c22 (by omega)) (fun c22 => ?_)
            refine z_lconst S (pc := 79) (x := 1) dX8_runUp_79 rfl ?_
            refine lv_goto S.1 S.2.1 (pc := 80) (tgt := 84) dX8_runUp_80 rfl ?_
            refine z_ladd S (pc := 84) dX8_runUp_84 ?_
            refine z_last S (pc := 85) B 1 2 rfl rfl (k := 18) rfl (by decide) (by decide) dX8_runUp_85 (wn := [cMod a p1 p2 p3 p4 p5 p6 pm x mo rd wr sm, cAt E p1 (up (pU σ sb ad t pk) 18 (sb + 1)) ρ]) (by rw [lmu _ _ (by decide)]; rfl) (fun H locs B => ?_)
            refine z_aload_n S (pc := 86) dX8_runUp_86 rfl (lv_at hl 1 rfl) ?_
            refine z_get S (pc := 87) B iX8_runUp_X8 0 rfl rfl 0 (by decide) rfl rfl (by decide +kernel) dX8_runUp_87 ?_
            refine z_bipush S (pc := 90) dX8_runUp_90 rfl ?_
            refine lv_dup2_11 S.1 S.2.1 (pc := 92) dX8_runUp_92 rfl rfl ?_
            refine z_lald S (pc := 93) B 1 2 rfl rfl (k := 19) rfl (by decide) (by decide) (v := .long (iL ad)) rfl dX8_runUp_93 ?_
            refine z_lload_n S (pc := 94) dX8_runUp_94 rfl (lv_at hl 0 rfl) ?_
            refine z_lconst S (pc := 95) (x := 0) dX8_runUp_95 rfl ?_
            refine z_lc_le S (pc := 96) (tgt := 104) (by omega) (by omega) dX8_runUp_96 dX8_runUp_97 rfl (fun c23 => ?_) (fun c23 => absurd c23 (by omega))
            refine z_lconst S (pc := 104) (x := 0) dX8_runUp_104 rfl ?_
            refine z_ladd S (pc := 105) dX8_runUp_105 ?_
            refine z_last S (pc := 106) B 1 2 rfl rfl (k := 19) rfl (by decide) (by decide) dX8_runUp_106 (wn := [cMod a p1 p2 p3 p4 p5 p6 pm x mo rd wr sm, cAt E p1 (up (up (pU σ sb ad t pk) 18 (sb + 1)) 19 (ad + 0)) ρ]) (by rw [lmu _ _ (by decide)]; rfl) (fun H locs B => ?_)
            refine z_aload_n S (pc := 107) dX8_runUp_107 rfl (lv_at hl 1 rfl) ?_
            refine z_iload_n S (pc := 108) dX8_runUp_108 rfl (lv_at hl 2 rfl) ?_
            refine z_if_eq S (pc := 109) (tgt := 116) (by omega) dX8_runUp_109 rfl (fun c24 => absurd c24 (by omega)) (fun c24 => ?_)
            refine z_lconst S (pc := 112) (x := 0) dX8_runUp_112 rfl ?_
            refine lv_goto S.1 S.2.1 (pc := 113) (tgt := 127) dX8_runUp_113 rfl ?_
            refine z_aload_n S (pc := 127) dX8_runUp_127 rfl (lv_at hl 1 rfl) ?_
            refine z_aload_n S (pc := 128) dX8_runUp_128 rfl (lv_at hl 1 rfl) ?_
            refine z_get S (pc := 129) B iX8_runUp_X8 0 rfl rfl 0 (by decide) rfl rfl (by decide +kernel) dX8_runUp_129 ?_
            refine z_bipush S (pc := 132) dX8_runUp_132 rfl ?_
            refine z_lald S (pc := 134) B 1 2 rfl rfl (k := 11) rfl (by decide) (by decide) (v := .long (iL t)) rfl dX8_runUp_134 ?_
            refine z_callV S (pc := 135) B (wr := []) (wn := fun _ => [cMod a p1 p2 p3 p4 p5 p6 pm x mo rd wr sm, cAt E p1 (up (up (pU σ sb ad t pk) 18 (sb + 1)) 19 (ad + 0)) ρ]) (st1 := fun _ => [.long (iL (offs (σ 3) (σ 4) t)), .long (iL 0), .ref a]) (As := [.long (iL t)]) (mX8_offset l E a p1 p2 p3 p4 p5 p6 (up (up (pU σ sb ad t pk) 18 (sb + 1)) 19 (ad + 0)) ρ pm x mo rd wr sm t (show -100000 ≤ σ 3 ∧ σ 3 ≤ 100000 from by omega) (show -1000 ≤ σ 4 ∧ σ 4 ≤ 1000 from by omega) (show 0 ≤ t ∧ t ≤ 2147483647 from by omega)) gX8_runUp_X8_offset 1 rfl (by decide +kernel) ⟨Nat.le_of_ble_eq_true rfl, Nat.le_of_ble_eq_true rfl, Nat.le_of_ble_eq_true rfl, Nat.le_of_ble_eq_true rfl⟩ 0 rfl (q := (RX8, TX8, 12)) rfl rfl [0, 1] [] [0, 1] rfl rfl ⟨rfl, rfl, rfl, by decide⟩ (fun _ => rfl) rfl (fun _ => rfl) hl.1 (Nat.le_of_ble_eq_true rfl) rfl dX8_runUp_135 (fun _ _ H locs B => ?_)
            have hv1 := inpg_bd (σ 0) (σ 1) (σ 2) t (gn (σ 10))
            have hv2 := offs_bd (σ 3) (σ 4) t
            refine z_ladd S (pc := 138) dX8_runUp_138 ?_
            refine z_lload_n S (pc := 139) dX8_runUp_139 rfl (lv_at hl 0 rfl) ?_
            refine z_ladd S (pc := 140) dX8_runUp_140 ?_
            refine z_callV S (pc := 141) B (wr := []) (wn := fun _ => [cMod a p1 p2 p3 p4 p5 p6 pm (x + ((0 + (offs (σ 3) (σ 4) t)) + (-1048576))) mo rd wr sm, cAt E p1 (up (up (up (up (pU σ sb ad t pk) 18 (sb + 1)) 19 (ad + 0)) 11 (t + 1)) 20 (mx pk (x + ((0 + (offs (σ 3) (σ 4) t)) + (-1048576))))) ρ]) (st1 := fun _ => []) (As := [.long (iL ((0 + (offs (σ 3) (σ 4) t)) + (-1048576)))]) (mX8_tick l E a p1 p2 p3 p4 p5 p6 (up (up (pU σ sb ad t pk) 18 (sb + 1)) 19 (ad + 0)) ρ pm x mo rd wr sm ((0 + (offs (σ 3) (σ 4) t)) + (-1048576)) (show -1000000000000 ≤ x ∧ x ≤ 1000000000000 from by omega) (show -1000000000000 ≤ ((0 + (offs (σ 3) (σ 4) t)) + (-1048576)) ∧ ((0 + (offs (σ 3) (σ 4) t)) + (-1048576)) ≤ 1000000000000 from by omega) (show 0 ≤ pk ∧ pk ≤ 2000000000000 from by omega)) gX8_runUp_X8_tick 1 rfl (by decide +kernel) ⟨Nat.le_of_ble_eq_true rfl, Nat.le_of_ble_eq_true rfl, Nat.le_of_ble_eq_true rfl, Nat.le_of_ble_eq_true rfl⟩ 0 rfl (q := (RX8, TX8, 12)) rfl rfl [0, 1] [] [0, 1] rfl rfl ⟨rfl, rfl, rfl, by decide⟩ (fun _ => rfl) rfl (fun _ => rfl) hl.1 (Nat.le_of_ble_eq_true rfl) rfl dX8_runUp_141 (fun _ _ H locs B => ?_)
            refine lv_iinc (v := iI (k + 1)) (lv' := [(4, .int (iI (k + 1))), (2, .long (iL (-1048576))), (0, .ref a), (1, .int (iI 1))]) S.1 S.2.1 (pc := 144) dX8_runUp_144 hl (k := 3) rfl (iI_add _ _) (by decide) rfl (fun ls hl => ?_)
            refine lv_goto S.1 S.2.1 (pc := 147) (tgt := 5) dX8_runUp_147 rfl ?_
            have e1 : dirn (σ 7) (σ 6) k d x = -1 := dirn_s ⟨by omega, by omega⟩ (by omega)
            have b1 := stx_bd (md := σ 7) (sl := σ 6) (k := k) (t := t) (volt_bd σ 0) hd hb
            have ex : x + ((0 + (offs (σ 3) (σ 4) t)) + (-1048576)) = stx (volt σ 0) (σ 7) (σ 6) k d x t := by unfold stx volt; rw [e1, inpg_0]; omega
            have es : sb + 1 = (if dirn (σ 7) (σ 6) k d x < 0 then sb + 1 else sb) := by rw [e1, if_pos (by omega)]
            have ea : ad + 0 = (if 0 < dirn (σ 7) (σ 6) k d x then ad + 1 else ad) := by rw [e1, if_neg (by omega)]; omega
            rw [pU_s, ex, es, ea] at B
            have b2 := mx_bd (p := pk) (x := stx (volt σ 0) (σ 7) (σ 6) k d x t) (m := 4194304 * (k + 1)) hpk.1 (by omega) (by have := b1.2.1; omega) (by have := b1.2.2; omega)
            exact ih (k + 1) (dirn (σ 7) (σ 6) k d x) (stx (volt σ 0) (σ 7) (σ 6) k d x t) (mx pk (stx (volt σ 0) (σ 7) (σ 6) k d x t)) (if dirn (σ 7) (σ 6) k d x < 0 then sb + 1 else sb) (if 0 < dirn (σ 7) (σ 6) k d x then ad + 1 else ad) (t + 1) (-1048576) (by omega) b1.1 (by rw [e1]; omega) (by have := b1.2; omega) b2 (by rw [e1]; split <;> omega) (by rw [e1]; split <;> omega) (by omega) res (by simp only [upL] at hres; exact hres) hx _ _ _ B (lv_sub hl [2, 3, 1, 0] rfl)
set_option maxHeartbeats 4000000 in
set_option maxRecDepth 100000 in
theorem mX8_runUp_1 (l : Launch) (E : gT) (a : Nat) (p1 : Nat) (p2 : Nat) (p3 : Nat) (p4 : Nat) (p5 : Nat) (p6 : Nat) (σ : Nat → Int) (ρ : Nat → Int) (pm : Int) (ig : Int) (mo : Int) (rd : Int) (wr : Int) (sm : Int) (hs : Sets σ) (h11 : 0 ≤ σ 11 ∧ σ 11 ≤ 2100000000) (h18 : σ 18 = 0) (h19 : σ 19 = 0) (h20 : σ 20 = 0) (hig : ig = 0) : Cd l E yX8_runUp wsX8_runUp 2 48 0 0 [.ref a, .int (iI 1)] [cMod a p1 p2 p3 p4 p5 p6 pm ig mo rd wr sm, cAt E p1 σ ρ] none [cMod a p1 p2 p3 p4 p5 p6 pm ((cvU σ 0).1) mo rd wr sm, cAt E p1 (pU σ (cvU σ 0).2.2.1 (cvU σ 0).2.2.2.1 (cvU σ 0).2.2.2.2 (cvU σ 0).2.1) ρ] := by
  refine Ct.mk (cc := cX8_runUp) (maxL := 5) (ret := none) (plainFor_of_name (by decide)) rfl (Nat.le_of_ble_eq_true rfl) ?_
  intro p e s m below meth c A ls H locs S hr hlk hnm B hl
  have S : CallFix p m c cX8_runUp 5 s #[.ref a, .int (iI 1)] wsX8_runUp RX8 := S
  have hl : lv_has ls 5 [(0, .ref a), (1, .int (iI 1))] := hl
  obtain ⟨h0, h1, h2, h3, h4, h5, h6, h7, h8, h9, h10⟩ := id hs
  refine z_lconst S (pc := 0) (x := 0) dX8_runUp_0 rfl ?_
  refine lv_lstore_n (lv' := [(2, .long (iL 0)), (0, .ref a), (1, .int (iI 1))]) S.1 S.2.1 (pc := 1) dX8_runUp_1 rfl hl (by decide) rfl (fun ls hl => ?_)
  refine z_iconst S (pc := 2) dX8_runUp_2 ?_
  refine lv_istore (lv' := [(4, .int (iI 0)), (2, .long (iL 0)), (0, .ref a), (1, .int (iI 1))]) S.1 S.2.1 (pc := 3) dX8_runUp_3 hl (by decide) rfl (fun ls hl => ?_)
  obtain ⟨r, hr1⟩ : ∃ r, cvU σ 0 = r := ⟨_, rfl⟩
  rw [← pU_self (σ := σ) h18 h19 rfl h20, hig] at B
  refine lpX8_runUp_1 E S a p1 p2 p3 p4 p5 p6 σ ρ pm mo rd wr sm hs h11 (σ 5).toNat 0 0 0 0 0 0 (σ 11) 0 (by omega) (by omega) rfl (by omega) (by omega) (by omega) (by omega) (by omega) r hr1 (fun H locs ls B hl => ?_) _ _ _ B (lv_sub hl [2, 3, 1, 0] rfl)
  subst hr1
  exact z_return S hr hlk B () trivial rfl rfl (pc := 150) dX8_runUp_150
/-! END mod 1 -/
