set_option linter.unusedVariables false
/-! what-ifs -/
def vwl (σ : Nat → Int) (v : Int) : Int := val0 (rz (up σ 0 v))
def rv (σ : Nat → Int) (n k : Int) : Int := val0 (rz (up σ 11 (σ 11 + k * σ 2 / n)))
def ripL (σ : Nat → Int) (n : Int) : Nat → Int → Int → Int → Int × Int
  | 0, _, a, b => (a, b)
  | m + 1, k, a, b => ripL σ n m (k + 1) (if k = 0 then rv σ n k else if rv σ n k < a then rv σ n k else a) (if k = 0 then rv σ n k else if rv σ n k < b then b else rv σ n k)
def rip (σ : Nat → Int) (n : Int) : Int := (ripL σ n n.toNat 0 0 0).2 - (ripL σ n n.toNat 0 0 0).1
theorem ripL_0 {σ : Nat → Int} {n : Int} {m : Nat} {k a b : Int} (h : k = 0) : ripL σ n (m + 1) k a b = ripL σ n m (k + 1) (rv σ n k) (rv σ n k) := by
  simp only [ripL]
  rw [if_pos h, if_pos h]
theorem ripL_s {σ : Nat → Int} {n : Int} {m : Nat} {k a b : Int} (h : ¬ k = 0) : ripL σ n (m + 1) k a b = ripL σ n m (k + 1) (if rv σ n k < a then rv σ n k else a) (if rv σ n k < b then b else rv σ n k) := by
  simp only [ripL]
  rw [if_neg h, if_neg h]
theorem sets_l {σ : Nat → Int} {v : Int} (h : Sets σ) (hv : -3000000 ≤ v ∧ v ≤ 3000000) : Sets (up σ 0 v) := by
  obtain ⟨h0, hr⟩ := h
  exact ⟨hv, hr⟩
theorem sets_w {σ : Nat → Int} {w t : Int} (h : Sets σ) (hw : 4 ≤ w ∧ w ≤ 400) : Sets (up (up σ 5 w) 11 t) := by
  obtain ⟨h0, h1, h2, h3, h4, h5, hr⟩ := h
  exact ⟨h0, h1, h2, h3, h4, hw, hr⟩
theorem sets_t {σ : Nat → Int} {t : Int} (h : Sets σ) : Sets (up σ 11 t) := h
theorem kpn_bd {k p n : Int} (hk : 0 ≤ k ∧ k ≤ n) (hn : 1 ≤ n ∧ n ≤ 16) (hp : 4 ≤ p ∧ p ≤ 400) : (0 ≤ k * p ∧ k * p ≤ 6400) ∧ 0 ≤ k * p / n ∧ k * p / n ≤ 400 := by
  have h1 : 0 ≤ k * p := Int.mul_nonneg (by omega) (by omega)
  have h2 : k * p ≤ n * p := Int.mul_le_mul_of_nonneg_right (by omega) (by omega)
  have h3 : n * p ≤ n * 400 := Int.mul_le_mul_of_nonneg_left (by omega) (by omega)
  refine ⟨⟨h1, by omega⟩, Int.ediv_nonneg h1 (by omega), Int.ediv_le_of_le_mul (by omega) ?_⟩
  rw [Int.mul_comm 400 n]
  exact Int.le_trans h2 h3
theorem val0_rz {σ : Nat → Int} (h : Sets σ) (hn : Nums σ) : -6000000000 ≤ val0 (rz σ) ∧ val0 (rz σ) ≤ 6000000000 := val0_bd (rz_sets h) (rz_nums h hn).1
theorem vwl_bd {σ : Nat → Int} {v : Int} (h : Sets σ) (hn : Nums σ) (hv : -3000000 ≤ v ∧ v ≤ 3000000) : -6000000000 ≤ vwl σ v ∧ vwl σ v ≤ 6000000000 := val0_rz (σ := up σ 0 v) (sets_l h hv) hn
theorem rv_bd {σ : Nat → Int} (n k : Int) (h : Sets σ) (hn : Nums σ) : -6000000000 ≤ rv σ n k ∧ rv σ n k ≤ 6000000000 := val0_rz (σ := up σ 11 (σ 11 + k * σ 2 / n)) h hn
theorem ripL_bd {σ : Nat → Int} {n : Int} (h : Sets σ) (hn : Nums σ) : ∀ (m : Nat) (k a b : Int), (-6000000000 ≤ a ∧ a ≤ 6000000000) → (-6000000000 ≤ b ∧ b ≤ 6000000000) → (-6000000000 ≤ (ripL σ n m k a b).1 ∧ (ripL σ n m k a b).1 ≤ 6000000000) ∧ -6000000000 ≤ (ripL σ n m k a b).2 ∧ (ripL σ n m k a b).2 ≤ 6000000000 := by
  intro m
  induction m with
  | zero => intro k a b ha hb; exact ⟨ha, hb⟩
  | succ m ih =>
    intro k a b ha hb
    have e := rv_bd n k h hn
    simp only [ripL]
    exact ih _ _ _ (by split; exact e; split; exact e; exact ha) (by split; exact e; split; exact hb; exact e)
theorem rip_bd {σ : Nat → Int} (n : Int) (h : Sets σ) (hn : Nums σ) : -12000000000 ≤ rip σ n ∧ rip σ n ≤ 12000000000 := by
  have b := ripL_bd (n := n) h hn n.toNat 0 0 0 (by omega) (by omega)
  unfold rip
  omega
def bwL (σ : Nat → Int) (f s : Int) : Nat → Int → Int → Int → Int
  | 0, _, b, _ => b
  | m + 1, i, b, x => if rip (up σ 5 (f + i * s)) 8 < x then bwL σ f s m (i + 1) (f + i * s) (rip (up σ 5 (f + i * s)) 8) else bwL σ f s m (i + 1) b x
def orL (σ : Nat → Int) (f s w : Int) : Nat → Int → Int → Int → Int
  | 0, _, _, x => x
  | m + 1, i, b, x => orL σ f s w m (i + 1) (vwl σ (f + i * s)) (if (if w = 0 then vwl σ (f + i * s) < b else vwl σ (f + i * s) = b) then x + 1 else x)
def lfL (σ : Nat → Int) (v : Int) : Nat → Int → Int → Int
  | 0, l, _ => l
  | m + 1, l, h => if l < h then (if v ≤ vwl σ ((l + h) / 2) then lfL σ v m l ((l + h) / 2) else lfL σ v m ((l + h) / 2 + 1) h) else l
def stL : Nat → Int → (Nat → Int) → Int
  | 0, _, _ => -6
  | m + 1, b, σ => if rdM σ 10 = σ 10 then b else stL m (b + 1) (rdM σ)
theorem up_self (f : Nat → Int) (k : Nat) : up f k (f k) = f := by
  funext j
  by_cases h : j = k
  · rw [h]; exact up_s f k _
  · exact up_n f _ h
theorem mono_is {i c s : Int} (h0 : 0 ≤ i) (h : i ≤ c - 1) (hs : 0 ≤ s) : 0 ≤ i * s ∧ i * s ≤ (c - 1) * s := ⟨Int.mul_nonneg h0 hs, Int.mul_le_mul_of_nonneg_right h hs⟩
theorem iX7_valueWithLevel_X2 : ∀ w ∈ wsX20, w ∈ wsX7_valueWithLevel := by decide +kernel
theorem iX7_valueWithLevel_X5 : ∀ w ∈ wsX50, w ∈ wsX7_valueWithLevel := by decide +kernel
theorem iX7_valueWithLevel_X6 : ∀ w ∈ wsX60, w ∈ wsX7_valueWithLevel := by decide +kernel
theorem iX7_valueWithLevel_X7 : ∀ w ∈ wsX70, w ∈ wsX7_valueWithLevel := by decide +kernel
set_option maxHeartbeats 4000000 in
set_option maxRecDepth 100000 in
theorem mX7_valueWithLevel (l : Launch) (E : gT) (u : Nat) (o : Nat) (x1 : Nat) (x2 : Nat) (x3 : Nat) (x5 : Nat) (a : Nat) (b : Nat) (f : Nat) (g : Nat) (σ : Nat → Int) (ov : Int) (rr : Int) (rb : Int) (rn : Int) (h : Nat) (a2 : Nat) (b2 : Nat) (f2 : Nat) (g2 : Nat) (σ2 : Nat → Int) (ov2 : Int) (rr2 : Int) (rb2 : Int) (rn2 : Int) (v : Int) (hv : -3000000 ≤ v ∧ v ≤ 3000000) (hs : Sets σ) (hn : Nums σ) (h11 : 0 ≤ σ 11 ∧ σ 11 ≤ 1900000000) (h22 : σ 22 = 0 ∨ σ 22 = 1) (ho : ov = 0 ∨ ov = 1) : Ct l E yX7_valueWithLevel wsX7_valueWithLevel 5 115 0 0 [.ref u, .int (iI v)] [cSlo u o x1 x2 x3 a2 x5, cSta o a h, cMet a b f g σ rr rb rn, cSig b σ, cSet f σ, cCon g σ ov, cMet a2 b2 f2 g2 σ2 rr2 rb2 rn2, cSig b2 σ2, cSet f2 σ2, cCon g2 σ2 ov2] (S0 := (Nat → Int) × Int × Int × Int × Int) (fun u0 => True) (fun _ => (some (.long (iL (vwl σ v))))) (fun u0 => [cSlo u o x1 x2 x3 a2 x5, cSta o a h, cMet a b f g σ rr rb rn, cSig b σ, cSet f σ, cCon g σ ov, cMet a2 b2 f2 g2 u0.1 u0.2.2.1 u0.2.2.2.1 u0.2.2.2.2, cSig b2 u0.1, cSet f2 u0.1, cCon g2 u0.1 u0.2.1]) := by
  refine Ct.mk (cc := cX7_valueWithLevel) (maxL := 2) (ret := (some .long)) (plainFor_of_name (by decide)) rfl (Nat.le_of_ble_eq_true rfl) ?_
  intro p e s m below meth c A ls H locs S hr hlk hnm B hl
  have S : CallFix p m c cX7_valueWithLevel 2 s #[.ref u, .int (iI v)] wsX7_valueWithLevel RX7 := S
  have hl : lv_has ls 2 [(0, .ref u), (1, .int (iI v))] := hl
  refine z_aload_n S (pc := 0) dX7_valueWithLevel_0 rfl (lv_at hl 0 rfl) ?_
  refine z_get S (pc := 1) B iX7_valueWithLevel_X7 0 rfl rfl 4 (by decide) rfl rfl (by decide +kernel) dX7_valueWithLevel_1 ?_
  refine z_aload_n S (pc := 4) dX7_valueWithLevel_4 rfl (lv_at hl 0 rfl) ?_
  refine z_get S (pc := 5) B iX7_valueWithLevel_X7 0 rfl rfl 0 (by decide) rfl rfl (by decide +kernel) dX7_valueWithLevel_5 ?_
  refine z_get S (pc := 8) B iX7_valueWithLevel_X6 1 rfl rfl 0 (by decide) rfl rfl (by decide +kernel) dX7_valueWithLevel_8 ?_
  refine z_callV S (pc := 11) B (wr := [cSlo u o x1 x2 x3 a2 x5, cSta o a h]) (wn := fun _ => [cSlo u o x1 x2 x3 a2 x5, cSta o a h, cMet a b f g σ rr rb rn, cSig b σ, cSet f σ, cCon g σ ov, cMet a2 b2 f2 g2 σ rr rb rn, cSig b2 σ, cSet f2 σ, cCon g2 σ ov]) (st1 := fun _ => []) (As := [.ref a]) (mX2_copyFrom l E a2 b2 f2 g2 σ2 ov2 rr2 rb2 rn2 a b f g σ ov rr rb rn (show σ 22 = 0 ∨ σ 22 = 1 from by omega) (show ov = 0 ∨ ov = 1 from by omega)) gX7_valueWithLevel_X2_copyFrom 1 rfl (by decide +kernel) ⟨Nat.le_of_ble_eq_true rfl, Nat.le_of_ble_eq_true rfl, Nat.le_of_ble_eq_true rfl, Nat.le_of_ble_eq_true rfl⟩ 0 rfl (q := (RX2, TX2, 9)) rfl rfl [6, 7, 8, 9, 2, 3, 4, 5] [0, 1] [0, 1, 6, 7, 8, 9, 2, 3, 4, 5] rfl rfl ⟨rfl, rfl, rfl, by decide⟩ (fun _ => rfl) rfl (fun _ => rfl) hl.1 (Nat.le_of_ble_eq_true rfl) rfl dX7_valueWithLevel_11 (fun _ _ H locs B => ?_)
  refine z_aload_n S (pc := 14) dX7_valueWithLevel_14 rfl (lv_at hl 0 rfl) ?_
  refine z_get S (pc := 15) B iX7_valueWithLevel_X7 0 rfl rfl 4 (by decide) rfl rfl (by decide +kernel) dX7_valueWithLevel_15 ?_
  refine z_get S (pc := 18) B iX7_valueWithLevel_X2 6 rfl rfl 0 (by decide) rfl rfl (by decide +kernel) dX7_valueWithLevel_18 ?_
  refine z_iload_n S (pc := 21) dX7_valueWithLevel_21 rfl (lv_at hl 1 rfl) ?_
  refine z_put S (pc := 22) B iX7_valueWithLevel_X5 tyX5_ok nmX5 7 rfl rfl 0 (by decide) rfl (by decide +kernel) (ty := .int) (by decide +kernel) rfl rfl (Nat.le_of_ble_eq_true rfl) dX7_valueWithLevel_22 (wn := [cSlo u o x1 x2 x3 a2 x5, cSta o a h, cMet a b f g σ rr rb rn, cSig b σ, cSet f σ, cCon g σ ov, cMet a2 b2 f2 g2 σ rr rb rn, (b2, .inr (5, [.int (iI v), .int (iI (σ 1)), .int (iI (σ 2)), .int (iI (σ 3)), .int (iI (σ 4))])), cSet f2 σ, cCon g2 σ ov]) rfl (fun H locs B => ?_)
  refine z_aload_n S (pc := 25) dX7_valueWithLevel_25 rfl (lv_at hl 0 rfl) ?_
  refine z_get S (pc := 26) B iX7_valueWithLevel_X7 0 rfl rfl 4 (by decide) rfl rfl (by decide +kernel) dX7_valueWithLevel_26 ?_
  have hs2 : Sets (up σ 0 v) := sets_l hs hv
  have hn2 : Nums (up σ 0 v) := hn
  refine z_callV S (pc := 29) B (wr := [cSlo u o x1 x2 x3 a2 x5, cSta o a h, cMet a b f g σ rr rb rn, cSig b σ, cSet f σ, cCon g σ ov]) (wn := fun _ => [cSlo u o x1 x2 x3 a2 x5, cSta o a h, cMet a b f g σ rr rb rn, cSig b σ, cSet f σ, cCon g σ ov, cMet a2 b2 f2 g2 (rdM (up σ 0 v)) (rz (up σ 0 v) 10) (rz (up σ 0 v) 11) (net0 (rz (up σ 0 v))), cSig b2 (rdM (up σ 0 v)), cSet f2 (rdM (up σ 0 v)), cCon g2 (rdM (up σ 0 v)) (ov0 (rz (up σ 0 v)))]) (st1 := fun _ => [.long (iL (val0 (rz (up σ 0 v))))]) (As := []) (mX2_makeReading l E a2 b2 f2 g2 (up σ 0 v) ov rr rb rn (show Sets (up σ 0 v) from by assumption) (show Nums (up σ 0 v) from by assumption) (show 0 ≤ σ 11 ∧ σ 11 ≤ 2000000000 from by omega)) gX7_valueWithLevel_X2_makeReading 0 rfl (by decide +kernel) ⟨Nat.le_of_ble_eq_true rfl, Nat.le_of_ble_eq_true rfl, Nat.le_of_ble_eq_true rfl, Nat.le_of_ble_eq_true rfl⟩ 0 rfl (q := (RX2, TX2, 9)) rfl rfl [6, 7, 8, 9] [0, 1, 2, 3, 4, 5] [0, 1, 2, 3, 4, 5, 6, 7, 8, 9] rfl rfl ⟨rfl, rfl, rfl, by decide⟩ (fun _ => rfl) rfl (fun _ => rfl) hl.1 (Nat.le_of_ble_eq_true rfl) rfl dX7_valueWithLevel_29 (fun _ _ H locs B => ?_)
  exact z_lreturn S hr hlk B ⟨rdM (up σ 0 v), ov0 (rz (up σ 0 v)), rz (up σ 0 v) 10, rz (up σ 0 v) 11, net0 (rz (up σ 0 v))⟩ trivial rfl rfl (pc := 32) dX7_valueWithLevel_32
theorem iX7_rippleWith_X2 : ∀ w ∈ wsX20, w ∈ wsX7_rippleWith := by decide +kernel
theorem iX7_rippleWith_X4 : ∀ w ∈ wsX40, w ∈ wsX7_rippleWith := by decide +kernel
theorem iX7_rippleWith_X5 : ∀ w ∈ wsX50, w ∈ wsX7_rippleWith := by decide +kernel
theorem iX7_rippleWith_X6 : ∀ w ∈ wsX60, w ∈ wsX7_rippleWith := by decide +kernel
theorem iX7_rippleWith_X7 : ∀ w ∈ wsX70, w ∈ wsX7_rippleWith := by decide +kernel
set_option maxHeartbeats 4000000 in
set_option maxRecDepth 100000 in
theorem lpX7_rippleWith {p : Program} {l : Launch} {e : Env} {s : State} {m : MethodId} {args : Array Value} {below : List Frame} {meth : Method} {c : Code} {Q : State → Prop} {A : Nat → Prop} (E : gT) (S : CallFix p m c cX7_rippleWith 10 s args wsX7_rippleWith RX7) (u : Nat) (o : Nat) (x1 : Nat) (x2 : Nat) (x3 : Nat) (x5 : Nat) (a : Nat) (b : Nat) (f : Nat) (g : Nat) (σ : Nat → Int) (ov : Int) (rr : Int) (rb : Int) (rn : Int) (h : Nat) (a2 : Nat) (b2 : Nat) (f2 : Nat) (g2 : Nat) (wd : Int) (nr : Int) (hs : Sets σ) (hn : Nums σ) (h11 : 0 ≤ σ 11 ∧ σ 11 ≤ 1900000000) (h22 : σ 22 = 0 ∨ σ 22 = 1) (ho : ov = 0 ∨ ov = 1) (hw : 4 ≤ wd ∧ wd ≤ 400) (hnr : 1 ≤ nr ∧ nr ≤ 16) :
    ∀ (n : Nat) (k : Int) (x : Int) (y : Int) (σ2 : Nat → Int) (ov2 : Int) (rr2 : Int) (rb2 : Int) (rn2 : Int) (hk : 0 ≤ k ∧ k + (n : Int) = nr) (hxb : -6000000000 ≤ x ∧ x ≤ 6000000000) (hyb : -6000000000 ≤ y ∧ y ≤ 6000000000) (res : Int × Int) (hres : ripL (up σ 5 wd) nr n k x y = res) (hx : ∀ (u0 : (Nat → Int) × Int × Int × Int × Int) (H : Heap) (locs : List Loc) (ls : Array Slot), bw E A s H locs [cSlo u o x1 x2 x3 a2 x5, cSta o a h, cMet a b f g σ rr rb rn, cSig b σ, cSet f σ, cCon g σ ov, cMet a2 b2 f2 g2 u0.1 u0.2.2.1 u0.2.2.2.1 u0.2.2.2.2, cSig b2 u0.1, cSet f2 u0.1, cCon g2 u0.1 u0.2.1] → lv_has ls 10 [(0, .ref u), (1, .int (iI wd)), (2, .int (iI nr)), (3, .long (iL res.1)), (5, .long (iL res.2))] → W p l e ({ frames := 5, cells := 0, slots := 0, locals := 115 } : Room) s m args below meth c H locs 0 0 Q (F0 m 117 ls [])) (H : Heap) (locs : List Loc) (ls : Array Slot) (B : bw E A s H locs [cSlo u o x1 x2 x3 a2 x5, cSta o a h, cMet a b f g σ rr rb rn, cSig b σ, cSet f σ, cCon g σ ov, cMet a2 b2 f2 g2 σ2 rr2 rb2 rn2, cSig b2 σ2, cSet f2 σ2, cCon g2 σ2 ov2]) (hl : lv_has ls 10 [(0, .ref u), (1, .int (iI wd)), (2, .int (iI nr)), (3, .long (iL x)), (5, .long (iL y)), (7, .int (iI k))]), W p l e ({ frames := 5, cells := 0, slots := 0, locals := 115 } : Room) s m args below meth c H locs 0 0 Q (F0 m 8 ls []) := by
  intro n
  induction n with
  | zero =>
    intro k x y σ2 ov2 rr2 rb2 rn2 hk hxb hyb res hres hx H locs ls B hl
    refine z_iload S (pc := 8) dX7_rippleWith_8 (lv_at hl 5 rfl) ?_
    refine z_iload_n S (pc := 10) dX7_rippleWith_10 rfl (lv_at hl 2 rfl) ?_
    refine z_icmp_ge S (pc := 11) (tgt := 117) (by omega) (by omega) dX7_rippleWith_11 rfl (fun c1 => ?_) (fun c1 => absurd c1 (by omega))
    subst hres
    exact hx ⟨σ2, ov2, rr2, rb2, rn2⟩ _ _ _ B (lv_sub hl [0, 1, 2, 3, 4] rfl)
  | succ n ih =>
    intro k x y σ2 ov2 rr2 rb2 rn2 hk hxb hyb res hres hx H locs ls B hl
    have hkp := kpn_bd (k := k) (p := σ 2) (n := nr) (by omega) hnr (by have := hs.2.2.1; omega)
    have hsw : Sets (up σ 5 wd) := sets_w (t := σ 11) hs hw
    have hrv := rv_bd (σ := up σ 5 wd) nr k hsw hn
    refine z_iload S (pc := 8) dX7_rippleWith_8 (lv_at hl 5 rfl) ?_
    refine z_iload_n S (pc := 10) dX7_rippleWith_10 rfl (lv_at hl 2 rfl) ?_
    refine z_icmp_ge S (pc := 11) (tgt := 117) (by omega) (by omega) dX7_rippleWith_11 rfl (fun c1 => ?_) (fun c1 => ?_)
    · exact absurd c1 (by omega)
    · refine z_aload_n S (pc := 14) dX7_rippleWith_14 rfl (lv_at hl 0 rfl) ?_
      refine z_get S (pc := 15) B iX7_rippleWith_X7 0 rfl rfl 4 (by decide) rfl rfl (by decide +kernel) dX7_rippleWith_15 ?_
      refine z_aload_n S (pc := 18) dX7_rippleWith_18 rfl (lv_at hl 0 rfl) ?_
      refine z_get S (pc := 19) B iX7_rippleWith_X7 0 rfl rfl 0 (by decide) rfl rfl (by decide +kernel) dX7_rippleWith_19 ?_
      refine z_get S (pc := 22) B iX7_rippleWith_X6 1 rfl rfl 0 (by decide) rfl rfl (by decide +kernel) dX7_rippleWith_22 ?_
      refine z_callV S (pc := 25) B (wr := [cSlo u o x1 x2 x3 a2 x5, cSta o a h]) (wn := fun _ => [cSlo u o x1 x2 x3 a2 x5, cSta o a h, cMet a b f g σ rr rb rn, cSig b σ, cSet f σ, cCon g σ ov, cMet a2 b2 f2 g2 σ rr rb rn, cSig b2 σ, cSet f2 σ, cCon g2 σ ov]) (st1 := fun _ => []) (As := [.ref a]) (mX2_copyFrom l E a2 b2 f2 g2 σ2 ov2 rr2 rb2 rn2 a b f g σ ov rr rb rn (show σ 22 = 0 ∨ σ 22 = 1 from by omega) (show ov = 0 ∨ ov = 1 from by omega)) gX7_rippleWith_X2_copyFrom 1 rfl (by decide +kernel) ⟨Nat.le_of_ble_eq_true rfl, Nat.le_of_ble_eq_true rfl, Nat.le_of_ble_eq_true rfl, Nat.le_of_ble_eq_true rfl⟩ 0 rfl (q := (RX2, TX2, 9)) rfl rfl [6, 7, 8, 9, 2, 3, 4, 5] [0, 1] [0, 1, 6, 7, 8, 9, 2, 3, 4, 5] rfl rfl ⟨rfl, rfl, rfl, by decide⟩ (fun _ => rfl) rfl (fun _ => rfl) hl.1 (Nat.le_of_ble_eq_true rfl) rfl dX7_rippleWith_25 (fun _ _ H locs B => ?_)
      refine z_aload_n S (pc := 28) dX7_rippleWith_28 rfl (lv_at hl 0 rfl) ?_
      refine z_get S (pc := 29) B iX7_rippleWith_X7 0 rfl rfl 4 (by decide) rfl rfl (by decide +kernel) dX7_rippleWith_29 ?_
      refine z_get S (pc := 32) B iX7_rippleWith_X2 6 rfl rfl 1 (by decide) rfl rfl (by decide +kernel) dX7_rippleWith_32 ?_
      refine z_iload_n S (pc := 35) dX7_rippleWith_35 rfl (lv_at hl 1 rfl) ?_
      refine z_put S (pc := 36) B iX7_rippleWith_X4 tyX4_ok nmX4 8 rfl rfl 0 (by decide) rfl (by decide +kernel) (ty := .int) (by decide +kernel) rfl rfl (Nat.le_of_ble_eq_true rfl) dX7_rippleWith_36 (wn := [cSlo u o x1 x2 x3 a2 x5, cSta o a h, cMet a b f g σ rr rb rn, cSig b σ, cSet f σ, cCon g σ ov, cMet a2 b2 f2 g2 σ rr rb rn, cSig b2 σ, (f2, .inr (4, [.int (iI wd), .int (iI (σ 6)), .int (iI (σ 7)), .int (iI (σ 8)), .int (iI (σ 9)), .int (iI (σ 10))])), cCon g2 σ ov]) rfl (fun H locs B => ?_)
      refine z_aload_n S (pc := 39) dX7_rippleWith_39 rfl (lv_at hl 0 rfl) ?_
      refine z_get S (pc := 40) B iX7_rippleWith_X7 0 rfl rfl 4 (by decide) rfl rfl (by decide +kernel) dX7_rippleWith_40 ?_
      refine lv_dup S.1 S.2.1 (pc := 43) dX7_rippleWith_43 rfl ?_
      refine z_get S (pc := 44) B iX7_rippleWith_X2 6 rfl rfl 3 (by decide) rfl rfl (by decide +kernel) dX7_rippleWith_44 ?_
      refine z_iload S (pc := 47) dX7_rippleWith_47 (lv_at hl 5 rfl) ?_
      refine z_aload_n S (pc := 49) dX7_rippleWith_49 rfl (lv_at hl 0 rfl) ?_
      refine z_get S (pc := 50) B iX7_rippleWith_X7 0 rfl rfl 4 (by decide) rfl rfl (by decide +kernel) dX7_rippleWith_50 ?_
      refine z_get S (pc := 53) B iX7_rippleWith_X2 6 rfl rfl 0 (by decide) rfl rfl (by decide +kernel) dX7_rippleWith_53 ?_
      refine z_get S (pc := 56) B iX7_rippleWith_X5 7 rfl rfl 2 (by decide) rfl rfl (by decide +kernel) dX7_rippleWith_56 ?_
      refine z_imul S (pc := 59) dX7_rippleWith_59 ?_
      refine z_iload_n S (pc := 60) dX7_rippleWith_60 rfl (lv_at hl 2 rfl) ?_
      refine z_idivn S (pc := 61) (by omega) (by omega) dX7_rippleWith_61 ?_
      refine z_iadd S (pc := 62) dX7_rippleWith_62 ?_
      refine z_put S (pc := 63) B iX7_rippleWith_X2 tyX2_ok nmX2 6 rfl rfl 3 (by decide) rfl (by decide +kernel) (ty := .int) (by decide +kernel) rfl rfl (Nat.le_of_ble_eq_true rfl) dX7_rippleWith_63 (wn := [cSlo u o x1 x2 x3 a2 x5, cSta o a h, cMet a b f g σ rr rb rn, cSig b σ, cSet f σ, cCon g σ ov, (a2, .inr (2, [.ref b2, .ref f2, .ref g2, .int (iI ((σ 11) + ((k * (σ 2)) / nr))), .int (iI (σ 12)), .int (iI (σ 13)), .int (iI rr), .int (iI rb), .long (iL rn)])), cSig b2 σ, (f2, .inr (4, [.int (iI wd), .int (iI (σ 6)), .int (iI (σ 7)), .int (iI (σ 8)), .int (iI (σ 9)), .int (iI (σ 10))])), cCon g2 σ ov]) rfl (fun H locs B => ?_)
      have hs2 : Sets (up (up σ 5 wd) 11 (σ 11 + k * σ 2 / nr)) := sets_w hs hw
      have hn2 : Nums (up (up σ 5 wd) 11 (σ 11 + k * σ 2 / nr)) := hn
      refine z_aload_n S (pc := 66) dX7_rippleWith_66 rfl (lv_at hl 0 rfl) ?_
      refine z_get S (pc := 67) B iX7_rippleWith_X7 0 rfl rfl 4 (by decide) rfl rfl (by decide +kernel) dX7_rippleWith_67 ?_
      refine z_callV S (pc := 70) B (wr := [cSlo u o x1 x2 x3 a2 x5, cSta o a h, cMet a b f g σ rr rb rn, cSig b σ, cSet f σ, cCon g σ ov]) (wn := fun _ => [cSlo u o x1 x2 x3 a2 x5, cSta o a h, cMet a b f g σ rr rb rn, cSig b σ, cSet f σ, cCon g σ ov, cMet a2 b2 f2 g2 (rdM (up (up σ 5 wd) 11 ((σ 11) + ((k * (σ 2)) / nr)))) (rz (up (up σ 5 wd) 11 ((σ 11) + ((k * (σ 2)) / nr))) 10) (rz (up (up σ 5 wd) 11 ((σ 11) + ((k * (σ 2)) / nr))) 11) (net0 (rz (up (up σ 5 wd) 11 ((σ 11) + ((k * (σ 2)) / nr))))), cSig b2 (rdM (up (up σ 5 wd) 11 ((σ 11) + ((k * (σ 2)) / nr)))), cSet f2 (rdM (up (up σ 5 wd) 11 ((σ 11) + ((k * (σ 2)) / nr)))), cCon g2 (rdM (up (up σ 5 wd) 11 ((σ 11) + ((k * (σ 2)) / nr)))) (ov0 (rz (up (up σ 5 wd) 11 ((σ 11) + ((k * (σ 2)) / nr)))))]) (st1 := fun _ => [.long (iL (val0 (rz (up (up σ 5 wd) 11 ((σ 11) + ((k * (σ 2)) / nr))))))]) (As := []) (mX2_makeReading l E a2 b2 f2 g2 (up (up σ 5 wd) 11 ((σ 11) + ((k * (σ 2)) / nr))) ov rr rb rn (show Sets (up (up σ 5 wd) 11 ((σ 11) + ((k * (σ 2)) / nr))) from by assumption) (show Nums (up (up σ 5 wd) 11 ((σ 11) + ((k * (σ 2)) / nr))) from by assumption) (show 0 ≤ (σ 11) + ((k * (σ 2)) / nr) ∧ (σ 11) + ((k * (σ 2)) / nr) ≤ 2000000000 from by omega)) gX7_rippleWith_X2_makeReading 0 rfl (by decide +kernel) ⟨Nat.le_of_ble_eq_true rfl, Nat.le_of_ble_eq_true rfl, Nat.le_of_ble_eq_true rfl, Nat.le_of_ble_eq_true rfl⟩ 0 rfl (q := (RX2, TX2, 9)) rfl rfl [6, 7, 8, 9] [0, 1, 2, 3, 4, 5] [0, 1, 2, 3, 4, 5, 6, 7, 8, 9] rfl rfl ⟨rfl, rfl, rfl, by decide⟩ (fun _ => rfl) rfl (fun _ => rfl) hl.1 (Nat.le_of_ble_eq_true rfl) rfl dX7_rippleWith_70 (fun _ _ H locs B => ?_)
      rw [show (val0 (rz (up (up σ 5 wd) 11 ((σ 11) + ((k * (σ 2)) / nr)))) : Int) = rv (up σ 5 wd) nr k from rfl]
      refine lv_lstore (lv' := [(8, .long (iL (rv (up σ 5 wd) nr k))), (0, .ref u), (1, .int (iI wd)), (2, .int (iI nr)), (3, .long (iL x)), (5, .long (iL y)), (7, .int (iI k))]) S.1 S.2.1 (pc := 73) dX7_rippleWith_73 hl (by decide) rfl (fun ls hl => ?_)
      refine z_iload S (pc := 75) dX7_rippleWith_75 (lv_at hl 6 rfl) ?_
      refine z_if_ne S (pc := 77) (tgt := 85) (by omega) dX7_rippleWith_77 rfl (fun c2 => ?_) (fun c2 => ?_)
      · refine z_lload_n S (pc := 85) dX7_rippleWith_85 rfl (lv_at hl 4 rfl) ?_
        refine z_lload S (pc := 86) dX7_rippleWith_86 (lv_at hl 0 rfl) ?_
        refine z_minL S (pc := 88) (by omega) (by omega) (by decide +kernel) (by decide +kernel) (by decide +kernel) (by decide +kernel) hl.1 ⟨Nat.le_of_ble_eq_true rfl, Nat.le_of_ble_eq_true rfl, Nat.le_of_ble_eq_true rfl, Nat.le_of_ble_eq_true rfl⟩ dX7_rippleWith_88 ?_
        refine lv_lstore_n (lv' := [(3, .long (iL (if rv (up σ 5 wd) nr k < x then rv (up σ 5 wd) nr k else x))), (8, .long (iL (rv (up σ 5 wd) nr k))), (0, .ref u), (1, .int (iI wd)), (2, .int (iI nr)), (5, .long (iL y)), (7, .int (iI k))]) S.1 S.2.1 (pc := 91) dX7_rippleWith_91 rfl hl (by decide) rfl (fun ls hl => ?_)
        refine z_iload S (pc := 92) dX7_rippleWith_92 (lv_at hl 6 rfl) ?_
        refine z_if_ne S (pc := 94) (tgt := 102) (by omega) dX7_rippleWith_94 rfl (fun c3 => ?_) (fun c3 => ?_)
        · refine z_lload S (pc := 102) dX7_rippleWith_102 (lv_at hl 5 rfl) ?_
          refine z_lload S (pc := 104) dX7_rippleWith_104 (lv_at hl 1 rfl) ?_
          refine z_maxL S (pc := 106) (by omega) (by omega) (by decide +kernel) (by decide +kernel) (by decide +kernel) (by decide +kernel) hl.1 ⟨Nat.le_of_ble_eq_true rfl, Nat.le_of_ble_eq_true rfl, Nat.le_of_ble_eq_true rfl, Nat.le_of_ble_eq_true rfl⟩ dX7_rippleWith_106 ?_
          refine lv_lstore (lv' := [(5, .long (iL (if rv (up σ 5 wd) nr k < y then y else rv (up σ 5 wd) nr k))), (3, .long (iL (if rv (up σ 5 wd) nr k < x then rv (up σ 5 wd) nr k else x))), (8, .long (iL (rv (up σ 5 wd) nr k))), (0, .ref u), (1, .int (iI wd)), (2, .int (iI nr)), (7, .int (iI k))]) S.1 S.2.1 (pc := 109) dX7_rippleWith_109 hl (by decide) rfl (fun ls hl => ?_)
          refine lv_iinc (v := iI (k + 1)) (lv' := [(7, .int (iI (k + 1))), (5, .long (iL (if rv (up σ 5 wd) nr k < y then y else rv (up σ 5 wd) nr k))), (3, .long (iL (if rv (up σ 5 wd) nr k < x then rv (up σ 5 wd) nr k else x))), (8, .long (iL (rv (up σ 5 wd) nr k))), (0, .ref u), (1, .int (iI wd)), (2, .int (iI nr))]) S.1 S.2.1 (pc := 111) dX7_rippleWith_111 hl (k := 6) rfl (iI_add _ _) (by decide) rfl (fun ls hl => ?_)
          refine lv_goto S.1 S.2.1 (pc := 114) (tgt := 8) dX7_rippleWith_114 rfl ?_
          exact ih (k + 1) (if rv (up σ 5 wd) nr k < x then rv (up σ 5 wd) nr k else x) (if rv (up σ 5 wd) nr k < y then y else rv (up σ 5 wd) nr k) (rdM (up (up σ 5 wd) 11 ((σ 11) + ((k * (σ 2)) / nr)))) (ov0 (rz (up (up σ 5 wd) 11 ((σ 11) + ((k * (σ 2)) / nr))))) (rz (up (up σ 5 wd) 11 ((σ 11) + ((k * (σ 2)) / nr))) 10) (rz (up (up σ 5 wd) 11 ((σ 11) + ((k * (σ 2)) / nr))) 11) (net0 (rz (up (up σ 5 wd) 11 ((σ 11) + ((k * (σ 2)) / nr))))) (by omega) (by split <;> omega) (by split <;> omega) res ((ripL_s (by omega)).symm.trans hres) hx _ _ _ B (lv_sub hl [4, 5, 6, 2, 1, 0] rfl)
        · refine z_lload S (pc := 97) dX7_rippleWith_97 (lv_at hl 1 rfl) ?_
          refine lv_goto S.1 S.2.1 (pc := 99) (tgt := 109) dX7_rippleWith_99 rfl ?_
          refine lv_lstore (lv' := [(5, .long (iL (rv (up σ 5 wd) nr k))), (3, .long (iL (if rv (up σ 5 wd) nr k < x then rv (up σ 5 wd) nr k else x))), (8, .long (iL (rv (up σ 5 wd) nr k))), (0, .ref u), (1, .int (iI wd)), (2, .int (iI nr)), (7, .int (iI k))]) S.1 S.2.1 (pc := 109) dX7_rippleWith_109 hl (by decide) rfl (fun ls hl => ?_)
          refine lv_iinc (v := iI (k + 1)) (lv' := [(7, .int (iI (k + 1))), (5, .long (iL (rv (up σ 5 wd) nr k))), (3, .long (iL (if rv (up σ 5 wd) nr k < x then rv (up σ 5 wd) nr k else x))), (8, .long (iL (rv (up σ 5 wd) nr k))), (0, .ref u), (1, .int (iI wd)), (2, .int (iI nr))]) S.1 S.2.1 (pc := 111) dX7_rippleWith_111 hl (k := 6) rfl (iI_add _ _) (by decide) rfl (fun ls hl => ?_)
          refine lv_goto S.1 S.2.1 (pc := 114) (tgt := 8) dX7_rippleWith_114 rfl ?_
          exact absurd c2 (by omega)
      · refine z_lload S (pc := 80) dX7_rippleWith_80 (lv_at hl 0 rfl) ?_
        refine lv_goto S.1 S.2.1 (pc := 82) (tgt := 91) dX7_rippleWith_82 rfl ?_
        refine lv_lstore_n (lv' := [(3, .long (iL (rv (up σ 5 wd) nr k))), (8, .long (iL (rv (up σ 5 wd) nr k))), (0, .ref u), (1, .int (iI wd)), (2, .int (iI nr)), (5, .long (iL y)), (7, .int (iI k))]) S.1 S.2.1 (pc := 91) dX7_rippleWith_91 rfl hl (by decide) rfl (fun ls hl => ?_)
        refine z_iload S (pc := 92) dX7_rippleWith_92 (lv_at hl 6 rfl) ?_
        refine z_if_ne S (pc := 94) (tgt := 102) (by omega) dX7_rippleWith_94 rfl (fun c4 => ?_) (fun c4 => ?_)
        · refine z_lload S (pc := 102) dX7_rippleWith_102 (lv_at hl 5 rfl) ?_
          refine z_lload S (pc := 104) dX7_rippleWith_104 (lv_at hl 1 rfl) ?_
          refine z_maxL S (pc := 106) (by omega) (by omega) (by decide +kernel) (by decide +kernel) (by decide +kernel) (by decide +kernel) hl.1 ⟨Nat.le_of_ble_eq_true rfl, Nat.le_of_ble_eq_true rfl, Nat.le_of_ble_eq_true rfl, Nat.le_of_ble_eq_true rfl⟩ dX7_rippleWith_106 ?_
          refine lv_lstore (lv' := [(5, .long (iL (if rv (up σ 5 wd) nr k < y then y else rv (up σ 5 wd) nr k))), (3, .long (iL (rv (up σ 5 wd) nr k))), (8, .long (iL (rv (up σ 5 wd) nr k))), (0, .ref u), (1, .int (iI wd)), (2, .int (iI nr)), (7, .int (iI k))]) S.1 S.2.1 (pc := 109) dX7_rippleWith_109 hl (by decide) rfl (fun ls hl => ?_)
          refine lv_iinc (v := iI (k + 1)) (lv' := [(7, .int (iI (k + 1))), (5, .long (iL (if rv (up σ 5 wd) nr k < y then y else rv (up σ 5 wd) nr k))), (3, .long (iL (rv (up σ 5 wd) nr k))), (8, .long (iL (rv (up σ 5 wd) nr k))), (0, .ref u), (1, .int (iI wd)), (2, .int (iI nr))]) S.1 S.2.1 (pc := 111) dX7_rippleWith_111 hl (k := 6) rfl (iI_add _ _) (by decide) rfl (fun ls hl => ?_)
          refine lv_goto S.1 S.2.1 (pc := 114) (tgt := 8) dX7_rippleWith_114 rfl ?_
          exact absurd c2 (by omega)
        · refine z_lload S (pc := 97) dX7_rippleWith_97 (lv_at hl 1 rfl) ?_
          refine lv_goto S.1 S.2.1 (pc := 99) (tgt := 109) dX7_rippleWith_99 rfl ?_
          refine lv_lstore (lv' := [(5, .long (iL (rv (up σ 5 wd) nr k))), (3, .long (iL (rv (up σ 5 wd) nr k))), (8, .long (iL (rv (up σ 5 wd) nr k))), (0, .ref u), (1, .int (iI wd)), (2, .int (iI nr)), (7, .int (iI k))]) S.1 S.2.1 (pc := 109) dX7_rippleWith_109 hl (by decide) rfl (fun ls hl => ?_)
          refine lv_iinc (v := iI (k + 1)) (lv' := [(7, .int (iI (k + 1))), (5, .long (iL (rv (up σ 5 wd) nr k))), (3, .long (iL (rv (up σ 5 wd) nr k))), (8, .long (iL (rv (up σ 5 wd) nr k))), (0, .ref u), (1, .int (iI wd)), (2, .int (iI nr))]) S.1 S.2.1 (pc := 111) dX7_rippleWith_111 hl (k := 6) rfl (iI_add _ _) (by decide) rfl (fun ls hl => ?_)
          refine lv_goto S.1 S.2.1 (pc := 114) (tgt := 8) dX7_rippleWith_114 rfl ?_
          exact ih (k + 1) (rv (up σ 5 wd) nr k) (rv (up σ 5 wd) nr k) (rdM (up (up σ 5 wd) 11 ((σ 11) + ((k * (σ 2)) / nr)))) (ov0 (rz (up (up σ 5 wd) 11 ((σ 11) + ((k * (σ 2)) / nr))))) (rz (up (up σ 5 wd) 11 ((σ 11) + ((k * (σ 2)) / nr))) 10) (rz (up (up σ 5 wd) 11 ((σ 11) + ((k * (σ 2)) / nr))) 11) (net0 (rz (up (up σ 5 wd) 11 ((σ 11) + ((k * (σ 2)) / nr))))) (by omega) (by omega) (by omega) res ((ripL_0 (by omega)).symm.trans hres) hx _ _ _ B (lv_sub hl [4, 5, 6, 2, 1, 0] rfl)
set_option maxHeartbeats 4000000 in
set_option maxRecDepth 100000 in
theorem mX7_rippleWith (l : Launch) (E : gT) (u : Nat) (o : Nat) (x1 : Nat) (x2 : Nat) (x3 : Nat) (x5 : Nat) (a : Nat) (b : Nat) (f : Nat) (g : Nat) (σ : Nat → Int) (ov : Int) (rr : Int) (rb : Int) (rn : Int) (h : Nat) (a2 : Nat) (b2 : Nat) (f2 : Nat) (g2 : Nat) (σ2 : Nat → Int) (ov2 : Int) (rr2 : Int) (rb2 : Int) (rn2 : Int) (wd : Int) (nr : Int) (hw : 4 ≤ wd ∧ wd ≤ 400) (hnr : 1 ≤ nr ∧ nr ≤ 16) (hs : Sets σ) (hn : Nums σ) (h11 : 0 ≤ σ 11 ∧ σ 11 ≤ 1900000000) (h22 : σ 22 = 0 ∨ σ 22 = 1) (ho : ov = 0 ∨ ov = 1) : Ct l E yX7_rippleWith wsX7_rippleWith 5 115 0 0 [.ref u, .int (iI wd), .int (iI nr)] [cSlo u o x1 x2 x3 a2 x5, cSta o a h, cMet a b f g σ rr rb rn, cSig b σ, cSet f σ, cCon g σ ov, cMet a2 b2 f2 g2 σ2 rr2 rb2 rn2, cSig b2 σ2, cSet f2 σ2, cCon g2 σ2 ov2] (S0 := (Nat → Int) × Int × Int × Int × Int) (fun u0 => True) (fun _ => (some (.long (iL (rip (up σ 5 wd) nr))))) (fun u0 => [cSlo u o x1 x2 x3 a2 x5, cSta o a h, cMet a b f g σ rr rb rn, cSig b σ, cSet f σ, cCon g σ ov, cMet a2 b2 f2 g2 u0.1 u0.2.2.1 u0.2.2.2.1 u0.2.2.2.2, cSig b2 u0.1, cSet f2 u0.1, cCon g2 u0.1 u0.2.1]) := by
  refine Ct.mk (cc := cX7_rippleWith) (maxL := 10) (ret := (some .long)) (plainFor_of_name (by decide)) rfl (Nat.le_of_ble_eq_true rfl) ?_
  intro p e s m below meth c A ls H locs S hr hlk hnm B hl
  have S : CallFix p m c cX7_rippleWith 10 s #[.ref u, .int (iI wd), .int (iI nr)] wsX7_rippleWith RX7 := S
  have hl : lv_has ls 10 [(0, .ref u), (1, .int (iI wd)), (2, .int (iI nr))] := hl
  refine z_lconst S (pc := 0) (x := 0) dX7_rippleWith_0 rfl ?_
  refine lv_lstore_n (lv' := [(3, .long (iL 0)), (0, .ref u), (1, .int (iI wd)), (2, .int (iI nr))]) S.1 S.2.1 (pc := 1) dX7_rippleWith_1 rfl hl (by decide) rfl (fun ls hl => ?_)
  refine z_lconst S (pc := 2) (x := 0) dX7_rippleWith_2 rfl ?_
  refine lv_lstore (lv' := [(5, .long (iL 0)), (3, .long (iL 0)), (0, .ref u), (1, .int (iI wd)), (2, .int (iI nr))]) S.1 S.2.1 (pc := 3) dX7_rippleWith_3 hl (by decide) rfl (fun ls hl => ?_)
  refine z_iconst S (pc := 5) dX7_rippleWith_5 ?_
  refine lv_istore (lv' := [(7, .int (iI 0)), (5, .long (iL 0)), (3, .long (iL 0)), (0, .ref u), (1, .int (iI wd)), (2, .int (iI nr))]) S.1 S.2.1 (pc := 6) dX7_rippleWith_6 hl (by decide) rfl (fun ls hl => ?_)
  obtain ⟨z, hz⟩ : ∃ z, ripL (up σ 5 wd) nr nr.toNat 0 0 0 = z := ⟨_, rfl⟩
  refine lpX7_rippleWith E S u o x1 x2 x3 x5 a b f g σ ov rr rb rn h a2 b2 f2 g2 wd nr hs hn h11 h22 ho hw hnr nr.toNat 0 0 0 σ2 ov2 rr2 rb2 rn2 (by omega) (by omega) (by omega) z hz (fun u0 H locs ls B hl => ?_) _ _ _ B (lv_sub hl [3, 4, 5, 2, 1, 0] rfl)
  refine z_lload S (pc := 117) dX7_rippleWith_117 (lv_at hl 4 rfl) ?_
  refine z_lload_n S (pc := 119) dX7_rippleWith_119 rfl (lv_at hl 3 rfl) ?_
  refine z_lsub S (pc := 120) dX7_rippleWith_120 ?_
  exact z_lreturn S hr hlk B ⟨u0.1, u0.2.1, u0.2.2.1, u0.2.2.2.1, u0.2.2.2.2⟩ trivial (by unfold rip; rw [hz]) rfl (pc := 121) dX7_rippleWith_121
set_option maxHeartbeats 4000000 in
set_option maxRecDepth 100000 in
theorem mX7_wouldRead (l : Launch) (E : gT) (u : Nat) (o : Nat) (x1 : Nat) (x2 : Nat) (x3 : Nat) (x5 : Nat) (a : Nat) (b : Nat) (f : Nat) (g : Nat) (σ : Nat → Int) (ov : Int) (rr : Int) (rb : Int) (rn : Int) (h : Nat) (a2 : Nat) (b2 : Nat) (f2 : Nat) (g2 : Nat) (σ2 : Nat → Int) (ov2 : Int) (rr2 : Int) (rb2 : Int) (rn2 : Int) (v : Int) (hv : -3000000 ≤ v ∧ v ≤ 3000000) (hs : Sets σ) (hn : Nums σ) (h11 : 0 ≤ σ 11 ∧ σ 11 ≤ 1900000000) (h22 : σ 22 = 0 ∨ σ 22 = 1) (ho : ov = 0 ∨ ov = 1) : Ct l E yX7_wouldRead wsX7_wouldRead 6 136 0 0 [.ref u, .int (iI v)] [cSlo u o x1 x2 x3 a2 x5, cSta o a h, cMet a b f g σ rr rb rn, cSig b σ, cSet f σ, cCon g σ ov, cMet a2 b2 f2 g2 σ2 rr2 rb2 rn2, cSig b2 σ2, cSet f2 σ2, cCon g2 σ2 ov2] (S0 := (Nat → Int) × Int × Int × Int × Int) (fun u0 => True) (fun _ => (some (.long (iL (vwl σ v))))) (fun u0 => [cSlo u o x1 x2 x3 a2 x5, cSta o a h, cMet a b f g σ rr rb rn, cSig b σ, cSet f σ, cCon g σ ov, cMet a2 b2 f2 g2 u0.1 u0.2.2.1 u0.2.2.2.1 u0.2.2.2.2, cSig b2 u0.1, cSet f2 u0.1, cCon g2 u0.1 u0.2.1]) := by
  refine Ct.mk (cc := cX7_wouldRead) (maxL := 2) (ret := (some .long)) (plainFor_of_name (by decide)) rfl (Nat.le_of_ble_eq_true rfl) ?_
  intro p e s m below meth c A ls H locs S hr hlk hnm B hl
  have S : CallFix p m c cX7_wouldRead 2 s #[.ref u, .int (iI v)] wsX7_wouldRead RX7 := S
  have hl : lv_has ls 2 [(0, .ref u), (1, .int (iI v))] := hl
  refine z_iload_n S (pc := 0) dX7_wouldRead_0 rfl (lv_at hl 1 rfl) ?_
  refine z_ldc S (pc := 1) (x := (-3000000)) (by decide +kernel) rfl dX7_wouldRead_1 ?_
  refine z_ldc S (pc := 3) (x := 3000000) (by decide +kernel) rfl dX7_wouldRead_3 ?_
  refine z_callS S (pc := 5) B (wr := [cSlo u o x1 x2 x3 a2 x5, cSta o a h, cMet a b f g σ rr rb rn, cSig b σ, cSet f σ, cCon g σ ov, cMet a2 b2 f2 g2 σ2 rr2 rb2 rn2, cSig b2 σ2, cSet f2 σ2, cCon g2 σ2 ov2]) (wn := fun _ => [cSlo u o x1 x2 x3 a2 x5, cSta o a h, cMet a b f g σ rr rb rn, cSig b σ, cSet f σ, cCon g σ ov, cMet a2 b2 f2 g2 σ2 rr2 rb2 rn2, cSig b2 σ2, cSet f2 σ2, cCon g2 σ2 ov2]) (st1 := fun _ => [.int (iI (bI (v < (-3000000) ∨ 3000000 < v)))]) (As := [.int (iI v), .int (iI (-3000000)), .int (iI 3000000)]) (mX7_isOutside l E v (-3000000) 3000000 (show inI v ∧ inI (-3000000) ∧ inI 3000000 from by omega)) gX7_wouldRead_X7_isOutside 3 rfl (by decide +kernel) ⟨Nat.le_of_ble_eq_true rfl, Nat.le_of_ble_eq_true rfl, Nat.le_of_ble_eq_true rfl, Nat.le_of_ble_eq_true rfl⟩ [] [0, 1, 2, 3, 4, 5, 6, 7, 8, 9] [0, 1, 2, 3, 4, 5, 6, 7, 8, 9] rfl rfl ⟨rfl, rfl, rfl, by decide⟩ (fun _ => rfl) rfl (fun _ => rfl) hl.1 (Nat.le_of_ble_eq_true rfl) rfl dX7_wouldRead_5 (fun _ _ H locs B => ?_)
  refine z_ifeq_b S (pc := 8) (tgt := 15) dX7_wouldRead_8 rfl (fun c1 => ?_) (fun c1 => absurd c1 (by omega))
  refine z_aload_n S (pc := 15) dX7_wouldRead_15 rfl (lv_at hl 0 rfl) ?_
  refine z_iload_n S (pc := 16) dX7_wouldRead_16 rfl (lv_at hl 1 rfl) ?_
  refine z_callV S (pc := 17) B (wr := []) (wn := fun u2 => [cSlo u o x1 x2 x3 a2 x5, cSta o a h, cMet a b f g σ rr rb rn, cSig b σ, cSet f σ, cCon g σ ov, cMet a2 b2 f2 g2 u2.1 u2.2.2.1 u2.2.2.2.1 u2.2.2.2.2, cSig b2 u2.1, cSet f2 u2.1, cCon g2 u2.1 u2.2.1]) (st1 := fun _ => [.long (iL (vwl σ v))]) (As := [.int (iI v)]) (mX7_valueWithLevel l E u o x1 x2 x3 x5 a b f g σ ov rr rb rn h a2 b2 f2 g2 σ2 ov2 rr2 rb2 rn2 v (show -3000000 ≤ v ∧ v ≤ 3000000 from by omega) (show Sets σ from by assumption) (show Nums σ from by assumption) (show 0 ≤ σ 11 ∧ σ 11 ≤ 1900000000 from by omega) (show σ 22 = 0 ∨ σ 22 = 1 from by omega) (show ov = 0 ∨ ov = 1 from by omega)) gX7_wouldRead_X7_valueWithLevel 1 rfl (by decide +kernel) ⟨Nat.le_of_ble_eq_true rfl, Nat.le_of_ble_eq_true rfl, Nat.le_of_ble_eq_true rfl, Nat.le_of_ble_eq_true rfl⟩ 0 rfl (q := (RX7, TX7, 6)) rfl rfl [0, 1, 2, 3, 4, 5, 6, 7, 8, 9] [] [0, 1, 2, 3, 4, 5, 6, 7, 8, 9] rfl rfl ⟨rfl, rfl, rfl, by decide⟩ (fun _ => rfl) rfl (fun _ => rfl) hl.1 (Nat.le_of_ble_eq_true rfl) rfl dX7_wouldRead_17 (fun u2 hu2 H locs B => ?_)
  exact z_lreturn S hr hlk B ⟨u2.1, u2.2.1, u2.2.2.1, u2.2.2.2.1, u2.2.2.2.2⟩ trivial rfl rfl (pc := 20) dX7_wouldRead_20
set_option maxHeartbeats 4000000 in
set_option maxRecDepth 100000 in
theorem mX7_wouldRead_b (l : Launch) (E : gT) (u : Nat) (o : Nat) (x1 : Nat) (x2 : Nat) (x3 : Nat) (x4 : Nat) (x5 : Nat) (v : Int) (hI : inI v) (hbad : (v < -3000000 ∨ 3000000 < v)) : Cd l E yX7_wouldRead wsX7_wouldRead 6 136 0 0 [.ref u, .int (iI v)] [cSlo u o x1 x2 x3 x4 x5] (some (.long (iL (-1000000000000000002)))) [cSlo u o x1 x2 x3 x4 x5] := by
  refine Ct.mk (cc := cX7_wouldRead) (maxL := 2) (ret := (some .long)) (plainFor_of_name (by decide)) rfl (Nat.le_of_ble_eq_true rfl) ?_
  intro p e s m below meth c A ls H locs S hr hlk hnm B hl
  have S : CallFix p m c cX7_wouldRead 2 s #[.ref u, .int (iI v)] wsX7_wouldRead RX7 := S
  have hl : lv_has ls 2 [(0, .ref u), (1, .int (iI v))] := hl
  refine z_iload_n S (pc := 0) dX7_wouldRead_0 rfl (lv_at hl 1 rfl) ?_
  refine z_ldc S (pc := 1) (x := (-3000000)) (by decide +kernel) rfl dX7_wouldRead_1 ?_
  refine z_ldc S (pc := 3) (x := 3000000) (by decide +kernel) rfl dX7_wouldRead_3 ?_
  refine z_callS S (pc := 5) B (wr := [cSlo u o x1 x2 x3 x4 x5]) (wn := fun _ => [cSlo u o x1 x2 x3 x4 x5]) (st1 := fun _ => [.int (iI (bI (v < (-3000000) ∨ 3000000 < v)))]) (As := [.int (iI v), .int (iI (-3000000)), .int (iI 3000000)]) (mX7_isOutside l E v (-3000000) 3000000 (show inI v ∧ inI (-3000000) ∧ inI 3000000 from by omega)) gX7_wouldRead_X7_isOutside 3 rfl (by decide +kernel) ⟨Nat.le_of_ble_eq_true rfl, Nat.le_of_ble_eq_true rfl, Nat.le_of_ble_eq_true rfl, Nat.le_of_ble_eq_true rfl⟩ [] [0] [0] rfl rfl ⟨rfl, rfl, rfl, by decide⟩ (fun _ => rfl) rfl (fun _ => rfl) hl.1 (Nat.le_of_ble_eq_true rfl) rfl dX7_wouldRead_5 (fun _ _ H locs B => ?_)
  refine z_ifeq_b S (pc := 8) (tgt := 15) dX7_wouldRead_8 rfl (fun c1 => ?_) (fun c1 => ?_)
  · exact absurd hbad (by omega)
  · refine z_ldc2 S (pc := 11) (x := (-1000000000000000002)) (by decide +kernel) rfl dX7_wouldRead_11 ?_
    exact z_lreturn S hr hlk B () trivial rfl rfl (pc := 14) dX7_wouldRead_14
theorem iX7_ripple_X2 : ∀ w ∈ wsX20, w ∈ wsX7_ripple := by decide +kernel
theorem iX7_ripple_X4 : ∀ w ∈ wsX40, w ∈ wsX7_ripple := by decide +kernel
theorem iX7_ripple_X6 : ∀ w ∈ wsX60, w ∈ wsX7_ripple := by decide +kernel
theorem iX7_ripple_X7 : ∀ w ∈ wsX70, w ∈ wsX7_ripple := by decide +kernel
set_option maxHeartbeats 4000000 in
set_option maxRecDepth 100000 in
theorem mX7_ripple (l : Launch) (E : gT) (u : Nat) (o : Nat) (x1 : Nat) (x2 : Nat) (x3 : Nat) (x5 : Nat) (a : Nat) (b : Nat) (f : Nat) (g : Nat) (σ : Nat → Int) (ov : Int) (rr : Int) (rb : Int) (rn : Int) (h : Nat) (a2 : Nat) (b2 : Nat) (f2 : Nat) (g2 : Nat) (σ2 : Nat → Int) (ov2 : Int) (rr2 : Int) (rb2 : Int) (rn2 : Int) (nr : Int) (hnr : 1 ≤ nr ∧ nr ≤ 16) (hs : Sets σ) (hn : Nums σ) (h11 : 0 ≤ σ 11 ∧ σ 11 ≤ 1900000000) (h22 : σ 22 = 0 ∨ σ 22 = 1) (ho : ov = 0 ∨ ov = 1) : Ct l E yX7_ripple wsX7_ripple 6 144 0 0 [.ref u, .int (iI nr)] [cSlo u o x1 x2 x3 a2 x5, cSta o a h, cMet a b f g σ rr rb rn, cSig b σ, cSet f σ, cCon g σ ov, cMet a2 b2 f2 g2 σ2 rr2 rb2 rn2, cSig b2 σ2, cSet f2 σ2, cCon g2 σ2 ov2] (S0 := (Nat → Int) × Int × Int × Int × Int) (fun u0 => True) (fun _ => (some (.long (iL (rip σ nr))))) (fun u0 => [cSlo u o x1 x2 x3 a2 x5, cSta o a h, cMet a b f g σ rr rb rn, cSig b σ, cSet f σ, cCon g σ ov, cMet a2 b2 f2 g2 u0.1 u0.2.2.1 u0.2.2.2.1 u0.2.2.2.2, cSig b2 u0.1, cSet f2 u0.1, cCon g2 u0.1 u0.2.1]) := by
  refine Ct.mk (cc := cX7_ripple) (maxL := 2) (ret := (some .long)) (plainFor_of_name (by decide)) rfl (Nat.le_of_ble_eq_true rfl) ?_
  intro p e s m below meth c A ls H locs S hr hlk hnm B hl
  have S : CallFix p m c cX7_ripple 2 s #[.ref u, .int (iI nr)] wsX7_ripple RX7 := S
  have hl : lv_has ls 2 [(0, .ref u), (1, .int (iI nr))] := hl
  obtain ⟨s0, s1, s2, s3, s4, s5, sr⟩ := id hs
  refine z_iload_n S (pc := 0) dX7_ripple_0 rfl (lv_at hl 1 rfl) ?_
  refine z_iconst S (pc := 1) dX7_ripple_1 ?_
  refine z_bipush S (pc := 2) dX7_ripple_2 rfl ?_
  refine z_callS S (pc := 4) B (wr := [cSlo u o x1 x2 x3 a2 x5, cSta o a h, cMet a b f g σ rr rb rn, cSig b σ, cSet f σ, cCon g σ ov, cMet a2 b2 f2 g2 σ2 rr2 rb2 rn2, cSig b2 σ2, cSet f2 σ2, cCon g2 σ2 ov2]) (wn := fun _ => [cSlo u o x1 x2 x3 a2 x5, cSta o a h, cMet a b f g σ rr rb rn, cSig b σ, cSet f σ, cCon g σ ov, cMet a2 b2 f2 g2 σ2 rr2 rb2 rn2, cSig b2 σ2, cSet f2 σ2, cCon g2 σ2 ov2]) (st1 := fun _ => [.int (iI (bI (nr < 1 ∨ 16 < nr)))]) (As := [.int (iI nr), .int (iI 1), .int (iI 16)]) (mX7_isOutside l E nr 1 16 (show inI nr ∧ inI 1 ∧ inI 16 from by omega)) gX7_ripple_X7_isOutside 3 rfl (by decide +kernel) ⟨Nat.le_of_ble_eq_true rfl, Nat.le_of_ble_eq_true rfl, Nat.le_of_ble_eq_true rfl, Nat.le_of_ble_eq_true rfl⟩ [] [0, 1, 2, 3, 4, 5, 6, 7, 8, 9] [0, 1, 2, 3, 4, 5, 6, 7, 8, 9] rfl rfl ⟨rfl, rfl, rfl, by decide⟩ (fun _ => rfl) rfl (fun _ => rfl) hl.1 (Nat.le_of_ble_eq_true rfl) rfl dX7_ripple_4 (fun _ _ H locs B => ?_)
  refine z_ifeq_b S (pc := 7) (tgt := 14) dX7_ripple_7 rfl (fun c1 => ?_) (fun c1 => absurd c1 (by omega))
  refine z_aload_n S (pc := 14) dX7_ripple_14 rfl (lv_at hl 0 rfl) ?_
  refine z_aload_n S (pc := 15) dX7_ripple_15 rfl (lv_at hl 0 rfl) ?_
  refine z_get S (pc := 16) B iX7_ripple_X7 0 rfl rfl 0 (by decide) rfl rfl (by decide +kernel) dX7_ripple_16 ?_
  refine z_get S (pc := 19) B iX7_ripple_X6 1 rfl rfl 0 (by decide) rfl rfl (by decide +kernel) dX7_ripple_19 ?_
  refine z_get S (pc := 22) B iX7_ripple_X2 2 rfl rfl 1 (by decide) rfl rfl (by decide +kernel) dX7_ripple_22 ?_
  refine z_get S (pc := 25) B iX7_ripple_X4 4 rfl rfl 0 (by decide) rfl rfl (by decide +kernel) dX7_ripple_25 ?_
  refine z_iload_n S (pc := 28) dX7_ripple_28 rfl (lv_at hl 1 rfl) ?_
  refine z_callV S (pc := 29) B (wr := []) (wn := fun u2 => [cSlo u o x1 x2 x3 a2 x5, cSta o a h, cMet a b f g σ rr rb rn, cSig b σ, cSet f σ, cCon g σ ov, cMet a2 b2 f2 g2 u2.1 u2.2.2.1 u2.2.2.2.1 u2.2.2.2.2, cSig b2 u2.1, cSet f2 u2.1, cCon g2 u2.1 u2.2.1]) (st1 := fun _ => [.long (iL (rip (up σ 5 (σ 5)) nr))]) (As := [.int (iI (σ 5)), .int (iI nr)]) (mX7_rippleWith l E u o x1 x2 x3 x5 a b f g σ ov rr rb rn h a2 b2 f2 g2 σ2 ov2 rr2 rb2 rn2 (σ 5) nr (show 4 ≤ (σ 5) ∧ (σ 5) ≤ 400 from by omega) (show 1 ≤ nr ∧ nr ≤ 16 from by omega) (show Sets σ from by assumption) (show Nums σ from by assumption) (show 0 ≤ σ 11 ∧ σ 11 ≤ 1900000000 from by omega) (show σ 22 = 0 ∨ σ 22 = 1 from by omega) (show ov = 0 ∨ ov = 1 from by omega)) gX7_ripple_X7_rippleWith 2 rfl (by decide +kernel) ⟨Nat.le_of_ble_eq_true rfl, Nat.le_of_ble_eq_true rfl, Nat.le_of_ble_eq_true rfl, Nat.le_of_ble_eq_true rfl⟩ 0 rfl (q := (RX7, TX7, 6)) rfl rfl [0, 1, 2, 3, 4, 5, 6, 7, 8, 9] [] [0, 1, 2, 3, 4, 5, 6, 7, 8, 9] rfl rfl ⟨rfl, rfl, rfl, by decide⟩ (fun _ => rfl) rfl (fun _ => rfl) hl.1 (Nat.le_of_ble_eq_true rfl) rfl dX7_ripple_29 (fun u2 hu2 H locs B => ?_)
  exact z_lreturn S hr hlk B ⟨u2.1, u2.2.1, u2.2.2.1, u2.2.2.2.1, u2.2.2.2.2⟩ trivial (by rw [up_self]) rfl (pc := 32) dX7_ripple_32
set_option maxHeartbeats 4000000 in
set_option maxRecDepth 100000 in
theorem mX7_ripple_b (l : Launch) (E : gT) (u : Nat) (o : Nat) (x1 : Nat) (x2 : Nat) (x3 : Nat) (x4 : Nat) (x5 : Nat) (nr : Int) (hI : inI nr) (hbad : (nr < 1 ∨ 16 < nr)) : Cd l E yX7_ripple wsX7_ripple 6 144 0 0 [.ref u, .int (iI nr)] [cSlo u o x1 x2 x3 x4 x5] (some (.long (iL (-1000000000000000002)))) [cSlo u o x1 x2 x3 x4 x5] := by
  refine Ct.mk (cc := cX7_ripple) (maxL := 2) (ret := (some .long)) (plainFor_of_name (by decide)) rfl (Nat.le_of_ble_eq_true rfl) ?_
  intro p e s m below meth c A ls H locs S hr hlk hnm B hl
  have S : CallFix p m c cX7_ripple 2 s #[.ref u, .int (iI nr)] wsX7_ripple RX7 := S
  have hl : lv_has ls 2 [(0, .ref u), (1, .int (iI nr))] := hl
  refine z_iload_n S (pc := 0) dX7_ripple_0 rfl (lv_at hl 1 rfl) ?_
  refine z_iconst S (pc := 1) dX7_ripple_1 ?_
  refine z_bipush S (pc := 2) dX7_ripple_2 rfl ?_
  refine z_callS S (pc := 4) B (wr := [cSlo u o x1 x2 x3 x4 x5]) (wn := fun _ => [cSlo u o x1 x2 x3 x4 x5]) (st1 := fun _ => [.int (iI (bI (nr < 1 ∨ 16 < nr)))]) (As := [.int (iI nr), .int (iI 1), .int (iI 16)]) (mX7_isOutside l E nr 1 16 (show inI nr ∧ inI 1 ∧ inI 16 from by omega)) gX7_ripple_X7_isOutside 3 rfl (by decide +kernel) ⟨Nat.le_of_ble_eq_true rfl, Nat.le_of_ble_eq_true rfl, Nat.le_of_ble_eq_true rfl, Nat.le_of_ble_eq_true rfl⟩ [] [0] [0] rfl rfl ⟨rfl, rfl, rfl, by decide⟩ (fun _ => rfl) rfl (fun _ => rfl) hl.1 (Nat.le_of_ble_eq_true rfl) rfl dX7_ripple_4 (fun _ _ H locs B => ?_)
  refine z_ifeq_b S (pc := 7) (tgt := 14) dX7_ripple_7 rfl (fun c1 => ?_) (fun c1 => ?_)
  · exact absurd hbad (by omega)
  · refine z_ldc2 S (pc := 10) (x := (-1000000000000000002)) (by decide +kernel) rfl dX7_ripple_10 ?_
    exact z_lreturn S hr hlk B () trivial rfl rfl (pc := 13) dX7_ripple_13
set_option maxHeartbeats 4000000 in
set_option maxRecDepth 100000 in
theorem lpX7_bestWindow {p : Program} {l : Launch} {e : Env} {s : State} {m : MethodId} {args : Array Value} {below : List Frame} {meth : Method} {c : Code} {Q : State → Prop} {A : Nat → Prop} (E : gT) (S : CallFix p m c cX7_bestWindow 11 s args wsX7_bestWindow RX7) (u : Nat) (o : Nat) (x1 : Nat) (x2 : Nat) (x3 : Nat) (x5 : Nat) (a : Nat) (b : Nat) (f : Nat) (g : Nat) (σ : Nat → Int) (ov : Int) (rr : Int) (rb : Int) (rn : Int) (h : Nat) (a2 : Nat) (b2 : Nat) (f2 : Nat) (g2 : Nat) (fi : Int) (sp : Int) (co : Int) (hs : Sets σ) (hn : Nums σ) (h11 : 0 ≤ σ 11 ∧ σ 11 ≤ 1900000000) (h22 : σ 22 = 0 ∨ σ 22 = 1) (ho : ov = 0 ∨ ov = 1) (hf : 4 ≤ fi ∧ fi ≤ 400) (hsp : 1 ≤ sp ∧ sp ≤ 100) (hco : 1 ≤ co ∧ co ≤ 12) (hmx : fi + (co - 1) * sp ≤ 400) :
    ∀ (n : Nat) (i : Int) (y : Int) (x : Int) (σ2 : Nat → Int) (ov2 : Int) (rr2 : Int) (rb2 : Int) (rn2 : Int) (hk : 1 ≤ i ∧ i + (n : Int) = co) (hxb : -12000000000 ≤ x ∧ x ≤ 12000000000) (res : Int) (hres : bwL σ fi sp n i y x = res) (hx : ∀ (u0 : (Nat → Int) × Int × Int × Int × Int) (H : Heap) (locs : List Loc) (ls : Array Slot), bw E A s H locs [cSlo u o x1 x2 x3 a2 x5, cSta o a h, cMet a b f g σ rr rb rn, cSig b σ, cSet f σ, cCon g σ ov, cMet a2 b2 f2 g2 u0.1 u0.2.2.1 u0.2.2.2.1 u0.2.2.2.2, cSig b2 u0.1, cSet f2 u0.1, cCon g2 u0.1 u0.2.1] → lv_has ls 11 [(0, .ref u), (1, .int (iI fi)), (2, .int (iI sp)), (3, .int (iI co)), (4, .int (iI res))] → W p l e ({ frames := 6, cells := 0, slots := 0, locals := 144 } : Room) s m args below meth c H locs 0 0 Q (F0 m 113 ls [])) (H : Heap) (locs : List Loc) (ls : Array Slot) (B : bw E A s H locs [cSlo u o x1 x2 x3 a2 x5, cSta o a h, cMet a b f g σ rr rb rn, cSig b σ, cSet f σ, cCon g σ ov, cMet a2 b2 f2 g2 σ2 rr2 rb2 rn2, cSig b2 σ2, cSet f2 σ2, cCon g2 σ2 ov2]) (hl : lv_has ls 11 [(0, .ref u), (1, .int (iI fi)), (2, .int (iI sp)), (3, .int (iI co)), (4, .int (iI y)), (5, .long (iL x)), (7, .int (iI i))]), W p l e ({ frames := 6, cells := 0, slots := 0, locals := 144 } : Room) s m args below meth c H locs 0 0 Q (F0 m 67 ls []) := by
  intro n
  induction n with
  | zero =>
    intro i y x σ2 ov2 rr2 rb2 rn2 hk hxb res hres hx H locs ls B hl
    refine z_iload S (pc := 67) dX7_bestWindow_67 (lv_at hl 6 rfl) ?_
    refine z_iload_n S (pc := 69) dX7_bestWindow_69 rfl (lv_at hl 3 rfl) ?_
    refine z_icmp_ge S (pc := 70) (tgt := 113) (by omega) (by omega) dX7_bestWindow_70 rfl (fun c1 => ?_) (fun c1 => absurd c1 (by omega))
    subst hres
    exact hx ⟨σ2, ov2, rr2, rb2, rn2⟩ _ _ _ B (lv_sub hl [0, 1, 2, 3, 4] rfl)
  | succ n ih =>
    intro i y x σ2 ov2 rr2 rb2 rn2 hk hxb res hres hx H locs ls B hl
    have hm := mono_is (i := i) (c := co) (s := sp) (by omega) (by omega) (by omega)
    have hrb := rip_bd (σ := up σ 5 (fi + i * sp)) 8 (sets_w (t := σ 11) hs ⟨by omega, by omega⟩) hn
    refine z_iload S (pc := 67) dX7_bestWindow_67 (lv_at hl 6 rfl) ?_
    refine z_iload_n S (pc := 69) dX7_bestWindow_69 rfl (lv_at hl 3 rfl) ?_
    refine z_icmp_ge S (pc := 70) (tgt := 113) (by omega) (by omega) dX7_bestWindow_70 rfl (fun c1 => ?_) (fun c1 => ?_)
    · exact absurd c1 (by omega)
    · refine z_iload_n S (pc := 73) dX7_bestWindow_73 rfl (lv_at hl 1 rfl) ?_
      refine z_iload S (pc := 74) dX7_bestWindow_74 (lv_at hl 6 rfl) ?_
      refine z_iload_n S (pc := 76) dX7_bestWindow_76 rfl (lv_at hl 2 rfl) ?_
      refine z_imul S (pc := 77) dX7_bestWindow_77 ?_
      refine z_iadd S (pc := 78) dX7_bestWindow_78 ?_
      refine lv_istore (lv' := [(8, .int (iI (fi + (i * sp)))), (0, .ref u), (1, .int (iI fi)), (2, .int (iI sp)), (3, .int (iI co)), (4, .int (iI y)), (5, .long (iL x)), (7, .int (iI i))]) S.1 S.2.1 (pc := 79) dX7_bestWindow_79 hl (by decide) rfl (fun ls hl => ?_)
      refine z_aload_n S (pc := 81) dX7_bestWindow_81 rfl (lv_at hl 1 rfl) ?_
      refine z_iload S (pc := 82) dX7_bestWindow_82 (lv_at hl 0 rfl) ?_
      refine z_bipush S (pc := 84) dX7_bestWindow_84 rfl ?_
      refine z_callV S (pc := 86) B (wr := []) (wn := fun u2 => [cSlo u o x1 x2 x3 a2 x5, cSta o a h, cMet a b f g σ rr rb rn, cSig b σ, cSet f σ, cCon g σ ov, cMet a2 b2 f2 g2 u2.1 u2.2.2.1 u2.2.2.2.1 u2.2.2.2.2, cSig b2 u2.1, cSet f2 u2.1, cCon g2 u2.1 u2.2.1]) (st1 := fun _ => [.long (iL (rip (up σ 5 (fi + (i * sp))) 8))]) (As := [.int (iI (fi + (i * sp))), .int (iI 8)]) (mX7_rippleWith l E u o x1 x2 x3 x5 a b f g σ ov rr rb rn h a2 b2 f2 g2 σ2 ov2 rr2 rb2 rn2 (fi + (i * sp)) 8 (show 4 ≤ (fi + (i * sp)) ∧ (fi + (i * sp)) ≤ 400 from by omega) (show 1 ≤ 8 ∧ 8 ≤ 16 from by omega) (show Sets σ from by assumption) (show Nums σ from by assumption) (show 0 ≤ σ 11 ∧ σ 11 ≤ 1900000000 from by omega) (show σ 22 = 0 ∨ σ 22 = 1 from by omega) (show ov = 0 ∨ ov = 1 from by omega)) gX7_bestWindow_X7_rippleWith 2 rfl (by decide +kernel) ⟨Nat.le_of_ble_eq_true rfl, Nat.le_of_ble_eq_true rfl, Nat.le_of_ble_eq_true rfl, Nat.le_of_ble_eq_true rfl⟩ 0 rfl (q := (RX7, TX7, 6)) rfl rfl [0, 1, 2, 3, 4, 5, 6, 7, 8, 9] [] [0, 1, 2, 3, 4, 5, 6, 7, 8, 9] rfl rfl ⟨rfl, rfl, rfl, by decide⟩ (fun _ => rfl) rfl (fun _ => rfl) hl.1 (Nat.le_of_ble_eq_true rfl) rfl dX7_bestWindow_86 (fun u2 hu2 H locs B => ?_)
      refine lv_lstore (lv' := [(9, .long (iL (rip (up σ 5 (fi + (i * sp))) 8))), (8, .int (iI (fi + (i * sp)))), (0, .ref u), (1, .int (iI fi)), (2, .int (iI sp)), (3, .int (iI co)), (4, .int (iI y)), (5, .long (iL x)), (7, .int (iI i))]) S.1 S.2.1 (pc := 89) dX7_bestWindow_89 hl (by decide) rfl (fun ls hl => ?_)
      refine z_lload S (pc := 91) dX7_bestWindow_91 (lv_at hl 0 rfl) ?_
      refine z_lload S (pc := 93) dX7_bestWindow_93 (lv_at hl 7 rfl) ?_
      refine z_lc_ge S (pc := 95) (tgt := 107) (by omega) (by omega) dX7_bestWindow_95 dX7_bestWindow_96 rfl (fun c3 => ?_) (fun c3 => ?_)
      · refine lv_iinc (v := iI (i + 1)) (lv' := [(7, .int (iI (i + 1))), (9, .long (iL (rip (up σ 5 (fi + (i * sp))) 8))), (8, .int (iI (fi + (i * sp)))), (0, .ref u), (1, .int (iI fi)), (2, .int (iI sp)), (3, .int (iI co)), (4, .int (iI y)), (5, .long (iL x))]) S.1 S.2.1 (pc := 107) dX7_bestWindow_107 hl (k := 8) rfl (iI_add _ _) (by decide) rfl (fun ls hl => ?_)
        refine lv_goto S.1 S.2.1 (pc := 110) (tgt := 67) dX7_bestWindow_110 rfl ?_
        exact ih (i + 1) y x u2.1 u2.2.1 u2.2.2.1 u2.2.2.2.1 u2.2.2.2.2 (by omega) (by omega) res (by rw [← hres]; simp only [bwL]; rw [if_neg (by omega)]) hx _ _ _ B (lv_sub hl [3, 4, 5, 6, 7, 8, 0] rfl)
      · refine z_lload S (pc := 99) dX7_bestWindow_99 (lv_at hl 0 rfl) ?_
        refine lv_lstore (lv' := [(5, .long (iL (rip (up σ 5 (fi + (i * sp))) 8))), (9, .long (iL (rip (up σ 5 (fi + (i * sp))) 8))), (8, .int (iI (fi + (i * sp)))), (0, .ref u), (1, .int (iI fi)), (2, .int (iI sp)), (3, .int (iI co)), (4, .int (iI y)), (7, .int (iI i))]) S.1 S.2.1 (pc := 101) dX7_bestWindow_101 hl (by decide) rfl (fun ls hl => ?_)
        refine z_iload S (pc := 103) dX7_bestWindow_103 (lv_at hl 2 rfl) ?_
        refine lv_istore (lv' := [(4, .int (iI (fi + (i * sp)))), (5, .long (iL (rip (up σ 5 (fi + (i * sp))) 8))), (9, .long (iL (rip (up σ 5 (fi + (i * sp))) 8))), (8, .int (iI (fi + (i * sp)))), (0, .ref u), (1, .int (iI fi)), (2, .int (iI sp)), (3, .int (iI co)), (7, .int (iI i))]) S.1 S.2.1 (pc := 105) dX7_bestWindow_105 hl (by decide) rfl (fun ls hl => ?_)
        refine lv_iinc (v := iI (i + 1)) (lv' := [(7, .int (iI (i + 1))), (4, .int (iI (fi + (i * sp)))), (5, .long (iL (rip (up σ 5 (fi + (i * sp))) 8))), (9, .long (iL (rip (up σ 5 (fi + (i * sp))) 8))), (8, .int (iI (fi + (i * sp)))), (0, .ref u), (1, .int (iI fi)), (2, .int (iI sp)), (3, .int (iI co))]) S.1 S.2.1 (pc := 107) dX7_bestWindow_107 hl (k := 8) rfl (iI_add _ _) (by decide) rfl (fun ls hl => ?_)
        refine lv_goto S.1 S.2.1 (pc := 110) (tgt := 67) dX7_bestWindow_110 rfl ?_
        exact ih (i + 1) (fi + (i * sp)) (rip (up σ 5 (fi + (i * sp))) 8) u2.1 u2.2.1 u2.2.2.1 u2.2.2.2.1 u2.2.2.2.2 (by omega) (by omega) res (by rw [← hres]; simp only [bwL]; rw [if_pos (by omega)]) hx _ _ _ B (lv_sub hl [5, 6, 7, 8, 1, 2, 0] rfl)
set_option maxHeartbeats 4000000 in
set_option maxRecDepth 100000 in
theorem mX7_bestWindow (l : Launch) (E : gT) (u : Nat) (o : Nat) (x1 : Nat) (x2 : Nat) (x3 : Nat) (x5 : Nat) (a : Nat) (b : Nat) (f : Nat) (g : Nat) (σ : Nat → Int) (ov : Int) (rr : Int) (rb : Int) (rn : Int) (h : Nat) (a2 : Nat) (b2 : Nat) (f2 : Nat) (g2 : Nat) (σ2 : Nat → Int) (ov2 : Int) (rr2 : Int) (rb2 : Int) (rn2 : Int) (fi : Int) (sp : Int) (co : Int) (hf : 4 ≤ fi ∧ fi ≤ 400) (hsp : 1 ≤ sp ∧ sp ≤ 100) (hco : 1 ≤ co ∧ co ≤ 12) (hmx : fi + (co - 1) * sp ≤ 400) (hs : Sets σ) (hn : Nums σ) (h11 : 0 ≤ σ 11 ∧ σ 11 ≤ 1900000000) (h22 : σ 22 = 0 ∨ σ 22 = 1) (ho : ov = 0 ∨ ov = 1) : Ct l E yX7_bestWindow wsX7_bestWindow 6 144 0 0 [.ref u, .int (iI fi), .int (iI sp), .int (iI co)] [cSlo u o x1 x2 x3 a2 x5, cSta o a h, cMet a b f g σ rr rb rn, cSig b σ, cSet f σ, cCon g σ ov, cMet a2 b2 f2 g2 σ2 rr2 rb2 rn2, cSig b2 σ2, cSet f2 σ2, cCon g2 σ2 ov2] (S0 := (Nat → Int) × Int × Int × Int × Int) (fun u0 => True) (fun _ => (some (.int (iI (bwL σ fi sp (co - 1).toNat 1 fi (rip (up σ 5 fi) 8)))))) (fun u0 => [cSlo u o x1 x2 x3 a2 x5, cSta o a h, cMet a b f g σ rr rb rn, cSig b σ, cSet f σ, cCon g σ ov, cMet a2 b2 f2 g2 u0.1 u0.2.2.1 u0.2.2.2.1 u0.2.2.2.2, cSig b2 u0.1, cSet f2 u0.1, cCon g2 u0.1 u0.2.1]) := by
  refine Ct.mk (cc := cX7_bestWindow) (maxL := 11) (ret := (some .int)) (plainFor_of_name (by decide)) rfl (Nat.le_of_ble_eq_true rfl) ?_
  intro p e s m below meth c A ls H locs S hr hlk hnm B hl
  have S : CallFix p m c cX7_bestWindow 11 s #[.ref u, .int (iI fi), .int (iI sp), .int (iI co)] wsX7_bestWindow RX7 := S
  have hl : lv_has ls 11 [(0, .ref u), (1, .int (iI fi)), (2, .int (iI sp)), (3, .int (iI co))] := hl
  have hm0 := mono_is (i := co - 1) (c := co) (s := sp) (by omega) (by omega) (by omega)
  refine z_iload_n S (pc := 0) dX7_bestWindow_0 rfl (lv_at hl 1 rfl) ?_
  refine z_iconst S (pc := 1) dX7_bestWindow_1 ?_
  refine z_callS S (pc := 2) B (wr := [cSlo u o x1 x2 x3 a2 x5, cSta o a h, cMet a b f g σ rr rb rn, cSig b σ, cSet f σ, cCon g σ ov, cMet a2 b2 f2 g2 σ2 rr2 rb2 rn2, cSig b2 σ2, cSet f2 σ2, cCon g2 σ2 ov2]) (wn := fun _ => [cSlo u o x1 x2 x3 a2 x5, cSta o a h, cMet a b f g σ rr rb rn, cSig b σ, cSet f σ, cCon g σ ov, cMet a2 b2 f2 g2 σ2 rr2 rb2 rn2, cSig b2 σ2, cSet f2 σ2, cCon g2 σ2 ov2]) (st1 := fun _ => [.int (iI (loS 0)), .int (iI fi)]) (As := [.int (iI 0)]) (mX7_leastOf l E 0 (show inI 0 from by omega)) gX7_bestWindow_X7_leastOf 1 rfl (by decide +kernel) ⟨Nat.le_of_ble_eq_true rfl, Nat.le_of_ble_eq_true rfl, Nat.le_of_ble_eq_true rfl, Nat.le_of_ble_eq_true rfl⟩ [] [0, 1, 2, 3, 4, 5, 6, 7, 8, 9] [0, 1, 2, 3, 4, 5, 6, 7, 8, 9] rfl rfl ⟨rfl, rfl, rfl, by decide⟩ (fun _ => rfl) rfl (fun _ => rfl) hl.1 (Nat.le_of_ble_eq_true rfl) rfl dX7_bestWindow_2 (fun _ _ H locs B => ?_)
  rw [show loS 0 = 4 from rfl]
  refine z_iconst S (pc := 5) dX7_bestWindow_5 ?_
  refine z_callS S (pc := 6) B (wr := [cSlo u o x1 x2 x3 a2 x5, cSta o a h, cMet a b f g σ rr rb rn, cSig b σ, cSet f σ, cCon g σ ov, cMet a2 b2 f2 g2 σ2 rr2 rb2 rn2, cSig b2 σ2, cSet f2 σ2, cCon g2 σ2 ov2]) (wn := fun _ => [cSlo u o x1 x2 x3 a2 x5, cSta o a h, cMet a b f g σ rr rb rn, cSig b σ, cSet f σ, cCon g σ ov, cMet a2 b2 f2 g2 σ2 rr2 rb2 rn2, cSig b2 σ2, cSet f2 σ2, cCon g2 σ2 ov2]) (st1 := fun _ => [.int (iI (hiS 0)), .int (iI 4), .int (iI fi)]) (As := [.int (iI 0)]) (mX7_mostOf l E 0 (show inI 0 from by omega)) gX7_bestWindow_X7_mostOf 1 rfl (by decide +kernel) ⟨Nat.le_of_ble_eq_true rfl, Nat.le_of_ble_eq_true rfl, Nat.le_of_ble_eq_true rfl, Nat.le_of_ble_eq_true rfl⟩ [] [0, 1, 2, 3, 4, 5, 6, 7, 8, 9] [0, 1, 2, 3, 4, 5, 6, 7, 8, 9] rfl rfl ⟨rfl, rfl, rfl, by decide⟩ (fun _ => rfl) rfl (fun _ => rfl) hl.1 (Nat.le_of_ble_eq_true rfl) rfl dX7_bestWindow_6 (fun _ _ H locs B => ?_)
  rw [show hiS 0 = 400 from rfl]
  refine z_callS S (pc := 9) B (wr := [cSlo u o x1 x2 x3 a2 x5, cSta o a h, cMet a b f g σ rr rb rn, cSig b σ, cSet f σ, cCon g σ ov, cMet a2 b2 f2 g2 σ2 rr2 rb2 rn2, cSig b2 σ2, cSet f2 σ2, cCon g2 σ2 ov2]) (wn := fun _ => [cSlo u o x1 x2 x3 a2 x5, cSta o a h, cMet a b f g σ rr rb rn, cSig b σ, cSet f σ, cCon g σ ov, cMet a2 b2 f2 g2 σ2 rr2 rb2 rn2, cSig b2 σ2, cSet f2 σ2, cCon g2 σ2 ov2]) (st1 := fun _ => [.int (iI (bI (fi < 4 ∨ 400 < fi)))]) (As := [.int (iI fi), .int (iI 4), .int (iI 400)]) (mX7_isOutside l E fi 4 400 (show inI fi ∧ inI 4 ∧ inI 400 from by omega)) gX7_bestWindow_X7_isOutside 3 rfl (by decide +kernel) ⟨Nat.le_of_ble_eq_true rfl, Nat.le_of_ble_eq_true rfl, Nat.le_of_ble_eq_true rfl, Nat.le_of_ble_eq_true rfl⟩ [] [0, 1, 2, 3, 4, 5, 6, 7, 8, 9] [0, 1, 2, 3, 4, 5, 6, 7, 8, 9] rfl rfl ⟨rfl, rfl, rfl, by decide⟩ (fun _ => rfl) rfl (fun _ => rfl) hl.1 (Nat.le_of_ble_eq_true rfl) rfl dX7_bestWindow_9 (fun _ _ H locs B => ?_)
  refine z_ifne_b S (pc := 12) (tgt := 49) dX7_bestWindow_12 rfl (fun c1 => absurd c1 (by omega)) (fun c1 => ?_)
  refine z_iload_n S (pc := 15) dX7_bestWindow_15 rfl (lv_at hl 2 rfl) ?_
  refine z_iconst S (pc := 16) dX7_bestWindow_16 ?_
  refine z_bipush S (pc := 17) dX7_bestWindow_17 rfl ?_
  refine z_callS S (pc := 19) B (wr := [cSlo u o x1 x2 x3 a2 x5, cSta o a h, cMet a b f g σ rr rb rn, cSig b σ, cSet f σ, cCon g σ ov, cMet a2 b2 f2 g2 σ2 rr2 rb2 rn2, cSig b2 σ2, cSet f2 σ2, cCon g2 σ2 ov2]) (wn := fun _ => [cSlo u o x1 x2 x3 a2 x5, cSta o a h, cMet a b f g σ rr rb rn, cSig b σ, cSet f σ, cCon g σ ov, cMet a2 b2 f2 g2 σ2 rr2 rb2 rn2, cSig b2 σ2, cSet f2 σ2, cCon g2 σ2 ov2]) (st1 := fun _ => [.int (iI (bI (sp < 1 ∨ 100 < sp)))]) (As := [.int (iI sp), .int (iI 1), .int (iI 100)]) (mX7_isOutside l E sp 1 100 (show inI sp ∧ inI 1 ∧ inI 100 from by omega)) gX7_bestWindow_X7_isOutside 3 rfl (by decide +kernel) ⟨Nat.le_of_ble_eq_true rfl, Nat.le_of_ble_eq_true rfl, Nat.le_of_ble_eq_true rfl, Nat.le_of_ble_eq_true rfl⟩ [] [0, 1, 2, 3, 4, 5, 6, 7, 8, 9] [0, 1, 2, 3, 4, 5, 6, 7, 8, 9] rfl rfl ⟨rfl, rfl, rfl, by decide⟩ (fun _ => rfl) rfl (fun _ => rfl) hl.1 (Nat.le_of_ble_eq_true rfl) rfl dX7_bestWindow_19 (fun _ _ H locs B => ?_)
  refine z_ifne_b S (pc := 22) (tgt := 49) dX7_bestWindow_22 rfl (fun c2 => absurd c2 (by omega)) (fun c2 => ?_)
  refine z_iload_n S (pc := 25) dX7_bestWindow_25 rfl (lv_at hl 3 rfl) ?_
  refine z_iconst S (pc := 26) dX7_bestWindow_26 ?_
  refine z_bipush S (pc := 27) dX7_bestWindow_27 rfl ?_
  refine z_callS S (pc := 29) B (wr := [cSlo u o x1 x2 x3 a2 x5, cSta o a h, cMet a b f g σ rr rb rn, cSig b σ, cSet f σ, cCon g σ ov, cMet a2 b2 f2 g2 σ2 rr2 rb2 rn2, cSig b2 σ2, cSet f2 σ2, cCon g2 σ2 ov2]) (wn := fun _ => [cSlo u o x1 x2 x3 a2 x5, cSta o a h, cMet a b f g σ rr rb rn, cSig b σ, cSet f σ, cCon g σ ov, cMet a2 b2 f2 g2 σ2 rr2 rb2 rn2, cSig b2 σ2, cSet f2 σ2, cCon g2 σ2 ov2]) (st1 := fun _ => [.int (iI (bI (co < 1 ∨ 12 < co)))]) (As := [.int (iI co), .int (iI 1), .int (iI 12)]) (mX7_isOutside l E co 1 12 (show inI co ∧ inI 1 ∧ inI 12 from by omega)) gX7_bestWindow_X7_isOutside 3 rfl (by decide +kernel) ⟨Nat.le_of_ble_eq_true rfl, Nat.le_of_ble_eq_true rfl, Nat.le_of_ble_eq_true rfl, Nat.le_of_ble_eq_true rfl⟩ [] [0, 1, 2, 3, 4, 5, 6, 7, 8, 9] [0, 1, 2, 3, 4, 5, 6, 7, 8, 9] rfl rfl ⟨rfl, rfl, rfl, by decide⟩ (fun _ => rfl) rfl (fun _ => rfl) hl.1 (Nat.le_of_ble_eq_true rfl) rfl dX7_bestWindow_29 (fun _ _ H locs B => ?_)
  refine z_ifne_b S (pc := 32) (tgt := 49) dX7_bestWindow_32 rfl (fun c3 => absurd c3 (by omega)) (fun c3 => ?_)
  refine z_iload_n S (pc := 35) dX7_bestWindow_35 rfl (lv_at hl 1 rfl) ?_
  refine z_iload_n S (pc := 36) dX7_bestWindow_36 rfl (lv_at hl 3 rfl) ?_
  refine z_iconst S (pc := 37) dX7_bestWindow_37 ?_
  refine z_isub S (pc := 38) dX7_bestWindow_38 ?_
  refine z_iload_n S (pc := 39) dX7_bestWindow_39 rfl (lv_at hl 2 rfl) ?_
  refine z_imul S (pc := 40) dX7_bestWindow_40 ?_
  refine z_iadd S (pc := 41) dX7_bestWindow_41 ?_
  refine z_iconst S (pc := 42) dX7_bestWindow_42 ?_
  refine z_callS S (pc := 43) B (wr := [cSlo u o x1 x2 x3 a2 x5, cSta o a h, cMet a b f g σ rr rb rn, cSig b σ, cSet f σ, cCon g σ ov, cMet a2 b2 f2 g2 σ2 rr2 rb2 rn2, cSig b2 σ2, cSet f2 σ2, cCon g2 σ2 ov2]) (wn := fun _ => [cSlo u o x1 x2 x3 a2 x5, cSta o a h, cMet a b f g σ rr rb rn, cSig b σ, cSet f σ, cCon g σ ov, cMet a2 b2 f2 g2 σ2 rr2 rb2 rn2, cSig b2 σ2, cSet f2 σ2, cCon g2 σ2 ov2]) (st1 := fun _ => [.int (iI (hiS 0)), .int (iI (fi + ((co - 1) * sp)))]) (As := [.int (iI 0)]) (mX7_mostOf l E 0 (show inI 0 from by omega)) gX7_bestWindow_X7_mostOf 1 rfl (by decide +kernel) ⟨Nat.le_of_ble_eq_true rfl, Nat.le_of_ble_eq_true rfl, Nat.le_of_ble_eq_true rfl, Nat.le_of_ble_eq_true rfl⟩ [] [0, 1, 2, 3, 4, 5, 6, 7, 8, 9] [0, 1, 2, 3, 4, 5, 6, 7, 8, 9] rfl rfl ⟨rfl, rfl, rfl, by decide⟩ (fun _ => rfl) rfl (fun _ => rfl) hl.1 (Nat.le_of_ble_eq_true rfl) rfl dX7_bestWindow_43 (fun _ _ H locs B => ?_)
  rw [show hiS 0 = 400 from rfl]
  refine z_icmp_le S (pc := 46) (tgt := 52) (by omega) (by omega) dX7_bestWindow_46 rfl (fun c4 => ?_) (fun c4 => absurd c4 (by omega))
  refine z_iload_n S (pc := 52) dX7_bestWindow_52 rfl (lv_at hl 1 rfl) ?_
  refine lv_istore (lv' := [(4, .int (iI fi)), (0, .ref u), (1, .int (iI fi)), (2, .int (iI sp)), (3, .int (iI co))]) S.1 S.2.1 (pc := 53) dX7_bestWindow_53 hl (by decide) rfl (fun ls hl => ?_)
  refine z_aload_n S (pc := 55) dX7_bestWindow_55 rfl (lv_at hl 1 rfl) ?_
  refine z_iload_n S (pc := 56) dX7_bestWindow_56 rfl (lv_at hl 2 rfl) ?_
  refine z_bipush S (pc := 57) dX7_bestWindow_57 rfl ?_
  refine z_callV S (pc := 59) B (wr := []) (wn := fun u5 => [cSlo u o x1 x2 x3 a2 x5, cSta o a h, cMet a b f g σ rr rb rn, cSig b σ, cSet f σ, cCon g σ ov, cMet a2 b2 f2 g2 u5.1 u5.2.2.1 u5.2.2.2.1 u5.2.2.2.2, cSig b2 u5.1, cSet f2 u5.1, cCon g2 u5.1 u5.2.1]) (st1 := fun _ => [.long (iL (rip (up σ 5 fi) 8))]) (As := [.int (iI fi), .int (iI 8)]) (mX7_rippleWith l E u o x1 x2 x3 x5 a b f g σ ov rr rb rn h a2 b2 f2 g2 σ2 ov2 rr2 rb2 rn2 fi 8 (show 4 ≤ fi ∧ fi ≤ 400 from by omega) (show 1 ≤ 8 ∧ 8 ≤ 16 from by omega) (show Sets σ from by assumption) (show Nums σ from by assumption) (show 0 ≤ σ 11 ∧ σ 11 ≤ 1900000000 from by omega) (show σ 22 = 0 ∨ σ 22 = 1 from by omega) (show ov = 0 ∨ ov = 1 from by omega)) gX7_bestWindow_X7_rippleWith 2 rfl (by decide +kernel) ⟨Nat.le_of_ble_eq_true rfl, Nat.le_of_ble_eq_true rfl, Nat.le_of_ble_eq_true rfl, Nat.le_of_ble_eq_true rfl⟩ 0 rfl (q := (RX7, TX7, 6)) rfl rfl [0, 1, 2, 3, 4, 5, 6, 7, 8, 9] [] [0, 1, 2, 3, 4, 5, 6, 7, 8, 9] rfl rfl ⟨rfl, rfl, rfl, by decide⟩ (fun _ => rfl) rfl (fun _ => rfl) hl.1 (Nat.le_of_ble_eq_true rfl) rfl dX7_bestWindow_59 (fun u5 hu5 H locs B => ?_)
  refine lv_lstore (lv' := [(5, .long (iL (rip (up σ 5 fi) 8))), (4, .int (iI fi)), (0, .ref u), (1, .int (iI fi)), (2, .int (iI sp)), (3, .int (iI co))]) S.1 S.2.1 (pc := 62) dX7_bestWindow_62 hl (by decide) rfl (fun ls hl => ?_)
  refine z_iconst S (pc := 64) dX7_bestWindow_64 ?_
  refine lv_istore (lv' := [(7, .int (iI 1)), (5, .long (iL (rip (up σ 5 fi) 8))), (4, .int (iI fi)), (0, .ref u), (1, .int (iI fi)), (2, .int (iI sp)), (3, .int (iI co))]) S.1 S.2.1 (pc := 65) dX7_bestWindow_65 hl (by decide) rfl (fun ls hl => ?_)
  have hrb := rip_bd (σ := up σ 5 fi) 8 (sets_w (t := σ 11) hs hf) hn
  obtain ⟨z, hz⟩ : ∃ z, bwL σ fi sp (co - 1).toNat 1 fi (rip (up σ 5 fi) 8) = z := ⟨_, rfl⟩
  refine lpX7_bestWindow E S u o x1 x2 x3 x5 a b f g σ ov rr rb rn h a2 b2 f2 g2 fi sp co hs hn h11 h22 ho hf hsp hco hmx (co - 1).toNat 1 fi (rip (up σ 5 fi) 8) u5.1 u5.2.1 u5.2.2.1 u5.2.2.2.1 u5.2.2.2.2 (by omega) (by omega) z hz (fun u0 H locs ls B hl => ?_) _ _ _ B (lv_sub hl [3, 4, 5, 6, 2, 1, 0] rfl)
  refine z_iload S (pc := 113) dX7_bestWindow_113 (lv_at hl 4 rfl) ?_
  exact z_ireturn S hr hlk B ⟨u0.1, u0.2.1, u0.2.2.1, u0.2.2.2.1, u0.2.2.2.2⟩ trivial (by rw [hz]) rfl (pc := 115) dX7_bestWindow_115
set_option maxHeartbeats 4000000 in
set_option maxRecDepth 100000 in
theorem mX7_bestWindow_b (l : Launch) (E : gT) (u : Nat) (o : Nat) (x1 : Nat) (x2 : Nat) (x3 : Nat) (x4 : Nat) (x5 : Nat) (fi : Int) (sp : Int) (co : Int) (hI : inI fi ∧ inI sp ∧ inI co) (hbad : (fi < 4 ∨ 400 < fi ∨ sp < 1 ∨ 100 < sp ∨ co < 1 ∨ 12 < co ∨ 400 < fi + (co - 1) * sp)) : Cd l E yX7_bestWindow wsX7_bestWindow 6 144 0 0 [.ref u, .int (iI fi), .int (iI sp), .int (iI co)] [cSlo u o x1 x2 x3 x4 x5] (some (.int (iI (-2)))) [cSlo u o x1 x2 x3 x4 x5] := by
  refine Ct.mk (cc := cX7_bestWindow) (maxL := 11) (ret := (some .int)) (plainFor_of_name (by decide)) rfl (Nat.le_of_ble_eq_true rfl) ?_
  intro p e s m below meth c A ls H locs S hr hlk hnm B hl
  have S : CallFix p m c cX7_bestWindow 11 s #[.ref u, .int (iI fi), .int (iI sp), .int (iI co)] wsX7_bestWindow RX7 := S
  have hl : lv_has ls 11 [(0, .ref u), (1, .int (iI fi)), (2, .int (iI sp)), (3, .int (iI co))] := hl
  refine z_iload_n S (pc := 0) dX7_bestWindow_0 rfl (lv_at hl 1 rfl) ?_
  refine z_iconst S (pc := 1) dX7_bestWindow_1 ?_
  refine z_callS S (pc := 2) B (wr := [cSlo u o x1 x2 x3 x4 x5]) (wn := fun _ => [cSlo u o x1 x2 x3 x4 x5]) (st1 := fun _ => [.int (iI (loS 0)), .int (iI fi)]) (As := [.int (iI 0)]) (mX7_leastOf l E 0 (show inI 0 from by omega)) gX7_bestWindow_X7_leastOf 1 rfl (by decide +kernel) ⟨Nat.le_of_ble_eq_true rfl, Nat.le_of_ble_eq_true rfl, Nat.le_of_ble_eq_true rfl, Nat.le_of_ble_eq_true rfl⟩ [] [0] [0] rfl rfl ⟨rfl, rfl, rfl, by decide⟩ (fun _ => rfl) rfl (fun _ => rfl) hl.1 (Nat.le_of_ble_eq_true rfl) rfl dX7_bestWindow_2 (fun _ _ H locs B => ?_)
  rw [show loS 0 = 4 from rfl]
  refine z_iconst S (pc := 5) dX7_bestWindow_5 ?_
  refine z_callS S (pc := 6) B (wr := [cSlo u o x1 x2 x3 x4 x5]) (wn := fun _ => [cSlo u o x1 x2 x3 x4 x5]) (st1 := fun _ => [.int (iI (hiS 0)), .int (iI 4), .int (iI fi)]) (As := [.int (iI 0)]) (mX7_mostOf l E 0 (show inI 0 from by omega)) gX7_bestWindow_X7_mostOf 1 rfl (by decide +kernel) ⟨Nat.le_of_ble_eq_true rfl, Nat.le_of_ble_eq_true rfl, Nat.le_of_ble_eq_true rfl, Nat.le_of_ble_eq_true rfl⟩ [] [0] [0] rfl rfl ⟨rfl, rfl, rfl, by decide⟩ (fun _ => rfl) rfl (fun _ => rfl) hl.1 (Nat.le_of_ble_eq_true rfl) rfl dX7_bestWindow_6 (fun _ _ H locs B => ?_)
  rw [show hiS 0 = 400 from rfl]
  refine z_callS S (pc := 9) B (wr := [cSlo u o x1 x2 x3 x4 x5]) (wn := fun _ => [cSlo u o x1 x2 x3 x4 x5]) (st1 := fun _ => [.int (iI (bI (fi < 4 ∨ 400 < fi)))]) (As := [.int (iI fi), .int (iI 4), .int (iI 400)]) (mX7_isOutside l E fi 4 400 (show inI fi ∧ inI 4 ∧ inI 400 from by omega)) gX7_bestWindow_X7_isOutside 3 rfl (by decide +kernel) ⟨Nat.le_of_ble_eq_true rfl, Nat.le_of_ble_eq_true rfl, Nat.le_of_ble_eq_true rfl, Nat.le_of_ble_eq_true rfl⟩ [] [0] [0] rfl rfl ⟨rfl, rfl, rfl, by decide⟩ (fun _ => rfl) rfl (fun _ => rfl) hl.1 (Nat.le_of_ble_eq_true rfl) rfl dX7_bestWindow_9 (fun _ _ H locs B => ?_)
  refine z_ifne_b S (pc := 12) (tgt := 49) dX7_bestWindow_12 rfl (fun c1 => ?_) (fun c1 => ?_)
  · refine z_bipush S (pc := 49) dX7_bestWindow_49 rfl ?_
    exact z_ireturn S hr hlk B () trivial rfl rfl (pc := 51) dX7_bestWindow_51
  · refine z_iload_n S (pc := 15) dX7_bestWindow_15 rfl (lv_at hl 2 rfl) ?_
    refine z_iconst S (pc := 16) dX7_bestWindow_16 ?_
    refine z_bipush S (pc := 17) dX7_bestWindow_17 rfl ?_
    refine z_callS S (pc := 19) B (wr := [cSlo u o x1 x2 x3 x4 x5]) (wn := fun _ => [cSlo u o x1 x2 x3 x4 x5]) (st1 := fun _ => [.int (iI (bI (sp < 1 ∨ 100 < sp)))]) (As := [.int (iI sp), .int (iI 1), .int (iI 100)]) (mX7_isOutside l E sp 1 100 (show inI sp ∧ inI 1 ∧ inI 100 from by omega)) gX7_bestWindow_X7_isOutside 3 rfl (by decide +kernel) ⟨Nat.le_of_ble_eq_true rfl, Nat.le_of_ble_eq_true rfl, Nat.le_of_ble_eq_true rfl, Nat.le_of_ble_eq_true rfl⟩ [] [0] [0] rfl rfl ⟨rfl, rfl, rfl, by decide⟩ (fun _ => rfl) rfl (fun _ => rfl) hl.1 (Nat.le_of_ble_eq_true rfl) rfl dX7_bestWindow_19 (fun _ _ H locs B => ?_)
    refine z_ifne_b S (pc := 22) (tgt := 49) dX7_bestWindow_22 rfl (fun c2 => ?_) (fun c2 => ?_)
    · refine z_bipush S (pc := 49) dX7_bestWindow_49 rfl ?_
      exact z_ireturn S hr hlk B () trivial rfl rfl (pc := 51) dX7_bestWindow_51
    · refine z_iload_n S (pc := 25) dX7_bestWindow_25 rfl (lv_at hl 3 rfl) ?_
      refine z_iconst S (pc := 26) dX7_bestWindow_26 ?_
      refine z_bipush S (pc := 27) dX7_bestWindow_27 rfl ?_
      refine z_callS S (pc := 29) B (wr := [cSlo u o x1 x2 x3 x4 x5]) (wn := fun _ => [cSlo u o x1 x2 x3 x4 x5]) (st1 := fun _ => [.int (iI (bI (co < 1 ∨ 12 < co)))]) (As := [.int (iI co), .int (iI 1), .int (iI 12)]) (mX7_isOutside l E co 1 12 (show inI co ∧ inI 1 ∧ inI 12 from by omega)) gX7_bestWindow_X7_isOutside 3 rfl (by decide +kernel) ⟨Nat.le_of_ble_eq_true rfl, Nat.le_of_ble_eq_true rfl, Nat.le_of_ble_eq_true rfl, Nat.le_of_ble_eq_true rfl⟩ [] [0] [0] rfl rfl ⟨rfl, rfl, rfl, by decide⟩ (fun _ => rfl) rfl (fun _ => rfl) hl.1 (Nat.le_of_ble_eq_true rfl) rfl dX7_bestWindow_29 (fun _ _ H locs B => ?_)
      refine z_ifne_b S (pc := 32) (tgt := 49) dX7_bestWindow_32 rfl (fun c3 => ?_) (fun c3 => ?_)
      · refine z_bipush S (pc := 49) dX7_bestWindow_49 rfl ?_
        exact z_ireturn S hr hlk B () trivial rfl rfl (pc := 51) dX7_bestWindow_51
      · have hm0 := mul_bd2 (a := co - 1) (x := sp) (M := 11) (X := 100) (by omega) (by omega) (by omega) (by omega)
        refine z_iload_n S (pc := 35) dX7_bestWindow_35 rfl (lv_at hl 1 rfl) ?_
        refine z_iload_n S (pc := 36) dX7_bestWindow_36 rfl (lv_at hl 3 rfl) ?_
        refine z_iconst S (pc := 37) dX7_bestWindow_37 ?_
        refine z_isub S (pc := 38) dX7_bestWindow_38 ?_
        refine z_iload_n S (pc := 39) dX7_bestWindow_39 rfl (lv_at hl 2 rfl) ?_
        refine z_imul S (pc := 40) dX7_bestWindow_40 ?_
        refine z_iadd S (pc := 41) dX7_bestWindow_41 ?_
        refine z_iconst S (pc := 42) dX7_bestWindow_42 ?_
        refine z_callS S (pc := 43) B (wr := [cSlo u o x1 x2 x3 x4 x5]) (wn := fun _ => [cSlo u o x1 x2 x3 x4 x5]) (st1 := fun _ => [.int (iI (hiS 0)), .int (iI (fi + ((co - 1) * sp)))]) (As := [.int (iI 0)]) (mX7_mostOf l E 0 (show inI 0 from by omega)) gX7_bestWindow_X7_mostOf 1 rfl (by decide +kernel) ⟨Nat.le_of_ble_eq_true rfl, Nat.le_of_ble_eq_true rfl, Nat.le_of_ble_eq_true rfl, Nat.le_of_ble_eq_true rfl⟩ [] [0] [0] rfl rfl ⟨rfl, rfl, rfl, by decide⟩ (fun _ => rfl) rfl (fun _ => rfl) hl.1 (Nat.le_of_ble_eq_true rfl) rfl dX7_bestWindow_43 (fun _ _ H locs B => ?_)
        rw [show hiS 0 = 400 from rfl]
        refine z_icmp_le S (pc := 46) (tgt := 52) (by omega) (by omega) dX7_bestWindow_46 rfl (fun c4 => ?_) (fun c4 => ?_)
        · exact absurd hbad (by omega)
        · refine z_bipush S (pc := 49) dX7_bestWindow_49 rfl ?_
          exact z_ireturn S hr hlk B () trivial rfl rfl (pc := 51) dX7_bestWindow_51
set_option maxHeartbeats 4000000 in
set_option maxRecDepth 100000 in
theorem lpX7_order {p : Program} {l : Launch} {e : Env} {s : State} {m : MethodId} {args : Array Value} {below : List Frame} {meth : Method} {c : Code} {Q : State → Prop} {A : Nat → Prop} (E : gT) (S : CallFix p m c cX7_order 11 s args wsX7_order RX7) (u : Nat) (o : Nat) (x1 : Nat) (x2 : Nat) (x3 : Nat) (x5 : Nat) (a : Nat) (b : Nat) (f : Nat) (g : Nat) (σ : Nat → Int) (ov : Int) (rr : Int) (rb : Int) (rn : Int) (h : Nat) (a2 : Nat) (b2 : Nat) (f2 : Nat) (g2 : Nat) (fi : Int) (sp : Int) (co : Int) (wh : Int) (hs : Sets σ) (hn : Nums σ) (h11 : 0 ≤ σ 11 ∧ σ 11 ≤ 1900000000) (h22 : σ 22 = 0 ∨ σ 22 = 1) (ho : ov = 0 ∨ ov = 1) (hf : -3000000 ≤ fi ∧ fi ≤ 3000000) (hsp : 1 ≤ sp ∧ sp ≤ 100000) (hco : 2 ≤ co ∧ co ≤ 40) (hmx : fi + (co - 1) * sp ≤ 3000000) (hwh : 0 ≤ wh ∧ wh ≤ 1) :
    ∀ (n : Nat) (i : Int) (bf : Int) (x : Int) (σ2 : Nat → Int) (ov2 : Int) (rr2 : Int) (rb2 : Int) (rn2 : Int) (hk : 1 ≤ i ∧ i + (n : Int) = co) (hbb : -6000000000 ≤ bf ∧ bf ≤ 6000000000) (hxb : 0 ≤ x ∧ x ≤ i) (res : Int) (hres : orL σ fi sp wh n i bf x = res) (hx : ∀ (u0 : (Nat → Int) × Int × Int × Int × Int) (H : Heap) (locs : List Loc) (ls : Array Slot), bw E A s H locs [cSlo u o x1 x2 x3 a2 x5, cSta o a h, cMet a b f g σ rr rb rn, cSig b σ, cSet f σ, cCon g σ ov, cMet a2 b2 f2 g2 u0.1 u0.2.2.1 u0.2.2.2.1 u0.2.2.2.2, cSig b2 u0.1, cSet f2 u0.1, cCon g2 u0.1 u0.2.1] → lv_has ls 11 [(0, .ref u), (1, .int (iI fi)), (2, .int (iI sp)), (3, .int (iI co)), (4, .int (iI wh)), (5, .int (iI res))] → W p l e ({ frames := 6, cells := 0, slots := 0, locals := 136 } : Room) s m args below meth c H locs 0 0 Q (F0 m 124 ls [])) (H : Heap) (locs : List Loc) (ls : Array Slot) (B : bw E A s H locs [cSlo u o x1 x2 x3 a2 x5, cSta o a h, cMet a b f g σ rr rb rn, cSig b σ, cSet f σ, cCon g σ ov, cMet a2 b2 f2 g2 σ2 rr2 rb2 rn2, cSig b2 σ2, cSet f2 σ2, cCon g2 σ2 ov2]) (hl : lv_has ls 11 [(0, .ref u), (1, .int (iI fi)), (2, .int (iI sp)), (3, .int (iI co)), (4, .int (iI wh)), (5, .int (iI x)), (6, .long (iL bf)), (8, .int (iI i))]), W p l e ({ frames := 6, cells := 0, slots := 0, locals := 136 } : Room) s m args below meth c H locs 0 0 Q (F0 m 69 ls []) := by
  intro n
  induction n with
  | zero =>
    intro i bf x σ2 ov2 rr2 rb2 rn2 hk hbb hxb res hres hx H locs ls B hl
    refine z_iload S (pc := 69) dX7_order_69 (lv_at hl 7 rfl) ?_
    refine z_iload_n S (pc := 71) dX7_order_71 rfl (lv_at hl 3 rfl) ?_
    refine z_icmp_ge S (pc := 72) (tgt := 124) (by omega) (by omega) dX7_order_72 rfl (fun c1 => ?_) (fun c1 => absurd c1 (by omega))
    subst hres
    exact hx ⟨σ2, ov2, rr2, rb2, rn2⟩ _ _ _ B (lv_sub hl [0, 1, 2, 3, 4, 5] rfl)
  | succ n ih =>
    intro i bf x σ2 ov2 rr2 rb2 rn2 hk hbb hxb res hres hx H locs ls B hl
    have hm := mono_is (i := i) (c := co) (s := sp) (by omega) (by omega) (by omega)
    have hvb := vwl_bd (v := fi + i * sp) hs hn ⟨by omega, by omega⟩
    refine z_iload S (pc := 69) dX7_order_69 (lv_at hl 7 rfl) ?_
    refine z_iload_n S (pc := 71) dX7_order_71 rfl (lv_at hl 3 rfl) ?_
    refine z_icmp_ge S (pc := 72) (tgt := 124) (by omega) (by omega) dX7_order_72 rfl (fun c1 => ?_) (fun c1 => ?_)
    · exact absurd c1 (by omega)
    · refine z_aload_n S (pc := 75) dX7_order_75 rfl (lv_at hl 0 rfl) ?_
      refine z_iload_n S (pc := 76) dX7_order_76 rfl (lv_at hl 1 rfl) ?_
      refine z_iload S (pc := 77) dX7_order_77 (lv_at hl 7 rfl) ?_
      refine z_iload_n S (pc := 79) dX7_order_79 rfl (lv_at hl 2 rfl) ?_
      refine z_imul S (pc := 80) dX7_order_80 ?_
      refine z_iadd S (pc := 81) dX7_order_81 ?_
      refine z_callV S (pc := 82) B (wr := []) (wn := fun u2 => [cSlo u o x1 x2 x3 a2 x5, cSta o a h, cMet a b f g σ rr rb rn, cSig b σ, cSet f σ, cCon g σ ov, cMet a2 b2 f2 g2 u2.1 u2.2.2.1 u2.2.2.2.1 u2.2.2.2.2, cSig b2 u2.1, cSet f2 u2.1, cCon g2 u2.1 u2.2.1]) (st1 := fun _ => [.long (iL (vwl σ (fi + (i * sp))))]) (As := [.int (iI (fi + (i * sp)))]) (mX7_valueWithLevel l E u o x1 x2 x3 x5 a b f g σ ov rr rb rn h a2 b2 f2 g2 σ2 ov2 rr2 rb2 rn2 (fi + (i * sp)) (show -3000000 ≤ (fi + (i * sp)) ∧ (fi + (i * sp)) ≤ 3000000 from by omega) (show Sets σ from by assumption) (show Nums σ from by assumption) (show 0 ≤ σ 11 ∧ σ 11 ≤ 1900000000 from by omega) (show σ 22 = 0 ∨ σ 22 = 1 from by omega) (show ov = 0 ∨ ov = 1 from by omega)) gX7_order_X7_valueWithLevel 1 rfl (by decide +kernel) ⟨Nat.le_of_ble_eq_true rfl, Nat.le_of_ble_eq_true rfl, Nat.le_of_ble_eq_true rfl, Nat.le_of_ble_eq_true rfl⟩ 0 rfl (q := (RX7, TX7, 6)) rfl rfl [0, 1, 2, 3, 4, 5, 6, 7, 8, 9] [] [0, 1, 2, 3, 4, 5, 6, 7, 8, 9] rfl rfl ⟨rfl, rfl, rfl, by decide⟩ (fun _ => rfl) rfl (fun _ => rfl) hl.1 (Nat.le_of_ble_eq_true rfl) rfl dX7_order_82 (fun u2 hu2 H locs B => ?_)
      refine lv_lstore (lv' := [(9, .long (iL (vwl σ (fi + (i * sp))))), (0, .ref u), (1, .int (iI fi)), (2, .int (iI sp)), (3, .int (iI co)), (4, .int (iI wh)), (5, .int (iI x)), (6, .long (iL bf)), (8, .int (iI i))]) S.1 S.2.1 (pc := 85) dX7_order_85 hl (by decide) rfl (fun ls hl => ?_)
      refine z_iload S (pc := 87) dX7_order_87 (lv_at hl 5 rfl) ?_
      refine z_if_ne S (pc := 89) (tgt := 103) (by omega) dX7_order_89 rfl (fun c3 => ?_) (fun c3 => ?_)
      · refine z_lload S (pc := 103) dX7_order_103 (lv_at hl 0 rfl) ?_
        refine z_lload S (pc := 105) dX7_order_105 (lv_at hl 7 rfl) ?_
        refine z_lc_ne S (pc := 107) (tgt := 114) (by omega) (by omega) dX7_order_107 dX7_order_108 rfl (fun c4 => ?_) (fun c4 => ?_)
        · refine z_lload S (pc := 114) dX7_order_114 (lv_at hl 0 rfl) ?_
          refine lv_lstore (lv' := [(6, .long (iL (vwl σ (fi + (i * sp))))), (9, .long (iL (vwl σ (fi + (i * sp))))), (0, .ref u), (1, .int (iI fi)), (2, .int (iI sp)), (3, .int (iI co)), (4, .int (iI wh)), (5, .int (iI x)), (8, .int (iI i))]) S.1 S.2.1 (pc := 116) dX7_order_116 hl (by decide) rfl (fun ls hl => ?_)
          refine lv_iinc (v := iI (i + 1)) (lv' := [(8, .int (iI (i + 1))), (6, .long (iL (vwl σ (fi + (i * sp))))), (9, .long (iL (vwl σ (fi + (i * sp))))), (0, .ref u), (1, .int (iI fi)), (2, .int (iI sp)), (3, .int (iI co)), (4, .int (iI wh)), (5, .int (iI x))]) S.1 S.2.1 (pc := 118) dX7_order_118 hl (k := 8) rfl (iI_add _ _) (by decide) rfl (fun ls hl => ?_)
          refine lv_goto S.1 S.2.1 (pc := 121) (tgt := 69) dX7_order_121 rfl ?_
          have hp : ¬ (if wh = 0 then vwl σ (fi + i * sp) < bf else vwl σ (fi + i * sp) = bf) := by rw [if_neg (show ¬ wh = 0 from by omega)]; omega
          exact ih (i + 1) (vwl σ (fi + (i * sp))) x u2.1 u2.2.1 u2.2.2.1 u2.2.2.2.1 u2.2.2.2.2 (by omega) (by omega) (by omega) res (by rw [← hres]; simp only [orL]; rw [if_neg hp]) hx _ _ _ B (lv_sub hl [3, 4, 5, 6, 7, 8, 1, 0] rfl)
        · refine lv_iinc (v := iI (x + 1)) (lv' := [(5, .int (iI (x + 1))), (9, .long (iL (vwl σ (fi + (i * sp))))), (0, .ref u), (1, .int (iI fi)), (2, .int (iI sp)), (3, .int (iI co)), (4, .int (iI wh)), (6, .long (iL bf)), (8, .int (iI i))]) S.1 S.2.1 (pc := 111) dX7_order_111 hl (k := 6) rfl (iI_add _ _) (by decide) rfl (fun ls hl => ?_)
          refine z_lload S (pc := 114) dX7_order_114 (lv_at hl 1 rfl) ?_
          refine lv_lstore (lv' := [(6, .long (iL (vwl σ (fi + (i * sp))))), (5, .int (iI (x + 1))), (9, .long (iL (vwl σ (fi + (i * sp))))), (0, .ref u), (1, .int (iI fi)), (2, .int (iI sp)), (3, .int (iI co)), (4, .int (iI wh)), (8, .int (iI i))]) S.1 S.2.1 (pc := 116) dX7_order_116 hl (by decide) rfl (fun ls hl => ?_)
          refine lv_iinc (v := iI (i + 1)) (lv' := [(8, .int (iI (i + 1))), (6, .long (iL (vwl σ (fi + (i * sp))))), (5, .int (iI (x + 1))), (9, .long (iL (vwl σ (fi + (i * sp))))), (0, .ref u), (1, .int (iI fi)), (2, .int (iI sp)), (3, .int (iI co)), (4, .int (iI wh))]) S.1 S.2.1 (pc := 118) dX7_order_118 hl (k := 8) rfl (iI_add _ _) (by decide) rfl (fun ls hl => ?_)
          refine lv_goto S.1 S.2.1 (pc := 121) (tgt := 69) dX7_order_121 rfl ?_
          have hp : (if wh = 0 then vwl σ (fi + i * sp) < bf else vwl σ (fi + i * sp) = bf) := by rw [if_neg (show ¬ wh = 0 from by omega)]; omega
          exact ih (i + 1) (vwl σ (fi + (i * sp))) (x + 1) u2.1 u2.2.1 u2.2.2.1 u2.2.2.2.1 u2.2.2.2.2 (by omega) (by omega) (by omega) res (by rw [← hres]; simp only [orL]; rw [if_pos hp]) hx _ _ _ B (lv_sub hl [4, 5, 6, 7, 8, 2, 1, 0] rfl)
      · refine z_lload S (pc := 92) dX7_order_92 (lv_at hl 0 rfl) ?_
        refine z_lload S (pc := 94) dX7_order_94 (lv_at hl 7 rfl) ?_
        refine z_lc_ge S (pc := 96) (tgt := 114) (by omega) (by omega) dX7_order_96 dX7_order_97 rfl (fun c5 => ?_) (fun c5 => ?_)
        · refine z_lload S (pc := 114) dX7_order_114 (lv_at hl 0 rfl) ?_
          refine lv_lstore (lv' := [(6, .long (iL (vwl σ (fi + (i * sp))))), (9, .long (iL (vwl σ (fi + (i * sp))))), (0, .ref u), (1, .int (iI fi)), (2, .int (iI sp)), (3, .int (iI co)), (4, .int (iI wh)), (5, .int (iI x)), (8, .int (iI i))]) S.1 S.2.1 (pc := 116) dX7_order_116 hl (by decide) rfl (fun ls hl => ?_)
          refine lv_iinc (v := iI (i + 1)) (lv' := [(8, .int (iI (i + 1))), (6, .long (iL (vwl σ (fi + (i * sp))))), (9, .long (iL (vwl σ (fi + (i * sp))))), (0, .ref u), (1, .int (iI fi)), (2, .int (iI sp)), (3, .int (iI co)), (4, .int (iI wh)), (5, .int (iI x))]) S.1 S.2.1 (pc := 118) dX7_order_118 hl (k := 8) rfl (iI_add _ _) (by decide) rfl (fun ls hl => ?_)
          refine lv_goto S.1 S.2.1 (pc := 121) (tgt := 69) dX7_order_121 rfl ?_
          have hp : ¬ (if wh = 0 then vwl σ (fi + i * sp) < bf else vwl σ (fi + i * sp) = bf) := by rw [if_pos (show wh = 0 from by omega)]; omega
          exact ih (i + 1) (vwl σ (fi + (i * sp))) x u2.1 u2.2.1 u2.2.2.1 u2.2.2.2.1 u2.2.2.2.2 (by omega) (by omega) (by omega) res (by rw [← hres]; simp only [orL]; rw [if_neg hp]) hx _ _ _ B (lv_sub hl [3, 4, 5, 6, 7, 8, 1, 0] rfl)
        · refine lv_goto S.1 S.2.1 (pc := 100) (tgt := 111) dX7_order_100 rfl ?_
          refine lv_iinc (v := iI (x + 1)) (lv' := [(5, .int (iI (x + 1))), (9, .long (iL (vwl σ (fi + (i * sp))))), (0, .ref u), (1, .int (iI fi)), (2, .int (iI sp)), (3, .int (iI co)), (4, .int (iI wh)), (6, .long (iL bf)), (8, .int (iI i))]) S.1 S.2.1 (pc := 111) dX7_order_111 hl (k := 6) rfl (iI_add _ _) (by decide) rfl (fun ls hl => ?_)
          refine z_lload S (pc := 114) dX7_order_114 (lv_at hl 1 rfl) ?_
          refine lv_lstore (lv' := [(6, .long (iL (vwl σ (fi + (i * sp))))), (5, .int (iI (x + 1))), (9, .long (iL (vwl σ (fi + (i * sp))))), (0, .ref u), (1, .int (iI fi)), (2, .int (iI sp)), (3, .int (iI co)), (4, .int (iI wh)), (8, .int (iI i))]) S.1 S.2.1 (pc := 116) dX7_order_116 hl (by decide) rfl (fun ls hl => ?_)
          refine lv_iinc (v := iI (i + 1)) (lv' := [(8, .int (iI (i + 1))), (6, .long (iL (vwl σ (fi + (i * sp))))), (5, .int (iI (x + 1))), (9, .long (iL (vwl σ (fi + (i * sp))))), (0, .ref u), (1, .int (iI fi)), (2, .int (iI sp)), (3, .int (iI co)), (4, .int (iI wh))]) S.1 S.2.1 (pc := 118) dX7_order_118 hl (k := 8) rfl (iI_add _ _) (by decide) rfl (fun ls hl => ?_)
          refine lv_goto S.1 S.2.1 (pc := 121) (tgt := 69) dX7_order_121 rfl ?_
          have hp : (if wh = 0 then vwl σ (fi + i * sp) < bf else vwl σ (fi + i * sp) = bf) := by rw [if_pos (show wh = 0 from by omega)]; omega
          exact ih (i + 1) (vwl σ (fi + (i * sp))) (x + 1) u2.1 u2.2.1 u2.2.2.1 u2.2.2.2.1 u2.2.2.2.2 (by omega) (by omega) (by omega) res (by rw [← hres]; simp only [orL]; rw [if_pos hp]) hx _ _ _ B (lv_sub hl [4, 5, 6, 7, 8, 2, 1, 0] rfl)
set_option maxHeartbeats 4000000 in
set_option maxRecDepth 100000 in
theorem mX7_order (l : Launch) (E : gT) (u : Nat) (o : Nat) (x1 : Nat) (x2 : Nat) (x3 : Nat) (x5 : Nat) (a : Nat) (b : Nat) (f : Nat) (g : Nat) (σ : Nat → Int) (ov : Int) (rr : Int) (rb : Int) (rn : Int) (h : Nat) (a2 : Nat) (b2 : Nat) (f2 : Nat) (g2 : Nat) (σ2 : Nat → Int) (ov2 : Int) (rr2 : Int) (rb2 : Int) (rn2 : Int) (fi : Int) (sp : Int) (co : Int) (wh : Int) (hf : -3000000 ≤ fi ∧ fi ≤ 3000000) (hsp : 1 ≤ sp ∧ sp ≤ 100000) (hco : 2 ≤ co ∧ co ≤ 40) (hmx : fi + (co - 1) * sp ≤ 3000000) (hwh : 0 ≤ wh ∧ wh ≤ 1) (hs : Sets σ) (hn : Nums σ) (h11 : 0 ≤ σ 11 ∧ σ 11 ≤ 1900000000) (h22 : σ 22 = 0 ∨ σ 22 = 1) (ho : ov = 0 ∨ ov = 1) : Ct l E yX7_order wsX7_order 6 136 0 0 [.ref u, .int (iI fi), .int (iI sp), .int (iI co), .int (iI wh)] [cSlo u o x1 x2 x3 a2 x5, cSta o a h, cMet a b f g σ rr rb rn, cSig b σ, cSet f σ, cCon g σ ov, cMet a2 b2 f2 g2 σ2 rr2 rb2 rn2, cSig b2 σ2, cSet f2 σ2, cCon g2 σ2 ov2] (S0 := (Nat → Int) × Int × Int × Int × Int) (fun u0 => True) (fun _ => (some (.int (iI (orL σ fi sp wh (co - 1).toNat 1 (vwl σ fi) 0))))) (fun u0 => [cSlo u o x1 x2 x3 a2 x5, cSta o a h, cMet a b f g σ rr rb rn, cSig b σ, cSet f σ, cCon g σ ov, cMet a2 b2 f2 g2 u0.1 u0.2.2.1 u0.2.2.2.1 u0.2.2.2.2, cSig b2 u0.1, cSet f2 u0.1, cCon g2 u0.1 u0.2.1]) := by
  refine Ct.mk (cc := cX7_order) (maxL := 11) (ret := (some .int)) (plainFor_of_name (by decide)) rfl (Nat.le_of_ble_eq_true rfl) ?_
  intro p e s m below meth c A ls H locs S hr hlk hnm B hl
  have S : CallFix p m c cX7_order 11 s #[.ref u, .int (iI fi), .int (iI sp), .int (iI co), .int (iI wh)] wsX7_order RX7 := S
  have hl : lv_has ls 11 [(0, .ref u), (1, .int (iI fi)), (2, .int (iI sp)), (3, .int (iI co)), (4, .int (iI wh))] := hl
  have hm0 := mono_is (i := co - 1) (c := co) (s := sp) (by omega) (by omega) (by omega)
  refine z_iload_n S (pc := 0) dX7_order_0 rfl (lv_at hl 1 rfl) ?_
  refine z_ldc S (pc := 1) (x := (-3000000)) (by decide +kernel) rfl dX7_order_1 ?_
  refine z_ldc S (pc := 3) (x := 3000000) (by decide +kernel) rfl dX7_order_3 ?_
  refine z_callS S (pc := 5) B (wr := [cSlo u o x1 x2 x3 a2 x5, cSta o a h, cMet a b f g σ rr rb rn, cSig b σ, cSet f σ, cCon g σ ov, cMet a2 b2 f2 g2 σ2 rr2 rb2 rn2, cSig b2 σ2, cSet f2 σ2, cCon g2 σ2 ov2]) (wn := fun _ => [cSlo u o x1 x2 x3 a2 x5, cSta o a h, cMet a b f g σ rr rb rn, cSig b σ, cSet f σ, cCon g σ ov, cMet a2 b2 f2 g2 σ2 rr2 rb2 rn2, cSig b2 σ2, cSet f2 σ2, cCon g2 σ2 ov2]) (st1 := fun _ => [.int (iI (bI (fi < (-3000000) ∨ 3000000 < fi)))]) (As := [.int (iI fi), .int (iI (-3000000)), .int (iI 3000000)]) (mX7_isOutside l E fi (-3000000) 3000000 (show inI fi ∧ inI (-3000000) ∧ inI 3000000 from by omega)) gX7_order_X7_isOutside 3 rfl (by decide +kernel) ⟨Nat.le_of_ble_eq_true rfl, Nat.le_of_ble_eq_true rfl, Nat.le_of_ble_eq_true rfl, Nat.le_of_ble_eq_true rfl⟩ [] [0, 1, 2, 3, 4, 5, 6, 7, 8, 9] [0, 1, 2, 3, 4, 5, 6, 7, 8, 9] rfl rfl ⟨rfl, rfl, rfl, by decide⟩ (fun _ => rfl) rfl (fun _ => rfl) hl.1 (Nat.le_of_ble_eq_true rfl) rfl dX7_order_5 (fun _ _ H locs B => ?_)
  refine z_ifne_b S (pc := 8) (tgt := 53) dX7_order_8 rfl (fun c1 => absurd c1 (by omega)) (fun c1 => ?_)
  refine z_iload_n S (pc := 11) dX7_order_11 rfl (lv_at hl 2 rfl) ?_
  refine z_iconst S (pc := 12) dX7_order_12 ?_
  refine z_ldc S (pc := 13) (x := 100000) (by decide +kernel) rfl dX7_order_13 ?_
  refine z_callS S (pc := 15) B (wr := [cSlo u o x1 x2 x3 a2 x5, cSta o a h, cMet a b f g σ rr rb rn, cSig b σ, cSet f σ, cCon g σ ov, cMet a2 b2 f2 g2 σ2 rr2 rb2 rn2, cSig b2 σ2, cSet f2 σ2, cCon g2 σ2 ov2]) (wn := fun _ => [cSlo u o x1 x2 x3 a2 x5, cSta o a h, cMet a b f g σ rr rb rn, cSig b σ, cSet f σ, cCon g σ ov, cMet a2 b2 f2 g2 σ2 rr2 rb2 rn2, cSig b2 σ2, cSet f2 σ2, cCon g2 σ2 ov2]) (st1 := fun _ => [.int (iI (bI (sp < 1 ∨ 100000 < sp)))]) (As := [.int (iI sp), .int (iI 1), .int (iI 100000)]) (mX7_isOutside l E sp 1 100000 (show inI sp ∧ inI 1 ∧ inI 100000 from by omega)) gX7_order_X7_isOutside 3 rfl (by decide +kernel) ⟨Nat.le_of_ble_eq_true rfl, Nat.le_of_ble_eq_true rfl, Nat.le_of_ble_eq_true rfl, Nat.le_of_ble_eq_true rfl⟩ [] [0, 1, 2, 3, 4, 5, 6, 7, 8, 9] [0, 1, 2, 3, 4, 5, 6, 7, 8, 9] rfl rfl ⟨rfl, rfl, rfl, by decide⟩ (fun _ => rfl) rfl (fun _ => rfl) hl.1 (Nat.le_of_ble_eq_true rfl) rfl dX7_order_15 (fun _ _ H locs B => ?_)
  refine z_ifne_b S (pc := 18) (tgt := 53) dX7_order_18 rfl (fun c2 => absurd c2 (by omega)) (fun c2 => ?_)
  refine z_iload_n S (pc := 21) dX7_order_21 rfl (lv_at hl 3 rfl) ?_
  refine z_iconst S (pc := 22) dX7_order_22 ?_
  refine z_bipush S (pc := 23) dX7_order_23 rfl ?_
  refine z_callS S (pc := 25) B (wr := [cSlo u o x1 x2 x3 a2 x5, cSta o a h, cMet a b f g σ rr rb rn, cSig b σ, cSet f σ, cCon g σ ov, cMet a2 b2 f2 g2 σ2 rr2 rb2 rn2, cSig b2 σ2, cSet f2 σ2, cCon g2 σ2 ov2]) (wn := fun _ => [cSlo u o x1 x2 x3 a2 x5, cSta o a h, cMet a b f g σ rr rb rn, cSig b σ, cSet f σ, cCon g σ ov, cMet a2 b2 f2 g2 σ2 rr2 rb2 rn2, cSig b2 σ2, cSet f2 σ2, cCon g2 σ2 ov2]) (st1 := fun _ => [.int (iI (bI (co < 2 ∨ 40 < co)))]) (As := [.int (iI co), .int (iI 2), .int (iI 40)]) (mX7_isOutside l E co 2 40 (show inI co ∧ inI 2 ∧ inI 40 from by omega)) gX7_order_X7_isOutside 3 rfl (by decide +kernel) ⟨Nat.le_of_ble_eq_true rfl, Nat.le_of_ble_eq_true rfl, Nat.le_of_ble_eq_true rfl, Nat.le_of_ble_eq_true rfl⟩ [] [0, 1, 2, 3, 4, 5, 6, 7, 8, 9] [0, 1, 2, 3, 4, 5, 6, 7, 8, 9] rfl rfl ⟨rfl, rfl, rfl, by decide⟩ (fun _ => rfl) rfl (fun _ => rfl) hl.1 (Nat.le_of_ble_eq_true rfl) rfl dX7_order_25 (fun _ _ H locs B => ?_)
  refine z_ifne_b S (pc := 28) (tgt := 53) dX7_order_28 rfl (fun c3 => absurd c3 (by omega)) (fun c3 => ?_)
  refine z_iload_n S (pc := 31) dX7_order_31 rfl (lv_at hl 1 rfl) ?_
  refine z_iload_n S (pc := 32) dX7_order_32 rfl (lv_at hl 3 rfl) ?_
  refine z_iconst S (pc := 33) dX7_order_33 ?_
  refine z_isub S (pc := 34) dX7_order_34 ?_
  refine z_iload_n S (pc := 35) dX7_order_35 rfl (lv_at hl 2 rfl) ?_
  refine z_imul S (pc := 36) dX7_order_36 ?_
  refine z_iadd S (pc := 37) dX7_order_37 ?_
  refine z_ldc S (pc := 38) (x := 3000000) (by decide +kernel) rfl dX7_order_38 ?_
  refine z_icmp_gt S (pc := 40) (tgt := 53) (by omega) (by omega) dX7_order_40 rfl (fun c4 => absurd c4 (by omega)) (fun c4 => ?_)
  refine z_iload S (pc := 43) dX7_order_43 (lv_at hl 4 rfl) ?_
  refine z_iconst S (pc := 45) dX7_order_45 ?_
  refine z_iconst S (pc := 46) dX7_order_46 ?_
  refine z_callS S (pc := 47) B (wr := [cSlo u o x1 x2 x3 a2 x5, cSta o a h, cMet a b f g σ rr rb rn, cSig b σ, cSet f σ, cCon g σ ov, cMet a2 b2 f2 g2 σ2 rr2 rb2 rn2, cSig b2 σ2, cSet f2 σ2, cCon g2 σ2 ov2]) (wn := fun _ => [cSlo u o x1 x2 x3 a2 x5, cSta o a h, cMet a b f g σ rr rb rn, cSig b σ, cSet f σ, cCon g σ ov, cMet a2 b2 f2 g2 σ2 rr2 rb2 rn2, cSig b2 σ2, cSet f2 σ2, cCon g2 σ2 ov2]) (st1 := fun _ => [.int (iI (bI (wh < 0 ∨ 1 < wh)))]) (As := [.int (iI wh), .int (iI 0), .int (iI 1)]) (mX7_isOutside l E wh 0 1 (show inI wh ∧ inI 0 ∧ inI 1 from by omega)) gX7_order_X7_isOutside 3 rfl (by decide +kernel) ⟨Nat.le_of_ble_eq_true rfl, Nat.le_of_ble_eq_true rfl, Nat.le_of_ble_eq_true rfl, Nat.le_of_ble_eq_true rfl⟩ [] [0, 1, 2, 3, 4, 5, 6, 7, 8, 9] [0, 1, 2, 3, 4, 5, 6, 7, 8, 9] rfl rfl ⟨rfl, rfl, rfl, by decide⟩ (fun _ => rfl) rfl (fun _ => rfl) hl.1 (Nat.le_of_ble_eq_true rfl) rfl dX7_order_47 (fun _ _ H locs B => ?_)
  refine z_ifeq_b S (pc := 50) (tgt := 56) dX7_order_50 rfl (fun c5 => ?_) (fun c5 => absurd c5 (by omega))
  refine z_iconst S (pc := 56) dX7_order_56 ?_
  refine lv_istore (lv' := [(5, .int (iI 0)), (0, .ref u), (1, .int (iI fi)), (2, .int (iI sp)), (3, .int (iI co)), (4, .int (iI wh))]) S.1 S.2.1 (pc := 57) dX7_order_57 hl (by decide) rfl (fun ls hl => ?_)
  refine z_aload_n S (pc := 59) dX7_order_59 rfl (lv_at hl 1 rfl) ?_
  refine z_iload_n S (pc := 60) dX7_order_60 rfl (lv_at hl 2 rfl) ?_
  refine z_callV S (pc := 61) B (wr := []) (wn := fun u6 => [cSlo u o x1 x2 x3 a2 x5, cSta o a h, cMet a b f g σ rr rb rn, cSig b σ, cSet f σ, cCon g σ ov, cMet a2 b2 f2 g2 u6.1 u6.2.2.1 u6.2.2.2.1 u6.2.2.2.2, cSig b2 u6.1, cSet f2 u6.1, cCon g2 u6.1 u6.2.1]) (st1 := fun _ => [.long (iL (vwl σ fi))]) (As := [.int (iI fi)]) (mX7_valueWithLevel l E u o x1 x2 x3 x5 a b f g σ ov rr rb rn h a2 b2 f2 g2 σ2 ov2 rr2 rb2 rn2 fi (show -3000000 ≤ fi ∧ fi ≤ 3000000 from by omega) (show Sets σ from by assumption) (show Nums σ from by assumption) (show 0 ≤ σ 11 ∧ σ 11 ≤ 1900000000 from by omega) (show σ 22 = 0 ∨ σ 22 = 1 from by omega) (show ov = 0 ∨ ov = 1 from by omega)) gX7_order_X7_valueWithLevel 1 rfl (by decide +kernel) ⟨Nat.le_of_ble_eq_true rfl, Nat.le_of_ble_eq_true rfl, Nat.le_of_ble_eq_true rfl, Nat.le_of_ble_eq_true rfl⟩ 0 rfl (q := (RX7, TX7, 6)) rfl rfl [0, 1, 2, 3, 4, 5, 6, 7, 8, 9] [] [0, 1, 2, 3, 4, 5, 6, 7, 8, 9] rfl rfl ⟨rfl, rfl, rfl, by decide⟩ (fun _ => rfl) rfl (fun _ => rfl) hl.1 (Nat.le_of_ble_eq_true rfl) rfl dX7_order_61 (fun u6 hu6 H locs B => ?_)
  refine lv_lstore (lv' := [(6, .long (iL (vwl σ fi))), (5, .int (iI 0)), (0, .ref u), (1, .int (iI fi)), (2, .int (iI sp)), (3, .int (iI co)), (4, .int (iI wh))]) S.1 S.2.1 (pc := 64) dX7_order_64 hl (by decide) rfl (fun ls hl => ?_)
  refine z_iconst S (pc := 66) dX7_order_66 ?_
  refine lv_istore (lv' := [(8, .int (iI 1)), (6, .long (iL (vwl σ fi))), (5, .int (iI 0)), (0, .ref u), (1, .int (iI fi)), (2, .int (iI sp)), (3, .int (iI co)), (4, .int (iI wh))]) S.1 S.2.1 (pc := 67) dX7_order_67 hl (by decide) rfl (fun ls hl => ?_)
  have hvb := vwl_bd (v := fi) hs hn hf
  obtain ⟨z, hz⟩ : ∃ z, orL σ fi sp wh (co - 1).toNat 1 (vwl σ fi) 0 = z := ⟨_, rfl⟩
  refine lpX7_order E S u o x1 x2 x3 x5 a b f g σ ov rr rb rn h a2 b2 f2 g2 fi sp co wh hs hn h11 h22 ho hf hsp hco hmx hwh (co - 1).toNat 1 (vwl σ fi) 0 u6.1 u6.2.1 u6.2.2.1 u6.2.2.2.1 u6.2.2.2.2 (by omega) (by omega) (by omega) z hz (fun u0 H locs ls B hl => ?_) _ _ _ B (lv_sub hl [3, 4, 5, 6, 7, 2, 1, 0] rfl)
  refine z_iload S (pc := 124) dX7_order_124 (lv_at hl 5 rfl) ?_
  exact z_ireturn S hr hlk B ⟨u0.1, u0.2.1, u0.2.2.1, u0.2.2.2.1, u0.2.2.2.2⟩ trivial (by rw [hz]) rfl (pc := 126) dX7_order_126
set_option maxHeartbeats 4000000 in
set_option maxRecDepth 100000 in
theorem mX7_order_b (l : Launch) (E : gT) (u : Nat) (o : Nat) (x1 : Nat) (x2 : Nat) (x3 : Nat) (x4 : Nat) (x5 : Nat) (fi : Int) (sp : Int) (co : Int) (wh : Int) (hI : inI fi ∧ inI sp ∧ inI co ∧ inI wh) (hbad : (fi < -3000000 ∨ 3000000 < fi ∨ sp < 1 ∨ 100000 < sp ∨ co < 2 ∨ 40 < co ∨ 3000000 < fi + (co - 1) * sp ∨ wh < 0 ∨ 1 < wh)) : Cd l E yX7_order wsX7_order 6 136 0 0 [.ref u, .int (iI fi), .int (iI sp), .int (iI co), .int (iI wh)] [cSlo u o x1 x2 x3 x4 x5] (some (.int (iI (-2)))) [cSlo u o x1 x2 x3 x4 x5] := by
  refine Ct.mk (cc := cX7_order) (maxL := 11) (ret := (some .int)) (plainFor_of_name (by decide)) rfl (Nat.le_of_ble_eq_true rfl) ?_
  intro p e s m below meth c A ls H locs S hr hlk hnm B hl
  have S : CallFix p m c cX7_order 11 s #[.ref u, .int (iI fi), .int (iI sp), .int (iI co), .int (iI wh)] wsX7_order RX7 := S
  have hl : lv_has ls 11 [(0, .ref u), (1, .int (iI fi)), (2, .int (iI sp)), (3, .int (iI co)), (4, .int (iI wh))] := hl
  refine z_iload_n S (pc := 0) dX7_order_0 rfl (lv_at hl 1 rfl) ?_
  refine z_ldc S (pc := 1) (x := (-3000000)) (by decide +kernel) rfl dX7_order_1 ?_
  refine z_ldc S (pc := 3) (x := 3000000) (by decide +kernel) rfl dX7_order_3 ?_
  refine z_callS S (pc := 5) B (wr := [cSlo u o x1 x2 x3 x4 x5]) (wn := fun _ => [cSlo u o x1 x2 x3 x4 x5]) (st1 := fun _ => [.int (iI (bI (fi < (-3000000) ∨ 3000000 < fi)))]) (As := [.int (iI fi), .int (iI (-3000000)), .int (iI 3000000)]) (mX7_isOutside l E fi (-3000000) 3000000 (show inI fi ∧ inI (-3000000) ∧ inI 3000000 from by omega)) gX7_order_X7_isOutside 3 rfl (by decide +kernel) ⟨Nat.le_of_ble_eq_true rfl, Nat.le_of_ble_eq_true rfl, Nat.le_of_ble_eq_true rfl, Nat.le_of_ble_eq_true rfl⟩ [] [0] [0] rfl rfl ⟨rfl, rfl, rfl, by decide⟩ (fun _ => rfl) rfl (fun _ => rfl) hl.1 (Nat.le_of_ble_eq_true rfl) rfl dX7_order_5 (fun _ _ H locs B => ?_)
  refine z_ifne_b S (pc := 8) (tgt := 53) dX7_order_8 rfl (fun c1 => ?_) (fun c1 => ?_)
  · refine z_bipush S (pc := 53) dX7_order_53 rfl ?_
    exact z_ireturn S hr hlk B () trivial rfl rfl (pc := 55) dX7_order_55
  · refine z_iload_n S (pc := 11) dX7_order_11 rfl (lv_at hl 2 rfl) ?_
    refine z_iconst S (pc := 12) dX7_order_12 ?_
    refine z_ldc S (pc := 13) (x := 100000) (by decide +kernel) rfl dX7_order_13 ?_
    refine z_callS S (pc := 15) B (wr := [cSlo u o x1 x2 x3 x4 x5]) (wn := fun _ => [cSlo u o x1 x2 x3 x4 x5]) (st1 := fun _ => [.int (iI (bI (sp < 1 ∨ 100000 < sp)))]) (As := [.int (iI sp), .int (iI 1), .int (iI 100000)]) (mX7_isOutside l E sp 1 100000 (show inI sp ∧ inI 1 ∧ inI 100000 from by omega)) gX7_order_X7_isOutside 3 rfl (by decide +kernel) ⟨Nat.le_of_ble_eq_true rfl, Nat.le_of_ble_eq_true rfl, Nat.le_of_ble_eq_true rfl, Nat.le_of_ble_eq_true rfl⟩ [] [0] [0] rfl rfl ⟨rfl, rfl, rfl, by decide⟩ (fun _ => rfl) rfl (fun _ => rfl) hl.1 (Nat.le_of_ble_eq_true rfl) rfl dX7_order_15 (fun _ _ H locs B => ?_)
    refine z_ifne_b S (pc := 18) (tgt := 53) dX7_order_18 rfl (fun c2 => ?_) (fun c2 => ?_)
    · refine z_bipush S (pc := 53) dX7_order_53 rfl ?_
      exact z_ireturn S hr hlk B () trivial rfl rfl (pc := 55) dX7_order_55
    · refine z_iload_n S (pc := 21) dX7_order_21 rfl (lv_at hl 3 rfl) ?_
      refine z_iconst S (pc := 22) dX7_order_22 ?_
      refine z_bipush S (pc := 23) dX7_order_23 rfl ?_
      refine z_callS S (pc := 25) B (wr := [cSlo u o x1 x2 x3 x4 x5]) (wn := fun _ => [cSlo u o x1 x2 x3 x4 x5]) (st1 := fun _ => [.int (iI (bI (co < 2 ∨ 40 < co)))]) (As := [.int (iI co), .int (iI 2), .int (iI 40)]) (mX7_isOutside l E co 2 40 (show inI co ∧ inI 2 ∧ inI 40 from by omega)) gX7_order_X7_isOutside 3 rfl (by decide +kernel) ⟨Nat.le_of_ble_eq_true rfl, Nat.le_of_ble_eq_true rfl, Nat.le_of_ble_eq_true rfl, Nat.le_of_ble_eq_true rfl⟩ [] [0] [0] rfl rfl ⟨rfl, rfl, rfl, by decide⟩ (fun _ => rfl) rfl (fun _ => rfl) hl.1 (Nat.le_of_ble_eq_true rfl) rfl dX7_order_25 (fun _ _ H locs B => ?_)
      refine z_ifne_b S (pc := 28) (tgt := 53) dX7_order_28 rfl (fun c3 => ?_) (fun c3 => ?_)
      · refine z_bipush S (pc := 53) dX7_order_53 rfl ?_
        exact z_ireturn S hr hlk B () trivial rfl rfl (pc := 55) dX7_order_55
      · have hm0 := mul_bd2 (a := co - 1) (x := sp) (M := 39) (X := 100000) (by omega) (by omega) (by omega) (by omega)
        refine z_iload_n S (pc := 31) dX7_order_31 rfl (lv_at hl 1 rfl) ?_
        refine z_iload_n S (pc := 32) dX7_order_32 rfl (lv_at hl 3 rfl) ?_
        refine z_iconst S (pc := 33) dX7_order_33 ?_
        refine z_isub S (pc := 34) dX7_order_34 ?_
        refine z_iload_n S (pc := 35) dX7_order_35 rfl (lv_at hl 2 rfl) ?_
        refine z_imul S (pc := 36) dX7_order_36 ?_
        refine z_iadd S (pc := 37) dX7_order_37 ?_
        refine z_ldc S (pc := 38) (x := 3000000) (by decide +kernel) rfl dX7_order_38 ?_
        refine z_icmp_gt S (pc := 40) (tgt := 53) (by omega) (by omega) dX7_order_40 rfl (fun c4 => ?_) (fun c4 => ?_)
        · refine z_bipush S (pc := 53) dX7_order_53 rfl ?_
          exact z_ireturn S hr hlk B () trivial rfl rfl (pc := 55) dX7_order_55
        · refine z_iload S (pc := 43) dX7_order_43 (lv_at hl 4 rfl) ?_
          refine z_iconst S (pc := 45) dX7_order_45 ?_
          refine z_iconst S (pc := 46) dX7_order_46 ?_
          refine z_callS S (pc := 47) B (wr := [cSlo u o x1 x2 x3 x4 x5]) (wn := fun _ => [cSlo u o x1 x2 x3 x4 x5]) (st1 := fun _ => [.int (iI (bI (wh < 0 ∨ 1 < wh)))]) (As := [.int (iI wh), .int (iI 0), .int (iI 1)]) (mX7_isOutside l E wh 0 1 (show inI wh ∧ inI 0 ∧ inI 1 from by omega)) gX7_order_X7_isOutside 3 rfl (by decide +kernel) ⟨Nat.le_of_ble_eq_true rfl, Nat.le_of_ble_eq_true rfl, Nat.le_of_ble_eq_true rfl, Nat.le_of_ble_eq_true rfl⟩ [] [0] [0] rfl rfl ⟨rfl, rfl, rfl, by decide⟩ (fun _ => rfl) rfl (fun _ => rfl) hl.1 (Nat.le_of_ble_eq_true rfl) rfl dX7_order_47 (fun _ _ H locs B => ?_)
          refine z_ifeq_b S (pc := 50) (tgt := 56) dX7_order_50 rfl (fun c5 => ?_) (fun c5 => ?_)
          · exact absurd hbad (by omega)
          · refine z_bipush S (pc := 53) dX7_order_53 rfl ?_
            exact z_ireturn S hr hlk B () trivial rfl rfl (pc := 55) dX7_order_55
set_option maxHeartbeats 4000000 in
set_option maxRecDepth 100000 in
theorem lpX7_levelFor {p : Program} {l : Launch} {e : Env} {s : State} {m : MethodId} {args : Array Value} {below : List Frame} {meth : Method} {c : Code} {Q : State → Prop} {A : Nat → Prop} (E : gT) (S : CallFix p m c cX7_levelFor 6 s args wsX7_levelFor RX7) (u : Nat) (o : Nat) (x1 : Nat) (x2 : Nat) (x3 : Nat) (x5 : Nat) (a : Nat) (b : Nat) (f : Nat) (g : Nat) (σ : Nat → Int) (ov : Int) (rr : Int) (rb : Int) (rn : Int) (h : Nat) (a2 : Nat) (b2 : Nat) (f2 : Nat) (g2 : Nat) (va : Int) (hs : Sets σ) (hn : Nums σ) (h11 : 0 ≤ σ 11 ∧ σ 11 ≤ 1900000000) (h22 : σ 22 = 0 ∨ σ 22 = 1) (ho : ov = 0 ∨ ov = 1) (hva : -10000000 ≤ va ∧ va ≤ 10000000) :
    ∀ (n : Nat) (lo : Int) (hi : Int) (k : Int) (σ2 : Nat → Int) (ov2 : Int) (rr2 : Int) (rb2 : Int) (rn2 : Int) (hk : 0 ≤ k ∧ k + (n : Int) = 32) (hlh : -3000000 ≤ lo ∧ lo ≤ hi ∧ hi ≤ 3000000) (res : Int) (hres : lfL σ va n lo hi = res) (hx : ∀ (u0 : (Nat → Int) × Int × Int × Int × Int) (H : Heap) (locs : List Loc) (ls : Array Slot), bw E A s H locs [cSlo u o x1 x2 x3 a2 x5, cSta o a h, cMet a b f g σ rr rb rn, cSig b σ, cSet f σ, cCon g σ ov, cMet a2 b2 f2 g2 u0.1 u0.2.2.1 u0.2.2.2.1 u0.2.2.2.2, cSig b2 u0.1, cSet f2 u0.1, cCon g2 u0.1 u0.2.1] → lv_has ls 6 [(0, .ref u), (1, .int (iI va)), (2, .int (iI res))] → W p l e ({ frames := 6, cells := 0, slots := 0, locals := 136 } : Room) s m args below meth c H locs 0 0 Q (F0 m 90 ls [])) (H : Heap) (locs : List Loc) (ls : Array Slot) (B : bw E A s H locs [cSlo u o x1 x2 x3 a2 x5, cSta o a h, cMet a b f g σ rr rb rn, cSig b σ, cSet f σ, cCon g σ ov, cMet a2 b2 f2 g2 σ2 rr2 rb2 rn2, cSig b2 σ2, cSet f2 σ2, cCon g2 σ2 ov2]) (hl : lv_has ls 6 [(0, .ref u), (1, .int (iI va)), (2, .int (iI lo)), (3, .int (iI hi)), (4, .int (iI k))]), W p l e ({ frames := 6, cells := 0, slots := 0, locals := 136 } : Room) s m args below meth c H locs 0 0 Q (F0 m 40 ls []) := by
  intro n
  induction n with
  | zero =>
    intro lo hi k σ2 ov2 rr2 rb2 rn2 hk hlh res hres hx H locs ls B hl
    refine z_iload_n S (pc := 40) dX7_levelFor_40 rfl (lv_at hl 2 rfl) ?_
    refine z_iload_n S (pc := 41) dX7_levelFor_41 rfl (lv_at hl 3 rfl) ?_
    refine z_icmp_ge S (pc := 42) (tgt := 90) (by omega) (by omega) dX7_levelFor_42 rfl (fun c1 => ?_) (fun c1 => ?_)
    · subst hres
      exact hx ⟨σ2, ov2, rr2, rb2, rn2⟩ _ _ _ B (lv_sub hl [0, 1, 2] rfl)
    · refine z_iload S (pc := 45) dX7_levelFor_45 (lv_at hl 4 rfl) ?_
      refine z_bipush S (pc := 47) dX7_levelFor_47 rfl ?_
      refine z_icmp_ge S (pc := 49) (tgt := 90) (by omega) (by omega) dX7_levelFor_49 rfl (fun c2 => ?_) (fun c2 => ?_)
      · subst hres
        exact hx ⟨σ2, ov2, rr2, rb2, rn2⟩ _ _ _ B (lv_sub hl [0, 1, 2] rfl)
      · refine z_iload_n S (pc := 52) dX7_levelFor_52 rfl (lv_at hl 2 rfl) ?_
        refine z_iload_n S (pc := 53) dX7_levelFor_53 rfl (lv_at hl 3 rfl) ?_
        refine z_iadd S (pc := 54) dX7_levelFor_54 ?_
        refine z_iconst S (pc := 55) dX7_levelFor_55 ?_
        refine z_callS S (pc := 56) B (wr := [cSlo u o x1 x2 x3 a2 x5, cSta o a h, cMet a b f g σ rr rb rn, cSig b σ, cSet f σ, cCon g σ ov, cMet a2 b2 f2 g2 σ2 rr2 rb2 rn2, cSig b2 σ2, cSet f2 σ2, cCon g2 σ2 ov2]) (wn := fun _ => [cSlo u o x1 x2 x3 a2 x5, cSta o a h, cMet a b f g σ rr rb rn, cSig b σ, cSet f σ, cCon g σ ov, cMet a2 b2 f2 g2 σ2 rr2 rb2 rn2, cSig b2 σ2, cSet f2 σ2, cCon g2 σ2 ov2]) (st1 := fun _ => [.int (iI ((lo + hi) / 2))]) (As := [.int (iI (lo + hi)), .int (iI 2)]) (mJ9_floorDiv_7cf53 l E (lo + hi) (show -1000000000 ≤ (lo + hi) ∧ (lo + hi) ≤ 1000000000 from by omega)) gX7_levelFor_J9_floorDiv_7cf53 2 rfl (by decide +kernel) ⟨Nat.le_of_ble_eq_true rfl, Nat.le_of_ble_eq_true rfl, Nat.le_of_ble_eq_true rfl, Nat.le_of_ble_eq_true rfl⟩ [] [0, 1, 2, 3, 4, 5, 6, 7, 8, 9] [0, 1, 2, 3, 4, 5, 6, 7, 8, 9] rfl rfl ⟨rfl, rfl, rfl, by decide⟩ (fun _ => rfl) rfl (fun _ => rfl) hl.1 (Nat.le_of_ble_eq_true rfl) rfl dX7_levelFor_56 (fun _ _ H locs B => ?_)
        refine lv_istore (lv' := [(5, .int (iI ((lo + hi) / 2))), (0, .ref u), (1, .int (iI va)), (2, .int (iI lo)), (3, .int (iI hi)), (4, .int (iI k))]) S.1 S.2.1 (pc := 59) dX7_levelFor_59 hl (by decide) rfl (fun ls hl => ?_)
        refine z_aload_n S (pc := 61) dX7_levelFor_61 rfl (lv_at hl 1 rfl) ?_
        refine z_iload S (pc := 62) dX7_levelFor_62 (lv_at hl 0 rfl) ?_
        refine z_callV S (pc := 64) B (wr := []) (wn := fun u3 => [cSlo u o x1 x2 x3 a2 x5, cSta o a h, cMet a b f g σ rr rb rn, cSig b σ, cSet f σ, cCon g σ ov, cMet a2 b2 f2 g2 u3.1 u3.2.2.1 u3.2.2.2.1 u3.2.2.2.2, cSig b2 u3.1, cSet f2 u3.1, cCon g2 u3.1 u3.2.1]) (st1 := fun _ => [.long (iL (vwl σ ((lo + hi) / 2)))]) (As := [.int (iI ((lo + hi) / 2))]) (mX7_valueWithLevel l E u o x1 x2 x3 x5 a b f g σ ov rr rb rn h a2 b2 f2 g2 σ2 ov2 rr2 rb2 rn2 ((lo + hi) / 2) (show -3000000 ≤ ((lo + hi) / 2) ∧ ((lo + hi) / 2) ≤ 3000000 from by omega) (show Sets σ from by assumption) (show Nums σ from by assumption) (show 0 ≤ σ 11 ∧ σ 11 ≤ 1900000000 from by omega) (show σ 22 = 0 ∨ σ 22 = 1 from by omega) (show ov = 0 ∨ ov = 1 from by omega)) gX7_levelFor_X7_valueWithLevel 1 rfl (by decide +kernel) ⟨Nat.le_of_ble_eq_true rfl, Nat.le_of_ble_eq_true rfl, Nat.le_of_ble_eq_true rfl, Nat.le_of_ble_eq_true rfl⟩ 0 rfl (q := (RX7, TX7, 6)) rfl rfl [0, 1, 2, 3, 4, 5, 6, 7, 8, 9] [] [0, 1, 2, 3, 4, 5, 6, 7, 8, 9] rfl rfl ⟨rfl, rfl, rfl, by decide⟩ (fun _ => rfl) rfl (fun _ => rfl) hl.1 (Nat.le_of_ble_eq_true rfl) rfl dX7_levelFor_64 (fun u3 hu3 H locs B => ?_)
        refine z_iload_n S (pc := 67) dX7_levelFor_67 rfl (lv_at hl 2 rfl) ?_
        refine z_i2l S (pc := 68) (by omega) dX7_levelFor_68 ?_
        refine z_lc_lt S (pc := 69) (tgt := 79) (by omega) (by omega) dX7_levelFor_69 dX7_levelFor_70 rfl (fun c4 => ?_) (fun c4 => ?_)
        · refine z_iload S (pc := 79) dX7_levelFor_79 (lv_at hl 0 rfl) ?_
          refine z_iconst S (pc := 81) dX7_levelFor_81 ?_
          refine z_iadd S (pc := 82) dX7_levelFor_82 ?_
          refine lv_istore_n (lv' := [(2, .int (iI (((lo + hi) / 2) + 1))), (5, .int (iI ((lo + hi) / 2))), (0, .ref u), (1, .int (iI va)), (3, .int (iI hi)), (4, .int (iI k))]) S.1 S.2.1 (pc := 83) dX7_levelFor_83 rfl hl (by decide) rfl (fun ls hl => ?_)
          refine lv_iinc (v := iI (k + 1)) (lv' := [(4, .int (iI (k + 1))), (2, .int (iI (((lo + hi) / 2) + 1))), (5, .int (iI ((lo + hi) / 2))), (0, .ref u), (1, .int (iI va)), (3, .int (iI hi))]) S.1 S.2.1 (pc := 84) dX7_levelFor_84 hl (k := 5) rfl (iI_add _ _) (by decide) rfl (fun ls hl => ?_)
          refine lv_goto S.1 S.2.1 (pc := 87) (tgt := 40) dX7_levelFor_87 rfl ?_
          exact absurd c2 (by omega)
        · refine z_iload S (pc := 73) dX7_levelFor_73 (lv_at hl 0 rfl) ?_
          refine lv_istore_n (lv' := [(3, .int (iI ((lo + hi) / 2))), (5, .int (iI ((lo + hi) / 2))), (0, .ref u), (1, .int (iI va)), (2, .int (iI lo)), (4, .int (iI k))]) S.1 S.2.1 (pc := 75) dX7_levelFor_75 rfl hl (by decide) rfl (fun ls hl => ?_)
          refine lv_goto S.1 S.2.1 (pc := 76) (tgt := 84) dX7_levelFor_76 rfl ?_
          refine lv_iinc (v := iI (k + 1)) (lv' := [(4, .int (iI (k + 1))), (3, .int (iI ((lo + hi) / 2))), (5, .int (iI ((lo + hi) / 2))), (0, .ref u), (1, .int (iI va)), (2, .int (iI lo))]) S.1 S.2.1 (pc := 84) dX7_levelFor_84 hl (k := 5) rfl (iI_add _ _) (by decide) rfl (fun ls hl => ?_)
          refine lv_goto S.1 S.2.1 (pc := 87) (tgt := 40) dX7_levelFor_87 rfl ?_
          exact absurd c2 (by omega)
  | succ n ih =>
    intro lo hi k σ2 ov2 rr2 rb2 rn2 hk hlh res hres hx H locs ls B hl
    have hvb := vwl_bd (v := (lo + hi) / 2) hs hn ⟨by omega, by omega⟩
    refine z_iload_n S (pc := 40) dX7_levelFor_40 rfl (lv_at hl 2 rfl) ?_
    refine z_iload_n S (pc := 41) dX7_levelFor_41 rfl (lv_at hl 3 rfl) ?_
    refine z_icmp_ge S (pc := 42) (tgt := 90) (by omega) (by omega) dX7_levelFor_42 rfl (fun c1 => ?_) (fun c1 => ?_)
    · have hres : lo = res := by rw [← hres]; simp only [lfL]; rw [if_neg (by omega)]
      subst hres
      exact hx ⟨σ2, ov2, rr2, rb2, rn2⟩ _ _ _ B (lv_sub hl [0, 1, 2] rfl)
    · refine z_iload S (pc := 45) dX7_levelFor_45 (lv_at hl 4 rfl) ?_
      refine z_bipush S (pc := 47) dX7_levelFor_47 rfl ?_
      refine z_icmp_ge S (pc := 49) (tgt := 90) (by omega) (by omega) dX7_levelFor_49 rfl (fun c2 => ?_) (fun c2 => ?_)
      · exact absurd c2 (by omega)
      · refine z_iload_n S (pc := 52) dX7_levelFor_52 rfl (lv_at hl 2 rfl) ?_
        refine z_iload_n S (pc := 53) dX7_levelFor_53 rfl (lv_at hl 3 rfl) ?_
        refine z_iadd S (pc := 54) dX7_levelFor_54 ?_
        refine z_iconst S (pc := 55) dX7_levelFor_55 ?_
        refine z_callS S (pc := 56) B (wr := [cSlo u o x1 x2 x3 a2 x5, cSta o a h, cMet a b f g σ rr rb rn, cSig b σ, cSet f σ, cCon g σ ov, cMet a2 b2 f2 g2 σ2 rr2 rb2 rn2, cSig b2 σ2, cSet f2 σ2, cCon g2 σ2 ov2]) (wn := fun _ => [cSlo u o x1 x2 x3 a2 x5, cSta o a h, cMet a b f g σ rr rb rn, cSig b σ, cSet f σ, cCon g σ ov, cMet a2 b2 f2 g2 σ2 rr2 rb2 rn2, cSig b2 σ2, cSet f2 σ2, cCon g2 σ2 ov2]) (st1 := fun _ => [.int (iI ((lo + hi) / 2))]) (As := [.int (iI (lo + hi)), .int (iI 2)]) (mJ9_floorDiv_7cf53 l E (lo + hi) (show -1000000000 ≤ (lo + hi) ∧ (lo + hi) ≤ 1000000000 from by omega)) gX7_levelFor_J9_floorDiv_7cf53 2 rfl (by decide +kernel) ⟨Nat.le_of_ble_eq_true rfl, Nat.le_of_ble_eq_true rfl, Nat.le_of_ble_eq_true rfl, Nat.le_of_ble_eq_true rfl⟩ [] [0, 1, 2, 3, 4, 5, 6, 7, 8, 9] [0, 1, 2, 3, 4, 5, 6, 7, 8, 9] rfl rfl ⟨rfl, rfl, rfl, by decide⟩ (fun _ => rfl) rfl (fun _ => rfl) hl.1 (Nat.le_of_ble_eq_true rfl) rfl dX7_levelFor_56 (fun _ _ H locs B => ?_)
        refine lv_istore (lv' := [(5, .int (iI ((lo + hi) / 2))), (0, .ref u), (1, .int (iI va)), (2, .int (iI lo)), (3, .int (iI hi)), (4, .int (iI k))]) S.1 S.2.1 (pc := 59) dX7_levelFor_59 hl (by decide) rfl (fun ls hl => ?_)
        refine z_aload_n S (pc := 61) dX7_levelFor_61 rfl (lv_at hl 1 rfl) ?_
        refine z_iload S (pc := 62) dX7_levelFor_62 (lv_at hl 0 rfl) ?_
        refine z_callV S (pc := 64) B (wr := []) (wn := fun u3 => [cSlo u o x1 x2 x3 a2 x5, cSta o a h, cMet a b f g σ rr rb rn, cSig b σ, cSet f σ, cCon g σ ov, cMet a2 b2 f2 g2 u3.1 u3.2.2.1 u3.2.2.2.1 u3.2.2.2.2, cSig b2 u3.1, cSet f2 u3.1, cCon g2 u3.1 u3.2.1]) (st1 := fun _ => [.long (iL (vwl σ ((lo + hi) / 2)))]) (As := [.int (iI ((lo + hi) / 2))]) (mX7_valueWithLevel l E u o x1 x2 x3 x5 a b f g σ ov rr rb rn h a2 b2 f2 g2 σ2 ov2 rr2 rb2 rn2 ((lo + hi) / 2) (show -3000000 ≤ ((lo + hi) / 2) ∧ ((lo + hi) / 2) ≤ 3000000 from by omega) (show Sets σ from by assumption) (show Nums σ from by assumption) (show 0 ≤ σ 11 ∧ σ 11 ≤ 1900000000 from by omega) (show σ 22 = 0 ∨ σ 22 = 1 from by omega) (show ov = 0 ∨ ov = 1 from by omega)) gX7_levelFor_X7_valueWithLevel 1 rfl (by decide +kernel) ⟨Nat.le_of_ble_eq_true rfl, Nat.le_of_ble_eq_true rfl, Nat.le_of_ble_eq_true rfl, Nat.le_of_ble_eq_true rfl⟩ 0 rfl (q := (RX7, TX7, 6)) rfl rfl [0, 1, 2, 3, 4, 5, 6, 7, 8, 9] [] [0, 1, 2, 3, 4, 5, 6, 7, 8, 9] rfl rfl ⟨rfl, rfl, rfl, by decide⟩ (fun _ => rfl) rfl (fun _ => rfl) hl.1 (Nat.le_of_ble_eq_true rfl) rfl dX7_levelFor_64 (fun u3 hu3 H locs B => ?_)
        refine z_iload_n S (pc := 67) dX7_levelFor_67 rfl (lv_at hl 2 rfl) ?_
        refine z_i2l S (pc := 68) (by omega) dX7_levelFor_68 ?_
        refine z_lc_lt S (pc := 69) (tgt := 79) (by omega) (by omega) dX7_levelFor_69 dX7_levelFor_70 rfl (fun c4 => ?_) (fun c4 => ?_)
        · refine z_iload S (pc := 79) dX7_levelFor_79 (lv_at hl 0 rfl) ?_
          refine z_iconst S (pc := 81) dX7_levelFor_81 ?_
          refine z_iadd S (pc := 82) dX7_levelFor_82 ?_
          refine lv_istore_n (lv' := [(2, .int (iI (((lo + hi) / 2) + 1))), (5, .int (iI ((lo + hi) / 2))), (0, .ref u), (1, .int (iI va)), (3, .int (iI hi)), (4, .int (iI k))]) S.1 S.2.1 (pc := 83) dX7_levelFor_83 rfl hl (by decide) rfl (fun ls hl => ?_)
          refine lv_iinc (v := iI (k + 1)) (lv' := [(4, .int (iI (k + 1))), (2, .int (iI (((lo + hi) / 2) + 1))), (5, .int (iI ((lo + hi) / 2))), (0, .ref u), (1, .int (iI va)), (3, .int (iI hi))]) S.1 S.2.1 (pc := 84) dX7_levelFor_84 hl (k := 5) rfl (iI_add _ _) (by decide) rfl (fun ls hl => ?_)
          refine lv_goto S.1 S.2.1 (pc := 87) (tgt := 40) dX7_levelFor_87 rfl ?_
          exact ih (((lo + hi) / 2) + 1) hi (k + 1) u3.1 u3.2.1 u3.2.2.1 u3.2.2.2.1 u3.2.2.2.2 (by omega) (by omega) res (by rw [← hres]; simp only [lfL]; rw [if_pos (by omega), if_neg (by omega)]) hx _ _ _ B (lv_sub hl [3, 4, 1, 5, 0] rfl)
        · refine z_iload S (pc := 73) dX7_levelFor_73 (lv_at hl 0 rfl) ?_
          refine lv_istore_n (lv' := [(3, .int (iI ((lo + hi) / 2))), (5, .int (iI ((lo + hi) / 2))), (0, .ref u), (1, .int (iI va)), (2, .int (iI lo)), (4, .int (iI k))]) S.1 S.2.1 (pc := 75) dX7_levelFor_75 rfl hl (by decide) rfl (fun ls hl => ?_)
          refine lv_goto S.1 S.2.1 (pc := 76) (tgt := 84) dX7_levelFor_76 rfl ?_
          refine lv_iinc (v := iI (k + 1)) (lv' := [(4, .int (iI (k + 1))), (3, .int (iI ((lo + hi) / 2))), (5, .int (iI ((lo + hi) / 2))), (0, .ref u), (1, .int (iI va)), (2, .int (iI lo))]) S.1 S.2.1 (pc := 84) dX7_levelFor_84 hl (k := 5) rfl (iI_add _ _) (by decide) rfl (fun ls hl => ?_)
          refine lv_goto S.1 S.2.1 (pc := 87) (tgt := 40) dX7_levelFor_87 rfl ?_
          exact ih lo ((lo + hi) / 2) (k + 1) u3.1 u3.2.1 u3.2.2.1 u3.2.2.2.1 u3.2.2.2.2 (by omega) (by omega) res (by rw [← hres]; simp only [lfL]; rw [if_pos (by omega), if_pos (by omega)]) hx _ _ _ B (lv_sub hl [3, 4, 5, 1, 0] rfl)
theorem lfL_bd (σ : Nat → Int) (v : Int) : ∀ (m : Nat) (l h : Int), -3000000 ≤ l → l ≤ h → h ≤ 3000000 → -3000000 ≤ lfL σ v m l h ∧ lfL σ v m l h ≤ 3000000 := by
  intro m
  induction m with
  | zero => intro l h h1 h2 h3; simp only [lfL]; omega
  | succ m ih =>
    intro l h h1 h2 h3
    simp only [lfL]
    split
    · split
      · exact ih _ _ (by omega) (by omega) (by omega)
      · exact ih _ _ (by omega) (by omega) (by omega)
    · omega
set_option maxHeartbeats 4000000 in
set_option maxRecDepth 100000 in
theorem mX7_levelFor (l : Launch) (E : gT) (u : Nat) (o : Nat) (x1 : Nat) (x2 : Nat) (x3 : Nat) (x5 : Nat) (a : Nat) (b : Nat) (f : Nat) (g : Nat) (σ : Nat → Int) (ov : Int) (rr : Int) (rb : Int) (rn : Int) (h : Nat) (a2 : Nat) (b2 : Nat) (f2 : Nat) (g2 : Nat) (σ2 : Nat → Int) (ov2 : Int) (rr2 : Int) (rb2 : Int) (rn2 : Int) (va : Int) (hva : -10000000 ≤ va ∧ va ≤ 10000000) (hge : va ≤ vwl σ 3000000) (hs : Sets σ) (hn : Nums σ) (h11 : 0 ≤ σ 11 ∧ σ 11 ≤ 1900000000) (h22 : σ 22 = 0 ∨ σ 22 = 1) (ho : ov = 0 ∨ ov = 1) : Ct l E yX7_levelFor wsX7_levelFor 6 136 0 0 [.ref u, .int (iI va)] [cSlo u o x1 x2 x3 a2 x5, cSta o a h, cMet a b f g σ rr rb rn, cSig b σ, cSet f σ, cCon g σ ov, cMet a2 b2 f2 g2 σ2 rr2 rb2 rn2, cSig b2 σ2, cSet f2 σ2, cCon g2 σ2 ov2] (S0 := (Nat → Int) × Int × Int × Int × Int) (fun u0 => True) (fun _ => (some (.long (iL (lfL σ va 32 (-3000000) 3000000))))) (fun u0 => [cSlo u o x1 x2 x3 a2 x5, cSta o a h, cMet a b f g σ rr rb rn, cSig b σ, cSet f σ, cCon g σ ov, cMet a2 b2 f2 g2 u0.1 u0.2.2.1 u0.2.2.2.1 u0.2.2.2.2, cSig b2 u0.1, cSet f2 u0.1, cCon g2 u0.1 u0.2.1]) := by
  refine Ct.mk (cc := cX7_levelFor) (maxL := 6) (ret := (some .long)) (plainFor_of_name (by decide)) rfl (Nat.le_of_ble_eq_true rfl) ?_
  intro p e s m below meth c A ls H locs S hr hlk hnm B hl
  have S : CallFix p m c cX7_levelFor 6 s #[.ref u, .int (iI va)] wsX7_levelFor RX7 := S
  have hl : lv_has ls 6 [(0, .ref u), (1, .int (iI va))] := hl
  have hvb := vwl_bd (v := 3000000) hs hn (by omega)
  refine z_iload_n S (pc := 0) dX7_levelFor_0 rfl (lv_at hl 1 rfl) ?_
  refine z_ldc S (pc := 1) (x := (-10000000)) (by decide +kernel) rfl dX7_levelFor_1 ?_
  refine z_ldc S (pc := 3) (x := 10000000) (by decide +kernel) rfl dX7_levelFor_3 ?_
  refine z_callS S (pc := 5) B (wr := [cSlo u o x1 x2 x3 a2 x5, cSta o a h, cMet a b f g σ rr rb rn, cSig b σ, cSet f σ, cCon g σ ov, cMet a2 b2 f2 g2 σ2 rr2 rb2 rn2, cSig b2 σ2, cSet f2 σ2, cCon g2 σ2 ov2]) (wn := fun _ => [cSlo u o x1 x2 x3 a2 x5, cSta o a h, cMet a b f g σ rr rb rn, cSig b σ, cSet f σ, cCon g σ ov, cMet a2 b2 f2 g2 σ2 rr2 rb2 rn2, cSig b2 σ2, cSet f2 σ2, cCon g2 σ2 ov2]) (st1 := fun _ => [.int (iI (bI (va < (-10000000) ∨ 10000000 < va)))]) (As := [.int (iI va), .int (iI (-10000000)), .int (iI 10000000)]) (mX7_isOutside l E va (-10000000) 10000000 (show inI va ∧ inI (-10000000) ∧ inI 10000000 from by omega)) gX7_levelFor_X7_isOutside 3 rfl (by decide +kernel) ⟨Nat.le_of_ble_eq_true rfl, Nat.le_of_ble_eq_true rfl, Nat.le_of_ble_eq_true rfl, Nat.le_of_ble_eq_true rfl⟩ [] [0, 1, 2, 3, 4, 5, 6, 7, 8, 9] [0, 1, 2, 3, 4, 5, 6, 7, 8, 9] rfl rfl ⟨rfl, rfl, rfl, by decide⟩ (fun _ => rfl) rfl (fun _ => rfl) hl.1 (Nat.le_of_ble_eq_true rfl) rfl dX7_levelFor_5 (fun _ _ H locs B => ?_)
  refine z_ifeq_b S (pc := 8) (tgt := 15) dX7_levelFor_8 rfl (fun c1 => ?_) (fun c1 => absurd c1 (by omega))
  refine z_aload_n S (pc := 15) dX7_levelFor_15 rfl (lv_at hl 0 rfl) ?_
  refine z_ldc S (pc := 16) (x := 3000000) (by decide +kernel) rfl dX7_levelFor_16 ?_
  refine z_callV S (pc := 18) B (wr := []) (wn := fun u2 => [cSlo u o x1 x2 x3 a2 x5, cSta o a h, cMet a b f g σ rr rb rn, cSig b σ, cSet f σ, cCon g σ ov, cMet a2 b2 f2 g2 u2.1 u2.2.2.1 u2.2.2.2.1 u2.2.2.2.2, cSig b2 u2.1, cSet f2 u2.1, cCon g2 u2.1 u2.2.1]) (st1 := fun _ => [.long (iL (vwl σ 3000000))]) (As := [.int (iI 3000000)]) (mX7_valueWithLevel l E u o x1 x2 x3 x5 a b f g σ ov rr rb rn h a2 b2 f2 g2 σ2 ov2 rr2 rb2 rn2 3000000 (show -3000000 ≤ 3000000 ∧ 3000000 ≤ 3000000 from by omega) (show Sets σ from by assumption) (show Nums σ from by assumption) (show 0 ≤ σ 11 ∧ σ 11 ≤ 1900000000 from by omega) (show σ 22 = 0 ∨ σ 22 = 1 from by omega) (show ov = 0 ∨ ov = 1 from by omega)) gX7_levelFor_X7_valueWithLevel 1 rfl (by decide +kernel) ⟨Nat.le_of_ble_eq_true rfl, Nat.le_of_ble_eq_true rfl, Nat.le_of_ble_eq_true rfl, Nat.le_of_ble_eq_true rfl⟩ 0 rfl (q := (RX7, TX7, 6)) rfl rfl [0, 1, 2, 3, 4, 5, 6, 7, 8, 9] [] [0, 1, 2, 3, 4, 5, 6, 7, 8, 9] rfl rfl ⟨rfl, rfl, rfl, by decide⟩ (fun _ => rfl) rfl (fun _ => rfl) hl.1 (Nat.le_of_ble_eq_true rfl) rfl dX7_levelFor_18 (fun u2 hu2 H locs B => ?_)
  refine z_iload_n S (pc := 21) dX7_levelFor_21 rfl (lv_at hl 1 rfl) ?_
  refine z_i2l S (pc := 22) (by omega) dX7_levelFor_22 ?_
  refine z_lc_ge S (pc := 23) (tgt := 31) (by omega) (by omega) dX7_levelFor_23 dX7_levelFor_24 rfl (fun c3 => ?_) (fun c3 => absurd c3 (by omega))
  refine z_ldc S (pc := 31) (x := (-3000000)) (by decide +kernel) rfl dX7_levelFor_31 ?_
  refine lv_istore_n (lv' := [(2, .int (iI (-3000000))), (0, .ref u), (1, .int (iI va))]) S.1 S.2.1 (pc := 33) dX7_levelFor_33 rfl hl (by decide) rfl (fun ls hl => ?_)
  refine z_ldc S (pc := 34) (x := 3000000) (by decide +kernel) rfl dX7_levelFor_34 ?_
  refine lv_istore_n (lv' := [(3, .int (iI 3000000)), (2, .int (iI (-3000000))), (0, .ref u), (1, .int (iI va))]) S.1 S.2.1 (pc := 36) dX7_levelFor_36 rfl hl (by decide) rfl (fun ls hl => ?_)
  refine z_iconst S (pc := 37) dX7_levelFor_37 ?_
  refine lv_istore (lv' := [(4, .int (iI 0)), (3, .int (iI 3000000)), (2, .int (iI (-3000000))), (0, .ref u), (1, .int (iI va))]) S.1 S.2.1 (pc := 38) dX7_levelFor_38 hl (by decide) rfl (fun ls hl => ?_)
  obtain ⟨z, hz⟩ : ∃ z, lfL σ va 32 (-3000000) 3000000 = z := ⟨_, rfl⟩
  have hzb : -3000000 ≤ z ∧ z ≤ 3000000 := by rw [← hz]; exact lfL_bd σ va 32 _ _ (by omega) (by omega) (by omega)
  refine lpX7_levelFor E S u o x1 x2 x3 x5 a b f g σ ov rr rb rn h a2 b2 f2 g2 va hs hn h11 h22 ho hva 32 (-3000000) 3000000 0 u2.1 u2.2.1 u2.2.2.1 u2.2.2.2.1 u2.2.2.2.2 (by omega) (by omega) z hz (fun u0 H locs ls B hl => ?_) _ _ _ B (lv_sub hl [3, 4, 2, 1, 0] rfl)
  refine z_iload_n S (pc := 90) dX7_levelFor_90 rfl (lv_at hl 2 rfl) ?_
  refine z_i2l S (pc := 91) (by omega) dX7_levelFor_91 ?_
  exact z_lreturn S hr hlk B ⟨u0.1, u0.2.1, u0.2.2.1, u0.2.2.2.1, u0.2.2.2.2⟩ trivial (by rw [hz]) rfl (pc := 92) dX7_levelFor_92
set_option maxHeartbeats 4000000 in
set_option maxRecDepth 100000 in
theorem mX7_levelFor_m (l : Launch) (E : gT) (u : Nat) (o : Nat) (x1 : Nat) (x2 : Nat) (x3 : Nat) (x5 : Nat) (a : Nat) (b : Nat) (f : Nat) (g : Nat) (σ : Nat → Int) (ov : Int) (rr : Int) (rb : Int) (rn : Int) (h : Nat) (a2 : Nat) (b2 : Nat) (f2 : Nat) (g2 : Nat) (σ2 : Nat → Int) (ov2 : Int) (rr2 : Int) (rb2 : Int) (rn2 : Int) (va : Int) (hva : -10000000 ≤ va ∧ va ≤ 10000000) (hge : vwl σ 3000000 < va) (hs : Sets σ) (hn : Nums σ) (h11 : 0 ≤ σ 11 ∧ σ 11 ≤ 1900000000) (h22 : σ 22 = 0 ∨ σ 22 = 1) (ho : ov = 0 ∨ ov = 1) : Ct l E yX7_levelFor wsX7_levelFor 6 136 0 0 [.ref u, .int (iI va)] [cSlo u o x1 x2 x3 a2 x5, cSta o a h, cMet a b f g σ rr rb rn, cSig b σ, cSet f σ, cCon g σ ov, cMet a2 b2 f2 g2 σ2 rr2 rb2 rn2, cSig b2 σ2, cSet f2 σ2, cCon g2 σ2 ov2] (S0 := (Nat → Int) × Int × Int × Int × Int) (fun u0 => True) (fun _ => (some (.long (iL (-1000000000000000006))))) (fun u0 => [cSlo u o x1 x2 x3 a2 x5, cSta o a h, cMet a b f g σ rr rb rn, cSig b σ, cSet f σ, cCon g σ ov, cMet a2 b2 f2 g2 u0.1 u0.2.2.1 u0.2.2.2.1 u0.2.2.2.2, cSig b2 u0.1, cSet f2 u0.1, cCon g2 u0.1 u0.2.1]) := by
  refine Ct.mk (cc := cX7_levelFor) (maxL := 6) (ret := (some .long)) (plainFor_of_name (by decide)) rfl (Nat.le_of_ble_eq_true rfl) ?_
  intro p e s m below meth c A ls H locs S hr hlk hnm B hl
  have S : CallFix p m c cX7_levelFor 6 s #[.ref u, .int (iI va)] wsX7_levelFor RX7 := S
  have hl : lv_has ls 6 [(0, .ref u), (1, .int (iI va))] := hl
  have hvb := vwl_bd (v := 3000000) hs hn (by omega)
  refine z_iload_n S (pc := 0) dX7_levelFor_0 rfl (lv_at hl 1 rfl) ?_
  refine z_ldc S (pc := 1) (x := (-10000000)) (by decide +kernel) rfl dX7_levelFor_1 ?_
  refine z_ldc S (pc := 3) (x := 10000000) (by decide +kernel) rfl dX7_levelFor_3 ?_
  refine z_callS S (pc := 5) B (wr := [cSlo u o x1 x2 x3 a2 x5, cSta o a h, cMet a b f g σ rr rb rn, cSig b σ, cSet f σ, cCon g σ ov, cMet a2 b2 f2 g2 σ2 rr2 rb2 rn2, cSig b2 σ2, cSet f2 σ2, cCon g2 σ2 ov2]) (wn := fun _ => [cSlo u o x1 x2 x3 a2 x5, cSta o a h, cMet a b f g σ rr rb rn, cSig b σ, cSet f σ, cCon g σ ov, cMet a2 b2 f2 g2 σ2 rr2 rb2 rn2, cSig b2 σ2, cSet f2 σ2, cCon g2 σ2 ov2]) (st1 := fun _ => [.int (iI (bI (va < (-10000000) ∨ 10000000 < va)))]) (As := [.int (iI va), .int (iI (-10000000)), .int (iI 10000000)]) (mX7_isOutside l E va (-10000000) 10000000 (show inI va ∧ inI (-10000000) ∧ inI 10000000 from by omega)) gX7_levelFor_X7_isOutside 3 rfl (by decide +kernel) ⟨Nat.le_of_ble_eq_true rfl, Nat.le_of_ble_eq_true rfl, Nat.le_of_ble_eq_true rfl, Nat.le_of_ble_eq_true rfl⟩ [] [0, 1, 2, 3, 4, 5, 6, 7, 8, 9] [0, 1, 2, 3, 4, 5, 6, 7, 8, 9] rfl rfl ⟨rfl, rfl, rfl, by decide⟩ (fun _ => rfl) rfl (fun _ => rfl) hl.1 (Nat.le_of_ble_eq_true rfl) rfl dX7_levelFor_5 (fun _ _ H locs B => ?_)
  refine z_ifeq_b S (pc := 8) (tgt := 15) dX7_levelFor_8 rfl (fun c1 => ?_) (fun c1 => absurd c1 (by omega))
  refine z_aload_n S (pc := 15) dX7_levelFor_15 rfl (lv_at hl 0 rfl) ?_
  refine z_ldc S (pc := 16) (x := 3000000) (by decide +kernel) rfl dX7_levelFor_16 ?_
  refine z_callV S (pc := 18) B (wr := []) (wn := fun u2 => [cSlo u o x1 x2 x3 a2 x5, cSta o a h, cMet a b f g σ rr rb rn, cSig b σ, cSet f σ, cCon g σ ov, cMet a2 b2 f2 g2 u2.1 u2.2.2.1 u2.2.2.2.1 u2.2.2.2.2, cSig b2 u2.1, cSet f2 u2.1, cCon g2 u2.1 u2.2.1]) (st1 := fun _ => [.long (iL (vwl σ 3000000))]) (As := [.int (iI 3000000)]) (mX7_valueWithLevel l E u o x1 x2 x3 x5 a b f g σ ov rr rb rn h a2 b2 f2 g2 σ2 ov2 rr2 rb2 rn2 3000000 (show -3000000 ≤ 3000000 ∧ 3000000 ≤ 3000000 from by omega) (show Sets σ from by assumption) (show Nums σ from by assumption) (show 0 ≤ σ 11 ∧ σ 11 ≤ 1900000000 from by omega) (show σ 22 = 0 ∨ σ 22 = 1 from by omega) (show ov = 0 ∨ ov = 1 from by omega)) gX7_levelFor_X7_valueWithLevel 1 rfl (by decide +kernel) ⟨Nat.le_of_ble_eq_true rfl, Nat.le_of_ble_eq_true rfl, Nat.le_of_ble_eq_true rfl, Nat.le_of_ble_eq_true rfl⟩ 0 rfl (q := (RX7, TX7, 6)) rfl rfl [0, 1, 2, 3, 4, 5, 6, 7, 8, 9] [] [0, 1, 2, 3, 4, 5, 6, 7, 8, 9] rfl rfl ⟨rfl, rfl, rfl, by decide⟩ (fun _ => rfl) rfl (fun _ => rfl) hl.1 (Nat.le_of_ble_eq_true rfl) rfl dX7_levelFor_18 (fun u2 hu2 H locs B => ?_)
  refine z_iload_n S (pc := 21) dX7_levelFor_21 rfl (lv_at hl 1 rfl) ?_
  refine z_i2l S (pc := 22) (by omega) dX7_levelFor_22 ?_
  refine z_lc_ge S (pc := 23) (tgt := 31) (by omega) (by omega) dX7_levelFor_23 dX7_levelFor_24 rfl (fun c3 => absurd c3 (by omega)) (fun c3 => ?_)
  refine z_ldc2 S (pc := 27) (x := (-1000000000000000006)) (by decide +kernel) rfl dX7_levelFor_27 ?_
  exact z_lreturn S hr hlk B ⟨u2.1, u2.2.1, u2.2.2.1, u2.2.2.2.1, u2.2.2.2.2⟩ trivial rfl rfl (pc := 30) dX7_levelFor_30
set_option maxHeartbeats 4000000 in
set_option maxRecDepth 100000 in
theorem mX7_levelFor_b (l : Launch) (E : gT) (u : Nat) (o : Nat) (x1 : Nat) (x2 : Nat) (x3 : Nat) (x4 : Nat) (x5 : Nat) (va : Int) (hI : inI va) (hbad : (va < -10000000 ∨ 10000000 < va)) : Cd l E yX7_levelFor wsX7_levelFor 6 136 0 0 [.ref u, .int (iI va)] [cSlo u o x1 x2 x3 x4 x5] (some (.long (iL (-1000000000000000002)))) [cSlo u o x1 x2 x3 x4 x5] := by
  refine Ct.mk (cc := cX7_levelFor) (maxL := 6) (ret := (some .long)) (plainFor_of_name (by decide)) rfl (Nat.le_of_ble_eq_true rfl) ?_
  intro p e s m below meth c A ls H locs S hr hlk hnm B hl
  have S : CallFix p m c cX7_levelFor 6 s #[.ref u, .int (iI va)] wsX7_levelFor RX7 := S
  have hl : lv_has ls 6 [(0, .ref u), (1, .int (iI va))] := hl
  refine z_iload_n S (pc := 0) dX7_levelFor_0 rfl (lv_at hl 1 rfl) ?_
  refine z_ldc S (pc := 1) (x := (-10000000)) (by decide +kernel) rfl dX7_levelFor_1 ?_
  refine z_ldc S (pc := 3) (x := 10000000) (by decide +kernel) rfl dX7_levelFor_3 ?_
  refine z_callS S (pc := 5) B (wr := [cSlo u o x1 x2 x3 x4 x5]) (wn := fun _ => [cSlo u o x1 x2 x3 x4 x5]) (st1 := fun _ => [.int (iI (bI (va < (-10000000) ∨ 10000000 < va)))]) (As := [.int (iI va), .int (iI (-10000000)), .int (iI 10000000)]) (mX7_isOutside l E va (-10000000) 10000000 (show inI va ∧ inI (-10000000) ∧ inI 10000000 from by omega)) gX7_levelFor_X7_isOutside 3 rfl (by decide +kernel) ⟨Nat.le_of_ble_eq_true rfl, Nat.le_of_ble_eq_true rfl, Nat.le_of_ble_eq_true rfl, Nat.le_of_ble_eq_true rfl⟩ [] [0] [0] rfl rfl ⟨rfl, rfl, rfl, by decide⟩ (fun _ => rfl) rfl (fun _ => rfl) hl.1 (Nat.le_of_ble_eq_true rfl) rfl dX7_levelFor_5 (fun _ _ H locs B => ?_)
  refine z_ifeq_b S (pc := 8) (tgt := 15) dX7_levelFor_8 rfl (fun c1 => ?_) (fun c1 => ?_)
  · exact absurd hbad (by omega)
  · refine z_ldc2 S (pc := 11) (x := (-1000000000000000002)) (by decide +kernel) rfl dX7_levelFor_11 ?_
    exact z_lreturn S hr hlk B () trivial rfl rfl (pc := 14) dX7_levelFor_14
theorem iX7_settle_X2 : ∀ w ∈ wsX20, w ∈ wsX7_settle := by decide +kernel
theorem iX7_settle_X4 : ∀ w ∈ wsX40, w ∈ wsX7_settle := by decide +kernel
theorem iX7_settle_X7 : ∀ w ∈ wsX70, w ∈ wsX7_settle := by decide +kernel
set_option maxHeartbeats 4000000 in
set_option maxRecDepth 100000 in
theorem lpX7_settle {p : Program} {l : Launch} {e : Env} {s : State} {m : MethodId} {args : Array Value} {below : List Frame} {meth : Method} {c : Code} {Q : State → Prop} {A : Nat → Prop} (E : gT) (S : CallFix p m c cX7_settle 3 s args wsX7_settle RX7) (u : Nat) (o : Nat) (x1 : Nat) (x2 : Nat) (x3 : Nat) (x5 : Nat) (a : Nat) (b : Nat) (f : Nat) (g : Nat) (σ : Nat → Int) (ov : Int) (rr : Int) (rb : Int) (rn : Int) (h : Nat) (a2 : Nat) (b2 : Nat) (f2 : Nat) (g2 : Nat) :
    ∀ (k : Nat) (b0 : Int) (σ2 : Nat → Int) (ov2 : Int) (rr2 : Int) (rb2 : Int) (rn2 : Int) (hk : 0 ≤ b0 ∧ b0 + (k : Int) = 21) (hs2 : Sets σ2) (hn2 : Nums σ2) (ht2 : 0 ≤ σ2 11 ∧ σ2 11 ≤ 1900000000 + 3300 * b0) (res : Int) (hres : stL k b0 σ2 = res) (hx : ∀ (u0 : (Nat → Int) × Int × Int × Int × Int) (H : Heap) (locs : List Loc) (ls : Array Slot) (pc : Nat), bw E A s H locs [cSlo u o x1 x2 x3 a2 x5, cSta o a h, cMet a b f g σ rr rb rn, cSig b σ, cSet f σ, cCon g σ ov, cMet a2 b2 f2 g2 u0.1 u0.2.2.1 u0.2.2.2.1 u0.2.2.2.2, cSig b2 u0.1, cSet f2 u0.1, cCon g2 u0.1 u0.2.1] → (pc = 56 ∨ pc = 65) → W p l e ({ frames := 5, cells := 0, slots := 0, locals := 115 } : Room) s m args below meth c H locs 0 0 Q (F0 m pc ls [.int (iI res)])) (H : Heap) (locs : List Loc) (ls : Array Slot) (B : bw E A s H locs [cSlo u o x1 x2 x3 a2 x5, cSta o a h, cMet a b f g σ rr rb rn, cSig b σ, cSet f σ, cCon g σ ov, cMet a2 b2 f2 g2 σ2 rr2 rb2 rn2, cSig b2 σ2, cSet f2 σ2, cCon g2 σ2 ov2]) (hl : lv_has ls 3 [(0, .ref u), (1, .int (iI b0))]), W p l e ({ frames := 5, cells := 0, slots := 0, locals := 115 } : Room) s m args below meth c H locs 0 0 Q (F0 m 16 ls []) := by
  intro k
  induction k with
  | zero =>
    intro b0 σ2 ov2 rr2 rb2 rn2 hk hs2 hn2 ht2 res hres hx H locs ls B hl
    obtain ⟨g0, g1, g2_, g3, g4, g5, g6, g7, g8, g9, g10⟩ := id hs2
    obtain ⟨f0, f1, f2_, f3, f4, f5, f6, f7, f8, f9, f10⟩ := id (rdM_sets hs2)
    have ht3 := rdM_time hs2
    refine z_iload_n S (pc := 16) dX7_settle_16 rfl (lv_at hl 1 rfl) ?_
    refine z_bipush S (pc := 17) dX7_settle_17 rfl ?_
    refine z_icmp_gt S (pc := 19) (tgt := 63) (by omega) (by omega) dX7_settle_19 rfl (fun c1 => ?_) (fun c1 => absurd c1 (by omega))
    refine z_bipush S (pc := 63) dX7_settle_63 rfl ?_
    subst hres
    exact hx ⟨σ2, ov2, rr2, rb2, rn2⟩ _ _ _ 65 B (by omega)
  | succ k ih =>
    intro b0 σ2 ov2 rr2 rb2 rn2 hk hs2 hn2 ht2 res hres hx H locs ls B hl
    obtain ⟨g0, g1, g2_, g3, g4, g5, g6, g7, g8, g9, g10⟩ := id hs2
    obtain ⟨f0, f1, f2_, f3, f4, f5, f6, f7, f8, f9, f10⟩ := id (rdM_sets hs2)
    have ht3 := rdM_time hs2
    refine z_iload_n S (pc := 16) dX7_settle_16 rfl (lv_at hl 1 rfl) ?_
    refine z_bipush S (pc := 17) dX7_settle_17 rfl ?_
    refine z_icmp_gt S (pc := 19) (tgt := 63) (by omega) (by omega) dX7_settle_19 rfl (fun c1 => absurd c1 (by omega)) (fun c1 => ?_)
    refine z_aload_n S (pc := 22) dX7_settle_22 rfl (lv_at hl 0 rfl) ?_
    refine z_get S (pc := 23) B iX7_settle_X7 0 rfl rfl 4 (by decide) rfl rfl (by decide +kernel) dX7_settle_23 ?_
    refine z_get S (pc := 26) B iX7_settle_X2 6 rfl rfl 1 (by decide) rfl rfl (by decide +kernel) dX7_settle_26 ?_
    refine z_get S (pc := 29) B iX7_settle_X4 8 rfl rfl 5 (by decide) rfl rfl (by decide +kernel) dX7_settle_29 ?_
    refine lv_istore_n (lv' := [(2, .int (iI (σ2 10))), (0, .ref u), (1, .int (iI b0))]) S.1 S.2.1 (pc := 32) dX7_settle_32 rfl hl (by decide) rfl (fun ls hl => ?_)
    refine z_aload_n S (pc := 33) dX7_settle_33 rfl (lv_at hl 1 rfl) ?_
    refine z_get S (pc := 34) B iX7_settle_X7 0 rfl rfl 4 (by decide) rfl rfl (by decide +kernel) dX7_settle_34 ?_
    refine z_callV S (pc := 37) B (wr := [cSlo u o x1 x2 x3 a2 x5, cSta o a h, cMet a b f g σ rr rb rn, cSig b σ, cSet f σ, cCon g σ ov]) (wn := fun _ => [cSlo u o x1 x2 x3 a2 x5, cSta o a h, cMet a b f g σ rr rb rn, cSig b σ, cSet f σ, cCon g σ ov, cMet a2 b2 f2 g2 (rdM σ2) (rz σ2 10) (rz σ2 11) (net0 (rz σ2)), cSig b2 (rdM σ2), cSet f2 (rdM σ2), cCon g2 (rdM σ2) (ov0 (rz σ2))]) (st1 := fun _ => [.long (iL (val0 (rz σ2)))]) (As := []) (mX2_makeReading l E a2 b2 f2 g2 σ2 ov2 rr2 rb2 rn2 (show Sets σ2 from by assumption) (show Nums σ2 from by assumption) (show 0 ≤ σ2 11 ∧ σ2 11 ≤ 2000000000 from by omega)) gX7_settle_X2_makeReading 0 rfl (by decide +kernel) ⟨Nat.le_of_ble_eq_true rfl, Nat.le_of_ble_eq_true rfl, Nat.le_of_ble_eq_true rfl, Nat.le_of_ble_eq_true rfl⟩ 0 rfl (q := (RX2, TX2, 9)) rfl rfl [6, 7, 8, 9] [0, 1, 2, 3, 4, 5] [0, 1, 2, 3, 4, 5, 6, 7, 8, 9] rfl rfl ⟨rfl, rfl, rfl, by decide⟩ (fun _ => rfl) rfl (fun _ => rfl) hl.1 (Nat.le_of_ble_eq_true rfl) rfl dX7_settle_37 (fun _ _ H locs B => ?_)
    refine lv_pop2_2 S.1 S.2.1 (pc := 40) dX7_settle_40 rfl ?_
    refine z_aload_n S (pc := 41) dX7_settle_41 rfl (lv_at hl 1 rfl) ?_
    refine z_get S (pc := 42) B iX7_settle_X7 0 rfl rfl 4 (by decide) rfl rfl (by decide +kernel) dX7_settle_42 ?_
    refine z_get S (pc := 45) B iX7_settle_X2 6 rfl rfl 1 (by decide) rfl rfl (by decide +kernel) dX7_settle_45 ?_
    refine z_get S (pc := 48) B iX7_settle_X4 8 rfl rfl 5 (by decide) rfl rfl (by decide +kernel) dX7_settle_48 ?_
    refine z_iload_n S (pc := 51) dX7_settle_51 rfl (lv_at hl 0 rfl) ?_
    refine z_icmp_ne S (pc := 52) (tgt := 57) (by omega) (by omega) dX7_settle_52 rfl (fun c2 => ?_) (fun c2 => ?_)
    · refine lv_iinc (v := iI (b0 + 1)) (lv' := [(1, .int (iI (b0 + 1))), (2, .int (iI (σ2 10))), (0, .ref u)]) S.1 S.2.1 (pc := 57) dX7_settle_57 hl (k := 2) rfl (iI_add _ _) (by decide) rfl (fun ls hl => ?_)
      refine lv_goto S.1 S.2.1 (pc := 60) (tgt := 16) dX7_settle_60 rfl ?_
      exact ih (b0 + 1) (rdM σ2) (ov0 (rz σ2)) (rz σ2 10) (rz σ2 11) (net0 (rz σ2)) (by omega) (rdM_sets hs2) (rdM_nums hs2 hn2) (by omega) res (by rw [← hres]; simp only [stL]; rw [if_neg (by omega)]) hx _ _ _ B (lv_sub hl [2, 0] rfl)
    · refine z_iload_n S (pc := 55) dX7_settle_55 rfl (lv_at hl 2 rfl) ?_
      have hres : b0 = res := by rw [← hres]; simp only [stL]; rw [if_pos (by omega)]
      subst hres
      exact hx ⟨rdM σ2, ov0 (rz σ2), rz σ2 10, rz σ2 11, net0 (rz σ2)⟩ _ _ _ 56 B (by omega)
theorem iX7_settle_X6 : ∀ w ∈ wsX60, w ∈ wsX7_settle := by decide +kernel
set_option maxHeartbeats 4000000 in
set_option maxRecDepth 100000 in
theorem mX7_settle (l : Launch) (E : gT) (u : Nat) (o : Nat) (x1 : Nat) (x2 : Nat) (x3 : Nat) (x5 : Nat) (a : Nat) (b : Nat) (f : Nat) (g : Nat) (σ : Nat → Int) (ov : Int) (rr : Int) (rb : Int) (rn : Int) (h : Nat) (a2 : Nat) (b2 : Nat) (f2 : Nat) (g2 : Nat) (σ2 : Nat → Int) (ov2 : Int) (rr2 : Int) (rb2 : Int) (rn2 : Int) (hs : Sets σ) (hn : Nums σ) (h11 : 0 ≤ σ 11 ∧ σ 11 ≤ 1900000000) (h22 : σ 22 = 0 ∨ σ 22 = 1) (ho : ov = 0 ∨ ov = 1) : Ct l E yX7_settle wsX7_settle 5 115 0 0 [.ref u] [cSlo u o x1 x2 x3 a2 x5, cSta o a h, cMet a b f g σ rr rb rn, cSig b σ, cSet f σ, cCon g σ ov, cMet a2 b2 f2 g2 σ2 rr2 rb2 rn2, cSig b2 σ2, cSet f2 σ2, cCon g2 σ2 ov2] (S0 := (Nat → Int) × Int × Int × Int × Int) (fun u0 => True) (fun _ => (some (.int (iI (stL 21 0 σ))))) (fun u0 => [cSlo u o x1 x2 x3 a2 x5, cSta o a h, cMet a b f g σ rr rb rn, cSig b σ, cSet f σ, cCon g σ ov, cMet a2 b2 f2 g2 u0.1 u0.2.2.1 u0.2.2.2.1 u0.2.2.2.2, cSig b2 u0.1, cSet f2 u0.1, cCon g2 u0.1 u0.2.1]) := by
  refine Ct.mk (cc := cX7_settle) (maxL := 3) (ret := (some .int)) (plainFor_of_name (by decide)) rfl (Nat.le_of_ble_eq_true rfl) ?_
  intro p e s m below meth c A ls H locs S hr hlk hnm B hl
  have S : CallFix p m c cX7_settle 3 s #[.ref u] wsX7_settle RX7 := S
  have hl : lv_has ls 3 [(0, .ref u)] := hl
  refine z_aload_n S (pc := 0) dX7_settle_0 rfl (lv_at hl 0 rfl) ?_
  refine z_get S (pc := 1) B iX7_settle_X7 0 rfl rfl 4 (by decide) rfl rfl (by decide +kernel) dX7_settle_1 ?_
  refine z_aload_n S (pc := 4) dX7_settle_4 rfl (lv_at hl 0 rfl) ?_
  refine z_get S (pc := 5) B iX7_settle_X7 0 rfl rfl 0 (by decide) rfl rfl (by decide +kernel) dX7_settle_5 ?_
  refine z_get S (pc := 8) B iX7_settle_X6 1 rfl rfl 0 (by decide) rfl rfl (by decide +kernel) dX7_settle_8 ?_
  refine z_callV S (pc := 11) B (wr := [cSlo u o x1 x2 x3 a2 x5, cSta o a h]) (wn := fun _ => [cSlo u o x1 x2 x3 a2 x5, cSta o a h, cMet a b f g σ rr rb rn, cSig b σ, cSet f σ, cCon g σ ov, cMet a2 b2 f2 g2 σ rr rb rn, cSig b2 σ, cSet f2 σ, cCon g2 σ ov]) (st1 := fun _ => []) (As := [.ref a]) (mX2_copyFrom l E a2 b2 f2 g2 σ2 ov2 rr2 rb2 rn2 a b f g σ ov rr rb rn (show σ 22 = 0 ∨ σ 22 = 1 from by omega) (show ov = 0 ∨ ov = 1 from by omega)) gX7_settle_X2_copyFrom 1 rfl (by decide +kernel) ⟨Nat.le_of_ble_eq_true rfl, Nat.le_of_ble_eq_true rfl, Nat.le_of_ble_eq_true rfl, Nat.le_of_ble_eq_true rfl⟩ 0 rfl (q := (RX2, TX2, 9)) rfl rfl [6, 7, 8, 9, 2, 3, 4, 5] [0, 1] [0, 1, 6, 7, 8, 9, 2, 3, 4, 5] rfl rfl ⟨rfl, rfl, rfl, by decide⟩ (fun _ => rfl) rfl (fun _ => rfl) hl.1 (Nat.le_of_ble_eq_true rfl) rfl dX7_settle_11 (fun _ _ H locs B => ?_)
  refine z_iconst S (pc := 14) dX7_settle_14 ?_
  refine lv_istore_n (lv' := [(1, .int (iI 0)), (0, .ref u)]) S.1 S.2.1 (pc := 15) dX7_settle_15 rfl hl (by decide) rfl (fun ls hl => ?_)
  refine lpX7_settle E S u o x1 x2 x3 x5 a b f g σ ov rr rb rn h a2 b2 f2 g2 21 0 σ ov rr rb rn (by omega) hs hn (by omega) (stL 21 0 σ) rfl (fun u0 H locs ls pc B hp => ?_) _ _ _ B (lv_sub hl [1, 0] rfl)
  rcases hp with rfl | rfl
  · exact z_ireturn S hr hlk B u0 trivial rfl rfl (pc := 56) dX7_settle_56
  · exact z_ireturn S hr hlk B u0 trivial rfl rfl (pc := 65) dX7_settle_65
/-! END what-ifs -/
