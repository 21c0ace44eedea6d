set_option linter.unusedVariables false
theorem dJ9_floorDiv_7cf53_0 : decode cJ9_floorDiv_7cf53 0 = .ok (.iload_n 0, 1) := by decide +kernel
theorem dJ9_floorDiv_7cf53_1 : decode cJ9_floorDiv_7cf53 1 = .ok (.iload_n 1, 1) := by decide +kernel
theorem dJ9_floorDiv_7cf53_2 : decode cJ9_floorDiv_7cf53 2 = .ok (.idiv, 1) := by decide +kernel
theorem dJ9_floorDiv_7cf53_3 : decode cJ9_floorDiv_7cf53 3 = .ok (.istore_n 2, 1) := by decide +kernel
theorem dJ9_floorDiv_7cf53_4 : decode cJ9_floorDiv_7cf53 4 = .ok (.iload_n 0, 1) := by decide +kernel
theorem dJ9_floorDiv_7cf53_5 : decode cJ9_floorDiv_7cf53 5 = .ok (.iload_n 1, 1) := by decide +kernel
theorem dJ9_floorDiv_7cf53_6 : decode cJ9_floorDiv_7cf53 6 = .ok (.ixor, 1) := by decide +kernel
theorem dJ9_floorDiv_7cf53_7 : decode cJ9_floorDiv_7cf53 7 = .ok (.ifCond .ge 14, 3) := by decide +kernel
theorem dJ9_floorDiv_7cf53_10 : decode cJ9_floorDiv_7cf53 10 = .ok (.iload_n 2, 1) := by decide +kernel
theorem dJ9_floorDiv_7cf53_11 : decode cJ9_floorDiv_7cf53 11 = .ok (.iload_n 1, 1) := by decide +kernel
theorem dJ9_floorDiv_7cf53_12 : decode cJ9_floorDiv_7cf53 12 = .ok (.imul, 1) := by decide +kernel
theorem dJ9_floorDiv_7cf53_13 : decode cJ9_floorDiv_7cf53 13 = .ok (.iload_n 0, 1) := by decide +kernel
theorem dJ9_floorDiv_7cf53_14 : decode cJ9_floorDiv_7cf53 14 = .ok (.if_icmp .eq 7, 3) := by decide +kernel
theorem dJ9_floorDiv_7cf53_17 : decode cJ9_floorDiv_7cf53 17 = .ok (.iload_n 2, 1) := by decide +kernel
theorem dJ9_floorDiv_7cf53_18 : decode cJ9_floorDiv_7cf53 18 = .ok (.iconst 1, 1) := by decide +kernel
theorem dJ9_floorDiv_7cf53_19 : decode cJ9_floorDiv_7cf53 19 = .ok (.isub, 1) := by decide +kernel
theorem dJ9_floorDiv_7cf53_20 : decode cJ9_floorDiv_7cf53 20 = .ok (.ireturn, 1) := by decide +kernel
theorem dJ9_floorDiv_7cf53_21 : decode cJ9_floorDiv_7cf53 21 = .ok (.iload_n 2, 1) := by decide +kernel
theorem dJ9_floorDiv_7cf53_22 : decode cJ9_floorDiv_7cf53 22 = .ok (.ireturn, 1) := by decide +kernel
theorem dJ9_floorMod_7cf53_0 : decode cJ9_floorMod_7cf53 0 = .ok (.iload_n 0, 1) := by decide +kernel
theorem dJ9_floorMod_7cf53_1 : decode cJ9_floorMod_7cf53 1 = .ok (.iload_n 1, 1) := by decide +kernel
theorem dJ9_floorMod_7cf53_2 : decode cJ9_floorMod_7cf53 2 = .ok (.irem, 1) := by decide +kernel
theorem dJ9_floorMod_7cf53_3 : decode cJ9_floorMod_7cf53 3 = .ok (.istore_n 2, 1) := by decide +kernel
theorem dJ9_floorMod_7cf53_4 : decode cJ9_floorMod_7cf53 4 = .ok (.iload_n 0, 1) := by decide +kernel
theorem dJ9_floorMod_7cf53_5 : decode cJ9_floorMod_7cf53 5 = .ok (.iload_n 1, 1) := by decide +kernel
theorem dJ9_floorMod_7cf53_6 : decode cJ9_floorMod_7cf53 6 = .ok (.ixor, 1) := by decide +kernel
theorem dJ9_floorMod_7cf53_7 : decode cJ9_floorMod_7cf53 7 = .ok (.ifCond .ge 11, 3) := by decide +kernel
theorem dJ9_floorMod_7cf53_10 : decode cJ9_floorMod_7cf53 10 = .ok (.iload_n 2, 1) := by decide +kernel
theorem dJ9_floorMod_7cf53_11 : decode cJ9_floorMod_7cf53 11 = .ok (.ifCond .eq 7, 3) := by decide +kernel
theorem dJ9_floorMod_7cf53_14 : decode cJ9_floorMod_7cf53 14 = .ok (.iload_n 2, 1) := by decide +kernel
theorem dJ9_floorMod_7cf53_15 : decode cJ9_floorMod_7cf53 15 = .ok (.iload_n 1, 1) := by decide +kernel
theorem dJ9_floorMod_7cf53_16 : decode cJ9_floorMod_7cf53 16 = .ok (.iadd, 1) := by decide +kernel
theorem dJ9_floorMod_7cf53_17 : decode cJ9_floorMod_7cf53 17 = .ok (.ireturn, 1) := by decide +kernel
theorem dJ9_floorMod_7cf53_18 : decode cJ9_floorMod_7cf53 18 = .ok (.iload_n 2, 1) := by decide +kernel
theorem dJ9_floorMod_7cf53_19 : decode cJ9_floorMod_7cf53 19 = .ok (.ireturn, 1) := by decide +kernel
theorem dJ9_abs_067f4_0 : decode cJ9_abs_067f4 0 = .ok (.lload_n 0, 1) := by decide +kernel
theorem dJ9_abs_067f4_1 : decode cJ9_abs_067f4 1 = .ok (.lconst 0, 1) := by decide +kernel
theorem dJ9_abs_067f4_2 : decode cJ9_abs_067f4 2 = .ok (.lcmp, 1) := by decide +kernel
theorem dJ9_abs_067f4_3 : decode cJ9_abs_067f4 3 = .ok (.ifCond .ge 8, 3) := by decide +kernel
theorem dJ9_abs_067f4_6 : decode cJ9_abs_067f4 6 = .ok (.lload_n 0, 1) := by decide +kernel
theorem dJ9_abs_067f4_7 : decode cJ9_abs_067f4 7 = .ok (.lneg, 1) := by decide +kernel
theorem dJ9_abs_067f4_8 : decode cJ9_abs_067f4 8 = .ok (.goto 4, 3) := by decide +kernel
theorem dJ9_abs_067f4_11 : decode cJ9_abs_067f4 11 = .ok (.lload_n 0, 1) := by decide +kernel
theorem dJ9_abs_067f4_12 : decode cJ9_abs_067f4 12 = .ok (.lreturn, 1) := by decide +kernel
theorem dJ9_max_7cf53_0 : decode cJ9_max_7cf53 0 = .ok (.iload_n 0, 1) := by decide +kernel
theorem dJ9_max_7cf53_1 : decode cJ9_max_7cf53 1 = .ok (.iload_n 1, 1) := by decide +kernel
theorem dJ9_max_7cf53_2 : decode cJ9_max_7cf53 2 = .ok (.if_icmp .lt 7, 3) := by decide +kernel
theorem dJ9_max_7cf53_5 : decode cJ9_max_7cf53 5 = .ok (.iload_n 0, 1) := by decide +kernel
theorem dJ9_max_7cf53_6 : decode cJ9_max_7cf53 6 = .ok (.goto 4, 3) := by decide +kernel
theorem dJ9_max_7cf53_9 : decode cJ9_max_7cf53 9 = .ok (.iload_n 1, 1) := by decide +kernel
theorem dJ9_max_7cf53_10 : decode cJ9_max_7cf53 10 = .ok (.ireturn, 1) := by decide +kernel
theorem dJ9_max_f86c9_0 : decode cJ9_max_f86c9 0 = .ok (.lload_n 0, 1) := by decide +kernel
theorem dJ9_max_f86c9_1 : decode cJ9_max_f86c9 1 = .ok (.lload_n 2, 1) := by decide +kernel
theorem dJ9_max_f86c9_2 : decode cJ9_max_f86c9 2 = .ok (.lcmp, 1) := by decide +kernel
theorem dJ9_max_f86c9_3 : decode cJ9_max_f86c9 3 = .ok (.ifCond .lt 7, 3) := by decide +kernel
theorem dJ9_max_f86c9_6 : decode cJ9_max_f86c9 6 = .ok (.lload_n 0, 1) := by decide +kernel
theorem dJ9_max_f86c9_7 : decode cJ9_max_f86c9 7 = .ok (.goto 4, 3) := by decide +kernel
theorem dJ9_max_f86c9_10 : decode cJ9_max_f86c9 10 = .ok (.lload_n 2, 1) := by decide +kernel
theorem dJ9_max_f86c9_11 : decode cJ9_max_f86c9 11 = .ok (.lreturn, 1) := by decide +kernel
theorem dJ9_min_7cf53_0 : decode cJ9_min_7cf53 0 = .ok (.iload_n 0, 1) := by decide +kernel
theorem dJ9_min_7cf53_1 : decode cJ9_min_7cf53 1 = .ok (.iload_n 1, 1) := by decide +kernel
theorem dJ9_min_7cf53_2 : decode cJ9_min_7cf53 2 = .ok (.if_icmp .gt 7, 3) := by decide +kernel
theorem dJ9_min_7cf53_5 : decode cJ9_min_7cf53 5 = .ok (.iload_n 0, 1) := by decide +kernel
theorem dJ9_min_7cf53_6 : decode cJ9_min_7cf53 6 = .ok (.goto 4, 3) := by decide +kernel
theorem dJ9_min_7cf53_9 : decode cJ9_min_7cf53 9 = .ok (.iload_n 1, 1) := by decide +kernel
theorem dJ9_min_7cf53_10 : decode cJ9_min_7cf53 10 = .ok (.ireturn, 1) := by decide +kernel
theorem dJ9_min_f86c9_0 : decode cJ9_min_f86c9 0 = .ok (.lload_n 0, 1) := by decide +kernel
theorem dJ9_min_f86c9_1 : decode cJ9_min_f86c9 1 = .ok (.lload_n 2, 1) := by decide +kernel
theorem dJ9_min_f86c9_2 : decode cJ9_min_f86c9 2 = .ok (.lcmp, 1) := by decide +kernel
theorem dJ9_min_f86c9_3 : decode cJ9_min_f86c9 3 = .ok (.ifCond .gt 7, 3) := by decide +kernel
theorem dJ9_min_f86c9_6 : decode cJ9_min_f86c9 6 = .ok (.lload_n 0, 1) := by decide +kernel
theorem dJ9_min_f86c9_7 : decode cJ9_min_f86c9 7 = .ok (.goto 4, 3) := by decide +kernel
theorem dJ9_min_f86c9_10 : decode cJ9_min_f86c9 10 = .ok (.lload_n 2, 1) := by decide +kernel
theorem dJ9_min_f86c9_11 : decode cJ9_min_f86c9 11 = .ok (.lreturn, 1) := by decide +kernel
/-! the log -/
def lrow (ρ : Nat → Int) (r : Int) (k : Nat) : Int := ρ (7 * (r.toNat % 40) + k)
def ffr (n f : Int) : Int := if f < (if 0 < n - 40 then n - 40 else 0) then (if 0 < n - 40 then n - 40 else 0) else f
def nfr (n f : Int) : Int := if 0 < n - ffr n f then n - ffr n f else 0
def sumL (ρ : Nat → Int) (k : Nat) : Nat → Int → Int → Int
  | 0, _, x => x
  | n + 1, r, x => sumL ρ k n (r + 1) (x + lrow ρ r k)
def minL (ρ : Nat → Int) : Nat → Int → Int → Int
  | 0, _, x => x
  | n + 1, r, x => minL ρ n (r + 1) (if lrow ρ r 0 < x then lrow ρ r 0 else x)
def maxL (ρ : Nat → Int) : Nat → Int → Int → Int
  | 0, _, x => x
  | n + 1, r, x => maxL ρ n (r + 1) (if lrow ρ r 0 < x then x else lrow ρ r 0)
abbrev inR (ρ : Nat → Int) : Prop := ∀ k : Nat, -1099511627776 ≤ ρ k ∧ ρ k ≤ 1099511627776
theorem sumL_bd {ρ : Nat → Int} (h : inR ρ) (k : Nat) : ∀ (n : Nat) (r x M : Int), -M ≤ x → x ≤ M → -(M + 1099511627776 * n) ≤ sumL ρ k n r x ∧ sumL ρ k n r x ≤ M + 1099511627776 * n := by
  intro n
  induction n with
  | zero => intro r x M h1 h2; simp only [sumL]; omega
  | succ n ih =>
    intro r x M h1 h2
    have e := h (7 * (r.toNat % 40) + k)
    have i := ih (r + 1) (x + lrow ρ r k) (M + 1099511627776) (by unfold lrow; omega) (by unfold lrow; omega)
    simp only [sumL]
    omega
theorem ffr_bd {n f : Int} (h : 0 ≤ n ∧ n ≤ 20000) : 0 ≤ ffr n f ∧ n - 40 ≤ ffr n f ∧ f ≤ ffr n f ∧ (f ≤ 2147483647 → ffr n f ≤ 2147483647) := by
  unfold ffr
  split <;> split <;> omega
set_option maxHeartbeats 4000000 in
set_option maxRecDepth 100000 in
theorem mJ9_floorMod_7cf53 (l : Launch) (E : gT) (x : Int) (y : Int) (hx : 0 ≤ x ∧ x ≤ 2147483647) (hy : 0 < y ∧ y ≤ 2147483647) : Cd l E yJ9_floorMod_7cf53 wsJ9_floorMod_7cf53 0 0 0 0 [.int (iI x), .int (iI y)] [] (some (.int (iI (x % y)))) [] := by
  refine Ct.mk (cc := cJ9_floorMod_7cf53) (maxL := 3) (ret := (some .int)) (by decide +kernel) rfl (Nat.le_of_ble_eq_true rfl) ?_
  intro p e s m below meth c A ls H locs S hr hlk hnm B hl
  have S : CallFix p m c cJ9_floorMod_7cf53 3 s #[.int (iI x), .int (iI y)] wsJ9_floorMod_7cf53 RJ9 := S
  have hl : lv_has ls 3 [(0, .int (iI x)), (1, .int (iI y))] := hl
  refine z_iload_n S (pc := 0) dJ9_floorMod_7cf53_0 rfl (lv_at hl 0 rfl) ?_
  refine z_iload_n S (pc := 1) dJ9_floorMod_7cf53_1 rfl (lv_at hl 1 rfl) ?_
  refine z_iremn S (pc := 2) (by omega) (by omega) dJ9_floorMod_7cf53_2 ?_
  refine lv_istore_n (lv' := [(2, .int (iI (x % y))), (0, .int (iI x)), (1, .int (iI y))]) S.1 S.2.1 (pc := 3) dJ9_floorMod_7cf53_3 rfl hl (by decide) rfl (fun ls hl => ?_)
  refine z_iload_n S (pc := 4) dJ9_floorMod_7cf53_4 rfl (lv_at hl 1 rfl) ?_
  refine z_iload_n S (pc := 5) dJ9_floorMod_7cf53_5 rfl (lv_at hl 2 rfl) ?_
  refine z_xorge S (pc := 6) (tgt := 18) (by omega) (by omega) dJ9_floorMod_7cf53_6 dJ9_floorMod_7cf53_7 rfl (fun c1 => ?_) (fun c1 => absurd c1 (by omega))
  refine z_iload_n S (pc := 18) dJ9_floorMod_7cf53_18 rfl (lv_at hl 0 rfl) ?_
  exact z_ireturn S hr hlk B () trivial rfl rfl (pc := 19) dJ9_floorMod_7cf53_19
theorem tdiv2 (x : Int) : (0 ≤ x ∧ x.tdiv 2 = x / 2) ∨ (x < 0 ∧ x.tdiv 2 = -((-x) / 2)) := by
  rcases Int.lt_or_le x 0 with h | h
  · refine Or.inr ⟨h, ?_⟩
    obtain ⟨y, rfl⟩ : ∃ y, x = -y := ⟨-x, by omega⟩
    rw [Int.neg_tdiv, Int.tdiv_eq_ediv_of_nonneg (by omega), Int.neg_neg]
  · exact Or.inl ⟨h, Int.tdiv_eq_ediv_of_nonneg h⟩
set_option maxHeartbeats 4000000 in
set_option maxRecDepth 100000 in
theorem mJ9_floorDiv_7cf53 (l : Launch) (E : gT) (x : Int) (hx : -1000000000 ≤ x ∧ x ≤ 1000000000) : Cd l E yJ9_floorDiv_7cf53 wsJ9_floorDiv_7cf53 0 0 0 0 [.int (iI x), .int (iI 2)] [] (some (.int (iI (x / 2)))) [] := by
  refine Ct.mk (cc := cJ9_floorDiv_7cf53) (maxL := 3) (ret := (some .int)) (by decide +kernel) rfl (Nat.le_of_ble_eq_true rfl) ?_
  intro p e s m below meth c A ls H locs S hr hlk hnm B hl
  have S : CallFix p m c cJ9_floorDiv_7cf53 3 s #[.int (iI x), .int (iI 2)] wsJ9_floorDiv_7cf53 RJ9 := S
  have hl : lv_has ls 3 [(0, .int (iI x)), (1, .int (iI 2))] := hl
  have q := tdiv2 x
  refine z_iload_n S (pc := 0) dJ9_floorDiv_7cf53_0 rfl (lv_at hl 0 rfl) ?_
  refine z_iload_n S (pc := 1) dJ9_floorDiv_7cf53_1 rfl (lv_at hl 1 rfl) ?_
  refine z_idiv S (pc := 2) (by omega) (by omega) (by omega) (by omega) dJ9_floorDiv_7cf53_2 ?_
  refine lv_istore_n (lv' := [(2, .int (iI (x.tdiv 2))), (0, .int (iI x)), (1, .int (iI 2))]) S.1 S.2.1 (pc := 3) dJ9_floorDiv_7cf53_3 rfl hl (by decide) rfl (fun ls hl => ?_)
  refine z_iload_n S (pc := 4) dJ9_floorDiv_7cf53_4 rfl (lv_at hl 1 rfl) ?_
  refine z_iload_n S (pc := 5) dJ9_floorDiv_7cf53_5 rfl (lv_at hl 2 rfl) ?_
  refine z_xorge S (pc := 6) (tgt := 21) (by omega) (by omega) dJ9_floorDiv_7cf53_6 dJ9_floorDiv_7cf53_7 rfl (fun c1 => ?_) (fun c1 => ?_)
  · refine z_iload_n S (pc := 21) dJ9_floorDiv_7cf53_21 rfl (lv_at hl 0 rfl) ?_
    exact z_ireturn S hr hlk B () trivial (by rw [show x / 2 = x.tdiv 2 from by omega]) rfl (pc := 22) dJ9_floorDiv_7cf53_22
  · refine z_iload_n S (pc := 10) dJ9_floorDiv_7cf53_10 rfl (lv_at hl 0 rfl) ?_
    refine z_iload_n S (pc := 11) dJ9_floorDiv_7cf53_11 rfl (lv_at hl 2 rfl) ?_
    refine z_imul S (pc := 12) dJ9_floorDiv_7cf53_12 ?_
    refine z_iload_n S (pc := 13) dJ9_floorDiv_7cf53_13 rfl (lv_at hl 1 rfl) ?_
    refine z_icmp_eq S (pc := 14) (tgt := 21) (by omega) (by omega) dJ9_floorDiv_7cf53_14 rfl (fun c2 => ?_) (fun c2 => ?_)
    · refine z_iload_n S (pc := 21) dJ9_floorDiv_7cf53_21 rfl (lv_at hl 0 rfl) ?_
      exact z_ireturn S hr hlk B () trivial (by rw [show x / 2 = x.tdiv 2 from by omega]) rfl (pc := 22) dJ9_floorDiv_7cf53_22
    · refine z_iload_n S (pc := 17) dJ9_floorDiv_7cf53_17 rfl (lv_at hl 0 rfl) ?_
      refine z_iconst S (pc := 18) dJ9_floorDiv_7cf53_18 ?_
      refine z_isub S (pc := 19) dJ9_floorDiv_7cf53_19 ?_
      exact z_ireturn S hr hlk B () trivial (by rw [show x / 2 = (x.tdiv 2) - 1 from by omega]) rfl (pc := 20) dJ9_floorDiv_7cf53_20
set_option maxHeartbeats 4000000 in
set_option maxRecDepth 100000 in
theorem mX1_placeOf (l : Launch) (E : gT) (r : Int) (k : Nat) (hr0 : 0 ≤ r ∧ r ≤ 2147483647) (hk : k ≤ 6) : Cd l E yX1_placeOf wsX1_placeOf 1 22 0 0 [.int (iI r), .int (iI k)] [] (some (.int (iI (r % 40 * 7 + k)))) [] := by
  refine Ct.mk (cc := cX1_placeOf) (maxL := 2) (ret := (some .int)) (plainFor_of_name (by decide)) rfl (Nat.le_of_ble_eq_true rfl) ?_
  intro p e s m below meth c A ls H locs S hr hlk hnm B hl
  have S : CallFix p m c cX1_placeOf 2 s #[.int (iI r), .int (iI k)] wsX1_placeOf RX1 := S
  have hl : lv_has ls 2 [(0, .int (iI r)), (1, .int (iI k))] := hl
  refine z_iload_n S (pc := 0) dX1_placeOf_0 rfl (lv_at hl 0 rfl) ?_
  refine z_bipush S (pc := 1) dX1_placeOf_1 rfl ?_
  refine z_callS S (pc := 3) B (wr := []) (wn := fun _ => []) (st1 := fun _ => [.int (iI (r % 40))]) (As := [.int (iI r), .int (iI 40)]) (mJ9_floorMod_7cf53 l E r 40 (show 0 ≤ r ∧ r ≤ 2147483647 from by omega) (show 0 < 40 ∧ 40 ≤ 2147483647 from by omega)) gX1_placeOf_J9_floorMod_7cf53 2 rfl (by decide +kernel) ⟨Nat.le_of_ble_eq_true rfl, Nat.le_of_ble_eq_true rfl, Nat.le_of_ble_eq_true rfl, Nat.le_of_ble_eq_true rfl⟩ [] [] [] rfl rfl ⟨rfl, rfl, rfl, by decide⟩ (fun _ => rfl) rfl (fun _ => rfl) hl.1 (Nat.le_of_ble_eq_true rfl) rfl dX1_placeOf_3 (fun _ _ H locs B => ?_)
  refine z_bipush S (pc := 6) dX1_placeOf_6 rfl ?_
  refine z_imul S (pc := 8) dX1_placeOf_8 ?_
  refine z_iload_n S (pc := 9) dX1_placeOf_9 rfl (lv_at hl 1 rfl) ?_
  refine z_iadd S (pc := 10) dX1_placeOf_10 ?_
  exact z_ireturn S hr hlk B () trivial rfl rfl (pc := 11) dX1_placeOf_11
theorem iX1_note_X1 : ∀ w ∈ wsX10, w ∈ wsX1_note := by decide +kernel
set_option maxHeartbeats 4000000 in
set_option maxRecDepth 100000 in
theorem mX1_note (l : Launch) (E : gT) (a : Nat) (b : Nat) (σ : Nat → Int) (ρ : Nat → Int) (k : Nat) (x : Int) (h14 : 0 ≤ σ 14 ∧ σ 14 ≤ 20000) (hk : k ≤ 6) : Cd l E yX1_note wsX1_note 2 43 0 0 [.ref a, .int (iI k), .long (iL x)] [cLog a b σ, cRow E b ρ] none [cLog a b σ, cRow E b (up ρ (7 * ((σ 14).toNat % 40) + k) x)] := by
  refine Ct.mk (cc := cX1_note) (maxL := 5) (ret := none) (plainFor_of_name (by decide)) rfl (Nat.le_of_ble_eq_true rfl) ?_
  intro p e s m below meth c A ls H locs S hr hlk hnm B hl
  have S : CallFix p m c cX1_note 5 s #[.ref a, .int (iI k), .long (iL x)] wsX1_note RX1 := S
  have hl : lv_has ls 5 [(0, .ref a), (1, .int (iI k)), (2, .long (iL x))] := hl
  refine z_aload_n S (pc := 0) dX1_note_0 rfl (lv_at hl 0 rfl) ?_
  refine z_get S (pc := 1) B iX1_note_X1 0 rfl rfl 1 (by decide) rfl rfl (by decide +kernel) dX1_note_1 ?_
  refine z_iload_n S (pc := 4) dX1_note_4 rfl (lv_at hl 1 rfl) ?_
  refine z_callS S (pc := 5) B (wr := [cLog a b σ, cRow E b ρ]) (wn := fun _ => [cLog a b σ, cRow E b ρ]) (st1 := fun _ => [.int (iI ((σ 14) % 40 * 7 + k))]) (As := [.int (iI (σ 14)), .int (iI k)]) (mX1_placeOf l E (σ 14) k (show 0 ≤ (σ 14) ∧ (σ 14) ≤ 2147483647 from by omega) (show k ≤ 6 from by omega)) gX1_note_X1_placeOf 2 rfl (by decide +kernel) ⟨Nat.le_of_ble_eq_true rfl, Nat.le_of_ble_eq_true rfl, Nat.le_of_ble_eq_true rfl, Nat.le_of_ble_eq_true rfl⟩ [] [0, 1] [0, 1] rfl rfl ⟨rfl, rfl, rfl, by decide⟩ (fun _ => rfl) rfl (fun _ => rfl) hl.1 (Nat.le_of_ble_eq_true rfl) rfl dX1_note_5 (fun _ _ H locs B => ?_)
  refine lv_istore (lv' := [(4, .int (iI ((σ 14) % 40 * 7 + k))), (0, .ref a), (1, .int (iI k)), (2, .long (iL x))]) S.1 S.2.1 (pc := 8) dX1_note_8 hl (by decide) rfl (fun ls hl => ?_)
  refine z_iload S (pc := 10) dX1_note_10 (lv_at hl 0 rfl) ?_
  refine z_if_lt S (pc := 12) (tgt := 33) (by omega) dX1_note_12 rfl (fun c1 => absurd c1 (by omega)) (fun c1 => ?_)
  refine z_iload S (pc := 15) dX1_note_15 (lv_at hl 0 rfl) ?_
  refine z_aload_n S (pc := 17) dX1_note_17 rfl (lv_at hl 1 rfl) ?_
  refine z_get S (pc := 18) B iX1_note_X1 0 rfl rfl 0 (by decide) rfl rfl (by decide +kernel) dX1_note_18 ?_
  refine z_alen S (pc := 21) B 1 2 rfl rfl (n := 280) rfl dX1_note_21 ?_
  refine z_icmp_ge S (pc := 22) (tgt := 33) (by omega) (by omega) dX1_note_22 rfl (fun c2 => absurd c2 (by omega)) (fun c2 => ?_)
  refine z_aload_n S (pc := 25) dX1_note_25 rfl (lv_at hl 1 rfl) ?_
  refine z_get S (pc := 26) B iX1_note_X1 0 rfl rfl 0 (by decide) rfl rfl (by decide +kernel) dX1_note_26 ?_
  refine z_iload S (pc := 29) dX1_note_29 (lv_at hl 0 rfl) ?_
  refine z_lload_n S (pc := 31) dX1_note_31 rfl (lv_at hl 3 rfl) ?_
  refine z_last S (pc := 32) B 1 2 rfl rfl (k := 7 * ((σ 14).toNat % 40) + k) (by omega) (by omega) (by decide) dX1_note_32 (wn := [cLog a b σ, cRow E b (up ρ (7 * ((σ 14).toNat % 40) + k) x)]) (by rw [lat_up]; rfl) (fun H locs B => ?_)
  exact z_return S hr hlk B () trivial rfl rfl (pc := 33) dX1_note_33
theorem iX1_add_X0 : ∀ w ∈ wsX00, w ∈ wsX1_add := by decide +kernel
theorem iX1_add_X1 : ∀ w ∈ wsX10, w ∈ wsX1_add := by decide +kernel
theorem iX1_add_X2 : ∀ w ∈ wsX20, w ∈ wsX1_add := by decide +kernel
set_option maxHeartbeats 4000000 in
set_option maxRecDepth 100000 in
theorem mX1_add (l : Launch) (E : gT) (a : Nat) (b : Nat) (σ : Nat → Int) (ρ : Nat → Int) (v : Int) (a2 : Nat) (b2 : Nat) (f2 : Nat) (g2 : Nat) (σ2 : Nat → Int) (ov2 : Int) (rr2 : Int) (rb2 : Int) (rn2 : Int) (h14 : 0 ≤ σ 14 ∧ σ 14 ≤ 20000) (hi : inI rr2 ∧ inI rb2 ∧ inI (σ2 11) ∧ inI (σ2 12)) (ho : 0 ≤ ov2 ∧ ov2 ≤ 1) : Cd l E yX1_add wsX1_add 3 67 0 0 [.ref a, .long (iL v), .ref a2] [cLog a b σ, cRow E b ρ, cMet a2 b2 f2 g2 σ2 rr2 rb2 rn2, cCon g2 σ2 ov2] none [(a, .inr (1, [.ref b, .int (iI (σ 14 + 1))])), cRow E b (up (up (up (up (up (up (up ρ (7 * ((σ 14).toNat % 40) + 0) v) (7 * ((σ 14).toNat % 40) + 1) rn2) (7 * ((σ 14).toNat % 40) + 2) rr2) (7 * ((σ 14).toNat % 40) + 3) ov2) (7 * ((σ 14).toNat % 40) + 4) rb2) (7 * ((σ 14).toNat % 40) + 5) (σ2 11)) (7 * ((σ 14).toNat % 40) + 6) (σ2 12)), cMet a2 b2 f2 g2 σ2 rr2 rb2 rn2, cCon g2 σ2 ov2] := by
  refine Ct.mk (cc := cX1_add) (maxL := 4) (ret := none) (plainFor_of_name (by decide)) rfl (Nat.le_of_ble_eq_true rfl) ?_
  intro p e s m below meth c A ls H locs S hr hlk hnm B hl
  have S : CallFix p m c cX1_add 4 s #[.ref a, .long (iL v), .ref a2] wsX1_add RX1 := S
  have hl : lv_has ls 4 [(0, .ref a), (1, .long (iL v)), (3, .ref a2)] := hl
  refine z_aload_n S (pc := 0) dX1_add_0 rfl (lv_at hl 0 rfl) ?_
  refine z_iconst S (pc := 1) dX1_add_1 ?_
  refine z_lload_n S (pc := 2) dX1_add_2 rfl (lv_at hl 1 rfl) ?_
  refine z_callV S (pc := 3) B (wr := [cMet a2 b2 f2 g2 σ2 rr2 rb2 rn2, cCon g2 σ2 ov2]) (wn := fun _ => [cLog a b σ, cRow E b (up ρ (7 * ((σ 14).toNat % 40) + 0) v), cMet a2 b2 f2 g2 σ2 rr2 rb2 rn2, cCon g2 σ2 ov2]) (st1 := fun _ => []) (As := [.int (iI 0), .long (iL v)]) (mX1_note l E a b σ ρ 0 v (show 0 ≤ σ 14 ∧ σ 14 ≤ 20000 from by omega) (show 0 ≤ 6 from by omega)) gX1_add_X1_note 2 rfl (by decide +kernel) ⟨Nat.le_of_ble_eq_true rfl, Nat.le_of_ble_eq_true rfl, Nat.le_of_ble_eq_true rfl, Nat.le_of_ble_eq_true rfl⟩ 0 rfl (q := (RX1, TX1, 2)) rfl rfl [0, 1] [2, 3] [2, 3, 0, 1] rfl rfl ⟨rfl, rfl, rfl, by decide⟩ (fun _ => rfl) rfl (fun _ => rfl) hl.1 (Nat.le_of_ble_eq_true rfl) rfl dX1_add_3 (fun _ _ H locs B => ?_)
  refine z_aload_n S (pc := 6) dX1_add_6 rfl (lv_at hl 0 rfl) ?_
  refine z_iconst S (pc := 7) dX1_add_7 ?_
  refine z_aload_n S (pc := 8) dX1_add_8 rfl (lv_at hl 2 rfl) ?_
  refine z_get S (pc := 9) B iX1_add_X2 2 rfl rfl 8 (by decide) rfl rfl (by decide +kernel) dX1_add_9 ?_
  refine z_callV S (pc := 12) B (wr := [cMet a2 b2 f2 g2 σ2 rr2 rb2 rn2, cCon g2 σ2 ov2]) (wn := fun _ => [cLog a b σ, cRow E b (up (up ρ (7 * ((σ 14).toNat % 40) + 0) v) (7 * ((σ 14).toNat % 40) + 1) rn2), cMet a2 b2 f2 g2 σ2 rr2 rb2 rn2, cCon g2 σ2 ov2]) (st1 := fun _ => []) (As := [.int (iI 1), .long (iL rn2)]) (mX1_note l E a b σ (up ρ (7 * ((σ 14).toNat % 40) + 0) v) 1 rn2 (show 0 ≤ σ 14 ∧ σ 14 ≤ 20000 from by omega) (show 1 ≤ 6 from by omega)) gX1_add_X1_note 2 rfl (by decide +kernel) ⟨Nat.le_of_ble_eq_true rfl, Nat.le_of_ble_eq_true rfl, Nat.le_of_ble_eq_true rfl, Nat.le_of_ble_eq_true rfl⟩ 0 rfl (q := (RX1, TX1, 2)) rfl rfl [0, 1] [2, 3] [2, 3, 0, 1] rfl rfl ⟨rfl, rfl, rfl, by decide⟩ (fun _ => rfl) rfl (fun _ => rfl) hl.1 (Nat.le_of_ble_eq_true rfl) rfl dX1_add_12 (fun _ _ H locs B => ?_)
  refine z_aload_n S (pc := 15) dX1_add_15 rfl (lv_at hl 0 rfl) ?_
  refine z_iconst S (pc := 16) dX1_add_16 ?_
  refine z_aload_n S (pc := 17) dX1_add_17 rfl (lv_at hl 2 rfl) ?_
  refine z_get S (pc := 18) B iX1_add_X2 2 rfl rfl 6 (by decide) rfl rfl (by decide +kernel) dX1_add_18 ?_
  refine z_i2l S (pc := 21) (by omega) dX1_add_21 ?_
  refine z_callV S (pc := 22) B (wr := [cMet a2 b2 f2 g2 σ2 rr2 rb2 rn2, cCon g2 σ2 ov2]) (wn := fun _ => [cLog a b σ, cRow E b (up (up (up ρ (7 * ((σ 14).toNat % 40) + 0) v) (7 * ((σ 14).toNat % 40) + 1) rn2) (7 * ((σ 14).toNat % 40) + 2) rr2), cMet a2 b2 f2 g2 σ2 rr2 rb2 rn2, cCon g2 σ2 ov2]) (st1 := fun _ => []) (As := [.int (iI 2), .long (iL rr2)]) (mX1_note l E a b σ (up (up ρ (7 * ((σ 14).toNat % 40) + 0) v) (7 * ((σ 14).toNat % 40) + 1) rn2) 2 rr2 (show 0 ≤ σ 14 ∧ σ 14 ≤ 20000 from by omega) (show 2 ≤ 6 from by omega)) gX1_add_X1_note 2 rfl (by decide +kernel) ⟨Nat.le_of_ble_eq_true rfl, Nat.le_of_ble_eq_true rfl, Nat.le_of_ble_eq_true rfl, Nat.le_of_ble_eq_true rfl⟩ 0 rfl (q := (RX1, TX1, 2)) rfl rfl [0, 1] [2, 3] [2, 3, 0, 1] rfl rfl ⟨rfl, rfl, rfl, by decide⟩ (fun _ => rfl) rfl (fun _ => rfl) hl.1 (Nat.le_of_ble_eq_true rfl) rfl dX1_add_22 (fun _ _ H locs B => ?_)
  refine z_aload_n S (pc := 25) dX1_add_25 rfl (lv_at hl 0 rfl) ?_
  refine z_iconst S (pc := 26) dX1_add_26 ?_
  refine z_aload_n S (pc := 27) dX1_add_27 rfl (lv_at hl 2 rfl) ?_
  refine z_get S (pc := 28) B iX1_add_X2 2 rfl rfl 2 (by decide) rfl rfl (by decide +kernel) dX1_add_28 ?_
  refine z_get S (pc := 31) B iX1_add_X0 3 rfl rfl 1 (by decide) rfl rfl (by decide +kernel) dX1_add_31 ?_
  refine z_if_eq S (pc := 34) (tgt := 41) (by omega) dX1_add_34 rfl (fun c1 => ?_) (fun c1 => ?_)
  · refine z_lconst S (pc := 41) (x := 0) dX1_add_41 rfl ?_
    rw [show Value.long (iL 0) = Value.long (iL ov2) from by rw [show ov2 = 0 from by omega]]
    refine z_callV S (pc := 42) B (wr := [cMet a2 b2 f2 g2 σ2 rr2 rb2 rn2, cCon g2 σ2 ov2]) (wn := fun _ => [cLog a b σ, cRow E b (up (up (up (up ρ (7 * ((σ 14).toNat % 40) + 0) v) (7 * ((σ 14).toNat % 40) + 1) rn2) (7 * ((σ 14).toNat % 40) + 2) rr2) (7 * ((σ 14).toNat % 40) + 3) ov2), cMet a2 b2 f2 g2 σ2 rr2 rb2 rn2, cCon g2 σ2 ov2]) (st1 := fun _ => []) (As := [.int (iI 3), .long (iL ov2)]) (mX1_note l E a b σ (up (up (up ρ (7 * ((σ 14).toNat % 40) + 0) v) (7 * ((σ 14).toNat % 40) + 1) rn2) (7 * ((σ 14).toNat % 40) + 2) rr2) 3 ov2 (show 0 ≤ σ 14 ∧ σ 14 ≤ 20000 from by omega) (show 3 ≤ 6 from by omega)) gX1_add_X1_note 2 rfl (by decide +kernel) ⟨Nat.le_of_ble_eq_true rfl, Nat.le_of_ble_eq_true rfl, Nat.le_of_ble_eq_true rfl, Nat.le_of_ble_eq_true rfl⟩ 0 rfl (q := (RX1, TX1, 2)) rfl rfl [0, 1] [2, 3] [2, 3, 0, 1] rfl rfl ⟨rfl, rfl, rfl, by decide⟩ (fun _ => rfl) rfl (fun _ => rfl) hl.1 (Nat.le_of_ble_eq_true rfl) rfl dX1_add_42 (fun _ _ H locs B => ?_)
    refine z_aload_n S (pc := 45) dX1_add_45 rfl (lv_at hl 0 rfl) ?_
    refine z_iconst S (pc := 46) dX1_add_46 ?_
    refine z_aload_n S (pc := 47) dX1_add_47 rfl (lv_at hl 2 rfl) ?_
    refine z_get S (pc := 48) B iX1_add_X2 2 rfl rfl 7 (by decide) rfl rfl (by decide +kernel) dX1_add_48 ?_
    refine z_i2l S (pc := 51) (by omega) dX1_add_51 ?_
    refine z_callV S (pc := 52) B (wr := [cMet a2 b2 f2 g2 σ2 rr2 rb2 rn2, cCon g2 σ2 ov2]) (wn := fun _ => [cLog a b σ, cRow E b (up (up (up (up (up ρ (7 * ((σ 14).toNat % 40) + 0) v) (7 * ((σ 14).toNat % 40) + 1) rn2) (7 * ((σ 14).toNat % 40) + 2) rr2) (7 * ((σ 14).toNat % 40) + 3) ov2) (7 * ((σ 14).toNat % 40) + 4) rb2), cMet a2 b2 f2 g2 σ2 rr2 rb2 rn2, cCon g2 σ2 ov2]) (st1 := fun _ => []) (As := [.int (iI 4), .long (iL rb2)]) (mX1_note l E a b σ (up (up (up (up ρ (7 * ((σ 14).toNat % 40) + 0) v) (7 * ((σ 14).toNat % 40) + 1) rn2) (7 * ((σ 14).toNat % 40) + 2) rr2) (7 * ((σ 14).toNat % 40) + 3) ov2) 4 rb2 (show 0 ≤ σ 14 ∧ σ 14 ≤ 20000 from by omega) (show 4 ≤ 6 from by omega)) gX1_add_X1_note 2 rfl (by decide +kernel) ⟨Nat.le_of_ble_eq_true rfl, Nat.le_of_ble_eq_true rfl, Nat.le_of_ble_eq_true rfl, Nat.le_of_ble_eq_true rfl⟩ 0 rfl (q := (RX1, TX1, 2)) rfl rfl [0, 1] [2, 3] [2, 3, 0, 1] rfl rfl ⟨rfl, rfl, rfl, by decide⟩ (fun _ => rfl) rfl (fun _ => rfl) hl.1 (Nat.le_of_ble_eq_true rfl) rfl dX1_add_52 (fun _ _ H locs B => ?_)
    refine z_aload_n S (pc := 55) dX1_add_55 rfl (lv_at hl 0 rfl) ?_
    refine z_iconst S (pc := 56) dX1_add_56 ?_
    refine z_aload_n S (pc := 57) dX1_add_57 rfl (lv_at hl 2 rfl) ?_
    refine z_get S (pc := 58) B iX1_add_X2 2 rfl rfl 3 (by decide) rfl rfl (by decide +kernel) dX1_add_58 ?_
    refine z_i2l S (pc := 61) (by omega) dX1_add_61 ?_
    refine z_callV S (pc := 62) B (wr := [cMet a2 b2 f2 g2 σ2 rr2 rb2 rn2, cCon g2 σ2 ov2]) (wn := fun _ => [cLog a b σ, cRow E b (up (up (up (up (up (up ρ (7 * ((σ 14).toNat % 40) + 0) v) (7 * ((σ 14).toNat % 40) + 1) rn2) (7 * ((σ 14).toNat % 40) + 2) rr2) (7 * ((σ 14).toNat % 40) + 3) ov2) (7 * ((σ 14).toNat % 40) + 4) rb2) (7 * ((σ 14).toNat % 40) + 5) (σ2 11)), cMet a2 b2 f2 g2 σ2 rr2 rb2 rn2, cCon g2 σ2 ov2]) (st1 := fun _ => []) (As := [.int (iI 5), .long (iL (σ2 11))]) (mX1_note l E a b σ (up (up (up (up (up ρ (7 * ((σ 14).toNat % 40) + 0) v) (7 * ((σ 14).toNat % 40) + 1) rn2) (7 * ((σ 14).toNat % 40) + 2) rr2) (7 * ((σ 14).toNat % 40) + 3) ov2) (7 * ((σ 14).toNat % 40) + 4) rb2) 5 (σ2 11) (show 0 ≤ σ 14 ∧ σ 14 ≤ 20000 from by omega) (show 5 ≤ 6 from by omega)) gX1_add_X1_note 2 rfl (by decide +kernel) ⟨Nat.le_of_ble_eq_true rfl, Nat.le_of_ble_eq_true rfl, Nat.le_of_ble_eq_true rfl, Nat.le_of_ble_eq_true rfl⟩ 0 rfl (q := (RX1, TX1, 2)) rfl rfl [0, 1] [2, 3] [2, 3, 0, 1] rfl rfl ⟨rfl, rfl, rfl, by decide⟩ (fun _ => rfl) rfl (fun _ => rfl) hl.1 (Nat.le_of_ble_eq_true rfl) rfl dX1_add_62 (fun _ _ H locs B => ?_)
    refine z_aload_n S (pc := 65) dX1_add_65 rfl (lv_at hl 0 rfl) ?_
    refine z_bipush S (pc := 66) dX1_add_66 rfl ?_
    refine z_aload_n S (pc := 68) dX1_add_68 rfl (lv_at hl 2 rfl) ?_
    refine z_get S (pc := 69) B iX1_add_X2 2 rfl rfl 4 (by decide) rfl rfl (by decide +kernel) dX1_add_69 ?_
    refine z_i2l S (pc := 72) (by omega) dX1_add_72 ?_
    refine z_callV S (pc := 73) B (wr := [cMet a2 b2 f2 g2 σ2 rr2 rb2 rn2, cCon g2 σ2 ov2]) (wn := fun _ => [cLog a b σ, cRow E b (up (up (up (up (up (up (up ρ (7 * ((σ 14).toNat % 40) + 0) v) (7 * ((σ 14).toNat % 40) + 1) rn2) (7 * ((σ 14).toNat % 40) + 2) rr2) (7 * ((σ 14).toNat % 40) + 3) ov2) (7 * ((σ 14).toNat % 40) + 4) rb2) (7 * ((σ 14).toNat % 40) + 5) (σ2 11)) (7 * ((σ 14).toNat % 40) + 6) (σ2 12)), cMet a2 b2 f2 g2 σ2 rr2 rb2 rn2, cCon g2 σ2 ov2]) (st1 := fun _ => []) (As := [.int (iI 6), .long (iL (σ2 12))]) (mX1_note l E a b σ (up (up (up (up (up (up ρ (7 * ((σ 14).toNat % 40) + 0) v) (7 * ((σ 14).toNat % 40) + 1) rn2) (7 * ((σ 14).toNat % 40) + 2) rr2) (7 * ((σ 14).toNat % 40) + 3) ov2) (7 * ((σ 14).toNat % 40) + 4) rb2) (7 * ((σ 14).toNat % 40) + 5) (σ2 11)) 6 (σ2 12) (show 0 ≤ σ 14 ∧ σ 14 ≤ 20000 from by omega) (show 6 ≤ 6 from by omega)) gX1_add_X1_note 2 rfl (by decide +kernel) ⟨Nat.le_of_ble_eq_true rfl, Nat.le_of_ble_eq_true rfl, Nat.le_of_ble_eq_true rfl, Nat.le_of_ble_eq_true rfl⟩ 0 rfl (q := (RX1, TX1, 2)) rfl rfl [0, 1] [2, 3] [2, 3, 0, 1] rfl rfl ⟨rfl, rfl, rfl, by decide⟩ (fun _ => rfl) rfl (fun _ => rfl) hl.1 (Nat.le_of_ble_eq_true rfl) rfl dX1_add_73 (fun _ _ H locs B => ?_)
    refine z_aload_n S (pc := 76) dX1_add_76 rfl (lv_at hl 0 rfl) ?_
    refine lv_dup S.1 S.2.1 (pc := 77) dX1_add_77 rfl ?_
    refine z_get S (pc := 78) B iX1_add_X1 0 rfl rfl 1 (by decide) rfl rfl (by decide +kernel) dX1_add_78 ?_
    refine z_iconst S (pc := 81) dX1_add_81 ?_
    refine z_iadd S (pc := 82) dX1_add_82 ?_
    refine z_put S (pc := 83) B iX1_add_X1 tyX1_ok nmX1 0 rfl rfl 1 (by decide) rfl (by decide +kernel) (ty := .int) (by decide +kernel) rfl rfl (Nat.le_of_ble_eq_true rfl) dX1_add_83 (wn := [(a, .inr (1, [.ref b, .int (iI ((σ 14) + 1))])), cRow E b (up (up (up (up (up (up (up ρ (7 * ((σ 14).toNat % 40) + 0) v) (7 * ((σ 14).toNat % 40) + 1) rn2) (7 * ((σ 14).toNat % 40) + 2) rr2) (7 * ((σ 14).toNat % 40) + 3) ov2) (7 * ((σ 14).toNat % 40) + 4) rb2) (7 * ((σ 14).toNat % 40) + 5) (σ2 11)) (7 * ((σ 14).toNat % 40) + 6) (σ2 12)), cMet a2 b2 f2 g2 σ2 rr2 rb2 rn2, cCon g2 σ2 ov2]) rfl (fun H locs B => ?_)
    exact z_return S hr hlk B () trivial rfl rfl (pc := 86) dX1_add_86
  · refine z_lconst S (pc := 37) (x := 1) dX1_add_37 rfl ?_
    refine lv_goto S.1 S.2.1 (pc := 38) (tgt := 42) dX1_add_38 rfl ?_
    rw [show Value.long (iL 1) = Value.long (iL ov2) from by rw [show ov2 = 1 from by omega]]
    refine z_callV S (pc := 42) B (wr := [cMet a2 b2 f2 g2 σ2 rr2 rb2 rn2, cCon g2 σ2 ov2]) (wn := fun _ => [cLog a b σ, cRow E b (up (up (up (up ρ (7 * ((σ 14).toNat % 40) + 0) v) (7 * ((σ 14).toNat % 40) + 1) rn2) (7 * ((σ 14).toNat % 40) + 2) rr2) (7 * ((σ 14).toNat % 40) + 3) ov2), cMet a2 b2 f2 g2 σ2 rr2 rb2 rn2, cCon g2 σ2 ov2]) (st1 := fun _ => []) (As := [.int (iI 3), .long (iL ov2)]) (mX1_note l E a b σ (up (up (up ρ (7 * ((σ 14).toNat % 40) + 0) v) (7 * ((σ 14).toNat % 40) + 1) rn2) (7 * ((σ 14).toNat % 40) + 2) rr2) 3 ov2 (show 0 ≤ σ 14 ∧ σ 14 ≤ 20000 from by omega) (show 3 ≤ 6 from by omega)) gX1_add_X1_note 2 rfl (by decide +kernel) ⟨Nat.le_of_ble_eq_true rfl, Nat.le_of_ble_eq_true rfl, Nat.le_of_ble_eq_true rfl, Nat.le_of_ble_eq_true rfl⟩ 0 rfl (q := (RX1, TX1, 2)) rfl rfl [0, 1] [2, 3] [2, 3, 0, 1] rfl rfl ⟨rfl, rfl, rfl, by decide⟩ (fun _ => rfl) rfl (fun _ => rfl) hl.1 (Nat.le_of_ble_eq_true rfl) rfl dX1_add_42 (fun _ _ H locs B => ?_)
    refine z_aload_n S (pc := 45) dX1_add_45 rfl (lv_at hl 0 rfl) ?_
    refine z_iconst S (pc := 46) dX1_add_46 ?_
    refine z_aload_n S (pc := 47) dX1_add_47 rfl (lv_at hl 2 rfl) ?_
    refine z_get S (pc := 48) B iX1_add_X2 2 rfl rfl 7 (by decide) rfl rfl (by decide +kernel) dX1_add_48 ?_
    refine z_i2l S (pc := 51) (by omega) dX1_add_51 ?_
    refine z_callV S (pc := 52) B (wr := [cMet a2 b2 f2 g2 σ2 rr2 rb2 rn2, cCon g2 σ2 ov2]) (wn := fun _ => [cLog a b σ, cRow E b (up (up (up (up (up ρ (7 * ((σ 14).toNat % 40) + 0) v) (7 * ((σ 14).toNat % 40) + 1) rn2) (7 * ((σ 14).toNat % 40) + 2) rr2) (7 * ((σ 14).toNat % 40) + 3) ov2) (7 * ((σ 14).toNat % 40) + 4) rb2), cMet a2 b2 f2 g2 σ2 rr2 rb2 rn2, cCon g2 σ2 ov2]) (st1 := fun _ => []) (As := [.int (iI 4), .long (iL rb2)]) (mX1_note l E a b σ (up (up (up (up ρ (7 * ((σ 14).toNat % 40) + 0) v) (7 * ((σ 14).toNat % 40) + 1) rn2) (7 * ((σ 14).toNat % 40) + 2) rr2) (7 * ((σ 14).toNat % 40) + 3) ov2) 4 rb2 (show 0 ≤ σ 14 ∧ σ 14 ≤ 20000 from by omega) (show 4 ≤ 6 from by omega)) gX1_add_X1_note 2 rfl (by decide +kernel) ⟨Nat.le_of_ble_eq_true rfl, Nat.le_of_ble_eq_true rfl, Nat.le_of_ble_eq_true rfl, Nat.le_of_ble_eq_true rfl⟩ 0 rfl (q := (RX1, TX1, 2)) rfl rfl [0, 1] [2, 3] [2, 3, 0, 1] rfl rfl ⟨rfl, rfl, rfl, by decide⟩ (fun _ => rfl) rfl (fun _ => rfl) hl.1 (Nat.le_of_ble_eq_true rfl) rfl dX1_add_52 (fun _ _ H locs B => ?_)
    refine z_aload_n S (pc := 55) dX1_add_55 rfl (lv_at hl 0 rfl) ?_
    refine z_iconst S (pc := 56) dX1_add_56 ?_
    refine z_aload_n S (pc := 57) dX1_add_57 rfl (lv_at hl 2 rfl) ?_
    refine z_get S (pc := 58) B iX1_add_X2 2 rfl rfl 3 (by decide) rfl rfl (by decide +kernel) dX1_add_58 ?_
    refine z_i2l S (pc := 61) (by omega) dX1_add_61 ?_
    refine z_callV S (pc := 62) B (wr := [cMet a2 b2 f2 g2 σ2 rr2 rb2 rn2, cCon g2 σ2 ov2]) (wn := fun _ => [cLog a b σ, cRow E b (up (up (up (up (up (up ρ (7 * ((σ 14).toNat % 40) + 0) v) (7 * ((σ 14).toNat % 40) + 1) rn2) (7 * ((σ 14).toNat % 40) + 2) rr2) (7 * ((σ 14).toNat % 40) + 3) ov2) (7 * ((σ 14).toNat % 40) + 4) rb2) (7 * ((σ 14).toNat % 40) + 5) (σ2 11)), cMet a2 b2 f2 g2 σ2 rr2 rb2 rn2, cCon g2 σ2 ov2]) (st1 := fun _ => []) (As := [.int (iI 5), .long (iL (σ2 11))]) (mX1_note l E a b σ (up (up (up (up (up ρ (7 * ((σ 14).toNat % 40) + 0) v) (7 * ((σ 14).toNat % 40) + 1) rn2) (7 * ((σ 14).toNat % 40) + 2) rr2) (7 * ((σ 14).toNat % 40) + 3) ov2) (7 * ((σ 14).toNat % 40) + 4) rb2) 5 (σ2 11) (show 0 ≤ σ 14 ∧ σ 14 ≤ 20000 from by omega) (show 5 ≤ 6 from by omega)) gX1_add_X1_note 2 rfl (by decide +kernel) ⟨Nat.le_of_ble_eq_true rfl, Nat.le_of_ble_eq_true rfl, Nat.le_of_ble_eq_true rfl, Nat.le_of_ble_eq_true rfl⟩ 0 rfl (q := (RX1, TX1, 2)) rfl rfl [0, 1] [2, 3] [2, 3, 0, 1] rfl rfl ⟨rfl, rfl, rfl, by decide⟩ (fun _ => rfl) rfl (fun _ => rfl) hl.1 (Nat.le_of_ble_eq_true rfl) rfl dX1_add_62 (fun _ _ H locs B => ?_)
    refine z_aload_n S (pc := 65) dX1_add_65 rfl (lv_at hl 0 rfl) ?_
    refine z_bipush S (pc := 66) dX1_add_66 rfl ?_
    refine z_aload_n S (pc := 68) dX1_add_68 rfl (lv_at hl 2 rfl) ?_
    refine z_get S (pc := 69) B iX1_add_X2 2 rfl rfl 4 (by decide) rfl rfl (by decide +kernel) dX1_add_69 ?_
    refine z_i2l S (pc := 72) (by omega) dX1_add_72 ?_
    refine z_callV S (pc := 73) B (wr := [cMet a2 b2 f2 g2 σ2 rr2 rb2 rn2, cCon g2 σ2 ov2]) (wn := fun _ => [cLog a b σ, cRow E b (up (up (up (up (up (up (up ρ (7 * ((σ 14).toNat % 40) + 0) v) (7 * ((σ 14).toNat % 40) + 1) rn2) (7 * ((σ 14).toNat % 40) + 2) rr2) (7 * ((σ 14).toNat % 40) + 3) ov2) (7 * ((σ 14).toNat % 40) + 4) rb2) (7 * ((σ 14).toNat % 40) + 5) (σ2 11)) (7 * ((σ 14).toNat % 40) + 6) (σ2 12)), cMet a2 b2 f2 g2 σ2 rr2 rb2 rn2, cCon g2 σ2 ov2]) (st1 := fun _ => []) (As := [.int (iI 6), .long (iL (σ2 12))]) (mX1_note l E a b σ (up (up (up (up (up (up ρ (7 * ((σ 14).toNat % 40) + 0) v) (7 * ((σ 14).toNat % 40) + 1) rn2) (7 * ((σ 14).toNat % 40) + 2) rr2) (7 * ((σ 14).toNat % 40) + 3) ov2) (7 * ((σ 14).toNat % 40) + 4) rb2) (7 * ((σ 14).toNat % 40) + 5) (σ2 11)) 6 (σ2 12) (show 0 ≤ σ 14 ∧ σ 14 ≤ 20000 from by omega) (show 6 ≤ 6 from by omega)) gX1_add_X1_note 2 rfl (by decide +kernel) ⟨Nat.le_of_ble_eq_true rfl, Nat.le_of_ble_eq_true rfl, Nat.le_of_ble_eq_true rfl, Nat.le_of_ble_eq_true rfl⟩ 0 rfl (q := (RX1, TX1, 2)) rfl rfl [0, 1] [2, 3] [2, 3, 0, 1] rfl rfl ⟨rfl, rfl, rfl, by decide⟩ (fun _ => rfl) rfl (fun _ => rfl) hl.1 (Nat.le_of_ble_eq_true rfl) rfl dX1_add_73 (fun _ _ H locs B => ?_)
    refine z_aload_n S (pc := 76) dX1_add_76 rfl (lv_at hl 0 rfl) ?_
    refine lv_dup S.1 S.2.1 (pc := 77) dX1_add_77 rfl ?_
    refine z_get S (pc := 78) B iX1_add_X1 0 rfl rfl 1 (by decide) rfl rfl (by decide +kernel) dX1_add_78 ?_
    refine z_iconst S (pc := 81) dX1_add_81 ?_
    refine z_iadd S (pc := 82) dX1_add_82 ?_
    refine z_put S (pc := 83) B iX1_add_X1 tyX1_ok nmX1 0 rfl rfl 1 (by decide) rfl (by decide +kernel) (ty := .int) (by decide +kernel) rfl rfl (Nat.le_of_ble_eq_true rfl) dX1_add_83 (wn := [(a, .inr (1, [.ref b, .int (iI ((σ 14) + 1))])), cRow E b (up (up (up (up (up (up (up ρ (7 * ((σ 14).toNat % 40) + 0) v) (7 * ((σ 14).toNat % 40) + 1) rn2) (7 * ((σ 14).toNat % 40) + 2) rr2) (7 * ((σ 14).toNat % 40) + 3) ov2) (7 * ((σ 14).toNat % 40) + 4) rb2) (7 * ((σ 14).toNat % 40) + 5) (σ2 11)) (7 * ((σ 14).toNat % 40) + 6) (σ2 12)), cMet a2 b2 f2 g2 σ2 rr2 rb2 rn2, cCon g2 σ2 ov2]) rfl (fun H locs B => ?_)
    exact z_return S hr hlk B () trivial rfl rfl (pc := 86) dX1_add_86
theorem iX1_firstFrom_X1 : ∀ w ∈ wsX10, w ∈ wsX1_firstFrom := by decide +kernel
set_option maxHeartbeats 4000000 in
set_option maxRecDepth 100000 in
theorem mX1_firstFrom (l : Launch) (E : gT) (a : Nat) (b : Nat) (σ : Nat → Int) (f : Int) (h14 : 0 ≤ σ 14 ∧ σ 14 ≤ 20000) (hf : inI f) : Cd l E yX1_firstFrom wsX1_firstFrom 1 23 0 0 [.ref a, .int (iI f)] [cLog a b σ] (some (.int (iI (ffr (σ 14) f)))) [cLog a b σ] := by
  refine Ct.mk (cc := cX1_firstFrom) (maxL := 2) (ret := (some .int)) (plainFor_of_name (by decide)) rfl (Nat.le_of_ble_eq_true rfl) ?_
  intro p e s m below meth c A ls H locs S hr hlk hnm B hl
  have S : CallFix p m c cX1_firstFrom 2 s #[.ref a, .int (iI f)] wsX1_firstFrom RX1 := S
  have hl : lv_has ls 2 [(0, .ref a), (1, .int (iI f))] := hl
  refine z_iload_n S (pc := 0) dX1_firstFrom_0 rfl (lv_at hl 1 rfl) ?_
  refine z_iconst S (pc := 1) dX1_firstFrom_1 ?_
  refine z_aload_n S (pc := 2) dX1_firstFrom_2 rfl (lv_at hl 0 rfl) ?_
  refine z_get S (pc := 3) B iX1_firstFrom_X1 0 rfl rfl 1 (by decide) rfl rfl (by decide +kernel) dX1_firstFrom_3 ?_
  refine z_bipush S (pc := 6) dX1_firstFrom_6 rfl ?_
  refine z_isub S (pc := 8) dX1_firstFrom_8 ?_
  refine z_maxI S (pc := 9) (by omega) (by omega) (by decide +kernel) (by decide +kernel) (by decide +kernel) (by decide +kernel) hl.1 ⟨Nat.le_of_ble_eq_true rfl, Nat.le_of_ble_eq_true rfl, Nat.le_of_ble_eq_true rfl, Nat.le_of_ble_eq_true rfl⟩ dX1_firstFrom_9 ?_
  refine z_maxI S (pc := 12) (by omega) (by omega) (by decide +kernel) (by decide +kernel) (by decide +kernel) (by decide +kernel) hl.1 ⟨Nat.le_of_ble_eq_true rfl, Nat.le_of_ble_eq_true rfl, Nat.le_of_ble_eq_true rfl, Nat.le_of_ble_eq_true rfl⟩ dX1_firstFrom_12 ?_
  exact z_ireturn S hr hlk B () trivial rfl rfl (pc := 15) dX1_firstFrom_15
theorem iX1_keeps_X1 : ∀ w ∈ wsX10, w ∈ wsX1_keeps := by decide +kernel
set_option maxHeartbeats 4000000 in
set_option maxRecDepth 100000 in
theorem mX1_keeps (l : Launch) (E : gT) (a : Nat) (b : Nat) (σ : Nat → Int) (f : Int) (h14 : 0 ≤ σ 14 ∧ σ 14 ≤ 20000) (hf : inI f) : Cd l E yX1_keeps wsX1_keeps 2 44 0 0 [.ref a, .int (iI f)] [cLog a b σ] (some (.int (iI (bI (ffr (σ 14) 0 ≤ f ∧ f < σ 14))))) [cLog a b σ] := by
  refine Ct.mk (cc := cX1_keeps) (maxL := 2) (ret := (some .boolean)) (plainFor_of_name (by decide)) rfl (Nat.le_of_ble_eq_true rfl) ?_
  intro p e s m below meth c A ls H locs S hr hlk hnm B hl
  have S : CallFix p m c cX1_keeps 2 s #[.ref a, .int (iI f)] wsX1_keeps RX1 := S
  have hl : lv_has ls 2 [(0, .ref a), (1, .int (iI f))] := hl
  have hff := ffr_bd (n := σ 14) (f := 0) h14
  refine z_iload_n S (pc := 0) dX1_keeps_0 rfl (lv_at hl 1 rfl) ?_
  refine z_aload_n S (pc := 1) dX1_keeps_1 rfl (lv_at hl 0 rfl) ?_
  refine z_iconst S (pc := 2) dX1_keeps_2 ?_
  refine z_callV S (pc := 3) B (wr := []) (wn := fun _ => [cLog a b σ]) (st1 := fun _ => [.int (iI (ffr (σ 14) 0)), .int (iI f)]) (As := [.int (iI 0)]) (mX1_firstFrom l E a b σ 0 (show 0 ≤ σ 14 ∧ σ 14 ≤ 20000 from by omega) (show inI 0 from by omega)) gX1_keeps_X1_firstFrom 1 rfl (by decide +kernel) ⟨Nat.le_of_ble_eq_true rfl, Nat.le_of_ble_eq_true rfl, Nat.le_of_ble_eq_true rfl, Nat.le_of_ble_eq_true rfl⟩ 0 rfl (q := (RX1, TX1, 2)) rfl rfl [0] [] [0] rfl rfl ⟨rfl, rfl, rfl, by decide⟩ (fun _ => rfl) rfl (fun _ => rfl) hl.1 (Nat.le_of_ble_eq_true rfl) rfl dX1_keeps_3 (fun _ _ H locs B => ?_)
  refine z_icmp_lt S (pc := 6) (tgt := 21) (by omega) (by omega) dX1_keeps_6 rfl (fun c1 => ?_) (fun c1 => ?_)
  · refine z_iconst S (pc := 21) dX1_keeps_21 ?_
    exact z_zreturn S (by omega) hr hlk B () trivial (by rw [bI_f (by omega)]) rfl (pc := 22) dX1_keeps_22
  · refine z_iload_n S (pc := 9) dX1_keeps_9 rfl (lv_at hl 1 rfl) ?_
    refine z_aload_n S (pc := 10) dX1_keeps_10 rfl (lv_at hl 0 rfl) ?_
    refine z_get S (pc := 11) B iX1_keeps_X1 0 rfl rfl 1 (by decide) rfl rfl (by decide +kernel) dX1_keeps_11 ?_
    refine z_icmp_ge S (pc := 14) (tgt := 21) (by omega) (by omega) dX1_keeps_14 rfl (fun c2 => ?_) (fun c2 => ?_)
    · refine z_iconst S (pc := 21) dX1_keeps_21 ?_
      exact z_zreturn S (by omega) hr hlk B () trivial (by rw [bI_f (by omega)]) rfl (pc := 22) dX1_keeps_22
    · refine z_iconst S (pc := 17) dX1_keeps_17 ?_
      refine lv_goto S.1 S.2.1 (pc := 18) (tgt := 22) dX1_keeps_18 rfl ?_
      exact z_zreturn S (by omega) hr hlk B () trivial (by rw [bI_t (by omega)]) rfl (pc := 22) dX1_keeps_22
theorem iX1_numberOf_X1 : ∀ w ∈ wsX10, w ∈ wsX1_numberOf := by decide +kernel
set_option maxHeartbeats 4000000 in
set_option maxRecDepth 100000 in
theorem mX1_numberOf (l : Launch) (E : gT) (a : Nat) (b : Nat) (σ : Nat → Int) (ρ : Nat → Int) (r : Int) (k : Nat) (hr0 : 0 ≤ r ∧ r ≤ 2147483647) (hk : k ≤ 6) : Cd l E yX1_numberOf wsX1_numberOf 2 43 0 0 [.ref a, .int (iI r), .int (iI k)] [cLog a b σ, cRow E b ρ] (some (.long (iL (lrow ρ r k)))) [cLog a b σ, cRow E b ρ] := by
  refine Ct.mk (cc := cX1_numberOf) (maxL := 4) (ret := (some .long)) (plainFor_of_name (by decide)) rfl (Nat.le_of_ble_eq_true rfl) ?_
  intro p e s m below meth c A ls H locs S hr hlk hnm B hl
  have S : CallFix p m c cX1_numberOf 4 s #[.ref a, .int (iI r), .int (iI k)] wsX1_numberOf RX1 := S
  have hl : lv_has ls 4 [(0, .ref a), (1, .int (iI r)), (2, .int (iI k))] := hl
  refine z_iload_n S (pc := 0) dX1_numberOf_0 rfl (lv_at hl 1 rfl) ?_
  refine z_iload_n S (pc := 1) dX1_numberOf_1 rfl (lv_at hl 2 rfl) ?_
  refine z_callS S (pc := 2) B (wr := [cLog a b σ, cRow E b ρ]) (wn := fun _ => [cLog a b σ, cRow E b ρ]) (st1 := fun _ => [.int (iI (r % 40 * 7 + k))]) (As := [.int (iI r), .int (iI k)]) (mX1_placeOf l E r k (show 0 ≤ r ∧ r ≤ 2147483647 from by omega) (show k ≤ 6 from by omega)) gX1_numberOf_X1_placeOf 2 rfl (by decide +kernel) ⟨Nat.le_of_ble_eq_true rfl, Nat.le_of_ble_eq_true rfl, Nat.le_of_ble_eq_true rfl, Nat.le_of_ble_eq_true rfl⟩ [] [0, 1] [0, 1] rfl rfl ⟨rfl, rfl, rfl, by decide⟩ (fun _ => rfl) rfl (fun _ => rfl) hl.1 (Nat.le_of_ble_eq_true rfl) rfl dX1_numberOf_2 (fun _ _ H locs B => ?_)
  refine lv_istore_n (lv' := [(3, .int (iI (r % 40 * 7 + k))), (0, .ref a), (1, .int (iI r)), (2, .int (iI k))]) S.1 S.2.1 (pc := 5) dX1_numberOf_5 rfl hl (by decide) rfl (fun ls hl => ?_)
  refine z_iload_n S (pc := 6) dX1_numberOf_6 rfl (lv_at hl 0 rfl) ?_
  refine z_if_lt S (pc := 7) (tgt := 19) (by omega) dX1_numberOf_7 rfl (fun c1 => absurd c1 (by omega)) (fun c1 => ?_)
  refine z_iload_n S (pc := 10) dX1_numberOf_10 rfl (lv_at hl 0 rfl) ?_
  refine z_aload_n S (pc := 11) dX1_numberOf_11 rfl (lv_at hl 1 rfl) ?_
  refine z_get S (pc := 12) B iX1_numberOf_X1 0 rfl rfl 0 (by decide) rfl rfl (by decide +kernel) dX1_numberOf_12 ?_
  refine z_alen S (pc := 15) B 1 2 rfl rfl (n := 280) rfl dX1_numberOf_15 ?_
  refine z_icmp_lt S (pc := 16) (tgt := 23) (by omega) (by omega) dX1_numberOf_16 rfl (fun c2 => ?_) (fun c2 => absurd c2 (by omega))
  refine z_aload_n S (pc := 23) dX1_numberOf_23 rfl (lv_at hl 1 rfl) ?_
  refine z_get S (pc := 24) B iX1_numberOf_X1 0 rfl rfl 0 (by decide) rfl rfl (by decide +kernel) dX1_numberOf_24 ?_
  refine z_iload_n S (pc := 27) dX1_numberOf_27 rfl (lv_at hl 0 rfl) ?_
  refine z_lald S (pc := 28) B 1 2 rfl rfl (k := 7 * (r.toNat % 40) + k) (by omega) (by omega) (by decide) (v := .long (iL (lrow ρ r k))) rfl dX1_numberOf_28 ?_
  exact z_lreturn S hr hlk B () trivial rfl rfl (pc := 29) dX1_numberOf_29
theorem iX1_numberFrom_X1 : ∀ w ∈ wsX10, w ∈ wsX1_numberFrom := by decide +kernel
set_option maxHeartbeats 4000000 in
set_option maxRecDepth 100000 in
theorem mX1_numberFrom (l : Launch) (E : gT) (a : Nat) (b : Nat) (σ : Nat → Int) (f : Int) (h14 : 0 ≤ σ 14 ∧ σ 14 ≤ 20000) (hf : inI f) : Cd l E yX1_numberFrom wsX1_numberFrom 2 44 0 0 [.ref a, .int (iI f)] [cLog a b σ] (some (.int (iI (nfr (σ 14) f)))) [cLog a b σ] := by
  refine Ct.mk (cc := cX1_numberFrom) (maxL := 2) (ret := (some .int)) (plainFor_of_name (by decide)) rfl (Nat.le_of_ble_eq_true rfl) ?_
  intro p e s m below meth c A ls H locs S hr hlk hnm B hl
  have S : CallFix p m c cX1_numberFrom 2 s #[.ref a, .int (iI f)] wsX1_numberFrom RX1 := S
  have hl : lv_has ls 2 [(0, .ref a), (1, .int (iI f))] := hl
  have hff := ffr_bd (n := σ 14) (f := f) h14
  refine z_iconst S (pc := 0) dX1_numberFrom_0 ?_
  refine z_aload_n S (pc := 1) dX1_numberFrom_1 rfl (lv_at hl 0 rfl) ?_
  refine z_get S (pc := 2) B iX1_numberFrom_X1 0 rfl rfl 1 (by decide) rfl rfl (by decide +kernel) dX1_numberFrom_2 ?_
  refine z_aload_n S (pc := 5) dX1_numberFrom_5 rfl (lv_at hl 0 rfl) ?_
  refine z_iload_n S (pc := 6) dX1_numberFrom_6 rfl (lv_at hl 1 rfl) ?_
  refine z_callV S (pc := 7) B (wr := []) (wn := fun _ => [cLog a b σ]) (st1 := fun _ => [.int (iI (ffr (σ 14) f)), .int (iI (σ 14)), .int (iI 0)]) (As := [.int (iI f)]) (mX1_firstFrom l E a b σ f (show 0 ≤ σ 14 ∧ σ 14 ≤ 20000 from by omega) (show inI f from by omega)) gX1_numberFrom_X1_firstFrom 1 rfl (by decide +kernel) ⟨Nat.le_of_ble_eq_true rfl, Nat.le_of_ble_eq_true rfl, Nat.le_of_ble_eq_true rfl, Nat.le_of_ble_eq_true rfl⟩ 0 rfl (q := (RX1, TX1, 2)) rfl rfl [0] [] [0] rfl rfl ⟨rfl, rfl, rfl, by decide⟩ (fun _ => rfl) rfl (fun _ => rfl) hl.1 (Nat.le_of_ble_eq_true rfl) rfl dX1_numberFrom_7 (fun _ _ H locs B => ?_)
  refine z_isub S (pc := 10) dX1_numberFrom_10 ?_
  refine z_maxI S (pc := 11) (by omega) (by omega) (by decide +kernel) (by decide +kernel) (by decide +kernel) (by decide +kernel) hl.1 ⟨Nat.le_of_ble_eq_true rfl, Nat.le_of_ble_eq_true rfl, Nat.le_of_ble_eq_true rfl, Nat.le_of_ble_eq_true rfl⟩ dX1_numberFrom_11 ?_
  exact z_ireturn S hr hlk B () trivial rfl rfl (pc := 14) dX1_numberFrom_14
theorem iX1_sumFrom_X1 : ∀ w ∈ wsX10, w ∈ wsX1_sumFrom := by decide +kernel
set_option maxHeartbeats 4000000 in
set_option maxRecDepth 100000 in
theorem lpX1_sumFrom {p : Program} {l : Launch} {e : Env} {s : State} {m : MethodId} {args : Array Value} {below : List Frame} {meth : Method} {c : Code} {Q : State → Prop} {A : Nat → Prop} (E : gT) (S : CallFix p m c cX1_sumFrom 6 s args wsX1_sumFrom RX1) (a : Nat) (b : Nat) (σ : Nat → Int) (ρ : Nat → Int) (f : Int) (k : Nat) (hk : k ≤ 6) (h14 : 0 ≤ σ 14 ∧ σ 14 ≤ 20000) :
    ∀ (n : Nat) (r : Int) (x : Int) (hn : 0 ≤ r ∧ r ≤ 2147483647 ∧ (n : Int) = (if 0 < σ 14 - r then σ 14 - r else 0)) (res : Int) (hres : sumL ρ k n r x = res) (hx : ∀  (H : Heap) (locs : List Loc) (ls : Array Slot), bw E A s H locs [cLog a b σ, cRow E b ρ] → lv_has ls 6 [(0, .ref a), (1, .int (iI f)), (2, .int (iI k)), (3, .long (iL res))] → W p l e ({ frames := 3, cells := 0, slots := 0, locals := 66 } : Room) s m args below meth c H locs 0 0 Q (F0 m 34 ls [])) (H : Heap) (locs : List Loc) (ls : Array Slot) (B : bw E A s H locs [cLog a b σ, cRow E b ρ]) (hl : lv_has ls 6 [(0, .ref a), (1, .int (iI f)), (2, .int (iI k)), (3, .long (iL x)), (5, .int (iI r))]), W p l e ({ frames := 3, cells := 0, slots := 0, locals := 66 } : Room) s m args below meth c H locs 0 0 Q (F0 m 9 ls []) := by
  intro n
  induction n with
  | zero =>
    intro r x hn res hres hx H locs ls B hl
    refine z_iload S (pc := 9) dX1_sumFrom_9 (lv_at hl 4 rfl) ?_
    refine z_aload_n S (pc := 11) dX1_sumFrom_11 rfl (lv_at hl 0 rfl) ?_
    refine z_get S (pc := 12) B iX1_sumFrom_X1 0 rfl rfl 1 (by decide) rfl rfl (by decide +kernel) dX1_sumFrom_12 ?_
    refine z_icmp_ge S (pc := 15) (tgt := 34) (by omega) (by omega) dX1_sumFrom_15 rfl (fun c1 => ?_) (fun c1 => absurd c1 (by omega))
    subst hres
    exact hx _ _ _ B (lv_sub hl [0, 1, 2, 3] rfl)
  | succ n ih =>
    intro r x hn res hres hx H locs ls B hl
    refine z_iload S (pc := 9) dX1_sumFrom_9 (lv_at hl 4 rfl) ?_
    refine z_aload_n S (pc := 11) dX1_sumFrom_11 rfl (lv_at hl 0 rfl) ?_
    refine z_get S (pc := 12) B iX1_sumFrom_X1 0 rfl rfl 1 (by decide) rfl rfl (by decide +kernel) dX1_sumFrom_12 ?_
    refine z_icmp_ge S (pc := 15) (tgt := 34) (by omega) (by omega) dX1_sumFrom_15 rfl (fun c1 => ?_) (fun c1 => ?_)
    · exact absurd c1 (by omega)
    · refine z_lload_n S (pc := 18) dX1_sumFrom_18 rfl (lv_at hl 3 rfl) ?_
      refine z_aload_n S (pc := 19) dX1_sumFrom_19 rfl (lv_at hl 0 rfl) ?_
      refine z_iload S (pc := 20) dX1_sumFrom_20 (lv_at hl 4 rfl) ?_
      refine z_iload_n S (pc := 22) dX1_sumFrom_22 rfl (lv_at hl 2 rfl) ?_
      refine z_callV S (pc := 23) B (wr := []) (wn := fun _ => [cLog a b σ, cRow E b ρ]) (st1 := fun _ => [.long (iL (lrow ρ r k)), .long (iL x)]) (As := [.int (iI r), .int (iI k)]) (mX1_numberOf l E a b σ ρ r k (show 0 ≤ r ∧ r ≤ 2147483647 from by omega) (show k ≤ 6 from by omega)) gX1_sumFrom_X1_numberOf 2 rfl (by decide +kernel) ⟨Nat.le_of_ble_eq_true rfl, Nat.le_of_ble_eq_true rfl, Nat.le_of_ble_eq_true rfl, Nat.le_of_ble_eq_true rfl⟩ 0 rfl (q := (RX1, TX1, 2)) rfl rfl [0, 1] [] [0, 1] rfl rfl ⟨rfl, rfl, rfl, by decide⟩ (fun _ => rfl) rfl (fun _ => rfl) hl.1 (Nat.le_of_ble_eq_true rfl) rfl dX1_sumFrom_23 (fun _ _ H locs B => ?_)
      refine z_ladd S (pc := 26) dX1_sumFrom_26 ?_
      refine lv_lstore_n (lv' := [(3, .long (iL (x + (lrow ρ r k)))), (0, .ref a), (1, .int (iI f)), (2, .int (iI k)), (5, .int (iI r))]) S.1 S.2.1 (pc := 27) dX1_sumFrom_27 rfl hl (by decide) rfl (fun ls hl => ?_)
      refine lv_iinc (v := iI (r + 1)) (lv' := [(5, .int (iI (r + 1))), (3, .long (iL (x + (lrow ρ r k)))), (0, .ref a), (1, .int (iI f)), (2, .int (iI k))]) S.1 S.2.1 (pc := 28) dX1_sumFrom_28 hl (k := 4) rfl (iI_add _ _) (by decide) rfl (fun ls hl => ?_)
      refine lv_goto S.1 S.2.1 (pc := 31) (tgt := 9) dX1_sumFrom_31 rfl ?_
      exact ih (r + 1) (x + (lrow ρ r k)) (by omega)  res hres hx _ _ _ B (lv_sub hl [2, 3, 4, 1, 0] rfl)
set_option maxHeartbeats 4000000 in
set_option maxRecDepth 100000 in
theorem mX1_sumFrom (l : Launch) (E : gT) (a : Nat) (b : Nat) (σ : Nat → Int) (ρ : Nat → Int) (f : Int) (k : Nat) (h14 : 0 ≤ σ 14 ∧ σ 14 ≤ 20000) (hf : inI f) (hk : k ≤ 6) : Cd l E yX1_sumFrom wsX1_sumFrom 3 66 0 0 [.ref a, .int (iI f), .int (iI k)] [cLog a b σ, cRow E b ρ] (some (.long (iL (sumL ρ k (nfr (σ 14) f).toNat (ffr (σ 14) f) 0)))) [cLog a b σ, cRow E b ρ] := by
  refine Ct.mk (cc := cX1_sumFrom) (maxL := 6) (ret := (some .long)) (plainFor_of_name (by decide)) rfl (Nat.le_of_ble_eq_true rfl) ?_
  intro p e s m below meth c A ls H locs S hr hlk hnm B hl
  have S : CallFix p m c cX1_sumFrom 6 s #[.ref a, .int (iI f), .int (iI k)] wsX1_sumFrom RX1 := S
  have hl : lv_has ls 6 [(0, .ref a), (1, .int (iI f)), (2, .int (iI k))] := hl
  have hff := ffr_bd (n := σ 14) (f := f) h14
  refine z_lconst S (pc := 0) (x := 0) dX1_sumFrom_0 rfl ?_
  refine lv_lstore_n (lv' := [(3, .long (iL 0)), (0, .ref a), (1, .int (iI f)), (2, .int (iI k))]) S.1 S.2.1 (pc := 1) dX1_sumFrom_1 rfl hl (by decide) rfl (fun ls hl => ?_)
  refine z_aload_n S (pc := 2) dX1_sumFrom_2 rfl (lv_at hl 1 rfl) ?_
  refine z_iload_n S (pc := 3) dX1_sumFrom_3 rfl (lv_at hl 2 rfl) ?_
  refine z_callV S (pc := 4) B (wr := [cRow E b ρ]) (wn := fun _ => [cLog a b σ, cRow E b ρ]) (st1 := fun _ => [.int (iI (ffr (σ 14) f))]) (As := [.int (iI f)]) (mX1_firstFrom l E a b σ f (show 0 ≤ σ 14 ∧ σ 14 ≤ 20000 from by omega) (show inI f from by omega)) gX1_sumFrom_X1_firstFrom 1 rfl (by decide +kernel) ⟨Nat.le_of_ble_eq_true rfl, Nat.le_of_ble_eq_true rfl, Nat.le_of_ble_eq_true rfl, Nat.le_of_ble_eq_true rfl⟩ 0 rfl (q := (RX1, TX1, 2)) rfl rfl [0] [1] [1, 0] rfl rfl ⟨rfl, rfl, rfl, by decide⟩ (fun _ => rfl) rfl (fun _ => rfl) hl.1 (Nat.le_of_ble_eq_true rfl) rfl dX1_sumFrom_4 (fun _ _ H locs B => ?_)
  refine lv_istore (lv' := [(5, .int (iI (ffr (σ 14) f))), (3, .long (iL 0)), (0, .ref a), (1, .int (iI f)), (2, .int (iI k))]) S.1 S.2.1 (pc := 7) dX1_sumFrom_7 hl (by decide) rfl (fun ls hl => ?_)
  obtain ⟨z, hz⟩ : ∃ z, sumL ρ k (nfr (σ 14) f).toNat (ffr (σ 14) f) 0 = z := ⟨_, rfl⟩
  refine lpX1_sumFrom E S a b σ ρ f k hk h14 (nfr (σ 14) f).toNat (ffr (σ 14) f) 0 ⟨by omega, by omega, by unfold nfr; split <;> omega⟩ z hz (fun H locs ls B hl => ?_) _ _ _ B (lv_sub hl [2, 3, 4, 1, 0] rfl)
  refine z_lload_n S (pc := 34) dX1_sumFrom_34 rfl (lv_at hl 3 rfl) ?_
  exact z_lreturn S hr hlk B () trivial (by rw [hz]) rfl (pc := 35) dX1_sumFrom_35
theorem iX1_leastFrom_X1 : ∀ w ∈ wsX10, w ∈ wsX1_leastFrom := by decide +kernel
set_option maxHeartbeats 4000000 in
set_option maxRecDepth 100000 in
theorem lpX1_leastFrom {p : Program} {l : Launch} {e : Env} {s : State} {m : MethodId} {args : Array Value} {below : List Frame} {meth : Method} {c : Code} {Q : State → Prop} {A : Nat → Prop} (E : gT) (S : CallFix p m c cX1_leastFrom 5 s args wsX1_leastFrom RX1) (a : Nat) (b : Nat) (σ : Nat → Int) (ρ : Nat → Int) (f : Int) (h14 : 0 ≤ σ 14 ∧ σ 14 ≤ 20000) (hR : inR ρ) :
    ∀ (n : Nat) (r : Int) (x : Int) (hn : 0 ≤ r ∧ r ≤ 2147483647 ∧ (n : Int) = (if 0 < σ 14 - r then σ 14 - r else 0)) (hx0 : -1099511627776 ≤ x ∧ x ≤ 1099511627776) (res : Int) (hres : minL ρ n r x = res) (hx : ∀  (H : Heap) (locs : List Loc) (ls : Array Slot), bw E A s H locs [cLog a b σ, cRow E b ρ] → lv_has ls 5 [(0, .ref a), (1, .int (iI f)), (2, .long (iL res))] → W p l e ({ frames := 3, cells := 0, slots := 0, locals := 66 } : Room) s m args below meth c H locs 0 0 Q (F0 m 45 ls [])) (H : Heap) (locs : List Loc) (ls : Array Slot) (B : bw E A s H locs [cLog a b σ, cRow E b ρ]) (hl : lv_has ls 5 [(0, .ref a), (1, .int (iI f)), (2, .long (iL x)), (4, .int (iI r))]), W p l e ({ frames := 3, cells := 0, slots := 0, locals := 66 } : Room) s m args below meth c H locs 0 0 Q (F0 m 18 ls []) := by
  intro n
  induction n with
  | zero =>
    intro r x hn hx0 res hres hx H locs ls B hl
    have hl0 : -1099511627776 ≤ lrow ρ r 0 ∧ lrow ρ r 0 ≤ 1099511627776 := hR _
    refine z_iload S (pc := 18) dX1_leastFrom_18 (lv_at hl 3 rfl) ?_
    refine z_aload_n S (pc := 20) dX1_leastFrom_20 rfl (lv_at hl 0 rfl) ?_
    refine z_get S (pc := 21) B iX1_leastFrom_X1 0 rfl rfl 1 (by decide) rfl rfl (by decide +kernel) dX1_leastFrom_21 ?_
    refine z_icmp_ge S (pc := 24) (tgt := 45) (by omega) (by omega) dX1_leastFrom_24 rfl (fun c1 => ?_) (fun c1 => absurd c1 (by omega))
    subst hres
    exact hx _ _ _ B (lv_sub hl [0, 1, 2] rfl)
  | succ n ih =>
    intro r x hn hx0 res hres hx H locs ls B hl
    have hl0 : -1099511627776 ≤ lrow ρ r 0 ∧ lrow ρ r 0 ≤ 1099511627776 := hR _
    refine z_iload S (pc := 18) dX1_leastFrom_18 (lv_at hl 3 rfl) ?_
    refine z_aload_n S (pc := 20) dX1_leastFrom_20 rfl (lv_at hl 0 rfl) ?_
    refine z_get S (pc := 21) B iX1_leastFrom_X1 0 rfl rfl 1 (by decide) rfl rfl (by decide +kernel) dX1_leastFrom_21 ?_
    refine z_icmp_ge S (pc := 24) (tgt := 45) (by omega) (by omega) dX1_leastFrom_24 rfl (fun c1 => ?_) (fun c1 => ?_)
    · exact absurd c1 (by omega)
    · refine z_lload_n S (pc := 27) dX1_leastFrom_27 rfl (lv_at hl 2 rfl) ?_
      refine z_aload_n S (pc := 28) dX1_leastFrom_28 rfl (lv_at hl 0 rfl) ?_
      refine z_iload S (pc := 29) dX1_leastFrom_29 (lv_at hl 3 rfl) ?_
      refine z_iconst S (pc := 31) dX1_leastFrom_31 ?_
      refine z_callV S (pc := 32) B (wr := []) (wn := fun _ => [cLog a b σ, cRow E b ρ]) (st1 := fun _ => [.long (iL (lrow ρ r 0)), .long (iL x)]) (As := [.int (iI r), .int (iI 0)]) (mX1_numberOf l E a b σ ρ r 0 (show 0 ≤ r ∧ r ≤ 2147483647 from by omega) (show 0 ≤ 6 from by omega)) gX1_leastFrom_X1_numberOf 2 rfl (by decide +kernel) ⟨Nat.le_of_ble_eq_true rfl, Nat.le_of_ble_eq_true rfl, Nat.le_of_ble_eq_true rfl, Nat.le_of_ble_eq_true rfl⟩ 0 rfl (q := (RX1, TX1, 2)) rfl rfl [0, 1] [] [0, 1] rfl rfl ⟨rfl, rfl, rfl, by decide⟩ (fun _ => rfl) rfl (fun _ => rfl) hl.1 (Nat.le_of_ble_eq_true rfl) rfl dX1_leastFrom_32 (fun _ _ H locs B => ?_)
      refine z_minL S (pc := 35) (by omega) (by omega) (by decide +kernel) (by decide +kernel) (by decide +kernel) (by decide +kernel) hl.1 ⟨Nat.le_of_ble_eq_true rfl, Nat.le_of_ble_eq_true rfl, Nat.le_of_ble_eq_true rfl, Nat.le_of_ble_eq_true rfl⟩ dX1_leastFrom_35 ?_
      refine lv_lstore_n (lv' := [(2, .long (iL (if lrow ρ r 0 < x then lrow ρ r 0 else x))), (0, .ref a), (1, .int (iI f)), (4, .int (iI r))]) S.1 S.2.1 (pc := 38) dX1_leastFrom_38 rfl hl (by decide) rfl (fun ls hl => ?_)
      refine lv_iinc (v := iI (r + 1)) (lv' := [(4, .int (iI (r + 1))), (2, .long (iL (if lrow ρ r 0 < x then lrow ρ r 0 else x))), (0, .ref a), (1, .int (iI f))]) S.1 S.2.1 (pc := 39) dX1_leastFrom_39 hl (k := 3) rfl (iI_add _ _) (by decide) rfl (fun ls hl => ?_)
      refine lv_goto S.1 S.2.1 (pc := 42) (tgt := 18) dX1_leastFrom_42 rfl ?_
      exact ih (r + 1) (if lrow ρ r 0 < x then lrow ρ r 0 else x) (by omega) (by split <;> omega) res hres hx _ _ _ B (lv_sub hl [2, 3, 1, 0] rfl)
set_option maxHeartbeats 4000000 in
set_option maxRecDepth 100000 in
theorem mX1_leastFrom (l : Launch) (E : gT) (a : Nat) (b : Nat) (σ : Nat → Int) (ρ : Nat → Int) (f : Int) (h14 : 0 ≤ σ 14 ∧ σ 14 ≤ 20000) (hf : inI f) (hR : inR ρ) : Cd l E yX1_leastFrom wsX1_leastFrom 3 66 0 0 [.ref a, .int (iI f)] [cLog a b σ, cRow E b ρ] (some (.long (iL (minL ρ (nfr (σ 14) f).toNat (ffr (σ 14) f) (lrow ρ (ffr (σ 14) f) 0))))) [cLog a b σ, cRow E b ρ] := by
  refine Ct.mk (cc := cX1_leastFrom) (maxL := 5) (ret := (some .long)) (plainFor_of_name (by decide)) rfl (Nat.le_of_ble_eq_true rfl) ?_
  intro p e s m below meth c A ls H locs S hr hlk hnm B hl
  have S : CallFix p m c cX1_leastFrom 5 s #[.ref a, .int (iI f)] wsX1_leastFrom RX1 := S
  have hl : lv_has ls 5 [(0, .ref a), (1, .int (iI f))] := hl
  have hff := ffr_bd (n := σ 14) (f := f) h14
  refine z_aload_n S (pc := 0) dX1_leastFrom_0 rfl (lv_at hl 0 rfl) ?_
  refine z_aload_n S (pc := 1) dX1_leastFrom_1 rfl (lv_at hl 0 rfl) ?_
  refine z_iload_n S (pc := 2) dX1_leastFrom_2 rfl (lv_at hl 1 rfl) ?_
  refine z_callV S (pc := 3) B (wr := [cRow E b ρ]) (wn := fun _ => [cLog a b σ, cRow E b ρ]) (st1 := fun _ => [.int (iI (ffr (σ 14) f)), .ref a]) (As := [.int (iI f)]) (mX1_firstFrom l E a b σ f (show 0 ≤ σ 14 ∧ σ 14 ≤ 20000 from by omega) (show inI f from by omega)) gX1_leastFrom_X1_firstFrom 1 rfl (by decide +kernel) ⟨Nat.le_of_ble_eq_true rfl, Nat.le_of_ble_eq_true rfl, Nat.le_of_ble_eq_true rfl, Nat.le_of_ble_eq_true rfl⟩ 0 rfl (q := (RX1, TX1, 2)) rfl rfl [0] [1] [1, 0] rfl rfl ⟨rfl, rfl, rfl, by decide⟩ (fun _ => rfl) rfl (fun _ => rfl) hl.1 (Nat.le_of_ble_eq_true rfl) rfl dX1_leastFrom_3 (fun _ _ H locs B => ?_)
  refine z_iconst S (pc := 6) dX1_leastFrom_6 ?_
  refine z_callV S (pc := 7) B (wr := []) (wn := fun _ => [cLog a b σ, cRow E b ρ]) (st1 := fun _ => [.long (iL (lrow ρ (ffr (σ 14) f) 0))]) (As := [.int (iI (ffr (σ 14) f)), .int (iI 0)]) (mX1_numberOf l E a b σ ρ (ffr (σ 14) f) 0 (show 0 ≤ (ffr (σ 14) f) ∧ (ffr (σ 14) f) ≤ 2147483647 from by omega) (show 0 ≤ 6 from by omega)) gX1_leastFrom_X1_numberOf 2 rfl (by decide +kernel) ⟨Nat.le_of_ble_eq_true rfl, Nat.le_of_ble_eq_true rfl, Nat.le_of_ble_eq_true rfl, Nat.le_of_ble_eq_true rfl⟩ 0 rfl (q := (RX1, TX1, 2)) rfl rfl [0, 1] [] [0, 1] rfl rfl ⟨rfl, rfl, rfl, by decide⟩ (fun _ => rfl) rfl (fun _ => rfl) hl.1 (Nat.le_of_ble_eq_true rfl) rfl dX1_leastFrom_7 (fun _ _ H locs B => ?_)
  refine lv_lstore_n (lv' := [(2, .long (iL (lrow ρ (ffr (σ 14) f) 0))), (0, .ref a), (1, .int (iI f))]) S.1 S.2.1 (pc := 10) dX1_leastFrom_10 rfl hl (by decide) rfl (fun ls hl => ?_)
  refine z_aload_n S (pc := 11) dX1_leastFrom_11 rfl (lv_at hl 1 rfl) ?_
  refine z_iload_n S (pc := 12) dX1_leastFrom_12 rfl (lv_at hl 2 rfl) ?_
  refine z_callV S (pc := 13) B (wr := [cRow E b ρ]) (wn := fun _ => [cLog a b σ, cRow E b ρ]) (st1 := fun _ => [.int (iI (ffr (σ 14) f))]) (As := [.int (iI f)]) (mX1_firstFrom l E a b σ f (show 0 ≤ σ 14 ∧ σ 14 ≤ 20000 from by omega) (show inI f from by omega)) gX1_leastFrom_X1_firstFrom 1 rfl (by decide +kernel) ⟨Nat.le_of_ble_eq_true rfl, Nat.le_of_ble_eq_true rfl, Nat.le_of_ble_eq_true rfl, Nat.le_of_ble_eq_true rfl⟩ 0 rfl (q := (RX1, TX1, 2)) rfl rfl [0] [1] [1, 0] rfl rfl ⟨rfl, rfl, rfl, by decide⟩ (fun _ => rfl) rfl (fun _ => rfl) hl.1 (Nat.le_of_ble_eq_true rfl) rfl dX1_leastFrom_13 (fun _ _ H locs B => ?_)
  refine lv_istore (lv' := [(4, .int (iI (ffr (σ 14) f))), (2, .long (iL (lrow ρ (ffr (σ 14) f) 0))), (0, .ref a), (1, .int (iI f))]) S.1 S.2.1 (pc := 16) dX1_leastFrom_16 hl (by decide) rfl (fun ls hl => ?_)
  have hl0 : -1099511627776 ≤ lrow ρ (ffr (σ 14) f) 0 ∧ lrow ρ (ffr (σ 14) f) 0 ≤ 1099511627776 := hR _
  obtain ⟨z, hz⟩ : ∃ z, minL ρ (nfr (σ 14) f).toNat (ffr (σ 14) f) (lrow ρ (ffr (σ 14) f) 0) = z := ⟨_, rfl⟩
  refine lpX1_leastFrom E S a b σ ρ f h14 hR (nfr (σ 14) f).toNat (ffr (σ 14) f) (lrow ρ (ffr (σ 14) f) 0) ⟨by omega, by omega, by unfold nfr; split <;> omega⟩ hl0 z hz (fun H locs ls B hl => ?_) _ _ _ B (lv_sub hl [2, 3, 1, 0] rfl)
  refine z_lload_n S (pc := 45) dX1_leastFrom_45 rfl (lv_at hl 2 rfl) ?_
  exact z_lreturn S hr hlk B () trivial (by rw [hz]) rfl (pc := 46) dX1_leastFrom_46
theorem iX1_greatestFrom_X1 : ∀ w ∈ wsX10, w ∈ wsX1_greatestFrom := by decide +kernel
set_option maxHeartbeats 4000000 in
set_option maxRecDepth 100000 in
theorem lpX1_greatestFrom {p : Program} {l : Launch} {e : Env} {s : State} {m : MethodId} {args : Array Value} {below : List Frame} {meth : Method} {c : Code} {Q : State → Prop} {A : Nat → Prop} (E : gT) (S : CallFix p m c cX1_greatestFrom 5 s args wsX1_greatestFrom RX1) (a : Nat) (b : Nat) (σ : Nat → Int) (ρ : Nat → Int) (f : Int) (h14 : 0 ≤ σ 14 ∧ σ 14 ≤ 20000) (hR : inR ρ) :
    ∀ (n : Nat) (r : Int) (x : Int) (hn : 0 ≤ r ∧ r ≤ 2147483647 ∧ (n : Int) = (if 0 < σ 14 - r then σ 14 - r else 0)) (hx0 : -1099511627776 ≤ x ∧ x ≤ 1099511627776) (res : Int) (hres : maxL ρ n r x = res) (hx : ∀  (H : Heap) (locs : List Loc) (ls : Array Slot), bw E A s H locs [cLog a b σ, cRow E b ρ] → lv_has ls 5 [(0, .ref a), (1, .int (iI f)), (2, .long (iL res))] → W p l e ({ frames := 3, cells := 0, slots := 0, locals := 66 } : Room) s m args below meth c H locs 0 0 Q (F0 m 45 ls [])) (H : Heap) (locs : List Loc) (ls : Array Slot) (B : bw E A s H locs [cLog a b σ, cRow E b ρ]) (hl : lv_has ls 5 [(0, .ref a), (1, .int (iI f)), (2, .long (iL x)), (4, .int (iI r))]), W p l e ({ frames := 3, cells := 0, slots := 0, locals := 66 } : Room) s m args below meth c H locs 0 0 Q (F0 m 18 ls []) := by
  intro n
  induction n with
  | zero =>
    intro r x hn hx0 res hres hx H locs ls B hl
    have hl0 : -1099511627776 ≤ lrow ρ r 0 ∧ lrow ρ r 0 ≤ 1099511627776 := hR _
    refine z_iload S (pc := 18) dX1_greatestFrom_18 (lv_at hl 3 rfl) ?_
    refine z_aload_n S (pc := 20) dX1_greatestFrom_20 rfl (lv_at hl 0 rfl) ?_
    refine z_get S (pc := 21) B iX1_greatestFrom_X1 0 rfl rfl 1 (by decide) rfl rfl (by decide +kernel) dX1_greatestFrom_21 ?_
    refine z_icmp_ge S (pc := 24) (tgt := 45) (by omega) (by omega) dX1_greatestFrom_24 rfl (fun c1 => ?_) (fun c1 => absurd c1 (by omega))
    subst hres
    exact hx _ _ _ B (lv_sub hl [0, 1, 2] rfl)
  | succ n ih =>
    intro r x hn hx0 res hres hx H locs ls B hl
    have hl0 : -1099511627776 ≤ lrow ρ r 0 ∧ lrow ρ r 0 ≤ 1099511627776 := hR _
    refine z_iload S (pc := 18) dX1_greatestFrom_18 (lv_at hl 3 rfl) ?_
    refine z_aload_n S (pc := 20) dX1_greatestFrom_20 rfl (lv_at hl 0 rfl) ?_
    refine z_get S (pc := 21) B iX1_greatestFrom_X1 0 rfl rfl 1 (by decide) rfl rfl (by decide +kernel) dX1_greatestFrom_21 ?_
    refine z_icmp_ge S (pc := 24) (tgt := 45) (by omega) (by omega) dX1_greatestFrom_24 rfl (fun c1 => ?_) (fun c1 => ?_)
    · exact absurd c1 (by omega)
    · refine z_lload_n S (pc := 27) dX1_greatestFrom_27 rfl (lv_at hl 2 rfl) ?_
      refine z_aload_n S (pc := 28) dX1_greatestFrom_28 rfl (lv_at hl 0 rfl) ?_
      refine z_iload S (pc := 29) dX1_greatestFrom_29 (lv_at hl 3 rfl) ?_
      refine z_iconst S (pc := 31) dX1_greatestFrom_31 ?_
      refine z_callV S (pc := 32) B (wr := []) (wn := fun _ => [cLog a b σ, cRow E b ρ]) (st1 := fun _ => [.long (iL (lrow ρ r 0)), .long (iL x)]) (As := [.int (iI r), .int (iI 0)]) (mX1_numberOf l E a b σ ρ r 0 (show 0 ≤ r ∧ r ≤ 2147483647 from by omega) (show 0 ≤ 6 from by omega)) gX1_greatestFrom_X1_numberOf 2 rfl (by decide +kernel) ⟨Nat.le_of_ble_eq_true rfl, Nat.le_of_ble_eq_true rfl, Nat.le_of_ble_eq_true rfl, Nat.le_of_ble_eq_true rfl⟩ 0 rfl (q := (RX1, TX1, 2)) rfl rfl [0, 1] [] [0, 1] rfl rfl ⟨rfl, rfl, rfl, by decide⟩ (fun _ => rfl) rfl (fun _ => rfl) hl.1 (Nat.le_of_ble_eq_true rfl) rfl dX1_greatestFrom_32 (fun _ _ H locs B => ?_)
      refine z_maxL S (pc := 35) (by omega) (by omega) (by decide +kernel) (by decide +kernel) (by decide +kernel) (by decide +kernel) hl.1 ⟨Nat.le_of_ble_eq_true rfl, Nat.le_of_ble_eq_true rfl, Nat.le_of_ble_eq_true rfl, Nat.le_of_ble_eq_true rfl⟩ dX1_greatestFrom_35 ?_
      refine lv_lstore_n (lv' := [(2, .long (iL (if lrow ρ r 0 < x then x else lrow ρ r 0))), (0, .ref a), (1, .int (iI f)), (4, .int (iI r))]) S.1 S.2.1 (pc := 38) dX1_greatestFrom_38 rfl hl (by decide) rfl (fun ls hl => ?_)
      refine lv_iinc (v := iI (r + 1)) (lv' := [(4, .int (iI (r + 1))), (2, .long (iL (if lrow ρ r 0 < x then x else lrow ρ r 0))), (0, .ref a), (1, .int (iI f))]) S.1 S.2.1 (pc := 39) dX1_greatestFrom_39 hl (k := 3) rfl (iI_add _ _) (by decide) rfl (fun ls hl => ?_)
      refine lv_goto S.1 S.2.1 (pc := 42) (tgt := 18) dX1_greatestFrom_42 rfl ?_
      exact ih (r + 1) (if lrow ρ r 0 < x then x else lrow ρ r 0) (by omega) (by split <;> omega) res hres hx _ _ _ B (lv_sub hl [2, 3, 1, 0] rfl)
set_option maxHeartbeats 4000000 in
set_option maxRecDepth 100000 in
theorem mX1_greatestFrom (l : Launch) (E : gT) (a : Nat) (b : Nat) (σ : Nat → Int) (ρ : Nat → Int) (f : Int) (h14 : 0 ≤ σ 14 ∧ σ 14 ≤ 20000) (hf : inI f) (hR : inR ρ) : Cd l E yX1_greatestFrom wsX1_greatestFrom 3 66 0 0 [.ref a, .int (iI f)] [cLog a b σ, cRow E b ρ] (some (.long (iL (maxL ρ (nfr (σ 14) f).toNat (ffr (σ 14) f) (lrow ρ (ffr (σ 14) f) 0))))) [cLog a b σ, cRow E b ρ] := by
  refine Ct.mk (cc := cX1_greatestFrom) (maxL := 5) (ret := (some .long)) (plainFor_of_name (by decide)) rfl (Nat.le_of_ble_eq_true rfl) ?_
  intro p e s m below meth c A ls H locs S hr hlk hnm B hl
  have S : CallFix p m c cX1_greatestFrom 5 s #[.ref a, .int (iI f)] wsX1_greatestFrom RX1 := S
  have hl : lv_has ls 5 [(0, .ref a), (1, .int (iI f))] := hl
  have hff := ffr_bd (n := σ 14) (f := f) h14
  refine z_aload_n S (pc := 0) dX1_greatestFrom_0 rfl (lv_at hl 0 rfl) ?_
  refine z_aload_n S (pc := 1) dX1_greatestFrom_1 rfl (lv_at hl 0 rfl) ?_
  refine z_iload_n S (pc := 2) dX1_greatestFrom_2 rfl (lv_at hl 1 rfl) ?_
  refine z_callV S (pc := 3) B (wr := [cRow E b ρ]) (wn := fun _ => [cLog a b σ, cRow E b ρ]) (st1 := fun _ => [.int (iI (ffr (σ 14) f)), .ref a]) (As := [.int (iI f)]) (mX1_firstFrom l E a b σ f (show 0 ≤ σ 14 ∧ σ 14 ≤ 20000 from by omega) (show inI f from by omega)) gX1_greatestFrom_X1_firstFrom 1 rfl (by decide +kernel) ⟨Nat.le_of_ble_eq_true rfl, Nat.le_of_ble_eq_true rfl, Nat.le_of_ble_eq_true rfl, Nat.le_of_ble_eq_true rfl⟩ 0 rfl (q := (RX1, TX1, 2)) rfl rfl [0] [1] [1, 0] rfl rfl ⟨rfl, rfl, rfl, by decide⟩ (fun _ => rfl) rfl (fun _ => rfl) hl.1 (Nat.le_of_ble_eq_true rfl) rfl dX1_greatestFrom_3 (fun _ _ H locs B => ?_)
  refine z_iconst S (pc := 6) dX1_greatestFrom_6 ?_
  refine z_callV S (pc := 7) B (wr := []) (wn := fun _ => [cLog a b σ, cRow E b ρ]) (st1 := fun _ => [.long (iL (lrow ρ (ffr (σ 14) f) 0))]) (As := [.int (iI (ffr (σ 14) f)), .int (iI 0)]) (mX1_numberOf l E a b σ ρ (ffr (σ 14) f) 0 (show 0 ≤ (ffr (σ 14) f) ∧ (ffr (σ 14) f) ≤ 2147483647 from by omega) (show 0 ≤ 6 from by omega)) gX1_greatestFrom_X1_numberOf 2 rfl (by decide +kernel) ⟨Nat.le_of_ble_eq_true rfl, Nat.le_of_ble_eq_true rfl, Nat.le_of_ble_eq_true rfl, Nat.le_of_ble_eq_true rfl⟩ 0 rfl (q := (RX1, TX1, 2)) rfl rfl [0, 1] [] [0, 1] rfl rfl ⟨rfl, rfl, rfl, by decide⟩ (fun _ => rfl) rfl (fun _ => rfl) hl.1 (Nat.le_of_ble_eq_true rfl) rfl dX1_greatestFrom_7 (fun _ _ H locs B => ?_)
  refine lv_lstore_n (lv' := [(2, .long (iL (lrow ρ (ffr (σ 14) f) 0))), (0, .ref a), (1, .int (iI f))]) S.1 S.2.1 (pc := 10) dX1_greatestFrom_10 rfl hl (by decide) rfl (fun ls hl => ?_)
  refine z_aload_n S (pc := 11) dX1_greatestFrom_11 rfl (lv_at hl 1 rfl) ?_
  refine z_iload_n S (pc := 12) dX1_greatestFrom_12 rfl (lv_at hl 2 rfl) ?_
  refine z_callV S (pc := 13) B (wr := [cRow E b ρ]) (wn := fun _ => [cLog a b σ, cRow E b ρ]) (st1 := fun _ => [.int (iI (ffr (σ 14) f))]) (As := [.int (iI f)]) (mX1_firstFrom l E a b σ f (show 0 ≤ σ 14 ∧ σ 14 ≤ 20000 from by omega) (show inI f from by omega)) gX1_greatestFrom_X1_firstFrom 1 rfl (by decide +kernel) ⟨Nat.le_of_ble_eq_true rfl, Nat.le_of_ble_eq_true rfl, Nat.le_of_ble_eq_true rfl, Nat.le_of_ble_eq_true rfl⟩ 0 rfl (q := (RX1, TX1, 2)) rfl rfl [0] [1] [1, 0] rfl rfl ⟨rfl, rfl, rfl, by decide⟩ (fun _ => rfl) rfl (fun _ => rfl) hl.1 (Nat.le_of_ble_eq_true rfl) rfl dX1_greatestFrom_13 (fun _ _ H locs B => ?_)
  refine lv_istore (lv' := [(4, .int (iI (ffr (σ 14) f))), (2, .long (iL (lrow ρ (ffr (σ 14) f) 0))), (0, .ref a), (1, .int (iI f))]) S.1 S.2.1 (pc := 16) dX1_greatestFrom_16 hl (by decide) rfl (fun ls hl => ?_)
  have hl0 : -1099511627776 ≤ lrow ρ (ffr (σ 14) f) 0 ∧ lrow ρ (ffr (σ 14) f) 0 ≤ 1099511627776 := hR _
  obtain ⟨z, hz⟩ : ∃ z, maxL ρ (nfr (σ 14) f).toNat (ffr (σ 14) f) (lrow ρ (ffr (σ 14) f) 0) = z := ⟨_, rfl⟩
  refine lpX1_greatestFrom E S a b σ ρ f h14 hR (nfr (σ 14) f).toNat (ffr (σ 14) f) (lrow ρ (ffr (σ 14) f) 0) ⟨by omega, by omega, by unfold nfr; split <;> omega⟩ hl0 z hz (fun H locs ls B hl => ?_) _ _ _ B (lv_sub hl [2, 3, 1, 0] rfl)
  refine z_lload_n S (pc := 45) dX1_greatestFrom_45 rfl (lv_at hl 2 rfl) ?_
  exact z_lreturn S hr hlk B () trivial (by rw [hz]) rfl (pc := 46) dX1_greatestFrom_46
set_option maxHeartbeats 4000000 in
set_option maxRecDepth 100000 in
theorem mX1_meanFrom (l : Launch) (E : gT) (a : Nat) (b : Nat) (σ : Nat → Int) (ρ : Nat → Int) (f : Int) (h14 : 0 ≤ σ 14 ∧ σ 14 ≤ 20000) (hf : inI f) (hR : inR ρ) (hn : 0 < nfr (σ 14) f) : Cd l E yX1_meanFrom wsX1_meanFrom 4 91 0 0 [.ref a, .int (iI f)] [cLog a b σ, cRow E b ρ] (some (.long (iL ((sumL ρ 0 (nfr (σ 14) f).toNat (ffr (σ 14) f) 0).tdiv (nfr (σ 14) f))))) [cLog a b σ, cRow E b ρ] := by
  refine Ct.mk (cc := cX1_meanFrom) (maxL := 3) (ret := (some .long)) (plainFor_of_name (by decide)) rfl (Nat.le_of_ble_eq_true rfl) ?_
  intro p e s m below meth c A ls H locs S hr hlk hnm B hl
  have S : CallFix p m c cX1_meanFrom 3 s #[.ref a, .int (iI f)] wsX1_meanFrom RX1 := S
  have hl : lv_has ls 3 [(0, .ref a), (1, .int (iI f))] := hl
  have hff := ffr_bd (n := σ 14) (f := f) h14
  have hnf : nfr (σ 14) f ≤ 20000 := by unfold nfr; split <;> omega
  have hs1 := sumL_bd hR 0 (nfr (σ 14) f).toNat (ffr (σ 14) f) 0 0 (by omega) (by omega)
  have hs2 := tdiv_bd (a := sumL ρ 0 (nfr (σ 14) f).toNat (ffr (σ 14) f) 0) (q := nfr (σ 14) f) (B := 1099511627776 * 20000) (by omega) (by omega) (by omega)
  refine z_aload_n S (pc := 0) dX1_meanFrom_0 rfl (lv_at hl 0 rfl) ?_
  refine z_iload_n S (pc := 1) dX1_meanFrom_1 rfl (lv_at hl 1 rfl) ?_
  refine z_callV S (pc := 2) B (wr := [cRow E b ρ]) (wn := fun _ => [cLog a b σ, cRow E b ρ]) (st1 := fun _ => [.int (iI (nfr (σ 14) f))]) (As := [.int (iI f)]) (mX1_numberFrom l E a b σ f (show 0 ≤ σ 14 ∧ σ 14 ≤ 20000 from by omega) (show inI f from by omega)) gX1_meanFrom_X1_numberFrom 1 rfl (by decide +kernel) ⟨Nat.le_of_ble_eq_true rfl, Nat.le_of_ble_eq_true rfl, Nat.le_of_ble_eq_true rfl, Nat.le_of_ble_eq_true rfl⟩ 0 rfl (q := (RX1, TX1, 2)) rfl rfl [0] [1] [1, 0] rfl rfl ⟨rfl, rfl, rfl, by decide⟩ (fun _ => rfl) rfl (fun _ => rfl) hl.1 (Nat.le_of_ble_eq_true rfl) rfl dX1_meanFrom_2 (fun _ _ H locs B => ?_)
  refine lv_istore_n (lv' := [(2, .int (iI (nfr (σ 14) f))), (0, .ref a), (1, .int (iI f))]) S.1 S.2.1 (pc := 5) dX1_meanFrom_5 rfl hl (by decide) rfl (fun ls hl => ?_)
  refine z_iload_n S (pc := 6) dX1_meanFrom_6 rfl (lv_at hl 0 rfl) ?_
  refine z_if_gt S (pc := 7) (tgt := 14) (by omega) dX1_meanFrom_7 rfl (fun c1 => ?_) (fun c1 => absurd c1 (by omega))
  refine z_aload_n S (pc := 14) dX1_meanFrom_14 rfl (lv_at hl 1 rfl) ?_
  refine z_iload_n S (pc := 15) dX1_meanFrom_15 rfl (lv_at hl 2 rfl) ?_
  refine z_iconst S (pc := 16) dX1_meanFrom_16 ?_
  refine z_callV S (pc := 17) B (wr := []) (wn := fun _ => [cLog a b σ, cRow E b ρ]) (st1 := fun _ => [.long (iL (sumL ρ 0 (nfr (σ 14) f).toNat (ffr (σ 14) f) 0))]) (As := [.int (iI f), .int (iI 0)]) (mX1_sumFrom l E a b σ ρ f 0 (show 0 ≤ σ 14 ∧ σ 14 ≤ 20000 from by omega) (show inI f from by omega) (show 0 ≤ 6 from by omega)) gX1_meanFrom_X1_sumFrom 2 rfl (by decide +kernel) ⟨Nat.le_of_ble_eq_true rfl, Nat.le_of_ble_eq_true rfl, Nat.le_of_ble_eq_true rfl, Nat.le_of_ble_eq_true rfl⟩ 0 rfl (q := (RX1, TX1, 2)) rfl rfl [0, 1] [] [0, 1] rfl rfl ⟨rfl, rfl, rfl, by decide⟩ (fun _ => rfl) rfl (fun _ => rfl) hl.1 (Nat.le_of_ble_eq_true rfl) rfl dX1_meanFrom_17 (fun _ _ H locs B => ?_)
  refine z_iload_n S (pc := 20) dX1_meanFrom_20 rfl (lv_at hl 0 rfl) ?_
  refine z_i2l S (pc := 21) (by omega) dX1_meanFrom_21 ?_
  refine z_ldiv S (pc := 22) (by omega) (by omega) (by omega) (by omega) dX1_meanFrom_22 ?_
  exact z_lreturn S hr hlk B () trivial rfl rfl (pc := 23) dX1_meanFrom_23
/-! END log -/
