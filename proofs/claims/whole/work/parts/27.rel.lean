set_option linter.unusedVariables false
/-! the pair's relation -/
theorem iI_self (x : Int32) : iI x.toInt = x := by
  apply Int32.toInt_inj.mp
  rw [iI_toInt (by have h1 := Int32.minValue_le_toInt x; have h2 := Int32.toInt_le x; have e1 : Int32.minValue.toInt = -2147483648 := rfl; have e2 : Int32.maxValue.toInt = 2147483647 := rfl; omega)]
theorem toInt_inI (x : Int32) : inI x.toInt := by
  have h1 := Int32.minValue_le_toInt x
  have h2 := Int32.toInt_le x
  have e1 : Int32.minValue.toInt = -2147483648 := rfl
  have e2 : Int32.maxValue.toInt = 2147483647 := rfl
  omega
abbrev good (σ ρ : Nat → Int) (ov N : Int) : Prop := Sets σ ∧ Nums σ ∧ inR ρ ∧ 0 ≤ σ 11 ∧ σ 11 ≤ 1000000000 + 3300 * σ 14 + 110000 * N ∧ σ 14 ≤ 10000 ∧ (ov = 0 ∨ ov = 1)
abbrev slot (b : Int) (base : Nat) (σ ρ θ : Nat → Int) (ov N : Int) : Prop := (b = 0 ∨ b = 1) ∧ (b = 1 → good σ ρ ov N ∧ ∀ j : Nat, j < 303 → θ (base + j) = mat σ ρ j)
theorem good_N {σ ρ : Nat → Int} {ov N : Int} (h : good σ ρ ov N) : good σ ρ ov (N + 1) := by
  obtain ⟨h1, h2, h3, h4, h5, h6, h7⟩ := h
  exact ⟨h1, h2, h3, h4, by omega, h6, h7⟩
theorem slot_N {b : Int} {base : Nat} {σ ρ θ : Nat → Int} {ov N : Int} (h : slot b base σ ρ θ ov N) : slot b base σ ρ θ ov (N + 1) := ⟨h.1, fun q => ⟨good_N (h.2 q).1, (h.2 q).2⟩⟩
theorem good_lv {σ ρ : Nat → Int} {ov N v : Int} (h : good σ ρ ov N) (hv : -3000000 ≤ v ∧ v ≤ 3000000) : good (up σ 0 v) ρ ov (N + 1) := by
  obtain ⟨h1, h2, h3, h4, h5, h6, h7⟩ := good_N h
  exact ⟨sets_l h1 hv, h2, h3, h4, h5, h6, h7⟩
theorem good_hum {σ ρ : Nat → Int} {ov N am pe : Int} (h : good σ ρ ov N) (ha : 0 ≤ am ∧ am ≤ 1000000) (hp : inPe pe) : good (up (up σ 1 am) 2 pe) ρ ov (N + 1) := by
  obtain ⟨h1, h2, h3, h4, h5, h6, h7⟩ := good_N h
  obtain ⟨s0, s1, s2, s3⟩ := h1
  exact ⟨⟨s0, ha, hp, s3⟩, h2, h3, h4, h5, h6, h7⟩
theorem good_off {σ ρ : Nat → Int} {ov N bi dr : Int} (h : good σ ρ ov N) (ha : -100000 ≤ bi ∧ bi ≤ 100000) (hp : -1000 ≤ dr ∧ dr ≤ 1000) : good (up (up σ 3 bi) 4 dr) ρ ov (N + 1) := by
  obtain ⟨h1, h2, h3, h4, h5, h6, h7⟩ := good_N h
  obtain ⟨s0, s1, s2, s3, s4, s5⟩ := h1
  exact ⟨⟨s0, s1, s2, ha, hp, s5⟩, h2, h3, h4, h5, h6, h7⟩
theorem good_s0 {σ ρ : Nat → Int} {ov N x : Int} (h : good σ ρ ov N) (ha : 4 ≤ x ∧ x ≤ 400) : good (up σ 5 x) ρ ov (N + 1) := by
  obtain ⟨⟨s0, s1, s2, s3, s4, s5, s6, s7, s8, s9, s10⟩, h2, h3, h4, h5, h6, h7⟩ := good_N h
  exact ⟨⟨s0, s1, s2, s3, s4, ha, s6, s7, s8, s9, s10⟩, h2, h3, h4, h5, h6, h7⟩
theorem good_s1 {σ ρ : Nat → Int} {ov N x : Int} (h : good σ ρ ov N) (ha : 1 ≤ x ∧ x ≤ 50) : good (up σ 6 x) ρ ov (N + 1) := by
  obtain ⟨⟨s0, s1, s2, s3, s4, s5, s6, s7, s8, s9, s10⟩, h2, h3, h4, h5, h6, h7⟩ := good_N h
  exact ⟨⟨s0, s1, s2, s3, s4, s5, ha, s7, s8, s9, s10⟩, h2, h3, h4, h5, h6, h7⟩
theorem good_s2 {σ ρ : Nat → Int} {ov N x : Int} (h : good σ ρ ov N) (ha : 0 ≤ x ∧ x ≤ 1) : good (up σ 7 x) ρ ov (N + 1) := by
  obtain ⟨⟨s0, s1, s2, s3, s4, s5, s6, s7, s8, s9, s10⟩, h2, h3, h4, h5, h6, h7⟩ := good_N h
  exact ⟨⟨s0, s1, s2, s3, s4, s5, s6, ha, s8, s9, s10⟩, h2, h3, h4, h5, h6, h7⟩
theorem good_s3 {σ ρ : Nat → Int} {ov N x : Int} (h : good σ ρ ov N) (ha : 0 ≤ x ∧ x ≤ 10) : good (up (up σ 8 x) 13 0) ρ ov (N + 1) := by
  obtain ⟨⟨s0, s1, s2, s3, s4, s5, s6, s7, s8, s9, s10⟩, ⟨n12, n13, n14⟩, h3, h4, h5, h6, h7⟩ := good_N h
  exact ⟨⟨s0, s1, s2, s3, s4, s5, s6, s7, ha, s9, s10⟩, ⟨n12, show (0 : Int) ≤ 0 ∧ (0 : Int) ≤ 10 from by omega, n14⟩, h3, h4, h5, h6, h7⟩
theorem good_s4 {σ ρ : Nat → Int} {ov N x : Int} (h : good σ ρ ov N) (ha : 0 ≤ x ∧ x ≤ 1) : good (up σ 9 x) ρ ov (N + 1) := by
  obtain ⟨⟨s0, s1, s2, s3, s4, s5, s6, s7, s8, s9, s10⟩, h2, h3, h4, h5, h6, h7⟩ := good_N h
  exact ⟨⟨s0, s1, s2, s3, s4, s5, s6, s7, s8, ha, s10⟩, h2, h3, h4, h5, h6, h7⟩
theorem good_s5 {σ ρ : Nat → Int} {ov N x : Int} (h : good σ ρ ov N) (ha : 0 ≤ x ∧ x ≤ 3) : good (up σ 10 x) ρ ov (N + 1) := by
  obtain ⟨⟨s0, s1, s2, s3, s4, s5, s6, s7, s8, s9, s10⟩, h2, h3, h4, h5, h6, h7⟩ := good_N h
  exact ⟨⟨s0, s1, s2, s3, s4, s5, s6, s7, s8, s9, ha⟩, h2, h3, h4, h5, h6, h7⟩
theorem good_read {σ ρ : Nat → Int} {ov N : Int} (hN : N ≤ 600) (h : good σ ρ ov N) (hr : σ 14 < 10000) : good (rdS σ) (rowS σ ρ) (ov0 (rz σ)) (N + 1) := by
  obtain ⟨h1, h2, h3, h4, h5, h6, h7⟩ := h
  have e := rdS_14 σ
  have t := rdS_time h1
  exact ⟨rdS_sets h1, rdS_nums h1 h2 (by omega), rowS_inR h3 h1 h2 (by omega), by omega, by omega, by omega, ovr_01 _ _⟩
theorem good_zero {σ ρ : Nat → Int} {ov N : Int} (h : good σ ρ ov N) : good (up (cvt σ 0) 12 (cnt σ 0)) ρ (ovr σ 0) (N + 1) := by
  obtain ⟨h1, h2, h3, h4, h5, h6, h7⟩ := h
  have t := zrS_time h1
  have e : zrS σ 14 = σ 14 := rfl
  exact ⟨zrS_sets h1, zrS_nums h1 h2, h3, show 0 ≤ zrS σ 11 from by omega, show zrS σ 11 ≤ 1000000000 + 3300 * σ 14 + 110000 * (N + 1) from by omega, h6, ovr_01 _ _⟩
theorem good_pass {σ ρ : Nat → Int} {ov N n : Int} (hN : 0 ≤ N) (h : good σ ρ ov N) (h0 : 1 ≤ n) (hw : σ 11 + n ≤ 1000000000) : good (up σ 11 (σ 11 + n)) ρ ov (N + 1) := by
  obtain ⟨h1, h2, h3, h4, h5, h6, h7⟩ := h
  have h14 := h2.2.2.1
  exact ⟨h1, h2, h3, show 0 ≤ σ 11 + n from by omega, show σ 11 + n ≤ 1000000000 + 3300 * σ 14 + 110000 * (N + 1) from by omega, h6, h7⟩
theorem good_run {κ ν σ ρ : Nat → Int} {ov N st ov2 : Int} (hN : 0 ≤ N ∧ N ≤ 600) (h : good σ ρ ov N) (hst : 0 ≤ st ∧ st ≤ 59) (hok : okP κ ν st) (hm : σ 14 + sumS κ ν st.toNat 0 0 ≤ 10000) (ho : ov2 = 0 ∨ ov2 = 1) : good (exeL κ ν st.toNat 0 σ ρ).2.1 (exeL κ ν st.toNat 0 σ ρ).2.2 ov2 (N + 1) := by
  obtain ⟨h1, h2, h3, h4, h5, h6, h7⟩ := h
  have e := sumS_add (κ := κ) (ν := ν) st.toNat 0 (σ 14) 0
  rw [Int.add_zero] at e
  obtain ⟨-, k1, k2, k3, k4, k5, k6⟩ := exeL_keeps hok st.toNat (1000000000 + 110000 * N) 0 σ ρ (by omega) (by omega) (by omega) h1 h2 h3 h4 (by omega) (by omega)
  exact ⟨k1, k2, k3, k4, by omega, k6, ho⟩
theorem run_01 {κ ν σ ρ : Nat → Int} {ov N st : Int} (hN : 0 ≤ N ∧ N ≤ 600) (h : good σ ρ ov N) (hst : 0 ≤ st ∧ st ≤ 59) (hok : okP κ ν st) (hm : σ 14 + sumS κ ν st.toNat 0 0 ≤ 10000) : (exeL κ ν st.toNat 0 σ ρ).1 = 0 ∨ (exeL κ ν st.toNat 0 σ ρ).1 = 1 := by
  obtain ⟨h1, h2, h3, h4, h5, h6, h7⟩ := h
  have e := sumS_add (κ := κ) (ν := ν) st.toNat 0 (σ 14) 0
  rw [Int.add_zero] at e
  exact (exeL_keeps hok st.toNat (1000000000 + 110000 * N) 0 σ ρ (by omega) (by omega) (by omega) h1 h2 h3 h4 (by omega) (by omega)).1
/-! reading the script; equal answers -/
section ZO
variable {p : Program} {l : Launch} {e : Env} {R : Room} {s : State} {m : MethodId} {args : Array Value} {below : List Frame} {meth : Method} {c : Code} {H : Heap} {locs : List Loc} {cells slots : Nat} {Q : State → Prop}
variable {cc : ByteArray} {nL pc tgt : Nat} {ls : Array Slot} {rest : List Value} {Ts : List Cond} {own : String} {E : gT} {A : Nat → Prop} {ws : va_W}
theorem z_sld (S : CallFix p m c cc nL s args Ts own) (B : bw E A s H locs ws) {b L : Nat} {xs : Nat → Int32} (hX : va_X b L xs s s.heap) (hbl : b < s.heap.size) (hbA : ¬ A b) {x : Int} {k : Nat} (hx : x = (k : Int)) (hk : k < L) (hL : L ≤ 2560) (hdg : decode cc pc = .ok (.iaload, 1))
    (kk : W p l e R s m args below meth c H locs cells slots Q (F0 m (pc + 1) ls (.int (iI (xs k).toInt) :: rest))) : W p l e R s m args below meth c H locs cells slots Q (F0 m pc ls (.int (iI x) :: .ref b :: rest)) := by
  have e1 : (iI x).toNatClampNeg = k := iI_nat hx (by omega)
  have hneg : ¬ iI x < 0 := by
    rw [show (0 : Int32) = iI 0 from rfl, iI_lt (by omega) (by omega)]
    omega
  refine va_sld S.1 S.2.1 hX hbl hbA B.2.2.2.1 (i := iI x) (fun z => by rcases z with z | z; exact hneg z; rw [e1] at z; omega) hdg ?_
  rw [e1, ← iI_self (xs k)]
  exact kk
theorem z_slen (S : CallFix p m c cc nL s args Ts own) (B : bw E A s H locs ws) {b L : Nat} {xs : Nat → Int32} (hX : va_X b L xs s s.heap) (hbl : b < s.heap.size) (hbA : ¬ A b) (hdg : decode cc pc = .ok (.arraylength, 1))
    (kk : W p l e R s m args below meth c H locs cells slots Q (F0 m (pc + 1) ls (.int (iI (L : Int)) :: rest))) : W p l e R s m args below meth c H locs cells slots Q (F0 m pc ls (.ref b :: rest)) :=
  va_slen S.1 S.2.1 hX hbl hbA B.2.2.2.1 hdg kk
theorem z_same (S : CallFix p m c cc nL s args Ts own) {v : Int32} {off : Int} (hdg : decode cc pc = .ok (.if_icmp .eq off, 3)) (ht : (pc : Int) + off = (tgt : Int)) (kk : W p l e R s m args below meth c H locs cells slots Q (F0 m tgt ls rest)) : W p l e R s m args below meth c H locs cells slots Q (F0 m pc ls (.int v :: .int v :: rest)) :=
  lv_icmp_eq S.1 S.2.1 hdg ht (fun _ => kk) (fun q => absurd rfl q)
theorem z_sameL (S : CallFix p m c cc nL s args Ts own) {v : Int} {off : Int} (hd1 : decode cc pc = .ok (.lcmp, 1)) (hdg : decode cc (pc + 1) = .ok (.ifCond .eq off, 3)) (ht : ((pc + 1 : Nat) : Int) + off = (tgt : Int)) (kk : W p l e R s m args below meth c H locs cells slots Q (F0 m tgt ls rest)) : W p l e R s m args below meth c H locs cells slots Q (F0 m pc ls (.long (iL v) :: .long (iL v) :: rest)) := by
  refine W.lcmp S.1 S.2.1 hd1 ?_
  rw [cmp_eq rfl]
  exact z_if_eq S (by omega) hdg ht (fun _ => kk) (fun q => absurd rfl q)
end ZO
/-! END rel -/
