set_option linter.unusedVariables false
/-! what the cells hold -/
abbrev cSig (a : Nat) (σ : Nat → Int) : Nat × va_E := (a, .inr (5, [.int (iI (σ 0)), .int (iI (σ 1)), .int (iI (σ 2)), .int (iI (σ 3)), .int (iI (σ 4))]))
abbrev cSet (a : Nat) (σ : Nat → Int) : Nat × va_E := (a, .inr (4, [.int (iI (σ 5)), .int (iI (σ 6)), .int (iI (σ 7)), .int (iI (σ 8)), .int (iI (σ 9)), .int (iI (σ 10))]))
abbrev cCon (a : Nat) (σ : Nat → Int) (ov : Int) : Nat × va_E := (a, .inr (0, [.int (iI (σ 22)), .int (iI ov), .int (iI (σ 15)), .int (iI (σ 16)), .int (iI (σ 17)), .int (iI (σ 18)), .int (iI (σ 19)), .long (iL (σ 20)), .long (iL (σ 21))]))
abbrev cMet (a b c d : Nat) (σ : Nat → Int) (rr rb rn : Int) : Nat × va_E := (a, .inr (2, [.ref b, .ref c, .ref d, .int (iI (σ 11)), .int (iI (σ 12)), .int (iI (σ 13)), .int (iI rr), .int (iI rb), .long (iL rn)]))
abbrev cLog (a r : Nat) (σ : Nat → Int) : Nat × va_E := (a, .inr (1, [.ref r, .int (iI (σ 14))]))
abbrev cRow (E : gT) (a : Nat) (ρ : Nat → Int) : Nat × va_E := (a, .inl (E.2.1 2, 280, .inr (.inl (lat ρ))))
abbrev cSta (a m g : Nat) : Nat × va_E := (a, .inr (6, [.ref m, .ref g]))
abbrev cSlo (a b c d e f g : Nat) : Nat × va_E := (a, .inr (7, [.ref b, .ref c, .ref d, .ref e, .ref f, .ref g]))
abbrev sv (a b : Nat) : Nat → Option Nat := fun k => match k with | 0 => some a | _ => some b
abbrev cSav (E : gT) (a s0 s1 : Nat) : Nat × va_E := (a, .inl (E.2.1 4, 2, .inr (.inr (.inr (.inr (sv s0 s1))))))
abbrev cIsv (E : gT) (a : Nat) (β : Nat → Int) : Nat × va_E := (a, .inl (E.2.1 3, 2, .inl (iat β)))
abbrev cPad (a b c d : Nat) (len stp atp num : Int) : Nat × va_E := (a, .inr (3, [.ref b, .int (iI len), .ref c, .ref d, .int (iI stp), .int (iI atp), .int (iI num)]))
abbrev cChr (E : gT) (a : Nat) (χ : Nat → Int) : Nat × va_E := (a, .inl (E.2.1 0, 60, .inl (iat χ)))
abbrev cInt (E : gT) (a n : Nat) (χ : Nat → Int) : Nat × va_E := (a, .inl (E.2.1 1, n, .inl (iat χ)))
abbrev cMod (a b c d e f g : Nat) (pm ig mo rd wr sm : Int) : Nat × va_E := (a, .inr (8, [.ref b, .ref c, .ref d, .ref e, .ref f, .int (iI pm), .long (iL ig), .int (iI mo), .int (iI rd), .int (iI wr), .ref g, .int (iI sm)]))
abbrev cAt (E : gT) (a : Nat) (σ ρ : Nat → Int) : Nat × va_E := (a, .inl (E.2.1 2, 303, .inr (.inl (lat (mat σ ρ)))))
abbrev cLon (E : gT) (a n : Nat) (χ : Nat → Int) : Nat × va_E := (a, .inl (E.2.1 2, n, .inr (.inl (lat χ))))
/-! the tables, by whole numbers -/
def loS (x : Int) : Int := if x < 0 ∨ 6 ≤ x then 0 else tLo x.toNat
def hiS (x : Int) : Int := if x < 0 ∨ 6 ≤ x then 0 else tHi x.toNat
def gnS (x : Int) : Int := if x < 0 ∨ 4 ≤ x then 1 else tG x.toNat
theorem tLo_at {x : Int} (h : 0 ≤ x ∧ x < 6) : tLo x.toNat = loS x := by
  unfold loS
  rw [if_neg (by omega)]
theorem tHi_at {x : Int} (h : 0 ≤ x ∧ x < 6) : tHi x.toNat = hiS x := by
  unfold hiS
  rw [if_neg (by omega)]
theorem tG_at {x : Int} (h : 0 ≤ x ∧ x < 4) : tG x.toNat = gnS x := by
  unfold gnS
  rw [if_neg (by omega)]
theorem gnS_gn {x : Int} (h : 0 ≤ x ∧ x ≤ 3) : gnS x = gn x := by
  have h1 : x = 0 ∨ x = 1 ∨ x = 2 ∨ x = 3 := by omega
  rcases h1 with rfl | rfl | rfl | rfl <;> rfl
theorem tdiv_n {a b : Int} (h : 0 ≤ a) : a.tdiv b = a / b := Int.tdiv_eq_ediv_of_nonneg h
theorem tmod_n {a b : Int} (h : 0 ≤ a) : a.tmod b = a % b := Int.tmod_eq_emod_of_nonneg h
theorem xor_nn (x y : Int32) (hy : 0 ≤ y.toInt) : 0 ≤ (x ^^^ y).toInt ↔ 0 ≤ x.toInt := by
  have h1 : ∀ z : Int32, (0 ≤ z.toInt ↔ z.toBitVec.msb = false) := by
    intro z
    have : z.toBitVec.msb = decide (z.toBitVec.toInt < 0) := BitVec.msb_eq_toInt
    rw [this]
    show 0 ≤ z.toBitVec.toInt ↔ _
    simp only [decide_eq_false_iff_not]
    omega
  rw [h1, h1, Int32.toBitVec_xor, BitVec.msb_xor, (h1 y).mp hy, Bool.xor_false]
section ZM
variable {p : Program} {l : Launch} {e : Env} {R : Room} {s : State} {m : MethodId} {args : Array Value} {below : List Frame} {meth : Method} {c : Code} {H : Heap} {locs : List Loc} {cells slots : Nat} {Q : State → Prop}
variable {cc : ByteArray} {nL pc tgt : Nat} {ls : Array Slot} {rest : List Value} {Ts : List Cond} {own : String} {E : gT} {A : Nat → Prop} {ws : va_W} {a b : Int} {off : Int}
theorem z_idivn (S : CallFix p m c cc nL s args Ts own) (ha : 0 ≤ a ∧ a ≤ 2147483647) (hb : 0 < b ∧ b ≤ 2147483647) (hdg : decode cc pc = .ok (.idiv, 1)) (k : W p l e R s m args below meth c H locs cells slots Q (F0 m (pc + 1) ls (.int (iI (a / b)) :: rest))) : W p l e R s m args below meth c H locs cells slots Q (F0 m pc ls (.int (iI b) :: .int (iI a) :: rest)) := by
  have h1 : 0 ≤ a / b := Int.ediv_nonneg ha.1 (by omega)
  have h2 : a / b ≤ a := Int.ediv_le_self _ ha.1
  refine z_idiv S (by omega) (by omega) (by omega) (by rw [tdiv_n ha.1]; omega) hdg ?_
  rw [tdiv_n ha.1]
  exact k
theorem z_iremn (S : CallFix p m c cc nL s args Ts own) (ha : 0 ≤ a ∧ a ≤ 2147483647) (hb : 0 < b ∧ b ≤ 2147483647) (hdg : decode cc pc = .ok (.irem, 1)) (k : W p l e R s m args below meth c H locs cells slots Q (F0 m (pc + 1) ls (.int (iI (a % b)) :: rest))) : W p l e R s m args below meth c H locs cells slots Q (F0 m pc ls (.int (iI b) :: .int (iI a) :: rest)) := by
  have h1 : 0 ≤ a / b := Int.ediv_nonneg ha.1 (by omega)
  have h2 : a / b ≤ a := Int.ediv_le_self _ ha.1
  refine z_irem S (by omega) (by omega) (by omega) (by rw [tdiv_n ha.1]; omega) hdg ?_
  rw [tmod_n ha.1]
  exact k
theorem z_ldivn (S : CallFix p m c cc nL s args Ts own) (ha : 0 ≤ a ∧ a ≤ 9223372036854775807) (hb : 0 < b ∧ b ≤ 9223372036854775807) (hdg : decode cc pc = .ok (.ldiv, 1)) (k : W p l e R s m args below meth c H locs cells slots Q (F0 m (pc + 1) ls (.long (iL (a / b)) :: rest))) : W p l e R s m args below meth c H locs cells slots Q (F0 m pc ls (.long (iL b) :: .long (iL a) :: rest)) := by
  have h1 : 0 ≤ a / b := Int.ediv_nonneg ha.1 (by omega)
  have h2 : a / b ≤ a := Int.ediv_le_self _ ha.1
  refine z_ldiv S (by omega) (by omega) (by omega) (by rw [tdiv_n ha.1]; omega) hdg ?_
  rw [tdiv_n ha.1]
  exact k
theorem z_lremn (S : CallFix p m c cc nL s args Ts own) (ha : 0 ≤ a ∧ a ≤ 9223372036854775807) (hb : 0 < b ∧ b ≤ 9223372036854775807) (hdg : decode cc pc = .ok (.lrem, 1)) (k : W p l e R s m args below meth c H locs cells slots Q (F0 m (pc + 1) ls (.long (iL (a % b)) :: rest))) : W p l e R s m args below meth c H locs cells slots Q (F0 m pc ls (.long (iL b) :: .long (iL a) :: rest)) := by
  have h1 : 0 ≤ a / b := Int.ediv_nonneg ha.1 (by omega)
  have h2 : a / b ≤ a := Int.ediv_le_self _ ha.1
  refine z_lrem S (by omega) (by omega) (by omega) (by rw [tdiv_n ha.1]; omega) hdg ?_
  rw [tmod_n ha.1]
  exact k
theorem z_tsw (S : CallFix p m c cc nL s args Ts own) {dflt lo hi : Int} {offs : Array Int} {len : Nat} (ha : inI a) (hdg : decode cc pc = .ok (.tableswitch dflt lo hi offs, len)) (h1 : lo ≤ a ∧ a ≤ hi) (ho : offs[(a - lo).toNat]? = some off) (ht : (pc : Int) + off = (tgt : Int)) (k : W p l e R s m args below meth c H locs cells slots Q (F0 m tgt ls rest)) : W p l e R s m args below meth c H locs cells slots Q (F0 m pc ls (.int (iI a) :: rest)) := lv_tableIn S.1 S.2.1 hdg (by rw [iI_toInt ha]; omega) (by rw [iI_toInt ha]; omega) (by rw [iI_toInt ha]; exact ho) ht k
theorem z_tswD (S : CallFix p m c cc nL s args Ts own) {dflt lo hi : Int} {offs : Array Int} {len : Nat} (ha : inI a) (hdg : decode cc pc = .ok (.tableswitch dflt lo hi offs, len)) (h1 : a < lo ∨ hi < a) (ht : (pc : Int) + dflt = (tgt : Int)) (k : W p l e R s m args below meth c H locs cells slots Q (F0 m tgt ls rest)) : W p l e R s m args below meth c H locs cells slots Q (F0 m pc ls (.int (iI a) :: rest)) := lv_tableOut S.1 S.2.1 hdg (by rw [iI_toInt ha]; omega) ht k
theorem z_lsw (S : CallFix p m c cc nL s args Ts own) {dflt : Int} {ps : Array (Int × Int)} {len : Nat} (ha : inI a) (hdg : decode cc pc = .ok (.lookupswitch dflt ps, len)) (hp : (ps.toList.zip (ps.toList.drop 1)).all (fun (x, next) => x.1 < next.1) = true) (ho : Op.lookupswitch.offset ps.toList dflt a = off) (ht : (pc : Int) + off = (tgt : Int)) (k : W p l e R s m args below meth c H locs cells slots Q (F0 m tgt ls rest)) : W p l e R s m args below meth c H locs cells slots Q (F0 m pc ls (.int (iI a) :: rest)) := lv_lookup S.1 S.2.1 hdg hp (by rw [iI_toInt ha]; exact ho) ht k
theorem z_xorge (S : CallFix p m c cc nL s args Ts own) (ha : inI a) (hb : 0 ≤ b ∧ b ≤ 2147483647) (hd1 : decode cc pc = .ok (.ixor, 1)) (hdg : decode cc (pc + 1) = .ok (.ifCond .ge off, 3)) (ht : ((pc + 1 : Nat) : Int) + off = (tgt : Int)) (kt : 0 ≤ a → W p l e R s m args below meth c H locs cells slots Q (F0 m tgt ls rest)) (kf : a < 0 → W p l e R s m args below meth c H locs cells slots Q (F0 m (pc + 4) ls rest)) : W p l e R s m args below meth c H locs cells slots Q (F0 m pc ls (.int (iI b) :: .int (iI a) :: rest)) := by
  refine lv_ixor S.1 S.2.1 hd1 ?_
  have e := xor_nn (iI a) (iI b) (by rw [iI_toInt (by omega)]; omega)
  rw [iI_toInt ha] at e
  have z0 : (0 : Int32).toInt = 0 := rfl
  exact lv_if_ge S.1 S.2.1 hdg ht (fun q => kt (e.mp (by rw [Int32.le_iff_toInt_le, z0] at q; exact q))) (fun q => kf (by
    rw [Int32.le_iff_toInt_le, z0, e] at q
    omega))
theorem arrV_ext {cI : ClassId} {N : Nat} {f g : Nat → Value} (h : ∀ k, k < N → f k = g k) : arrV cI N f = arrV cI N g := by
  unfold arrV
  have e : (fun j : Fin N => f j.val) = fun j : Fin N => g j.val := funext fun j => h j.val j.isLt
  rw [e]
theorem bw_ext (B : bw E A s H locs ws) {ad : Nat} (q0 : Nat) {x y : va_E} (ha : ws[q0]? = some (ad, x)) (hxy : ∀ H : Heap, va_at E.1 vwCl (ad, x) H → va_at E.1 vwCl (ad, y) H) {wn : va_W} (hw : ws.set q0 (ad, y) = wn) : bw E A s H locs wn := by
  subst hw
  refine ⟨B.1, ?_, B.2.2.1.set ha, B.2.2.2⟩
  intro k q hk
  by_cases hkp : k = q0
  · subst hkp
    rw [List.getElem?_set_self (List.getElem?_eq_some_iff.mp ha).1] at hk
    cases hk
    exact hxy H (B.2.1 _ _ ha)
  · rw [List.getElem?_set_ne (Ne.symm hkp)] at hk
    exact B.2.1 k q hk
theorem bw_extL (B : bw E A s H locs ws) {ad : Nat} (q0 : Nat) {cA : ClassId} {n : Nat} {f g : Nat → Int64} (ha : ws[q0]? = some (ad, .inl (cA, n, .inr (.inl f)))) (hfg : ∀ k, k < n → f k = g k) {wn : va_W} (hw : ws.set q0 (ad, .inl (cA, n, .inr (.inl g))) = wn) : bw E A s H locs wn :=
  bw_ext B q0 ha (fun H h => by
    show H[ad]? = some (vp_cell _ _)
    have h1 : H[ad]? = some (vp_cell cA (n, .inr (.inl f))) := h
    rw [h1, vp_cell_l, vp_cell_l, arrV_ext (fun k hk => by rw [hfg k hk])]) hw
theorem bw_extI (B : bw E A s H locs ws) {ad : Nat} (q0 : Nat) {cA : ClassId} {n : Nat} {f g : Nat → Int32} (ha : ws[q0]? = some (ad, .inl (cA, n, .inl f))) (hfg : ∀ k, k < n → f k = g k) {wn : va_W} (hw : ws.set q0 (ad, .inl (cA, n, .inl g)) = wn) : bw E A s H locs wn :=
  bw_ext B q0 ha (fun H h => by
    show H[ad]? = some (vp_cell _ _)
    have h1 : H[ad]? = some (vp_cell cA (n, .inl f)) := h
    rw [h1, vp_cell_i, vp_cell_i, arrV_ext (fun k hk => by rw [hfg k hk])]) hw
theorem z_copyl (S : CallFix p m c cc nL s args Ts own) (B : bw E A s H locs ws) {index : Nat} (hlink : Cond.methodLink own index arraycopyName ∈ Ts) (hnat : Cond.native arraycopyName ∈ Ts) (hstat : Cond.static arraycopyName ∈ Ts) (hini : Cond.initialized "java/lang/System" ∈ Ts) (hsz : ls.size = nL) (q0 q1 : Nat) {a0 a1 n : Nat} {f g : Nat → Int64} (ha0 : ws[q0]? = some (a0, .inl (E.2.1 2, n, .inr (.inl f)))) (ha1 : ws[q1]? = some (a1, .inl (E.2.1 2, n, .inr (.inl g)))) (hn : n < 2147483648) {x : Int} (hx : x = (n : Int)) (hfr : 1 ≤ R.frames) (hlo : (rest.map fun v => v.category).sum + (nativeFrameWords "java/lang/System" "arraycopy" 5 + 11) ≤ R.locals) (hdg : decode cc pc = .ok (.invokestatic index, 3)) {wn : va_W} (hw : ws.set q1 (a1, .inl (E.2.1 2, n, .inr (.inl f))) = wn) (kk : ∀ (H1 : Heap) (locs1 : List Loc), bw E A s H1 locs1 wn → W p l e R s m args below meth c H1 locs1 cells slots Q (F0 m (pc + 3) ls rest)) : W p l e R s m args below meth c H locs cells slots Q (F0 m pc ls (.int (iI x) :: .int (iI 0) :: .ref a1 :: .int (iI 0) :: .ref a0 :: rest)) := by
  have e0 : (iI 0).toNatClampNeg = 0 := rfl
  have en : (iI x).toNatClampNeg = n := iI_nat hx hn
  have p0 : ¬ iI 0 < 0 := by decide
  have pn : ¬ iI x < 0 := by
    rw [show (0 : Int32) = iI 0 from rfl, iI_lt (by omega) (by omega)]
    omega
  have l1 := (List.getElem?_eq_some_iff.mp ha1).1
  refine va_copyl S.1 S.2.1 (S.2.2.1.trans hsz.symm) S.2.2.2.1 (S.2.2.2.2 _ hlink) (S.2.2.2.2 _ hnat) (S.2.2.2.2 _ hstat) (S.2.2.2.2 _ hini) B.1 B.2.1 B.2.2.1 B.2.2.2.1 q0 q1 2 2 ha0 ha1 rfl rfl rfl p0 p0 pn (by rw [e0, en]; omega) (by rw [e0, en]; omega) (fun _ _ => rfl) hfr hlo hdg (fun H1 locs1 h1 h2 h3 => ?_)
  rw [e0, en] at h1 h2
  refine kk H1 locs1 (bw_extL (f := va_cpy f g 0 0 n) (g := f) (wn := wn) ⟨B.1, h1, h2, h3, B.2.2.2.2⟩ q1 (List.getElem?_set_self l1) (fun k hk => ?_) ?_)
  · rw [pk_cpy_in (Nat.zero_le k) (by omega)]
    rw [Nat.zero_add, Nat.sub_zero]
  · rw [List.set_set]
    exact hw
end ZM
set_option maxHeartbeats 4000000 in
set_option maxRecDepth 100000 in
theorem mX7_limited (l : Launch) (E : gT) (v : Int) (k : Int) (hv : inL v) (hk : 0 ≤ k ∧ k ≤ 1000000000) : Cd l E yX7_limited wsX7_limited 0 0 0 0 [.long (iL v), .long (iL k)] [] (some (.long (iL (lim v k)))) [] := by
  refine Ct.mk (cc := cX7_limited) (maxL := 4) (ret := (some .long)) (plainFor_of_name (by decide)) rfl (Nat.le_of_ble_eq_true rfl) ?_
  intro p e s m below meth c A ls H locs S hr hlk hnm B hl
  have S : CallFix p m c cX7_limited 4 s #[.long (iL v), .long (iL k)] wsX7_limited RX7 := S
  have hl : lv_has ls 4 [(0, .long (iL v)), (2, .long (iL k))] := hl
  refine z_lload_n S (pc := 0) dX7_limited_0 rfl (lv_at hl 0 rfl) ?_
  refine z_lload_n S (pc := 1) dX7_limited_1 rfl (lv_at hl 1 rfl) ?_
  refine z_lc_le S (pc := 2) (tgt := 8) (by omega) (by omega) dX7_limited_2 dX7_limited_3 rfl (fun c1 => ?_) (fun c1 => ?_)
  · refine z_lload_n S (pc := 8) dX7_limited_8 rfl (lv_at hl 0 rfl) ?_
    refine z_lload_n S (pc := 9) dX7_limited_9 rfl (lv_at hl 1 rfl) ?_
    refine z_lneg S (pc := 10) dX7_limited_10 ?_
    refine z_lc_ge S (pc := 11) (tgt := 20) (by omega) (by omega) dX7_limited_11 dX7_limited_12 rfl (fun c2 => ?_) (fun c2 => ?_)
    · refine z_lload_n S (pc := 20) dX7_limited_20 rfl (lv_at hl 0 rfl) ?_
      exact z_lreturn S hr hlk B () trivial (by unfold lim; first | rw [if_pos (by omega)] | rw [if_neg (by omega), if_pos (by omega)] | rw [if_neg (by omega), if_neg (by omega)]) rfl (pc := 21) dX7_limited_21
    · refine z_lload_n S (pc := 15) dX7_limited_15 rfl (lv_at hl 1 rfl) ?_
      refine z_lneg S (pc := 16) dX7_limited_16 ?_
      refine lv_goto S.1 S.2.1 (pc := 17) (tgt := 21) dX7_limited_17 rfl ?_
      exact z_lreturn S hr hlk B () trivial (by unfold lim; first | rw [if_pos (by omega)] | rw [if_neg (by omega), if_pos (by omega)] | rw [if_neg (by omega), if_neg (by omega)]) rfl (pc := 21) dX7_limited_21
  · refine z_lload_n S (pc := 6) dX7_limited_6 rfl (lv_at hl 1 rfl) ?_
    exact z_lreturn S hr hlk B () trivial (by unfold lim; first | rw [if_pos (by omega)] | rw [if_neg (by omega), if_pos (by omega)] | rw [if_neg (by omega), if_neg (by omega)]) rfl (pc := 7) dX7_limited_7
set_option maxHeartbeats 4000000 in
set_option maxRecDepth 100000 in
theorem mX7_isOutside (l : Launch) (E : gT) (v : Int) (a : Int) (b : Int) (hv : inI v ∧ inI a ∧ inI b) : Cd l E yX7_isOutside wsX7_isOutside 0 0 0 0 [.int (iI v), .int (iI a), .int (iI b)] [] (some (.int (iI (bI (v < a ∨ b < v))))) [] := by
  refine Ct.mk (cc := cX7_isOutside) (maxL := 3) (ret := (some .boolean)) (plainFor_of_name (by decide)) rfl (Nat.le_of_ble_eq_true rfl) ?_
  intro p e s m below meth c A ls H locs S hr hlk hnm B hl
  have S : CallFix p m c cX7_isOutside 3 s #[.int (iI v), .int (iI a), .int (iI b)] wsX7_isOutside RX7 := S
  have hl : lv_has ls 3 [(0, .int (iI v)), (1, .int (iI a)), (2, .int (iI b))] := hl
  refine z_iload_n S (pc := 0) dX7_isOutside_0 rfl (lv_at hl 0 rfl) ?_
  refine z_iload_n S (pc := 1) dX7_isOutside_1 rfl (lv_at hl 1 rfl) ?_
  refine z_icmp_lt S (pc := 2) (tgt := 10) (by omega) (by omega) dX7_isOutside_2 rfl (fun c1 => ?_) (fun c1 => ?_)
  · refine z_iconst S (pc := 10) dX7_isOutside_10 ?_
    refine lv_goto S.1 S.2.1 (pc := 11) (tgt := 15) dX7_isOutside_11 rfl ?_
    exact z_zreturn S (by omega) hr hlk B () trivial (by rw [bI_t (by omega)]) rfl (pc := 15) dX7_isOutside_15
  · refine z_iload_n S (pc := 5) dX7_isOutside_5 rfl (lv_at hl 0 rfl) ?_
    refine z_iload_n S (pc := 6) dX7_isOutside_6 rfl (lv_at hl 2 rfl) ?_
    refine z_icmp_le S (pc := 7) (tgt := 14) (by omega) (by omega) dX7_isOutside_7 rfl (fun c2 => ?_) (fun c2 => ?_)
    · refine z_iconst S (pc := 14) dX7_isOutside_14 ?_
      exact z_zreturn S (by omega) hr hlk B () trivial (by rw [bI_f (by omega)]) rfl (pc := 15) dX7_isOutside_15
    · refine z_iconst S (pc := 10) dX7_isOutside_10 ?_
      refine lv_goto S.1 S.2.1 (pc := 11) (tgt := 15) dX7_isOutside_11 rfl ?_
      exact z_zreturn S (by omega) hr hlk B () trivial (by rw [bI_t (by omega)]) rfl (pc := 15) dX7_isOutside_15
set_option maxHeartbeats 4000000 in
set_option maxRecDepth 100000 in
theorem mX7_isNoSetting (l : Launch) (E : gT) (v : Int) (hv : inI v) : Cd l E yX7_isNoSetting wsX7_isNoSetting 0 0 0 0 [.int (iI v)] [] (some (.int (iI (bI (v < 0 ∨ 6 ≤ v))))) [] := by
  refine Ct.mk (cc := cX7_isNoSetting) (maxL := 1) (ret := (some .boolean)) (plainFor_of_name (by decide)) rfl (Nat.le_of_ble_eq_true rfl) ?_
  intro p e s m below meth c A ls H locs S hr hlk hnm B hl
  have S : CallFix p m c cX7_isNoSetting 1 s #[.int (iI v)] wsX7_isNoSetting RX7 := S
  have hl : lv_has ls 1 [(0, .int (iI v))] := hl
  refine z_iload_n S (pc := 0) dX7_isNoSetting_0 rfl (lv_at hl 0 rfl) ?_
  refine z_if_lt S (pc := 1) (tgt := 20) (by omega) dX7_isNoSetting_1 rfl (fun c1 => ?_) (fun c1 => ?_)
  · refine z_iconst S (pc := 20) dX7_isNoSetting_20 ?_
    refine lv_goto S.1 S.2.1 (pc := 21) (tgt := 25) dX7_isNoSetting_21 rfl ?_
    exact z_zreturn S (by omega) hr hlk B () trivial (by rw [bI_t (by omega)]) rfl (pc := 25) dX7_isNoSetting_25
  · refine z_iload_n S (pc := 4) dX7_isNoSetting_4 rfl (lv_at hl 0 rfl) ?_
    refine z_gs1 S (pc := 5) B (by decide +kernel) dX7_isNoSetting_5 ?_
    refine z_tn1 S (pc := 8) B dX7_isNoSetting_8 ?_
    refine z_icmp_ge S (pc := 9) (tgt := 20) (by omega) (by omega) dX7_isNoSetting_9 rfl (fun c2 => ?_) (fun c2 => ?_)
    · refine z_iconst S (pc := 20) dX7_isNoSetting_20 ?_
      refine lv_goto S.1 S.2.1 (pc := 21) (tgt := 25) dX7_isNoSetting_21 rfl ?_
      exact z_zreturn S (by omega) hr hlk B () trivial (by rw [bI_t (by omega)]) rfl (pc := 25) dX7_isNoSetting_25
    · refine z_iload_n S (pc := 12) dX7_isNoSetting_12 rfl (lv_at hl 0 rfl) ?_
      refine z_gs2 S (pc := 13) B (by decide +kernel) dX7_isNoSetting_13 ?_
      refine z_tn2 S (pc := 16) B dX7_isNoSetting_16 ?_
      refine z_icmp_lt S (pc := 17) (tgt := 24) (by omega) (by omega) dX7_isNoSetting_17 rfl (fun c3 => ?_) (fun c3 => ?_)
      · refine z_iconst S (pc := 24) dX7_isNoSetting_24 ?_
        exact z_zreturn S (by omega) hr hlk B () trivial (by rw [bI_f (by omega)]) rfl (pc := 25) dX7_isNoSetting_25
      · refine z_iconst S (pc := 20) dX7_isNoSetting_20 ?_
        refine lv_goto S.1 S.2.1 (pc := 21) (tgt := 25) dX7_isNoSetting_21 rfl ?_
        exact z_zreturn S (by omega) hr hlk B () trivial (by rw [bI_t (by omega)]) rfl (pc := 25) dX7_isNoSetting_25
set_option maxHeartbeats 4000000 in
set_option maxRecDepth 100000 in
theorem mX7_leastOf (l : Launch) (E : gT) (v : Int) (hv : inI v) : Cd l E yX7_leastOf wsX7_leastOf 1 20 0 0 [.int (iI v)] [] (some (.int (iI (loS v)))) [] := by
  refine Ct.mk (cc := cX7_leastOf) (maxL := 1) (ret := (some .int)) (plainFor_of_name (by decide)) rfl (Nat.le_of_ble_eq_true rfl) ?_
  intro p e s m below meth c A ls H locs S hr hlk hnm B hl
  have S : CallFix p m c cX7_leastOf 1 s #[.int (iI v)] wsX7_leastOf RX7 := S
  have hl : lv_has ls 1 [(0, .int (iI v))] := hl
  refine z_iload_n S (pc := 0) dX7_leastOf_0 rfl (lv_at hl 0 rfl) ?_
  refine z_callS S (pc := 1) B (wr := []) (wn := fun _ => []) (st1 := fun _ => [.int (iI (bI (v < 0 ∨ 6 ≤ v)))]) (As := [.int (iI v)]) (mX7_isNoSetting l E v (show inI v from by omega)) gX7_leastOf_X7_isNoSetting 1 rfl (by decide +kernel) ⟨Nat.le_of_ble_eq_true rfl, Nat.le_of_ble_eq_true rfl, Nat.le_of_ble_eq_true rfl, Nat.le_of_ble_eq_true rfl⟩ [] [] [] rfl rfl ⟨rfl, rfl, rfl, by decide⟩ (fun _ => rfl) rfl (fun _ => rfl) hl.1 (Nat.le_of_ble_eq_true rfl) rfl dX7_leastOf_1 (fun _ _ H locs B => ?_)
  refine z_ifeq_b S (pc := 4) (tgt := 11) dX7_leastOf_4 rfl (fun c1 => ?_) (fun c1 => ?_)
  · refine z_gs1 S (pc := 11) B (by decide +kernel) dX7_leastOf_11 ?_
    refine z_iload_n S (pc := 14) dX7_leastOf_14 rfl (lv_at hl 0 rfl) ?_
    refine z_tl1 S (pc := 15) B (k := v.toNat) (by omega) (by omega) (tLo_at (by omega)) dX7_leastOf_15 ?_
    exact z_ireturn S hr hlk B () trivial rfl rfl (pc := 16) dX7_leastOf_16
  · refine z_iconst S (pc := 7) dX7_leastOf_7 ?_
    refine lv_goto S.1 S.2.1 (pc := 8) (tgt := 16) dX7_leastOf_8 rfl ?_
    exact z_ireturn S hr hlk B () trivial (by unfold loS; rw [if_pos (by omega)]) rfl (pc := 16) dX7_leastOf_16
set_option maxHeartbeats 4000000 in
set_option maxRecDepth 100000 in
theorem mX7_mostOf (l : Launch) (E : gT) (v : Int) (hv : inI v) : Cd l E yX7_mostOf wsX7_mostOf 1 20 0 0 [.int (iI v)] [] (some (.int (iI (hiS v)))) [] := by
  refine Ct.mk (cc := cX7_mostOf) (maxL := 1) (ret := (some .int)) (plainFor_of_name (by decide)) rfl (Nat.le_of_ble_eq_true rfl) ?_
  intro p e s m below meth c A ls H locs S hr hlk hnm B hl
  have S : CallFix p m c cX7_mostOf 1 s #[.int (iI v)] wsX7_mostOf RX7 := S
  have hl : lv_has ls 1 [(0, .int (iI v))] := hl
  refine z_iload_n S (pc := 0) dX7_mostOf_0 rfl (lv_at hl 0 rfl) ?_
  refine z_callS S (pc := 1) B (wr := []) (wn := fun _ => []) (st1 := fun _ => [.int (iI (bI (v < 0 ∨ 6 ≤ v)))]) (As := [.int (iI v)]) (mX7_isNoSetting l E v (show inI v from by omega)) gX7_mostOf_X7_isNoSetting 1 rfl (by decide +kernel) ⟨Nat.le_of_ble_eq_true rfl, Nat.le_of_ble_eq_true rfl, Nat.le_of_ble_eq_true rfl, Nat.le_of_ble_eq_true rfl⟩ [] [] [] rfl rfl ⟨rfl, rfl, rfl, by decide⟩ (fun _ => rfl) rfl (fun _ => rfl) hl.1 (Nat.le_of_ble_eq_true rfl) rfl dX7_mostOf_1 (fun _ _ H locs B => ?_)
  refine z_ifeq_b S (pc := 4) (tgt := 11) dX7_mostOf_4 rfl (fun c1 => ?_) (fun c1 => ?_)
  · refine z_gs2 S (pc := 11) B (by decide +kernel) dX7_mostOf_11 ?_
    refine z_iload_n S (pc := 14) dX7_mostOf_14 rfl (lv_at hl 0 rfl) ?_
    refine z_tl2 S (pc := 15) B (k := v.toNat) (by omega) (by omega) (tHi_at (by omega)) dX7_mostOf_15 ?_
    exact z_ireturn S hr hlk B () trivial rfl rfl (pc := 16) dX7_mostOf_16
  · refine z_iconst S (pc := 7) dX7_mostOf_7 ?_
    refine lv_goto S.1 S.2.1 (pc := 8) (tgt := 16) dX7_mostOf_8 rfl ?_
    exact z_ireturn S hr hlk B () trivial (by unfold hiS; rw [if_pos (by omega)]) rfl (pc := 16) dX7_mostOf_16
set_option maxHeartbeats 4000000 in
set_option maxRecDepth 100000 in
theorem mX7_gainOf (l : Launch) (E : gT) (v : Int) (hv : inI v) : Cd l E yX7_gainOf wsX7_gainOf 0 0 0 0 [.int (iI v)] [] (some (.int (iI (gnS v)))) [] := by
  refine Ct.mk (cc := cX7_gainOf) (maxL := 1) (ret := (some .int)) (plainFor_of_name (by decide)) rfl (Nat.le_of_ble_eq_true rfl) ?_
  intro p e s m below meth c A ls H locs S hr hlk hnm B hl
  have S : CallFix p m c cX7_gainOf 1 s #[.int (iI v)] wsX7_gainOf RX7 := S
  have hl : lv_has ls 1 [(0, .int (iI v))] := hl
  refine z_iload_n S (pc := 0) dX7_gainOf_0 rfl (lv_at hl 0 rfl) ?_
  refine z_if_lt S (pc := 1) (tgt := 12) (by omega) dX7_gainOf_1 rfl (fun c1 => ?_) (fun c1 => ?_)
  · refine z_iconst S (pc := 12) dX7_gainOf_12 ?_
    refine lv_goto S.1 S.2.1 (pc := 13) (tgt := 21) dX7_gainOf_13 rfl ?_
    exact z_ireturn S hr hlk B () trivial (by unfold gnS; rw [if_pos (by omega)]) rfl (pc := 21) dX7_gainOf_21
  · refine z_iload_n S (pc := 4) dX7_gainOf_4 rfl (lv_at hl 0 rfl) ?_
    refine z_gs0 S (pc := 5) B (by decide +kernel) dX7_gainOf_5 ?_
    refine z_tn0 S (pc := 8) B dX7_gainOf_8 ?_
    refine z_icmp_lt S (pc := 9) (tgt := 16) (by omega) (by omega) dX7_gainOf_9 rfl (fun c2 => ?_) (fun c2 => ?_)
    · refine z_gs0 S (pc := 16) B (by decide +kernel) dX7_gainOf_16 ?_
      refine z_iload_n S (pc := 19) dX7_gainOf_19 rfl (lv_at hl 0 rfl) ?_
      refine z_tl0 S (pc := 20) B (k := v.toNat) (by omega) (by omega) (tG_at (by omega)) dX7_gainOf_20 ?_
      exact z_ireturn S hr hlk B () trivial rfl rfl (pc := 21) dX7_gainOf_21
    · refine z_iconst S (pc := 12) dX7_gainOf_12 ?_
      refine lv_goto S.1 S.2.1 (pc := 13) (tgt := 21) dX7_gainOf_13 rfl ?_
      exact z_ireturn S hr hlk B () trivial (by unfold gnS; rw [if_pos (by omega)]) rfl (pc := 21) dX7_gainOf_21
/-! END help -/
