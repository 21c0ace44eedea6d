set_option linter.unusedVariables false
section ZN
variable {p : Program} {l : Launch} {e : Env} {R : Room} {s : State} {m : MethodId} {args : Array Value} {below : List Frame} {meth : Method} {c : Code} {H : Heap} {locs : List Loc} {cells slots : Nat} {Q : State → Prop}
variable {cc : ByteArray} {nL pc tgt : Nat} {ls : Array Slot} {rest : List Value} {Ts : List Cond} {own : String} {E : gT} {A : Nat → Prop} {ws : va_W}
theorem z_new (S : CallFix p m c cc nL s args Ts own) (B : bw E A s H locs ws) {C : String} {T : u_T} {N ci index : Nat} (hin : ∀ w ∈ u_ws C T N, w ∈ Ts) {ty : Nat → FieldType} (hty : ∀ k, k < N → parseFieldDescriptor (T k).2.2.1 = some (ty k)) (hc : vwCl[ci]? = some (C, T, N)) (hcl : Cond.classLink own index C ∈ Ts) (hinst : Cond.instantiable C N ∈ Ts) (hini : Cond.initialized C ∈ Ts) {fs : List Value} (hfs : ∀ j, j < N → defaultValue (ty j) = vp_V fs j) (hcells : cells + 1 ≤ R.cells) (hslots : slots + N ≤ R.slots) (hdg : decode cc pc = .ok (.new index, 3))
    (kk : ∀ (q : Nat) (H1 : Heap), bw E A s H1 locs (ws ++ [(q, .inr (ci, fs))]) → W p l e R s m args below meth c H1 locs (cells + 1) (slots + N) Q (F0 m (pc + 3) ls (.ref q :: rest))) : W p l e R s m args below meth c H locs cells slots Q (F0 m pc ls rest) :=
  va_new S.1 S.2.1 S.2.2.2.2 hin ty hty S.2.2.2.1 (S.2.2.2.2 _ hcl) (S.2.2.2.2 _ hinst) (S.2.2.2.2 _ hini) B.1 B.2.1 B.2.2.1 B.2.2.2.1 B.2.2.2.2.1 hc hfs hcells hslots hdg (fun q H1 h1 h2 h3 => kk q H1 ⟨B.1, h1, h2, h3, B.2.2.2.2⟩)
theorem z_newa (S : CallFix p m c cc nL s args Ts own) (B : bw E A s H locs ws) {atype : ArrayType} {ty : FieldType} (hty : newarray.typeOf atype = ty) (harr : Cond.arrayClass ty ∈ Ts) (t0 : Nat) {cA : ClassId} (ht : (TY E)[t0]? = some (cA, ty)) (hRA : ∀ (U : State) (cB : ClassId), va_RA U cB ty → U.vm.findClass ("[" ++ ty.toString) = some cB) {x : Int} {N : Nat} (hx : x = (N : Int)) {a0 : vp_A} (ha : ∀ cB : ClassId, vp_cell cB a0 = arrV cB N (fun _ => defaultValue ty)) (hN : N ≤ 1000) (hbytes : N * componentBytes ty ≤ 536870912) (hcells : cells + 1 ≤ R.cells) (hslots : slots + N ≤ R.slots) (hdg : decode cc pc = .ok (.newarray atype, 2))
    (kk : ∀ (q : Nat) (H1 : Heap), bw E A s H1 locs (ws ++ [(q, .inl (cA, a0))]) → W p l e R s m args below meth c H1 locs (cells + 1) (slots + N) Q (F0 m (pc + 2) ls (.ref q :: rest))) : W p l e R s m args below meth c H locs cells slots Q (F0 m pc ls (.int (iI x) :: rest)) := by
  have hneg : ¬ iI x < 0 := by
    rw [show (0 : Int32) = iI 0 from rfl, iI_lt (by omega) (by omega)]
    omega
  refine va_newa S.1 S.2.1 (S.2.2.2.2 _ (by rw [hty]; exact harr)) hty B.1 B.2.1 B.2.2.1 B.2.2.2.1 B.2.2.2.2.1 ha hneg (iI_nat hx (by omega)) hbytes hcells hslots hdg (fun q cB H1 h0 h1 h2 h3 => ?_)
  have e0 : cB = cA := by
    have h4 := hRA s cB (h0.2 (TY E).length (cB, ty) (by rw [List.getElem?_append_right (Nat.le_refl _), Nat.sub_self]; rfl)).2
    have h5 := hRA s cA (B.1.2 t0 (cA, ty) ht).2
    exact Option.some.inj (h4.symm.trans h5)
  subst e0
  exact kk q H1 ⟨B.1, h1, h2, h3, B.2.2.2.2⟩
theorem z_newq (S : CallFix p m c cc nL s args Ts own) (B : bw E A s H locs ws) {index : Nat} (hcl : Cond.classLink own index RX6 ∈ Ts) {x : Int} {N : Nat} (hx : x = (N : Int)) (hN : N ≤ 1000) (hcells : cells + 1 ≤ R.cells) (hslots : slots + N ≤ R.slots) (hdg : decode cc pc = .ok (.anewarray index, 3))
    (kk : ∀ (q : Nat) (H1 : Heap), bw E A s H1 locs (ws ++ [(q, .inl (E.2.1 4, N, .inr (.inr (.inr (.inr (fun _ => none))))))]) → W p l e R s m args below meth c H1 locs (cells + 1) (slots + N) Q (F0 m (pc + 3) ls (.ref q :: rest))) : W p l e R s m args below meth c H locs cells slots Q (F0 m pc ls (.int (iI x) :: rest)) := by
  have hneg : ¬ iI x < 0 := by
    rw [show (0 : Int32) = iI 0 from rfl, iI_lt (by omega) (by omega)]
    omega
  refine va_newq S.1 S.2.1 S.2.2.2.1 (S.2.2.2.2 _ hcl) (B.2.2.2.2.2.2.2.2.1) B.1 B.2.1 B.2.2.1 B.2.2.2.1 B.2.2.2.2.1 hneg (iI_nat hx (by omega)) (by omega) hcells hslots hdg (fun q cB H1 h0 h1 h2 h3 => ?_)
  have e0 : cB = E.2.1 4 := by
    obtain ⟨k1, c1, -, -, -, h4⟩ := (h0.2 (TY E).length (cB, .object RX6) (by rw [List.getElem?_append_right (Nat.le_refl _), Nat.sub_self]; rfl)).2
    obtain ⟨k2, c2, -, -, -, h5⟩ := (B.1.2 4 (E.2.1 4, .object RX6) rfl).2
    exact Option.some.inj (h4.symm.trans h5)
  subst e0
  exact kk q H1 ⟨B.1, h1, h2, h3, B.2.2.2.2⟩
theorem z_aastq (S : CallFix p m c cc nL s args Ts own) (B : bw E A s H locs ws) {ad v : Nat} (q0 qk : Nat) {n : Nat} {f g : Nat → Option Nat} {vs : List Value} (ha : ws[q0]? = some (ad, .inl (E.2.1 4, n, .inr (.inr (.inr (.inr f)))))) (hv : ws[qk]? = some (v, .inr (6, vs))) {x : Int} {k : Nat} (hx : x = (k : Int)) (hk : k < n) (hn : n ≤ 1000) (hg : va_up f k (some v) = g) (hdg : decode cc pc = .ok (.aastore, 1)) {wn : va_W} (hw : ws.set q0 (ad, .inl (E.2.1 4, n, .inr (.inr (.inr (.inr g))))) = wn)
    (kk : ∀ (H1 : Heap) (locs1 : List Loc), bw E A s H1 locs1 wn → W p l e R s m args below meth c H1 locs1 cells slots Q (F0 m (pc + 1) ls rest)) : W p l e R s m args below meth c H locs cells slots Q (F0 m pc ls (.ref v :: .int (iI x) :: .ref ad :: rest)) := by
  have e1 : (iI x).toNatClampNeg = k := iI_nat hx (by omega)
  have hneg : ¬ iI x < 0 := by
    rw [show (0 : Int32) = iI 0 from rfl, iI_lt (by omega) (by omega)]
    omega
  refine va_astq S.1 S.2.1 B.1 B.2.1 B.2.2.1 B.2.2.2.1 q0 4 qk 6 ha rfl hv rfl (i := iI x) (fun z => by rcases z with z | z; exact hneg z; rw [e1] at z; omega) hdg (fun H1 locs1 h1 h2 h3 => ?_)
  rw [e1, hg] at h1 h2
  rw [hw] at h1 h2
  exact kk H1 locs1 ⟨B.1, h1, h2, h3, B.2.2.2.2⟩
end ZN
def sg0 : Nat → Int := fun k => match k with | 2 => 100 | 5 => 100 | 6 => 5 | _ => 0
def zr0 : Nat → Int := fun _ => 0
theorem at0 (k : Nat) : up (up (up zr0 2 100) 5 100) 6 5 k = mat sg0 zr0 k := by
  by_cases h6 : k = 6
  · subst h6; rfl
  · rw [up_n _ _ h6]
    by_cases h5 : k = 5
    · subst h5; rfl
    · rw [up_n _ _ h5]
      by_cases h2 : k = 2
      · subst h2; rfl
      · rw [up_n _ _ h2]
        unfold mat
        split
        · show (0 : Int) = sg0 k
          unfold sg0
          split <;> first | rfl | omega
        · rfl
theorem iX5_init_X5 : ∀ w ∈ wsX50, w ∈ wsX5_init := by decide +kernel
set_option maxHeartbeats 4000000 in
set_option maxRecDepth 100000 in
theorem mX5_init (l : Launch) (E : gT) (a : Nat)  : Ct l E yX5_init wsX5_init 1 20 0 0 [.ref a] [(a, .inr (5, [.int (iI 0), .int (iI 0), .int (iI 0), .int (iI 0), .int (iI 0)]))] (S0 := Unit) (fun u0 => True) (fun _ => none) (fun u0 => [cSig a sg0]) := by
  refine Ct.mk (cc := cX5_init) (maxL := 1) (ret := none) (plainFor_of_name (by decide)) rfl (Nat.le_of_ble_eq_true rfl) ?_
  intro p e s m below meth c A ls H locs S hr hlk hnm B hl
  have S : CallFix p m c cX5_init 1 s #[.ref a] wsX5_init RX5 := S
  have hl : lv_has ls 1 [(0, .ref a)] := hl
  have hnm : meth.name = "<init>" := hnm
  refine z_aload_n S (pc := 0) dX5_init_0 rfl (lv_at hl 0 rfl) ?_
  refine W.objInit S.1 S.2.1 S.2.2.2.1 (S.2.2.2.2 (.methodLink RX5 3 objectInit) (by decide +kernel)) (S.2.2.2.2 (.instanceMethod objectInit) (by decide +kernel)) (S.2.2.2.2 (.code objectInit ⟨#[0xb1]⟩ 1 none) (by decide +kernel)) rfl (by rw [S.2.2.1]; exact hl.1) rfl dX5_init_1 (Nat.le_of_ble_eq_true rfl) (Nat.le_of_ble_eq_true rfl) ?_
  refine W.eq (g2 := F0 m 4 ls []) rfl ?_
  refine z_aload_n S (pc := 4) dX5_init_4 rfl (lv_at hl 0 rfl) ?_
  refine z_bipush S (pc := 5) dX5_init_5 rfl ?_
  refine z_put S (pc := 7) B iX5_init_X5 tyX5_ok nmX5 0 rfl rfl 2 (by decide) rfl (by decide +kernel) (ty := .int) (by decide +kernel) rfl rfl (Nat.le_of_ble_eq_true rfl) dX5_init_7 (wn := [(a, .inr (5, [.int (iI 0), .int (iI 0), .int (iI 100), .int (iI 0), .int (iI 0)]))]) rfl (fun H locs B => ?_)
  exact z_return S hr hlk B () trivial rfl rfl (pc := 10) dX5_init_10
theorem iX4_init_X4 : ∀ w ∈ wsX40, w ∈ wsX4_init := by decide +kernel
set_option maxHeartbeats 4000000 in
set_option maxRecDepth 100000 in
theorem mX4_init (l : Launch) (E : gT) (a : Nat)  : Ct l E yX4_init wsX4_init 1 20 0 0 [.ref a] [(a, .inr (4, [.int (iI 0), .int (iI 0), .int (iI 0), .int (iI 0), .int (iI 0), .int (iI 0)]))] (S0 := Unit) (fun u0 => True) (fun _ => none) (fun u0 => [cSet a sg0]) := by
  refine Ct.mk (cc := cX4_init) (maxL := 1) (ret := none) (plainFor_of_name (by decide)) rfl (Nat.le_of_ble_eq_true rfl) ?_
  intro p e s m below meth c A ls H locs S hr hlk hnm B hl
  have S : CallFix p m c cX4_init 1 s #[.ref a] wsX4_init RX4 := S
  have hl : lv_has ls 1 [(0, .ref a)] := hl
  have hnm : meth.name = "<init>" := hnm
  refine z_aload_n S (pc := 0) dX4_init_0 rfl (lv_at hl 0 rfl) ?_
  refine W.objInit S.1 S.2.1 S.2.2.2.1 (S.2.2.2.2 (.methodLink RX4 3 objectInit) (by decide +kernel)) (S.2.2.2.2 (.instanceMethod objectInit) (by decide +kernel)) (S.2.2.2.2 (.code objectInit ⟨#[0xb1]⟩ 1 none) (by decide +kernel)) rfl (by rw [S.2.2.1]; exact hl.1) rfl dX4_init_1 (Nat.le_of_ble_eq_true rfl) (Nat.le_of_ble_eq_true rfl) ?_
  refine W.eq (g2 := F0 m 4 ls []) rfl ?_
  refine z_aload_n S (pc := 4) dX4_init_4 rfl (lv_at hl 0 rfl) ?_
  refine z_bipush S (pc := 5) dX4_init_5 rfl ?_
  refine z_put S (pc := 7) B iX4_init_X4 tyX4_ok nmX4 0 rfl rfl 0 (by decide) rfl (by decide +kernel) (ty := .int) (by decide +kernel) rfl rfl (Nat.le_of_ble_eq_true rfl) dX4_init_7 (wn := [(a, .inr (4, [.int (iI 100), .int (iI 0), .int (iI 0), .int (iI 0), .int (iI 0), .int (iI 0)]))]) rfl (fun H locs B => ?_)
  refine z_aload_n S (pc := 10) dX4_init_10 rfl (lv_at hl 0 rfl) ?_
  refine z_iconst S (pc := 11) dX4_init_11 ?_
  refine z_put S (pc := 12) B iX4_init_X4 tyX4_ok nmX4 0 rfl rfl 1 (by decide) rfl (by decide +kernel) (ty := .int) (by decide +kernel) rfl rfl (Nat.le_of_ble_eq_true rfl) dX4_init_12 (wn := [(a, .inr (4, [.int (iI 100), .int (iI 5), .int (iI 0), .int (iI 0), .int (iI 0), .int (iI 0)]))]) rfl (fun H locs B => ?_)
  refine z_aload_n S (pc := 15) dX4_init_15 rfl (lv_at hl 0 rfl) ?_
  refine z_iconst S (pc := 16) dX4_init_16 ?_
  refine z_put S (pc := 17) B iX4_init_X4 tyX4_ok nmX4 0 rfl rfl 2 (by decide) rfl (by decide +kernel) (ty := .int) (by decide +kernel) rfl rfl (Nat.le_of_ble_eq_true rfl) dX4_init_17 (wn := [(a, .inr (4, [.int (iI 100), .int (iI 5), .int (iI 0), .int (iI 0), .int (iI 0), .int (iI 0)]))]) rfl (fun H locs B => ?_)
  exact z_return S hr hlk B () trivial rfl rfl (pc := 20) dX4_init_20
set_option maxHeartbeats 4000000 in
set_option maxRecDepth 100000 in
theorem mX0_init (l : Launch) (E : gT) (a : Nat)  : Ct l E yX0_init wsX0_init 1 20 0 0 [.ref a] [(a, .inr (0, [.int (iI 0), .int (iI 0), .int (iI 0), .int (iI 0), .int (iI 0), .int (iI 0), .int (iI 0), .long (iL 0), .long (iL 0)]))] (S0 := Unit) (fun u0 => True) (fun _ => none) (fun u0 => [cCon a sg0 0]) := by
  refine Ct.mk (cc := cX0_init) (maxL := 1) (ret := none) (plainFor_of_name (by decide)) rfl (Nat.le_of_ble_eq_true rfl) ?_
  intro p e s m below meth c A ls H locs S hr hlk hnm B hl
  have S : CallFix p m c cX0_init 1 s #[.ref a] wsX0_init RX0 := S
  have hl : lv_has ls 1 [(0, .ref a)] := hl
  have hnm : meth.name = "<init>" := hnm
  refine z_aload_n S (pc := 0) dX0_init_0 rfl (lv_at hl 0 rfl) ?_
  refine W.objInit S.1 S.2.1 S.2.2.2.1 (S.2.2.2.2 (.methodLink RX0 3 objectInit) (by decide +kernel)) (S.2.2.2.2 (.instanceMethod objectInit) (by decide +kernel)) (S.2.2.2.2 (.code objectInit ⟨#[0xb1]⟩ 1 none) (by decide +kernel)) rfl (by rw [S.2.2.1]; exact hl.1) rfl dX0_init_1 (Nat.le_of_ble_eq_true rfl) (Nat.le_of_ble_eq_true rfl) ?_
  refine W.eq (g2 := F0 m 4 ls []) rfl ?_
  exact z_return S hr hlk B () trivial rfl rfl (pc := 4) dX0_init_4
theorem iX2_init_X0 : ∀ w ∈ wsX00, w ∈ wsX2_init := by decide +kernel
theorem iX2_init_X2 : ∀ w ∈ wsX20, w ∈ wsX2_init := by decide +kernel
theorem iX2_init_X4 : ∀ w ∈ wsX40, w ∈ wsX2_init := by decide +kernel
theorem iX2_init_X5 : ∀ w ∈ wsX50, w ∈ wsX2_init := by decide +kernel
set_option maxHeartbeats 4000000 in
set_option maxRecDepth 100000 in
theorem mX2_init (l : Launch) (E : gT) (a : Nat)  : Ct l E yX2_init wsX2_init 2 40 3 20 [.ref a] [(a, .inr (2, [.null, .null, .null, .int (iI 0), .int (iI 0), .int (iI 0), .int (iI 0), .int (iI 0), .long (iL 0)]))] (S0 := Nat × Nat × Nat) (fun u0 => True) (fun _ => none) (fun u0 => [cMet a u0.1 u0.2.1 u0.2.2 sg0 0 0 0, cSig u0.1 sg0, cSet u0.2.1 sg0, cCon u0.2.2 sg0 0]) := by
  refine Ct.mk (cc := cX2_init) (maxL := 1) (ret := none) (plainFor_of_name (by decide)) rfl (Nat.le_of_ble_eq_true rfl) ?_
  intro p e s m below meth c A ls H locs S hr hlk hnm B hl
  have S : CallFix p m c cX2_init 1 s #[.ref a] wsX2_init RX2 := S
  have hl : lv_has ls 1 [(0, .ref a)] := hl
  have hnm : meth.name = "<init>" := hnm
  refine z_aload_n S (pc := 0) dX2_init_0 rfl (lv_at hl 0 rfl) ?_
  refine W.objInit S.1 S.2.1 S.2.2.2.1 (S.2.2.2.2 (.methodLink RX2 3 objectInit) (by decide +kernel)) (S.2.2.2.2 (.instanceMethod objectInit) (by decide +kernel)) (S.2.2.2.2 (.code objectInit ⟨#[0xb1]⟩ 1 none) (by decide +kernel)) rfl (by rw [S.2.2.1]; exact hl.1) rfl dX2_init_1 (Nat.le_of_ble_eq_true rfl) (Nat.le_of_ble_eq_true rfl) ?_
  refine W.eq (g2 := F0 m 4 ls []) rfl ?_
  refine z_aload_n S (pc := 4) dX2_init_4 rfl (lv_at hl 0 rfl) ?_
  refine z_new S (pc := 5) B (ci := 5) iX2_init_X5 tyX5_ok rfl (by decide +kernel) (by decide +kernel) (by decide +kernel) (fs := [.int (iI 0), .int (iI 0), .int (iI 0), .int (iI 0), .int (iI 0)]) (fun j hj => match j, hj with | 0, _ => rfl | 1, _ => rfl | 2, _ => rfl | 3, _ => rfl | 4, _ => rfl) (Nat.le_of_ble_eq_true rfl) (Nat.le_of_ble_eq_true rfl) dX2_init_5 (fun q1 H B => ?_)
  have B : bw E A s H locs [(a, .inr (2, [.null, .null, .null, .int (iI 0), .int (iI 0), .int (iI 0), .int (iI 0), .int (iI 0), .long (iL 0)])), (q1, .inr (5, [.int (iI 0), .int (iI 0), .int (iI 0), .int (iI 0), .int (iI 0)]))] := B
  refine lv_dup S.1 S.2.1 (pc := 8) dX2_init_8 rfl ?_
  refine z_callIN S (pc := 9) B (wr := [(a, .inr (2, [.null, .null, .null, .int (iI 0), .int (iI 0), .int (iI 0), .int (iI 0), .int (iI 0), .long (iL 0)]))]) (wn := fun u2 => [(a, .inr (2, [.null, .null, .null, .int (iI 0), .int (iI 0), .int (iI 0), .int (iI 0), .int (iI 0), .long (iL 0)])), cSig q1 sg0]) (st1 := fun _ => [.ref q1, .ref a]) (As := []) (mX5_init l E q1 ) gX2_init_X5_init_n11 (by decide +kernel) (by decide +kernel) (by decide +kernel) rfl 0 rfl (by decide +kernel) ⟨Nat.le_of_ble_eq_true rfl, Nat.le_of_ble_eq_true rfl, Nat.le_of_ble_eq_true rfl, Nat.le_of_ble_eq_true rfl⟩ [1] [0] [0, 1] rfl rfl ⟨rfl, rfl, rfl, by decide⟩ (fun _ => rfl) rfl (fun _ => rfl) hl.1 (Nat.le_of_ble_eq_true rfl) rfl dX2_init_9 (fun u2 hu2 H locs B => ?_)
  refine z_putF S (pc := 12) B iX2_init_X2 tyX2_ok nmX2 0 rfl rfl 0 (by decide) rfl hnm rfl (by decide +kernel) (ty := tyX2 0) (tyX2_ok 0 (by decide)) rfl rfl (Nat.le_of_ble_eq_true rfl) dX2_init_12 (wn := [(a, .inr (2, [.ref q1, .null, .null, .int (iI 0), .int (iI 0), .int (iI 0), .int (iI 0), .int (iI 0), .long (iL 0)])), cSig q1 sg0]) rfl (fun H locs B => ?_)
  refine z_aload_n S (pc := 15) dX2_init_15 rfl (lv_at hl 0 rfl) ?_
  refine z_new S (pc := 16) B (ci := 4) iX2_init_X4 tyX4_ok rfl (by decide +kernel) (by decide +kernel) (by decide +kernel) (fs := [.int (iI 0), .int (iI 0), .int (iI 0), .int (iI 0), .int (iI 0), .int (iI 0)]) (fun j hj => match j, hj with | 0, _ => rfl | 1, _ => rfl | 2, _ => rfl | 3, _ => rfl | 4, _ => rfl | 5, _ => rfl) (Nat.le_of_ble_eq_true rfl) (Nat.le_of_ble_eq_true rfl) dX2_init_16 (fun q3 H B => ?_)
  have B : bw E A s H locs [(a, .inr (2, [.ref q1, .null, .null, .int (iI 0), .int (iI 0), .int (iI 0), .int (iI 0), .int (iI 0), .long (iL 0)])), cSig q1 sg0, (q3, .inr (4, [.int (iI 0), .int (iI 0), .int (iI 0), .int (iI 0), .int (iI 0), .int (iI 0)]))] := B
  refine lv_dup S.1 S.2.1 (pc := 19) dX2_init_19 rfl ?_
  refine z_callIN S (pc := 20) B (wr := [(a, .inr (2, [.ref q1, .null, .null, .int (iI 0), .int (iI 0), .int (iI 0), .int (iI 0), .int (iI 0), .long (iL 0)])), cSig q1 sg0]) (wn := fun u4 => [(a, .inr (2, [.ref q1, .null, .null, .int (iI 0), .int (iI 0), .int (iI 0), .int (iI 0), .int (iI 0), .long (iL 0)])), cSig q1 sg0, cSet q3 sg0]) (st1 := fun _ => [.ref q3, .ref a]) (As := []) (mX4_init l E q3 ) gX2_init_X4_init_n20 (by decide +kernel) (by decide +kernel) (by decide +kernel) rfl 0 rfl (by decide +kernel) ⟨Nat.le_of_ble_eq_true rfl, Nat.le_of_ble_eq_true rfl, Nat.le_of_ble_eq_true rfl, Nat.le_of_ble_eq_true rfl⟩ [2] [0, 1] [0, 1, 2] rfl rfl ⟨rfl, rfl, rfl, by decide⟩ (fun _ => rfl) rfl (fun _ => rfl) hl.1 (Nat.le_of_ble_eq_true rfl) rfl dX2_init_20 (fun u4 hu4 H locs B => ?_)
  refine z_putF S (pc := 23) B iX2_init_X2 tyX2_ok nmX2 0 rfl rfl 1 (by decide) rfl hnm rfl (by decide +kernel) (ty := tyX2 1) (tyX2_ok 1 (by decide)) rfl rfl (Nat.le_of_ble_eq_true rfl) dX2_init_23 (wn := [(a, .inr (2, [.ref q1, .ref q3, .null, .int (iI 0), .int (iI 0), .int (iI 0), .int (iI 0), .int (iI 0), .long (iL 0)])), cSig q1 sg0, cSet q3 sg0]) rfl (fun H locs B => ?_)
  refine z_aload_n S (pc := 26) dX2_init_26 rfl (lv_at hl 0 rfl) ?_
  refine z_new S (pc := 27) B (ci := 0) iX2_init_X0 tyX0_ok rfl (by decide +kernel) (by decide +kernel) (by decide +kernel) (fs := [.int (iI 0), .int (iI 0), .int (iI 0), .int (iI 0), .int (iI 0), .int (iI 0), .int (iI 0), .long (iL 0), .long (iL 0)]) (fun j hj => match j, hj with | 0, _ => rfl | 1, _ => rfl | 2, _ => rfl | 3, _ => rfl | 4, _ => rfl | 5, _ => rfl | 6, _ => rfl | 7, _ => rfl | 8, _ => rfl) (Nat.le_of_ble_eq_true rfl) (Nat.le_of_ble_eq_true rfl) dX2_init_27 (fun q5 H B => ?_)
  have B : bw E A s H locs [(a, .inr (2, [.ref q1, .ref q3, .null, .int (iI 0), .int (iI 0), .int (iI 0), .int (iI 0), .int (iI 0), .long (iL 0)])), cSig q1 sg0, cSet q3 sg0, (q5, .inr (0, [.int (iI 0), .int (iI 0), .int (iI 0), .int (iI 0), .int (iI 0), .int (iI 0), .int (iI 0), .long (iL 0), .long (iL 0)]))] := B
  refine lv_dup S.1 S.2.1 (pc := 30) dX2_init_30 rfl ?_
  refine z_callIN S (pc := 31) B (wr := [(a, .inr (2, [.ref q1, .ref q3, .null, .int (iI 0), .int (iI 0), .int (iI 0), .int (iI 0), .int (iI 0), .long (iL 0)])), cSig q1 sg0, cSet q3 sg0]) (wn := fun u6 => [(a, .inr (2, [.ref q1, .ref q3, .null, .int (iI 0), .int (iI 0), .int (iI 0), .int (iI 0), .int (iI 0), .long (iL 0)])), cSig q1 sg0, cSet q3 sg0, cCon q5 sg0 0]) (st1 := fun _ => [.ref q5, .ref a]) (As := []) (mX0_init l E q5 ) gX2_init_X0_init_n27 (by decide +kernel) (by decide +kernel) (by decide +kernel) rfl 0 rfl (by decide +kernel) ⟨Nat.le_of_ble_eq_true rfl, Nat.le_of_ble_eq_true rfl, Nat.le_of_ble_eq_true rfl, Nat.le_of_ble_eq_true rfl⟩ [3] [0, 1, 2] [0, 1, 2, 3] rfl rfl ⟨rfl, rfl, rfl, by decide⟩ (fun _ => rfl) rfl (fun _ => rfl) hl.1 (Nat.le_of_ble_eq_true rfl) rfl dX2_init_31 (fun u6 hu6 H locs B => ?_)
  refine z_putF S (pc := 34) B iX2_init_X2 tyX2_ok nmX2 0 rfl rfl 2 (by decide) rfl hnm rfl (by decide +kernel) (ty := tyX2 2) (tyX2_ok 2 (by decide)) rfl rfl (Nat.le_of_ble_eq_true rfl) dX2_init_34 (wn := [(a, .inr (2, [.ref q1, .ref q3, .ref q5, .int (iI 0), .int (iI 0), .int (iI 0), .int (iI 0), .int (iI 0), .long (iL 0)])), cSig q1 sg0, cSet q3 sg0, cCon q5 sg0 0]) rfl (fun H locs B => ?_)
  exact z_return S hr hlk B ⟨q1, q3, q5⟩ trivial rfl rfl (pc := 37) dX2_init_37
theorem iX1_init_X1 : ∀ w ∈ wsX10, w ∈ wsX1_init := by decide +kernel
set_option maxHeartbeats 4000000 in
set_option maxRecDepth 100000 in
theorem mX1_init (l : Launch) (E : gT) (a : Nat)  : Ct l E yX1_init wsX1_init 1 20 1 280 [.ref a] [(a, .inr (1, [.null, .int (iI 0)]))] (S0 := Nat) (fun u0 => True) (fun _ => none) (fun u0 => [cLog a u0 sg0, cRow E u0 zr0]) := by
  refine Ct.mk (cc := cX1_init) (maxL := 1) (ret := none) (plainFor_of_name (by decide)) rfl (Nat.le_of_ble_eq_true rfl) ?_
  intro p e s m below meth c A ls H locs S hr hlk hnm B hl
  have S : CallFix p m c cX1_init 1 s #[.ref a] wsX1_init RX1 := S
  have hl : lv_has ls 1 [(0, .ref a)] := hl
  have hnm : meth.name = "<init>" := hnm
  refine z_aload_n S (pc := 0) dX1_init_0 rfl (lv_at hl 0 rfl) ?_
  refine W.objInit S.1 S.2.1 S.2.2.2.1 (S.2.2.2.2 (.methodLink RX1 3 objectInit) (by decide +kernel)) (S.2.2.2.2 (.instanceMethod objectInit) (by decide +kernel)) (S.2.2.2.2 (.code objectInit ⟨#[0xb1]⟩ 1 none) (by decide +kernel)) rfl (by rw [S.2.2.1]; exact hl.1) rfl dX1_init_1 (Nat.le_of_ble_eq_true rfl) (Nat.le_of_ble_eq_true rfl) ?_
  refine W.eq (g2 := F0 m 4 ls []) rfl ?_
  refine z_aload_n S (pc := 4) dX1_init_4 rfl (lv_at hl 0 rfl) ?_
  refine z_sipush S (pc := 5) dX1_init_5 rfl ?_
  refine z_newa S (pc := 8) B (ty := .long) rfl (by decide +kernel) 2 rfl (fun _ _ h => h) (N := 280) rfl (a0 := (280, .inr (.inl (lat zr0)))) (fun _ => rfl) (by decide) (by decide) (Nat.le_of_ble_eq_true rfl) (Nat.le_of_ble_eq_true rfl) dX1_init_8 (fun q1 H B => ?_)
  have B : bw E A s H locs [(a, .inr (1, [.null, .int (iI 0)])), cRow E q1 zr0] := B
  refine z_putF S (pc := 10) B iX1_init_X1 tyX1_ok nmX1 0 rfl rfl 0 (by decide) rfl hnm rfl (by decide +kernel) (ty := tyX1 0) (tyX1_ok 0 (by decide)) rfl rfl (Nat.le_of_ble_eq_true rfl) dX1_init_10 (wn := [(a, .inr (1, [.ref q1, .int (iI 0)])), cRow E q1 zr0]) rfl (fun H locs B => ?_)
  exact z_return S hr hlk B q1 trivial rfl rfl (pc := 13) dX1_init_13
theorem iX6_init_X1 : ∀ w ∈ wsX10, w ∈ wsX6_init := by decide +kernel
theorem iX6_init_X2 : ∀ w ∈ wsX20, w ∈ wsX6_init := by decide +kernel
theorem iX6_init_X6 : ∀ w ∈ wsX60, w ∈ wsX6_init := by decide +kernel
set_option maxHeartbeats 4000000 in
set_option maxRecDepth 100000 in
theorem mX6_init (l : Launch) (E : gT) (a : Nat)  : Ct l E yX6_init wsX6_init 3 60 6 311 [.ref a] [(a, .inr (6, [.null, .null]))] (S0 := Nat × Nat × Nat × Nat × Nat × Nat) (fun u0 => True) (fun _ => none) (fun u0 => [cSta a u0.1 u0.2.2.2.2.1, cMet u0.1 u0.2.1 u0.2.2.1 u0.2.2.2.1 sg0 0 0 0, cSig u0.2.1 sg0, cSet u0.2.2.1 sg0, cCon u0.2.2.2.1 sg0 0, cLog u0.2.2.2.2.1 u0.2.2.2.2.2 sg0, cRow E u0.2.2.2.2.2 zr0]) := by
  refine Ct.mk (cc := cX6_init) (maxL := 1) (ret := none) (plainFor_of_name (by decide)) rfl (Nat.le_of_ble_eq_true rfl) ?_
  intro p e s m below meth c A ls H locs S hr hlk hnm B hl
  have S : CallFix p m c cX6_init 1 s #[.ref a] wsX6_init RX6 := S
  have hl : lv_has ls 1 [(0, .ref a)] := hl
  have hnm : meth.name = "<init>" := hnm
  refine z_aload_n S (pc := 0) dX6_init_0 rfl (lv_at hl 0 rfl) ?_
  refine W.objInit S.1 S.2.1 S.2.2.2.1 (S.2.2.2.2 (.methodLink RX6 1 objectInit) (by decide +kernel)) (S.2.2.2.2 (.instanceMethod objectInit) (by decide +kernel)) (S.2.2.2.2 (.code objectInit ⟨#[0xb1]⟩ 1 none) (by decide +kernel)) rfl (by rw [S.2.2.1]; exact hl.1) rfl dX6_init_1 (Nat.le_of_ble_eq_true rfl) (Nat.le_of_ble_eq_true rfl) ?_
  refine W.eq (g2 := F0 m 4 ls []) rfl ?_
  refine z_aload_n S (pc := 4) dX6_init_4 rfl (lv_at hl 0 rfl) ?_
  refine z_new S (pc := 5) B (ci := 2) iX6_init_X2 tyX2_ok rfl (by decide +kernel) (by decide +kernel) (by decide +kernel) (fs := [.null, .null, .null, .int (iI 0), .int (iI 0), .int (iI 0), .int (iI 0), .int (iI 0), .long (iL 0)]) (fun j hj => match j, hj with | 0, _ => rfl | 1, _ => rfl | 2, _ => rfl | 3, _ => rfl | 4, _ => rfl | 5, _ => rfl | 6, _ => rfl | 7, _ => rfl | 8, _ => rfl) (Nat.le_of_ble_eq_true rfl) (Nat.le_of_ble_eq_true rfl) dX6_init_5 (fun q1 H B => ?_)
  have B : bw E A s H locs [(a, .inr (6, [.null, .null])), (q1, .inr (2, [.null, .null, .null, .int (iI 0), .int (iI 0), .int (iI 0), .int (iI 0), .int (iI 0), .long (iL 0)]))] := B
  refine lv_dup S.1 S.2.1 (pc := 8) dX6_init_8 rfl ?_
  refine z_callIN S (pc := 9) B (wr := [(a, .inr (6, [.null, .null]))]) (wn := fun u2 => [(a, .inr (6, [.null, .null])), cMet q1 u2.1 u2.2.1 u2.2.2 sg0 0 0 0, cSig u2.1 sg0, cSet u2.2.1 sg0, cCon u2.2.2 sg0 0]) (st1 := fun _ => [.ref q1, .ref a]) (As := []) (mX2_init l E q1 ) gX6_init_X2_init_n9 (by decide +kernel) (by decide +kernel) (by decide +kernel) rfl 0 rfl (by decide +kernel) ⟨Nat.le_of_ble_eq_true rfl, Nat.le_of_ble_eq_true rfl, Nat.le_of_ble_eq_true rfl, Nat.le_of_ble_eq_true rfl⟩ [1] [0] [0, 1, 2, 3, 4] rfl rfl ⟨rfl, rfl, rfl, by decide⟩ (fun _ => rfl) rfl (fun _ => rfl) hl.1 (Nat.le_of_ble_eq_true rfl) rfl dX6_init_9 (fun u2 hu2 H locs B => ?_)
  refine z_putF S (pc := 12) B iX6_init_X6 tyX6_ok nmX6 0 rfl rfl 0 (by decide) rfl hnm rfl (by decide +kernel) (ty := tyX6 0) (tyX6_ok 0 (by decide)) rfl rfl (Nat.le_of_ble_eq_true rfl) dX6_init_12 (wn := [(a, .inr (6, [.ref q1, .null])), cMet q1 u2.1 u2.2.1 u2.2.2 sg0 0 0 0, cSig u2.1 sg0, cSet u2.2.1 sg0, cCon u2.2.2 sg0 0]) rfl (fun H locs B => ?_)
  refine z_aload_n S (pc := 15) dX6_init_15 rfl (lv_at hl 0 rfl) ?_
  refine z_new S (pc := 16) B (ci := 1) iX6_init_X1 tyX1_ok rfl (by decide +kernel) (by decide +kernel) (by decide +kernel) (fs := [.null, .int (iI 0)]) (fun j hj => match j, hj with | 0, _ => rfl | 1, _ => rfl) (Nat.le_of_ble_eq_true rfl) (Nat.le_of_ble_eq_true rfl) dX6_init_16 (fun q3 H B => ?_)
  have B : bw E A s H locs [(a, .inr (6, [.ref q1, .null])), cMet q1 u2.1 u2.2.1 u2.2.2 sg0 0 0 0, cSig u2.1 sg0, cSet u2.2.1 sg0, cCon u2.2.2 sg0 0, (q3, .inr (1, [.null, .int (iI 0)]))] := B
  refine lv_dup S.1 S.2.1 (pc := 19) dX6_init_19 rfl ?_
  refine z_callIN S (pc := 20) B (wr := [(a, .inr (6, [.ref q1, .null])), cMet q1 u2.1 u2.2.1 u2.2.2 sg0 0 0 0, cSig u2.1 sg0, cSet u2.2.1 sg0, cCon u2.2.2 sg0 0]) (wn := fun u4 => [(a, .inr (6, [.ref q1, .null])), cMet q1 u2.1 u2.2.1 u2.2.2 sg0 0 0 0, cSig u2.1 sg0, cSet u2.2.1 sg0, cCon u2.2.2 sg0 0, cLog q3 u4 sg0, cRow E u4 zr0]) (st1 := fun _ => [.ref q3, .ref a]) (As := []) (mX1_init l E q3 ) gX6_init_X1_init_n18 (by decide +kernel) (by decide +kernel) (by decide +kernel) rfl 0 rfl (by decide +kernel) ⟨Nat.le_of_ble_eq_true rfl, Nat.le_of_ble_eq_true rfl, Nat.le_of_ble_eq_true rfl, Nat.le_of_ble_eq_true rfl⟩ [5] [0, 1, 2, 3, 4] [0, 1, 2, 3, 4, 5, 6] rfl rfl ⟨rfl, rfl, rfl, by decide⟩ (fun _ => rfl) rfl (fun _ => rfl) hl.1 (Nat.le_of_ble_eq_true rfl) rfl dX6_init_20 (fun u4 hu4 H locs B => ?_)
  refine z_putF S (pc := 23) B iX6_init_X6 tyX6_ok nmX6 0 rfl rfl 1 (by decide) rfl hnm rfl (by decide +kernel) (ty := tyX6 1) (tyX6_ok 1 (by decide)) rfl rfl (Nat.le_of_ble_eq_true rfl) dX6_init_23 (wn := [(a, .inr (6, [.ref q1, .ref q3])), cMet q1 u2.1 u2.2.1 u2.2.2 sg0 0 0 0, cSig u2.1 sg0, cSet u2.2.1 sg0, cCon u2.2.2 sg0 0, cLog q3 u4 sg0, cRow E u4 zr0]) rfl (fun H locs B => ?_)
  exact z_return S hr hlk B ⟨q1, u2.1, u2.2.1, u2.2.2, q3, u4⟩ trivial rfl rfl (pc := 26) dX6_init_26
theorem iX3_init_X3 : ∀ w ∈ wsX30, w ∈ wsX3_init := by decide +kernel
set_option maxHeartbeats 4000000 in
set_option maxRecDepth 100000 in
theorem mX3_init (l : Launch) (E : gT) (a : Nat)  : Ct l E yX3_init wsX3_init 1 20 3 180 [.ref a] [(a, .inr (3, [.null, .int (iI 0), .null, .null, .int (iI 0), .int (iI 0), .int (iI 0)]))] (S0 := Nat × Nat × Nat) (fun u0 => True) (fun _ => none) (fun u0 => [cPad a u0.1 u0.2.1 u0.2.2 0 0 0 0, cChr E u0.1 zr0, cInt E u0.2.1 60 zr0, cInt E u0.2.2 60 zr0]) := by
  refine Ct.mk (cc := cX3_init) (maxL := 1) (ret := none) (plainFor_of_name (by decide)) rfl (Nat.le_of_ble_eq_true rfl) ?_
  intro p e s m below meth c A ls H locs S hr hlk hnm B hl
  have S : CallFix p m c cX3_init 1 s #[.ref a] wsX3_init RX3 := S
  have hl : lv_has ls 1 [(0, .ref a)] := hl
  have hnm : meth.name = "<init>" := hnm
  refine z_aload_n S (pc := 0) dX3_init_0 rfl (lv_at hl 0 rfl) ?_
  refine W.objInit S.1 S.2.1 S.2.2.2.1 (S.2.2.2.2 (.methodLink RX3 3 objectInit) (by decide +kernel)) (S.2.2.2.2 (.instanceMethod objectInit) (by decide +kernel)) (S.2.2.2.2 (.code objectInit ⟨#[0xb1]⟩ 1 none) (by decide +kernel)) rfl (by rw [S.2.2.1]; exact hl.1) rfl dX3_init_1 (Nat.le_of_ble_eq_true rfl) (Nat.le_of_ble_eq_true rfl) ?_
  refine W.eq (g2 := F0 m 4 ls []) rfl ?_
  refine z_aload_n S (pc := 4) dX3_init_4 rfl (lv_at hl 0 rfl) ?_
  refine z_bipush S (pc := 5) dX3_init_5 rfl ?_
  refine z_newa S (pc := 7) B (ty := .char) rfl (by decide +kernel) 0 rfl (fun _ _ h => h) (N := 60) rfl (a0 := (60, .inl (iat zr0))) (fun _ => rfl) (by decide) (by decide) (Nat.le_of_ble_eq_true rfl) (Nat.le_of_ble_eq_true rfl) dX3_init_7 (fun q1 H B => ?_)
  have B : bw E A s H locs [(a, .inr (3, [.null, .int (iI 0), .null, .null, .int (iI 0), .int (iI 0), .int (iI 0)])), cChr E q1 zr0] := B
  refine z_putF S (pc := 9) B iX3_init_X3 tyX3_ok nmX3 0 rfl rfl 0 (by decide) rfl hnm rfl (by decide +kernel) (ty := tyX3 0) (tyX3_ok 0 (by decide)) rfl rfl (Nat.le_of_ble_eq_true rfl) dX3_init_9 (wn := [(a, .inr (3, [.ref q1, .int (iI 0), .null, .null, .int (iI 0), .int (iI 0), .int (iI 0)])), cChr E q1 zr0]) rfl (fun H locs B => ?_)
  refine z_aload_n S (pc := 12) dX3_init_12 rfl (lv_at hl 0 rfl) ?_
  refine z_bipush S (pc := 13) dX3_init_13 rfl ?_
  refine z_newa S (pc := 15) B (ty := .int) rfl (by decide +kernel) 1 rfl (fun _ _ h => h) (N := 60) rfl (a0 := (60, .inl (iat zr0))) (fun _ => rfl) (by decide) (by decide) (Nat.le_of_ble_eq_true rfl) (Nat.le_of_ble_eq_true rfl) dX3_init_15 (fun q2 H B => ?_)
  have B : bw E A s H locs [(a, .inr (3, [.ref q1, .int (iI 0), .null, .null, .int (iI 0), .int (iI 0), .int (iI 0)])), cChr E q1 zr0, cInt E q2 60 zr0] := B
  refine z_putF S (pc := 17) B iX3_init_X3 tyX3_ok nmX3 0 rfl rfl 2 (by decide) rfl hnm rfl (by decide +kernel) (ty := tyX3 2) (tyX3_ok 2 (by decide)) rfl rfl (Nat.le_of_ble_eq_true rfl) dX3_init_17 (wn := [(a, .inr (3, [.ref q1, .int (iI 0), .ref q2, .null, .int (iI 0), .int (iI 0), .int (iI 0)])), cChr E q1 zr0, cInt E q2 60 zr0]) rfl (fun H locs B => ?_)
  refine z_aload_n S (pc := 20) dX3_init_20 rfl (lv_at hl 0 rfl) ?_
  refine z_bipush S (pc := 21) dX3_init_21 rfl ?_
  refine z_newa S (pc := 23) B (ty := .int) rfl (by decide +kernel) 1 rfl (fun _ _ h => h) (N := 60) rfl (a0 := (60, .inl (iat zr0))) (fun _ => rfl) (by decide) (by decide) (Nat.le_of_ble_eq_true rfl) (Nat.le_of_ble_eq_true rfl) dX3_init_23 (fun q3 H B => ?_)
  have B : bw E A s H locs [(a, .inr (3, [.ref q1, .int (iI 0), .ref q2, .null, .int (iI 0), .int (iI 0), .int (iI 0)])), cChr E q1 zr0, cInt E q2 60 zr0, cInt E q3 60 zr0] := B
  refine z_putF S (pc := 25) B iX3_init_X3 tyX3_ok nmX3 0 rfl rfl 3 (by decide) rfl hnm rfl (by decide +kernel) (ty := tyX3 3) (tyX3_ok 3 (by decide)) rfl rfl (Nat.le_of_ble_eq_true rfl) dX3_init_25 (wn := [(a, .inr (3, [.ref q1, .int (iI 0), .ref q2, .ref q3, .int (iI 0), .int (iI 0), .int (iI 0)])), cChr E q1 zr0, cInt E q2 60 zr0, cInt E q3 60 zr0]) rfl (fun H locs B => ?_)
  exact z_return S hr hlk B ⟨q1, q2, q3⟩ trivial rfl rfl (pc := 28) dX3_init_28
theorem iX8_init_X8 : ∀ w ∈ wsX80, w ∈ wsX8_init := by decide +kernel
set_option maxHeartbeats 4000000 in
set_option maxRecDepth 100000 in
theorem mX8_init (l : Launch) (E : gT) (a : Nat)  : Ct l E yX8_init wsX8_init 1 20 6 1394 [.ref a] [(a, .inr (8, [.null, .null, .null, .null, .null, .int (iI 0), .long (iL 0), .int (iI 0), .int (iI 0), .int (iI 0), .null, .int (iI 0)]))] (S0 := Nat × Nat × Nat × Nat × Nat × Nat) (fun u0 => True) (fun _ => none) (fun u0 => [cMod a u0.1 u0.2.1 u0.2.2.1 u0.2.2.2.1 u0.2.2.2.2.1 u0.2.2.2.2.2 0 0 0 0 0 0, cAt E u0.1 sg0 zr0, cLon E u0.2.1 303 zr0, cLon E u0.2.2.1 606 zr0, cIsv E u0.2.2.2.1 zr0, cInt E u0.2.2.2.2.1 60 zr0, cInt E u0.2.2.2.2.2 120 zr0]) := by
  refine Ct.mk (cc := cX8_init) (maxL := 1) (ret := none) (plainFor_of_name (by decide)) rfl (Nat.le_of_ble_eq_true rfl) ?_
  intro p e s m below meth c A ls H locs S hr hlk hnm B hl
  have S : CallFix p m c cX8_init 1 s #[.ref a] wsX8_init RX8 := S
  have hl : lv_has ls 1 [(0, .ref a)] := hl
  have hnm : meth.name = "<init>" := hnm
  refine z_aload_n S (pc := 0) dX8_init_0 rfl (lv_at hl 0 rfl) ?_
  refine W.objInit S.1 S.2.1 S.2.2.2.1 (S.2.2.2.2 (.methodLink RX8 1 objectInit) (by decide +kernel)) (S.2.2.2.2 (.instanceMethod objectInit) (by decide +kernel)) (S.2.2.2.2 (.code objectInit ⟨#[0xb1]⟩ 1 none) (by decide +kernel)) rfl (by rw [S.2.2.1]; exact hl.1) rfl dX8_init_1 (Nat.le_of_ble_eq_true rfl) (Nat.le_of_ble_eq_true rfl) ?_
  refine W.eq (g2 := F0 m 4 ls []) rfl ?_
  refine z_aload_n S (pc := 4) dX8_init_4 rfl (lv_at hl 0 rfl) ?_
  refine z_sipush S (pc := 5) dX8_init_5 rfl ?_
  refine z_newa S (pc := 8) B (ty := .long) rfl (by decide +kernel) 2 rfl (fun _ _ h => h) (N := 303) rfl (a0 := (303, .inr (.inl (lat zr0)))) (fun _ => rfl) (by decide) (by decide) (Nat.le_of_ble_eq_true rfl) (Nat.le_of_ble_eq_true rfl) dX8_init_8 (fun q1 H B => ?_)
  have B : bw E A s H locs [(a, .inr (8, [.null, .null, .null, .null, .null, .int (iI 0), .long (iL 0), .int (iI 0), .int (iI 0), .int (iI 0), .null, .int (iI 0)])), cLon E q1 303 zr0] := B
  refine z_putF S (pc := 10) B iX8_init_X8 tyX8_ok nmX8 0 rfl rfl 0 (by decide) rfl hnm rfl (by decide +kernel) (ty := tyX8 0) (tyX8_ok 0 (by decide)) rfl rfl (Nat.le_of_ble_eq_true rfl) dX8_init_10 (wn := [(a, .inr (8, [.ref q1, .null, .null, .null, .null, .int (iI 0), .long (iL 0), .int (iI 0), .int (iI 0), .int (iI 0), .null, .int (iI 0)])), cLon E q1 303 zr0]) rfl (fun H locs B => ?_)
  refine z_aload_n S (pc := 13) dX8_init_13 rfl (lv_at hl 0 rfl) ?_
  refine z_sipush S (pc := 14) dX8_init_14 rfl ?_
  refine z_newa S (pc := 17) B (ty := .long) rfl (by decide +kernel) 2 rfl (fun _ _ h => h) (N := 303) rfl (a0 := (303, .inr (.inl (lat zr0)))) (fun _ => rfl) (by decide) (by decide) (Nat.le_of_ble_eq_true rfl) (Nat.le_of_ble_eq_true rfl) dX8_init_17 (fun q2 H B => ?_)
  have B : bw E A s H locs [(a, .inr (8, [.ref q1, .null, .null, .null, .null, .int (iI 0), .long (iL 0), .int (iI 0), .int (iI 0), .int (iI 0), .null, .int (iI 0)])), cLon E q1 303 zr0, cLon E q2 303 zr0] := B
  refine z_putF S (pc := 19) B iX8_init_X8 tyX8_ok nmX8 0 rfl rfl 1 (by decide) rfl hnm rfl (by decide +kernel) (ty := tyX8 1) (tyX8_ok 1 (by decide)) rfl rfl (Nat.le_of_ble_eq_true rfl) dX8_init_19 (wn := [(a, .inr (8, [.ref q1, .ref q2, .null, .null, .null, .int (iI 0), .long (iL 0), .int (iI 0), .int (iI 0), .int (iI 0), .null, .int (iI 0)])), cLon E q1 303 zr0, cLon E q2 303 zr0]) rfl (fun H locs B => ?_)
  refine z_aload_n S (pc := 22) dX8_init_22 rfl (lv_at hl 0 rfl) ?_
  refine z_sipush S (pc := 23) dX8_init_23 rfl ?_
  refine z_newa S (pc := 26) B (ty := .long) rfl (by decide +kernel) 2 rfl (fun _ _ h => h) (N := 606) rfl (a0 := (606, .inr (.inl (lat zr0)))) (fun _ => rfl) (by decide) (by decide) (Nat.le_of_ble_eq_true rfl) (Nat.le_of_ble_eq_true rfl) dX8_init_26 (fun q3 H B => ?_)
  have B : bw E A s H locs [(a, .inr (8, [.ref q1, .ref q2, .null, .null, .null, .int (iI 0), .long (iL 0), .int (iI 0), .int (iI 0), .int (iI 0), .null, .int (iI 0)])), cLon E q1 303 zr0, cLon E q2 303 zr0, cLon E q3 606 zr0] := B
  refine z_putF S (pc := 28) B iX8_init_X8 tyX8_ok nmX8 0 rfl rfl 2 (by decide) rfl hnm rfl (by decide +kernel) (ty := tyX8 2) (tyX8_ok 2 (by decide)) rfl rfl (Nat.le_of_ble_eq_true rfl) dX8_init_28 (wn := [(a, .inr (8, [.ref q1, .ref q2, .ref q3, .null, .null, .int (iI 0), .long (iL 0), .int (iI 0), .int (iI 0), .int (iI 0), .null, .int (iI 0)])), cLon E q1 303 zr0, cLon E q2 303 zr0, cLon E q3 606 zr0]) rfl (fun H locs B => ?_)
  refine z_aload_n S (pc := 31) dX8_init_31 rfl (lv_at hl 0 rfl) ?_
  refine z_iconst S (pc := 32) dX8_init_32 ?_
  refine z_newa S (pc := 33) B (ty := .boolean) rfl (by decide +kernel) 3 rfl (fun _ _ h => h) (N := 2) rfl (a0 := (2, .inl (iat zr0))) (fun _ => rfl) (by decide) (by decide) (Nat.le_of_ble_eq_true rfl) (Nat.le_of_ble_eq_true rfl) dX8_init_33 (fun q4 H B => ?_)
  have B : bw E A s H locs [(a, .inr (8, [.ref q1, .ref q2, .ref q3, .null, .null, .int (iI 0), .long (iL 0), .int (iI 0), .int (iI 0), .int (iI 0), .null, .int (iI 0)])), cLon E q1 303 zr0, cLon E q2 303 zr0, cLon E q3 606 zr0, cIsv E q4 zr0] := B
  refine z_putF S (pc := 35) B iX8_init_X8 tyX8_ok nmX8 0 rfl rfl 3 (by decide) rfl hnm rfl (by decide +kernel) (ty := tyX8 3) (tyX8_ok 3 (by decide)) rfl rfl (Nat.le_of_ble_eq_true rfl) dX8_init_35 (wn := [(a, .inr (8, [.ref q1, .ref q2, .ref q3, .ref q4, .null, .int (iI 0), .long (iL 0), .int (iI 0), .int (iI 0), .int (iI 0), .null, .int (iI 0)])), cLon E q1 303 zr0, cLon E q2 303 zr0, cLon E q3 606 zr0, cIsv E q4 zr0]) rfl (fun H locs B => ?_)
  refine z_aload_n S (pc := 38) dX8_init_38 rfl (lv_at hl 0 rfl) ?_
  refine z_bipush S (pc := 39) dX8_init_39 rfl ?_
  refine z_newa S (pc := 41) B (ty := .int) rfl (by decide +kernel) 1 rfl (fun _ _ h => h) (N := 60) rfl (a0 := (60, .inl (iat zr0))) (fun _ => rfl) (by decide) (by decide) (Nat.le_of_ble_eq_true rfl) (Nat.le_of_ble_eq_true rfl) dX8_init_41 (fun q5 H B => ?_)
  have B : bw E A s H locs [(a, .inr (8, [.ref q1, .ref q2, .ref q3, .ref q4, .null, .int (iI 0), .long (iL 0), .int (iI 0), .int (iI 0), .int (iI 0), .null, .int (iI 0)])), cLon E q1 303 zr0, cLon E q2 303 zr0, cLon E q3 606 zr0, cIsv E q4 zr0, cInt E q5 60 zr0] := B
  refine z_putF S (pc := 43) B iX8_init_X8 tyX8_ok nmX8 0 rfl rfl 4 (by decide) rfl hnm rfl (by decide +kernel) (ty := tyX8 4) (tyX8_ok 4 (by decide)) rfl rfl (Nat.le_of_ble_eq_true rfl) dX8_init_43 (wn := [(a, .inr (8, [.ref q1, .ref q2, .ref q3, .ref q4, .ref q5, .int (iI 0), .long (iL 0), .int (iI 0), .int (iI 0), .int (iI 0), .null, .int (iI 0)])), cLon E q1 303 zr0, cLon E q2 303 zr0, cLon E q3 606 zr0, cIsv E q4 zr0, cInt E q5 60 zr0]) rfl (fun H locs B => ?_)
  refine z_aload_n S (pc := 46) dX8_init_46 rfl (lv_at hl 0 rfl) ?_
  refine z_bipush S (pc := 47) dX8_init_47 rfl ?_
  refine z_newa S (pc := 49) B (ty := .int) rfl (by decide +kernel) 1 rfl (fun _ _ h => h) (N := 120) rfl (a0 := (120, .inl (iat zr0))) (fun _ => rfl) (by decide) (by decide) (Nat.le_of_ble_eq_true rfl) (Nat.le_of_ble_eq_true rfl) dX8_init_49 (fun q6 H B => ?_)
  have B : bw E A s H locs [(a, .inr (8, [.ref q1, .ref q2, .ref q3, .ref q4, .ref q5, .int (iI 0), .long (iL 0), .int (iI 0), .int (iI 0), .int (iI 0), .null, .int (iI 0)])), cLon E q1 303 zr0, cLon E q2 303 zr0, cLon E q3 606 zr0, cIsv E q4 zr0, cInt E q5 60 zr0, cInt E q6 120 zr0] := B
  refine z_putF S (pc := 51) B iX8_init_X8 tyX8_ok nmX8 0 rfl rfl 10 (by decide) rfl hnm rfl (by decide +kernel) (ty := tyX8 10) (tyX8_ok 10 (by decide)) rfl rfl (Nat.le_of_ble_eq_true rfl) dX8_init_51 (wn := [(a, .inr (8, [.ref q1, .ref q2, .ref q3, .ref q4, .ref q5, .int (iI 0), .long (iL 0), .int (iI 0), .int (iI 0), .int (iI 0), .ref q6, .int (iI 0)])), cLon E q1 303 zr0, cLon E q2 303 zr0, cLon E q3 606 zr0, cIsv E q4 zr0, cInt E q5 60 zr0, cInt E q6 120 zr0]) rfl (fun H locs B => ?_)
  refine z_aload_n S (pc := 54) dX8_init_54 rfl (lv_at hl 0 rfl) ?_
  refine z_get S (pc := 55) B iX8_init_X8 0 rfl rfl 0 (by decide) rfl rfl (by decide +kernel) dX8_init_55 ?_
  refine z_iconst S (pc := 58) dX8_init_58 ?_
  refine z_ldc2 S (pc := 59) (x := 100) (by decide +kernel) rfl dX8_init_59 ?_
  refine z_last S (pc := 62) B 1 2 rfl rfl (k := 2) rfl (by decide) (by decide) dX8_init_62 (wn := [(a, .inr (8, [.ref q1, .ref q2, .ref q3, .ref q4, .ref q5, .int (iI 0), .long (iL 0), .int (iI 0), .int (iI 0), .int (iI 0), .ref q6, .int (iI 0)])), cLon E q1 303 (up zr0 2 100), cLon E q2 303 zr0, cLon E q3 606 zr0, cIsv E q4 zr0, cInt E q5 60 zr0, cInt E q6 120 zr0]) (by rw [lat_up]; rfl) (fun H locs B => ?_)
  refine z_aload_n S (pc := 63) dX8_init_63 rfl (lv_at hl 0 rfl) ?_
  refine z_get S (pc := 64) B iX8_init_X8 0 rfl rfl 0 (by decide) rfl rfl (by decide +kernel) dX8_init_64 ?_
  refine z_iconst S (pc := 67) dX8_init_67 ?_
  refine z_ldc2 S (pc := 68) (x := 100) (by decide +kernel) rfl dX8_init_68 ?_
  refine z_last S (pc := 71) B 1 2 rfl rfl (k := 5) rfl (by decide) (by decide) dX8_init_71 (wn := [(a, .inr (8, [.ref q1, .ref q2, .ref q3, .ref q4, .ref q5, .int (iI 0), .long (iL 0), .int (iI 0), .int (iI 0), .int (iI 0), .ref q6, .int (iI 0)])), cLon E q1 303 (up (up zr0 2 100) 5 100), cLon E q2 303 zr0, cLon E q3 606 zr0, cIsv E q4 zr0, cInt E q5 60 zr0, cInt E q6 120 zr0]) (by rw [lat_up]; rfl) (fun H locs B => ?_)
  refine z_aload_n S (pc := 72) dX8_init_72 rfl (lv_at hl 0 rfl) ?_
  refine z_get S (pc := 73) B iX8_init_X8 0 rfl rfl 0 (by decide) rfl rfl (by decide +kernel) dX8_init_73 ?_
  refine z_bipush S (pc := 76) dX8_init_76 rfl ?_
  refine z_ldc2 S (pc := 78) (x := 5) (by decide +kernel) rfl dX8_init_78 ?_
  refine z_last S (pc := 81) B 1 2 rfl rfl (k := 6) rfl (by decide) (by decide) dX8_init_81 (wn := [(a, .inr (8, [.ref q1, .ref q2, .ref q3, .ref q4, .ref q5, .int (iI 0), .long (iL 0), .int (iI 0), .int (iI 0), .int (iI 0), .ref q6, .int (iI 0)])), cLon E q1 303 (up (up (up zr0 2 100) 5 100) 6 5), cLon E q2 303 zr0, cLon E q3 606 zr0, cIsv E q4 zr0, cInt E q5 60 zr0, cInt E q6 120 zr0]) (by rw [lat_up]; rfl) (fun H locs B => ?_)
  have B : bw E A s H locs [(a, .inr (8, [.ref q1, .ref q2, .ref q3, .ref q4, .ref q5, .int (iI 0), .long (iL 0), .int (iI 0), .int (iI 0), .int (iI 0), .ref q6, .int (iI 0)])), cAt E q1 sg0 zr0, cLon E q2 303 zr0, cLon E q3 606 zr0, cIsv E q4 zr0, cInt E q5 60 zr0, cInt E q6 120 zr0] := bw_extL B 1 (f := lat (up (up (up zr0 2 100) 5 100) 6 5)) (g := lat (mat sg0 zr0)) rfl (fun k hk => by show iL _ = iL _; rw [at0 k]) rfl
  exact z_return S hr hlk B ⟨q1, q2, q3, q4, q5, q6⟩ trivial rfl rfl (pc := 82) dX8_init_82
/-! END init -/
