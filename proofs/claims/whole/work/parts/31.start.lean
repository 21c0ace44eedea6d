set_option linter.unusedVariables false
theorem and31 (x : Int32) : ∃ k : Nat, k < 32 ∧ x &&& iI 31 = iI (k : Int) := by
  refine ⟨(x.toBitVec &&& 31#32).toNat, ?_, ?_⟩
  · rw [BitVec.toNat_and]
    exact Nat.lt_of_le_of_lt Nat.and_le_right (by decide)
  · apply Int32.toBitVec_inj.mp
    rw [Int32.toBitVec_and]
    show x.toBitVec &&& 31#32 = BitVec.ofInt 32 (((x.toBitVec &&& 31#32).toNat : Nat) : Int)
    rw [BitVec.ofInt_natCast, BitVec.ofNat_toNat, BitVec.setWidth_eq]
theorem eqI {n : Nat} {k : Int} (h : k = (n : Int)) : iI k = iI (n : Int) := by rw [h]
set_option maxHeartbeats 8000000 in
set_option maxRecDepth 100000 in
theorem law_loop {p : Program} {l : Launch} {e : Env} {s : State} {m : MethodId} {below : List Frame} {meth : Method} {c : Code} (E : gT) {b L : Nat} {xs : Nat → Int32} (S : CallFix p m c cL_law 4 s #[Value.ref b] wsL_law RL) (hr : meth.sig.returnType = ret) (hlocks : meth.locks = false) (hX : va_X b L xs s s.heap) (hbl : b < s.heap.size) (hL : L ≤ 2560) (ad : Nat → Nat) (ua : Nat) (um : Nat) (p1 : Nat) (p2 : Nat) (p3 : Nat) (p4 : Nat) (p5 : Nat) (p6 : Nat) :
    ∀ (n i : Nat) (N : Int) (σ : Nat → Int) (ρ : Nat → Int) (σu : Nat → Int) (ρu : Nat → Int) (σt : Nat → Int) (σa : Nat → Int) (ρa : Nat → Int) (σb : Nat → Int) (ρb : Nat → Int) (β : Nat → Int) (χ : Nat → Int) (κ : Nat → Int) (ν : Nat → Int) (α : Nat → Int) (θ : Nat → Int) (ψ : Nat → Int) (ov : Int) (rr : Int) (rb : Int) (rn : Int) (ovu : Int) (rru : Int) (rbu : Int) (rnu : Int) (ovt : Int) (rrt : Int) (rbt : Int) (rnt : Int) (ova : Int) (rra : Int) (rba : Int) (rna : Int) (ovb : Int) (rrb : Int) (rbb : Int) (rnb : Int) (pn : Int) (ps : Int) (pt : Int) (pm : Int) (ig : Int) (mo : Int) (rd : Int) (wr : Int) (sm : Int) (hin : L + 1 ≤ i + n) (hiL : i ≤ L) (hN : 0 ≤ N) (h5 : 5 * N ≤ (i : Int)) (hI : INVP N σ ρ ov β σa ρa ova σb ρb ovb θ χ pn) (H : Heap) (locs : List Loc) (ls : Array Slot) (B : bw E (fun q : Nat => s.heap.size ≤ q) s H locs (LW E ad ua um p1 p2 p3 p4 p5 p6 σ ρ σu ρu σt σa ρa σb ρb β χ κ ν α θ ψ ov rr rb rn ovu rru rbu rnu ovt rrt rbt rnt ova rra rba rna ovb rrb rbb rnb pn ps pt pm ig mo rd wr sm)) (hl : lv_has ls 4 [(0, .ref b), (1, .ref ua), (2, .ref um), (3, .int (iI (i : Int)))]), W p l e room_1 s m #[Value.ref b] below meth c H locs 46 2884 (lw_Z below #[Value.ref b] s) (F0 m 18 ls []) := by
  have hbA : ¬ (fun q : Nat => s.heap.size ≤ q) b := Nat.not_le.mpr hbl
  intro n
  induction n with
  | zero =>
    intro i N σ ρ σu ρu σt σa ρa σb ρb β χ κ ν α θ ψ ov rr rb rn ovu rru rbu rnu ovt rrt rbt rnt ova rra rba rna ovb rrb rbb rnb pn ps pt pm ig mo rd wr sm hin hiL
    exact absurd hin (by omega)
  | succ n ih =>
    intro i N σ ρ σu ρu σt σa ρa σb ρb β χ κ ν α θ ψ ov rr rb rn ovu rru rbu rnu ovt rrt rbt rnt ova rra rba rna ovb rrb rbb rnb pn ps pt pm ig mo rd wr sm hin hiL hN h5 hI H locs ls B hl
    refine z_iload_n S (pc := 18) dL_law_18 rfl (lv_at hl 3 rfl) ?_
    refine z_aload_n S (pc := 19) dL_law_19 rfl (lv_at hl 0 rfl) ?_
    refine z_slen S B hX hbl hbA (pc := 20) dL_law_20 ?_
    refine z_iconst S (pc := 21) dL_law_21 ?_
    refine z_isub S (pc := 22) dL_law_22 ?_
    refine z_icmp_gt S (pc := 23) (tgt := 787) (by omega) (by omega) dL_law_23 rfl (fun c1 => ?_) (fun c1 => ?_)
    · refine z_iconst S (pc := 787) dL_law_787 ?_
      refine va_forget (fun q hq => B.2.2.2.1.2.2 q hq) ?_
      refine W.widen (k := 600000) (n := 7302250) (Nat.le_of_ble_eq_true rfl) (Nat.le_of_ble_eq_true rfl) ?_
      exact lw_ret S.1 S.2.1 hr hlocks dL_law_788
    · have hi5 : i + 5 ≤ L := by omega
      have e5 : ((i + 5 : Nat) : Int) = (i : Int) + 5 := by omega
      have hnext : ∀ (σ : Nat → Int) (ρ : Nat → Int) (σu : Nat → Int) (ρu : Nat → Int) (σt : Nat → Int) (σa : Nat → Int) (ρa : Nat → Int) (σb : Nat → Int) (ρb : Nat → Int) (β : Nat → Int) (χ : Nat → Int) (κ : Nat → Int) (ν : Nat → Int) (α : Nat → Int) (θ : Nat → Int) (ψ : Nat → Int) (ov : Int) (rr : Int) (rb : Int) (rn : Int) (ovu : Int) (rru : Int) (rbu : Int) (rnu : Int) (ovt : Int) (rrt : Int) (rbt : Int) (rnt : Int) (ova : Int) (rra : Int) (rba : Int) (rna : Int) (ovb : Int) (rrb : Int) (rbb : Int) (rnb : Int) (pn : Int) (ps : Int) (pt : Int) (pm : Int) (ig : Int) (mo : Int) (rd : Int) (wr : Int) (sm : Int) (hI : INVP (N + 1) σ ρ ov β σa ρa ova σb ρb ovb θ χ pn) (H : Heap) (locs : List Loc) (ls : Array Slot), bw E (fun q : Nat => s.heap.size ≤ q) s H locs (LW E ad ua um p1 p2 p3 p4 p5 p6 σ ρ σu ρu σt σa ρa σb ρb β χ κ ν α θ ψ ov rr rb rn ovu rru rbu rnu ovt rrt rbt rnt ova rra rba rna ovb rrb rbb rnb pn ps pt pm ig mo rd wr sm) → lv_has ls 4 [(0, .ref b), (1, .ref ua), (2, .ref um), (3, .int (iI (i : Int)))] → W p l e room_1 s m #[Value.ref b] below meth c H locs 46 2884 (lw_Z below #[Value.ref b] s) (F0 m 781 ls []) := by
        intro σ ρ σu ρu σt σa ρa σb ρb β χ κ ν α θ ψ ov rr rb rn ovu rru rbu rnu ovt rrt rbt rnt ova rra rba rna ovb rrb rbb rnb pn ps pt pm ig mo rd wr sm hI H locs ls B hl
        refine lv_iinc (v := iI ((i : Int) + 5)) (lv' := [(3, .int (iI ((i : Int) + 5))), (0, .ref b), (1, .ref ua), (2, .ref um)]) S.1 S.2.1 (pc := 781) dL_law_781 hl (k := 3) rfl (iI_add _ _) (by decide) rfl (fun ls hl => ?_)
        refine lv_goto S.1 S.2.1 (pc := 784) (tgt := 18) dL_law_784 rfl ?_
        exact ih (i + 5) (N + 1) σ ρ σu ρu σt σa ρa σb ρb β χ κ ν α θ ψ ov rr rb rn ovu rru rbu rnu ovt rrt rbt rnt ova rra rba rna ovb rrb rbb rnb pn ps pt pm ig mo rd wr sm (by omega) hi5 (by omega) (by omega) hI H locs ls B (by rw [e5]; exact lv_sub hl [1, 2, 3, 0] rfl)
      refine z_aload_n S (pc := 26) dL_law_26 rfl (lv_at hl 0 rfl) ?_
      refine z_iload_n S (pc := 27) dL_law_27 rfl (lv_at hl 3 rfl) ?_
      refine z_sld S B hX hbl hbA (pc := 28) (k := i) rfl (by omega) hL dL_law_28 ?_
      refine z_bipush S (pc := 29) dL_law_29 rfl ?_
      refine lv_iand S.1 S.2.1 (pc := 31) dL_law_31 ?_
      obtain ⟨k, hk, ek⟩ := and31 (iI (xs i).toInt)
      rw [ek]
      by_cases hk25 : 25 ≤ k
      · refine lv_tableOut S.1 S.2.1 (pc := 32) (tgt := 781) dL_law_32 (Or.inr (by rw [iI_toInt (by omega)]; omega)) rfl ?_
        exact hnext σ ρ σu ρu σt σa ρa σb ρb β χ κ ν α θ ψ ov rr rb rn ovu rru rbu rnu ovt rrt rbt rnt ova rra rba rna ovb rrb rbb rnb pn ps pt pm ig mo rd wr sm ⟨good_N hI.1, slot_N hI.2.1, slot_N hI.2.2.1, hI.2.2.2⟩ H locs ls B hl
      rcases (show k = 0 ∨ k = 1 ∨ k = 2 ∨ k = 3 ∨ k = 4 ∨ k = 5 ∨ k = 6 ∨ k = 7 ∨ k = 8 ∨ k = 9 ∨ k = 10 ∨ k = 11 ∨ k = 12 ∨ k = 13 ∨ k = 14 ∨ k = 15 ∨ k = 16 ∨ k = 17 ∨ k = 18 ∨ k = 19 ∨ k = 20 ∨ k = 21 ∨ k = 22 ∨ k = 23 ∨ k = 24 from by omega) with rfl | rfl | rfl | rfl | rfl | rfl | rfl | rfl | rfl | rfl | rfl | rfl | rfl | rfl | rfl | rfl | rfl | rfl | rfl | rfl | rfl | rfl | rfl | rfl | rfl
      · refine lv_tableIn S.1 S.2.1 (pc := 32) (tgt := 148) (off := 116) dL_law_32 (by decide +kernel) (by decide +kernel) rfl rfl ?_
        exact law_c0 E S hX hbl hbA hL ad ua um p1 p2 p3 p4 p5 p6 σ ρ σu ρu σt σa ρa σb ρb β χ κ ν α θ ψ ov rr rb rn ovu rru rbu rnu ovt rrt rbt rnt ova rra rba rna ovb rrb rbb rnb pn ps pt pm ig mo rd wr sm i hi5 N ⟨hN, by omega⟩ hI hnext H locs ls B hl
      · refine lv_tableIn S.1 S.2.1 (pc := 32) (tgt := 171) (off := 139) dL_law_32 (by decide +kernel) (by decide +kernel) rfl rfl ?_
        exact law_c1 E S hX hbl hbA hL ad ua um p1 p2 p3 p4 p5 p6 σ ρ σu ρu σt σa ρa σb ρb β χ κ ν α θ ψ ov rr rb rn ovu rru rbu rnu ovt rrt rbt rnt ova rra rba rna ovb rrb rbb rnb pn ps pt pm ig mo rd wr sm i hi5 N ⟨hN, by omega⟩ hI hnext H locs ls B hl
      · refine lv_tableIn S.1 S.2.1 (pc := 32) (tgt := 204) (off := 172) dL_law_32 (by decide +kernel) (by decide +kernel) rfl rfl ?_
        exact law_c2 E S hX hbl hbA hL ad ua um p1 p2 p3 p4 p5 p6 σ ρ σu ρu σt σa ρa σb ρb β χ κ ν α θ ψ ov rr rb rn ovu rru rbu rnu ovt rrt rbt rnt ova rra rba rna ovb rrb rbb rnb pn ps pt pm ig mo rd wr sm i hi5 N ⟨hN, by omega⟩ hI hnext H locs ls B hl
      · refine lv_tableIn S.1 S.2.1 (pc := 32) (tgt := 237) (off := 205) dL_law_32 (by decide +kernel) (by decide +kernel) rfl rfl ?_
        exact law_c3 E S hX hbl hbA hL ad ua um p1 p2 p3 p4 p5 p6 σ ρ σu ρu σt σa ρa σb ρb β χ κ ν α θ ψ ov rr rb rn ovu rru rbu rnu ovt rrt rbt rnt ova rra rba rna ovb rrb rbb rnb pn ps pt pm ig mo rd wr sm i hi5 N ⟨hN, by omega⟩ hI hnext H locs ls B hl
      · refine lv_tableIn S.1 S.2.1 (pc := 32) (tgt := 270) (off := 238) dL_law_32 (by decide +kernel) (by decide +kernel) rfl rfl ?_
        exact law_c4 E S hX hbl hbA hL ad ua um p1 p2 p3 p4 p5 p6 σ ρ σu ρu σt σa ρa σb ρb β χ κ ν α θ ψ ov rr rb rn ovu rru rbu rnu ovt rrt rbt rnt ova rra rba rna ovb rrb rbb rnb pn ps pt pm ig mo rd wr sm i hi5 N ⟨hN, by omega⟩ hI hnext H locs ls B hl
      · refine lv_tableIn S.1 S.2.1 (pc := 32) (tgt := 293) (off := 261) dL_law_32 (by decide +kernel) (by decide +kernel) rfl rfl ?_
        exact law_c5 E S hX hbl hbA hL ad ua um p1 p2 p3 p4 p5 p6 σ ρ σu ρu σt σa ρa σb ρb β χ κ ν α θ ψ ov rr rb rn ovu rru rbu rnu ovt rrt rbt rnt ova rra rba rna ovb rrb rbb rnb pn ps pt pm ig mo rd wr sm i hi5 N ⟨hN, by omega⟩ hI hnext H locs ls B hl
      · refine lv_tableIn S.1 S.2.1 (pc := 32) (tgt := 327) (off := 295) dL_law_32 (by decide +kernel) (by decide +kernel) rfl rfl ?_
        exact law_c6 E S hX hbl hbA hL ad ua um p1 p2 p3 p4 p5 p6 σ ρ σu ρu σt σa ρa σb ρb β χ κ ν α θ ψ ov rr rb rn ovu rru rbu rnu ovt rrt rbt rnt ova rra rba rna ovb rrb rbb rnb pn ps pt pm ig mo rd wr sm i hi5 N ⟨hN, by omega⟩ hI hnext H locs ls B hl
      · refine lv_tableIn S.1 S.2.1 (pc := 32) (tgt := 341) (off := 309) dL_law_32 (by decide +kernel) (by decide +kernel) rfl rfl ?_
        exact law_c7 E S hX hbl hbA hL ad ua um p1 p2 p3 p4 p5 p6 σ ρ σu ρu σt σa ρa σb ρb β χ κ ν α θ ψ ov rr rb rn ovu rru rbu rnu ovt rrt rbt rnt ova rra rba rna ovb rrb rbb rnb pn ps pt pm ig mo rd wr sm i hi5 N ⟨hN, by omega⟩ hI hnext H locs ls B hl
      · refine lv_tableIn S.1 S.2.1 (pc := 32) (tgt := 354) (off := 322) dL_law_32 (by decide +kernel) (by decide +kernel) rfl rfl ?_
        exact law_c8 E S hX hbl hbA hL ad ua um p1 p2 p3 p4 p5 p6 σ ρ σu ρu σt σa ρa σb ρb β χ κ ν α θ ψ ov rr rb rn ovu rru rbu rnu ovt rrt rbt rnt ova rra rba rna ovb rrb rbb rnb pn ps pt pm ig mo rd wr sm i hi5 N ⟨hN, by omega⟩ hI hnext H locs ls B hl
      · refine lv_tableIn S.1 S.2.1 (pc := 32) (tgt := 377) (off := 345) dL_law_32 (by decide +kernel) (by decide +kernel) rfl rfl ?_
        exact law_c9 E S hX hbl hbA hL ad ua um p1 p2 p3 p4 p5 p6 σ ρ σu ρu σt σa ρa σb ρb β χ κ ν α θ ψ ov rr rb rn ovu rru rbu rnu ovt rrt rbt rnt ova rra rba rna ovb rrb rbb rnb pn ps pt pm ig mo rd wr sm i hi5 N ⟨hN, by omega⟩ hI hnext H locs ls B hl
      · refine lv_tableIn S.1 S.2.1 (pc := 32) (tgt := 411) (off := 379) dL_law_32 (by decide +kernel) (by decide +kernel) rfl rfl ?_
        exact law_c10 E S hX hbl hbA hL ad ua um p1 p2 p3 p4 p5 p6 σ ρ σu ρu σt σa ρa σb ρb β χ κ ν α θ ψ ov rr rb rn ovu rru rbu rnu ovt rrt rbt rnt ova rra rba rna ovb rrb rbb rnb pn ps pt pm ig mo rd wr sm i hi5 N ⟨hN, by omega⟩ hI hnext H locs ls B hl
      · refine lv_tableIn S.1 S.2.1 (pc := 32) (tgt := 435) (off := 403) dL_law_32 (by decide +kernel) (by decide +kernel) rfl rfl ?_
        exact law_c11 E S hX hbl hbA hL ad ua um p1 p2 p3 p4 p5 p6 σ ρ σu ρu σt σa ρa σb ρb β χ κ ν α θ ψ ov rr rb rn ovu rru rbu rnu ovt rrt rbt rnt ova rra rba rna ovb rrb rbb rnb pn ps pt pm ig mo rd wr sm i hi5 N ⟨hN, by omega⟩ hI hnext H locs ls B hl
      · refine lv_tableIn S.1 S.2.1 (pc := 32) (tgt := 469) (off := 437) dL_law_32 (by decide +kernel) (by decide +kernel) rfl rfl ?_
        exact law_c12 E S hX hbl hbA hL ad ua um p1 p2 p3 p4 p5 p6 σ ρ σu ρu σt σa ρa σb ρb β χ κ ν α θ ψ ov rr rb rn ovu rru rbu rnu ovt rrt rbt rnt ova rra rba rna ovb rrb rbb rnb pn ps pt pm ig mo rd wr sm i hi5 N ⟨hN, by omega⟩ hI hnext H locs ls B hl
      · refine lv_tableIn S.1 S.2.1 (pc := 32) (tgt := 493) (off := 461) dL_law_32 (by decide +kernel) (by decide +kernel) rfl rfl ?_
        exact law_c13 E S hX hbl hbA hL ad ua um p1 p2 p3 p4 p5 p6 σ ρ σu ρu σt σa ρa σb ρb β χ κ ν α θ ψ ov rr rb rn ovu rru rbu rnu ovt rrt rbt rnt ova rra rba rna ovb rrb rbb rnb pn ps pt pm ig mo rd wr sm i hi5 N ⟨hN, by omega⟩ hI hnext H locs ls B hl
      · refine lv_tableIn S.1 S.2.1 (pc := 32) (tgt := 517) (off := 485) dL_law_32 (by decide +kernel) (by decide +kernel) rfl rfl ?_
        exact law_c14 E S hX hbl hbA hL ad ua um p1 p2 p3 p4 p5 p6 σ ρ σu ρu σt σa ρa σb ρb β χ κ ν α θ ψ ov rr rb rn ovu rru rbu rnu ovt rrt rbt rnt ova rra rba rna ovb rrb rbb rnb pn ps pt pm ig mo rd wr sm i hi5 N ⟨hN, by omega⟩ hI hnext H locs ls B hl
      · refine lv_tableIn S.1 S.2.1 (pc := 32) (tgt := 560) (off := 528) dL_law_32 (by decide +kernel) (by decide +kernel) rfl rfl ?_
        exact law_c15 E S hX hbl hbA hL ad ua um p1 p2 p3 p4 p5 p6 σ ρ σu ρu σt σa ρa σb ρb β χ κ ν α θ ψ ov rr rb rn ovu rru rbu rnu ovt rrt rbt rnt ova rra rba rna ovb rrb rbb rnb pn ps pt pm ig mo rd wr sm i hi5 N ⟨hN, by omega⟩ hI hnext H locs ls B hl
      · refine lv_tableIn S.1 S.2.1 (pc := 32) (tgt := 613) (off := 581) dL_law_32 (by decide +kernel) (by decide +kernel) rfl rfl ?_
        exact law_c16 E S hX hbl hbA hL ad ua um p1 p2 p3 p4 p5 p6 σ ρ σu ρu σt σa ρa σb ρb β χ κ ν α θ ψ ov rr rb rn ovu rru rbu rnu ovt rrt rbt rnt ova rra rba rna ovb rrb rbb rnb pn ps pt pm ig mo rd wr sm i hi5 N ⟨hN, by omega⟩ hI hnext H locs ls B hl
      · refine lv_tableIn S.1 S.2.1 (pc := 32) (tgt := 637) (off := 605) dL_law_32 (by decide +kernel) (by decide +kernel) rfl rfl ?_
        exact law_c17 E S hX hbl hbA hL ad ua um p1 p2 p3 p4 p5 p6 σ ρ σu ρu σt σa ρa σb ρb β χ κ ν α θ ψ ov rr rb rn ovu rru rbu rnu ovt rrt rbt rnt ova rra rba rna ovb rrb rbb rnb pn ps pt pm ig mo rd wr sm i hi5 N ⟨hN, by omega⟩ hI hnext H locs ls B hl
      · refine lv_tableIn S.1 S.2.1 (pc := 32) (tgt := 650) (off := 618) dL_law_32 (by decide +kernel) (by decide +kernel) rfl rfl ?_
        exact law_c18 E S hX hbl hbA hL ad ua um p1 p2 p3 p4 p5 p6 σ ρ σu ρu σt σa ρa σb ρb β χ κ ν α θ ψ ov rr rb rn ovu rru rbu rnu ovt rrt rbt rnt ova rra rba rna ovb rrb rbb rnb pn ps pt pm ig mo rd wr sm i hi5 N ⟨hN, by omega⟩ hI hnext H locs ls B hl
      · refine lv_tableIn S.1 S.2.1 (pc := 32) (tgt := 673) (off := 641) dL_law_32 (by decide +kernel) (by decide +kernel) rfl rfl ?_
        exact law_c19 E S hX hbl hbA hL ad ua um p1 p2 p3 p4 p5 p6 σ ρ σu ρu σt σa ρa σb ρb β χ κ ν α θ ψ ov rr rb rn ovu rru rbu rnu ovt rrt rbt rnt ova rra rba rna ovb rrb rbb rnb pn ps pt pm ig mo rd wr sm i hi5 N ⟨hN, by omega⟩ hI hnext H locs ls B hl
      · refine lv_tableIn S.1 S.2.1 (pc := 32) (tgt := 686) (off := 654) dL_law_32 (by decide +kernel) (by decide +kernel) rfl rfl ?_
        exact law_c20 E S hX hbl hbA hL ad ua um p1 p2 p3 p4 p5 p6 σ ρ σu ρu σt σa ρa σb ρb β χ κ ν α θ ψ ov rr rb rn ovu rru rbu rnu ovt rrt rbt rnt ova rra rba rna ovb rrb rbb rnb pn ps pt pm ig mo rd wr sm i hi5 N ⟨hN, by omega⟩ hI hnext H locs ls B hl
      · refine lv_tableIn S.1 S.2.1 (pc := 32) (tgt := 699) (off := 667) dL_law_32 (by decide +kernel) (by decide +kernel) rfl rfl ?_
        exact law_c21 E S hX hbl hbA hL ad ua um p1 p2 p3 p4 p5 p6 σ ρ σu ρu σt σa ρa σb ρb β χ κ ν α θ ψ ov rr rb rn ovu rru rbu rnu ovt rrt rbt rnt ova rra rba rna ovb rrb rbb rnb pn ps pt pm ig mo rd wr sm i hi5 N ⟨hN, by omega⟩ hI hnext H locs ls B hl
      · refine lv_tableIn S.1 S.2.1 (pc := 32) (tgt := 712) (off := 680) dL_law_32 (by decide +kernel) (by decide +kernel) rfl rfl ?_
        exact law_c22 E S hX hbl hbA hL ad ua um p1 p2 p3 p4 p5 p6 σ ρ σu ρu σt σa ρa σb ρb β χ κ ν α θ ψ ov rr rb rn ovu rru rbu rnu ovt rrt rbt rnt ova rra rba rna ovb rrb rbb rnb pn ps pt pm ig mo rd wr sm i hi5 N ⟨hN, by omega⟩ hI hnext H locs ls B hl
      · refine lv_tableIn S.1 S.2.1 (pc := 32) (tgt := 735) (off := 703) dL_law_32 (by decide +kernel) (by decide +kernel) rfl rfl ?_
        exact law_c23 E S hX hbl hbA hL ad ua um p1 p2 p3 p4 p5 p6 σ ρ σu ρu σt σa ρa σb ρb β χ κ ν α θ ψ ov rr rb rn ovu rru rbu rnu ovt rrt rbt rnt ova rra rba rna ovb rrb rbb rnb pn ps pt pm ig mo rd wr sm i hi5 N ⟨hN, by omega⟩ hI hnext H locs ls B hl
      · refine lv_tableIn S.1 S.2.1 (pc := 32) (tgt := 758) (off := 726) dL_law_32 (by decide +kernel) (by decide +kernel) rfl rfl ?_
        exact law_c24 E S hX hbl hbA hL ad ua um p1 p2 p3 p4 p5 p6 σ ρ σu ρu σt σa ρa σb ρb β χ κ ν α θ ψ ov rr rb rn ovu rru rbu rnu ovt rrt rbt rnt ova rra rba rna ovb rrb rbb rnb pn ps pt pm ig mo rd wr sm i hi5 N ⟨hN, by omega⟩ hI hnext H locs ls B hl
theorem iL_law_X0 : ∀ w ∈ wsX00, w ∈ wsL_law := inlX0
theorem iL_law_X1 : ∀ w ∈ wsX10, w ∈ wsL_law := inlX1
theorem iL_law_X2 : ∀ w ∈ wsX20, w ∈ wsL_law := inlX2
theorem iL_law_X3 : ∀ w ∈ wsX30, w ∈ wsL_law := inlX3
theorem iL_law_X4 : ∀ w ∈ wsX40, w ∈ wsL_law := inlX4
theorem iL_law_X5 : ∀ w ∈ wsX50, w ∈ wsL_law := inlX5
theorem iL_law_X6 : ∀ w ∈ wsX60, w ∈ wsL_law := inlX6
theorem iL_law_X7 : ∀ w ∈ wsX70, w ∈ wsL_law := inlX7
theorem iL_law_X8 : ∀ w ∈ wsX80, w ∈ wsL_law := inlX8
theorem good0 : good sg0 zr0 0 0 := ⟨by decide, by decide, fun k => ⟨by show (-1099511627776 : Int) ≤ 0; omega, by show (0 : Int) ≤ 1099511627776; omega⟩, by decide, by decide, by decide, Or.inl rfl⟩
theorem slot0 (b : Nat) : slot 0 b sg0 zr0 zr0 0 0 := ⟨Or.inl rfl, fun q => absurd q (by decide)⟩
theorem inv0 : INVP 0 sg0 zr0 0 zr0 sg0 zr0 0 sg0 zr0 0 zr0 zr0 0 := ⟨good0, slot0 0, slot0 303, fun k _ => ⟨by show (0 : Int) ≤ 0; omega, by show (0 : Int) ≤ 126; omega⟩, by omega, by omega⟩
theorem nest_in : ∀ q ∈ nestM, Cond.methodLinkNest q.1 q.2.1 q.2.2 RX7 ∈ lw_tbl := by decide +kernel
theorem arrK {s : State} {args : Array Value} {ty : FieldType} (h : (Cond.arrayClass ty).before args s = true) : ∃ cA : ClassId, ArrOfT s cA ty ∧ s.vm.findClass ("[" ++ ty.toString) = some cA := by
  obtain ⟨cA, kA, comp, h1, h2, h3⟩ := Cond.arrayClass_spec h
  exact ⟨cA, fun n z => ⟨fun k h => (by cases h), kA, h2, comp, h3⟩, h1⟩
theorem arrQ {s : State} {args : Array Value} (h : (Cond.arrayOver (.object RX6)).before args s = true) : ∃ cA : ClassId, ArrOfT s cA (.object RX6) ∧ va_RA s cA (.object RX6) := by
  obtain ⟨comp, cA, kA, h1, -, h2, h3, h4⟩ := Cond.arrayOver_spec h
  exact ⟨cA, fun n z => ⟨fun k h => (by cases h), kA, h2, comp, h3⟩, kA, comp, h2, h3, h1, h4⟩
set_option maxRecDepth 20000 in
theorem tab_GAINS {s : State} {args : Array Value} (hgv : (Jvm.Cond.and given_1 narrow_1).before args s = true) (hts : ∀ w ∈ lw_tbl, w.before args s = true) : ∃ t : Nat, va_Z RX7 "GAINS" "[I" (.ref t) (fun q : Nat => s.heap.size ≤ q) s s.heap ∧ va_T .int t 4 (fun j => .int (iI (tG j))) (fun q : Nat => s.heap.size ≤ q) s s.heap := by
  have hs := flat_of_before _ hgv
  have hA : ∀ a : Nat, a < s.heap.size → ¬ (fun q : Nat => s.heap.size ≤ q) a := fun a h => Nat.not_le.mpr h
  obtain ⟨t, ht, hT⟩ := va_Tof (tm := (.static "SlopeMeter" "GAINS" "[I")) (ty := .int) (N := 4) (f := fun j => .int (iI (tG j))) (by decide) (hs _ (by decide +kernel)) (va_eqt (z := 4) (hs _ (by decide +kernel))) (fun j hj => by
    rcases (show j = 0 ∨ j = 1 ∨ j = 2 ∨ j = 3 from by omega) with rfl | rfl | rfl | rfl
    · exact va_eqt (t := .elem (.static "SlopeMeter" "GAINS" "[I") (.int 0)) (z := 1) (hs _ (by decide +kernel))
    · exact va_eqt (t := .elem (.static "SlopeMeter" "GAINS" "[I") (.int 1)) (z := 10) (hs _ (by decide +kernel))
    · exact va_eqt (t := .elem (.static "SlopeMeter" "GAINS" "[I") (.int 2)) (z := 100) (hs _ (by decide +kernel))
    · exact va_eqt (t := .elem (.static "SlopeMeter" "GAINS" "[I") (.int 3)) (z := 1000) (hs _ (by decide +kernel))) hA
  exact ⟨t, va_Zref (hts (.laysStatic RX7 "GAINS" "[I") (by decide +kernel)) (hts (.initialized RX7) (by decide +kernel)) ht hA, hT⟩
set_option maxRecDepth 20000 in
theorem tab_LEAST_SETTINGS {s : State} {args : Array Value} (hgv : (Jvm.Cond.and given_1 narrow_1).before args s = true) (hts : ∀ w ∈ lw_tbl, w.before args s = true) : ∃ t : Nat, va_Z RX7 "LEAST_SETTINGS" "[I" (.ref t) (fun q : Nat => s.heap.size ≤ q) s s.heap ∧ va_T .int t 6 (fun j => .int (iI (tLo j))) (fun q : Nat => s.heap.size ≤ q) s s.heap := by
  have hs := flat_of_before _ hgv
  have hA : ∀ a : Nat, a < s.heap.size → ¬ (fun q : Nat => s.heap.size ≤ q) a := fun a h => Nat.not_le.mpr h
  obtain ⟨t, ht, hT⟩ := va_Tof (tm := (.static "SlopeMeter" "LEAST_SETTINGS" "[I")) (ty := .int) (N := 6) (f := fun j => .int (iI (tLo j))) (by decide) (hs _ (by decide +kernel)) (va_eqt (z := 6) (hs _ (by decide +kernel))) (fun j hj => by
    rcases (show j = 0 ∨ j = 1 ∨ j = 2 ∨ j = 3 ∨ j = 4 ∨ j = 5 from by omega) with rfl | rfl | rfl | rfl | rfl | rfl
    · exact va_eqt (t := .elem (.static "SlopeMeter" "LEAST_SETTINGS" "[I") (.int 0)) (z := 4) (hs _ (by decide +kernel))
    · exact va_eqt (t := .elem (.static "SlopeMeter" "LEAST_SETTINGS" "[I") (.int 1)) (z := 1) (hs _ (by decide +kernel))
    · exact va_eqt (t := .elem (.static "SlopeMeter" "LEAST_SETTINGS" "[I") (.int 2)) (z := 0) (hs _ (by decide +kernel))
    · exact va_eqt (t := .elem (.static "SlopeMeter" "LEAST_SETTINGS" "[I") (.int 3)) (z := 0) (hs _ (by decide +kernel))
    · exact va_eqt (t := .elem (.static "SlopeMeter" "LEAST_SETTINGS" "[I") (.int 4)) (z := 0) (hs _ (by decide +kernel))
    · exact va_eqt (t := .elem (.static "SlopeMeter" "LEAST_SETTINGS" "[I") (.int 5)) (z := 0) (hs _ (by decide +kernel))) hA
  exact ⟨t, va_Zref (hts (.laysStatic RX7 "LEAST_SETTINGS" "[I") (by decide +kernel)) (hts (.initialized RX7) (by decide +kernel)) ht hA, hT⟩
set_option maxRecDepth 20000 in
theorem tab_MOST_SETTINGS {s : State} {args : Array Value} (hgv : (Jvm.Cond.and given_1 narrow_1).before args s = true) (hts : ∀ w ∈ lw_tbl, w.before args s = true) : ∃ t : Nat, va_Z RX7 "MOST_SETTINGS" "[I" (.ref t) (fun q : Nat => s.heap.size ≤ q) s s.heap ∧ va_T .int t 6 (fun j => .int (iI (tHi j))) (fun q : Nat => s.heap.size ≤ q) s s.heap := by
  have hs := flat_of_before _ hgv
  have hA : ∀ a : Nat, a < s.heap.size → ¬ (fun q : Nat => s.heap.size ≤ q) a := fun a h => Nat.not_le.mpr h
  obtain ⟨t, ht, hT⟩ := va_Tof (tm := (.static "SlopeMeter" "MOST_SETTINGS" "[I")) (ty := .int) (N := 6) (f := fun j => .int (iI (tHi j))) (by decide) (hs _ (by decide +kernel)) (va_eqt (z := 6) (hs _ (by decide +kernel))) (fun j hj => by
    rcases (show j = 0 ∨ j = 1 ∨ j = 2 ∨ j = 3 ∨ j = 4 ∨ j = 5 from by omega) with rfl | rfl | rfl | rfl | rfl | rfl
    · exact va_eqt (t := .elem (.static "SlopeMeter" "MOST_SETTINGS" "[I") (.int 0)) (z := 400) (hs _ (by decide +kernel))
    · exact va_eqt (t := .elem (.static "SlopeMeter" "MOST_SETTINGS" "[I") (.int 1)) (z := 50) (hs _ (by decide +kernel))
    · exact va_eqt (t := .elem (.static "SlopeMeter" "MOST_SETTINGS" "[I") (.int 2)) (z := 1) (hs _ (by decide +kernel))
    · exact va_eqt (t := .elem (.static "SlopeMeter" "MOST_SETTINGS" "[I") (.int 3)) (z := 10) (hs _ (by decide +kernel))
    · exact va_eqt (t := .elem (.static "SlopeMeter" "MOST_SETTINGS" "[I") (.int 4)) (z := 1) (hs _ (by decide +kernel))
    · exact va_eqt (t := .elem (.static "SlopeMeter" "MOST_SETTINGS" "[I") (.int 5)) (z := 3) (hs _ (by decide +kernel))) hA
  exact ⟨t, va_Zref (hts (.laysStatic RX7 "MOST_SETTINGS" "[I") (by decide +kernel)) (hts (.initialized RX7) (by decide +kernel)) ht hA, hT⟩
set_option maxHeartbeats 8000000 in
set_option maxRecDepth 100000 in
theorem kinds {s : State} {args : Array Value} (hts : ∀ w ∈ lw_tbl, w.before args s = true) (hgv : (Jvm.Cond.and given_1 narrow_1).before args s = true) : ∃ E : gT, va_K E.1 vwCl (TY E) s ∧ gE E (fun q : Nat => s.heap.size ≤ q) s s.heap := by
  obtain ⟨c0, i0, k0⟩ := u_known (C := RX0) (T := TX0) (N := 9) (n := 9) hts inX0 (hts (.instantiable RX0 9) (by decide +kernel))
  obtain ⟨c1, i1, k1⟩ := u_known (C := RX1) (T := TX1) (N := 2) (n := 2) hts inX1 (hts (.instantiable RX1 2) (by decide +kernel))
  obtain ⟨c2, i2, k2⟩ := u_known (C := RX2) (T := TX2) (N := 9) (n := 9) hts inX2 (hts (.instantiable RX2 9) (by decide +kernel))
  obtain ⟨c3, i3, k3⟩ := u_known (C := RX3) (T := TX3) (N := 7) (n := 7) hts inX3 (hts (.instantiable RX3 7) (by decide +kernel))
  obtain ⟨c4, i4, k4⟩ := u_known (C := RX4) (T := TX4) (N := 6) (n := 6) hts inX4 (hts (.instantiable RX4 6) (by decide +kernel))
  obtain ⟨c5, i5, k5⟩ := u_known (C := RX5) (T := TX5) (N := 5) (n := 5) hts inX5 (hts (.instantiable RX5 5) (by decide +kernel))
  obtain ⟨c6, i6, k6⟩ := u_known (C := RX6) (T := TX6) (N := 2) (n := 2) hts inX6 (hts (.instantiable RX6 2) (by decide +kernel))
  obtain ⟨c7, i7, k7⟩ := u_known (C := RX7) (T := TX7) (N := 6) (n := 6) hts inX7 (hts (.instantiable RX7 6) (by decide +kernel))
  obtain ⟨c8, i8, k8⟩ := u_known (C := RX8) (T := TX8) (N := 12) (n := 12) hts inX8 (hts (.instantiable RX8 12) (by decide +kernel))
  obtain ⟨a0, r0, f0⟩ := arrK (hts (.arrayClass .char) (by decide +kernel))
  obtain ⟨a1, r1, f1⟩ := arrK (hts (.arrayClass .int) (by decide +kernel))
  obtain ⟨a2, r2, f2⟩ := arrK (hts (.arrayClass .long) (by decide +kernel))
  obtain ⟨a3, r3, f3⟩ := arrK (hts (.arrayClass .boolean) (by decide +kernel))
  obtain ⟨a4, r4, f4⟩ := arrQ (hts (.arrayOver (.object RX6)) (by decide +kernel))
  obtain ⟨t0, z0, y0⟩ := tab_GAINS hgv hts
  obtain ⟨t1, z1, y1⟩ := tab_LEAST_SETTINGS hgv hts
  obtain ⟨t2, z2, y2⟩ := tab_MOST_SETTINGS hgv hts
  refine ⟨((fun k => match k with | 0 => c0 | 1 => c1 | 2 => c2 | 3 => c3 | 4 => c4 | 5 => c5 | 6 => c6 | 7 => c7 | _ => c8, fun k => match k with | 0 => i0 | 1 => i1 | 2 => i2 | 3 => i3 | 4 => i4 | 5 => i5 | 6 => i6 | 7 => i7 | _ => i8), fun k => match k with | 0 => a0 | 1 => a1 | 2 => a2 | 3 => a3 | _ => a4, fun k => match k with | 0 => t0 | 1 => t1 | _ => t2), ⟨?_, ?_⟩, ?_⟩
  · intro k q hq
    match k, hq with
    | 0, hq => cases hq; exact k0
    | 1, hq => cases hq; exact k1
    | 2, hq => cases hq; exact k2
    | 3, hq => cases hq; exact k3
    | 4, hq => cases hq; exact k4
    | 5, hq => cases hq; exact k5
    | 6, hq => cases hq; exact k6
    | 7, hq => cases hq; exact k7
    | 8, hq => cases hq; exact k8
    | k + 9, hq => cases hq
  · intro k q hq
    match k, hq with
    | 0, hq => cases hq; exact ⟨r0, f0⟩
    | 1, hq => cases hq; exact ⟨r1, f1⟩
    | 2, hq => cases hq; exact ⟨r2, f2⟩
    | 3, hq => cases hq; exact ⟨r3, f3⟩
    | 4, hq => cases hq; exact ⟨r4, f4⟩
    | k + 5, hq => cases hq
  · exact ⟨fun q hq => va_Nw.of rfl (hts _ (nest_in q hq)), va_Nw.of rfl (hts (.fieldLinkNest RX2 140 RX7 "GAINS" "[I" RX7) (by decide +kernel)), va_Nw.of rfl (hts (.fieldLinkNest RX3 68 RX7 "GAINS" "[I" RX7) (by decide +kernel)), hts (.arrayOver (.object RX6)) (by decide +kernel), z0, y0, z1, y1, z2, y2⟩
set_option maxHeartbeats 8000000 in
set_option maxRecDepth 100000 in
theorem law_init {p : Program} {l : Launch} {e : Env} {s : State} {m : MethodId} {below : List Frame} {meth : Method} {c : Code} (E : gT) {b L : Nat} {xs : Nat → Int32} (S : CallFix p m c cL_law 4 s #[Value.ref b] wsL_law RL) (hr : meth.sig.returnType = ret) (hlocks : meth.locks = false) (hX : va_X b L xs s s.heap) (hbl : b < s.heap.size) (hL : L ≤ 2560) (A : Nat → Prop) (hAe : A = (fun q : Nat => s.heap.size ≤ q)) (H : Heap) (locs : List Loc) (ls : Array Slot) (B : bw E A s H locs []) (hl : lv_has ls 4 [(0, .ref b)]) : W p l e room_1 s m #[Value.ref b] below meth c H locs 0 0 (lw_Z below #[Value.ref b] s) (F0 m 0 ls []) := by
  refine z_new S (pc := 0) B (ci := 7) iL_law_X7 tyX7_ok rfl (by decide +kernel) (by decide +kernel) (by decide +kernel) (fs := [.null, .null, .null, .null, .null, .null]) (fun j hj => match j, hj with | 0, _ => rfl | 1, _ => rfl | 2, _ => rfl | 3, _ => rfl | 4, _ => rfl | 5, _ => rfl) (Nat.le_of_ble_eq_true rfl) (Nat.le_of_ble_eq_true rfl) dL_law_0 (fun q1 H B => ?_)
  have B : bw E A s H locs [(q1, .inr (7, [.null, .null, .null, .null, .null, .null]))] := B
  refine lv_dup S.1 S.2.1 (pc := 3) dL_law_3 rfl ?_
  refine z_callI S (pc := 4) B (wr := []) (wn := fun u2 => [cSlo q1 (u2 0) (u2 7) (u2 14) (u2 29) (u2 30) (u2 34), cSta (u2 0) (u2 1) (u2 5), cMet (u2 1) (u2 2) (u2 3) (u2 4) sg0 0 0 0, cSig (u2 2) sg0, cSet (u2 3) sg0, cCon (u2 4) sg0 0, cLog (u2 5) (u2 6) sg0, cRow E (u2 6) zr0, cSta (u2 7) (u2 8) (u2 12), cMet (u2 8) (u2 9) (u2 10) (u2 11) sg0 0 0 0, cSig (u2 9) sg0, cSet (u2 10) sg0, cCon (u2 11) sg0 0, cLog (u2 12) (u2 13) sg0, cRow E (u2 13) zr0, cSav E (u2 14) (u2 15) (u2 22), cSta (u2 15) (u2 16) (u2 20), cMet (u2 16) (u2 17) (u2 18) (u2 19) sg0 0 0 0, cSig (u2 17) sg0, cSet (u2 18) sg0, cCon (u2 19) sg0 0, cLog (u2 20) (u2 21) sg0, cRow E (u2 21) zr0, cSta (u2 22) (u2 23) (u2 27), cMet (u2 23) (u2 24) (u2 25) (u2 26) sg0 0 0 0, cSig (u2 24) sg0, cSet (u2 25) sg0, cCon (u2 26) sg0 0, cLog (u2 27) (u2 28) sg0, cRow E (u2 28) zr0, cIsv E (u2 29) zr0, cMet (u2 30) (u2 31) (u2 32) (u2 33) sg0 0 0 0, cSig (u2 31) sg0, cSet (u2 32) sg0, cCon (u2 33) sg0 0, cPad (u2 34) (u2 35) (u2 36) (u2 37) 0 0 0 0, cChr E (u2 35) zr0, cInt E (u2 36) 60 zr0, cInt E (u2 37) 60 zr0]) (st1 := fun _ => [.ref q1]) (As := []) (mX7_init l E q1 ) gL_law_X7_init (by decide +kernel) (by decide +kernel) (by decide +kernel) rfl 0 rfl (by decide +kernel) ⟨Nat.le_of_ble_eq_true rfl, Nat.le_of_ble_eq_true rfl, Nat.le_of_ble_eq_true rfl, Nat.le_of_ble_eq_true rfl⟩ [0] [] [0, 1, 2, 3, 4, 5, 6, 7, 8, 9, 10, 11, 12, 13, 14, 15, 16, 17, 18, 19, 20, 21, 22, 23, 24, 25, 26, 27, 28, 29, 30, 31, 32, 33, 34, 35, 36, 37, 38] rfl rfl ⟨rfl, rfl, rfl, by decide⟩ (fun _ => rfl) rfl (fun _ => rfl) hl.1 (Nat.le_of_ble_eq_true rfl) rfl dL_law_4 (fun u2 hu2 H locs B => ?_)
  refine lv_astore_n (lv' := [(1, .ref q1), (0, .ref b)]) S.1 S.2.1 (pc := 7) dL_law_7 rfl hl (by decide) rfl (fun ls hl => ?_)
  refine z_new S (pc := 8) B (ci := 8) iL_law_X8 tyX8_ok rfl (by decide +kernel) (by decide +kernel) (by decide +kernel) (fs := [.null, .null, .null, .null, .null, .int (iI 0), .long (iL 0), .int (iI 0), .int (iI 0), .int (iI 0), .null, .int (iI 0)]) (fun j hj => match j, hj with | 0, _ => rfl | 1, _ => rfl | 2, _ => rfl | 3, _ => rfl | 4, _ => rfl | 5, _ => rfl | 6, _ => rfl | 7, _ => rfl | 8, _ => rfl | 9, _ => rfl | 10, _ => rfl | 11, _ => rfl) (Nat.le_of_ble_eq_true rfl) (Nat.le_of_ble_eq_true rfl) dL_law_8 (fun q3 H B => ?_)
  have B : bw E A s H locs [cSlo q1 (u2 0) (u2 7) (u2 14) (u2 29) (u2 30) (u2 34), cSta (u2 0) (u2 1) (u2 5), cMet (u2 1) (u2 2) (u2 3) (u2 4) sg0 0 0 0, cSig (u2 2) sg0, cSet (u2 3) sg0, cCon (u2 4) sg0 0, cLog (u2 5) (u2 6) sg0, cRow E (u2 6) zr0, cSta (u2 7) (u2 8) (u2 12), cMet (u2 8) (u2 9) (u2 10) (u2 11) sg0 0 0 0, cSig (u2 9) sg0, cSet (u2 10) sg0, cCon (u2 11) sg0 0, cLog (u2 12) (u2 13) sg0, cRow E (u2 13) zr0, cSav E (u2 14) (u2 15) (u2 22), cSta (u2 15) (u2 16) (u2 20), cMet (u2 16) (u2 17) (u2 18) (u2 19) sg0 0 0 0, cSig (u2 17) sg0, cSet (u2 18) sg0, cCon (u2 19) sg0 0, cLog (u2 20) (u2 21) sg0, cRow E (u2 21) zr0, cSta (u2 22) (u2 23) (u2 27), cMet (u2 23) (u2 24) (u2 25) (u2 26) sg0 0 0 0, cSig (u2 24) sg0, cSet (u2 25) sg0, cCon (u2 26) sg0 0, cLog (u2 27) (u2 28) sg0, cRow E (u2 28) zr0, cIsv E (u2 29) zr0, cMet (u2 30) (u2 31) (u2 32) (u2 33) sg0 0 0 0, cSig (u2 31) sg0, cSet (u2 32) sg0, cCon (u2 33) sg0 0, cPad (u2 34) (u2 35) (u2 36) (u2 37) 0 0 0 0, cChr E (u2 35) zr0, cInt E (u2 36) 60 zr0, cInt E (u2 37) 60 zr0, (q3, .inr (8, [.null, .null, .null, .null, .null, .int (iI 0), .long (iL 0), .int (iI 0), .int (iI 0), .int (iI 0), .null, .int (iI 0)]))] := B
  refine lv_dup S.1 S.2.1 (pc := 11) dL_law_11 rfl ?_
  refine z_callI S (pc := 12) B (wr := [cSlo q1 (u2 0) (u2 7) (u2 14) (u2 29) (u2 30) (u2 34), cSta (u2 0) (u2 1) (u2 5), cMet (u2 1) (u2 2) (u2 3) (u2 4) sg0 0 0 0, cSig (u2 2) sg0, cSet (u2 3) sg0, cCon (u2 4) sg0 0, cLog (u2 5) (u2 6) sg0, cRow E (u2 6) zr0, cSta (u2 7) (u2 8) (u2 12), cMet (u2 8) (u2 9) (u2 10) (u2 11) sg0 0 0 0, cSig (u2 9) sg0, cSet (u2 10) sg0, cCon (u2 11) sg0 0, cLog (u2 12) (u2 13) sg0, cRow E (u2 13) zr0, cSav E (u2 14) (u2 15) (u2 22), cSta (u2 15) (u2 16) (u2 20), cMet (u2 16) (u2 17) (u2 18) (u2 19) sg0 0 0 0, cSig (u2 17) sg0, cSet (u2 18) sg0, cCon (u2 19) sg0 0, cLog (u2 20) (u2 21) sg0, cRow E (u2 21) zr0, cSta (u2 22) (u2 23) (u2 27), cMet (u2 23) (u2 24) (u2 25) (u2 26) sg0 0 0 0, cSig (u2 24) sg0, cSet (u2 25) sg0, cCon (u2 26) sg0 0, cLog (u2 27) (u2 28) sg0, cRow E (u2 28) zr0, cIsv E (u2 29) zr0, cMet (u2 30) (u2 31) (u2 32) (u2 33) sg0 0 0 0, cSig (u2 31) sg0, cSet (u2 32) sg0, cCon (u2 33) sg0 0, cPad (u2 34) (u2 35) (u2 36) (u2 37) 0 0 0 0, cChr E (u2 35) zr0, cInt E (u2 36) 60 zr0, cInt E (u2 37) 60 zr0]) (wn := fun u4 => [cSlo q1 (u2 0) (u2 7) (u2 14) (u2 29) (u2 30) (u2 34), cSta (u2 0) (u2 1) (u2 5), cMet (u2 1) (u2 2) (u2 3) (u2 4) sg0 0 0 0, cSig (u2 2) sg0, cSet (u2 3) sg0, cCon (u2 4) sg0 0, cLog (u2 5) (u2 6) sg0, cRow E (u2 6) zr0, cSta (u2 7) (u2 8) (u2 12), cMet (u2 8) (u2 9) (u2 10) (u2 11) sg0 0 0 0, cSig (u2 9) sg0, cSet (u2 10) sg0, cCon (u2 11) sg0 0, cLog (u2 12) (u2 13) sg0, cRow E (u2 13) zr0, cSav E (u2 14) (u2 15) (u2 22), cSta (u2 15) (u2 16) (u2 20), cMet (u2 16) (u2 17) (u2 18) (u2 19) sg0 0 0 0, cSig (u2 17) sg0, cSet (u2 18) sg0, cCon (u2 19) sg0 0, cLog (u2 20) (u2 21) sg0, cRow E (u2 21) zr0, cSta (u2 22) (u2 23) (u2 27), cMet (u2 23) (u2 24) (u2 25) (u2 26) sg0 0 0 0, cSig (u2 24) sg0, cSet (u2 25) sg0, cCon (u2 26) sg0 0, cLog (u2 27) (u2 28) sg0, cRow E (u2 28) zr0, cIsv E (u2 29) zr0, cMet (u2 30) (u2 31) (u2 32) (u2 33) sg0 0 0 0, cSig (u2 31) sg0, cSet (u2 32) sg0, cCon (u2 33) sg0 0, cPad (u2 34) (u2 35) (u2 36) (u2 37) 0 0 0 0, cChr E (u2 35) zr0, cInt E (u2 36) 60 zr0, cInt E (u2 37) 60 zr0, cMod q3 u4.1 u4.2.1 u4.2.2.1 u4.2.2.2.1 u4.2.2.2.2.1 u4.2.2.2.2.2 0 0 0 0 0 0, cAt E u4.1 sg0 zr0, cLon E u4.2.1 303 zr0, cLon E u4.2.2.1 606 zr0, cIsv E u4.2.2.2.1 zr0, cInt E u4.2.2.2.2.1 60 zr0, cInt E u4.2.2.2.2.2 120 zr0]) (st1 := fun _ => [.ref q3]) (As := []) (mX8_init l E q3 ) gL_law_X8_init (by decide +kernel) (by decide +kernel) (by decide +kernel) rfl 0 rfl (by decide +kernel) ⟨Nat.le_of_ble_eq_true rfl, Nat.le_of_ble_eq_true rfl, Nat.le_of_ble_eq_true rfl, Nat.le_of_ble_eq_true rfl⟩ [39] [0, 1, 2, 3, 4, 5, 6, 7, 8, 9, 10, 11, 12, 13, 14, 15, 16, 17, 18, 19, 20, 21, 22, 23, 24, 25, 26, 27, 28, 29, 30, 31, 32, 33, 34, 35, 36, 37, 38] [0, 1, 2, 3, 4, 5, 6, 7, 8, 9, 10, 11, 12, 13, 14, 15, 16, 17, 18, 19, 20, 21, 22, 23, 24, 25, 26, 27, 28, 29, 30, 31, 32, 33, 34, 35, 36, 37, 38, 39, 40, 41, 42, 43, 44, 45] rfl rfl ⟨rfl, rfl, rfl, by decide⟩ (fun _ => rfl) rfl (fun _ => rfl) hl.1 (Nat.le_of_ble_eq_true rfl) rfl dL_law_12 (fun u4 hu4 H locs B => ?_)
  refine lv_astore_n (lv' := [(2, .ref q3), (1, .ref q1), (0, .ref b)]) S.1 S.2.1 (pc := 15) dL_law_15 rfl hl (by decide) rfl (fun ls hl => ?_)
  refine z_iconst S (pc := 16) dL_law_16 ?_
  refine lv_istore_n (lv' := [(3, .int (iI 0)), (2, .ref q3), (1, .ref q1), (0, .ref b)]) S.1 S.2.1 (pc := 17) dL_law_17 rfl hl (by decide) rfl (fun ls hl => ?_)
  subst hAe
  exact law_loop E S hr hlocks hX hbl hL u2 q1 q3 u4.1 u4.2.1 u4.2.2.1 u4.2.2.2.1 u4.2.2.2.2.1 u4.2.2.2.2.2 (L + 1) 0 0 sg0 zr0 sg0 zr0 sg0 sg0 zr0 sg0 zr0 zr0 zr0 zr0 zr0 zr0 zr0 zr0 0 0 0 0 0 0 0 0 0 0 0 0 0 0 0 0 0 0 0 0 0 0 0 0 0 0 0 0 0 (by omega) (Nat.zero_le L) (by omega) (by omega) inv0 _ _ _ B (lv_sub hl [3, 2, 1, 0] rfl)
theorem whole_start {p : Program} {e : Env} {s : State} {m : MethodId} {below : List Frame} {meth : Method} {c : Code} (l : Launch) (hflags : l.flags = flags0) {b L : Nat} {xs : Nat → Int32} (hL : L ≤ 2560) (C0 : lw_At p s m meth c b L xs) : W p l e room_1 s m #[Value.ref b] below meth c s.heap [] 0 0 (lw_Z below #[Value.ref b] s) (entryFrame m ([Value.ref b] : List Value).toArray 4) := by
  obtain ⟨hx, hb, hr, hml, hown, hts, hX, hbl, hlocks, hgv⟩ := id C0
  obtain ⟨E, hK, hg⟩ := kinds hts hgv
  have S : CallFix p m c cL_law 4 s #[Value.ref b] wsL_law RL := ⟨hx, hb, hml, hown, fun w h => hts w (wsL_law_in w h)⟩
  have hl := lv_entry ([.ref b]) (n := 4) (Nat.le_of_ble_eq_true rfl)
  rw [lg_entry_eq]
  generalize (lg_sl ([.ref b]) ++ List.replicate (4 - (lg_sl ([.ref b])).length) Slot.unset).toArray = ls at hl ⊢
  have hl : lv_has ls 4 [(0, .ref b)] := hl
  have B : bw E (fun q : Nat => s.heap.size ≤ q) s s.heap [] [] := ⟨hK, fun k q h => by simp at h, ⟨fun i j p q h => by simp at h, fun k q h => by simp at h⟩, va_S.rf, fun _ h => h, hg⟩
  exact law_init E S hr hlocks hX hbl hL _ rfl s.heap [] ls B hl
/-! END start -/
