set_option linter.unusedVariables false
/-! what the law's walk needs -/
theorem iI_self (x : Int32) : iI x.toInt = x := iI_of x
theorem toInt_inI (x : Int32) : inI x.toInt := iI_in x
section ZO
variable {p : Program} {l : Launch} {e : Env} {R : Room} {s : State} {m : MethodId} {args : Array Value} {below : List Frame} {meth : Method} {c : Code} {H : Heap} {locs : List Loc} {cells slots : Nat} {Q : State → Prop}
variable {cc : ByteArray} {nL pc tgt : Nat} {ls : Array Slot} {rest : List Value} {Ts : List Cond} {own : String} {E : gT} {A : Nat → Prop} {ws : va_W}
theorem wjoin {nL : Nat} {lv : List (Nat × Value)} {pc2 : Nat} {st2 : List Value} {g : JFrame}
    (K : (∀ (H : Heap) (locs : List Loc) (ls : Array Slot), bw E A s H locs ws → lv_has ls nL lv → W p l e R s m args below meth c H locs cells slots Q (F0 m pc2 ls st2)) → W p l e R s m args below meth c H locs cells slots Q g)
    (k : ∀ (H : Heap) (locs : List Loc) (ls : Array Slot), bw E A s H locs ws → lv_has ls nL lv → W p l e R s m args below meth c H locs cells slots Q (F0 m pc2 ls st2)) : W p l e R s m args below meth c H locs cells slots Q g := K k
theorem z_sld (S : CallFix p m c cc nL s args Ts own) (B : bw E A s H locs ws) {b L : Nat} {xs : Nat → Int32} (hX : va_X b L xs s s.heap) (hbl : b < s.heap.size) (hbA : ¬ A b) {x : Int} {k : Nat} (hx : x = (k : Int)) (hk : k < L) (hL : L ≤ 2560) (hdg : decode cc pc = .ok (.iaload, 1))
    (kk : W p l e R s m args below meth c H locs cells slots Q (F0 m (pc + 1) ls (.int (iI (xs k).toInt) :: rest))) : W p l e R s m args below meth c H locs cells slots Q (F0 m pc ls (.int (iI x) :: .ref b :: rest)) := by
  have e1 : (iI x).toNatClampNeg = k := iI_nat hx (by omega)
  have hneg : ¬ iI x < 0 := by
    rw [show (0 : Int32) = iI 0 from rfl, iI_lt (by omega) (by omega)]
    omega
  refine va_sld S.1 S.2.1 hX hbl hbA B.2.2.2.1 (i := iI x) (fun z => by rcases z with z | z; exact hneg z; rw [e1] at z; omega) hdg ?_
  rw [e1, ← iI_self (xs k)]
  exact kk
theorem z_slen (S : CallFix p m c cc nL s args Ts own) (B : bw E A s H locs ws) {b L : Nat} {xs : Nat → Int32} (hX : va_X b L xs s s.heap) (hbl : b < s.heap.size) (hbA : ¬ A b) (hdg : decode cc pc = .ok (.arraylength, 1))
    (kk : W p l e R s m args below meth c H locs cells slots Q (F0 m (pc + 1) ls (.int (iI (L : Int)) :: rest))) : W p l e R s m args below meth c H locs cells slots Q (F0 m pc ls (.ref b :: rest)) :=
  va_slen S.1 S.2.1 hX hbl hbA B.2.2.2.1 hdg kk
theorem z_same (S : CallFix p m c cc nL s args Ts own) {v : Int32} {off : Int} (hdg : decode cc pc = .ok (.if_icmp .eq off, 3)) (ht : (pc : Int) + off = (tgt : Int)) (kk : W p l e R s m args below meth c H locs cells slots Q (F0 m tgt ls rest)) : W p l e R s m args below meth c H locs cells slots Q (F0 m pc ls (.int v :: .int v :: rest)) :=
  lv_icmp_eq S.1 S.2.1 hdg ht (fun _ => kk) (fun q => absurd rfl q)
theorem z_sameL (S : CallFix p m c cc nL s args Ts own) {v : Int} {off : Int} (hd1 : decode cc pc = .ok (.lcmp, 1)) (hdg : decode cc (pc + 1) = .ok (.ifCond .eq off, 3)) (ht : ((pc + 1 : Nat) : Int) + off = (tgt : Int)) (kk : W p l e R s m args below meth c H locs cells slots Q (F0 m tgt ls rest)) : W p l e R s m args below meth c H locs cells slots Q (F0 m pc ls (.long (iL v) :: .long (iL v) :: rest)) := by
  refine W.lcmp S.1 S.2.1 hd1 ?_
  rw [cmp_eq rfl]
  exact z_if_eq S (by omega) hdg ht (fun _ => kk) (fun q => absurd rfl q)
/-- a shift to the right gives some int -/
theorem z_ishr (S : CallFix p m c cc nL s args Ts own) {a b : Int} (hdg : decode cc pc = .ok (.ishr, 1)) (kk : ∀ w : Int, inI w → W p l e R s m args below meth c H locs cells slots Q (F0 m (pc + 1) ls (.int (iI w) :: rest))) : W p l e R s m args below meth c H locs cells slots Q (F0 m pc ls (.int (iI b) :: .int (iI a) :: rest)) := by
  refine lv_ishr S.1 S.2.1 hdg ?_
  obtain ⟨w, hw, ew⟩ := iI_ex (iI a >>> (iI b &&& 31))
  rw [ew]
  exact kk w hw
theorem imul_some (x y : Int32) : ∃ w : Int, inI w ∧ x * y = iI w := iI_ex _
end ZO
/-- a number from 0 to m - 1 -/
def upv (v m : Int) : Int := v % 2147483648 % m
theorem upv_bd (v : Int) {m : Int} (h : 0 < m) : 0 ≤ upv v m ∧ upv v m < m := ⟨Int.emod_nonneg _ (by omega), Int.emod_lt_of_pos _ h⟩
theorem and_max (v : Int) : iI v &&& iI 2147483647 = iI (v % 2147483648) := by
  apply Int32.toBitVec_inj.mp
  apply BitVec.eq_of_toNat_eq
  show (BitVec.ofInt 32 v &&& BitVec.ofInt 32 2147483647).toNat = (BitVec.ofInt 32 (v % 2147483648)).toNat
  rw [BitVec.toNat_and, BitVec.toNat_ofInt, BitVec.toNat_ofInt, BitVec.toNat_ofInt, show ((2147483647 : Int) % ((2 ^ 32 : Nat) : Int)).toNat = 2 ^ 31 - 1 from by decide, Nat.and_two_pow_sub_one_eq_mod]
  omega
/-! one arm for both: how long until a zero is due -/
def due (σ : Nat → Int) : Int := if σ 8 = 0 then -6 else σ 13
/-- what the log keeps of the times: a reading begins where the one before has ended, or later -/
abbrev TM (σ ρ : Nat → Int) : Prop := (∀ k : Int, 0 < k → k < σ 14 → lrow ρ (k - 1) 5 ≤ lrow ρ k 4) ∧ (0 < σ 14 → lrow ρ (σ 14 - 1) 5 ≤ σ 11)
theorem rz_ge {σ : Nat → Int} (h : Sets σ) : σ 11 ≤ rz σ 11 ∧ rz σ 11 ≤ σ 11 + 1616 := rz_time h
theorem plc_of {σ : Nat → Int} (h : 0 ≤ σ 14 ∧ σ 14 < 40) : plc σ = 7 * (σ 14).toNat := by unfold plc; rw [Nat.mod_eq_of_lt (by omega)]
theorem lrow_up {ρ : Nat → Int} {q : Nat} {v : Int} {r : Int} {k : Nat} (h : 7 * (r.toNat % 40) + k ≠ q) : lrow (up ρ q v) r k = lrow ρ r k := by unfold lrow; exact up_n _ _ h
theorem rowS_at (σ ρ : Nat → Int) : lrow (rowS σ ρ) (σ 14) 0 = val0 (rz σ) ∧ lrow (rowS σ ρ) (σ 14) 1 = net0 (rz σ) ∧ lrow (rowS σ ρ) (σ 14) 2 = rz σ 10 ∧ lrow (rowS σ ρ) (σ 14) 3 = ov0 (rz σ) ∧ lrow (rowS σ ρ) (σ 14) 4 = rz σ 11 ∧ lrow (rowS σ ρ) (σ 14) 5 = rdS σ 11 ∧ lrow (rowS σ ρ) (σ 14) 6 = rz σ 12 := by
  unfold lrow rowS row0 plc
  refine ⟨?_, ?_, ?_, ?_, ?_, ?_, ?_⟩
  · rw [up_n _ _ (by omega), up_n _ _ (by omega), up_n _ _ (by omega), up_n _ _ (by omega), up_n _ _ (by omega), up_n _ _ (by omega)]; exact up_s _ _ _
  · rw [up_n _ _ (by omega), up_n _ _ (by omega), up_n _ _ (by omega), up_n _ _ (by omega), up_n _ _ (by omega), up_s]
  · rw [up_n _ _ (by omega), up_n _ _ (by omega), up_n _ _ (by omega), up_n _ _ (by omega), up_s]
  · rw [up_n _ _ (by omega), up_n _ _ (by omega), up_n _ _ (by omega), up_s]
  · rw [up_n _ _ (by omega), up_n _ _ (by omega), up_s]
  · rw [up_n _ _ (by omega), up_s]; rfl
  · rw [up_s]
theorem rowS_else {σ ρ : Nat → Int} {r : Int} {k : Nat} (h14 : 0 ≤ σ 14 ∧ σ 14 < 40) (hr : 0 ≤ r ∧ r < σ 14) (hk : k ≤ 6) : lrow (rowS σ ρ) r k = lrow ρ r k := by
  have e : r.toNat % 40 = r.toNat := Nat.mod_eq_of_lt (by omega)
  have e2 := plc_of h14
  unfold lrow rowS row0
  rw [e, e2, up_n _ _ (by omega), up_n _ _ (by omega), up_n _ _ (by omega), up_n _ _ (by omega), up_n _ _ (by omega), up_n _ _ (by omega), up_n _ _ (by omega)]
theorem TM_read {σ ρ : Nat → Int} (hs : Sets σ) (h14 : 0 ≤ σ 14 ∧ σ 14 < 40) (h : TM σ ρ) : TM (rdS σ) (rowS σ ρ) := by
  obtain ⟨h1, h2⟩ := h
  have a := rowS_at σ ρ
  have e := rdS_14 σ
  have t := rz_time hs
  constructor
  · intro k hk hk2
    rw [e] at hk2
    by_cases c : k = σ 14
    · rw [c, a.2.2.2.2.1, rowS_else h14 (by omega) (by omega)]
      have := h2 (by omega)
      omega
    · rw [rowS_else h14 (by omega) (by omega), rowS_else h14 (by omega) (by omega)]
      exact h1 k hk (by omega)
  · intro _
    rw [e, show σ 14 + 1 - 1 = σ 14 from by omega, a.2.2.2.2.2.1]
    exact Int.le_refl _
/-- what a reading leaves, and what it says -/
theorem rd_says {σ : Nat → Int} (hs : Sets σ) (hn : Nums σ) : rdS σ 5 = σ 5 ∧ rdS σ 7 = σ 7 ∧ rdS σ 8 = σ 8 ∧ rdS σ 9 = σ 9 ∧ rdS σ 12 = rz σ 12 ∧ rdS σ 22 = 1 ∧ rdS σ 15 = net0 (rz σ) + rz σ 12 ∧ rz σ 10 = σ 10 ∧
    rdS σ 10 = (if σ 9 = 1 then swr (ov0 (rz σ)) (net0 (rz σ)) (σ 5) (σ 10) else σ 10) ∧ val0 (rz σ) = (net0 (rz σ) * 65536).tdiv (σ 5 * gn (σ 10)) ∧
    (ov0 (rz σ) = 0 → -65535 ≤ rdS σ 21 ∧ rdS σ 21 ≤ 65535) ∧ (ov0 (rz σ) = 1 → rdS σ 16 = 3 * σ 5) ∧ ab (rdS σ 21) ≤ rdS σ 20 ∧ 0 ≤ rdS σ 17 ∧ rdS σ 17 ≤ 16 ∧
    rdS σ 11 = rz σ 11 + (σ 5 + (rdS σ 16 + rdS σ 17)) ∧ rdS σ 18 + rdS σ 19 = (if σ 7 = 1 then σ 5 else 0) ∧
    (due σ ≠ 0 → rz σ 11 = σ 11 ∧ rdS σ 21 = inS σ (gn (σ 10)) - 65536 * rdS σ 15) ∧ due (rdS σ) = (if σ 8 = 0 then -6 else if due σ = 0 then σ 8 - 1 else due σ - 1) ∧ (ov0 (rz σ) = 0 ∨ ov0 (rz σ) = 1) := by
  have hz := rz_sets hs
  have z5 : rz σ 5 = σ 5 := rz_set σ 5 (Or.inl (by omega))
  have z7 : rz σ 7 = σ 7 := rz_set σ 7 (Or.inl (by omega))
  have z8 : rz σ 8 = σ 8 := rz_set σ 8 (Or.inl (by omega))
  have z9 : rz σ 9 = σ 9 := rz_set σ 9 (Or.inl (by omega))
  have z10 : rz σ 10 = σ 10 := rz_set σ 10 (Or.inl (by omega))
  have h5 : 4 ≤ rz σ 5 ∧ rz σ 5 ≤ 400 := hz.2.2.2.2.2.1
  have h7 : 0 ≤ rz σ 7 ∧ rz σ 7 ≤ 1 := hz.2.2.2.2.2.2.2.1
  obtain ⟨c1, c2, c3, c4, -⟩ := cv_char (rz σ) (gn (rz σ 10)) h5
  have c5 := cvU_ticks (rz σ) (gn (rz σ 10)) h5 h7
  have c6 := cvU_bd (rz σ) (gn (rz σ 10)) h5
  have c7 := cvF_bd (rz σ) (gn (rz σ 10)) h5
  refine ⟨z5, z7, z8, z9, rfl, rfl, ?_, z10, ?_, ?_, c3, ?_, c2, ?_, ?_, ?_, ?_, ?_, ?_, ovr_01 _ _⟩
  · show cnt (rz σ) (gn (rz σ 10)) = cnt (rz σ) (gn (rz σ 10)) - rz σ 12 + rz σ 12
    omega
  · show rg0 (rz σ) = _
    unfold rg0
    rw [z9, z10, z5]
  · show (net0 (rz σ) * 65536).tdiv (rz σ 5 * gn (rz σ 10)) = _
    rw [z5, z10]
  · intro q
    have := c4 q
    rw [z5] at this
    exact this
  · show 0 ≤ (cvF (rz σ) (gn (rz σ 10))).2.2
    omega
  · show (cvF (rz σ) (gn (rz σ 10))).2.2 ≤ 16
    omega
  · show (cvU (rz σ) (gn (rz σ 10))).2.2.2.2 + ((cvD (rz σ) (gn (rz σ 10))).2.2 + (cvF (rz σ) (gn (rz σ 10))).2.2) = rz σ 11 + (σ 5 + ((cvD (rz σ) (gn (rz σ 10))).2.2 + (cvF (rz σ) (gn (rz σ 10))).2.2))
    omega
  · show (cvU (rz σ) (gn (rz σ 10))).2.2.1 + (cvU (rz σ) (gn (rz σ 10))).2.2.2.1 = _
    rw [c5, z5, z7]
  · intro hd
    have hr : rz σ 11 = σ 11 ∧ ∀ k, k ≤ 11 → rz σ k = σ k := by
      have q : ¬ (0 < σ 8 ∧ σ 13 = 0) := by
        intro q
        unfold due at hd
        rw [if_neg (by omega)] at hd
        omega
      unfold rz
      split
      · rw [if_neg (by omega)]
        exact ⟨rfl, fun k hk => up_n _ _ (by omega)⟩
      · exact ⟨rfl, fun _ _ => rfl⟩
    refine ⟨hr.1, ?_⟩
    have e : inS (rz σ) (gn (rz σ 10)) = inS σ (gn (σ 10)) := by
      rw [z10]
      rw [inS_of (σ := rz σ) (hr.2 0 (by omega)) (hr.2 1 (by omega)) (hr.2 2 (by omega)) (hr.2 3 (by omega)) (hr.2 4 (by omega)) (congrArg Int.toNat (hr.2 5 (by omega))) hr.1]
      rfl
    rw [e] at c1
    exact c1
  · have h8 : 0 ≤ σ 8 ∧ σ 8 ≤ 10 := hs.2.2.2.2.2.2.2.2.1
    have e8 : rdS σ 8 = σ 8 := z8
    have e13 : rdS σ 13 = rz σ 13 := rfl
    unfold due
    rw [e8, e13]
    by_cases c : σ 8 = 0
    · rw [if_pos c, if_pos c]
    · rw [if_neg c, if_neg c, if_neg c]
      unfold rz
      rw [if_pos (by omega)]
      by_cases d : σ 13 = 0
      · rw [if_pos d, if_pos d]; rfl
      · rw [if_neg d, if_neg d]; rfl
theorem vwl_self (σ : Nat → Int) : vwl σ (σ 0) = val0 (rz σ) := by unfold vwl; rw [up_self]
theorem gn_k {r : Int} : (r = 0 → gn r = 1) ∧ (r = 1 → gn r = 10) ∧ (r = 2 → gn r = 100) ∧ (r ≠ 0 → r ≠ 1 → r ≠ 2 → gn r = 1000) := by
  unfold gn
  refine ⟨fun h => by rw [if_pos h], fun h => by rw [if_neg (by omega), if_pos h], fun h => by rw [if_neg (by omega), if_neg (by omega), if_pos h], fun a b c => by rw [if_neg a, if_neg b, if_neg c]⟩
theorem rowS_inR {σ ρ : Nat → Int} (h : inR ρ) (hs : Sets σ) (hn : Nums σ) (h11 : 0 ≤ σ 11 ∧ σ 11 ≤ 2000000000) : inR (rowS σ ρ) := by
  have a := val0_rz hs hn
  have hz := rz_sets hs
  have hzn := rz_nums hs hn
  have b := net0_bd hz hzn.1
  have t := rz_time hs
  have u := rdM_time hs
  have h10 : 0 ≤ rz σ 10 ∧ rz σ 10 ≤ 3 := hz.2.2.2.2.2.2.2.2.2.2
  have o := ovr_01 (rz σ) (gn (rz σ 10))
  have z12 := hzn.1
  have u' : rdM σ 11 = cvt (rz σ) (gn (rz σ 10)) 11 := rfl
  have key : ∀ (f : Nat → Int) (q : Nat) (v : Int), inR f → (-1099511627776 ≤ v ∧ v ≤ 1099511627776) → inR (up f q v) := by
    intro f q v hf hv k
    by_cases c : k = q
    · subst c; rw [up_s]; exact hv
    · rw [up_n _ _ c]; exact hf k
  unfold rowS row0
  exact key _ _ _ (key _ _ _ (key _ _ _ (key _ _ _ (key _ _ _ (key _ _ _ (key _ _ _ h (by omega)) (by omega)) (by omega)) (show -1099511627776 ≤ ov0 (rz σ) ∧ ov0 (rz σ) ≤ 1099511627776 from by unfold ov0; omega)) (by omega)) (by omega)) (by omega)
/-! the log's least, greatest and sum -/
theorem minL_le {ρ : Nat → Int} : ∀ (n : Nat) (r x : Int), minL ρ n r x ≤ x ∧ ∀ k : Int, r ≤ k → k < r + n → minL ρ n r x ≤ lrow ρ k 0 := by
  intro n
  induction n with
  | zero => intro r x; exact ⟨Int.le_refl _, fun k h1 h2 => by omega⟩
  | succ n ih =>
    intro r x
    have h := ih (r + 1) (if lrow ρ r 0 < x then lrow ρ r 0 else x)
    simp only [minL]
    refine ⟨Int.le_trans h.1 (by split <;> omega), fun k h1 h2 => ?_⟩
    by_cases c : k = r
    · subst c; exact Int.le_trans h.1 (by split <;> omega)
    · exact h.2 k (by omega) (by omega)
theorem maxL_ge {ρ : Nat → Int} : ∀ (n : Nat) (r x : Int), x ≤ maxL ρ n r x ∧ ∀ k : Int, r ≤ k → k < r + n → lrow ρ k 0 ≤ maxL ρ n r x := by
  intro n
  induction n with
  | zero => intro r x; exact ⟨Int.le_refl _, fun k h1 h2 => by omega⟩
  | succ n ih =>
    intro r x
    have h := ih (r + 1) (if lrow ρ r 0 < x then x else lrow ρ r 0)
    simp only [maxL]
    refine ⟨Int.le_trans (by split <;> omega) h.1, fun k h1 h2 => ?_⟩
    by_cases c : k = r
    · subst c; exact Int.le_trans (by split <;> omega) h.1
    · exact h.2 k (by omega) (by omega)
theorem minL_bd {ρ : Nat → Int} (h : inR ρ) : ∀ (n : Nat) (r x : Int), (-1099511627776 ≤ x ∧ x ≤ 1099511627776) → -1099511627776 ≤ minL ρ n r x ∧ minL ρ n r x ≤ 1099511627776 := by
  intro n
  induction n with
  | zero => intro r x hx; exact hx
  | succ n ih =>
    intro r x hx
    have := h (7 * (r.toNat % 40) + 0)
    have e : lrow ρ r 0 = ρ (7 * (r.toNat % 40) + 0) := rfl
    simp only [minL]
    exact ih _ _ (by rw [e]; split <;> omega)
theorem maxL_bd {ρ : Nat → Int} (h : inR ρ) : ∀ (n : Nat) (r x : Int), (-1099511627776 ≤ x ∧ x ≤ 1099511627776) → -1099511627776 ≤ maxL ρ n r x ∧ maxL ρ n r x ≤ 1099511627776 := by
  intro n
  induction n with
  | zero => intro r x hx; exact hx
  | succ n ih =>
    intro r x hx
    have := h (7 * (r.toNat % 40) + 0)
    have e : lrow ρ r 0 = ρ (7 * (r.toNat % 40) + 0) := rfl
    simp only [maxL]
    exact ih _ _ (by rw [e]; split <;> omega)
theorem sumL_snoc (ρ : Nat → Int) (k : Nat) : ∀ (n : Nat) (r x : Int), sumL ρ k (n + 1) r x = sumL ρ k n r x + lrow ρ (r + n) k := by
  intro n
  induction n with
  | zero => intro r x; simp only [sumL]; rw [show r + ((0 : Nat) : Int) = r from by omega]
  | succ n ih =>
    intro r x
    rw [show sumL ρ k (n + 1 + 1) r x = sumL ρ k (n + 1) (r + 1) (x + lrow ρ r k) from rfl, ih, show sumL ρ k (n + 1) r x = sumL ρ k n (r + 1) (x + lrow ρ r k) from rfl, show r + 1 + (n : Int) = r + ((n + 1 : Nat) : Int) from by omega]
theorem lrow_bd {ρ : Nat → Int} (h : inR ρ) (r : Int) (k : Nat) : -1099511627776 ≤ lrow ρ r k ∧ lrow ρ r k ≤ 1099511627776 := h _
theorem ffr_0 {n : Int} (h : 0 ≤ n ∧ n ≤ 40) : ffr n 0 = 0 ∧ nfr n 0 = n ∧ ffr n n = n ∧ nfr n n = 0 := by
  have e : (if 0 < n - 40 then n - 40 else 0) = 0 := by rw [if_neg (by omega)]
  have a : ffr n 0 = 0 := by unfold ffr; rw [e]; rfl
  have b : ffr n n = n := by
    unfold ffr
    rw [e]
    split
    · omega
    · rfl
  refine ⟨a, ?_, b, ?_⟩
  · unfold nfr; rw [a]; split <;> omega
  · unfold nfr; rw [b, if_neg (by omega)]
theorem cvt_gt {σ : Nat → Int} (g : Int) (h : Sets σ) : σ 11 + 4 ≤ cvt σ g 11 := by
  have h5 : 4 ≤ σ 5 ∧ σ 5 ≤ 400 := h.2.2.2.2.2.1
  have h1 := cvU_bd σ g h5
  have h2 := cvD_bd σ g h5
  have h3 := cvF_bd σ g h5
  show σ 11 + 4 ≤ (cvU σ g).2.2.2.2 + ((cvD σ g).2.2 + (cvF σ g).2.2)
  omega
/-- the meter's bounds -/
abbrev gd (σ ρ : Nat → Int) (ov T : Int) : Prop := Sets σ ∧ Nums σ ∧ inR ρ ∧ 0 ≤ σ 11 ∧ σ 11 ≤ T ∧ (ov = 0 ∨ ov = 1)
theorem swr_says {ov nt w r : Int} : ((ov = 1 ∨ 16 * w < ab nt) → r ≤ 0 → swr ov nt w r = r) ∧ ((ov = 1 ∨ 16 * w < ab nt) → 0 < r → swr ov nt w r = r - 1) ∧ (¬ ov = 1 → ab nt ≤ 16 * w → ab nt < 16 * w / 12 → r < 3 → swr ov nt w r = r + 1) ∧ (¬ ov = 1 → ab nt ≤ 16 * w → ab nt < 16 * w / 12 → 3 ≤ r → swr ov nt w r = r) ∧ (¬ ov = 1 → ab nt ≤ 16 * w → 16 * w / 12 ≤ ab nt → swr ov nt w r = r) := by
  unfold swr
  refine ⟨fun a b => ?_, fun a b => ?_, fun a b c d => ?_, fun a b c d => ?_, fun a b c => ?_⟩
  · rw [if_pos a, if_neg (by omega)]
  · rw [if_pos a, if_pos b]
  · rw [if_neg (by omega), if_pos c, if_pos d]
  · rw [if_neg (by omega), if_pos c, if_neg (by omega)]
  · rw [if_neg (by omega), if_neg (by omega)]
theorem pm_bd {p x : Int} (hp : 4 ≤ p ∧ p ≤ 80) (hx : 0 ≤ x ∧ x ≤ 2) : 4 ≤ p * (1 + x) ∧ p * (1 + x) ≤ 240 ∧ (p * (1 + x)).toNat = (1 + x).toNat * p.toNat := by
  rcases (show x = 0 ∨ x = 1 ∨ x = 2 from by omega) with rfl | rfl | rfl
  · rw [show p * (1 + 0) = p from by omega, show (1 + 0 : Int).toNat = 1 from rfl]; omega
  · rw [show p * (1 + 1) = 2 * p from by omega, show (1 + 1 : Int).toNat = 2 from rfl]; omega
  · rw [show p * (1 + 2) = 3 * p from by omega, show (1 + 2 : Int).toNat = 3 from rfl]; omega
theorem due_bd {σ : Nat → Int} (hn : Nums σ) : -6 ≤ due σ ∧ due σ ≤ 10 := by
  have := hn.2.1
  unfold due
  split <;> omega
theorem inS_bd (σ : Nat → Int) (g : Int) (h5 : 4 ≤ σ 5 ∧ σ 5 ≤ 400) : -1200000000 ≤ inS σ g ∧ inS σ g ≤ 1200000000 := by
  have := smV_bd (M := 3000000) (volt_bd σ g) (σ 5).toNat (σ 11)
  unfold inS
  omega
/-! END lawlib -/
