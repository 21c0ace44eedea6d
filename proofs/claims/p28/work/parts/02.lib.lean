set_option linter.unusedVariables false
/-! ints and longs that are integers -/
def iI (x : Int) : Int32 := Int32.ofInt x
def iL (x : Int) : Int64 := Int64.ofInt x
abbrev inI (a : Int) : Prop := -2147483648 ≤ a ∧ a ≤ 2147483647
abbrev inL (a : Int) : Prop := -9223372036854775808 ≤ a ∧ a ≤ 9223372036854775807
theorem iI_toInt {a : Int} (h : inI a) : (iI a).toInt = a := Int32.toInt_ofInt_of_le (by omega) (by omega)
theorem iL_toInt {a : Int} (h : inL a) : (iL a).toInt = a := Int64.toInt_ofInt_of_le (by omega) (by omega)
theorem iI_of (x : Int32) : iI x.toInt = x := Int32.ofInt_toInt x
theorem iL_of (x : Int64) : iL x.toInt = x := Int64.ofInt_toInt x
theorem iI_in (x : Int32) : inI x.toInt := by
  have h1 := Int32.le_toInt x
  have h2 := Int32.toInt_lt x
  omega
theorem iI_ex (x : Int32) : ∃ a : Int, inI a ∧ x = iI a := ⟨x.toInt, iI_in x, (iI_of x).symm⟩
theorem iI_add (a b : Int) : iI a + iI b = iI (a + b) := (Int32.ofInt_add a b).symm
theorem iI_sub (a b : Int) : iI a - iI b = iI (a - b) := (Int32.ofInt_sub a b).symm
theorem iI_mul (a b : Int) : iI a * iI b = iI (a * b) := (Int32.ofInt_mul a b).symm
theorem iI_neg (a : Int) : -iI a = iI (-a) := (Int32.ofInt_neg a).symm
theorem iL_add (a b : Int) : iL a + iL b = iL (a + b) := (Int64.ofInt_add a b).symm
theorem iL_sub (a b : Int) : iL a - iL b = iL (a - b) := (Int64.ofInt_sub a b).symm
theorem iL_mul (a b : Int) : iL a * iL b = iL (a * b) := (Int64.ofInt_mul a b).symm
theorem iL_neg (a : Int) : -iL a = iL (-a) := (Int64.ofInt_neg a).symm
theorem iI_inj {a b : Int} (ha : inI a) (hb : inI b) : iI a = iI b ↔ a = b := by
  constructor
  · intro h
    have := congrArg Int32.toInt h
    rwa [iI_toInt ha, iI_toInt hb] at this
  · intro h; rw [h]
theorem iL_inj {a b : Int} (ha : inL a) (hb : inL b) : iL a = iL b ↔ a = b := by
  constructor
  · intro h
    have := congrArg Int64.toInt h
    rwa [iL_toInt ha, iL_toInt hb] at this
  · intro h; rw [h]
theorem iI_lt {a b : Int} (ha : inI a) (hb : inI b) : iI a < iI b ↔ a < b := by rw [Int32.lt_iff_toInt_lt, iI_toInt ha, iI_toInt hb]
theorem iI_le {a b : Int} (ha : inI a) (hb : inI b) : iI a ≤ iI b ↔ a ≤ b := by rw [Int32.le_iff_toInt_le, iI_toInt ha, iI_toInt hb]
theorem iL_lt {a b : Int} (ha : inL a) (hb : inL b) : iL a < iL b ↔ a < b := by rw [Int64.lt_iff_toInt_lt, iL_toInt ha, iL_toInt hb]
theorem iL_le {a b : Int} (ha : inL a) (hb : inL b) : iL a ≤ iL b ↔ a ≤ b := by rw [Int64.le_iff_toInt_le, iL_toInt ha, iL_toInt hb]
theorem bmod_32 {x : Int} (h : inI x) : x.bmod (2 ^ 32) = x := by
  rw [Int.bmod_def]
  split <;> omega
theorem bmod_64 {x : Int} (h : inL x) : x.bmod (2 ^ 64) = x := by
  rw [Int.bmod_def]
  split <;> omega
theorem iI_div {a b : Int} (ha : inI a) (hb : inI b) (h : inI (a.tdiv b)) : iI a / iI b = iI (a.tdiv b) := by
  apply Int32.toInt_inj.mp
  rw [Int32.toInt_div, iI_toInt ha, iI_toInt hb, iI_toInt h, bmod_32 h]
theorem iL_div {a b : Int} (ha : inL a) (hb : inL b) (h : inL (a.tdiv b)) : iL a / iL b = iL (a.tdiv b) := by
  apply Int64.toInt_inj.mp
  rw [Int64.toInt_div, iL_toInt ha, iL_toInt hb, iL_toInt h, bmod_64 h]
theorem tmod_ab (a b : Int) : a - a.tdiv b * b = a.tmod b := by
  rw [Int.tmod_def, Int.mul_comm]
theorem iI_rem {a b : Int} (ha : inI a) (hb : inI b) (h : inI (a.tdiv b)) : iI a - iI a / iI b * iI b = iI (a.tmod b) := by
  rw [iI_div ha hb h, iI_mul, iI_sub, tmod_ab]
theorem iL_rem {a b : Int} (ha : inL a) (hb : inL b) (h : inL (a.tdiv b)) : iL a - iL a / iL b * iL b = iL (a.tmod b) := by
  rw [iL_div ha hb h, iL_mul, iL_sub, tmod_ab]
theorem i2l_ {a : Int} (h : inI a) : (iI a).toInt64 = iL a := by
  apply Int64.toInt_inj.mp
  rw [Int32.toInt_toInt64, iI_toInt h, iL_toInt (by omega)]
theorem l2i_ (a : Int) : (iL a).toInt32 = iI a := Int64.toInt32_ofInt
theorem iI_ne0 {b : Int} (hb : inI b) (h : b ≠ 0) : ¬ iI b = 0 := fun q => h ((iI_inj hb (by omega)).mp (q.trans (show (0 : Int32) = iI 0 from rfl)))
theorem iL_ne0 {b : Int} (hb : inL b) (h : b ≠ 0) : ¬ iL b = 0 := fun q => h ((iL_inj hb (by omega)).mp (q.trans (show (0 : Int64) = iL 0 from rfl)))
theorem iI_nat {x : Int} {k : Nat} (h : x = (k : Int)) (hk : k < 2147483648) : (iI x).toNatClampNeg = k := by
  show (iI x).toInt.toNat = k
  rw [iI_toInt (by omega), h]
  rfl
theorem iI_vp {x : Int} {k n : Nat} (h : x = (k : Int)) (hk : k < n) (hn : n < 2147483648) : vp_in (iI x) n := by
  rw [vp_in_iff, iI_toInt (by omega)]
  omega
/-- a truth as a number -/
def bI (P : Prop) [Decidable P] : Int := if P then 1 else 0
theorem bI_t {P : Prop} [Decidable P] (h : P) : bI P = 1 := if_pos h
theorem bI_f {P : Prop} [Decidable P] (h : ¬ P) : bI P = 0 := if_neg h
theorem bI_01 (P : Prop) [Decidable P] : bI P = 0 ∨ bI P = 1 := by
  by_cases h : P
  · exact Or.inr (bI_t h)
  · exact Or.inl (bI_f h)
theorem nar_z {x : Int} (h : x = 0 ∨ x = 1) : narrow .boolean (.int (iI x)) = .int (iI x) := by
  rcases h with rfl | rfl <;> rfl
theorem fit_z {x : Int} (h : x = 0 ∨ x = 1) : fits .boolean (.int (iI x)) = true := by
  rcases h with rfl | rfl <;> rfl
/-- the machine's own names: kinds, array kinds, tables -/
abbrev gT : Type := va_G × (Nat → ClassId) × (Nat → Nat)
def TY (E : gT) : List (ClassId × FieldType) := [(E.2.1 0, .char), (E.2.1 1, .int), (E.2.1 2, .long), (E.2.1 3, .boolean), (E.2.1 4, .object RX6)]
def tG : Nat → Int := fun k => match k with | 0 => 1 | 1 => 10 | 2 => 100 | _ => 1000
def tLo : Nat → Int := fun k => match k with | 0 => 4 | 1 => 1 | _ => 0
def tHi : Nat → Int := fun k => match k with | 0 => 400 | 1 => 50 | 2 => 1 | 3 => 10 | 4 => 1 | _ => 3
def nestM : List (String × Nat × MethodName) := [(RX7, 9, yX6_init), (RX6, 9, yX2_init), (RX2, 11, yX5_init), (RX2, 20, yX4_init), (RX2, 27, yX0_init), (RX6, 18, yX1_init), (RX7, 29, yX2_init), (RX7, 36, yX3_init), (RX5, 33, yX7_limited), (RX2, 72, yX7_gainOf)]
def gE (E : gT) (A : Nat → Prop) (U : State) (H : Heap) : Prop :=
  (∀ q ∈ nestM, va_Nw (.methodLinkNest q.1 q.2.1 q.2.2 RX7) U) ∧ va_Nw (.fieldLinkNest RX2 140 RX7 "GAINS" "[I" RX7) U ∧ va_Nw (.fieldLinkNest RX3 68 RX7 "GAINS" "[I" RX7) U ∧ va_AO RX6 U ∧
  va_Z RX7 "GAINS" "[I" (.ref (E.2.2 0)) A U H ∧ va_T .int (E.2.2 0) 4 (fun j => .int (iI (tG j))) A U H ∧
  va_Z RX7 "LEAST_SETTINGS" "[I" (.ref (E.2.2 1)) A U H ∧ va_T .int (E.2.2 1) 6 (fun j => .int (iI (tLo j))) A U H ∧
  va_Z RX7 "MOST_SETTINGS" "[I" (.ref (E.2.2 2)) A U H ∧ va_T .int (E.2.2 2) 6 (fun j => .int (iI (tHi j))) A U H
theorem gE.same {E : gT} {A : Nat → Prop} {u U : State} {H : Heap} (hvm : u.vm = U.vm) (h : gE E A u H) : gE E A U H := by
  obtain ⟨h1, h2, h3, h4, h5, h6, h7, h8, h9, h10⟩ := h
  have hA : u.vm.Alike U.vm := hvm ▸ Vm.Alike.refl u.vm
  exact ⟨fun q hq => va_Nw.same rfl hvm (h1 q hq), va_Nw.same rfl hvm h2, va_Nw.same rfl hvm h3, h4.moved hA, h5.moved hA, h6.moved hA, h7.moved hA, h8.moved hA, h9.moved hA, h10.moved hA⟩
theorem gE.warm {E : gT} {A : Nat → Prop} {s U : State} {H : Heap} (hW : s.WarmedH U.vm) (h : gE E A s H) : gE E A U H := by
  obtain ⟨h1, h2, h3, h4, h5, h6, h7, h8, h9, h10⟩ := h
  have hA : s.vm.Alike U.vm := hW.alike
  exact ⟨fun q hq => va_Nw.warmM hW (h1 q hq), va_Nw.warmF hW h2, va_Nw.warmF hW h3, h4.moved hA, h5.moved hA, h6.moved hA, h7.moved hA, h8.moved hA, h9.moved hA, h10.moved hA⟩
theorem gE.kept {E : gT} {A : Nat → Prop} {U : State} {H H1 : Heap} (h : gE E A U H) (hq : ∀ a : Nat, a < H.size → ¬ A a → H1[a]? = H[a]?) : gE E A U H1 := by
  obtain ⟨h1, h2, h3, h4, h5, h6, h7, h8, h9, h10⟩ := h
  exact ⟨h1, h2, h3, h4, h5.kept hq, h6.kept hq, h7.kept hq, h8.kept hq, h9.kept hq, h10.kept hq⟩
theorem gE.narrow {E : gT} {A B : Nat → Prop} {U : State} {H : Heap} (h : gE E A U H) (hAB : ∀ q, B q → A q) : gE E B U H := by
  obtain ⟨h1, h2, h3, h4, h5, h6, h7, h8, h9, h10⟩ := h
  exact ⟨h1, h2, h3, h4, h5.narrow hAB, h6.narrow hAB, h7.narrow hAB, h8.narrow hAB, h9.narrow hAB, h10.narrow hAB⟩
/-- the bundle that a walk carries -/
def bw (E : gT) (A : Nat → Prop) (s : State) (H : Heap) (locs : List Loc) (ws : va_W) : Prop :=
  va_K E.1 vwCl (TY E) s ∧ va_P E.1 vwCl ws H ∧ va_D A ws ∧ va_S A s.heap H locs ∧ (∀ q, s.heap.size ≤ q → A q) ∧ gE E A s s.heap
/-- what holds behind a method -/
def Qd (E : gT) (A : Nat → Prop) {S0 : Type} (post : S0 → Prop) (r : S0 → Option Value) (ws' : S0 → va_W) : Array Value → State → Outcome → State → Prop :=
  fun _ st oc t => (∃ u : S0, post u ∧ oc = .returned (r u) ∧ va_P E.1 vwCl (ws' u) t.heap ∧ va_D A (ws' u)) ∧ va_F A st t
/-- a contract: the words, the room, what it is called with, the world before, what holds behind -/
def Ct (l : Launch) (E : gT) (y : MethodName) (wsn : List Cond) (fr lo mc ms : Nat) (av : List Value) (ws : va_W) {S0 : Type} (post : S0 → Prop) (r : S0 → Option Value) (ws' : S0 → va_W) : Prop :=
  ∀ sz : Nat, Met l y wsn ({ frames := fr, cells := mc, slots := ms, locals := lo } : Room) (va_Pc av (fun U => U.heap.size = sz ∧ va_K E.1 vwCl (TY E) U ∧ va_P E.1 vwCl ws U.heap ∧ va_D (fun _ => True) ws ∧ gE E (va_A ws sz) U U.heap)) (Qd E (va_A ws sz) post r ws') mc ms (va_A ws sz)
abbrev Cd (l : Launch) (E : gT) (y : MethodName) (wsn : List Cond) (fr lo mc ms : Nat) (av : List Value) (ws : va_W) (r : Option Value) (ws' : va_W) : Prop :=
  Ct l E y wsn fr lo mc ms av ws (S0 := Unit) (fun _ => True) (fun _ => r) (fun _ => ws')
theorem met_ofF {l : Launch} {y : MethodName} {ws ws' : List Cond} {rm : Room} {Pc : Array Value → State → Prop} {Qc : Array Value → State → Outcome → State → Prop} {mc ms : Nat} {free : Addr → Prop} {cc : ByteArray} {maxL : Nat} {ret : Option FieldType}
    (hy : plainFor y = true) (hw : ws = Cond.code y cc maxL ret :: ws')
    (body : ∀ p e s m args below meth c s₁, BodyLoose p l y (headSpec ws rm) cc maxL ret e s m args below meth c s₁ → c.maxLocals = maxL → Pc args s →
      W p l e (headSpec ws rm).room s m args below meth c s.heap [] 0 0 (MQ below Qc args s mc ms free) (entryFrame m args maxL)) : Met l y ws rm Pc Qc mc ms free := by
  refine Free.MetFree.of_bodySF (code := cc) (maxLocals := maxL) (ret := ret) hy (fun args s m h hn => ?_) (fun p e s m args below meth c s₁ B hml hP _ => ?_)
  · obtain ⟨meth, c, h1, h2, h3, h4, h5, h6, -, -⟩ := Cond.code_spec hn (atoms_spec (ws := ws) h _ (by rw [hw]; exact List.mem_cons_self))
    exact ⟨meth, c, h1, h2, h3, h4, h5, h6⟩
  · obtain ⟨t, a1, o, b1, b2, b3⟩ := body p e s m args below meth c s₁ B hml hP s₁ (by rw [B.state]; rfl) (Stand.of_body B)
    exact ⟨t, o, a1, b1, b2, b3.1, b3.2⟩
theorem Ct.mk {l : Launch} {E : gT} {y : MethodName} {wsn ws0 : List Cond} {fr lo mc ms maxL : Nat} {av : List Value} {ws : va_W} {S0 : Type} {post : S0 → Prop} {r : S0 → Option Value} {ws' : S0 → va_W} {cc : ByteArray} {ret : Option FieldType}
    (hy : plainFor y = true) (hw : wsn = Cond.code y cc maxL ret :: ws0) (hlen : (lg_sl av).length ≤ maxL)
    (body : ∀ (p : Program) (e : Env) (s : State) (m : MethodId) (below : List Frame) (meth : Method) (c : Code) (A : Nat → Prop) (ls : Array Slot) (H : Heap) (locs : List Loc), CallFix p m c cc maxL s av.toArray wsn y.cls → meth.sig.returnType = ret → meth.locks = false → meth.name = y.name → bw E A s H locs ws → lv_has ls maxL (lv_args 0 av) →
      W p l e ({ frames := fr, cells := mc, slots := ms, locals := lo } : Room) s m av.toArray below meth c H locs 0 0 (MQ below (Qd E A post r ws') av.toArray s mc ms A) (F0 m 0 ls [])) : Ct l E y wsn fr lo mc ms av ws post r ws' := by
  intro sz
  refine met_ofF (cc := cc) (maxL := maxL) (ret := ret) hy hw ?_
  intro p e s m args below meth c s₁ B hml hv
  obtain ⟨rfl, hsz, hK, hP, hD0, hg⟩ := hv
  have hts := atoms_spec (ws := wsn) B.pre
  have hown : s.vm.findClass y.cls = some m.cls := findClass_of_methodNamed B.named
  subst hsz
  have hD := hD0.self (sz := s.heap.size)
  generalize hAe : va_A ws s.heap.size = A at hD hg ⊢
  have hA : ∀ q : Nat, s.heap.size ≤ q → A q := fun q h => by rw [← hAe]; exact Or.inr h
  have hl := lv_entry av (n := maxL) hlen
  rw [lg_entry_eq]
  exact body p e s m below meth c A _ _ _ ⟨B.exec, B.bytes, hml, hown, hts⟩ B.returns B.notSynchronized (name_of_methodNamed B.named B.method).1 ⟨hK, hP, hD, va_S.rf, hA, hg⟩ hl
section ZL
variable {p : Program} {l : Launch} {e : Env} {R : Room} {s : State} {m : MethodId} {args : Array Value} {below : List Frame} {meth : Method} {c : Code} {H : Heap} {locs : List Loc} {cells slots : Nat} {Q : State → Prop}
variable {cc : ByteArray} {nL pc tgt : Nat} {ls : Array Slot} {rest : List Value} {Ts : List Cond} {own : String} {E : gT} {A : Nat → Prop} {ws : va_W} {a b : Int} {off : Int}
theorem z_iconst (S : CallFix p m c cc nL s args Ts own) {n : Int} (hdg : decode cc pc = .ok (.iconst n, 1)) (k : W p l e R s m args below meth c H locs cells slots Q (F0 m (pc + 1) ls (.int (iI n) :: rest))) : W p l e R s m args below meth c H locs cells slots Q (F0 m pc ls rest) := lv_iconst S.1 S.2.1 hdg rfl k
theorem z_bipush (S : CallFix p m c cc nL s args Ts own) {n : Int} (hdg : decode cc pc = .ok (.bipush n, 2)) (hn : (Int8.ofInt n).toInt32 = iI n) (k : W p l e R s m args below meth c H locs cells slots Q (F0 m (pc + 2) ls (.int (iI n) :: rest))) : W p l e R s m args below meth c H locs cells slots Q (F0 m pc ls rest) := lv_bipush S.1 S.2.1 hdg hn k
theorem z_sipush (S : CallFix p m c cc nL s args Ts own) {n : Int} (hdg : decode cc pc = .ok (.sipush n, 3)) (hn : (Int16.ofInt n).toInt32 = iI n) (k : W p l e R s m args below meth c H locs cells slots Q (F0 m (pc + 3) ls (.int (iI n) :: rest))) : W p l e R s m args below meth c H locs cells slots Q (F0 m pc ls rest) := lv_sipush S.1 S.2.1 hdg hn k
theorem z_lconst (S : CallFix p m c cc nL s args Ts own) {n : Fin 2} {x : Int} (hdg : decode cc pc = .ok (.lconst n, 1)) (hn : Int64.ofNat (n : Nat) = iL x) (k : W p l e R s m args below meth c H locs cells slots Q (F0 m (pc + 1) ls (.long (iL x) :: rest))) : W p l e R s m args below meth c H locs cells slots Q (F0 m pc ls rest) := lv_lconst S.1 S.2.1 hdg hn k
theorem z_ldc (S : CallFix p m c cc nL s args Ts own) {index : Nat} {v : Int32} {x : Int} (hc : Cond.constant own index v ∈ Ts) (hv : v = iI x) (hdg : decode cc pc = .ok (.ldc index, 2)) (k : W p l e R s m args below meth c H locs cells slots Q (F0 m (pc + 2) ls (.int (iI x) :: rest))) : W p l e R s m args below meth c H locs cells slots Q (F0 m pc ls rest) := lv_ldc S.1 S.2.1 S.2.2.2.1 (hv ▸ S.2.2.2.2 _ hc) hdg k
theorem z_ldcw (S : CallFix p m c cc nL s args Ts own) {index : Nat} {v : Int32} {x : Int} (hc : Cond.constant own index v ∈ Ts) (hv : v = iI x) (hdg : decode cc pc = .ok (.ldc_w index, 3)) (k : W p l e R s m args below meth c H locs cells slots Q (F0 m (pc + 3) ls (.int (iI x) :: rest))) : W p l e R s m args below meth c H locs cells slots Q (F0 m pc ls rest) := lv_ldcw S.1 S.2.1 S.2.2.2.1 (hv ▸ S.2.2.2.2 _ hc) hdg k
theorem z_ldc2 (S : CallFix p m c cc nL s args Ts own) {index : Nat} {v : Int64} {x : Int} (hc : Cond.constantLong own index v ∈ Ts) (hv : v = iL x) (hdg : decode cc pc = .ok (.ldc2_w index, 3)) (k : W p l e R s m args below meth c H locs cells slots Q (F0 m (pc + 3) ls (.long (iL x) :: rest))) : W p l e R s m args below meth c H locs cells slots Q (F0 m pc ls rest) := lv_ldc2 S.1 S.2.1 S.2.2.2.1 (hv ▸ S.2.2.2.2 _ hc) hdg k
theorem z_iload_n (S : CallFix p m c cc nL s args Ts own) {k : Fin 4} {i : Nat} (hdg : decode cc pc = .ok (.iload_n k, 1)) (hi : (k : Nat) = i) (hl : ls[i]? = some (.val (.int (iI a)))) (kk : W p l e R s m args below meth c H locs cells slots Q (F0 m (pc + 1) ls (.int (iI a) :: rest))) : W p l e R s m args below meth c H locs cells slots Q (F0 m pc ls rest) := lv_iload_n S.1 S.2.1 hdg hi hl kk
theorem z_iload (S : CallFix p m c cc nL s args Ts own) {i : Nat} (hdg : decode cc pc = .ok (.iload i, 2)) (hl : ls[i]? = some (.val (.int (iI a)))) (kk : W p l e R s m args below meth c H locs cells slots Q (F0 m (pc + 2) ls (.int (iI a) :: rest))) : W p l e R s m args below meth c H locs cells slots Q (F0 m pc ls rest) := lv_iload S.1 S.2.1 hdg hl kk
theorem z_lload_n (S : CallFix p m c cc nL s args Ts own) {k : Fin 4} {i : Nat} (hdg : decode cc pc = .ok (.lload_n k, 1)) (hi : (k : Nat) = i) (hl : ls[i]? = some (.val (.long (iL a)))) (kk : W p l e R s m args below meth c H locs cells slots Q (F0 m (pc + 1) ls (.long (iL a) :: rest))) : W p l e R s m args below meth c H locs cells slots Q (F0 m pc ls rest) := lv_lload_n S.1 S.2.1 hdg hi hl kk
theorem z_lload (S : CallFix p m c cc nL s args Ts own) {i : Nat} (hdg : decode cc pc = .ok (.lload i, 2)) (hl : ls[i]? = some (.val (.long (iL a)))) (kk : W p l e R s m args below meth c H locs cells slots Q (F0 m (pc + 2) ls (.long (iL a) :: rest))) : W p l e R s m args below meth c H locs cells slots Q (F0 m pc ls rest) := lv_lload S.1 S.2.1 hdg hl kk
theorem z_aload_n (S : CallFix p m c cc nL s args Ts own) {k : Fin 4} {i x : Nat} (hdg : decode cc pc = .ok (.aload_n k, 1)) (hi : (k : Nat) = i) (hl : ls[i]? = some (.val (.ref x))) (kk : W p l e R s m args below meth c H locs cells slots Q (F0 m (pc + 1) ls (.ref x :: rest))) : W p l e R s m args below meth c H locs cells slots Q (F0 m pc ls rest) := lv_aload_n S.1 S.2.1 hdg hi hl kk
theorem z_aload (S : CallFix p m c cc nL s args Ts own) {i x : Nat} (hdg : decode cc pc = .ok (.aload i, 2)) (hl : ls[i]? = some (.val (.ref x))) (kk : W p l e R s m args below meth c H locs cells slots Q (F0 m (pc + 2) ls (.ref x :: rest))) : W p l e R s m args below meth c H locs cells slots Q (F0 m pc ls rest) := lv_aload S.1 S.2.1 hdg hl kk
theorem z_iadd (S : CallFix p m c cc nL s args Ts own) (hdg : decode cc pc = .ok (.iadd, 1)) (k : W p l e R s m args below meth c H locs cells slots Q (F0 m (pc + 1) ls (.int (iI (a + b)) :: rest))) : W p l e R s m args below meth c H locs cells slots Q (F0 m pc ls (.int (iI b) :: .int (iI a) :: rest)) := lv_iadd S.1 S.2.1 hdg (by rw [iI_add]; exact k)
theorem z_isub (S : CallFix p m c cc nL s args Ts own) (hdg : decode cc pc = .ok (.isub, 1)) (k : W p l e R s m args below meth c H locs cells slots Q (F0 m (pc + 1) ls (.int (iI (a - b)) :: rest))) : W p l e R s m args below meth c H locs cells slots Q (F0 m pc ls (.int (iI b) :: .int (iI a) :: rest)) := lv_isub S.1 S.2.1 hdg (by rw [iI_sub]; exact k)
theorem z_imul (S : CallFix p m c cc nL s args Ts own) (hdg : decode cc pc = .ok (.imul, 1)) (k : W p l e R s m args below meth c H locs cells slots Q (F0 m (pc + 1) ls (.int (iI (a * b)) :: rest))) : W p l e R s m args below meth c H locs cells slots Q (F0 m pc ls (.int (iI b) :: .int (iI a) :: rest)) := lv_imul S.1 S.2.1 hdg (by rw [iI_mul]; exact k)
theorem z_ladd (S : CallFix p m c cc nL s args Ts own) (hdg : decode cc pc = .ok (.ladd, 1)) (k : W p l e R s m args below meth c H locs cells slots Q (F0 m (pc + 1) ls (.long (iL (a + b)) :: rest))) : W p l e R s m args below meth c H locs cells slots Q (F0 m pc ls (.long (iL b) :: .long (iL a) :: rest)) := lv_ladd S.1 S.2.1 hdg (by rw [iL_add]; exact k)
theorem z_lsub (S : CallFix p m c cc nL s args Ts own) (hdg : decode cc pc = .ok (.lsub, 1)) (k : W p l e R s m args below meth c H locs cells slots Q (F0 m (pc + 1) ls (.long (iL (a - b)) :: rest))) : W p l e R s m args below meth c H locs cells slots Q (F0 m pc ls (.long (iL b) :: .long (iL a) :: rest)) := lv_lsub S.1 S.2.1 hdg (by rw [iL_sub]; exact k)
theorem z_lmul (S : CallFix p m c cc nL s args Ts own) (hdg : decode cc pc = .ok (.lmul, 1)) (k : W p l e R s m args below meth c H locs cells slots Q (F0 m (pc + 1) ls (.long (iL (a * b)) :: rest))) : W p l e R s m args below meth c H locs cells slots Q (F0 m pc ls (.long (iL b) :: .long (iL a) :: rest)) := lv_lmul S.1 S.2.1 hdg (by rw [iL_mul]; exact k)
theorem z_ineg (S : CallFix p m c cc nL s args Ts own) (hdg : decode cc pc = .ok (.ineg, 1)) (k : W p l e R s m args below meth c H locs cells slots Q (F0 m (pc + 1) ls (.int (iI (-a)) :: rest))) : W p l e R s m args below meth c H locs cells slots Q (F0 m pc ls (.int (iI a) :: rest)) := lv_ineg S.1 S.2.1 hdg (by rw [iI_neg]; exact k)
theorem z_lneg (S : CallFix p m c cc nL s args Ts own) (hdg : decode cc pc = .ok (.lneg, 1)) (k : W p l e R s m args below meth c H locs cells slots Q (F0 m (pc + 1) ls (.long (iL (-a)) :: rest))) : W p l e R s m args below meth c H locs cells slots Q (F0 m pc ls (.long (iL a) :: rest)) := lv_lneg S.1 S.2.1 hdg (by rw [iL_neg]; exact k)
theorem z_idiv (S : CallFix p m c cc nL s args Ts own) (ha : inI a) (hb : inI b) (h0 : b ≠ 0) (h : inI (a.tdiv b)) (hdg : decode cc pc = .ok (.idiv, 1)) (k : W p l e R s m args below meth c H locs cells slots Q (F0 m (pc + 1) ls (.int (iI (a.tdiv b)) :: rest))) : W p l e R s m args below meth c H locs cells slots Q (F0 m pc ls (.int (iI b) :: .int (iI a) :: rest)) := lv_idiv S.1 S.2.1 hdg (iI_ne0 hb h0) (by rw [iI_div ha hb h]; exact k)
theorem z_irem (S : CallFix p m c cc nL s args Ts own) (ha : inI a) (hb : inI b) (h0 : b ≠ 0) (h : inI (a.tdiv b)) (hdg : decode cc pc = .ok (.irem, 1)) (k : W p l e R s m args below meth c H locs cells slots Q (F0 m (pc + 1) ls (.int (iI (a.tmod b)) :: rest))) : W p l e R s m args below meth c H locs cells slots Q (F0 m pc ls (.int (iI b) :: .int (iI a) :: rest)) := lv_irem S.1 S.2.1 hdg (iI_ne0 hb h0) (by rw [iI_rem ha hb h]; exact k)
theorem z_ldiv (S : CallFix p m c cc nL s args Ts own) (ha : inL a) (hb : inL b) (h0 : b ≠ 0) (h : inL (a.tdiv b)) (hdg : decode cc pc = .ok (.ldiv, 1)) (k : W p l e R s m args below meth c H locs cells slots Q (F0 m (pc + 1) ls (.long (iL (a.tdiv b)) :: rest))) : W p l e R s m args below meth c H locs cells slots Q (F0 m pc ls (.long (iL b) :: .long (iL a) :: rest)) := lv_ldiv S.1 S.2.1 hdg (iL_ne0 hb h0) (by rw [iL_div ha hb h]; exact k)
theorem z_lrem (S : CallFix p m c cc nL s args Ts own) (ha : inL a) (hb : inL b) (h0 : b ≠ 0) (h : inL (a.tdiv b)) (hdg : decode cc pc = .ok (.lrem, 1)) (k : W p l e R s m args below meth c H locs cells slots Q (F0 m (pc + 1) ls (.long (iL (a.tmod b)) :: rest))) : W p l e R s m args below meth c H locs cells slots Q (F0 m pc ls (.long (iL b) :: .long (iL a) :: rest)) := lv_lrem S.1 S.2.1 hdg (iL_ne0 hb h0) (by rw [iL_rem ha hb h]; exact k)
theorem z_i2l (S : CallFix p m c cc nL s args Ts own) (ha : inI a) (hdg : decode cc pc = .ok (.i2l, 1)) (k : W p l e R s m args below meth c H locs cells slots Q (F0 m (pc + 1) ls (.long (iL a) :: rest))) : W p l e R s m args below meth c H locs cells slots Q (F0 m pc ls (.int (iI a) :: rest)) := lv_i2l S.1 S.2.1 hdg (i2l_ ha) k
theorem z_l2i (S : CallFix p m c cc nL s args Ts own) (hdg : decode cc pc = .ok (.l2i, 1)) (k : W p l e R s m args below meth c H locs cells slots Q (F0 m (pc + 1) ls (.int (iI a) :: rest))) : W p l e R s m args below meth c H locs cells slots Q (F0 m pc ls (.long (iL a) :: rest)) := lv_l2i S.1 S.2.1 hdg (l2i_ a) k
theorem z_icmp_eq (S : CallFix p m c cc nL s args Ts own) (ha : inI a) (hb : inI b) (hdg : decode cc pc = .ok (.if_icmp .eq off, 3)) (ht : (pc : Int) + off = (tgt : Int)) (kt : a = b → W p l e R s m args below meth c H locs cells slots Q (F0 m tgt ls rest)) (kf : ¬ a = b → W p l e R s m args below meth c H locs cells slots Q (F0 m (pc + 3) ls rest)) : W p l e R s m args below meth c H locs cells slots Q (F0 m pc ls (.int (iI b) :: .int (iI a) :: rest)) := lv_icmp_eq S.1 S.2.1 hdg ht (fun q => kt ((iI_inj ha hb).mp q)) (fun q => kf (fun z => q ((iI_inj ha hb).mpr z)))
theorem z_if_eq (S : CallFix p m c cc nL s args Ts own) (ha : inI a) (hdg : decode cc pc = .ok (.ifCond .eq off, 3)) (ht : (pc : Int) + off = (tgt : Int)) (kt : a = 0 → W p l e R s m args below meth c H locs cells slots Q (F0 m tgt ls rest)) (kf : ¬ a = 0 → W p l e R s m args below meth c H locs cells slots Q (F0 m (pc + 3) ls rest)) : W p l e R s m args below meth c H locs cells slots Q (F0 m pc ls (.int (iI a) :: rest)) := lv_if_eq S.1 S.2.1 hdg ht (fun q => kt ((iI_inj ha (show inI 0 from ⟨by decide, by decide⟩)).mp q)) (fun q => kf (fun z => q ((iI_inj ha (show inI 0 from ⟨by decide, by decide⟩)).mpr z)))
theorem z_icmp_ne (S : CallFix p m c cc nL s args Ts own) (ha : inI a) (hb : inI b) (hdg : decode cc pc = .ok (.if_icmp .ne off, 3)) (ht : (pc : Int) + off = (tgt : Int)) (kt : ¬ a = b → W p l e R s m args below meth c H locs cells slots Q (F0 m tgt ls rest)) (kf : a = b → W p l e R s m args below meth c H locs cells slots Q (F0 m (pc + 3) ls rest)) : W p l e R s m args below meth c H locs cells slots Q (F0 m pc ls (.int (iI b) :: .int (iI a) :: rest)) := lv_icmp_ne S.1 S.2.1 hdg ht (fun q => kt (fun z => q ((iI_inj ha hb).mpr z))) (fun q => kf ((iI_inj ha hb).mp q))
theorem z_if_ne (S : CallFix p m c cc nL s args Ts own) (ha : inI a) (hdg : decode cc pc = .ok (.ifCond .ne off, 3)) (ht : (pc : Int) + off = (tgt : Int)) (kt : ¬ a = 0 → W p l e R s m args below meth c H locs cells slots Q (F0 m tgt ls rest)) (kf : a = 0 → W p l e R s m args below meth c H locs cells slots Q (F0 m (pc + 3) ls rest)) : W p l e R s m args below meth c H locs cells slots Q (F0 m pc ls (.int (iI a) :: rest)) := lv_if_ne S.1 S.2.1 hdg ht (fun q => kt (fun z => q ((iI_inj ha (show inI 0 from ⟨by decide, by decide⟩)).mpr z))) (fun q => kf ((iI_inj ha (show inI 0 from ⟨by decide, by decide⟩)).mp q))
theorem z_icmp_lt (S : CallFix p m c cc nL s args Ts own) (ha : inI a) (hb : inI b) (hdg : decode cc pc = .ok (.if_icmp .lt off, 3)) (ht : (pc : Int) + off = (tgt : Int)) (kt : a < b → W p l e R s m args below meth c H locs cells slots Q (F0 m tgt ls rest)) (kf : b ≤ a → W p l e R s m args below meth c H locs cells slots Q (F0 m (pc + 3) ls rest)) : W p l e R s m args below meth c H locs cells slots Q (F0 m pc ls (.int (iI b) :: .int (iI a) :: rest)) := lv_icmp_lt S.1 S.2.1 hdg ht (fun q => kt ((iI_lt ha hb).mp q)) (fun q => kf (Int.not_lt.mp (fun z => q ((iI_lt ha hb).mpr z))))
theorem z_if_lt (S : CallFix p m c cc nL s args Ts own) (ha : inI a) (hdg : decode cc pc = .ok (.ifCond .lt off, 3)) (ht : (pc : Int) + off = (tgt : Int)) (kt : a < 0 → W p l e R s m args below meth c H locs cells slots Q (F0 m tgt ls rest)) (kf : 0 ≤ a → W p l e R s m args below meth c H locs cells slots Q (F0 m (pc + 3) ls rest)) : W p l e R s m args below meth c H locs cells slots Q (F0 m pc ls (.int (iI a) :: rest)) := lv_if_lt S.1 S.2.1 hdg ht (fun q => kt ((iI_lt ha (show inI 0 from ⟨by decide, by decide⟩)).mp q)) (fun q => kf (Int.not_lt.mp (fun z => q ((iI_lt ha (show inI 0 from ⟨by decide, by decide⟩)).mpr z))))
theorem z_icmp_ge (S : CallFix p m c cc nL s args Ts own) (ha : inI a) (hb : inI b) (hdg : decode cc pc = .ok (.if_icmp .ge off, 3)) (ht : (pc : Int) + off = (tgt : Int)) (kt : b ≤ a → W p l e R s m args below meth c H locs cells slots Q (F0 m tgt ls rest)) (kf : a < b → W p l e R s m args below meth c H locs cells slots Q (F0 m (pc + 3) ls rest)) : W p l e R s m args below meth c H locs cells slots Q (F0 m pc ls (.int (iI b) :: .int (iI a) :: rest)) := lv_icmp_ge S.1 S.2.1 hdg ht (fun q => kt ((iI_le hb ha).mp q)) (fun q => kf (Int.not_le.mp (fun z => q ((iI_le hb ha).mpr z))))
theorem z_if_ge (S : CallFix p m c cc nL s args Ts own) (ha : inI a) (hdg : decode cc pc = .ok (.ifCond .ge off, 3)) (ht : (pc : Int) + off = (tgt : Int)) (kt : 0 ≤ a → W p l e R s m args below meth c H locs cells slots Q (F0 m tgt ls rest)) (kf : a < 0 → W p l e R s m args below meth c H locs cells slots Q (F0 m (pc + 3) ls rest)) : W p l e R s m args below meth c H locs cells slots Q (F0 m pc ls (.int (iI a) :: rest)) := lv_if_ge S.1 S.2.1 hdg ht (fun q => kt ((iI_le (show inI 0 from ⟨by decide, by decide⟩) ha).mp q)) (fun q => kf (Int.not_le.mp (fun z => q ((iI_le (show inI 0 from ⟨by decide, by decide⟩) ha).mpr z))))
theorem z_icmp_gt (S : CallFix p m c cc nL s args Ts own) (ha : inI a) (hb : inI b) (hdg : decode cc pc = .ok (.if_icmp .gt off, 3)) (ht : (pc : Int) + off = (tgt : Int)) (kt : b < a → W p l e R s m args below meth c H locs cells slots Q (F0 m tgt ls rest)) (kf : a ≤ b → W p l e R s m args below meth c H locs cells slots Q (F0 m (pc + 3) ls rest)) : W p l e R s m args below meth c H locs cells slots Q (F0 m pc ls (.int (iI b) :: .int (iI a) :: rest)) := lv_icmp_gt S.1 S.2.1 hdg ht (fun q => kt ((iI_lt hb ha).mp q)) (fun q => kf (Int.not_lt.mp (fun z => q ((iI_lt hb ha).mpr z))))
theorem z_if_gt (S : CallFix p m c cc nL s args Ts own) (ha : inI a) (hdg : decode cc pc = .ok (.ifCond .gt off, 3)) (ht : (pc : Int) + off = (tgt : Int)) (kt : 0 < a → W p l e R s m args below meth c H locs cells slots Q (F0 m tgt ls rest)) (kf : a ≤ 0 → W p l e R s m args below meth c H locs cells slots Q (F0 m (pc + 3) ls rest)) : W p l e R s m args below meth c H locs cells slots Q (F0 m pc ls (.int (iI a) :: rest)) := lv_if_gt S.1 S.2.1 hdg ht (fun q => kt ((iI_lt (show inI 0 from ⟨by decide, by decide⟩) ha).mp q)) (fun q => kf (Int.not_lt.mp (fun z => q ((iI_lt (show inI 0 from ⟨by decide, by decide⟩) ha).mpr z))))
theorem z_icmp_le (S : CallFix p m c cc nL s args Ts own) (ha : inI a) (hb : inI b) (hdg : decode cc pc = .ok (.if_icmp .le off, 3)) (ht : (pc : Int) + off = (tgt : Int)) (kt : a ≤ b → W p l e R s m args below meth c H locs cells slots Q (F0 m tgt ls rest)) (kf : b < a → W p l e R s m args below meth c H locs cells slots Q (F0 m (pc + 3) ls rest)) : W p l e R s m args below meth c H locs cells slots Q (F0 m pc ls (.int (iI b) :: .int (iI a) :: rest)) := lv_icmp_le S.1 S.2.1 hdg ht (fun q => kt ((iI_le ha hb).mp q)) (fun q => kf (Int.not_le.mp (fun z => q ((iI_le ha hb).mpr z))))
theorem z_if_le (S : CallFix p m c cc nL s args Ts own) (ha : inI a) (hdg : decode cc pc = .ok (.ifCond .le off, 3)) (ht : (pc : Int) + off = (tgt : Int)) (kt : a ≤ 0 → W p l e R s m args below meth c H locs cells slots Q (F0 m tgt ls rest)) (kf : 0 < a → W p l e R s m args below meth c H locs cells slots Q (F0 m (pc + 3) ls rest)) : W p l e R s m args below meth c H locs cells slots Q (F0 m pc ls (.int (iI a) :: rest)) := lv_if_le S.1 S.2.1 hdg ht (fun q => kt ((iI_le ha (show inI 0 from ⟨by decide, by decide⟩)).mp q)) (fun q => kf (Int.not_le.mp (fun z => q ((iI_le ha (show inI 0 from ⟨by decide, by decide⟩)).mpr z))))
theorem z_ifeq_b (S : CallFix p m c cc nL s args Ts own) {P : Prop} [Decidable P] (hdg : decode cc pc = .ok (.ifCond .eq off, 3)) (ht : (pc : Int) + off = (tgt : Int)) (kt : ¬ P → W p l e R s m args below meth c H locs cells slots Q (F0 m tgt ls rest)) (kf : P → W p l e R s m args below meth c H locs cells slots Q (F0 m (pc + 3) ls rest)) : W p l e R s m args below meth c H locs cells slots Q (F0 m pc ls (.int (iI (bI P)) :: rest)) := by
  by_cases h : P
  · rw [bI_t h]; exact z_if_eq S (by omega) hdg ht (fun q => absurd q (by decide)) (fun _ => kf h)
  · rw [bI_f h]; exact z_if_eq S (by omega) hdg ht (fun _ => kt h) (fun q => absurd rfl q)
theorem z_ifne_b (S : CallFix p m c cc nL s args Ts own) {P : Prop} [Decidable P] (hdg : decode cc pc = .ok (.ifCond .ne off, 3)) (ht : (pc : Int) + off = (tgt : Int)) (kt : P → W p l e R s m args below meth c H locs cells slots Q (F0 m tgt ls rest)) (kf : ¬ P → W p l e R s m args below meth c H locs cells slots Q (F0 m (pc + 3) ls rest)) : W p l e R s m args below meth c H locs cells slots Q (F0 m pc ls (.int (iI (bI P)) :: rest)) := by
  by_cases h : P
  · rw [bI_t h]; exact z_if_ne S (by omega) hdg ht (fun _ => kt h) (fun q => absurd q (by decide))
  · rw [bI_f h]; exact z_if_ne S (by omega) hdg ht (fun q => absurd rfl q) (fun _ => kf h)
theorem cmp_lt {a b : Int} (ha : inL a) (hb : inL b) (h : a < b) : lg_cmp (iL a) (iL b) = iI (-1) := by
  have h1 : ¬ iL b < iL a := fun q => by have := (iL_lt hb ha).mp q; omega
  have h2 : ¬ iL a = iL b := fun q => by have := (iL_inj ha hb).mp q; omega
  simp only [lg_cmp, h1, h2, if_false]
  rfl
theorem cmp_eq {a b : Int} (h : a = b) : lg_cmp (iL a) (iL b) = iI 0 := by
  subst h
  have h1 : ¬ iL a < iL a := Int64.lt_irrefl
  simp only [lg_cmp, h1, if_false, if_true]
  rfl
theorem cmp_gt {a b : Int} (ha : inL a) (hb : inL b) (h : b < a) : lg_cmp (iL a) (iL b) = iI 1 := by
  have h1 : iL b < iL a := (iL_lt hb ha).mpr h
  simp only [lg_cmp, h1, if_true]
  rfl
theorem z_lc_eq (S : CallFix p m c cc nL s args Ts own) (ha : inL a) (hb : inL b) (hd1 : decode cc pc = .ok (.lcmp, 1)) (hdg : decode cc (pc + 1) = .ok (.ifCond .eq off, 3)) (ht : ((pc + 1 : Nat) : Int) + off = (tgt : Int)) (kt : a = b → W p l e R s m args below meth c H locs cells slots Q (F0 m tgt ls rest)) (kf : ¬ a = b → W p l e R s m args below meth c H locs cells slots Q (F0 m (pc + 4) ls rest)) : W p l e R s m args below meth c H locs cells slots Q (F0 m pc ls (.long (iL b) :: .long (iL a) :: rest)) := by
  refine W.lcmp S.1 S.2.1 hd1 ?_
  have kt' : a = b → W p l e R s m args below meth c H locs cells slots Q (F0 m tgt ls rest) := kt
  have kf' : ¬ a = b → W p l e R s m args below meth c H locs cells slots Q (F0 m (pc + 1 + 3) ls rest) := kf
  rcases Int.lt_trichotomy a b with h | h | h
  · rw [cmp_lt ha hb h]
    exact z_if_eq S (by omega) hdg ht (fun q => kt' (by omega)) (fun q => kf' (by omega))
  · rw [cmp_eq h]
    exact z_if_eq S (by omega) hdg ht (fun q => kt' (by omega)) (fun q => kf' (by omega))
  · rw [cmp_gt ha hb h]
    exact z_if_eq S (by omega) hdg ht (fun q => kt' (by omega)) (fun q => kf' (by omega))
theorem z_lc_ne (S : CallFix p m c cc nL s args Ts own) (ha : inL a) (hb : inL b) (hd1 : decode cc pc = .ok (.lcmp, 1)) (hdg : decode cc (pc + 1) = .ok (.ifCond .ne off, 3)) (ht : ((pc + 1 : Nat) : Int) + off = (tgt : Int)) (kt : ¬ a = b → W p l e R s m args below meth c H locs cells slots Q (F0 m tgt ls rest)) (kf : a = b → W p l e R s m args below meth c H locs cells slots Q (F0 m (pc + 4) ls rest)) : W p l e R s m args below meth c H locs cells slots Q (F0 m pc ls (.long (iL b) :: .long (iL a) :: rest)) := by
  refine W.lcmp S.1 S.2.1 hd1 ?_
  have kt' : ¬ a = b → W p l e R s m args below meth c H locs cells slots Q (F0 m tgt ls rest) := kt
  have kf' : a = b → W p l e R s m args below meth c H locs cells slots Q (F0 m (pc + 1 + 3) ls rest) := kf
  rcases Int.lt_trichotomy a b with h | h | h
  · rw [cmp_lt ha hb h]
    exact z_if_ne S (by omega) hdg ht (fun q => kt' (by omega)) (fun q => kf' (by omega))
  · rw [cmp_eq h]
    exact z_if_ne S (by omega) hdg ht (fun q => kt' (by omega)) (fun q => kf' (by omega))
  · rw [cmp_gt ha hb h]
    exact z_if_ne S (by omega) hdg ht (fun q => kt' (by omega)) (fun q => kf' (by omega))
theorem z_lc_lt (S : CallFix p m c cc nL s args Ts own) (ha : inL a) (hb : inL b) (hd1 : decode cc pc = .ok (.lcmp, 1)) (hdg : decode cc (pc + 1) = .ok (.ifCond .lt off, 3)) (ht : ((pc + 1 : Nat) : Int) + off = (tgt : Int)) (kt : a < b → W p l e R s m args below meth c H locs cells slots Q (F0 m tgt ls rest)) (kf : b ≤ a → W p l e R s m args below meth c H locs cells slots Q (F0 m (pc + 4) ls rest)) : W p l e R s m args below meth c H locs cells slots Q (F0 m pc ls (.long (iL b) :: .long (iL a) :: rest)) := by
  refine W.lcmp S.1 S.2.1 hd1 ?_
  have kt' : a < b → W p l e R s m args below meth c H locs cells slots Q (F0 m tgt ls rest) := kt
  have kf' : b ≤ a → W p l e R s m args below meth c H locs cells slots Q (F0 m (pc + 1 + 3) ls rest) := kf
  rcases Int.lt_trichotomy a b with h | h | h
  · rw [cmp_lt ha hb h]
    exact z_if_lt S (by omega) hdg ht (fun q => kt' (by omega)) (fun q => kf' (by omega))
  · rw [cmp_eq h]
    exact z_if_lt S (by omega) hdg ht (fun q => kt' (by omega)) (fun q => kf' (by omega))
  · rw [cmp_gt ha hb h]
    exact z_if_lt S (by omega) hdg ht (fun q => kt' (by omega)) (fun q => kf' (by omega))
theorem z_lc_ge (S : CallFix p m c cc nL s args Ts own) (ha : inL a) (hb : inL b) (hd1 : decode cc pc = .ok (.lcmp, 1)) (hdg : decode cc (pc + 1) = .ok (.ifCond .ge off, 3)) (ht : ((pc + 1 : Nat) : Int) + off = (tgt : Int)) (kt : b ≤ a → W p l e R s m args below meth c H locs cells slots Q (F0 m tgt ls rest)) (kf : a < b → W p l e R s m args below meth c H locs cells slots Q (F0 m (pc + 4) ls rest)) : W p l e R s m args below meth c H locs cells slots Q (F0 m pc ls (.long (iL b) :: .long (iL a) :: rest)) := by
  refine W.lcmp S.1 S.2.1 hd1 ?_
  have kt' : b ≤ a → W p l e R s m args below meth c H locs cells slots Q (F0 m tgt ls rest) := kt
  have kf' : a < b → W p l e R s m args below meth c H locs cells slots Q (F0 m (pc + 1 + 3) ls rest) := kf
  rcases Int.lt_trichotomy a b with h | h | h
  · rw [cmp_lt ha hb h]
    exact z_if_ge S (by omega) hdg ht (fun q => kt' (by omega)) (fun q => kf' (by omega))
  · rw [cmp_eq h]
    exact z_if_ge S (by omega) hdg ht (fun q => kt' (by omega)) (fun q => kf' (by omega))
  · rw [cmp_gt ha hb h]
    exact z_if_ge S (by omega) hdg ht (fun q => kt' (by omega)) (fun q => kf' (by omega))
theorem z_lc_gt (S : CallFix p m c cc nL s args Ts own) (ha : inL a) (hb : inL b) (hd1 : decode cc pc = .ok (.lcmp, 1)) (hdg : decode cc (pc + 1) = .ok (.ifCond .gt off, 3)) (ht : ((pc + 1 : Nat) : Int) + off = (tgt : Int)) (kt : b < a → W p l e R s m args below meth c H locs cells slots Q (F0 m tgt ls rest)) (kf : a ≤ b → W p l e R s m args below meth c H locs cells slots Q (F0 m (pc + 4) ls rest)) : W p l e R s m args below meth c H locs cells slots Q (F0 m pc ls (.long (iL b) :: .long (iL a) :: rest)) := by
  refine W.lcmp S.1 S.2.1 hd1 ?_
  have kt' : b < a → W p l e R s m args below meth c H locs cells slots Q (F0 m tgt ls rest) := kt
  have kf' : a ≤ b → W p l e R s m args below meth c H locs cells slots Q (F0 m (pc + 1 + 3) ls rest) := kf
  rcases Int.lt_trichotomy a b with h | h | h
  · rw [cmp_lt ha hb h]
    exact z_if_gt S (by omega) hdg ht (fun q => kt' (by omega)) (fun q => kf' (by omega))
  · rw [cmp_eq h]
    exact z_if_gt S (by omega) hdg ht (fun q => kt' (by omega)) (fun q => kf' (by omega))
  · rw [cmp_gt ha hb h]
    exact z_if_gt S (by omega) hdg ht (fun q => kt' (by omega)) (fun q => kf' (by omega))
theorem z_lc_le (S : CallFix p m c cc nL s args Ts own) (ha : inL a) (hb : inL b) (hd1 : decode cc pc = .ok (.lcmp, 1)) (hdg : decode cc (pc + 1) = .ok (.ifCond .le off, 3)) (ht : ((pc + 1 : Nat) : Int) + off = (tgt : Int)) (kt : a ≤ b → W p l e R s m args below meth c H locs cells slots Q (F0 m tgt ls rest)) (kf : b < a → W p l e R s m args below meth c H locs cells slots Q (F0 m (pc + 4) ls rest)) : W p l e R s m args below meth c H locs cells slots Q (F0 m pc ls (.long (iL b) :: .long (iL a) :: rest)) := by
  refine W.lcmp S.1 S.2.1 hd1 ?_
  have kt' : a ≤ b → W p l e R s m args below meth c H locs cells slots Q (F0 m tgt ls rest) := kt
  have kf' : b < a → W p l e R s m args below meth c H locs cells slots Q (F0 m (pc + 1 + 3) ls rest) := kf
  rcases Int.lt_trichotomy a b with h | h | h
  · rw [cmp_lt ha hb h]
    exact z_if_le S (by omega) hdg ht (fun q => kt' (by omega)) (fun q => kf' (by omega))
  · rw [cmp_eq h]
    exact z_if_le S (by omega) hdg ht (fun q => kt' (by omega)) (fun q => kf' (by omega))
  · rw [cmp_gt ha hb h]
    exact z_if_le S (by omega) hdg ht (fun q => kt' (by omega)) (fun q => kf' (by omega))
theorem z_get (S : CallFix p m c cc nL s args Ts own) (B : bw E A s H locs ws) {C ref n d : String} {T : u_T} {N ci index ad : Nat} (hin : ∀ w ∈ u_ws C T N, w ∈ Ts) (q0 : Nat) {fs : List Value} (he : ws[q0]? = some (ad, .inr (ci, fs))) (hc : vwCl[ci]? = some (C, T, N)) (k : Nat) (hk : k < N) {v : Value} (hv : fs[k]? = some v) (hT : T k = (ref, n, d, (T k).2.2.2)) (hlink : Cond.fieldLink own index ref n d ∈ Ts) (hdg : decode cc pc = .ok (.getfield index, 3)) (kk : W p l e R s m args below meth c H locs cells slots Q (F0 m (pc + 3) ls (v :: rest))) : W p l e R s m args below meth c H locs cells slots Q (F0 m pc ls (.ref ad :: rest)) := by
  have e1 : (T k).1 = ref := by rw [hT]
  have e2 : (T k).2.1 = n := by rw [hT]
  have e3 : (T k).2.2.1 = d := by rw [hT]
  exact va_get S.1 S.2.1 S.2.2.2.2 hin S.2.2.2.1 B.1 B.2.1 q0 he hc k hk (by rw [e2, e3]; exact S.2.2.2.2 _ hlink) (ref := ref) (fun x hx => by rw [e1] at hx; exact hx) hv hdg kk
theorem z_put (S : CallFix p m c cc nL s args Ts own) (B : bw E A s H locs ws) {C ref n d : String} {T : u_T} {N ci index ad : Nat} (hin : ∀ w ∈ u_ws C T N, w ∈ Ts) {ty0 : Nat → FieldType} (hty : ∀ k, k < N → parseFieldDescriptor (T k).2.2.1 = some (ty0 k)) (hnm : ∀ a, a < N → ∀ b, b < N → a ≠ b → (T a).2.1 ≠ (T b).2.1) (q0 : Nat) {fs : List Value} (he : ws[q0]? = some (ad, .inr (ci, fs))) (hc : vwCl[ci]? = some (C, T, N)) (k : Nat) (hk : k < N) (hT : T k = (ref, n, d, false)) (hlink : Cond.fieldLink own index ref n d ∈ Ts) {ty : FieldType} {v : Value} (hd : parseFieldDescriptor d = some ty) (hn : narrow ty v = v) (hfit : fits ty v = true) (hl : k < fs.length) (hdg : decode cc pc = .ok (.putfield index, 3)) {wn : va_W} (hw : ws.set q0 (ad, .inr (ci, fs.set k v)) = wn) (kk : ∀ (H1 : Heap) (locs1 : List Loc), bw E A s H1 locs1 wn → W p l e R s m args below meth c H1 locs1 cells slots Q (F0 m (pc + 3) ls rest)) : W p l e R s m args below meth c H locs cells slots Q (F0 m pc ls (v :: .ref ad :: rest)) := by
  have e1 : (T k).1 = ref := by rw [hT]
  have e2 : (T k).2.1 = n := by rw [hT]
  have e3 : (T k).2.2.1 = d := by rw [hT]
  subst hw
  exact va_put S.1 S.2.1 S.2.2.2.2 hin ty0 hty hnm S.2.2.2.1 B.1 B.2.1 B.2.2.1 B.2.2.2.1 q0 he hc k hk (by rw [e2, e3]; exact S.2.2.2.2 _ hlink) (ref := ref) (fun x hx => by rw [e1] at hx; exact hx) (by rw [hT]) (by rw [e3]; exact hd) hn hfit hl hdg (fun H1 locs1 h1 h2 h3 => kk H1 locs1 ⟨B.1, h1, h2, h3, B.2.2.2.2⟩)
theorem z_putF (S : CallFix p m c cc nL s args Ts own) (B : bw E A s H locs ws) {C ref n d : String} {T : u_T} {N ci index ad : Nat} (hin : ∀ w ∈ u_ws C T N, w ∈ Ts) {ty0 : Nat → FieldType} (hty : ∀ k, k < N → parseFieldDescriptor (T k).2.2.1 = some (ty0 k)) (hnm : ∀ a, a < N → ∀ b, b < N → a ≠ b → (T a).2.1 ≠ (T b).2.1) (q0 : Nat) {fs : List Value} (he : ws[q0]? = some (ad, .inr (ci, fs))) (hc : vwCl[ci]? = some (C, T, N)) (k : Nat) (hk : k < N) (hT : T k = (ref, n, d, true)) (hin2 : meth.name = "<init>") (hdc : ref = own) (hlink : Cond.fieldLink own index ref n d ∈ Ts) {ty : FieldType} {v : Value} (hd : parseFieldDescriptor d = some ty) (hn : narrow ty v = v) (hfit : fits ty v = true) (hl : k < fs.length) (hdg : decode cc pc = .ok (.putfield index, 3)) {wn : va_W} (hw : ws.set q0 (ad, .inr (ci, fs.set k v)) = wn) (kk : ∀ (H1 : Heap) (locs1 : List Loc), bw E A s H1 locs1 wn → W p l e R s m args below meth c H1 locs1 cells slots Q (F0 m (pc + 3) ls rest)) : W p l e R s m args below meth c H locs cells slots Q (F0 m pc ls (v :: .ref ad :: rest)) := by
  have e1 : (T k).1 = ref := by rw [hT]
  have e2 : (T k).2.1 = n := by rw [hT]
  have e3 : (T k).2.2.1 = d := by rw [hT]
  subst hw
  exact va_putF S.1 S.2.1 S.2.2.2.2 hin ty0 hty hnm S.2.2.2.1 B.1 B.2.1 B.2.2.1 B.2.2.2.1 q0 he hc k hk (by rw [e2, e3]; exact S.2.2.2.2 _ hlink) (ref := ref) (fun x hx => by rw [e1] at hx; exact hx) (by rw [hT]) hin2 (by rw [e1]; exact hdc) (by rw [e3]; exact hd) hn hfit hl hdg (fun H1 locs1 h1 h2 h3 => kk H1 locs1 ⟨B.1, h1, h2, h3, B.2.2.2.2⟩)
theorem z_lald (S : CallFix p m c cc nL s args Ts own) (B : bw E A s H locs ws) {ad : Nat} (q0 t0 : Nat) {cA : ClassId} {n : Nat} {f : Nat → Int64} (ha : ws[q0]? = some (ad, .inl (cA, n, .inr (.inl f)))) (ht : (TY E)[t0]? = some (cA, .long)) {x : Int} {k : Nat} (hx : x = (k : Int)) (hk : k < n) (hn : n < 2147483648) {v : Value} (hv : .long (f k) = v) (hdg : decode cc pc = .ok (.laload, 1)) (kk : W p l e R s m args below meth c H locs cells slots Q (F0 m (pc + 1) ls (v :: rest))) : W p l e R s m args below meth c H locs cells slots Q (F0 m pc ls (.int (iI x) :: .ref ad :: rest)) := by
  subst hv
  refine va_lald S.1 S.2.1 B.1 B.2.1 q0 t0 ha ht (iI_vp hx hk hn) hdg ?_
  rw [iI_nat hx (by omega)]
  exact kk
theorem z_iald (S : CallFix p m c cc nL s args Ts own) (B : bw E A s H locs ws) {ad : Nat} (q0 t0 : Nat) {cA : ClassId} {n : Nat} {f : Nat → Int32} (ha : ws[q0]? = some (ad, .inl (cA, n, .inl f))) (ht : (TY E)[t0]? = some (cA, .int)) {x : Int} {k : Nat} (hx : x = (k : Int)) (hk : k < n) (hn : n < 2147483648) {v : Value} (hv : .int (f k) = v) (hdg : decode cc pc = .ok (.iaload, 1)) (kk : W p l e R s m args below meth c H locs cells slots Q (F0 m (pc + 1) ls (v :: rest))) : W p l e R s m args below meth c H locs cells slots Q (F0 m pc ls (.int (iI x) :: .ref ad :: rest)) := by
  subst hv
  refine va_iald S.1 S.2.1 B.1 B.2.1 q0 t0 ha ht (iI_vp hx hk hn) hdg ?_
  rw [iI_nat hx (by omega)]
  exact kk
theorem z_zald (S : CallFix p m c cc nL s args Ts own) (B : bw E A s H locs ws) {ad : Nat} (q0 t0 : Nat) {cA : ClassId} {n : Nat} {f : Nat → Int32} (ha : ws[q0]? = some (ad, .inl (cA, n, .inl f))) (ht : (TY E)[t0]? = some (cA, .boolean)) {x : Int} {k : Nat} (hx : x = (k : Int)) (hk : k < n) (hn : n < 2147483648) {v : Value} (hv : .int (f k) = v) (hdg : decode cc pc = .ok (.baload, 1)) (kk : W p l e R s m args below meth c H locs cells slots Q (F0 m (pc + 1) ls (v :: rest))) : W p l e R s m args below meth c H locs cells slots Q (F0 m pc ls (.int (iI x) :: .ref ad :: rest)) := by
  subst hv
  refine va_zald S.1 S.2.1 B.1 B.2.1 q0 t0 ha ht (iI_vp hx hk hn) hdg ?_
  rw [iI_nat hx (by omega)]
  exact kk
theorem z_cald (S : CallFix p m c cc nL s args Ts own) (B : bw E A s H locs ws) {ad : Nat} (q0 t0 : Nat) {cA : ClassId} {n : Nat} {f : Nat → Int32} (ha : ws[q0]? = some (ad, .inl (cA, n, .inl f))) (ht : (TY E)[t0]? = some (cA, .char)) {x : Int} {k : Nat} (hx : x = (k : Int)) (hk : k < n) (hn : n < 2147483648) {v : Value} (hv : .int (f k) = v) (hdg : decode cc pc = .ok (.caload, 1)) (kk : W p l e R s m args below meth c H locs cells slots Q (F0 m (pc + 1) ls (v :: rest))) : W p l e R s m args below meth c H locs cells slots Q (F0 m pc ls (.int (iI x) :: .ref ad :: rest)) := by
  subst hv
  refine va_cald S.1 S.2.1 B.1 B.2.1 q0 t0 ha ht (iI_vp hx hk hn) hdg ?_
  rw [iI_nat hx (by omega)]
  exact kk
theorem z_aald (S : CallFix p m c cc nL s args Ts own) (B : bw E A s H locs ws) {ad : Nat} (q0 t0 : Nat) {cA : ClassId} {C : String} {n : Nat} {f : Nat → Option Nat} (ha : ws[q0]? = some (ad, .inl (cA, n, .inr (.inr (.inr (.inr f)))))) (ht : (TY E)[t0]? = some (cA, .object C)) {x : Int} {k : Nat} (hx : x = (k : Int)) (hk : k < n) (hn : n < 2147483648) {v : Value} (hv : va_rf (f k) = v) (hdg : decode cc pc = .ok (.aaload, 1)) (kk : W p l e R s m args below meth c H locs cells slots Q (F0 m (pc + 1) ls (v :: rest))) : W p l e R s m args below meth c H locs cells slots Q (F0 m pc ls (.int (iI x) :: .ref ad :: rest)) := by
  subst hv
  refine va_aldq S.1 S.2.1 B.1 B.2.1 q0 t0 ha ht (iI_vp hx hk hn) hdg ?_
  rw [iI_nat hx (by omega)]
  exact kk
theorem z_last (S : CallFix p m c cc nL s args Ts own) (B : bw E A s H locs ws) {ad : Nat} (q0 t0 : Nat) {cA : ClassId} {n : Nat} {f : Nat → Int64} {y : Int64} (ha : ws[q0]? = some (ad, .inl (cA, n, .inr (.inl f)))) (ht : (TY E)[t0]? = some (cA, .long)) {x : Int} {k : Nat} (hx : x = (k : Int)) (hk : k < n) (hn : n < 2147483648)  (hdg : decode cc pc = .ok (.lastore, 1)) {wn : va_W} (hw : ws.set q0 (ad, .inl (cA, n, .inr (.inl (vp_updL f k y)))) = wn) (kk : ∀ (H1 : Heap) (locs1 : List Loc), bw E A s H1 locs1 wn → W p l e R s m args below meth c H1 locs1 cells slots Q (F0 m (pc + 1) ls rest)) : W p l e R s m args below meth c H locs cells slots Q (F0 m pc ls (.long y :: .int (iI x) :: .ref ad :: rest)) := by
  subst hw
  refine va_last S.1 S.2.1 B.1 B.2.1 B.2.2.1 B.2.2.2.1 q0 t0 ha ht (iI_vp hx hk hn) hdg (fun H1 locs1 h1 h2 h3 => ?_)
  rw [iI_nat hx (by omega)] at h1 h2
  exact kk H1 locs1 ⟨B.1, h1, h2, h3, B.2.2.2.2⟩
theorem z_iast (S : CallFix p m c cc nL s args Ts own) (B : bw E A s H locs ws) {ad : Nat} (q0 t0 : Nat) {cA : ClassId} {n : Nat} {f : Nat → Int32} {y : Int32} (ha : ws[q0]? = some (ad, .inl (cA, n, .inl f))) (ht : (TY E)[t0]? = some (cA, .int)) {x : Int} {k : Nat} (hx : x = (k : Int)) (hk : k < n) (hn : n < 2147483648)  (hdg : decode cc pc = .ok (.iastore, 1)) {wn : va_W} (hw : ws.set q0 (ad, .inl (cA, n, .inl (upd f k y))) = wn) (kk : ∀ (H1 : Heap) (locs1 : List Loc), bw E A s H1 locs1 wn → W p l e R s m args below meth c H1 locs1 cells slots Q (F0 m (pc + 1) ls rest)) : W p l e R s m args below meth c H locs cells slots Q (F0 m pc ls (.int y :: .int (iI x) :: .ref ad :: rest)) := by
  subst hw
  refine va_iast S.1 S.2.1 B.1 B.2.1 B.2.2.1 B.2.2.2.1 q0 t0 ha ht (iI_vp hx hk hn) hdg (fun H1 locs1 h1 h2 h3 => ?_)
  rw [iI_nat hx (by omega)] at h1 h2
  exact kk H1 locs1 ⟨B.1, h1, h2, h3, B.2.2.2.2⟩
theorem z_zast (S : CallFix p m c cc nL s args Ts own) (B : bw E A s H locs ws) {ad : Nat} (q0 t0 : Nat) {cA : ClassId} {n : Nat} {f : Nat → Int32} {y : Int32} (ha : ws[q0]? = some (ad, .inl (cA, n, .inl f))) (ht : (TY E)[t0]? = some (cA, .boolean)) {x : Int} {k : Nat} (hx : x = (k : Int)) (hk : k < n) (hn : n < 2147483648) (hnar : vp_nar .boolean y = y) (hdg : decode cc pc = .ok (.bastore, 1)) {wn : va_W} (hw : ws.set q0 (ad, .inl (cA, n, .inl (upd f k y))) = wn) (kk : ∀ (H1 : Heap) (locs1 : List Loc), bw E A s H1 locs1 wn → W p l e R s m args below meth c H1 locs1 cells slots Q (F0 m (pc + 1) ls rest)) : W p l e R s m args below meth c H locs cells slots Q (F0 m pc ls (.int y :: .int (iI x) :: .ref ad :: rest)) := by
  subst hw
  refine va_zast S.1 S.2.1 B.1 B.2.1 B.2.2.1 B.2.2.2.1 q0 t0 ha ht (iI_vp hx hk hn) hdg (fun H1 locs1 h1 h2 h3 => ?_)
  rw [iI_nat hx (by omega)] at h1 h2
  rw [hnar] at h1 h2
  exact kk H1 locs1 ⟨B.1, h1, h2, h3, B.2.2.2.2⟩
theorem z_cast (S : CallFix p m c cc nL s args Ts own) (B : bw E A s H locs ws) {ad : Nat} (q0 t0 : Nat) {cA : ClassId} {n : Nat} {f : Nat → Int32} {y : Int32} (ha : ws[q0]? = some (ad, .inl (cA, n, .inl f))) (ht : (TY E)[t0]? = some (cA, .char)) {x : Int} {k : Nat} (hx : x = (k : Int)) (hk : k < n) (hn : n < 2147483648) (hnar : vp_nar .char y = y) (hdg : decode cc pc = .ok (.castore, 1)) {wn : va_W} (hw : ws.set q0 (ad, .inl (cA, n, .inl (upd f k y))) = wn) (kk : ∀ (H1 : Heap) (locs1 : List Loc), bw E A s H1 locs1 wn → W p l e R s m args below meth c H1 locs1 cells slots Q (F0 m (pc + 1) ls rest)) : W p l e R s m args below meth c H locs cells slots Q (F0 m pc ls (.int y :: .int (iI x) :: .ref ad :: rest)) := by
  subst hw
  refine va_cast S.1 S.2.1 B.1 B.2.1 B.2.2.1 B.2.2.2.1 q0 t0 ha ht (iI_vp hx hk hn) hdg (fun H1 locs1 h1 h2 h3 => ?_)
  rw [iI_nat hx (by omega)] at h1 h2
  rw [hnar] at h1 h2
  exact kk H1 locs1 ⟨B.1, h1, h2, h3, B.2.2.2.2⟩
theorem z_alen (S : CallFix p m c cc nL s args Ts own) (B : bw E A s H locs ws) {ad : Nat} (q0 t0 : Nat) {cA : ClassId} {x : vp_A} (ha : ws[q0]? = some (ad, .inl (cA, x))) {ty : FieldType} (ht : (TY E)[t0]? = some (cA, ty)) {n : Int} (hn : (x.1 : Int) = n) (hdg : decode cc pc = .ok (.arraylength, 1)) (kk : W p l e R s m args below meth c H locs cells slots Q (F0 m (pc + 1) ls (.int (iI n) :: rest))) : W p l e R s m args below meth c H locs cells slots Q (F0 m pc ls (.ref ad :: rest)) := by
  subst hn
  exact va_alen S.1 S.2.1 B.1 B.2.1 q0 t0 ha ht (v := iI (x.1 : Int)) (Int32.ofInt_eq_ofNat.symm) hdg kk
theorem z_gs0 (S : CallFix p m c cc nL s args Ts own) (B : bw E A s H locs ws) {index : Nat} (hlink : Cond.fieldLink own index RX7 "GAINS" "[I" ∈ Ts) (hdg : decode cc pc = .ok (.getstatic index, 3)) (kk : W p l e R s m args below meth c H locs cells slots Q (F0 m (pc + 3) ls (.ref (E.2.2 0) :: rest))) : W p l e R s m args below meth c H locs cells slots Q (F0 m pc ls rest) := va_gets S.1 S.2.1 (B.2.2.2.2.2.2.2.2.2.1) B.2.2.2.1 S.2.2.2.1 (S.2.2.2.2 _ hlink) (fun _ h => h) hdg kk
theorem z_tl0 (S : CallFix p m c cc nL s args Ts own) (B : bw E A s H locs ws) {x : Int} {k : Nat} (hx : x = (k : Int)) (hk : k < 4) {y : Int} (hv : tG k = y) (hdg : decode cc pc = .ok (.iaload, 1)) (kk : W p l e R s m args below meth c H locs cells slots Q (F0 m (pc + 1) ls (.int (iI y) :: rest))) : W p l e R s m args below meth c H locs cells slots Q (F0 m pc ls (.int (iI x) :: .ref (E.2.2 0) :: rest)) := va_ti S.1 S.2.1 (B.2.2.2.2.2.2.2.2.2.2.1) B.2.2.2.1 (iI_vp hx hk (by omega)) (v := .int (iI y)) (by rw [iI_nat hx (by omega), hv]) hdg kk
theorem z_tn0 (S : CallFix p m c cc nL s args Ts own) (B : bw E A s H locs ws) (hdg : decode cc pc = .ok (.arraylength, 1)) (kk : W p l e R s m args below meth c H locs cells slots Q (F0 m (pc + 1) ls (.int (iI 4) :: rest))) : W p l e R s m args below meth c H locs cells slots Q (F0 m pc ls (.ref (E.2.2 0) :: rest)) := va_tlen S.1 S.2.1 (B.2.2.2.2.2.2.2.2.2.2.1) B.2.2.2.1 (v := iI 4) rfl hdg kk
theorem z_gs1 (S : CallFix p m c cc nL s args Ts own) (B : bw E A s H locs ws) {index : Nat} (hlink : Cond.fieldLink own index RX7 "LEAST_SETTINGS" "[I" ∈ Ts) (hdg : decode cc pc = .ok (.getstatic index, 3)) (kk : W p l e R s m args below meth c H locs cells slots Q (F0 m (pc + 3) ls (.ref (E.2.2 1) :: rest))) : W p l e R s m args below meth c H locs cells slots Q (F0 m pc ls rest) := va_gets S.1 S.2.1 (B.2.2.2.2.2.2.2.2.2.2.2.1) B.2.2.2.1 S.2.2.2.1 (S.2.2.2.2 _ hlink) (fun _ h => h) hdg kk
theorem z_tl1 (S : CallFix p m c cc nL s args Ts own) (B : bw E A s H locs ws) {x : Int} {k : Nat} (hx : x = (k : Int)) (hk : k < 6) {y : Int} (hv : tLo k = y) (hdg : decode cc pc = .ok (.iaload, 1)) (kk : W p l e R s m args below meth c H locs cells slots Q (F0 m (pc + 1) ls (.int (iI y) :: rest))) : W p l e R s m args below meth c H locs cells slots Q (F0 m pc ls (.int (iI x) :: .ref (E.2.2 1) :: rest)) := va_ti S.1 S.2.1 (B.2.2.2.2.2.2.2.2.2.2.2.2.1) B.2.2.2.1 (iI_vp hx hk (by omega)) (v := .int (iI y)) (by rw [iI_nat hx (by omega), hv]) hdg kk
theorem z_tn1 (S : CallFix p m c cc nL s args Ts own) (B : bw E A s H locs ws) (hdg : decode cc pc = .ok (.arraylength, 1)) (kk : W p l e R s m args below meth c H locs cells slots Q (F0 m (pc + 1) ls (.int (iI 6) :: rest))) : W p l e R s m args below meth c H locs cells slots Q (F0 m pc ls (.ref (E.2.2 1) :: rest)) := va_tlen S.1 S.2.1 (B.2.2.2.2.2.2.2.2.2.2.2.2.1) B.2.2.2.1 (v := iI 6) rfl hdg kk
theorem z_gs2 (S : CallFix p m c cc nL s args Ts own) (B : bw E A s H locs ws) {index : Nat} (hlink : Cond.fieldLink own index RX7 "MOST_SETTINGS" "[I" ∈ Ts) (hdg : decode cc pc = .ok (.getstatic index, 3)) (kk : W p l e R s m args below meth c H locs cells slots Q (F0 m (pc + 3) ls (.ref (E.2.2 2) :: rest))) : W p l e R s m args below meth c H locs cells slots Q (F0 m pc ls rest) := va_gets S.1 S.2.1 (B.2.2.2.2.2.2.2.2.2.2.2.2.2.1) B.2.2.2.1 S.2.2.2.1 (S.2.2.2.2 _ hlink) (fun _ h => h) hdg kk
theorem z_tl2 (S : CallFix p m c cc nL s args Ts own) (B : bw E A s H locs ws) {x : Int} {k : Nat} (hx : x = (k : Int)) (hk : k < 6) {y : Int} (hv : tHi k = y) (hdg : decode cc pc = .ok (.iaload, 1)) (kk : W p l e R s m args below meth c H locs cells slots Q (F0 m (pc + 1) ls (.int (iI y) :: rest))) : W p l e R s m args below meth c H locs cells slots Q (F0 m pc ls (.int (iI x) :: .ref (E.2.2 2) :: rest)) := va_ti S.1 S.2.1 (B.2.2.2.2.2.2.2.2.2.2.2.2.2.2) B.2.2.2.1 (iI_vp hx hk (by omega)) (v := .int (iI y)) (by rw [iI_nat hx (by omega), hv]) hdg kk
theorem z_tn2 (S : CallFix p m c cc nL s args Ts own) (B : bw E A s H locs ws) (hdg : decode cc pc = .ok (.arraylength, 1)) (kk : W p l e R s m args below meth c H locs cells slots Q (F0 m (pc + 1) ls (.int (iI 6) :: rest))) : W p l e R s m args below meth c H locs cells slots Q (F0 m pc ls (.ref (E.2.2 2) :: rest)) := va_tlen S.1 S.2.1 (B.2.2.2.2.2.2.2.2.2.2.2.2.2.2) B.2.2.2.1 (v := iI 6) rfl hdg kk
theorem z_gsNRX2 (S : CallFix p m c cc nL s args Ts own) (B : bw E A s H locs ws) (ho : own = RX2) (hdg : decode cc pc = .ok (.getstatic 140, 3)) (kk : W p l e R s m args below meth c H locs cells slots Q (F0 m (pc + 3) ls (.ref (E.2.2 0) :: rest))) : W p l e R s m args below meth c H locs cells slots Q (F0 m pc ls rest) := va_getsN S.1 S.2.1 (B.2.2.2.2.2.2.2.2.2.1) B.2.2.2.1 S.2.2.2.1 (by rw [ho]; exact va_Nw.use rfl B.2.2.2.2.2.2.1) (fun _ h => h) hdg kk
theorem z_gsNRX3 (S : CallFix p m c cc nL s args Ts own) (B : bw E A s H locs ws) (ho : own = RX3) (hdg : decode cc pc = .ok (.getstatic 68, 3)) (kk : W p l e R s m args below meth c H locs cells slots Q (F0 m (pc + 3) ls (.ref (E.2.2 0) :: rest))) : W p l e R s m args below meth c H locs cells slots Q (F0 m pc ls rest) := va_getsN S.1 S.2.1 (B.2.2.2.2.2.2.2.2.2.1) B.2.2.2.1 S.2.2.2.1 (by rw [ho]; exact va_Nw.use rfl B.2.2.2.2.2.2.2.1) (fun _ h => h) hdg kk
theorem z_pre {l : Launch} {y : MethodName} {av : List Value} {wc : va_W} (B : bw E A s H locs ws) (isC : List Nat) (hC : isC.map (fun i => ws[i]?) = wc.map some) (hn : va_nd isC = true) :
    PreS s H (va_Pc av (fun U => U.heap.size = H.size ∧ va_K E.1 vwCl (TY E) U ∧ va_P E.1 vwCl wc U.heap ∧ va_D (fun _ => True) wc ∧ gE E (va_A wc H.size) U U.heap)) av ∧ (∀ q, va_A wc H.size q → A q) := by
  obtain ⟨hK, hP, hD, hS, hA, hg⟩ := B
  have hFc := va_free (wc := wc) hD hS hA isC hC
  have hPc : va_P E.1 vwCl wc H := by
    intro k q hk
    have h1 : (isC.map (fun i => ws[i]?))[k]? = some (some q) := by rw [hC, List.getElem?_map, hk]; rfl
    rw [List.getElem?_map] at h1
    cases hi : isC[k]? with
    | none => rw [hi] at h1; cases h1
    | some i => rw [hi] at h1; exact hP i q (Option.some.inj h1)
  have hDc : va_D A wc := hD.sub isC hn hC
  refine ⟨⟨fun a U g mk q => ?_, fun U hU hW => ⟨rfl, by rw [hU], va_K.moved hW.alike hK, by rw [hU]; exact hPc, hDc.weaken (fun _ _ _ _ => trivial), ?_⟩⟩, hFc⟩
  · obtain ⟨q0, q1, q2, q3, q4, q5⟩ := q
    exact ⟨q0, q1, va_K.moved (u := U) (U := U.calling g mk a) (Vm.Alike.refl U.vm) q2, q3, q4, gE.same (u := U) (U := U.calling g mk a) rfl q5⟩
  · rw [hU]
    exact gE.warm hW ((hg.kept (fun a h1 h2 => hS.2.1 a h1 h2)).narrow hFc)
theorem z_post {S0 : Type} {post : S0 → Prop} {r : S0 → Option Value} {wc wr : va_W} {wc' wn : S0 → va_W} {mc ms : Nat} {st0 : List Value} {av : Array Value} {st1 : S0 → List Value}
    (hr : va_Run p l e R s m args below meth c H locs cells slots mc ms (F0 m pc ls st0) rest (Qd E (va_A wc H.size) post r wc' av) (va_A wc H.size)) (B : bw E A s H locs ws) (hFc : ∀ q, va_A wc H.size q → A q)
    (isC isR ps : List Nat) (hC : isC.map (fun i => ws[i]?) = wc.map some) (hR : isR.map (fun i => ws[i]?) = wr.map some) (hn : va_nd isR = true) (hdis : ∀ i ∈ isR, i ∉ isC) (hps : ∀ u, ps.map (fun i => (wr ++ wc' u)[i]?) = (wn u).map some) (hpn : va_nd ps = true) (hst1 : ∀ u, (r u).toList ++ rest = st1 u)
    (kk : ∀ (u : S0), post u → ∀ (H1 : Heap) (locs1 : List Loc), bw E A s H1 locs1 (wn u) → W p l e R s m args below meth c H1 locs1 (cells + mc) (slots + ms) Q (F0 m (pc + 3) ls (st1 u))) : W p l e R s m args below meth c H locs cells slots Q (F0 m pc ls st0) := by
  obtain ⟨hK, hP, hD, hS, hA, hg⟩ := B
  intro T hT X
  obtain ⟨v, st₀, t, T', L, h0, X', hL, e1, e2, ⟨⟨u, hu, hv, hP1, hD1⟩, hz, hk⟩, st⟩ := hr T hT X
  cases hv
  rw [h0] at hz hk
  have hk1 : ∀ q : Nat, q < H.size → ¬ va_A wc H.size q → T'.heap[q]? = H[q]? := fun q h1 h2 => by rw [e1]; exact hk q h1 h2
  rw [← e1] at hP1
  obtain ⟨hPj, hDj⟩ := va_join (wr := wr) (w1 := wc' u) hP hD isC isR hC hR hn hdis hk1 hFc hP1 hD1
  have hPn : va_P E.1 vwCl (wn u) T'.heap := by
    intro k q hq
    have h1 : (ps.map (fun i => (wr ++ wc' u)[i]?))[k]? = some (some q) := by rw [hps, List.getElem?_map, hq]; rfl
    rw [List.getElem?_map] at h1
    cases hi : ps[k]? with
    | none => rw [hi] at h1; cases h1
    | some i => rw [hi] at h1; exact hPj i q (Option.some.inj h1)
  have hDn : va_D A (wn u) := hDj.sub ps hpn (hps u)
  have hSn : va_S A s.heap T'.heap (locs ++ L) := ⟨Nat.le_trans hS.1 (by rw [e1]; exact hz), fun q h1 h2 => by rw [hk1 q (Nat.lt_of_lt_of_le h1 hS.1) (fun z => h2 (hFc q z))]; exact hS.2.1 q h1 h2, fun q hq => by
    rcases List.mem_append.mp hq with h | h
    · exact hS.2.2 q h
    · exact hFc _ (hL q h)⟩
  have K := kk u hu T'.heap (locs ++ L) ⟨hK, hPn, hDn, hSn, hA, hg⟩
  rw [← hst1 u] at K
  obtain ⟨t2, a1, b1⟩ := K T' rfl X'
  exact ⟨t2, st t2 a1, b1⟩
theorem z_callV (S : CallFix p m c cc nL s args Ts own) (B : bw E A s H locs ws) {S0 : Type} {post : S0 → Prop} {r : S0 → Option Value} {wc wr : va_W} {wc' wn : S0 → va_W} {mc ms fr lo : Nat} {st0 : List Value} {st1 : S0 → List Value} {As : List Value} {y : MethodName} {wsn wsr : List Cond} {bytes : ByteArray} {maxL index ad : Nat} {ret : Option FieldType} {C : String} {ci : Nat} {fs : List Value} {q : vw_C} (hM : Ct l E y wsn fr lo mc ms (.ref ad :: As) wc post r wc') (hG : GoodIn Ts (wsV own index C y wsn)) (n : Nat) (hw : wsn = Cond.code y bytes maxL ret :: wsr) (hd : y.cls = C ∧ y.cls ≠ "java/lang/invoke/MethodHandle" ∧ y.cls ≠ "java/lang/invoke/VarHandle" ∧ (parseMethodDescriptor y.desc).map (fun d => d.parameters.length) = some n) (hRm : fr + 1 ≤ R.frames ∧ 8 + (maxL + 11) + lo ≤ R.locals ∧ cells + mc ≤ R.cells ∧ slots + ms ≤ R.slots) (q0 : Nat) (hq : wc[q0]? = some (ad, .inr (ci, fs))) (hcl : vwCl[ci]? = some q) (hqC : q.1 = C) (isC isR ps : List Nat) (hC : isC.map (fun i => ws[i]?) = wc.map some) (hR : isR.map (fun i => ws[i]?) = wr.map some) (hnd : va_nd isC = true ∧ va_nd isR = true ∧ va_nd ps = true ∧ ∀ i ∈ isR, i ∉ isC) (hps : ∀ u, ps.map (fun i => (wr ++ wc' u)[i]?) = (wn u).map some) (hal : As.length = n) (hst1 : ∀ u, (r u).toList ++ rest = st1 u) (hsz : ls.size = nL) (hroom : (rest.map fun v => v.category).sum ≤ 8) (hst : st0 = As.reverse ++ .ref ad :: rest) (hdg : decode cc pc = .ok (.invokevirtual index, 3)) (kk : ∀ (u : S0), post u → ∀ (H1 : Heap) (locs1 : List Loc), bw E A s H1 locs1 (wn u) → W p l e R s m args below meth c H1 locs1 (cells + mc) (slots + ms) Q (F0 m (pc + 3) ls (st1 u))) : W p l e R s m args below meth c H locs cells slots Q (F0 m pc ls st0) := by
  obtain ⟨hPre, hFc⟩ := z_pre (l := l) (y := y) (av := .ref ad :: As) (wc := wc) B isC hC hnd.1
  have hPc : va_P E.1 vwCl wc H := by
    intro k q hk
    have h1 : (isC.map (fun i => ws[i]?))[k]? = some (some q) := by rw [hC, List.getElem?_map, hk]; rfl
    rw [List.getElem?_map] at h1
    cases hi : isC[k]? with
    | none => rw [hi] at h1; cases h1
    | some i => rw [hi] at h1; exact B.2.1 i q (Option.some.inj h1)
  subst hqC
  exact z_post (va_runV (As := As) (rest := rest) S (hM H.size) (cwV n S.2.2.2.2 hG hw rfl rfl hd ⟨hRm.1, hRm.2.1⟩) ⟨hPre.1, va_recv B.1 hPc hcl hq, hPre.2⟩ rfl hal hsz hst (lv_room hroom) hdg hRm.2.2) B hFc isC isR ps hC hR hnd.2.1 hnd.2.2.2 hps hnd.2.2.1 hst1 kk
theorem z_callS (S : CallFix p m c cc nL s args Ts own) (B : bw E A s H locs ws) {S0 : Type} {post : S0 → Prop} {r : S0 → Option Value} {wc wr : va_W} {wc' wn : S0 → va_W} {mc ms fr lo : Nat} {st0 : List Value} {st1 : S0 → List Value} {As : List Value} {y : MethodName} {wsn wsr : List Cond} {bytes : ByteArray} {maxL index : Nat} {ret : Option FieldType} (hM : Ct l E y wsn fr lo mc ms As wc post r wc') (hG : GoodIn Ts (va_wsS own index y wsn)) (n : Nat) (hw : wsn = Cond.code y bytes maxL ret :: wsr) (hd : y.cls ≠ "java/lang/invoke/MethodHandle" ∧ y.cls ≠ "java/lang/invoke/VarHandle" ∧ (parseMethodDescriptor y.desc).map (fun d => d.parameters.length) = some n) (hRm : fr + 1 ≤ R.frames ∧ 8 + (maxL + 11) + lo ≤ R.locals ∧ cells + mc ≤ R.cells ∧ slots + ms ≤ R.slots) (isC isR ps : List Nat) (hC : isC.map (fun i => ws[i]?) = wc.map some) (hR : isR.map (fun i => ws[i]?) = wr.map some) (hnd : va_nd isC = true ∧ va_nd isR = true ∧ va_nd ps = true ∧ ∀ i ∈ isR, i ∉ isC) (hps : ∀ u, ps.map (fun i => (wr ++ wc' u)[i]?) = (wn u).map some) (hal : As.length = n) (hst1 : ∀ u, (r u).toList ++ rest = st1 u) (hsz : ls.size = nL) (hroom : (rest.map fun v => v.category).sum ≤ 8) (hst : st0 = As.reverse ++ rest) (hdg : decode cc pc = .ok (.invokestatic index, 3)) (kk : ∀ (u : S0), post u → ∀ (H1 : Heap) (locs1 : List Loc), bw E A s H1 locs1 (wn u) → W p l e R s m args below meth c H1 locs1 (cells + mc) (slots + ms) Q (F0 m (pc + 3) ls (st1 u))) : W p l e R s m args below meth c H locs cells slots Q (F0 m pc ls st0) := by
  obtain ⟨hPre, hFc⟩ := z_pre (l := l) (y := y) (av := As) (wc := wc) B isC hC hnd.1
  exact z_post (va_runS (As := As) (rest := rest) S (hM H.size) (va_cwS n S.2.2.2.2 hG hw rfl rfl hd ⟨hRm.1, hRm.2.1⟩) hPre rfl hal hsz hst (lv_room hroom) hdg hRm.2.2) B hFc isC isR ps hC hR hnd.2.1 hnd.2.2.2 hps hnd.2.2.1 hst1 kk
theorem z_callSN (S : CallFix p m c cc nL s args Ts own) (B : bw E A s H locs ws) {S0 : Type} {post : S0 → Prop} {r : S0 → Option Value} {wc wr : va_W} {wc' wn : S0 → va_W} {mc ms fr lo : Nat} {st0 : List Value} {st1 : S0 → List Value} {As : List Value} {y : MethodName} {wsn wsr : List Cond} {bytes : ByteArray} {maxL index : Nat} {ret : Option FieldType} (hM : Ct l E y wsn fr lo mc ms As wc post r wc') (hG : GoodIn Ts wsn) (hnest : (own, index, y) ∈ nestM) (hini : Cond.initialized y.cls ∈ Ts) (hstat : Cond.static y ∈ Ts) (n : Nat) (hw : wsn = Cond.code y bytes maxL ret :: wsr) (hd : y.cls ≠ "java/lang/invoke/MethodHandle" ∧ y.cls ≠ "java/lang/invoke/VarHandle" ∧ (parseMethodDescriptor y.desc).map (fun d => d.parameters.length) = some n) (hRm : fr + 1 ≤ R.frames ∧ 8 + (maxL + 11) + lo ≤ R.locals ∧ cells + mc ≤ R.cells ∧ slots + ms ≤ R.slots) (isC isR ps : List Nat) (hC : isC.map (fun i => ws[i]?) = wc.map some) (hR : isR.map (fun i => ws[i]?) = wr.map some) (hnd : va_nd isC = true ∧ va_nd isR = true ∧ va_nd ps = true ∧ ∀ i ∈ isR, i ∉ isC) (hps : ∀ u, ps.map (fun i => (wr ++ wc' u)[i]?) = (wn u).map some) (hal : As.length = n) (hst1 : ∀ u, (r u).toList ++ rest = st1 u) (hsz : ls.size = nL) (hroom : (rest.map fun v => v.category).sum ≤ 8) (hst : st0 = As.reverse ++ rest) (hdg : decode cc pc = .ok (.invokestatic index, 3)) (kk : ∀ (u : S0), post u → ∀ (H1 : Heap) (locs1 : List Loc), bw E A s H1 locs1 (wn u) → W p l e R s m args below meth c H1 locs1 (cells + mc) (slots + ms) Q (F0 m (pc + 3) ls (st1 u))) : W p l e R s m args below meth c H locs cells slots Q (F0 m pc ls st0) := by
  obtain ⟨hPre, hFc⟩ := z_pre (l := l) (y := y) (av := As) (wc := wc) B isC hC hnd.1
  exact z_post (va_runSN (As := As) (rest := rest) S (hM H.size) ⟨va_cnB n S.2.2.2.2 hG hw rfl rfl (B.2.2.2.2.2.1 _ hnest) (S.2.2.2.2 _ hini) hd ⟨hRm.1, hRm.2.1⟩, S.2.2.2.2 _ hstat, trivial⟩ hPre rfl hal hsz hst (lv_room hroom) hdg hRm.2.2) B hFc isC isR ps hC hR hnd.2.1 hnd.2.2.2 hps hnd.2.2.1 hst1 kk
theorem z_callI (S : CallFix p m c cc nL s args Ts own) (B : bw E A s H locs ws) {S0 : Type} {post : S0 → Prop} {r : S0 → Option Value} {wc wr : va_W} {wc' wn : S0 → va_W} {mc ms fr lo : Nat} {st0 : List Value} {st1 : S0 → List Value} {As : List Value} {y : MethodName} {wsn wsr : List Cond} {bytes : ByteArray} {maxL index ad : Nat} (hM : Ct l E y wsn fr lo mc ms (.ref ad :: As) wc post r wc') (hG : GoodIn Ts wsn) (hini : Cond.initialized y.cls ∈ Ts) (hml : Cond.methodLink own index y ∈ Ts) (him : Cond.instanceMethod y ∈ Ts) (hy1 : y.name = "<init>") (n : Nat) (hw : wsn = Cond.code y bytes maxL none :: wsr) (hd : y.cls ≠ "java/lang/invoke/MethodHandle" ∧ y.cls ≠ "java/lang/invoke/VarHandle" ∧ (parseMethodDescriptor y.desc).map (fun d => d.parameters.length) = some n) (hRm : fr + 1 ≤ R.frames ∧ 8 + (maxL + 11) + lo ≤ R.locals ∧ cells + mc ≤ R.cells ∧ slots + ms ≤ R.slots) (isC isR ps : List Nat) (hC : isC.map (fun i => ws[i]?) = wc.map some) (hR : isR.map (fun i => ws[i]?) = wr.map some) (hnd : va_nd isC = true ∧ va_nd isR = true ∧ va_nd ps = true ∧ ∀ i ∈ isR, i ∉ isC) (hps : ∀ u, ps.map (fun i => (wr ++ wc' u)[i]?) = (wn u).map some) (hal : As.length = n) (hst1 : ∀ u, (r u).toList ++ rest = st1 u) (hsz : ls.size = nL) (hroom : (rest.map fun v => v.category).sum ≤ 8) (hst : st0 = As.reverse ++ .ref ad :: rest) (hdg : decode cc pc = .ok (.invokespecial index, 3)) (kk : ∀ (u : S0), post u → ∀ (H1 : Heap) (locs1 : List Loc), bw E A s H1 locs1 (wn u) → W p l e R s m args below meth c H1 locs1 (cells + mc) (slots + ms) Q (F0 m (pc + 3) ls (st1 u))) : W p l e R s m args below meth c H locs cells slots Q (F0 m pc ls st0) := by
  obtain ⟨hPre, hFc⟩ := z_pre (l := l) (y := y) (av := .ref ad :: As) (wc := wc) B isC hC hnd.1
  exact z_post (va_runI (As := As) (rest := rest) S (hM H.size) (cwI n S.2.2.2.2 hG hw rfl rfl (S.2.2.2.2 _ hini) (S.2.2.2.2 _ hml) (S.2.2.2.2 _ him) hy1 hd ⟨hRm.1, hRm.2.1⟩) hPre rfl hal hsz hst (lv_room hroom) hdg hRm.2.2) B hFc isC isR ps hC hR hnd.2.1 hnd.2.2.2 hps hnd.2.2.1 hst1 kk
theorem z_callIN (S : CallFix p m c cc nL s args Ts own) (B : bw E A s H locs ws) {S0 : Type} {post : S0 → Prop} {r : S0 → Option Value} {wc wr : va_W} {wc' wn : S0 → va_W} {mc ms fr lo : Nat} {st0 : List Value} {st1 : S0 → List Value} {As : List Value} {y : MethodName} {wsn wsr : List Cond} {bytes : ByteArray} {maxL index ad : Nat} (hM : Ct l E y wsn fr lo mc ms (.ref ad :: As) wc post r wc') (hG : GoodIn Ts wsn) (hnest : (own, index, y) ∈ nestM) (hini : Cond.initialized y.cls ∈ Ts) (him : Cond.instanceMethod y ∈ Ts) (hy1 : y.name = "<init>") (n : Nat) (hw : wsn = Cond.code y bytes maxL none :: wsr) (hd : y.cls ≠ "java/lang/invoke/MethodHandle" ∧ y.cls ≠ "java/lang/invoke/VarHandle" ∧ (parseMethodDescriptor y.desc).map (fun d => d.parameters.length) = some n) (hRm : fr + 1 ≤ R.frames ∧ 8 + (maxL + 11) + lo ≤ R.locals ∧ cells + mc ≤ R.cells ∧ slots + ms ≤ R.slots) (isC isR ps : List Nat) (hC : isC.map (fun i => ws[i]?) = wc.map some) (hR : isR.map (fun i => ws[i]?) = wr.map some) (hnd : va_nd isC = true ∧ va_nd isR = true ∧ va_nd ps = true ∧ ∀ i ∈ isR, i ∉ isC) (hps : ∀ u, ps.map (fun i => (wr ++ wc' u)[i]?) = (wn u).map some) (hal : As.length = n) (hst1 : ∀ u, (r u).toList ++ rest = st1 u) (hsz : ls.size = nL) (hroom : (rest.map fun v => v.category).sum ≤ 8) (hst : st0 = As.reverse ++ .ref ad :: rest) (hdg : decode cc pc = .ok (.invokespecial index, 3)) (kk : ∀ (u : S0), post u → ∀ (H1 : Heap) (locs1 : List Loc), bw E A s H1 locs1 (wn u) → W p l e R s m args below meth c H1 locs1 (cells + mc) (slots + ms) Q (F0 m (pc + 3) ls (st1 u))) : W p l e R s m args below meth c H locs cells slots Q (F0 m pc ls st0) := by
  obtain ⟨hPre, hFc⟩ := z_pre (l := l) (y := y) (av := .ref ad :: As) (wc := wc) B isC hC hnd.1
  exact z_post (va_runIN (As := As) (rest := rest) S (hM H.size) ⟨va_cnB n S.2.2.2.2 hG hw rfl rfl (B.2.2.2.2.2.1 _ hnest) (S.2.2.2.2 _ hini) hd ⟨hRm.1, hRm.2.1⟩, hy1, S.2.2.2.2 _ him⟩ hPre rfl hal hsz hst (lv_room hroom) hdg hRm.2.2) B hFc isC isR ps hC hR hnd.2.1 hnd.2.2.2 hps hnd.2.2.1 hst1 kk
theorem z_maxI (S : CallFix p m c cc nL s args Ts own) {index : Nat} (ha : inI a) (hb : inI b) (hlink : Cond.methodLink own index Lib.Math.max.name ∈ Ts) (hstat : Cond.static Lib.Math.max.name ∈ Ts) (hini : Cond.initialized "java/lang/Math" ∈ Ts) (hcode : Cond.code Lib.Math.max.name Lib.Math.max.code 2 (some .int) ∈ Ts) (hsz : ls.size = nL) (hRm : 1 ≤ R.frames ∧ (rest.map fun v => v.category).sum + 13 ≤ R.locals ∧ cells ≤ R.cells ∧ slots ≤ R.slots) (hdg : decode cc pc = .ok (.invokestatic index, 3)) (kk : W p l e R s m args below meth c H locs cells slots Q (F0 m (pc + 3) ls (.int (iI (if a < b then b else a)) :: rest))) : W p l e R s m args below meth c H locs cells slots Q (F0 m pc ls (.int (iI b) :: .int (iI a) :: rest)) := by
  refine va_mmax S.1 S.2.1 (S.2.2.1.trans hsz.symm) S.2.2.2.1 (S.2.2.2.2 _ hlink) (S.2.2.2.2 _ hstat) (S.2.2.2.2 _ hini) (S.2.2.2.2 _ hcode) hRm.1 hRm.2.1 hRm.2.2.1 hRm.2.2.2 hdg ?_
  have e : (if iI a < iI b then iI b else iI a) = iI (if a < b then b else a) := by
    by_cases h : a < b
    · rw [if_pos h, if_pos ((iI_lt ha hb).mpr h)]
    · rw [if_neg h, if_neg (fun q => h ((iI_lt ha hb).mp q))]
  rw [e]
  exact kk
theorem z_minI (S : CallFix p m c cc nL s args Ts own) {index : Nat} (ha : inI a) (hb : inI b) (hlink : Cond.methodLink own index Lib.Math.min.name ∈ Ts) (hstat : Cond.static Lib.Math.min.name ∈ Ts) (hini : Cond.initialized "java/lang/Math" ∈ Ts) (hcode : Cond.code Lib.Math.min.name Lib.Math.min.code 2 (some .int) ∈ Ts) (hsz : ls.size = nL) (hRm : 1 ≤ R.frames ∧ (rest.map fun v => v.category).sum + 13 ≤ R.locals ∧ cells ≤ R.cells ∧ slots ≤ R.slots) (hdg : decode cc pc = .ok (.invokestatic index, 3)) (kk : W p l e R s m args below meth c H locs cells slots Q (F0 m (pc + 3) ls (.int (iI (if b < a then b else a)) :: rest))) : W p l e R s m args below meth c H locs cells slots Q (F0 m pc ls (.int (iI b) :: .int (iI a) :: rest)) := by
  refine va_mmin S.1 S.2.1 (S.2.2.1.trans hsz.symm) S.2.2.2.1 (S.2.2.2.2 _ hlink) (S.2.2.2.2 _ hstat) (S.2.2.2.2 _ hini) (S.2.2.2.2 _ hcode) hRm.1 hRm.2.1 hRm.2.2.1 hRm.2.2.2 hdg ?_
  have e : (if iI b < iI a then iI b else iI a) = iI (if b < a then b else a) := by
    by_cases h : b < a
    · rw [if_pos h, if_pos ((iI_lt hb ha).mpr h)]
    · rw [if_neg h, if_neg (fun q => h ((iI_lt hb ha).mp q))]
  rw [e]
  exact kk
theorem z_maxL (S : CallFix p m c cc nL s args Ts own) {index : Nat} (ha : inL a) (hb : inL b) (hlink : Cond.methodLink own index Lib.MathLoose.max_long.x ∈ Ts) (hstat : Cond.static Lib.MathLoose.max_long.x ∈ Ts) (hini : Cond.initialized "java/lang/Math" ∈ Ts) (hcode : Cond.code Lib.MathLoose.max_long.x Lib.MathLoose.max_long.code 4 (some .long) ∈ Ts) (hsz : ls.size = nL) (hRm : 1 ≤ R.frames ∧ (rest.map fun v => v.category).sum + 15 ≤ R.locals ∧ cells ≤ R.cells ∧ slots ≤ R.slots) (hdg : decode cc pc = .ok (.invokestatic index, 3)) (kk : W p l e R s m args below meth c H locs cells slots Q (F0 m (pc + 3) ls (.long (iL (if b < a then a else b)) :: rest))) : W p l e R s m args below meth c H locs cells slots Q (F0 m pc ls (.long (iL b) :: .long (iL a) :: rest)) := by
  refine va_mmax_long S.1 S.2.1 (S.2.2.1.trans hsz.symm) S.2.2.2.1 (S.2.2.2.2 _ hlink) (S.2.2.2.2 _ hstat) (S.2.2.2.2 _ hini) (S.2.2.2.2 _ hcode) hRm.1 hRm.2.1 hRm.2.2.1 hRm.2.2.2 hdg ?_
  have e : (if iL b < iL a then iL a else iL b) = iL (if b < a then a else b) := by
    by_cases h : b < a
    · rw [if_pos h, if_pos ((iL_lt hb ha).mpr h)]
    · rw [if_neg h, if_neg (fun q => h ((iL_lt hb ha).mp q))]
  rw [e]
  exact kk
theorem z_minL (S : CallFix p m c cc nL s args Ts own) {index : Nat} (ha : inL a) (hb : inL b) (hlink : Cond.methodLink own index Lib.MathLoose.min_long.x ∈ Ts) (hstat : Cond.static Lib.MathLoose.min_long.x ∈ Ts) (hini : Cond.initialized "java/lang/Math" ∈ Ts) (hcode : Cond.code Lib.MathLoose.min_long.x Lib.MathLoose.min_long.code 4 (some .long) ∈ Ts) (hsz : ls.size = nL) (hRm : 1 ≤ R.frames ∧ (rest.map fun v => v.category).sum + 15 ≤ R.locals ∧ cells ≤ R.cells ∧ slots ≤ R.slots) (hdg : decode cc pc = .ok (.invokestatic index, 3)) (kk : W p l e R s m args below meth c H locs cells slots Q (F0 m (pc + 3) ls (.long (iL (if b < a then b else a)) :: rest))) : W p l e R s m args below meth c H locs cells slots Q (F0 m pc ls (.long (iL b) :: .long (iL a) :: rest)) := by
  refine va_mmin_long S.1 S.2.1 (S.2.2.1.trans hsz.symm) S.2.2.2.1 (S.2.2.2.2 _ hlink) (S.2.2.2.2 _ hstat) (S.2.2.2.2 _ hini) (S.2.2.2.2 _ hcode) hRm.1 hRm.2.1 hRm.2.2.1 hRm.2.2.2 hdg ?_
  have e : (if iL b < iL a then iL b else iL a) = iL (if b < a then b else a) := by
    by_cases h : b < a
    · rw [if_pos h, if_pos ((iL_lt hb ha).mpr h)]
    · rw [if_neg h, if_neg (fun q => h ((iL_lt hb ha).mp q))]
  rw [e]
  exact kk
theorem z_absL (S : CallFix p m c cc nL s args Ts own) {index : Nat} (ha : inL a) (hlink : Cond.methodLink own index Lib.MathLoose.abs_long.x ∈ Ts) (hstat : Cond.static Lib.MathLoose.abs_long.x ∈ Ts) (hini : Cond.initialized "java/lang/Math" ∈ Ts) (hcode : Cond.code Lib.MathLoose.abs_long.x Lib.MathLoose.abs_long.code 2 (some .long) ∈ Ts) (hsz : ls.size = nL) (hRm : 1 ≤ R.frames ∧ (rest.map fun v => v.category).sum + 13 ≤ R.locals ∧ cells ≤ R.cells ∧ slots ≤ R.slots) (hdg : decode cc pc = .ok (.invokestatic index, 3)) (kk : W p l e R s m args below meth c H locs cells slots Q (F0 m (pc + 3) ls (.long (iL (if 0 < a then a else -a)) :: rest))) : W p l e R s m args below meth c H locs cells slots Q (F0 m pc ls (.long (iL a) :: rest)) := by
  refine va_mabs_long S.1 S.2.1 (S.2.2.1.trans hsz.symm) S.2.2.2.1 (S.2.2.2.2 _ hlink) (S.2.2.2.2 _ hstat) (S.2.2.2.2 _ hini) (S.2.2.2.2 _ hcode) hRm.1 hRm.2.1 hRm.2.2.1 hRm.2.2.2 hdg ?_
  have e : (if 0 < iL a then iL a else -iL a) = iL (if 0 < a then a else -a) := by
    have h0 : inL 0 := by omega
    show (if iL 0 < iL a then iL a else -iL a) = _
    by_cases h : 0 < a
    · rw [if_pos h, if_pos ((iL_lt h0 ha).mpr h)]
    · rw [if_neg h, if_neg (fun q => h ((iL_lt h0 ha).mp q)), iL_neg]
  rw [e]
  exact kk
theorem z_qd {S0 : Type} {post : S0 → Prop} {r : S0 → Option Value} {ws' : S0 → va_W} {v : Option Value} {av : Array Value} (B : bw E A s H locs ws) (u : S0) (hp : post u) (hv : r u = v) (hw : ws' u = ws) (t : State) (ht : t.heap = H) : Qd E A post r ws' av s (.returned v) t := by
  subst hv
  exact ⟨⟨u, hp, rfl, by rw [ht, hw]; exact B.2.1, by rw [hw]; exact B.2.2.1⟩, B.2.2.2.1.F ht⟩
theorem z_ireturn (S : CallFix p m c cc nL s args Ts own) (hr : meth.sig.returnType = some .int) (hlk : meth.locks = false) (B : bw E A s H locs ws) {S0 : Type} {post : S0 → Prop} {r : S0 → Option Value} {ws' : S0 → va_W} (u : S0) (hp : post u) (hv : r u = some (.int (iI a))) (hw : ws' u = ws) (hdg : decode cc pc = .ok (.ireturn, 1)) : W p l e R s m args below meth c H locs cells slots (MQ below (Qd E A post r ws') args s cells slots A) (F0 m pc ls [.int (iI a)]) := W.iret S.1 S.2.1 hr (fun t ht _ => z_qd B u hp hv hw t ht) B.2.2.2.1.2.2 hdg hlk
theorem z_lreturn (S : CallFix p m c cc nL s args Ts own) (hr : meth.sig.returnType = some .long) (hlk : meth.locks = false) (B : bw E A s H locs ws) {S0 : Type} {post : S0 → Prop} {r : S0 → Option Value} {ws' : S0 → va_W} (u : S0) (hp : post u) (hv : r u = some (.long (iL a))) (hw : ws' u = ws) (hdg : decode cc pc = .ok (.lreturn, 1)) : W p l e R s m args below meth c H locs cells slots (MQ below (Qd E A post r ws') args s cells slots A) (F0 m pc ls [.long (iL a)]) := W.lret S.1 S.2.1 hr (fun t ht _ => z_qd B u hp hv hw t ht) B.2.2.2.1.2.2 hdg hlk
theorem z_zreturn (S : CallFix p m c cc nL s args Ts own) (h01 : a = 0 ∨ a = 1) (hr : meth.sig.returnType = some .boolean) (hlk : meth.locks = false) (B : bw E A s H locs ws) {S0 : Type} {post : S0 → Prop} {r : S0 → Option Value} {ws' : S0 → va_W} (u : S0) (hp : post u) (hv : r u = some (.int (iI a))) (hw : ws' u = ws) (hdg : decode cc pc = .ok (.ireturn, 1)) : W p l e R s m args below meth c H locs cells slots (MQ below (Qd E A post r ws') args s cells slots A) (F0 m pc ls [.int (iI a)]) := W.zret S.1 S.2.1 hr (nar_z h01) (fun t ht _ => z_qd B u hp hv hw t ht) B.2.2.2.1.2.2 hdg hlk
theorem z_creturn (S : CallFix p m c cc nL s args Ts own) (hch : narrow .char (.int (iI a)) = .int (iI a)) (hr : meth.sig.returnType = some .char) (hlk : meth.locks = false) (B : bw E A s H locs ws) {S0 : Type} {post : S0 → Prop} {r : S0 → Option Value} {ws' : S0 → va_W} (u : S0) (hp : post u) (hv : r u = some (.int (iI a))) (hw : ws' u = ws) (hdg : decode cc pc = .ok (.ireturn, 1)) : W p l e R s m args below meth c H locs cells slots (MQ below (Qd E A post r ws') args s cells slots A) (F0 m pc ls [.int (iI a)]) := W.zret S.1 S.2.1 hr hch (fun t ht _ => z_qd B u hp hv hw t ht) B.2.2.2.1.2.2 hdg hlk
theorem z_return (S : CallFix p m c cc nL s args Ts own) (hr : meth.sig.returnType = none) (hlk : meth.locks = false) (B : bw E A s H locs ws) {S0 : Type} {post : S0 → Prop} {r : S0 → Option Value} {ws' : S0 → va_W} (u : S0) (hp : post u) (hv : r u = none) (hw : ws' u = ws) (hdg : decode cc pc = .ok (.return_, 1)) : W p l e R s m args below meth c H locs cells slots (MQ below (Qd E A post r ws') args s cells slots A) (F0 m pc ls []) := W.vret S.1 S.2.1 hr (fun t ht _ => z_qd B u hp hv hw t ht) B.2.2.2.1.2.2 hdg hlk
end ZL
/-! END lib -/
