set_option linter.unusedVariables false
/-! what the meter does, over integers -/
def up (f : Nat → Int) (k : Nat) (v : Int) : Nat → Int := fun j => if j = k then v else f j
def lat (f : Nat → Int) : Nat → Int64 := fun k => iL (f k)
def iat (f : Nat → Int) : Nat → Int32 := fun k => iI (f k)
/-- the reference's row: 23 numbers, then the readings that are kept -/
def mat (σ ρ : Nat → Int) : Nat → Int := fun k => if k < 23 then σ k else ρ (k - 23)
theorem up_s (f : Nat → Int) (k : Nat) (v : Int) : up f k v k = v := if_pos rfl
theorem up_n (f : Nat → Int) {k j : Nat} (v : Int) (h : j ≠ k) : up f k v j = f j := if_neg h
theorem lat_up (f : Nat → Int) (k : Nat) (v : Int) : vp_updL (lat f) k (iL v) = lat (up f k v) := by
  funext j
  simp only [vp_updL, lat, up]
  split <;> rfl
theorem iat_up (f : Nat → Int) (k : Nat) (v : Int) : upd (iat f) k (iI v) = iat (up f k v) := by
  funext j
  simp only [upd, iat, up]
  split <;> rfl
theorem mat_up (σ ρ : Nat → Int) {k : Nat} (h : k < 23) (v : Int) : up (mat σ ρ) k v = mat (up σ k v) ρ := by
  funext j
  simp only [up, mat]
  by_cases h1 : j = k
  · subst h1; simp only [if_true, h]
  · simp only [h1, if_false]
theorem mat_row (σ ρ : Nat → Int) (i : Nat) (v : Int) : up (mat σ ρ) (23 + i) v = mat σ (up ρ i v) := by
  funext j
  simp only [up, mat]
  by_cases h1 : j = 23 + i
  · subst h1
    have h2 : ¬ 23 + i < 23 := by omega
    have h3 : 23 + i - 23 = i := by omega
    simp only [if_true, h2, if_false, h3]
  · by_cases h2 : j < 23
    · simp only [h1, h2, if_true, if_false]
    · have h3 : ¬ j - 23 = i := by omega
      simp only [h1, h2, h3, if_false]
theorem lmu (σ ρ : Nat → Int) {k : Nat} (h : k < 23) (v : Int) : vp_updL (lat (mat σ ρ)) k (iL v) = lat (mat (up σ k v) ρ) := by rw [lat_up, mat_up σ ρ h]
theorem lmr (σ ρ : Nat → Int) (i : Nat) (v : Int) : vp_updL (lat (mat σ ρ)) (23 + i) (iL v) = lat (mat σ (up ρ i v)) := by rw [lat_up, mat_row]
def lim (v m : Int) : Int := if m < v then m else if v < -m then -m else v
def ab (x : Int) : Int := if x < 0 then -x else x
def sg (x : Int) : Int := if 0 < x then 1 else if x < 0 then -1 else 0
def mx (p x : Int) : Int := if p < ab x then ab x else p
def gn (r : Int) : Int := if r = 0 then 1 else if r = 1 then 10 else if r = 2 then 100 else 1000
def hum (am pe t : Int) : Int := if t % pe < pe / 4 then (am * (t % pe)).tdiv (pe / 4) else if t % pe < 3 * (pe / 4) then (am * (2 * (pe / 4) - t % pe)).tdiv (pe / 4) else (am * (t % pe - 4 * (pe / 4))).tdiv (pe / 4)
def inpg (lv am pe t g : Int) : Int := lim ((lv + hum am pe t) * g) 2500000
def offs (bi dr t : Int) : Int := lim (bi + (dr * t).tdiv 1000) 500000
theorem lim_bd {v m : Int} (h : 0 ≤ m) : -m ≤ lim v m ∧ lim v m ≤ m := by
  unfold lim
  split
  · omega
  · split <;> omega
theorem ab_nn (x : Int) : 0 ≤ ab x := by unfold ab; split <;> omega
theorem ab_le {x m : Int} (h1 : -m ≤ x) (h2 : x ≤ m) : ab x ≤ m := by unfold ab; split <;> omega
theorem ab_ge {x m : Int} (h : ab x ≤ m) : -m ≤ x ∧ x ≤ m := by unfold ab at h; split at h <;> omega
theorem mx_bd {p x m : Int} (h0 : 0 ≤ p) (h1 : p ≤ m) (h2 : -m ≤ x) (h3 : x ≤ m) : 0 ≤ mx p x ∧ mx p x ≤ m := by
  have h4 := ab_le h2 h3
  have h5 := ab_nn x
  unfold mx
  split <;> omega
theorem sg_c (x : Int) : (0 < x ∧ sg x = 1) ∨ (x < 0 ∧ sg x = -1) ∨ (x = 0 ∧ sg x = 0) := by
  unfold sg
  split
  · exact Or.inl ⟨by assumption, rfl⟩
  · split
    · exact Or.inr (Or.inl ⟨by assumption, rfl⟩)
    · exact Or.inr (Or.inr ⟨by omega, rfl⟩)
theorem gn_bd (r : Int) : 1 ≤ gn r ∧ gn r ≤ 1000 := by
  unfold gn
  split
  · omega
  · split
    · omega
    · split <;> omega
theorem mul_bd {a x M X : Int} (h0 : 0 ≤ a) (h1 : a ≤ M) (h2 : -X ≤ x) (h3 : x ≤ X) : -(M * X) ≤ a * x ∧ a * x ≤ M * X := by
  have hX : 0 ≤ X := by omega
  have e1 : a * X ≤ M * X := Int.mul_le_mul_of_nonneg_right h1 hX
  have e2 : a * x ≤ a * X := Int.mul_le_mul_of_nonneg_left h3 h0
  have e3 : a * (-X) ≤ a * x := Int.mul_le_mul_of_nonneg_left h2 h0
  rw [Int.mul_neg] at e3
  omega
theorem mul_bd2 {a x M X : Int} (h0 : -M ≤ a) (h1 : a ≤ M) (h2 : 0 ≤ x) (h3 : x ≤ X) : -(X * M) ≤ a * x ∧ a * x ≤ X * M := by
  have := mul_bd (a := x) (x := a) h2 h3 h0 h1
  rw [Int.mul_comm a x]
  exact this
theorem tdiv_bd {a q B : Int} (hq : 0 < q) (h1 : -B ≤ a) (h2 : a ≤ B) : -B ≤ a.tdiv q ∧ a.tdiv q ≤ B := by
  rcases Int.lt_or_le a 0 with h | h
  · obtain ⟨b, rfl⟩ : ∃ b, a = -b := ⟨-a, by omega⟩
    have hb : 0 ≤ b := by omega
    rw [Int.neg_tdiv, Int.tdiv_eq_ediv_of_nonneg hb]
    have e1 : 0 ≤ b / q := Int.ediv_nonneg hb (by omega)
    have e2 : b / q ≤ b := Int.ediv_le_self _ hb
    omega
  · rw [Int.tdiv_eq_ediv_of_nonneg h]
    have e1 : 0 ≤ a / q := Int.ediv_nonneg h (by omega)
    have e2 : a / q ≤ a := Int.ediv_le_self _ h
    omega
/-- a quotient by what the dividend is at most a multiple of -/
theorem tdiv_mul_bd {a x q M : Int} (hq : 0 < q) (h0 : 0 ≤ a) (h1 : a ≤ M) (h2 : -q ≤ x) (h3 : x ≤ q) : -M ≤ (a * x).tdiv q ∧ (a * x).tdiv q ≤ M := by
  rcases Int.lt_or_le x 0 with h | h
  · obtain ⟨b, rfl⟩ : ∃ b, x = -b := ⟨-x, by omega⟩
    have hb : 0 ≤ a * b := Int.mul_nonneg h0 (by omega)
    rw [Int.mul_neg, Int.neg_tdiv, Int.tdiv_eq_ediv_of_nonneg hb]
    have e1 : 0 ≤ a * b / q := Int.ediv_nonneg hb (by omega)
    have e3 : a * b ≤ a * q := Int.mul_le_mul_of_nonneg_left (by omega) h0
    have e2 : a * b / q ≤ a := Int.ediv_le_of_le_mul hq e3
    omega
  · have hb : 0 ≤ a * x := Int.mul_nonneg h0 h
    rw [Int.tdiv_eq_ediv_of_nonneg hb]
    have e1 : 0 ≤ a * x / q := Int.ediv_nonneg hb (by omega)
    have e3 : a * x ≤ a * q := Int.mul_le_mul_of_nonneg_left (by omega) h0
    have e2 : a * x / q ≤ a := Int.ediv_le_of_le_mul hq e3
    omega
abbrev inPe (pe : Int) : Prop := 4 ≤ pe ∧ pe ≤ 400 ∧ pe % 4 = 0
theorem pe_q {pe : Int} (h : inPe pe) : pe = 4 * (pe / 4) ∧ 1 ≤ pe / 4 ∧ pe / 4 ≤ 100 := by omega
theorem rem_bd {pe : Int} (h : inPe pe) (t : Int) : 0 ≤ t % pe ∧ t % pe < pe := ⟨Int.emod_nonneg t (by omega), Int.emod_lt_of_pos t (by omega)⟩
theorem hum_bd {am pe t : Int} (ha : 0 ≤ am ∧ am ≤ 1000000) (hp : inPe pe) : -1000000 ≤ hum am pe t ∧ hum am pe t ≤ 1000000 := by
  have h1 := pe_q hp
  have h2 := rem_bd hp t
  unfold hum
  split
  · exact tdiv_mul_bd (by omega) ha.1 ha.2 (by omega) (by omega)
  · split
    · exact tdiv_mul_bd (by omega) ha.1 ha.2 (by omega) (by omega)
    · exact tdiv_mul_bd (by omega) ha.1 ha.2 (by omega) (by omega)
theorem inpg_bd (lv am pe t g : Int) : -2500000 ≤ inpg lv am pe t g ∧ inpg lv am pe t g ≤ 2500000 := lim_bd (by omega)
theorem offs_bd (bi dr t : Int) : -500000 ≤ offs bi dr t ∧ offs bi dr t ≤ 500000 := lim_bd (by omega)
theorem inpg_0 (lv am pe t : Int) : inpg lv am pe t 0 = 0 := by
  unfold inpg
  rw [Int.mul_zero]
  rfl
/-! a conversion -/
def dirn (md sl k d x : Int) : Int := if md = 1 ∧ k % sl = 0 then (if 0 < x then -1 else 1) else d
def stx (v : Int → Int) (md sl k d x t : Int) : Int := x + (v t + dirn md sl k d x * 1048576)
/-- the run-up: n ticks are left; the tick's number, the direction, the integral, its greatest size, subtracted, added, the time -/
def upL (v : Int → Int) (md sl : Int) : Nat → Int → Int → Int → Int → Int → Int → Int → Int × Int × Int × Int × Int
  | 0, _, _, x, pk, sb, ad, t => (x, pk, sb, ad, t)
  | n + 1, k, d, x, pk, sb, ad, t => upL v md sl n (k + 1) (dirn md sl k d x) (stx v md sl k d x t) (mx pk (stx v md sl k d x t)) (if dirn md sl k d x < 0 then sb + 1 else sb) (if 0 < dirn md sl k d x then ad + 1 else ad) (t + 1)
/-- the run-down: n ticks at most -/
def dnL : Nat → Int → Int → Int → Int → Int × Int × Int
  | 0, _, x, pk, d => (x, pk, d)
  | n + 1, s, x, pk, d => if s ≠ 0 ∧ sg x = s then dnL n s (x + -s * 1048576) (mx pk (x + -s * 1048576)) (d + 1) else (x, pk, d)
/-- the fine phase -/
def fnL : Nat → Int → Int → Int → Int → Int × Int × Int
  | 0, _, x, pk, f => (x, pk, f)
  | n + 1, s, x, pk, f => if s ≠ 0 ∧ sg x = -s then fnL n s (x + s * 65536) (mx pk (x + s * 65536)) (f + 1) else (x, pk, f)
def volt (σ : Nat → Int) (g : Int) (t : Int) : Int := inpg (σ 0) (σ 1) (σ 2) t g + offs (σ 3) (σ 4) t
def cvU (σ : Nat → Int) (g : Int) : Int × Int × Int × Int × Int := upL (volt σ g) (σ 7) (σ 6) (σ 5).toNat 0 0 0 0 0 0 (σ 11)
def cvS (σ : Nat → Int) (g : Int) : Int := sg (cvU σ g).1
def cvD (σ : Nat → Int) (g : Int) : Int × Int × Int := dnL (3 * (σ 5)).toNat (cvS σ g) (cvU σ g).1 (cvU σ g).2.1 0
def cvF (σ : Nat → Int) (g : Int) : Int × Int × Int := fnL 16 (cvS σ g) (cvD σ g).1 (cvD σ g).2.1 0
/-- over the range -/
def ovr (σ : Nat → Int) (g : Int) : Int := bI (cvS σ g ≠ 0 ∧ sg (cvD σ g).1 = cvS σ g)
def cnt (σ : Nat → Int) (g : Int) : Int := 16 * ((cvU σ g).2.2.1 - (cvU σ g).2.2.2.1) + cvS σ g * (16 * (cvD σ g).2.2 - (cvF σ g).2.2)
def cvt (σ : Nat → Int) (g : Int) : Nat → Int := fun k => match k with
  | 11 => (cvU σ g).2.2.2.2 + ((cvD σ g).2.2 + (cvF σ g).2.2)
  | 15 => cnt σ g
  | 16 => (cvD σ g).2.2
  | 17 => (cvF σ g).2.2
  | 18 => (cvU σ g).2.2.1
  | 19 => (cvU σ g).2.2.2.1
  | 20 => (cvF σ g).2.1
  | 21 => (cvF σ g).1
  | 22 => 1
  | k => σ k
abbrev Sets (σ : Nat → Int) : Prop := (-3000000 ≤ σ 0 ∧ σ 0 ≤ 3000000) ∧ (0 ≤ σ 1 ∧ σ 1 ≤ 1000000) ∧ inPe (σ 2) ∧ (-100000 ≤ σ 3 ∧ σ 3 ≤ 100000) ∧ (-1000 ≤ σ 4 ∧ σ 4 ≤ 1000) ∧
  (4 ≤ σ 5 ∧ σ 5 ≤ 400) ∧ (1 ≤ σ 6 ∧ σ 6 ≤ 50) ∧ (0 ≤ σ 7 ∧ σ 7 ≤ 1) ∧ (0 ≤ σ 8 ∧ σ 8 ≤ 10) ∧ (0 ≤ σ 9 ∧ σ 9 ≤ 1) ∧ (0 ≤ σ 10 ∧ σ 10 ≤ 3)
abbrev Nums (σ : Nat → Int) : Prop := (-60000 ≤ σ 12 ∧ σ 12 ≤ 60000) ∧ (0 ≤ σ 13 ∧ σ 13 ≤ 10) ∧ (0 ≤ σ 14 ∧ σ 14 ≤ 20000) ∧ (-60000 ≤ σ 15 ∧ σ 15 ≤ 60000) ∧
  (0 ≤ σ 16 ∧ σ 16 ≤ 1200) ∧ (0 ≤ σ 17 ∧ σ 17 ≤ 16) ∧ (0 ≤ σ 18 ∧ σ 18 ≤ 400) ∧ (0 ≤ σ 19 ∧ σ 19 ≤ 400) ∧ (0 ≤ σ 20 ∧ σ 20 ≤ 1099511627776) ∧ (-1099511627776 ≤ σ 21 ∧ σ 21 ≤ 1099511627776) ∧ (σ 22 = 0 ∨ σ 22 = 1)
/-- the run-up's bounds -/
theorem stx_bd {v : Int → Int} (hv : ∀ t, -3000000 ≤ v t ∧ v t ≤ 3000000) {md sl k d x t : Int} (hd : -1 ≤ d ∧ d ≤ 1) {B : Int} (hx : -B ≤ x ∧ x ≤ B) : (-1 ≤ dirn md sl k d x ∧ dirn md sl k d x ≤ 1) ∧ -(B + 4194304) ≤ stx v md sl k d x t ∧ stx v md sl k d x t ≤ B + 4194304 := by
  have h1 : -1 ≤ dirn md sl k d x ∧ dirn md sl k d x ≤ 1 := by
    unfold dirn
    split
    · split <;> omega
    · exact hd
  have h2 := hv t
  refine ⟨h1, ?_⟩
  unfold stx
  omega
theorem upL_bd {v : Int → Int} (hv : ∀ t, -3000000 ≤ v t ∧ v t ≤ 3000000) (md sl : Int) : ∀ (n : Nat) (k d x pk sb ad t : Int), (-1 ≤ d ∧ d ≤ 1) → (-(4194304 * k) ≤ x ∧ x ≤ 4194304 * k) → (0 ≤ pk ∧ pk ≤ 4194304 * k) → (0 ≤ sb ∧ sb ≤ k) → (0 ≤ ad ∧ ad ≤ k) →
    (-(4194304 * (k + n)) ≤ (upL v md sl n k d x pk sb ad t).1 ∧ (upL v md sl n k d x pk sb ad t).1 ≤ 4194304 * (k + n)) ∧ (0 ≤ (upL v md sl n k d x pk sb ad t).2.1 ∧ (upL v md sl n k d x pk sb ad t).2.1 ≤ 4194304 * (k + n)) ∧ (0 ≤ (upL v md sl n k d x pk sb ad t).2.2.1 ∧ (upL v md sl n k d x pk sb ad t).2.2.1 ≤ k + n) ∧ (0 ≤ (upL v md sl n k d x pk sb ad t).2.2.2.1 ∧ (upL v md sl n k d x pk sb ad t).2.2.2.1 ≤ k + n) ∧ (upL v md sl n k d x pk sb ad t).2.2.2.2 = t + n := by
  intro n
  induction n with
  | zero =>
    intro k d x pk sb ad t hd hx hp hs ha
    simp only [upL]
    omega
  | succ n ih =>
    intro k d x pk sb ad t hd hx hp hs ha
    obtain ⟨h1, h2⟩ := stx_bd (md := md) (sl := sl) (k := k) (t := t) hv hd hx
    have h3 := mx_bd (p := pk) (x := stx v md sl k d x t) (m := 4194304 * (k + 1)) hp.1 (by omega) (by omega) (by omega)
    have hh := ih (k + 1) (dirn md sl k d x) (stx v md sl k d x t) (mx pk (stx v md sl k d x t)) (if dirn md sl k d x < 0 then sb + 1 else sb) (if 0 < dirn md sl k d x then ad + 1 else ad) (t + 1) h1 (by omega) h3 (by split <;> omega) (by split <;> omega)
    simp only [upL]
    have e : k + 1 + (n : Int) = k + ((n + 1 : Nat) : Int) := by omega
    rw [e] at hh
    refine ⟨hh.1, hh.2.1, hh.2.2.1, hh.2.2.2.1, ?_⟩
    have := hh.2.2.2.2
    omega
theorem dnL_bd : ∀ (n : Nat) (s x pk d B : Int), (s = 0 ∨ s = 1 ∨ s = -1) → 1048576 ≤ B → (-B ≤ x ∧ x ≤ B) → (0 ≤ pk ∧ pk ≤ B) → 0 ≤ d →
    (-B ≤ (dnL n s x pk d).1 ∧ (dnL n s x pk d).1 ≤ B) ∧ (0 ≤ (dnL n s x pk d).2.1 ∧ (dnL n s x pk d).2.1 ≤ B) ∧ (d ≤ (dnL n s x pk d).2.2 ∧ (dnL n s x pk d).2.2 ≤ d + n) := by
  intro n
  induction n with
  | zero => intro s x pk d B hs hB hx hp hd; simp only [dnL]; omega
  | succ n ih =>
    intro s x pk d B hs hB hx hp hd
    simp only [dnL]
    split
    · rename_i h
      have hx' : -B ≤ x + -s * 1048576 ∧ x + -s * 1048576 ≤ B := by
        rcases sg_c x with h1 | h1 | h1 <;> rcases hs with h2 | h2 | h2 <;> subst h2 <;> omega
      have hh := ih s (x + -s * 1048576) (mx pk (x + -s * 1048576)) (d + 1) B hs hB hx' (mx_bd hp.1 hp.2 hx'.1 hx'.2) (by omega)
      omega
    · exact ⟨hx, hp, by show d ≤ d ∧ d ≤ d + ((n + 1 : Nat) : Int); omega⟩
/-- behind the run-down: it is over, or what is left has the other sign and is less than a reference -/
theorem dnL_end : ∀ (n : Nat) (s x pk d : Int), (s = 0 ∨ s = 1 ∨ s = -1) → (s = 0 → x = 0) → ((sg x = s) ∨ (s = 1 ∧ -1048576 < x ∧ x ≤ 0) ∨ (s = -1 ∧ 0 ≤ x ∧ x < 1048576)) →
    ((sg (dnL n s x pk d).1 = s) ∨ (s = 1 ∧ -1048576 < (dnL n s x pk d).1 ∧ (dnL n s x pk d).1 ≤ 0) ∨ (s = -1 ∧ 0 ≤ (dnL n s x pk d).1 ∧ (dnL n s x pk d).1 < 1048576)) := by
  intro n
  induction n with
  | zero => intro s x pk d hs h0 hx; simpa only [dnL] using hx
  | succ n ih =>
    intro s x pk d hs h0 hx
    simp only [dnL]
    split
    · rename_i h
      refine ih s _ _ _ hs (fun q => absurd q h.1) ?_
      rcases sg_c x with h1 | h1 | h1 <;> rcases sg_c (x + -s * 1048576) with h3 | h3 | h3 <;> rcases hs with h2 | h2 | h2 <;> subst h2 <;> omega
    · exact hx
theorem fnL_bd : ∀ (n : Nat) (s x pk f B : Int), (s = 0 ∨ s = 1 ∨ s = -1) → 65536 ≤ B → (-B ≤ x ∧ x ≤ B) → (0 ≤ pk ∧ pk ≤ B) → 0 ≤ f →
    (-B ≤ (fnL n s x pk f).1 ∧ (fnL n s x pk f).1 ≤ B) ∧ (0 ≤ (fnL n s x pk f).2.1 ∧ (fnL n s x pk f).2.1 ≤ B) ∧ (f ≤ (fnL n s x pk f).2.2 ∧ (fnL n s x pk f).2.2 ≤ f + n) := by
  intro n
  induction n with
  | zero => intro s x pk d B hs hB hx hp hd; simp only [fnL]; omega
  | succ n ih =>
    intro s x pk d B hs hB hx hp hd
    simp only [fnL]
    split
    · rename_i h
      have hx' : -B ≤ x + s * 65536 ∧ x + s * 65536 ≤ B := by
        rcases sg_c x with h1 | h1 | h1 <;> rcases hs with h2 | h2 | h2 <;> subst h2 <;> omega
      have hh := ih s (x + s * 65536) (mx pk (x + s * 65536)) (d + 1) B hs hB hx' (mx_bd hp.1 hp.2 hx'.1 hx'.2) (by omega)
      omega
    · exact ⟨hx, hp, by show d ≤ d ∧ d ≤ d + ((n + 1 : Nat) : Int); omega⟩
theorem volt_bd (σ : Nat → Int) (g t : Int) : -3000000 ≤ volt σ g t ∧ volt σ g t ≤ 3000000 := by
  have h1 := inpg_bd (σ 0) (σ 1) (σ 2) t g
  have h2 := offs_bd (σ 3) (σ 4) t
  unfold volt
  omega
theorem cvS_c (σ : Nat → Int) (g : Int) : cvS σ g = 0 ∨ cvS σ g = 1 ∨ cvS σ g = -1 := by
  rcases sg_c (cvU σ g).1 with h | h | h
  · exact Or.inr (Or.inl h.2)
  · exact Or.inr (Or.inr h.2)
  · exact Or.inl h.2
theorem cvU_bd (σ : Nat → Int) (g : Int) (h : 4 ≤ σ 5 ∧ σ 5 ≤ 400) : (-1677721600 ≤ (cvU σ g).1 ∧ (cvU σ g).1 ≤ 1677721600) ∧ (0 ≤ (cvU σ g).2.1 ∧ (cvU σ g).2.1 ≤ 1677721600) ∧ (0 ≤ (cvU σ g).2.2.1 ∧ (cvU σ g).2.2.1 ≤ 400) ∧ (0 ≤ (cvU σ g).2.2.2.1 ∧ (cvU σ g).2.2.2.1 ≤ 400) ∧ (cvU σ g).2.2.2.2 = σ 11 + σ 5 := by
  have hh := upL_bd (volt_bd σ g) (σ 7) (σ 6) (σ 5).toNat 0 0 0 0 0 0 (σ 11) (by omega) (by omega) (by omega) (by omega) (by omega)
  unfold cvU
  omega
theorem cvD_bd (σ : Nat → Int) (g : Int) (h : 4 ≤ σ 5 ∧ σ 5 ≤ 400) : (-1677721600 ≤ (cvD σ g).1 ∧ (cvD σ g).1 ≤ 1677721600) ∧ (0 ≤ (cvD σ g).2.1 ∧ (cvD σ g).2.1 ≤ 1677721600) ∧ (0 ≤ (cvD σ g).2.2 ∧ (cvD σ g).2.2 ≤ 1200) := by
  have h1 := cvU_bd σ g h
  have hh := dnL_bd (3 * (σ 5)).toNat (cvS σ g) (cvU σ g).1 (cvU σ g).2.1 0 1677721600 (cvS_c σ g) (by omega) h1.1 h1.2.1 (by omega)
  unfold cvD
  omega
theorem cvF_bd (σ : Nat → Int) (g : Int) (h : 4 ≤ σ 5 ∧ σ 5 ≤ 400) : (-1677721600 ≤ (cvF σ g).1 ∧ (cvF σ g).1 ≤ 1677721600) ∧ (0 ≤ (cvF σ g).2.1 ∧ (cvF σ g).2.1 ≤ 1677721600) ∧ (0 ≤ (cvF σ g).2.2 ∧ (cvF σ g).2.2 ≤ 16) := by
  have h1 := cvD_bd σ g h
  have hh := fnL_bd 16 (cvS σ g) (cvD σ g).1 (cvD σ g).2.1 0 1677721600 (cvS_c σ g) (by omega) h1.1 h1.2.1 (by omega)
  unfold cvF
  omega
theorem cnt_bd (σ : Nat → Int) (g : Int) (h : 4 ≤ σ 5 ∧ σ 5 ≤ 400) : -30000 ≤ cnt σ g ∧ cnt σ g ≤ 30000 := by
  have h1 := cvU_bd σ g h
  have h2 := cvD_bd σ g h
  have h3 := cvF_bd σ g h
  unfold cnt
  rcases cvS_c σ g with h4 | h4 | h4 <;> rw [h4] <;> omega
theorem ovr_01 (σ : Nat → Int) (g : Int) : ovr σ g = 0 ∨ ovr σ g = 1 := bI_01 _
theorem cvt_sets {σ : Nat → Int} (g : Int) (h : Sets σ) : Sets (cvt σ g) := h
theorem cvt_time {σ : Nat → Int} (g : Int) (h : Sets σ) : σ 11 ≤ cvt σ g 11 ∧ cvt σ g 11 ≤ σ 11 + 1616 := by
  have h5 : 4 ≤ σ 5 ∧ σ 5 ≤ 400 := h.2.2.2.2.2.1
  have h1 := cvU_bd σ g h5
  have h2 := cvD_bd σ g h5
  have h3 := cvF_bd σ g h5
  show σ 11 ≤ (cvU σ g).2.2.2.2 + ((cvD σ g).2.2 + (cvF σ g).2.2) ∧ (cvU σ g).2.2.2.2 + ((cvD σ g).2.2 + (cvF σ g).2.2) ≤ σ 11 + 1616
  omega
theorem cvt_nums {σ : Nat → Int} (g : Int) (h : Sets σ) (hn : Nums σ) : Nums (cvt σ g) := by
  have h5 : 4 ≤ σ 5 ∧ σ 5 ≤ 400 := h.2.2.2.2.2.1
  have h1 := cvU_bd σ g h5
  have h2 := cvD_bd σ g h5
  have h3 := cvF_bd σ g h5
  have h4 := cnt_bd σ g h5
  have e12 : cvt σ g 12 = σ 12 := rfl
  have e13 : cvt σ g 13 = σ 13 := rfl
  have e14 : cvt σ g 14 = σ 14 := rfl
  have e15 : cvt σ g 15 = cnt σ g := rfl
  have e16 : cvt σ g 16 = (cvD σ g).2.2 := rfl
  have e17 : cvt σ g 17 = (cvF σ g).2.2 := rfl
  have e18 : cvt σ g 18 = (cvU σ g).2.2.1 := rfl
  have e19 : cvt σ g 19 = (cvU σ g).2.2.2.1 := rfl
  have e20 : cvt σ g 20 = (cvF σ g).2.1 := rfl
  have e21 : cvt σ g 21 = (cvF σ g).1 := rfl
  have e22 : cvt σ g 22 = 1 := rfl
  rw [← e15] at h4
  rw [← e16] at h2
  rw [← e17, ← e20, ← e21] at h3
  rw [← e18, ← e19] at h1
  omega
/-! a reading -/
def rz (σ : Nat → Int) : Nat → Int := if 0 < σ 8 then (if σ 13 = 0 then up (up (cvt σ 0) 12 (cnt σ 0)) 13 (σ 8 - 1) else up σ 13 (σ 13 - 1)) else σ
/-- the range behind a reading -/
def swr (ov net w r : Int) : Int := if ov = 1 ∨ 16 * w < ab net then (if 0 < r then r - 1 else r) else if ab net < 16 * w / 12 then (if r < 3 then r + 1 else r) else r
def net0 (τ : Nat → Int) : Int := cnt τ (gn (τ 10)) - τ 12
def val0 (τ : Nat → Int) : Int := (net0 τ * 65536).tdiv (τ 5 * gn (τ 10))
def ov0 (τ : Nat → Int) : Int := ovr τ (gn (τ 10))
def rg0 (τ : Nat → Int) : Int := if τ 9 = 1 then swr (ov0 τ) (net0 τ) (τ 5) (τ 10) else τ 10
def rd0 (τ : Nat → Int) : Nat → Int := up (cvt τ (gn (τ 10))) 10 (rg0 τ)
/-- what is kept of a reading, at its place -/
def row0 (τ ρ : Nat → Int) (p : Nat) : Nat → Int := up (up (up (up (up (up (up ρ p (val0 τ)) (p + 1) (net0 τ)) (p + 2) (τ 10)) (p + 3) (ov0 τ)) (p + 4) (τ 11)) (p + 5) (cvt τ (gn (τ 10)) 11)) (p + 6) (τ 12)
def plc (σ : Nat → Int) : Nat := 7 * ((σ 14).toNat % 40)
def rdM (σ : Nat → Int) : Nat → Int := rd0 (rz σ)
def rdS (σ : Nat → Int) : Nat → Int := up (rdM σ) 14 (σ 14 + 1)
def rowS (σ ρ : Nat → Int) : Nat → Int := row0 (rz σ) ρ (plc σ)
theorem swr_bd {ov net w r : Int} (h : 0 ≤ r ∧ r ≤ 3) : 0 ≤ swr ov net w r ∧ swr ov net w r ≤ 3 := by
  unfold swr
  repeat' split
  all_goals omega
theorem rz_sets {σ : Nat → Int} (h : Sets σ) : Sets (rz σ) := by
  unfold rz
  split
  · split
    · exact h
    · exact h
  · exact h
theorem rz_nums {σ : Nat → Int} (h : Sets σ) (hn : Nums σ) : Nums (rz σ) := by
  have h8 : 0 ≤ σ 8 ∧ σ 8 ≤ 10 := h.2.2.2.2.2.2.2.2.1
  have h13 : 0 ≤ σ 13 ∧ σ 13 ≤ 10 := hn.2.1
  unfold rz
  split
  · split
    · obtain ⟨a1, a2, a3, a4, a5, a6, a7, a8, a9, a10, a11⟩ := cvt_nums 0 h hn
      have b := cnt_bd σ 0 h.2.2.2.2.2.1
      exact ⟨show -60000 ≤ cnt σ 0 ∧ cnt σ 0 ≤ 60000 from by omega, show 0 ≤ σ 8 - 1 ∧ σ 8 - 1 ≤ 10 from by omega, a3, a4, a5, a6, a7, a8, a9, a10, a11⟩
    · obtain ⟨a1, a2, a3, a4, a5, a6, a7, a8, a9, a10, a11⟩ := hn
      exact ⟨a1, show 0 ≤ σ 13 - 1 ∧ σ 13 - 1 ≤ 10 from by omega, a3, a4, a5, a6, a7, a8, a9, a10, a11⟩
  · exact hn
theorem rz_time {σ : Nat → Int} (h : Sets σ) : σ 11 ≤ rz σ 11 ∧ rz σ 11 ≤ σ 11 + 1616 := by
  have h1 := cvt_time 0 h
  unfold rz
  split
  · split
    · exact h1
    · show σ 11 ≤ σ 11 ∧ σ 11 ≤ σ 11 + 1616
      omega
  · omega
theorem rz_14 (σ : Nat → Int) : rz σ 14 = σ 14 := by
  unfold rz
  split
  · split <;> rfl
  · rfl
theorem net0_bd {τ : Nat → Int} (h : Sets τ) (h12 : -60000 ≤ τ 12 ∧ τ 12 ≤ 60000) : -90000 ≤ net0 τ ∧ net0 τ ≤ 90000 := by
  have b := cnt_bd τ (gn (τ 10)) h.2.2.2.2.2.1
  unfold net0
  omega
theorem div0 {τ : Nat → Int} (h : Sets τ) : 1 ≤ τ 5 * gn (τ 10) ∧ τ 5 * gn (τ 10) ≤ 400000 := by
  have h5 : 4 ≤ τ 5 ∧ τ 5 ≤ 400 := h.2.2.2.2.2.1
  have g := gn_bd (τ 10)
  have m1 := mul_bd (a := τ 5) (x := gn (τ 10)) (M := 400) (X := 1000) (by omega) h5.2 (by omega) g.2
  have m2 : 0 < τ 5 * gn (τ 10) := Int.mul_pos (by omega) (by omega)
  omega
theorem val0_bd {τ : Nat → Int} (h : Sets τ) (h12 : -60000 ≤ τ 12 ∧ τ 12 ≤ 60000) : -6000000000 ≤ val0 τ ∧ val0 τ ≤ 6000000000 := by
  have n := net0_bd h h12
  have d := div0 h
  have q := tdiv_bd (a := net0 τ * 65536) (q := τ 5 * gn (τ 10)) (B := 6000000000) (by omega) (by omega) (by omega)
  exact q
theorem rd0_sets {τ : Nat → Int} (h : Sets τ) : Sets (rd0 τ) := by
  have h10 : 0 ≤ τ 10 ∧ τ 10 ≤ 3 := h.2.2.2.2.2.2.2.2.2.2
  obtain ⟨h0, h1, h2, h3, h4, h5, h6, h7, h8, h9, -⟩ := h
  refine ⟨h0, h1, h2, h3, h4, h5, h6, h7, h8, h9, ?_⟩
  show 0 ≤ rg0 τ ∧ rg0 τ ≤ 3
  unfold rg0
  split
  · exact swr_bd h10
  · exact h10
theorem rd0_nums {τ : Nat → Int} (h : Sets τ) (hn : Nums τ) : Nums (rd0 τ) := cvt_nums (gn (τ 10)) h hn
theorem rd0_time {τ : Nat → Int} (h : Sets τ) : τ 11 ≤ rd0 τ 11 ∧ rd0 τ 11 ≤ τ 11 + 1616 := cvt_time (gn (τ 10)) h
theorem rdM_sets {σ : Nat → Int} (h : Sets σ) : Sets (rdM σ) := rd0_sets (rz_sets h)
theorem rdM_nums {σ : Nat → Int} (h : Sets σ) (hn : Nums σ) : Nums (rdM σ) := rd0_nums (rz_sets h) (rz_nums h hn)
theorem rdM_time {σ : Nat → Int} (h : Sets σ) : σ 11 ≤ rdM σ 11 ∧ rdM σ 11 ≤ σ 11 + 3232 := by
  have h1 := rz_time h
  have h2 := rd0_time (rz_sets h)
  unfold rdM
  omega
/-! END spec -/
