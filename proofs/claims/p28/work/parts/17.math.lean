set_option linter.unusedVariables false
/-! what a conversion counts -/
def smV (v : Int → Int) : Nat → Int → Int
  | 0, _ => 0
  | n + 1, t => v t + smV v n (t + 1)
theorem smV_snoc (v : Int → Int) : ∀ (n : Nat) (t : Int), smV v (n + 1) t = smV v n t + v (t + n) := by
  intro n
  induction n with
  | zero => intro t; simp only [smV]; rw [show t + ((0 : Nat) : Int) = t from by omega]; omega
  | succ n ih =>
    intro t
    rw [show smV v (n + 1 + 1) t = v t + smV v (n + 1) (t + 1) from rfl, ih (t + 1), show smV v (n + 1) t = v t + smV v n (t + 1) from rfl, show t + 1 + (n : Int) = t + ((n + 1 : Nat) : Int) from by omega]
    omega
theorem smV_app (v : Int → Int) : ∀ (a b : Nat) (t : Int), smV v (a + b) t = smV v a t + smV v b (t + a) := by
  intro a
  induction a with
  | zero => intro b t; rw [Nat.zero_add, show t + ((0 : Nat) : Int) = t from by omega]; simp only [smV]; omega
  | succ a ih =>
    intro b t
    rw [show a + 1 + b = (a + b) + 1 from by omega]
    simp only [smV]
    rw [ih b (t + 1), show t + 1 + (a : Int) = t + ((a + 1 : Nat) : Int) from by omega]
    omega
theorem smV_le {v w : Int → Int} (h : ∀ t, v t ≤ w t) : ∀ (n : Nat) (t : Int), smV v n t ≤ smV w n t := by
  intro n
  induction n with
  | zero => intro t; exact Int.le_refl _
  | succ n ih =>
    intro t
    have h1 := h t
    have h2 := ih (t + 1)
    simp only [smV]
    omega
theorem smV_bd {v : Int → Int} {M : Int} (h : ∀ t, -M ≤ v t ∧ v t ≤ M) : ∀ (n : Nat) (t : Int), -(M * n) ≤ smV v n t ∧ smV v n t ≤ M * n := by
  intro n
  induction n with
  | zero => intro t; simp only [smV]; omega
  | succ n ih =>
    intro t
    have h1 := h t
    have h2 := ih (t + 1)
    have e : M * ((n + 1 : Nat) : Int) = M * n + M := by rw [show ((n + 1 : Nat) : Int) = (n : Int) + 1 from by omega, Int.mul_add, Int.mul_one]
    simp only [smV]
    omega
theorem upL_sum (v : Int → Int) (md sl : Int) : ∀ (n : Nat) (k d x pk sb ad t : Int), (d = 0 ∨ d = 1 ∨ d = -1) →
    (upL v md sl n k d x pk sb ad t).1 = x + smV v n t + 1048576 * ((upL v md sl n k d x pk sb ad t).2.2.2.1 - ad - ((upL v md sl n k d x pk sb ad t).2.2.1 - sb)) := by
  intro n
  induction n with
  | zero => intro k d x pk sb ad t hd; simp only [upL, smV]; omega
  | succ n ih =>
    intro k d x pk sb ad t hd
    have hD : dirn md sl k d x = 0 ∨ dirn md sl k d x = 1 ∨ dirn md sl k d x = -1 := by
      unfold dirn
      split
      · split
        · exact Or.inr (Or.inr rfl)
        · exact Or.inr (Or.inl rfl)
      · exact hd
    have hh := ih (k + 1) (dirn md sl k d x) (stx v md sl k d x t) (mx pk (stx v md sl k d x t)) (if dirn md sl k d x < 0 then sb + 1 else sb) (if 0 < dirn md sl k d x then ad + 1 else ad) (t + 1) hD
    simp only [upL, smV]
    rw [hh]
    unfold stx
    rcases hD with q | q | q <;> rw [q] <;> simp <;> omega
theorem upL_pk (v : Int → Int) (md sl : Int) : ∀ (n : Nat) (k d x pk sb ad t : Int), ab x ≤ pk → ab (upL v md sl n k d x pk sb ad t).1 ≤ (upL v md sl n k d x pk sb ad t).2.1 := by
  intro n
  induction n with
  | zero => intro k d x pk sb ad t h; exact h
  | succ n ih =>
    intro k d x pk sb ad t h
    simp only [upL]
    exact ih _ _ _ _ _ _ _ (by unfold mx; split <;> omega)
theorem dnL_pk : ∀ (n : Nat) (s x pk d : Int), ab x ≤ pk → ab (dnL n s x pk d).1 ≤ (dnL n s x pk d).2.1 := by
  intro n
  induction n with
  | zero => intro s x pk d h; exact h
  | succ n ih =>
    intro s x pk d h
    simp only [dnL]
    split
    · exact ih _ _ _ _ (by unfold mx; split <;> omega)
    · exact h
theorem fnL_pk : ∀ (n : Nat) (s x pk d : Int), ab x ≤ pk → ab (fnL n s x pk d).1 ≤ (fnL n s x pk d).2.1 := by
  intro n
  induction n with
  | zero => intro s x pk d h; exact h
  | succ n ih =>
    intro s x pk d h
    simp only [fnL]
    split
    · exact ih _ _ _ _ (by unfold mx; split <;> omega)
    · exact h
theorem dnL_sum : ∀ (n : Nat) (s x pk d : Int), (s = 0 ∨ s = 1 ∨ s = -1) → (dnL n s x pk d).1 = x - s * 1048576 * ((dnL n s x pk d).2.2 - d) := by
  intro n
  induction n with
  | zero => intro s x pk d hs; simp only [dnL]; rcases hs with rfl | rfl | rfl <;> omega
  | succ n ih =>
    intro s x pk d hs
    simp only [dnL]
    split
    · rw [ih _ _ _ _ hs]
      rcases hs with rfl | rfl | rfl <;> omega
    · show x = x - s * 1048576 * (d - d)
      rw [Int.sub_self, Int.mul_zero, Int.sub_zero]
theorem fnL_sum : ∀ (n : Nat) (s x pk d : Int), (s = 0 ∨ s = 1 ∨ s = -1) → (fnL n s x pk d).1 = x + s * 65536 * ((fnL n s x pk d).2.2 - d) := by
  intro n
  induction n with
  | zero => intro s x pk d hs; simp only [fnL]; rcases hs with rfl | rfl | rfl <;> omega
  | succ n ih =>
    intro s x pk d hs
    simp only [fnL]
    split
    · rw [ih _ _ _ _ hs]
      rcases hs with rfl | rfl | rfl <;> omega
    · show x = x + s * 65536 * (d - d)
      rw [Int.sub_self, Int.mul_zero, Int.add_zero]
theorem dnL_all : ∀ (n : Nat) (s x pk d : Int), s ≠ 0 → sg (dnL n s x pk d).1 = s → (dnL n s x pk d).2.2 = d + n := by
  intro n
  induction n with
  | zero => intro s x pk d hs h; simp only [dnL]; omega
  | succ n ih =>
    intro s x pk d hs h
    simp only [dnL] at h ⊢
    by_cases c : s ≠ 0 ∧ sg x = s
    · rw [if_pos c] at h ⊢
      rw [ih _ _ _ _ hs h]
      omega
    · rw [if_neg c] at h
      exact absurd ⟨hs, h⟩ c
theorem fnL_p : ∀ (n : Nat) (x pk f : Int), -(65536 * (n : Int)) ≤ x → x < 65536 → 0 ≤ (fnL n 1 x pk f).1 ∧ (fnL n 1 x pk f).1 < 65536 := by
  intro n
  induction n with
  | zero => intro x pk f h1 h2; simp only [fnL]; omega
  | succ n ih =>
    intro x pk f h1 h2
    simp only [fnL]
    rcases sg_c x with h | h | h
    · rw [if_neg (by omega)]; show 0 ≤ x ∧ x < 65536; omega
    · rw [if_pos (by omega)]; exact ih _ _ _ (by omega) (by omega)
    · rw [if_neg (by omega)]; show 0 ≤ x ∧ x < 65536; omega
theorem fnL_n : ∀ (n : Nat) (x pk f : Int), x ≤ 65536 * (n : Int) → -65536 < x → -65536 < (fnL n (-1) x pk f).1 ∧ (fnL n (-1) x pk f).1 ≤ 0 := by
  intro n
  induction n with
  | zero => intro x pk f h1 h2; simp only [fnL]; omega
  | succ n ih =>
    intro x pk f h1 h2
    simp only [fnL]
    rcases sg_c x with h | h | h
    · rw [if_pos (by omega)]; exact ih _ _ _ (by omega) (by omega)
    · rw [if_neg (by omega)]; show -65536 < x ∧ x ≤ 0; omega
    · rw [if_neg (by omega)]; show -65536 < x ∧ x ≤ 0; omega
theorem fnL_stay : ∀ (n : Nat) (s x pk f : Int), (s ≠ 0 → sg x ≠ -s) → fnL n s x pk f = (x, pk, f) := by
  intro n s x pk f h
  cases n with
  | zero => rfl
  | succ n => simp only [fnL]; rw [if_neg (fun q => h q.1 q.2)]
/-- what came in: the run-up's sum without the reference -/
def inS (σ : Nat → Int) (g : Int) : Int := smV (volt σ g) (σ 5).toNat (σ 11)
/-- the counts in the run-up -/
def upC (σ : Nat → Int) (g : Int) : Int := 16 * ((cvU σ g).2.2.1 - (cvU σ g).2.2.2.1)
theorem cvU_sum (σ : Nat → Int) (g : Int) : (cvU σ g).1 = inS σ g - 65536 * upC σ g := by
  have h := upL_sum (volt σ g) (σ 7) (σ 6) (σ 5).toNat 0 0 0 0 0 0 (σ 11) (Or.inl rfl)
  unfold upC inS
  have h2 : (cvU σ g).1 = 0 + smV (volt σ g) (σ 5).toNat (σ 11) + 1048576 * ((cvU σ g).2.2.2.1 - 0 - ((cvU σ g).2.2.1 - 0)) := h
  omega
/-- counts times a sixteenth, and what is left, are what came in; what is left is less than a sixteenth, unless it is over -/
theorem cv_char (σ : Nat → Int) (g : Int) (h5 : 4 ≤ σ 5 ∧ σ 5 ≤ 400) :
    (cvF σ g).1 = inS σ g - 65536 * cnt σ g ∧ ab (cvF σ g).1 ≤ (cvF σ g).2.1 ∧
    (ovr σ g = 0 → -65535 ≤ (cvF σ g).1 ∧ (cvF σ g).1 ≤ 65535) ∧ (ovr σ g = 1 → (cvD σ g).2.2 = 3 * σ 5) ∧
    ((0 < (cvU σ g).1 ∧ 0 ≤ (cvF σ g).1 ∧ cnt σ g - upC σ g ≤ 48 * σ 5 ∧ (cnt σ g - upC σ g = 48 * σ 5 ∨ (cvF σ g).1 ≤ 65535)) ∨
     ((cvU σ g).1 < 0 ∧ (cvF σ g).1 ≤ 0 ∧ -(48 * σ 5) ≤ cnt σ g - upC σ g ∧ (cnt σ g - upC σ g = -(48 * σ 5) ∨ -65535 ≤ (cvF σ g).1)) ∨
     ((cvU σ g).1 = 0 ∧ (cvF σ g).1 = 0 ∧ cnt σ g = upC σ g)) := by
  have hU := cvU_sum σ g
  have hp1 : ab (cvU σ g).1 ≤ (cvU σ g).2.1 := upL_pk _ _ _ _ _ _ _ _ _ _ _ (by decide)
  have hp2 : ab (cvD σ g).1 ≤ (cvD σ g).2.1 := dnL_pk _ _ _ _ _ hp1
  have hp3 : ab (cvF σ g).1 ≤ (cvF σ g).2.1 := fnL_pk _ _ _ _ _ hp2
  have hsc := cvS_c σ g
  have hD : (cvD σ g).1 = (cvU σ g).1 - cvS σ g * 1048576 * ((cvD σ g).2.2 - 0) := dnL_sum _ _ _ _ _ hsc
  have hF : (cvF σ g).1 = (cvD σ g).1 + cvS σ g * 65536 * ((cvF σ g).2.2 - 0) := fnL_sum _ _ _ _ _ hsc
  have hbD := cvD_bd σ g h5
  have hbF := cvF_bd σ g h5
  have hdb := (dnL_bd (3 * (σ 5)).toNat (cvS σ g) (cvU σ g).1 (cvU σ g).2.1 0 1677721600 hsc (by omega) (cvU_bd σ g h5).1 (cvU_bd σ g h5).2.1 (by omega)).2.2
  have hdb : 0 ≤ (cvD σ g).2.2 ∧ (cvD σ g).2.2 ≤ 0 + (((3 * σ 5).toNat : Nat) : Int) := hdb
  have hall : cvS σ g ≠ 0 → sg (cvD σ g).1 = cvS σ g → (cvD σ g).2.2 = 0 + (((3 * σ 5).toNat : Nat) : Int) := dnL_all _ _ _ _ _
  have hsU : cvS σ g = sg (cvU σ g).1 := rfl
  have hend := dnL_end (3 * (σ 5)).toNat (cvS σ g) (cvU σ g).1 (cvU σ g).2.1 0 hsc (fun q => by rcases sg_c (cvU σ g).1 with h | h | h <;> omega) (Or.inl hsU.symm)
  have hend : (sg (cvD σ g).1 = cvS σ g) ∨ (cvS σ g = 1 ∧ -1048576 < (cvD σ g).1 ∧ (cvD σ g).1 ≤ 0) ∨ (cvS σ g = -1 ∧ 0 ≤ (cvD σ g).1 ∧ (cvD σ g).1 < 1048576) := hend
  have hcnt : cnt σ g = upC σ g + cvS σ g * (16 * (cvD σ g).2.2 - (cvF σ g).2.2) := rfl
  have hov : ovr σ g = bI (cvS σ g ≠ 0 ∧ sg (cvD σ g).1 = cvS σ g) := rfl
  have hst : (cvS σ g ≠ 0 → sg (cvD σ g).1 ≠ -cvS σ g) → cvF σ g = ((cvD σ g).1, (cvD σ g).2.1, 0) := fun q => fnL_stay 16 _ _ _ 0 q
  have hf0 : 0 ≤ (cvF σ g).2.2 := by omega
  rcases sg_c (cvU σ g).1 with ⟨h, e⟩ | ⟨h, e⟩ | ⟨h, e⟩
  · have e1 : cvS σ g = 1 := e
    have hfp : -(65536 * ((16 : Nat) : Int)) ≤ (cvD σ g).1 → (cvD σ g).1 < 65536 → 0 ≤ (cvF σ g).1 ∧ (cvF σ g).1 < 65536 := by
      intro a b
      have := fnL_p 16 (cvD σ g).1 (cvD σ g).2.1 0 a b
      rw [← e1] at this
      exact this
    rw [e1] at hD hF hcnt hend hall hst hov
    rw [Int.one_mul] at hcnt
    by_cases ho : sg (cvD σ g).1 = 1
    · have h1 : ovr σ g = 1 := by rw [hov]; exact bI_t ⟨by omega, ho⟩
      have h2 := hall (by omega) ho
      have h3 := hst (fun _ => by omega)
      have h4 : (cvF σ g).2.2 = 0 := by rw [h3]
      have h5' : 0 < (cvD σ g).1 := by rcases sg_c (cvD σ g).1 with q | q | q <;> omega
      refine ⟨by omega, hp3, fun q => by omega, fun _ => by omega, Or.inl ⟨h, by omega, by omega, Or.inl (by omega)⟩⟩
    · have h1 : ovr σ g = 0 := by rw [hov]; exact bI_f (fun q => ho q.2)
      have h3 := hfp (by omega) (by omega)
      refine ⟨by omega, hp3, fun q => by omega, fun _ => by omega, Or.inl ⟨h, by omega, by omega, Or.inr (by omega)⟩⟩
  · have e1 : cvS σ g = -1 := e
    have hfp : (cvD σ g).1 ≤ 65536 * ((16 : Nat) : Int) → -65536 < (cvD σ g).1 → -65536 < (cvF σ g).1 ∧ (cvF σ g).1 ≤ 0 := by
      intro a b
      have := fnL_n 16 (cvD σ g).1 (cvD σ g).2.1 0 a b
      rw [← e1] at this
      exact this
    rw [e1] at hD hF hcnt hend hall hst hov
    by_cases ho : sg (cvD σ g).1 = -1
    · have h1 : ovr σ g = 1 := by rw [hov]; exact bI_t ⟨by omega, ho⟩
      have h2 := hall (by omega) ho
      have h3 := hst (fun _ => by omega)
      have h4 : (cvF σ g).2.2 = 0 := by rw [h3]
      have h5' : (cvD σ g).1 < 0 := by rcases sg_c (cvD σ g).1 with q | q | q <;> omega
      refine ⟨by omega, hp3, fun q => by omega, fun _ => by omega, Or.inr (Or.inl ⟨h, by omega, by omega, Or.inl (by omega)⟩)⟩
    · have h1 : ovr σ g = 0 := by rw [hov]; exact bI_f (fun q => ho q.2)
      have h3 := hfp (by omega) (by omega)
      refine ⟨by omega, hp3, fun q => by omega, fun _ => by omega, Or.inr (Or.inl ⟨h, by omega, by omega, Or.inr (by omega)⟩)⟩
  · have e1 : cvS σ g = 0 := e
    rw [e1] at hD hF hcnt hov
    rw [Int.zero_mul] at hcnt
    have h1 : ovr σ g = 0 := by rw [hov]; exact bI_f (fun q => q.1 rfl)
    refine ⟨by omega, hp3, fun q => by omega, fun _ => by omega, Or.inr (Or.inr ⟨h, by omega, by omega⟩)⟩
/-! one slope -/
theorem upL_dual (v : Int → Int) (sl : Int) : ∀ (n : Nat) (k x pk sb ad t : Int), (upL v 0 sl n k 0 x pk sb ad t).2.2.1 = sb ∧ (upL v 0 sl n k 0 x pk sb ad t).2.2.2.1 = ad := by
  intro n
  induction n with
  | zero => intro k x pk sb ad t; exact ⟨rfl, rfl⟩
  | succ n ih =>
    intro k x pk sb ad t
    have e : dirn 0 sl k 0 x = 0 := by unfold dirn; rw [if_neg (by omega)]
    simp only [upL]
    rw [e]
    exact ih _ _ _ _ _ _
theorem upL_multi (v : Int → Int) (sl : Int) : ∀ (n : Nat) (k d x pk sb ad t : Int), (k % sl = 0 ∨ d = 1 ∨ d = -1) → (upL v 1 sl n k d x pk sb ad t).2.2.1 + (upL v 1 sl n k d x pk sb ad t).2.2.2.1 = sb + ad + n := by
  intro n
  induction n with
  | zero => intro k d x pk sb ad t h; simp only [upL]; omega
  | succ n ih =>
    intro k d x pk sb ad t h
    have e : dirn 1 sl k d x = 1 ∨ dirn 1 sl k d x = -1 := by
      unfold dirn
      split
      · split
        · exact Or.inr rfl
        · exact Or.inl rfl
      · rename_i hn
        rcases h with h | h
        · exact absurd ⟨rfl, h⟩ hn
        · exact h
    simp only [upL]
    rw [ih _ _ _ _ _ _ _ (Or.inr e)]
    rcases e with e | e <;> rw [e] <;> simp <;> omega
theorem cvU_ticks (σ : Nat → Int) (g : Int) (h5 : 4 ≤ σ 5 ∧ σ 5 ≤ 400) (h7 : 0 ≤ σ 7 ∧ σ 7 ≤ 1) : (cvU σ g).2.2.1 + (cvU σ g).2.2.2.1 = (if σ 7 = 1 then σ 5 else 0) := by
  by_cases h : σ 7 = 1
  · have e := upL_multi (volt σ g) (σ 6) (σ 5).toNat 0 0 0 0 0 0 (σ 11) (Or.inl (Int.zero_emod _))
    rw [if_pos h]
    unfold cvU
    rw [h, e]
    omega
  · have h0 : σ 7 = 0 := by omega
    have e := upL_dual (volt σ g) (σ 6) (σ 5).toNat 0 0 0 0 0 (σ 11)
    rw [if_neg h]
    unfold cvU
    rw [h0, e.1, e.2]
    omega
theorem upC_dual (σ : Nat → Int) (g : Int) (h7 : σ 7 = 0) : upC σ g = 0 := by
  have e := upL_dual (volt σ g) (σ 6) (σ 5).toNat 0 0 0 0 0 (σ 11)
  unfold upC cvU
  rw [h7, e.1, e.2]
  omega
/-- with one slope counts do not fall with what came in -/
theorem cnt_mono {σ τ : Nat → Int} {g k : Int} (h5 : 4 ≤ σ 5 ∧ σ 5 ≤ 400) (e5 : τ 5 = σ 5) (h7 : σ 7 = 0) (k7 : τ 7 = 0) (h : inS σ g ≤ inS τ k) : cnt σ g ≤ cnt τ k := by
  obtain ⟨a1, -, -, -, a2⟩ := cv_char σ g h5
  obtain ⟨b1, -, -, -, b2⟩ := cv_char τ k (by omega)
  have a3 := cvU_sum σ g
  have b3 := cvU_sum τ k
  have a4 := upC_dual σ g h7
  have b4 := upC_dual τ k k7
  rw [a4] at a2 a3
  rw [b4, e5] at b2
  rw [b4] at b3
  rcases a2 with a2 | a2 | a2 <;> rcases b2 with b2 | b2 | b2 <;> omega
theorem cnt_same {σ τ : Nat → Int} {g k : Int} (h5 : 4 ≤ σ 5 ∧ σ 5 ≤ 400) (e5 : τ 5 = σ 5) (h7 : σ 7 = 0) (k7 : τ 7 = 0) (h : inS σ g = inS τ k) : cnt σ g = cnt τ k :=
  Int.le_antisymm (cnt_mono h5 e5 h7 k7 (by omega)) (cnt_mono (by omega) e5.symm k7 h7 (by omega))
theorem tdiv_mono {a b q : Int} (hq : 0 < q) (h : a ≤ b) : a.tdiv q ≤ b.tdiv q := by
  rcases Int.lt_or_le a 0 with ha | ha
  · obtain ⟨x, rfl⟩ : ∃ x, a = -x := ⟨-a, by omega⟩
    have hx : 0 ≤ x / q := Int.ediv_nonneg (by omega) (by omega)
    rw [Int.neg_tdiv, Int.tdiv_eq_ediv_of_nonneg (show 0 ≤ x by omega)]
    rcases Int.lt_or_le b 0 with hb | hb
    · obtain ⟨y, rfl⟩ : ∃ y, b = -y := ⟨-b, by omega⟩
      rw [Int.neg_tdiv, Int.tdiv_eq_ediv_of_nonneg (show 0 ≤ y by omega)]
      have := Int.ediv_le_ediv hq (show y ≤ x by omega)
      omega
    · rw [Int.tdiv_eq_ediv_of_nonneg hb]
      have := Int.ediv_nonneg hb (show 0 ≤ q by omega)
      omega
  · rw [Int.tdiv_eq_ediv_of_nonneg ha, Int.tdiv_eq_ediv_of_nonneg (show 0 ≤ b by omega)]
    exact Int.ediv_le_ediv hq h
/-! a reading with another level -/
theorem volt_l0 (σ : Nat → Int) (v : Int) : volt (up σ 0 v) 0 = volt σ 0 := by
  funext t
  show inpg v (σ 1) (σ 2) t 0 + offs (σ 3) (σ 4) t = inpg (σ 0) (σ 1) (σ 2) t 0 + offs (σ 3) (σ 4) t
  rw [inpg_0, inpg_0]
theorem cvU_l0 (σ : Nat → Int) (v : Int) : cvU (up σ 0 v) 0 = cvU σ 0 := by
  show upL (volt (up σ 0 v) 0) (σ 7) (σ 6) (σ 5).toNat 0 0 0 0 0 0 (σ 11) = upL (volt σ 0) (σ 7) (σ 6) (σ 5).toNat 0 0 0 0 0 0 (σ 11)
  rw [volt_l0]
theorem cvS_l0 (σ : Nat → Int) (v : Int) : cvS (up σ 0 v) 0 = cvS σ 0 := by unfold cvS; rw [cvU_l0]
theorem cvD_l0 (σ : Nat → Int) (v : Int) : cvD (up σ 0 v) 0 = cvD σ 0 := by
  show dnL (3 * σ 5).toNat (cvS (up σ 0 v) 0) (cvU (up σ 0 v) 0).1 (cvU (up σ 0 v) 0).2.1 0 = dnL (3 * σ 5).toNat (cvS σ 0) (cvU σ 0).1 (cvU σ 0).2.1 0
  rw [cvS_l0, cvU_l0]
theorem cvF_l0 (σ : Nat → Int) (v : Int) : cvF (up σ 0 v) 0 = cvF σ 0 := by unfold cvF; rw [cvS_l0, cvD_l0]
theorem cnt_l0 (σ : Nat → Int) (v : Int) : cnt (up σ 0 v) 0 = cnt σ 0 := by unfold cnt; rw [cvS_l0, cvD_l0, cvF_l0, cvU_l0]
theorem rz_set (σ : Nat → Int) (k : Nat) (h : k ≤ 10 ∨ k = 14) : rz σ k = σ k := by
  have e : ∀ g, cvt σ g k = σ k := by
    intro g
    rcases (show k = 0 ∨ k = 1 ∨ k = 2 ∨ k = 3 ∨ k = 4 ∨ k = 5 ∨ k = 6 ∨ k = 7 ∨ k = 8 ∨ k = 9 ∨ k = 10 ∨ k = 14 from by omega) with rfl | rfl | rfl | rfl | rfl | rfl | rfl | rfl | rfl | rfl | rfl | rfl <;> rfl
  unfold rz
  split
  · split
    · rw [up_n _ _ (by omega), up_n _ _ (by omega)]; exact e 0
    · rw [up_n _ _ (by omega)]
  · rfl
theorem rz_l (σ : Nat → Int) (v : Int) : rz (up σ 0 v) 11 = rz σ 11 ∧ rz (up σ 0 v) 12 = rz σ 12 := by
  have e11 : cvt (up σ 0 v) 0 11 = cvt σ 0 11 := by
    show (cvU (up σ 0 v) 0).2.2.2.2 + ((cvD (up σ 0 v) 0).2.2 + (cvF (up σ 0 v) 0).2.2) = (cvU σ 0).2.2.2.2 + ((cvD σ 0).2.2 + (cvF σ 0).2.2)
    rw [cvU_l0, cvD_l0, cvF_l0]
  have e8 : up σ 0 v 8 = σ 8 := rfl
  have e13 : up σ 0 v 13 = σ 13 := rfl
  unfold rz
  rw [e8, e13]
  split
  · split
    · exact ⟨e11, cnt_l0 σ v⟩
    · exact ⟨rfl, rfl⟩
  · exact ⟨rfl, rfl⟩
theorem lim_mono {a b m : Int} (h : a ≤ b) (hm : 0 ≤ m) : lim a m ≤ lim b m := by
  unfold lim
  repeat' split
  all_goals omega
theorem volt_mono {lv lw am pe bi dr g t : Int} (hg : 0 ≤ g) (h : lv ≤ lw) : inpg lv am pe t g + offs bi dr t ≤ inpg lw am pe t g + offs bi dr t := by
  have e : (lv + hum am pe t) * g ≤ (lw + hum am pe t) * g := Int.mul_le_mul_of_nonneg_right (by omega) hg
  have := lim_mono (m := 2500000) e (by omega)
  unfold inpg
  omega
theorem inS_of {σ : Nat → Int} {lv am pe bi dr : Int} {n : Nat} {t g : Int} (h0 : σ 0 = lv) (h1 : σ 1 = am) (h2 : σ 2 = pe) (h3 : σ 3 = bi) (h4 : σ 4 = dr) (h5 : (σ 5).toNat = n) (h11 : σ 11 = t) : inS σ g = smV (fun t => inpg lv am pe t g + offs bi dr t) n t := by
  subst h0 h1 h2 h3 h4 h5 h11
  rfl
/-- with one slope values do not fall with the level -/
theorem vwl_mono {σ : Nat → Int} (hs : Sets σ) (h7 : σ 7 = 0) {v w : Int} (h : v ≤ w) : vwl σ v ≤ vwl σ w := by
  have h5 : 4 ≤ σ 5 ∧ σ 5 ≤ 400 := hs.2.2.2.2.2.1
  have a := rz_l σ v
  have b := rz_l σ w
  have ea : ∀ k, k ≤ 10 → rz (up σ 0 v) k = up σ 0 v k := fun k hk => rz_set _ _ (Or.inl hk)
  have eb : ∀ k, k ≤ 10 → rz (up σ 0 w) k = up σ 0 w k := fun k hk => rz_set _ _ (Or.inl hk)
  have g0 := gn_bd (σ 10)
  have hS : inS (rz (up σ 0 v)) (gn (σ 10)) ≤ inS (rz (up σ 0 w)) (gn (σ 10)) := by
    rw [inS_of (σ := rz (up σ 0 v)) (ea 0 (by omega)) (ea 1 (by omega)) (ea 2 (by omega)) (ea 3 (by omega)) (ea 4 (by omega)) (congrArg Int.toNat (ea 5 (by omega))) a.1,
      inS_of (σ := rz (up σ 0 w)) (eb 0 (by omega)) (eb 1 (by omega)) (eb 2 (by omega)) (eb 3 (by omega)) (eb 4 (by omega)) (congrArg Int.toNat (eb 5 (by omega))) b.1]
    exact smV_le (fun t => volt_mono (by omega) h) _ _
  have a5 : rz (up σ 0 v) 5 = σ 5 := ea 5 (by omega)
  have b5 : rz (up σ 0 w) 5 = σ 5 := eb 5 (by omega)
  have a7 : rz (up σ 0 v) 7 = σ 7 := ea 7 (by omega)
  have b7 : rz (up σ 0 w) 7 = σ 7 := eb 7 (by omega)
  have a10 : rz (up σ 0 v) 10 = σ 10 := ea 10 (by omega)
  have b10 : rz (up σ 0 w) 10 = σ 10 := eb 10 (by omega)
  have hc := cnt_mono (σ := rz (up σ 0 v)) (τ := rz (up σ 0 w)) (by omega) (by omega) (by omega) (by omega) hS
  have hd := div0 hs
  unfold vwl val0 net0
  rw [a5, b5, a10, b10]
  exact tdiv_mono (by omega) (by omega)
theorem orL_0 {σ : Nat → Int} (hs : Sets σ) (h7 : σ 7 = 0) {f st : Int} (hst : 0 ≤ st) : ∀ (n : Nat) (i b x : Int), b = vwl σ (f + (i - 1) * st) → orL σ f st 0 n i b x = x := by
  intro n
  induction n with
  | zero => intro i b x h; rfl
  | succ n ih =>
    intro i b x h
    have e : f + (i - 1) * st ≤ f + i * st := by
      have : (i - 1) * st = i * st - st := by rw [Int.sub_mul, Int.one_mul]
      omega
    have m := vwl_mono hs h7 e
    simp only [orL]
    rw [if_neg (by rw [if_pos trivial]; omega)]
    exact ih _ _ _ (by rw [show i + 1 - 1 = i from by omega])
theorem orL_bd (σ : Nat → Int) (f st w : Int) : ∀ (n : Nat) (i b x : Int), x ≤ orL σ f st w n i b x ∧ orL σ f st w n i b x ≤ x + n := by
  intro n
  induction n with
  | zero => intro i b x; simp only [orL]; omega
  | succ n ih =>
    intro i b x
    have := ih (i + 1) (vwl σ (f + i * st)) (if (if w = 0 then vwl σ (f + i * st) < b else vwl σ (f + i * st) = b) then x + 1 else x)
    simp only [orL]
    by_cases c : (if w = 0 then vwl σ (f + i * st) < b else vwl σ (f + i * st) = b)
    · rw [if_pos c] at this ⊢; omega
    · rw [if_neg c] at this ⊢; omega
/-- the border -/
theorem lfL_border (σ : Nat → Int) (v : Int) : ∀ (m : Nat) (l h : Int), l ≤ h → h - l < 2 ^ m → v ≤ vwl σ h → (l = -3000000 ∨ vwl σ (l - 1) < v) → v ≤ vwl σ (lfL σ v m l h) ∧ (lfL σ v m l h = -3000000 ∨ vwl σ (lfL σ v m l h - 1) < v) := by
  intro m
  induction m with
  | zero =>
    intro l h h1 h2 h3 h4
    have e : l = h := by have : (2 : Int) ^ 0 = 1 := rfl; omega
    subst e
    exact ⟨h3, h4⟩
  | succ m ih =>
    intro l h h1 h2 h3 h4
    have e : (2 : Int) ^ (m + 1) = 2 * 2 ^ m := by rw [Int.pow_succ, Int.mul_comm]
    rw [e] at h2
    simp only [lfL]
    split
    · split
      · rename_i c; exact ih _ _ (by omega) (by omega) c h4
      · rename_i c; exact ih _ _ (by omega) (by omega) h3 (Or.inr (by rw [show (l + h) / 2 + 1 - 1 = (l + h) / 2 from by omega]; omega))
    · rename_i c
      have e : l = h := by omega
      subst e
      exact ⟨h3, h4⟩
/-! whole periods of hum -/
theorem hum_anti {am pe t : Int} (hp : inPe pe) : hum am pe (t + pe / 2) = -hum am pe t := by
  have hq := pe_q hp
  have hr := rem_bd hp t
  generalize hqe : pe / 4 = q at hq
  have ep2 : pe / 2 = 2 * q := by omega
  have hu : (t + pe / 2) % pe = if t % pe < 2 * q then t % pe + 2 * q else t % pe - 2 * q := by
    rw [ep2]
    split
    · rw [← Int.emod_add_emod, Int.emod_eq_of_lt (by omega) (by omega)]
    · rw [← Int.emod_add_emod, show t % pe + 2 * q = t % pe - 2 * q + pe from by omega, Int.add_emod_right, Int.emod_eq_of_lt (by omega) (by omega)]
  unfold hum
  rw [hqe, hu]
  generalize t % pe = u at hr
  by_cases c : u < 2 * q
  · rw [if_pos c]
    by_cases c1 : u < q
    · rw [if_neg (show ¬ u + 2 * q < q by omega), if_pos (show u + 2 * q < 3 * q by omega), if_pos c1, show 2 * q - (u + 2 * q) = -u from by omega, Int.mul_neg, Int.neg_tdiv]
    · rw [if_neg (show ¬ u + 2 * q < q by omega), if_neg (show ¬ u + 2 * q < 3 * q by omega), if_neg c1, if_pos (show u < 3 * q by omega), show u + 2 * q - 4 * q = -(2 * q - u) from by omega, Int.mul_neg, Int.neg_tdiv]
  · rw [if_neg c]
    by_cases c1 : u < 3 * q
    · rw [if_pos (show u - 2 * q < q by omega), if_neg (show ¬ u < q by omega), if_pos c1, show 2 * q - u = -(u - 2 * q) from by omega, Int.mul_neg, Int.neg_tdiv, Int.neg_neg]
    · rw [if_neg (show ¬ u - 2 * q < q by omega), if_pos (show u - 2 * q < 3 * q by omega), if_neg (show ¬ u < q by omega), if_neg c1, show u - 4 * q = -(2 * q - (u - 2 * q)) from by omega, Int.mul_neg, Int.neg_tdiv, Int.neg_neg]
theorem smV_neg {v : Int → Int} {d : Int} (h : ∀ t, v (t + d) = -v t) : ∀ (n : Nat) (t : Int), smV v n (t + d) = -smV v n t := by
  intro n
  induction n with
  | zero => intro t; rfl
  | succ n ih =>
    intro t
    simp only [smV]
    rw [h t, show t + d + 1 = t + 1 + d from by omega, ih (t + 1)]
    omega
theorem hum_one {am pe : Int} (hp : inPe pe) (t : Int) : smV (hum am pe) pe.toNat t = 0 := by
  have e : pe.toNat = (pe / 2).toNat + (pe / 2).toNat := by omega
  rw [e, smV_app, show ((pe / 2).toNat : Int) = pe / 2 from by omega, smV_neg (fun t => hum_anti hp)]
  omega
theorem hum_many {am pe : Int} (hp : inPe pe) : ∀ (k : Nat) (t : Int), smV (hum am pe) (k * pe.toNat) t = 0 := by
  intro k
  induction k with
  | zero => intro t; rw [Nat.zero_mul]; rfl
  | succ k ih =>
    intro t
    rw [Nat.succ_mul, smV_app, ih, hum_one hp]
    rfl
theorem hum_0 (pe t : Int) : hum 0 pe t = 0 := by
  unfold hum
  simp only [Int.zero_mul, Int.zero_tdiv]
  split
  · rfl
  · split <;> rfl
theorem smV_ext {v w : Int → Int} (h : ∀ t, v t = w t) : ∀ (n : Nat) (t : Int), smV v n t = smV w n t := by
  intro n
  induction n with
  | zero => intro t; rfl
  | succ n ih => intro t; simp only [smV]; rw [h, ih]
theorem smV_add (v : Int → Int) (c : Int) : ∀ (n : Nat) (t : Int), smV (fun t => v t + c) n t = smV v n t + n * c := by
  intro n
  induction n with
  | zero => intro t; simp only [smV]; omega
  | succ n ih =>
    intro t
    simp only [smV]
    rw [ih, show ((n + 1 : Nat) : Int) * c = n * c + c from by rw [show ((n + 1 : Nat) : Int) = (n : Int) + 1 from by omega, Int.add_mul, Int.one_mul]]
    omega
/-- without drift, in the first range, nothing limited: whole periods give the level and the bias alone -/
theorem inS_whole {lv am pe bi t : Int} {k : Nat} (hp : inPe pe) (ha : 0 ≤ am ∧ am ≤ 1000000) (hl : -1500000 ≤ lv ∧ lv ≤ 1500000) (hb : -500000 ≤ bi ∧ bi ≤ 500000) : smV (fun t => inpg lv am pe t 1 + offs bi 0 t) (k * pe.toNat) t = ((k * pe.toNat : Nat) : Int) * (lv + bi) := by
  have e : ∀ t, inpg lv am pe t 1 + offs bi 0 t = hum am pe t + (lv + bi) := by
    intro t
    have h := hum_bd (t := t) ha hp
    unfold inpg offs lim
    rw [Int.mul_one, Int.zero_mul, Int.zero_tdiv]
    rw [if_neg (by omega), if_neg (by omega), if_neg (by omega), if_neg (by omega)]
    omega
  rw [smV_ext e, smV_add, hum_many hp]
  omega
/-- where zeros are not due, range 0, one slope: the counts depend on what comes in alone -/
theorem val_of {σ τ : Nat → Int} (h5 : 4 ≤ σ 5 ∧ σ 5 ≤ 400) (h8 : σ 8 = 0) (k8 : τ 8 = 0) (h10 : σ 10 = 0) (k10 : τ 10 = 0) (e5 : τ 5 = σ 5) (h7 : σ 7 = 0) (k7 : τ 7 = 0) (e12 : τ 12 = σ 12) (h : inS σ 1 = inS τ 1) : val0 (rz σ) = val0 (rz τ) := by
  have e1 : rz σ = σ := by unfold rz; rw [if_neg (by omega)]
  have e2 : rz τ = τ := by unfold rz; rw [if_neg (by omega)]
  have eg : gn 0 = 1 := rfl
  rw [e1, e2]
  unfold val0 net0
  rw [h10, k10, e5, e12, eg, cnt_same h5 e5 h7 k7 h]
/-- the meter that 'cancelled' makes -/
abbrev cncl (σ : Nat → Int) : Prop := Sets σ ∧ σ 8 = 0 ∧ σ 9 = 0 ∧ σ 10 = 0 ∧ σ 4 = 0 ∧ σ 7 = 0 ∧ -1500000 ≤ σ 0 ∧ σ 0 ≤ 1500000
theorem cncl_val {σ τ : Nat → Int} {k : Nat} (h : cncl σ) (h' : cncl τ) (e0 : τ 0 = σ 0) (e2 : τ 2 = σ 2) (e3 : τ 3 = σ 3) (e5 : τ 5 = σ 5) (e12 : τ 12 = σ 12) (hk : (σ 5).toNat = k * (σ 2).toNat) : val0 (rz σ) = val0 (rz τ) := by
  obtain ⟨⟨s0, s1, s2, s3, s4, s5, -⟩, a8, a9, a10, a4, a7, a0, a0'⟩ := h
  obtain ⟨⟨t0, t1, t2, t3, t4, t5, -⟩, b8, b9, b10, b4, b7, b0, b0'⟩ := h'
  refine val_of s5 a8 b8 a10 b10 e5 a7 b7 e12 ?_
  rw [inS_of (σ := σ) rfl rfl rfl rfl a4 hk rfl, inS_of (σ := τ) e0 rfl e2 e3 b4 ((congrArg Int.toNat e5).trans hk) rfl]
  rw [inS_whole s2 s1 ⟨a0, a0'⟩ (by omega), inS_whole s2 t1 ⟨a0, a0'⟩ (by omega)]
theorem ripL_c {σ : Nat → Int} {n : Int} (c : Int) (h : ∀ k, rv σ n k = c) : ∀ (m : Nat) (k a b : Int), 0 ≤ k → (k = 0 ∨ (a = c ∧ b = c)) → 0 < m ∨ (a = c ∧ b = c) → (ripL σ n m k a b).1 = c ∧ (ripL σ n m k a b).2 = c := by
  intro m
  induction m with
  | zero => intro k a b h0 h1 h2; rcases h2 with h2 | h2; exact absurd h2 (by omega); exact h2
  | succ m ih =>
    intro k a b h0 h1 h2
    simp only [ripL]
    rw [h k]
    refine ih _ _ _ (by omega) (Or.inr ?_) (Or.inr ?_)
    all_goals
      rcases h1 with h1 | ⟨rfl, rfl⟩
      · rw [if_pos h1, if_pos h1]; exact ⟨rfl, rfl⟩
      · constructor
        · split
          · rfl
          · split <;> rfl
        · split
          · rfl
          · split <;> rfl
theorem rip_0 {σ : Nat → Int} {n : Int} {k : Nat} (hn : 1 ≤ n) (h : cncl σ) (hk : (σ 5).toNat = k * (σ 2).toNat) : rip σ n = 0 := by
  have e : ∀ j, rv σ n j = val0 (rz σ) := fun j => (cncl_val (σ := σ) (τ := up σ 11 (σ 11 + j * σ 2 / n)) h h rfl rfl rfl rfl rfl hk).symm
  have q := ripL_c _ e n.toNat 0 0 0 (by omega) (Or.inl rfl) (Or.inl (by omega))
  unfold rip
  omega
theorem bwL_0 {σ : Nat → Int} {f st : Int} (h : ∀ i, 0 ≤ rip (up σ 5 (f + i * st)) 8) : ∀ (m : Nat) (i b : Int), bwL σ f st m i b 0 = b := by
  intro m
  induction m with
  | zero => intro i b; rfl
  | succ m ih =>
    intro i b
    have := h i
    simp only [bwL]
    rw [if_neg (by omega)]
    exact ih _ _
theorem ripL_le (σ : Nat → Int) (n : Int) : ∀ (m : Nat) (k a b : Int), 0 ≤ k → (k = 0 ∨ a ≤ b) → a ≤ b ∨ 0 < m → (ripL σ n m k a b).1 ≤ (ripL σ n m k a b).2 := by
  intro m
  induction m with
  | zero => intro k a b h0 h1 h2; simp only [ripL]; omega
  | succ m ih =>
    intro k a b h0 h1 h2
    simp only [ripL]
    refine ih _ _ _ (by omega) (Or.inr ?_) (Or.inl ?_)
    all_goals
      rcases h1 with h1 | h1
      · rw [if_pos h1, if_pos h1]; exact Int.le_refl _
      · split
        · exact Int.le_refl _
        · split <;> split <;> omega
theorem rip_nn (σ : Nat → Int) {n : Int} (hn : 1 ≤ n) : 0 ≤ rip σ n := by
  have := ripL_le σ n n.toNat 0 0 0 (by omega) (Or.inl rfl) (Or.inl (Int.le_refl _))
  unfold rip
  omega
/-! END math -/
