/-! small facts for the walks -/
theorem and_tt {a b : Bool} (ha : a = true) (hb : b = true) : (a && b) = true := by subst ha; subst hb; rfl
theorem and_f1 {a b : Bool} (ha : a = false) : (a && b) = false := by subst ha; rfl
theorem and_f2 {a b : Bool} (hb : b = false) : (a && b) = false := by subst hb; cases a <;> rfl
theorem bR_t {X : Bool} (h : X = true) : nI 1 = bI X := by subst h; decide
theorem bR_f {X : Bool} (h : X = false) : nI 0 = bI X := by subst h; decide
theorem gf_c_0 {fc nw : Nat → Nat} {i : Nat} (hb : nw i < 2 ^ 31) (h : gf_c fc nw i = -1) : fc i = 0 := by
  by_cases e : fc i = 0
  · exact e
  · exact absurd ((if_neg e).symm.trans h) (nI_ne_m1 hb)
theorem gf_c_1 {fc nw : Nat → Nat} {i : Nat} (h : ¬ gf_c fc nw i = -1) : fc i ≠ 0 := fun e => h (if_pos e)
theorem gf_c_n {fc nw : Nat → Nat} {i : Nat} (h : fc i ≠ 0) : gf_c fc nw i = nI (nw i) := if_neg h
theorem gf_ad_z {fc sz nw : Nat → Nat} {i : Nat} (h : fc i = 0) : gf_ad fc sz nw (i + 1) = gf_ad fc sz nw i := by
  show gf_ad fc sz nw i + (if fc i = 0 then 0 else sz (4 * i + nw i)) = _
  rw [if_pos h]; rfl
theorem gf_ad_n {fc sz nw : Nat → Nat} {i : Nat} (h : fc i ≠ 0) : gf_ad fc sz nw i + sz (4 * i + nw i) = gf_ad fc sz nw (i + 1) := by
  show _ = gf_ad fc sz nw i + (if fc i = 0 then 0 else sz (4 * i + nw i))
  rw [if_neg h]
def gf_isf (s b h : Int32) : Bool := decide (¬ s < nI 1 ∧ ¬ nI 64 < s ∧ ¬ b < nI 1 ∧ ¬ nI 32 < b ∧ ¬ h < 0 ∧ ¬ nI 2 < h)
def gf_isl (n : Nat) (x : Int32) : Bool := decide (¬ x < 0 ∧ ¬ nI n ≤ x)
def gf_ile (n : Nat) (x : Int32) : Bool := decide (¬ x < 0 ∧ ¬ nI n < x)
def gf_ff (fc so nw : Nat → Nat) (i : Nat) : Bool := decide (fc i ≠ 0 ∧ so (4 * i + nw i) = 2)
theorem gf_fit_0 {fc sz bt so tg : Nat → Nat} {ofs : Nat → Int32} {nw : Nat → Nat} {i : Nat} (h : fc i = 0) : gf_fit fc sz bt so tg ofs nw i = true := by
  show (decide (fc i = 0) || gf_in (so (4 * i + nw i)) (bt (4 * i + nw i)) (gf_va fc sz so tg ofs nw i)) = true
  rw [decide_eq_true h, Bool.true_or]
theorem gf_fit_1 {fc sz bt so tg : Nat → Nat} {ofs : Nat → Int32} {nw : Nat → Nat} {i : Nat} (h : fc i ≠ 0) : gf_fit fc sz bt so tg ofs nw i = gf_in (so (4 * i + nw i)) (bt (4 * i + nw i)) (gf_va fc sz so tg ofs nw i) := by
  show (decide (fc i = 0) || gf_in (so (4 * i + nw i)) (bt (4 * i + nw i)) (gf_va fc sz so tg ofs nw i)) = _
  rw [decide_eq_false h, Bool.false_or]
