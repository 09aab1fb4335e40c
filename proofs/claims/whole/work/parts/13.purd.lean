/-! more small facts -/
theorem gf_c_inc (fc nw : Nat → Nat) (i : Nat) : gf_c fc nw i + nI 1 = nI (if fc i = 0 then 0 else nw i + 1) := by
  by_cases e : fc i = 0
  · show (if fc i = 0 then -1 else nI (nw i)) + nI 1 = _
    rw [if_pos e, if_pos e]
    decide
  · show (if fc i = 0 then -1 else nI (nw i)) + nI 1 = _
    rw [if_neg e, if_neg e, nI_add]
theorem gf_c1_lt {fc nw : Nat → Nat} {i : Nat} (h : nw i ≤ 3) : (if fc i = 0 then 0 else nw i + 1) < 2 ^ 31 := by
  by_cases e : fc i = 0
  · rw [if_pos e]; decide
  · rw [if_neg e]; omega
theorem gf_lb_1 {P : Nat → Bool} {fc nw : Nat → Nat} {i : Nat} (h : (if fc i = 0 then 0 else nw i + 1) < fc i) : ¬ (fc i ≤ nw i + 1 ∧ P i = false) := by
  intro z
  by_cases e : fc i = 0
  · rw [if_pos e] at h; omega
  · rw [if_neg e] at h; omega
theorem gf_lb_2 {fc nw : Nat → Nat} {i : Nat} (h : fc i ≤ (if fc i = 0 then 0 else nw i + 1)) : fc i ≤ nw i + 1 := by
  by_cases e : fc i = 0
  · omega
  · rw [if_neg e] at h; exact h
theorem gf_ne_ft {a : Bool} (h : a = true) : ¬ a = false := by subst h; decide
theorem gf_ne_tf {a : Bool} (h : a = false) : ¬ a = true := by subst h; decide
theorem gf_isl_t {n i : Nat} (h : i < n) (hn : n < 2 ^ 31) : gf_isl n (nI i) = true := decide_eq_true ⟨nI_pos (by omega), nI_ge h hn⟩
theorem gf_ile_t {n i : Nat} (h : i ≤ n) (hn : n < 2 ^ 31) : gf_ile n (nI i) = true := decide_eq_true ⟨nI_pos (by omega), nI_nlt h hn⟩
theorem gf_last_iff (n : Nat) (fc sz bt so tg : Nat → Nat) (ofs : Nat → Int32) (nw : Nat → Nat) : gf_lb (gf_fit fc sz bt so tg ofs nw) fc nw n 0 = true ↔ gf_last n fc sz bt so tg ofs nw := by
  rw [gf_lb_iff]
  exact ⟨fun ⟨j, _, h2, h3, h4⟩ => ⟨j, by omega, h3, h4⟩, fun ⟨j, h2, h3, h4⟩ => ⟨j, Nat.zero_le j, by omega, h3, h4⟩⟩
theorem gf_lu_iff (n : Nat) (hn : n < 2 ^ 31) (fc sz bt so tg : Nat → Nat) (ofs : Nat → Int32) (nw : Nat → Nat) : gf_lu (gf_fit fc sz bt so tg ofs nw) n 0 = -1 ↔ gf_all n fc sz bt so tg ofs nw := by
  rw [gf_lu_all _ n 0 (by omega)]
  exact ⟨fun h j hj => h j (Nat.zero_le j) (by omega), fun h j _ hj => h j (by omega)⟩
