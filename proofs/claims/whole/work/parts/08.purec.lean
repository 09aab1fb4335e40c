/-! the rounds of a settling, both sides -/
def gf_chr (n : Nat) (fc sz bt so tg : Nat → Nat) (ofs : Nat → Int32) (nw0 : Nat → Nat) (ch : Nat → Int32) : Nat → Nat → Int32
  | 0 => gf_tf fc ch n
  | r + 1 => gf_mv (gf_fit fc sz bt so tg ofs (gf_now n fc sz bt so tg ofs nw0 r)) (gf_chr n fc sz bt so tg ofs nw0 ch r) n
def gf_adr (n : Nat) (fc sz bt so tg : Nat → Nat) (ofs : Nat → Int32) (nw0 ad : Nat → Nat) : Nat → Nat → Nat
  | 0 => ad
  | r + 1 => gf_pa fc sz (gf_now n fc sz bt so tg ofs nw0 r) (gf_adr n fc sz bt so tg ofs nw0 ad r) n
theorem gf_unfit_fc {fc sz bt so tg : Nat → Nat} {ofs : Nat → Int32} {nw : Nat → Nat} {i : Nat} (h : gf_fit fc sz bt so tg ofs nw i = false) : fc i ≠ 0 := by
  intro e
  have h1 : (decide (fc i = 0) || gf_in (so (4 * i + nw i)) (bt (4 * i + nw i)) (gf_va fc sz so tg ofs nw i)) = false := h
  rw [decide_eq_true e, Bool.true_or] at h1
  exact absurd h1 (by decide)
theorem gf_chr_c (n : Nat) (fc sz bt so tg : Nat → Nat) (ofs : Nat → Int32) (nw0 : Nat → Nat) (ch : Nat → Int32) : ∀ r i, i < n → gf_chr n fc sz bt so tg ofs nw0 ch r i = gf_c fc (gf_now n fc sz bt so tg ofs nw0 r) i := by
  intro r
  induction r with
  | zero =>
    intro i hi
    have e : gf_now n fc sz bt so tg ofs nw0 0 i = 0 := if_pos hi
    show (if i < n then (if fc i = 0 then -1 else nI 0) else ch i) = (if fc i = 0 then -1 else nI (gf_now n fc sz bt so tg ofs nw0 0 i))
    rw [if_pos hi, e]
  | succ r ih =>
    intro i hi
    show (if i < n ∧ gf_fit fc sz bt so tg ofs (gf_now n fc sz bt so tg ofs nw0 r) i = false then gf_chr n fc sz bt so tg ofs nw0 ch r i + nI 1 else gf_chr n fc sz bt so tg ofs nw0 ch r i) = (if fc i = 0 then -1 else nI (if i < n ∧ gf_fit fc sz bt so tg ofs (gf_now n fc sz bt so tg ofs nw0 r) i = false then gf_now n fc sz bt so tg ofs nw0 r i + 1 else gf_now n fc sz bt so tg ofs nw0 r i))
    rw [ih i hi]
    by_cases e : gf_fit fc sz bt so tg ofs (gf_now n fc sz bt so tg ofs nw0 r) i = false
    · have cnd : i < n ∧ gf_fit fc sz bt so tg ofs (gf_now n fc sz bt so tg ofs nw0 r) i = false := ⟨hi, e⟩
      have hne : ¬ fc i = 0 := gf_unfit_fc e
      rw [if_pos cnd, if_neg hne, if_pos cnd]
      show (if fc i = 0 then -1 else nI (gf_now n fc sz bt so tg ofs nw0 r i)) + nI 1 = _
      rw [if_neg hne, nI_add]
    · have cnd : ¬ (i < n ∧ gf_fit fc sz bt so tg ofs (gf_now n fc sz bt so tg ofs nw0 r) i = false) := fun z => e z.2
      rw [if_neg cnd, if_neg cnd]
      rfl
theorem gf_adr_a (n : Nat) (fc sz bt so tg : Nat → Nat) (ofs : Nat → Int32) (nw0 ad : Nat → Nat) (r j : Nat) (hj : j ≤ n) : gf_adr n fc sz bt so tg ofs nw0 ad (r + 1) j = gf_ad fc sz (gf_now n fc sz bt so tg ofs nw0 r) j := if_pos hj
theorem gf_z_0 (fc sz bt so tg : Nat → Nat) (ofs : Nat → Int32) (nw : Nat → Nat) : gf_now 0 fc sz bt so tg ofs nw 0 = nw := by
  funext j
  show (if j < 0 then 0 else nw j) = nw j
  exact if_neg (by omega)
theorem gf_z_s (fc sz bt so tg : Nat → Nat) (ofs : Nat → Int32) (nw : Nat → Nat) (i : Nat) : gU (gf_now i fc sz bt so tg ofs nw 0) i 0 = gf_now (i + 1) fc sz bt so tg ofs nw 0 := by
  funext j
  by_cases h : j = i
  · subst h
    rw [gU_at]
    exact (if_pos (by omega)).symm
  · rw [gU_ne _ h]
    show (if j < i then _ else _) = (if j < i + 1 then _ else _)
    by_cases h2 : j < i
    · rw [if_pos h2, if_pos (show j < i + 1 by omega)]
    · rw [if_neg h2, if_neg (show ¬ j < i + 1 by omega)]
theorem gf_st_0 (fc sz bt so tg : Nat → Nat) (ofs : Nat → Int32) (nw : Nat → Nat) : gf_st 0 fc sz bt so tg ofs nw = nw := by
  funext j
  exact if_neg (fun h => absurd h.1 (by omega))
theorem gf_st_at (fc sz bt so tg : Nat → Nat) (ofs : Nat → Int32) (nw : Nat → Nat) (i : Nat) : gf_st i fc sz bt so tg ofs nw i = nw i := if_neg (fun h => absurd h.1 (by omega))
theorem gf_st_s (fc sz bt so tg : Nat → Nat) (ofs : Nat → Int32) (nw : Nat → Nat) (i : Nat) (h : gf_fit fc sz bt so tg ofs nw i = false) : gU (gf_st i fc sz bt so tg ofs nw) i (nw i + 1) = gf_st (i + 1) fc sz bt so tg ofs nw := by
  funext j
  by_cases e : j = i
  · subst e
    rw [gU_at]
    exact (if_pos ⟨by omega, h⟩).symm
  · rw [gU_ne _ e]
    show (if j < i ∧ _ then _ else _) = (if j < i + 1 ∧ _ then _ else _)
    by_cases h2 : j < i ∧ gf_fit fc sz bt so tg ofs nw j = false
    · rw [if_pos h2, if_pos ⟨by omega, h2.2⟩]
    · rw [if_neg h2, if_neg (fun z => h2 ⟨by omega, z.2⟩)]
theorem gf_st_k (fc sz bt so tg : Nat → Nat) (ofs : Nat → Int32) (nw : Nat → Nat) (i : Nat) (h : gf_fit fc sz bt so tg ofs nw i = true) : gf_st i fc sz bt so tg ofs nw = gf_st (i + 1) fc sz bt so tg ofs nw := by
  funext j
  show (if j < i ∧ _ then _ else _) = (if j < i + 1 ∧ _ then _ else _)
  by_cases h2 : j < i ∧ gf_fit fc sz bt so tg ofs nw j = false
  · rw [if_pos h2, if_pos ⟨by omega, h2.2⟩]
  · rw [if_neg h2, if_neg (fun z => ?_)]
    by_cases e : j = i
    · subst e
      rw [h] at z
      exact absurd z.2 (by decide)
    · exact h2 ⟨by omega, z.2⟩
/-- which lines grow, up to i -/
def gf_gr (P : Nat → Bool) (gr : Nat → Int32) (i : Nat) : Nat → Int32 := fun j => if j < i then bI (!P j) else gr j
theorem gf_gr_0 (P : Nat → Bool) (gr : Nat → Int32) : gf_gr P gr 0 = gr := by
  funext j
  exact if_neg (by omega)
theorem gf_gr_at (P : Nat → Bool) (gr : Nat → Int32) {i j : Nat} (h : j < i) : gf_gr P gr i j = bI (!P j) := if_pos h
theorem gf_gr_s (P : Nat → Bool) (gr : Nat → Int32) (i : Nat) : upd (gf_gr P gr i) i (bI (!P i)) = gf_gr P gr (i + 1) := by
  funext j
  by_cases h : j = i
  · subst h
    rw [up_at]
    exact (if_pos (by omega)).symm
  · rw [up_ne _ h]
    show (if j < i then _ else _) = (if j < i + 1 then _ else _)
    by_cases h2 : j < i
    · rw [if_pos h2, if_pos (show j < i + 1 by omega)]
    · rw [if_neg h2, if_neg (show ¬ j < i + 1 by omega)]
def gf_grr (n : Nat) (fc sz bt so tg : Nat → Nat) (ofs : Nat → Int32) (nw0 : Nat → Nat) (gr : Nat → Int32) : Nat → Nat → Int32
  | 0 => gr
  | r + 1 => gf_gr (gf_fit fc sz bt so tg ofs (gf_now n fc sz bt so tg ofs nw0 r)) (gf_grr n fc sz bt so tg ofs nw0 gr r) n
/-- some line below i is unfit -/
def gf_so (P : Nat → Bool) : Nat → Bool
  | 0 => false
  | i + 1 => gf_so P i || !P i
theorem gf_so_iff (P : Nat → Bool) : ∀ i, (gf_so P i = true ↔ ∃ j, j < i ∧ P j = false) := by
  intro i
  induction i with
  | zero => exact ⟨fun h => (nomatch h), fun ⟨j, h, _⟩ => absurd h (by omega)⟩
  | succ i ih =>
    show (gf_so P i || !P i) = true ↔ _
    rw [Bool.or_eq_true, ih]
    refine ⟨fun h => ?_, fun ⟨j, h1, h2⟩ => ?_⟩
    · rcases h with ⟨j, h1, h2⟩ | h
      · exact ⟨j, by omega, h2⟩
      · exact ⟨i, by omega, by cases hb : P i; rfl; rw [hb] at h; exact absurd h (by decide)⟩
    · by_cases e : j = i
      · subst e; right; rw [h2]; rfl
      · left; exact ⟨j, by omega, h2⟩
