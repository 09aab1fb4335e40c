/-! what the loops leave behind, turn by turn -/
def gf_pa (fc sz nw ad : Nat → Nat) (i : Nat) : Nat → Nat := fun j => if j ≤ i then gf_ad fc sz nw j else ad j
theorem gf_pa_0 (fc sz nw ad : Nat → Nat) : gU ad 0 0 = gf_pa fc sz nw ad 0 := by
  funext j
  by_cases h : j = 0
  · subst h; rw [gU_at]; exact (if_pos (Nat.le_refl 0)).symm
  · rw [gU_ne ad h]; exact (if_neg (by omega)).symm
theorem gf_pa_at (fc sz nw ad : Nat → Nat) {i j : Nat} (h : j ≤ i) : gf_pa fc sz nw ad i j = gf_ad fc sz nw j := if_pos h
theorem gf_pa_s (fc sz nw ad : Nat → Nat) (i : Nat) : gU (gf_pa fc sz nw ad i) (i + 1) (gf_pa fc sz nw ad i i + (if fc i = 0 then 0 else sz (4 * i + nw i))) = gf_pa fc sz nw ad (i + 1) := by
  funext j
  by_cases h : j = i + 1
  · subst h
    rw [gU_at, gf_pa_at _ _ _ _ (Nat.le_refl (i + 1)), gf_pa_at _ _ _ _ (Nat.le_refl i)]
    rfl
  · rw [gU_ne _ h]
    by_cases h2 : j ≤ i
    · rw [gf_pa_at _ _ _ _ h2, gf_pa_at _ _ _ _ (by omega)]
    · show (if j ≤ i then _ else _) = (if j ≤ i + 1 then _ else _)
      rw [if_neg h2, if_neg (by omega)]
def gf_tf (fc : Nat → Nat) (ch : Nat → Int32) (i : Nat) : Nat → Int32 := fun j => if j < i then (if fc j = 0 then -1 else nI 0) else ch j
theorem gf_tf_0 (fc : Nat → Nat) (ch : Nat → Int32) : gf_tf fc ch 0 = ch := by
  funext j
  exact if_neg (by omega)
theorem gf_tf_s (fc : Nat → Nat) (ch : Nat → Int32) (i : Nat) {v : Int32} (hv : v = if fc i = 0 then -1 else nI 0) : upd (gf_tf fc ch i) i v = gf_tf fc ch (i + 1) := by
  funext j
  by_cases h : j = i
  · subst h
    rw [up_at, hv]
    exact (if_pos (by omega)).symm
  · rw [up_ne _ h]
    show (if j < i then _ else _) = (if j < i + 1 then _ else _)
    by_cases h2 : j < i
    · rw [if_pos h2, if_pos (show j < i + 1 by omega)]
    · rw [if_neg h2, if_neg (show ¬ j < i + 1 by omega)]
def gf_lu (P : Nat → Bool) : Nat → Nat → Int32
  | 0, _ => -1
  | k + 1, i => if P i = true then gf_lu P k (i + 1) else nI i
def gf_lb (P : Nat → Bool) (fc nw : Nat → Nat) : Nat → Nat → Bool
  | 0, _ => false
  | k + 1, i => if fc i ≤ nw i + 1 ∧ P i = false then true else gf_lb P fc nw k (i + 1)
def gf_mv (P : Nat → Bool) (ch : Nat → Int32) (i : Nat) : Nat → Int32 := fun j => if j < i ∧ P j = false then ch j + nI 1 else ch j
theorem gf_mv_0 (P : Nat → Bool) (ch : Nat → Int32) : gf_mv P ch 0 = ch := by
  funext j
  exact if_neg (fun h => absurd h.1 (by omega))
theorem gf_mv_at (P : Nat → Bool) (ch : Nat → Int32) (i : Nat) : gf_mv P ch i i = ch i := if_neg (fun h => absurd h.1 (by omega))
theorem gf_mv_s (P : Nat → Bool) (ch : Nat → Int32) (i : Nat) (h : P i = false) : upd (gf_mv P ch i) i (gf_mv P ch i i + nI 1) = gf_mv P ch (i + 1) := by
  funext j
  by_cases e : j = i
  · subst e
    rw [up_at, gf_mv_at]
    exact (if_pos ⟨by omega, h⟩).symm
  · rw [up_ne _ e]
    show (if j < i ∧ P j = false then _ else _) = (if j < i + 1 ∧ P j = false then _ else _)
    by_cases h2 : j < i ∧ P j = false
    · rw [if_pos h2, if_pos ⟨by omega, h2.2⟩]
    · rw [if_neg h2, if_neg (fun z => h2 ⟨by omega, z.2⟩)]
theorem gf_mv_k (P : Nat → Bool) (ch : Nat → Int32) (i : Nat) (h : P i = true) : gf_mv P ch i = gf_mv P ch (i + 1) := by
  funext j
  show (if j < i ∧ P j = false then _ else _) = (if j < i + 1 ∧ P j = false then _ else _)
  by_cases h2 : j < i ∧ P j = false
  · rw [if_pos h2, if_pos ⟨by omega, h2.2⟩]
  · rw [if_neg h2, if_neg (fun z => ?_)]
    by_cases e : j = i
    · subst e
      rw [h] at z
      exact absurd z.2 (by decide)
    · exact h2 ⟨by omega, z.2⟩
theorem nI_ne_m1 {i : Nat} (h : i < 2 ^ 31) : ¬ nI i = -1 := by
  intro q
  have a := nI_toInt h
  rw [q] at a
  have b : (-1 : Int32).toInt = -1 := by decide
  rw [b] at a
  omega
theorem gf_lu_all (P : Nat → Bool) : ∀ k i, i + k < 2 ^ 31 → (gf_lu P k i = -1 ↔ ∀ j, i ≤ j → j < i + k → P j = true) := by
  intro k
  induction k with
  | zero => intro i _; exact ⟨fun _ j h1 h2 => absurd h2 (by omega), fun _ => rfl⟩
  | succ k ih =>
    intro i hb
    show (if P i = true then gf_lu P k (i + 1) else nI i) = -1 ↔ _
    by_cases e : P i = true
    · rw [if_pos e, ih (i + 1) (by omega)]
      refine ⟨fun h j h1 h2 => ?_, fun h j h1 h2 => h j (by omega) (by omega)⟩
      by_cases ej : j = i
      · rw [ej]; exact e
      · exact h j (by omega) (by omega)
    · rw [if_neg e]
      exact ⟨fun h => absurd h (nI_ne_m1 (by omega)), fun h => absurd (h i (Nat.le_refl i) (by omega)) e⟩
theorem gf_lb_iff (P : Nat → Bool) (fc nw : Nat → Nat) : ∀ k i, (gf_lb P fc nw k i = true ↔ ∃ j, i ≤ j ∧ j < i + k ∧ P j = false ∧ fc j ≤ nw j + 1) := by
  intro k
  induction k with
  | zero => intro i; exact ⟨fun h => (nomatch h), fun ⟨j, h1, h2, _⟩ => absurd h2 (by omega)⟩
  | succ k ih =>
    intro i
    show (if fc i ≤ nw i + 1 ∧ P i = false then true else gf_lb P fc nw k (i + 1)) = true ↔ _
    by_cases e : fc i ≤ nw i + 1 ∧ P i = false
    · rw [if_pos e]
      exact ⟨fun _ => ⟨i, Nat.le_refl i, by omega, e.2, e.1⟩, fun _ => rfl⟩
    · rw [if_neg e, ih (i + 1)]
      refine ⟨fun ⟨j, h1, h2, h3, h4⟩ => ⟨j, by omega, by omega, h3, h4⟩, fun ⟨j, h1, h2, h3, h4⟩ => ⟨j, ?_, by omega, h3, h4⟩⟩
      by_cases ej : j = i
      · subst ej; exact absurd ⟨h4, h3⟩ e
      · omega
