/-! the pure picture: sums of sizes, values, what fits, a round, the rounds -/
def bI (b : Bool) : Int32 := if b = true then 1 else 0
theorem bI_t : bI true = 1 := rfl
theorem bI_f : bI false = 0 := rfl
theorem bI_0 (b : Bool) : bI b = 0 ↔ b = false := by cases b <;> decide
theorem bI_nar (b : Bool) : narrow .boolean (.int (bI b)) = .int (bI b) := by cases b <;> rfl
theorem bI_fits (b : Bool) : fits .boolean (.int (bI b)) = true := by cases b <;> rfl
theorem bI_vp (b : Bool) : vp_nar .boolean (bI b) = bI b := by cases b <;> rfl
def gU (f : Nat → Nat) (k v : Nat) : Nat → Nat := fun j => if j = k then v else f j
theorem gU_at (f : Nat → Nat) (k v : Nat) : gU f k v k = v := if_pos rfl
theorem gU_ne (f : Nat → Nat) {k v j : Nat} (h : j ≠ k) : gU f k v j = f j := if_neg h
theorem gU_upd (f : Nat → Nat) (k v : Nat) : upd (fun j => nI (f j)) k (nI v) = fun j => nI (gU f k v j) := by
  funext j
  by_cases h : j = k
  · subst h; rw [gU_at]; exact if_pos rfl
  · rw [gU_ne f h]; exact if_neg h
theorem up_at (f : Nat → Int32) (k : Nat) (v : Int32) : upd f k v k = v := if_pos rfl
theorem up_ne (f : Nat → Int32) {k j : Nat} {v : Int32} (h : j ≠ k) : upd f k v j = f j := if_neg h
theorem lN_of {n : Nat} (h : n < 2 ^ 31) : (nI n).toInt64 = lN n := by
  apply Int64.toInt_inj.mp
  rw [Int32.toInt_toInt64, nI_toInt h, lN_toInt h]
def gf_sh (b : Nat) : Int64 := (1 : Int64) <<< ((nI b).toInt64 &&& 63)
theorem gf_sh2 : ∀ b, b < 33 → 1 ≤ b → (2 : Int64) * gf_sh (b - 1) = gf_sh b := by decide +kernel
def gf_ad (fc sz nw : Nat → Nat) : Nat → Nat
  | 0 => 0
  | i + 1 => gf_ad fc sz nw i + (if fc i = 0 then 0 else sz (4 * i + nw i))
def gf_re (fc sz tg : Nat → Nat) (ofs : Nat → Int32) (nw : Nat → Nat) (i : Nat) : Int64 := lN (gf_ad fc sz nw (tg i)) + (ofs i).toInt64
def gf_va (fc sz so tg : Nat → Nat) (ofs : Nat → Int32) (nw : Nat → Nat) (i : Nat) : Int64 :=
  if fc i ≠ 0 ∧ so (4 * i + nw i) = 2 then gf_re fc sz tg ofs nw i - lN (gf_ad fc sz nw i) else gf_re fc sz tg ofs nw i
def gf_in (q b : Nat) (v : Int64) : Bool := if q = 0 then decide (¬ v < 0) && decide (¬ gf_sh b ≤ v) else decide (¬ v < -gf_sh (b - 1)) && decide (¬ gf_sh (b - 1) ≤ v)
def gf_fit (fc sz bt so tg : Nat → Nat) (ofs : Nat → Int32) (nw : Nat → Nat) (i : Nat) : Bool :=
  decide (fc i = 0) || gf_in (so (4 * i + nw i)) (bt (4 * i + nw i)) (gf_va fc sz so tg ofs nw i)
def gf_st (n : Nat) (fc sz bt so tg : Nat → Nat) (ofs : Nat → Int32) (nw : Nat → Nat) : Nat → Nat :=
  fun i => if i < n ∧ gf_fit fc sz bt so tg ofs nw i = false then nw i + 1 else nw i
def gf_now (n : Nat) (fc sz bt so tg : Nat → Nat) (ofs : Nat → Int32) (nw0 : Nat → Nat) : Nat → Nat → Nat
  | 0 => fun i => if i < n then 0 else nw0 i
  | r + 1 => gf_st n fc sz bt so tg ofs (gf_now n fc sz bt so tg ofs nw0 r)
def gf_all (n : Nat) (fc sz bt so tg : Nat → Nat) (ofs : Nat → Int32) (nw : Nat → Nat) : Prop := ∀ i, i < n → gf_fit fc sz bt so tg ofs nw i = true
def gf_last (n : Nat) (fc sz bt so tg : Nat → Nat) (ofs : Nat → Int32) (nw : Nat → Nat) : Prop := ∃ i, i < n ∧ gf_fit fc sz bt so tg ofs nw i = false ∧ fc i ≤ nw i + 1
def gf_go (n : Nat) (fc sz bt so tg : Nat → Nat) (ofs : Nat → Int32) (nw : Nat → Nat) : Prop :=
  gf_ad fc sz nw n ≤ 4096 ∧ ¬ gf_all n fc sz bt so tg ofs nw ∧ ¬ gf_last n fc sz bt so tg ofs nw
/-- a good state: lines, forms, targets -/
def gf_wf (n : Nat) (fc sz bt so tg : Nat → Nat) : Prop := n ≤ 120 ∧ ∀ i, i < n → fc i ≤ 4 ∧ tg i ≤ n ∧
  ∀ k, k < fc i → 1 ≤ sz (4 * i + k) ∧ sz (4 * i + k) ≤ 64 ∧ 1 ≤ bt (4 * i + k) ∧ bt (4 * i + k) ≤ 32 ∧ so (4 * i + k) ≤ 2
def gf_nk (n : Nat) (fc nw : Nat → Nat) : Prop := ∀ i, i < n → (fc i = 0 → nw i = 0) ∧ (fc i ≠ 0 → nw i < fc i)
def gf_c (fc nw : Nat → Nat) (i : Nat) : Int32 := if fc i = 0 then -1 else nI (nw i)
def gf_su (nw : Nat → Nat) : Nat → Nat
  | 0 => 0
  | i + 1 => gf_su nw i + nw i
theorem gf_nk_le {n : Nat} {fc sz bt so tg nw : Nat → Nat} (hw : gf_wf n fc sz bt so tg) (h : gf_nk n fc nw) {i : Nat} (hi : i < n) : nw i ≤ 3 := by
  have h1 := (hw.2 i hi).1
  have h2 := h i hi
  by_cases e : fc i = 0
  · have := h2.1 e; omega
  · have := h2.2 e; omega
theorem gf_ad_le {n : Nat} {fc sz bt so tg nw : Nat → Nat} (hw : gf_wf n fc sz bt so tg) (h : gf_nk n fc nw) : ∀ i, i ≤ n → gf_ad fc sz nw i ≤ 64 * i := by
  intro i
  induction i with
  | zero => intro _; exact Nat.le_refl _
  | succ i ih =>
    intro hi
    have h1 := ih (by omega)
    show gf_ad fc sz nw i + (if fc i = 0 then 0 else sz (4 * i + nw i)) ≤ _
    by_cases e : fc i = 0
    · rw [if_pos e]; omega
    · rw [if_neg e]
      have h2 := (hw.2 i (by omega)).2.2 (nw i) ((h i (by omega)).2 e)
      omega
theorem gf_nk_0 (n : Nat) (fc sz bt so tg : Nat → Nat) (ofs : Nat → Int32) (nw0 : Nat → Nat) : gf_nk n fc (gf_now n fc sz bt so tg ofs nw0 0) := by
  intro i hi
  have e : gf_now n fc sz bt so tg ofs nw0 0 i = 0 := if_pos hi
  exact ⟨fun _ => e, fun h => by rw [e]; omega⟩
theorem gf_nk_s {n : Nat} {fc sz bt so tg : Nat → Nat} {ofs : Nat → Int32} {nw : Nat → Nat} (h : gf_nk n fc nw) (hl : ¬ gf_last n fc sz bt so tg ofs nw) : gf_nk n fc (gf_st n fc sz bt so tg ofs nw) := by
  intro i hi
  show (fc i = 0 → (if i < n ∧ gf_fit fc sz bt so tg ofs nw i = false then nw i + 1 else nw i) = 0) ∧ (fc i ≠ 0 → (if i < n ∧ gf_fit fc sz bt so tg ofs nw i = false then nw i + 1 else nw i) < fc i)
  by_cases e : gf_fit fc sz bt so tg ofs nw i = false
  · rw [if_pos ⟨hi, e⟩]
    have h1 : ¬ fc i ≤ nw i + 1 := fun q => hl ⟨i, hi, e, q⟩
    exact ⟨fun q => by omega, fun _ => by omega⟩
  · rw [if_neg (fun q => e q.2)]
    exact h i hi
theorem gf_su_le {nw : Nat → Nat} : ∀ n, (∀ i, i < n → nw i ≤ 3) → gf_su nw n ≤ 3 * n := by
  intro n
  induction n with
  | zero => intro _; exact Nat.le_refl _
  | succ n ih =>
    intro h
    have h1 := ih (fun i hi => h i (by omega))
    have h2 := h n (by omega)
    show gf_su nw n + nw n ≤ _
    omega
theorem gf_su_mono {a b : Nat → Nat} : ∀ n, (∀ i, i < n → a i ≤ b i) → gf_su a n ≤ gf_su b n := by
  intro n
  induction n with
  | zero => intro _; exact Nat.le_refl _
  | succ n ih =>
    intro h
    have h1 := ih (fun i hi => h i (by omega))
    have h2 := h n (by omega)
    show gf_su a n + a n ≤ gf_su b n + b n
    omega
theorem gf_su_lt {a b : Nat → Nat} : ∀ n, (∀ i, i < n → a i ≤ b i) → (∃ i, i < n ∧ a i < b i) → gf_su a n < gf_su b n := by
  intro n
  induction n with
  | zero => rintro _ ⟨i, hi, _⟩; omega
  | succ n ih =>
    rintro h ⟨i, hi, hlt⟩
    show gf_su a n + a n < gf_su b n + b n
    have h1 : gf_su a n ≤ gf_su b n := gf_su_mono n (fun i hi => h i (by omega))
    have h2 := h n (by omega)
    by_cases e : i = n
    · subst e; omega
    · have h3 := ih (fun i hi => h i (by omega)) ⟨i, by omega, hlt⟩
      omega
theorem gf_st_le (n : Nat) (fc sz bt so tg : Nat → Nat) (ofs : Nat → Int32) (nw : Nat → Nat) (i : Nat) : nw i ≤ gf_st n fc sz bt so tg ofs nw i := by
  show nw i ≤ (if i < n ∧ gf_fit fc sz bt so tg ofs nw i = false then nw i + 1 else nw i)
  by_cases e : i < n ∧ gf_fit fc sz bt so tg ofs nw i = false
  · rw [if_pos e]; omega
  · rw [if_neg e]; exact Nat.le_refl _
theorem gf_not_all {n : Nat} {fc sz bt so tg : Nat → Nat} {ofs : Nat → Int32} {nw : Nat → Nat} (h : ¬ gf_all n fc sz bt so tg ofs nw) : ∃ i, i < n ∧ gf_fit fc sz bt so tg ofs nw i = false := by
  by_cases e : ∃ i, i < n ∧ gf_fit fc sz bt so tg ofs nw i = false
  · exact e
  · refine absurd (fun i hi => ?_) h
    cases hb : gf_fit fc sz bt so tg ofs nw i with
    | true => rfl
    | false => exact absurd ⟨i, hi, hb⟩ e
theorem gf_run {n : Nat} {fc sz bt so tg : Nat → Nat} {ofs : Nat → Int32} {nw0 : Nat → Nat} : ∀ r, (∀ q, q < r → gf_go n fc sz bt so tg ofs (gf_now n fc sz bt so tg ofs nw0 q)) → gf_nk n fc (gf_now n fc sz bt so tg ofs nw0 r) ∧ r ≤ gf_su (gf_now n fc sz bt so tg ofs nw0 r) n := by
  intro r
  induction r with
  | zero => intro _; exact ⟨gf_nk_0 n fc sz bt so tg ofs nw0, Nat.zero_le _⟩
  | succ r ih =>
    intro h
    obtain ⟨h1, h2⟩ := ih (fun q hq => h q (by omega))
    obtain ⟨-, g2, g3⟩ := h r (by omega)
    refine ⟨gf_nk_s h1 g3, ?_⟩
    obtain ⟨i, hi, e⟩ := gf_not_all g2
    have h3 : gf_su (gf_now n fc sz bt so tg ofs nw0 r) n < gf_su (gf_st n fc sz bt so tg ofs (gf_now n fc sz bt so tg ofs nw0 r)) n :=
      gf_su_lt n (fun j _ => gf_st_le n fc sz bt so tg ofs _ j) ⟨i, hi, by
        show gf_now n fc sz bt so tg ofs nw0 r i < (if i < n ∧ gf_fit fc sz bt so tg ofs (gf_now n fc sz bt so tg ofs nw0 r) i = false then gf_now n fc sz bt so tg ofs nw0 r i + 1 else gf_now n fc sz bt so tg ofs nw0 r i)
        rw [if_pos ⟨hi, e⟩]; omega⟩
    show r + 1 ≤ gf_su (gf_st n fc sz bt so tg ofs (gf_now n fc sz bt so tg ofs nw0 r)) n
    omega
theorem gf_end {n : Nat} {fc sz bt so tg : Nat → Nat} {ofs : Nat → Int32} {nw0 : Nat → Nat} (hw : gf_wf n fc sz bt so tg) : ∃ r, r ≤ 360 ∧ (∀ q, q < r → gf_go n fc sz bt so tg ofs (gf_now n fc sz bt so tg ofs nw0 q)) ∧ ¬ gf_go n fc sz bt so tg ofs (gf_now n fc sz bt so tg ofs nw0 r) := by
  have hex : ∃ r, ¬ gf_go n fc sz bt so tg ofs (gf_now n fc sz bt so tg ofs nw0 r) := by
    by_cases e : ∃ r, ¬ gf_go n fc sz bt so tg ofs (gf_now n fc sz bt so tg ofs nw0 r)
    · exact e
    · exfalso
      have hall : ∀ q, q < 361 → gf_go n fc sz bt so tg ofs (gf_now n fc sz bt so tg ofs nw0 q) := fun q _ => Classical.byContradiction fun z => e ⟨q, z⟩
      obtain ⟨h1, h2⟩ := gf_run 361 hall
      have h3 := gf_su_le (nw := gf_now n fc sz bt so tg ofs nw0 361) n (fun i hi => gf_nk_le hw h1 hi)
      have := hw.1
      omega
  obtain ⟨r, h1, h2⟩ := pk_least _ hex
  have h3 : ∀ q, q < r → gf_go n fc sz bt so tg ofs (gf_now n fc sz bt so tg ofs nw0 q) := fun q hq => Classical.byContradiction fun z => h2 q hq z
  obtain ⟨h4, h5⟩ := gf_run r h3
  have h6 := gf_su_le (nw := gf_now n fc sz bt so tg ofs nw0 r) n (fun i hi => gf_nk_le hw h4 hi)
  have := hw.1
  exact ⟨r, by omega, h3, h1⟩
