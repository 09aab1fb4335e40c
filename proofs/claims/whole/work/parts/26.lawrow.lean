/-! the law: its world, its invariant, rows for its walk -/
theorem gP_swap {D : va_G} {cl : List vw_C} {a b : va_W} {H : Heap} (h : va_P D cl (a ++ b) H) : va_P D cl (b ++ a) H := by
  refine va_P.app (fun k q hk => ?_) (fun k q hk => ?_)
  · exact h (a.length + k) q (by rw [List.getElem?_append_right (by omega), Nat.add_sub_cancel_left]; exact hk)
  · exact h k q (by rw [List.getElem?_append_left (List.getElem?_eq_some_iff.mp hk).1]; exact hk)
theorem gD_swap {A : Nat → Prop} {a b : va_W} (h : va_D A (a ++ b)) : va_D A (b ++ a) := by
  have hb : ∀ (k : Nat) (q : Nat × va_E), b[k]? = some q → (a ++ b)[a.length + k]? = some q := fun k q hk => by
    rw [List.getElem?_append_right (by omega), Nat.add_sub_cancel_left]; exact hk
  have ha : ∀ (k : Nat) (q : Nat × va_E), a[k]? = some q → (a ++ b)[k]? = some q := fun k q hk => by
    rw [List.getElem?_append_left (List.getElem?_eq_some_iff.mp hk).1]; exact hk
  refine va_D.app ⟨fun i j x y hx hy e => ?_, fun k q hk => h.2 _ q (hb k q hk)⟩ ⟨fun i j x y hx hy e => h.1 i j x y (ha i x hx) (ha j y hy) e, fun k q hk => h.2 _ q (ha k q hk)⟩ (fun i j x y hx hy e => ?_)
  · have := h.1 _ _ x y (hb i x hx) (hb j y hy) e
    omega
  · have h1 := h.1 _ _ x y (hb i x hx) (ha j y hy) e
    have h2 := (List.getElem?_eq_some_iff.mp hy).1
    omega
abbrev lwWd (qx qm : Nat → Nat) (qo : Nat) (cA cB cL : ClassId) (n th : Nat) (st : Bool) (sz bt so fc : Nat → Nat) (ofs : Nat → Int32) (tg : Nat → Nat) (ch : Nat → Int32) (ad nw : Nat → Nat) (gr : Nat → Int32) (fo : Nat → Int64) : va_W :=
  xw qx cA n st sz bt so fc ofs tg ch ad ++ (og qo cL fo :: mw qm cA cB n th st sz bt so fc ofs tg nw gr)
def gInv (n : Nat) (st : Bool) (sz bt so fc tg : Nat → Nat) (ch : Nat → Int32) (ad nw : Nat → Nat) : Prop :=
  gf_wf n fc sz bt so tg ∧ (st = true → gf_nk n fc nw ∧ (∀ i, i < n → ch i = gf_c fc nw i) ∧ ∀ j, j ≤ n → ad j = gf_ad fc sz nw j)
/-- what stays while the law runs -/
def lwE (p : Program) (l : Launch) (s : State) (m : MethodId) (meth : Method) (c : Code) (b L : Nat) (xs : Nat → Int32) (D : va_G) (cA cB cL : ClassId) (A : Nat → Prop) (qx qm : Nat → Nat) (qo : Nat) : Prop :=
  p.tables.exec = Jvm.exec ∧ c.code = code ∧ c.maxLocals = 8 ∧ s.vm.findClass RL = some m.cls ∧ (∀ w ∈ lw_tbl, w.before #[Value.ref b] s = true) ∧ va_X b L xs s s.heap ∧ b < s.heap.size ∧ ¬ A b ∧ L ≤ 2048 ∧ l.stackTraces = false ∧
  va_K D vwCl [(cA, .int), (cB, .boolean), (cL, .long)] s ∧ va_D A (lwWd qx qm qo cA cB cL 0 0 false zN zN zN zN zI zN zI zN zN zI (fun _ => 0)) ∧ va_D A (mw qm cA cB 0 0 false zN zN zN zN zI zN zN zI ++ (xw qx cA 0 false zN zN zN zN zI zN zI zN ++ [og qo cL (fun _ => 0)])) ∧ gX A s s.heap
def lwGo (p : Program) (l : Launch) (e : Env) (s : State) (m : MethodId) (below : List Frame) (meth : Method) (c : Code) (b : Nat) (D : va_G) (cA cB cL : ClassId) (A : Nat → Prop) (qx qm : Nat → Nat) (qo : Nat) (i : Nat) : Prop :=
  ∀ (n th : Nat) (st : Bool) (sz bt so fc : Nat → Nat) (ofs : Nat → Int32) (tg : Nat → Nat) (ch : Nat → Int32) (ad nw : Nat → Nat) (gr : Nat → Int32) (fo : Nat → Int64) (H : Heap) (locs : List Loc) (ls : Array Slot), gInv n st sz bt so fc tg ch ad nw → va_P D vwCl (lwWd qx qm qo cA cB cL n th st sz bt so fc ofs tg ch ad nw gr fo) H → va_S A s.heap H locs → lv_has ls 8 [(4, .int (nI i)), (3, .ref qo), (2, .ref (qm 0)), (1, .ref (qx 0)), (0, .ref b)] →
    W p l e room_1 s m #[Value.ref b] below meth c H locs (19 + i + 1) (4103 + 6 * i + 6) (lw_Z below #[Value.ref b] s) (F0 m 492 ls [])
section GZ
variable {p : Program} {l : Launch} {e : Env} {R : Room} {s : State} {m : MethodId} {args : Array Value} {below : List Frame} {meth : Method} {c : Code} {H : Heap} {locs : List Loc} {cells slots : Nat} {Q : State → Prop} {cc : ByteArray} {pc : Nat} {ls : Array Slot} {rest : List Value} {D : va_G} {cl : List vw_C} {A : Nat → Prop} {H0 : Heap}
theorem gi_sld (hexec : p.tables.exec = Jvm.exec) (hb : c.code = cc) {b L : Nat} {xs : Nat → Int32} (hX : va_X b L xs s H0) (hbl : b < H0.size) (hbA : ¬ A b) (hS : va_S A H0 H locs) {i : Nat} (hi : i < L) (hL : L < 2 ^ 31) (hdg : decode cc pc = .ok (.iaload, 1))
    (kk : W p l e R s m args below meth c H locs cells slots Q (F0 m (pc + 1) ls (.int (xs i) :: rest))) : W p l e R s m args below meth c H locs cells slots Q (F0 m pc ls (.int (nI i) :: .ref b :: rest)) :=
  va_sld hexec hb hX hbl hbA hS (vp_in_nI hi hL) hdg (by rw [nI_clamp (by omega)]; exact kk)
theorem gi_goW {v : Value} {ws' : va_W} {st0 : List Value} {as : Array Value} {mc ms : Nat} (hr : va_Run p l e R s m args below meth c H locs cells slots mc ms (F0 m pc ls st0) rest (gPost (some v) D cl ws' A as) A) (hS : va_S A H0 H locs)
    (kk : ∀ (H1 : Heap) (locs1 : List Loc), va_P D cl ws' H1 → va_S A H0 H1 locs1 → W p l e R s m args below meth c H1 locs1 (cells + mc) (slots + ms) Q (F0 m (pc + 3) ls (v :: rest))) : W p l e R s m args below meth c H locs cells slots Q (F0 m pc ls st0) :=
  gi_go hr hS kk
end GZ
theorem gf_isl_ex {n : Nat} {x : Int32} (hn : n < 2 ^ 31) (h : gf_isl n x = true) : ∃ j, j < n ∧ x = nI j := by
  obtain ⟨h1, h2⟩ := of_decide_eq_true (show decide (¬ x < 0 ∧ ¬ nI n ≤ x) = true from h)
  rcases pk_ix x hn with h3 | h3 | h3
  · exact absurd h3 h1
  · exact absurd h3 h2
  · exact h3
theorem gf_ile_ex {n : Nat} {x : Int32} (hn : n + 1 < 2 ^ 31) (h : gf_ile n x = true) : ∃ j, j ≤ n ∧ x = nI j := by
  obtain ⟨h1, h2⟩ := of_decide_eq_true (show decide (¬ x < 0 ∧ ¬ nI n < x) = true from h)
  obtain ⟨j, hj, rfl⟩ := nI_of h1
  refine ⟨j, ?_, rfl⟩
  rw [nI_ltI (by omega) hj] at h2
  omega
theorem gf_ile_isl {n : Nat} {x : Int32} (h : gf_ile n x = false) : gf_isl n x = false := by
  cases hb : gf_isl n x with
  | false => rfl
  | true =>
    obtain ⟨h1, h2⟩ := of_decide_eq_true (show decide (¬ x < 0 ∧ ¬ nI n ≤ x) = true from hb)
    refine absurd (show gf_ile n x = true from decide_eq_true ⟨h1, fun z => h2 ?_⟩) (gf_ne_tf h)
    rw [Int32.lt_iff_toInt_lt] at z
    rw [Int32.le_iff_toInt_le]
    omega
theorem gf_bd {x : Int32} {a b : Nat} (ha : 1 ≤ a) (hb : b < 2 ^ 31) (h1 : ¬ x < nI a) (h2 : ¬ nI b < x) (hab : a ≤ b) : ∃ j, a ≤ j ∧ j ≤ b ∧ x = nI j := by
  have h0 : ¬ x < 0 := fun z => h1 (by
    rw [Int32.lt_iff_toInt_lt] at z ⊢
    rw [nI_toInt (by omega)]
    rw [Int32.toInt_zero] at z
    omega)
  obtain ⟨j, hj, rfl⟩ := nI_of h0
  rw [nI_ltI hj (by omega)] at h1
  rw [nI_ltI hb hj] at h2
  exact ⟨j, by omega, by omega, rfl⟩
theorem gf_isf_ex {x y z : Int32} (h : gf_isf x y z = true) : ∃ a b c : Nat, x = nI a ∧ y = nI b ∧ z = nI c ∧ 1 ≤ a ∧ a ≤ 64 ∧ 1 ≤ b ∧ b ≤ 32 ∧ c ≤ 2 := by
  obtain ⟨h1, h2, h3, h4, h5, h6⟩ := of_decide_eq_true (show decide (¬ x < nI 1 ∧ ¬ nI 64 < x ∧ ¬ y < nI 1 ∧ ¬ nI 32 < y ∧ ¬ z < 0 ∧ ¬ nI 2 < z) = true from h)
  obtain ⟨a, a1, a2, rfl⟩ := gf_bd (by decide) (by decide) h1 h2 (by decide)
  obtain ⟨b, b1, b2, rfl⟩ := gf_bd (by decide) (by decide) h3 h4 (by decide)
  obtain ⟨c, hc, rfl⟩ := nI_of h5
  rw [nI_ltI (by decide) hc] at h6
  exact ⟨a, b, c, rfl, rfl, rfl, a1, a2, b1, b2, by omega⟩
theorem gf_w3 (w : Int32) : (w < 0 ∨ nI 2 < w) ∨ ∃ k, k ≤ 2 ∧ w = nI k := by
  by_cases h : w < 0
  · exact Or.inl (Or.inl h)
  · obtain ⟨j, hj, rfl⟩ := nI_of h
    by_cases h2 : j ≤ 2
    · exact Or.inr ⟨j, h2, rfl⟩
    · exact Or.inl (Or.inr (nI_lt (by omega) hj))
theorem gf_w3n {w : Int32} (h : w < 0 ∨ nI 2 < w) (k : Nat) (hk : k ≤ 2) : ¬ w = nI k := by
  rintro rfl
  rcases h with h | h
  · exact nI_pos (by omega) h
  · exact nI_nlt hk (by decide) h
theorem gf_cond {L i : Nat} (hL : L ≤ 2048) (hi : i < 2 ^ 20) (h : ¬ nI L - nI 4 < nI i) : i + 4 ≤ L := by
  rw [Int32.lt_iff_toInt_lt, pk_sub_toInt (by omega) (by decide), nI_toInt (by omega)] at h
  omega
/-! the invariant, kept by each call -/
theorem gf_wf_line {n : Nat} {fc sz bt so tg : Nat → Nat} (hw : gf_wf n fc sz bt so tg) (hn : n < 120) : gf_wf (n + 1) (gU fc n 0) sz bt so (gU tg n 0) := by
  refine ⟨by omega, fun i hi => ?_⟩
  by_cases e : i = n
  · subst e
    rw [gU_at, gU_at]
    exact ⟨by omega, by omega, fun k hk => absurd hk (by omega)⟩
  · rw [gU_ne _ e, gU_ne _ e]
    obtain ⟨h1, h2, h3⟩ := hw.2 i (by omega)
    exact ⟨h1, by omega, h3⟩
theorem gf_wf_aim {n : Nat} {fc sz bt so tg : Nat → Nat} (hw : gf_wf n fc sz bt so tg) {i t : Nat} (ht : t ≤ n) : gf_wf n fc sz bt so (gU tg i t) := by
  refine ⟨hw.1, fun j hj => ?_⟩
  obtain ⟨h1, h2, h3⟩ := hw.2 j hj
  refine ⟨h1, ?_, h3⟩
  by_cases e : j = i
  · subst e; rw [gU_at]; exact ht
  · rw [gU_ne _ e]; exact h2
theorem gf_wf_form {k : Nat} {fc sz bt so tg : Nat → Nat} (hw : gf_wf (k + 1) fc sz bt so tg) (hfc : fc k < 4) {x y z : Nat} (hx1 : 1 ≤ x) (hx2 : x ≤ 64) (hy1 : 1 ≤ y) (hy2 : y ≤ 32) (hz2 : z ≤ 2) :
    gf_wf (k + 1) (gU fc k (fc k + 1)) (gU sz (4 * k + fc k) x) (gU bt (4 * k + fc k) y) (gU so (4 * k + fc k) z) tg := by
  refine ⟨hw.1, fun i hi => ?_⟩
  obtain ⟨h1, h2, h3⟩ := hw.2 i hi
  by_cases e : i = k
  · subst e
    rw [gU_at]
    refine ⟨by omega, h2, fun j hj => ?_⟩
    by_cases ej : j = fc i
    · subst ej
      rw [gU_at, gU_at, gU_at]
      exact ⟨hx1, hx2, hy1, hy2, hz2⟩
    · rw [gU_ne _ (by omega), gU_ne _ (by omega), gU_ne _ (by omega)]
      exact h3 j (by omega)
  · rw [gU_ne _ e]
    refine ⟨h1, h2, fun j hj => ?_⟩
    have h4 : 4 * i + j ≠ 4 * k + fc k := by omega
    rw [gU_ne _ h4, gU_ne _ h4, gU_ne _ h4]
    exact h3 j hj
theorem gf_isl_n (n : Nat) (hn : n < 2 ^ 31) : gf_isl n (nI n) = false := decide_eq_false (fun z => z.2 (nI_le (Nat.le_refl n) hn))
