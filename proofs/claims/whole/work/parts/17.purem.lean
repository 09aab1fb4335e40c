/-! facts for the walks of the reference -/
theorem not_t {b : Bool} (h : b = false) : (!b) = true := by subst h; rfl
theorem not_f {b : Bool} (h : b = true) : (!b) = false := by subst h; rfl
theorem not_tt {b : Bool} (h : (!b) = true) : b = false := by cases b; rfl; exact absurd h (by decide)
theorem not_ff {b : Bool} (h : (!b) = false) : b = true := by cases b; exact absurd h (by decide); rfl
theorem i32_nlt {a b : Int32} (h : a ≤ b) : ¬ b < a := by
  rw [Int32.le_iff_toInt_le] at h
  rw [Int32.lt_iff_toInt_lt]
  omega
theorem i32_nle {a b : Int32} (h : a < b) : ¬ b ≤ a := by
  rw [Int32.lt_iff_toInt_lt] at h
  rw [Int32.le_iff_toInt_le]
  omega
theorem bI_or (a b : Bool) : bI a ||| bI b = bI (a || b) := by cases a <;> cases b <;> decide
/-- the mark for a line that is unfit and has no next form -/
def gf_tj (P : Nat → Bool) (fc nw : Nat → Nat) : Nat → Nat
  | 0 => 0
  | j + 1 => if P j = false ∧ nw j = fc j - 1 then 2 else gf_tj P fc nw j
theorem gf_tj_le (P : Nat → Bool) (fc nw : Nat → Nat) : ∀ j, gf_tj P fc nw j ≤ 2 := by
  intro j
  induction j with
  | zero => exact Nat.zero_le 2
  | succ j ih =>
    show (if P j = false ∧ nw j = fc j - 1 then 2 else gf_tj P fc nw j) ≤ 2
    by_cases e : P j = false ∧ nw j = fc j - 1
    · rw [if_pos e]; decide
    · rw [if_neg e]; exact ih
theorem gf_tj_iff {n : Nat} {fc sz bt so tg : Nat → Nat} {ofs : Nat → Int32} {nw : Nat → Nat} (hk : gf_nk n fc nw) : ∀ j, j ≤ n → (gf_tj (gf_fit fc sz bt so tg ofs nw) fc nw j = 2 ↔ gf_last j fc sz bt so tg ofs nw) ∧ (gf_tj (gf_fit fc sz bt so tg ofs nw) fc nw j = 0 ↔ ¬ gf_last j fc sz bt so tg ofs nw) := by
  intro j
  induction j with
  | zero =>
    intro _
    have h : ¬ gf_last 0 fc sz bt so tg ofs nw := fun ⟨i, hi, _⟩ => absurd hi (by omega)
    exact ⟨⟨fun z => absurd (show (0 : Nat) = 2 from z) (by decide), fun z => absurd z h⟩, ⟨fun _ => h, fun _ => rfl⟩⟩
  | succ j ih =>
    intro hj
    obtain ⟨i1, i2⟩ := ih (by omega)
    show ((if gf_fit fc sz bt so tg ofs nw j = false ∧ nw j = fc j - 1 then 2 else gf_tj (gf_fit fc sz bt so tg ofs nw) fc nw j) = 2 ↔ _) ∧ ((if gf_fit fc sz bt so tg ofs nw j = false ∧ nw j = fc j - 1 then 2 else gf_tj (gf_fit fc sz bt so tg ofs nw) fc nw j) = 0 ↔ _)
    by_cases e : gf_fit fc sz bt so tg ofs nw j = false ∧ nw j = fc j - 1
    · rw [if_pos e]
      have hne := gf_unfit_fc e.1
      have h : gf_last (j + 1) fc sz bt so tg ofs nw := ⟨j, by omega, e.1, by omega⟩
      exact ⟨⟨fun _ => h, fun _ => rfl⟩, ⟨fun z => absurd z (by decide), fun z => absurd h z⟩⟩
    · rw [if_neg e]
      have h : gf_last (j + 1) fc sz bt so tg ofs nw ↔ gf_last j fc sz bt so tg ofs nw := by
        refine ⟨fun ⟨i, h1, h2, h3⟩ => ⟨i, ?_, h2, h3⟩, fun ⟨i, h1, h2, h3⟩ => ⟨i, by omega, h2, h3⟩⟩
        by_cases ej : i = j
        · subst ej
          have hne := gf_unfit_fc h2
          have h4 := (hk i (by omega)).2 hne
          exact absurd ⟨h2, by omega⟩ e
        · omega
      rw [h]
      exact ⟨i1, i2⟩
theorem gf_so_f {n : Nat} {fc sz bt so tg : Nat → Nat} {ofs : Nat → Int32} {nw : Nat → Nat} (h : gf_all n fc sz bt so tg ofs nw) : gf_so (gf_fit fc sz bt so tg ofs nw) n = false := by
  cases hb : gf_so (gf_fit fc sz bt so tg ofs nw) n with
  | false => rfl
  | true =>
    obtain ⟨j, h1, h2⟩ := (gf_so_iff _ n).mp hb
    exact absurd (h j h1) (gf_ne_tf h2)
theorem gf_so_t {n : Nat} {fc sz bt so tg : Nat → Nat} {ofs : Nat → Int32} {nw : Nat → Nat} (h : ¬ gf_all n fc sz bt so tg ofs nw) : gf_so (gf_fit fc sz bt so tg ofs nw) n = true := (gf_so_iff _ n).mpr (gf_not_all h)
section GL
variable {p : Program} {l : Launch} {e : Env} {R : Room} {s : State} {m : MethodId} {args : Array Value} {below : List Frame} {meth : Method} {c : Code} {H : Heap} {locs : List Loc} {cells slots : Nat} {Q : State → Prop} {cc : ByteArray} {pc : Nat} {ls : Array Slot} {rest : List Value}
theorem gi_if_lt (hexec : p.tables.exec = Jvm.exec) (hb : c.code = cc) {x : Nat} {off : Int} {tgt : Nat} (hx : x < 2 ^ 31) (hdg : decode cc pc = .ok (.ifCond .lt off, 3)) (ht : (pc : Int) + off = (tgt : Int))
    (kt : x < 0 → W p l e R s m args below meth c H locs cells slots Q (F0 m tgt ls rest)) (kf : 0 ≤ x → W p l e R s m args below meth c H locs cells slots Q (F0 m (pc + 3) ls rest)) : W p l e R s m args below meth c H locs cells slots Q (F0 m pc ls (.int (nI x) :: rest)) :=
  lv_if_lt hexec hb hdg ht (fun h => absurd h (nI_pos hx)) (fun _ => kf (Nat.zero_le x))
theorem gi_iorb (hexec : p.tables.exec = Jvm.exec) (hb : c.code = cc) {x y : Bool} (hdg : decode cc pc = .ok (.ior, 1))
    (k : W p l e R s m args below meth c H locs cells slots Q (F0 m (pc + 1) ls (.int (bI (x || y)) :: rest))) : W p l e R s m args below meth c H locs cells slots Q (F0 m pc ls (.int (bI y) :: .int (bI x) :: rest)) :=
  lv_ior hexec hb hdg (by rw [bI_or]; exact k)
end GL
