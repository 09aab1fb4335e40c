/-! new arrays of a class that is known already; the start of both objects -/
def zN : Nat → Nat := fun _ => 0
def zI : Nat → Int32 := fun _ => nI 0
def gq (a0 a1 a2 a3 a4 a5 a6 a7 a8 : Nat) : Nat → Nat := fun k => match k with
  | 0 => a0
  | 1 => a1
  | 2 => a2
  | 3 => a3
  | 4 => a4
  | 5 => a5
  | 6 => a6
  | 7 => a7
  | _ => a8
section GN
variable {p : Program} {l : Launch} {e : Env} {R : Room} {s : State} {m : MethodId} {args : Array Value} {below : List Frame} {meth : Method} {c : Code} {H : Heap} {locs : List Loc} {cells slots : Nat} {Q : State → Prop} {cc : ByteArray} {pc : Nat} {ls : Array Slot} {rest : List Value} {D : va_G} {cl : List vw_C} {A : Nat → Prop} {tys : List (ClassId × FieldType)} {ws : va_W} {H0 : Heap}
theorem gi_newa (hexec : p.tables.exec = Jvm.exec) (hb : c.code = cc) {atype : ArrayType} {ty : FieldType} (hty : newarray.typeOf atype = ty) (harr : (Cond.arrayClass ty).before args s = true) (hK : va_K D cl tys s) (t0 : Nat) {cA : ClassId} (ht : tys[t0]? = some (cA, ty)) (hra : ∀ c d : ClassId, va_RA s c ty → va_RA s d ty → c = d) (hP : va_P D cl ws H) (hD : va_D A ws) (hS : va_S A H0 H locs) (hA : ∀ q, H0.size ≤ q → A q)
    {N' : Nat} (a0 : vp_A) (ha : ∀ cA : ClassId, vp_cell cA a0 = arrV cA N' (fun _ => defaultValue ty)) (hN : N' < 2 ^ 31) (hbytes : N' * componentBytes ty ≤ 536870912) (hcells : cells + 1 ≤ R.cells) (hslots : slots + N' ≤ R.slots) (hdg : decode cc pc = .ok (.newarray atype, 2))
    (kk : ∀ (q : Nat) (H1 : Heap), va_P D cl (ws ++ [(q, .inl (cA, a0))]) H1 → va_D A (ws ++ [(q, .inl (cA, a0))]) → va_S A H0 H1 locs → W p l e R s m args below meth c H1 locs (cells + 1) (slots + N') Q (F0 m (pc + 2) ls (.ref q :: rest))) : W p l e R s m args below meth c H locs cells slots Q (F0 m pc ls (.int (nI N') :: rest)) := by
  subst hty
  refine va_newa hexec hb harr rfl hK hP hD hS hA ha (nI_pos hN) (nI_clamp hN) hbytes hcells hslots hdg (fun q cB H1 k1 p1 d1 s1 => ?_)
  have e : cB = cA := hra _ _ (k1.2 tys.length (cB, newarray.typeOf atype) (by simp)).2 (hK.2 t0 _ ht).2
  subst e
  exact kk q H1 p1 d1 s1
theorem gi_raI {c d : ClassId} (h1 : va_RA s c .int) (h2 : va_RA s d .int) : c = d := Option.some.inj (Eq.trans (Eq.symm h1) h2)
theorem gi_raZ {c d : ClassId} (h1 : va_RA s c .boolean) (h2 : va_RA s d .boolean) : c = d := Option.some.inj (Eq.trans (Eq.symm h1) h2)
theorem gi_raL {c d : ClassId} (h1 : va_RA s c .long) (h2 : va_RA s d .long) : c = d := Option.some.inj (Eq.trans (Eq.symm h1) h2)
end GN
