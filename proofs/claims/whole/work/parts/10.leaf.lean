def xw (q : Nat → Nat) (cA : ClassId) (n : Nat) (st : Bool) (sz bt so fc : Nat → Nat) (ofs : Nat → Int32) (tg : Nat → Nat) (ch : Nat → Int32) (ad : Nat → Nat) : va_W := [(q 0, .inr (0, [.ref (q 1), .ref (q 2), .ref (q 3), .ref (q 4), .ref (q 5), .ref (q 6), .ref (q 7), .ref (q 8), .int (nI (n)), .int (bI (st))])), (q 1, .inl (cA, 480, .inl fun j => nI (sz j))), (q 2, .inl (cA, 480, .inl fun j => nI (bt j))), (q 3, .inl (cA, 480, .inl fun j => nI (so j))), (q 4, .inl (cA, 120, .inl fun j => nI (fc j))), (q 5, .inl (cA, 120, .inl ofs)), (q 6, .inl (cA, 120, .inl fun j => nI (tg j))), (q 7, .inl (cA, 120, .inl ch)), (q 8, .inl (cA, 121, .inl fun j => nI (ad j)))]
def mw (q : Nat → Nat) (cA cB : ClassId) (n th : Nat) (st : Bool) (sz bt so fc : Nat → Nat) (ofs : Nat → Int32) (tg nw : Nat → Nat) (gr : Nat → Int32) : va_W := [(q 0, .inr (1, [.ref (q 1), .ref (q 2), .ref (q 3), .ref (q 4), .ref (q 5), .ref (q 6), .ref (q 7), .int (nI (n)), .int (nI (th)), .int (bI (st)), .ref (q 8)])), (q 1, .inl (cA, 120, .inl fun j => nI (fc j))), (q 2, .inl (cA, 480, .inl fun j => nI (sz j))), (q 3, .inl (cA, 480, .inl fun j => nI (bt j))), (q 4, .inl (cA, 480, .inl fun j => nI (so j))), (q 5, .inl (cA, 120, .inl fun j => nI (tg j))), (q 6, .inl (cA, 120, .inl ofs)), (q 7, .inl (cA, 120, .inl fun j => nI (nw j))), (q 8, .inl (cB, 120, .inl gr))]
set_option maxHeartbeats 4000000 in
set_option maxRecDepth 100000 in
theorem c_X0_placeOf (l : Launch) (D : va_G) (cA cB cL : ClassId) (A : Nat → Prop) (wr : va_W) (i k : Nat)  : Met l yX0_placeOf wsX0_placeOf ({ frames := 0, cells := 0, slots := 0, locals := 0 }) (gPre D vwCl [(cA, .int), (cB, .boolean), (cL, .long)] (wr) A [.int (nI (i)), .int (nI (k))]) (gPost (some (.int (nI (4 * i + k)))) D vwCl (wr) A) 0 0 A := by
  refine Met.ofW (cc := cX0_placeOf) (maxL := 2) (ret := (some .int)) (by decide) rfl ?_
  intro p e s m args below meth c s₁ B hml hv
  obtain ⟨rfl, hP, hK, hD⟩ := hv
  have hx := B.exec
  have hb := B.bytes
  have hr := B.returns
  have hlk := B.notSynchronized
  have hts := atoms_spec (ws := wsX0_placeOf) B.pre
  have hown : s.vm.findClass RX0 = some m.cls := findClass_of_methodNamed B.named
  have hS : va_S A s.heap s.heap [] := va_S.rf
  have hl := lv_entry ([.int (nI (i)), .int (nI (k))]) (n := 2) (Nat.le_of_ble_eq_true rfl)
  rw [lg_entry_eq]
  generalize (lg_sl ([.int (nI (i)), .int (nI (k))]) ++ List.replicate (2 - (lg_sl ([.int (nI (i)), .int (nI (k))])).length) Slot.unset).toArray = ls at hl ⊢
  have hl : lv_has ls 2 [(0, .int (nI (i))), (1, .int (nI (k)))] := hl
  refine lv_iload_n hx hb dX0_placeOf_0 rfl (lv_at hl 0 rfl) ?_
  refine lv_iconst (v := nI (4)) hx hb dX0_placeOf_1 (by decide) ?_
  refine gi_imul hx hb (4 * i) (by omega) dX0_placeOf_2 ?_
  refine lv_iload_n hx hb dX0_placeOf_3 rfl (lv_at hl 1 rfl) ?_
  refine gi_iadd hx hb (4 * i + k) rfl dX0_placeOf_4 ?_
  exact gi_iret hx hb hlk hr dX0_placeOf_5 (rfl) hP hS
set_option maxHeartbeats 4000000 in
set_option maxRecDepth 100000 in
theorem c_X0_isForm (l : Launch) (D : va_G) (cA cB cL : ClassId) (A : Nat → Prop) (wr : va_W) (x y z : Int32)  : Met l yX0_isForm wsX0_isForm ({ frames := 0, cells := 0, slots := 0, locals := 0 }) (gPre D vwCl [(cA, .int), (cB, .boolean), (cL, .long)] (wr) A [.int (x), .int (y), .int (z)]) (gPost (some (.int (bI (gf_isf x y z)))) D vwCl (wr) A) 0 0 A := by
  refine Met.ofW (cc := cX0_isForm) (maxL := 3) (ret := (some .boolean)) (by decide) rfl ?_
  intro p e s m args below meth c s₁ B hml hv
  obtain ⟨rfl, hP, hK, hD⟩ := hv
  have hx := B.exec
  have hb := B.bytes
  have hr := B.returns
  have hlk := B.notSynchronized
  have hts := atoms_spec (ws := wsX0_isForm) B.pre
  have hown : s.vm.findClass RX0 = some m.cls := findClass_of_methodNamed B.named
  have hS : va_S A s.heap s.heap [] := va_S.rf
  have hl := lv_entry ([.int (x), .int (y), .int (z)]) (n := 3) (Nat.le_of_ble_eq_true rfl)
  rw [lg_entry_eq]
  generalize (lg_sl ([.int (x), .int (y), .int (z)]) ++ List.replicate (3 - (lg_sl ([.int (x), .int (y), .int (z)])).length) Slot.unset).toArray = ls at hl ⊢
  have hl : lv_has ls 3 [(0, .int (x)), (1, .int (y)), (2, .int (z))] := hl
  refine lv_iload_n hx hb dX0_isForm_0 rfl (lv_at hl 0 rfl) ?_
  refine lv_iconst (v := nI (1)) hx hb dX0_isForm_1 (by decide) ?_
  refine lv_icmp_lt (tgt := 35) hx hb dX0_isForm_2 rfl (fun h2 => ?_) (fun h2 => ?_)
  · refine lv_iconst (v := nI (0)) hx hb dX0_isForm_35 (by decide) ?_
    exact gi_zret hx hb hlk hr dX0_isForm_36 (bR_f (show gf_isf x y z = false from decide_eq_false (fun z9 => z9.1 h2))) hP hS
  · refine lv_iload_n hx hb dX0_isForm_5 rfl (lv_at hl 0 rfl) ?_
    refine lv_bipush (v := nI (64)) hx hb dX0_isForm_6 (by decide) ?_
    refine lv_icmp_gt (tgt := 35) hx hb dX0_isForm_8 rfl (fun h8 => ?_) (fun h8 => ?_)
    · refine lv_iconst (v := nI (0)) hx hb dX0_isForm_35 (by decide) ?_
      exact gi_zret hx hb hlk hr dX0_isForm_36 (bR_f (show gf_isf x y z = false from decide_eq_false (fun z9 => z9.2.1 h8))) hP hS
    · refine lv_iload_n hx hb dX0_isForm_11 rfl (lv_at hl 1 rfl) ?_
      refine lv_iconst (v := nI (1)) hx hb dX0_isForm_12 (by decide) ?_
      refine lv_icmp_lt (tgt := 35) hx hb dX0_isForm_13 rfl (fun h13 => ?_) (fun h13 => ?_)
      · refine lv_iconst (v := nI (0)) hx hb dX0_isForm_35 (by decide) ?_
        exact gi_zret hx hb hlk hr dX0_isForm_36 (bR_f (show gf_isf x y z = false from decide_eq_false (fun z9 => z9.2.2.1 h13))) hP hS
      · refine lv_iload_n hx hb dX0_isForm_16 rfl (lv_at hl 1 rfl) ?_
        refine lv_bipush (v := nI (32)) hx hb dX0_isForm_17 (by decide) ?_
        refine lv_icmp_gt (tgt := 35) hx hb dX0_isForm_19 rfl (fun h19 => ?_) (fun h19 => ?_)
        · refine lv_iconst (v := nI (0)) hx hb dX0_isForm_35 (by decide) ?_
          exact gi_zret hx hb hlk hr dX0_isForm_36 (bR_f (show gf_isf x y z = false from decide_eq_false (fun z9 => z9.2.2.2.1 h19))) hP hS
        · refine lv_iload_n hx hb dX0_isForm_22 rfl (lv_at hl 2 rfl) ?_
          refine lv_if_lt (tgt := 35) hx hb dX0_isForm_23 rfl (fun h23 => ?_) (fun h23 => ?_)
          · refine lv_iconst (v := nI (0)) hx hb dX0_isForm_35 (by decide) ?_
            exact gi_zret hx hb hlk hr dX0_isForm_36 (bR_f (show gf_isf x y z = false from decide_eq_false (fun z9 => z9.2.2.2.2.1 h23))) hP hS
          · refine lv_iload_n hx hb dX0_isForm_26 rfl (lv_at hl 2 rfl) ?_
            refine lv_iconst (v := nI (2)) hx hb dX0_isForm_27 (by decide) ?_
            refine lv_icmp_gt (tgt := 35) hx hb dX0_isForm_28 rfl (fun h28 => ?_) (fun h28 => ?_)
            · refine lv_iconst (v := nI (0)) hx hb dX0_isForm_35 (by decide) ?_
              exact gi_zret hx hb hlk hr dX0_isForm_36 (bR_f (show gf_isf x y z = false from decide_eq_false (fun z9 => z9.2.2.2.2.2 h28))) hP hS
            · refine lv_iconst (v := nI (1)) hx hb dX0_isForm_31 (by decide) ?_
              refine lv_goto (tgt := 36) hx hb dX0_isForm_32 rfl ?_
              exact gi_zret hx hb hlk hr dX0_isForm_36 (bR_t (show gf_isf x y z = true from decide_eq_true ⟨h2, h8, h13, h19, h23, h28⟩)) hP hS
set_option maxHeartbeats 4000000 in
set_option maxRecDepth 100000 in
theorem c_X0_isLine (l : Launch) (D : va_G) (cA cB cL : ClassId) (A : Nat → Prop) (wr : va_W) (q : Nat → Nat) (n : Nat) (st : Bool) (sz bt so fc : Nat → Nat) (ofs : Nat → Int32) (tg : Nat → Nat) (ch : Nat → Int32) (ad : Nat → Nat) (x : Int32)  : Met l yX0_isLine wsX0_isLine ({ frames := 0, cells := 0, slots := 0, locals := 0 }) (gPre D vwCl [(cA, .int), (cB, .boolean), (cL, .long)] ((xw q cA n st sz bt so fc ofs tg ch ad) ++ wr) A [.ref (q 0), .int (x)]) (gPost (some (.int (bI (gf_isl n x)))) D vwCl ((xw q cA n st sz bt so fc ofs tg ch ad) ++ wr) A) 0 0 A := by
  refine Met.ofW (cc := cX0_isLine) (maxL := 2) (ret := (some .boolean)) (by decide) rfl ?_
  intro p e s m args below meth c s₁ B hml hv
  obtain ⟨rfl, hP, hK, hD⟩ := hv
  have hx := B.exec
  have hb := B.bytes
  have hr := B.returns
  have hlk := B.notSynchronized
  have hts := atoms_spec (ws := wsX0_isLine) B.pre
  have hown : s.vm.findClass RX0 = some m.cls := findClass_of_methodNamed B.named
  have hS : va_S A s.heap s.heap [] := va_S.rf
  have hl := lv_entry ([.ref (q 0), .int (x)]) (n := 2) (Nat.le_of_ble_eq_true rfl)
  rw [lg_entry_eq]
  generalize (lg_sl ([.ref (q 0), .int (x)]) ++ List.replicate (2 - (lg_sl ([.ref (q 0), .int (x)])).length) Slot.unset).toArray = ls at hl ⊢
  have hl : lv_has ls 2 [(0, .ref (q 0)), (1, .int (x))] := hl
  have hin : ∀ w ∈ u_ws RX0 TX0 10, w ∈ wsX0_isLine := fun w h => List.mem_cons_of_mem _ (inTX0 w h)
  have hf34 := hts _ (List.mem_cons_of_mem _ tfX0_34)
  refine lv_iload_n hx hb dX0_isLine_0 rfl (lv_at hl 1 rfl) ?_
  refine lv_if_lt (tgt := 16) hx hb dX0_isLine_1 rfl (fun h1 => ?_) (fun h1 => ?_)
  · refine lv_iconst (v := nI (0)) hx hb dX0_isLine_16 (by decide) ?_
    exact gi_zret hx hb hlk hr dX0_isLine_17 (bR_f (show gf_isl n x = false from decide_eq_false (fun z9 => z9.1 h1))) hP hS
  · refine lv_iload_n hx hb dX0_isLine_4 rfl (lv_at hl 1 rfl) ?_
    refine lv_aload_n hx hb dX0_isLine_5 rfl (lv_at hl 0 rfl) ?_
    refine va_get (D := D) (ci := 0) (v := .int (nI (n))) (C := RX0) (T := TX0) (N := 10) hx hb hts hin hown hK hP 0 rfl rfl 8 (by decide) hf34 (fun _ h9 => h9) rfl dX0_isLine_6 ?_
    refine lv_icmp_ge (tgt := 16) hx hb dX0_isLine_9 rfl (fun h9 => ?_) (fun h9 => ?_)
    · refine lv_iconst (v := nI (0)) hx hb dX0_isLine_16 (by decide) ?_
      exact gi_zret hx hb hlk hr dX0_isLine_17 (bR_f (show gf_isl n x = false from decide_eq_false (fun z9 => z9.2 h9))) hP hS
    · refine lv_iconst (v := nI (1)) hx hb dX0_isLine_12 (by decide) ?_
      refine lv_goto (tgt := 17) hx hb dX0_isLine_13 rfl ?_
      exact gi_zret hx hb hlk hr dX0_isLine_17 (bR_t (show gf_isl n x = true from decide_eq_true ⟨h1, h9⟩)) hP hS
set_option maxHeartbeats 4000000 in
set_option maxRecDepth 100000 in
theorem c_X0_isLineOrEnd (l : Launch) (D : va_G) (cA cB cL : ClassId) (A : Nat → Prop) (wr : va_W) (q : Nat → Nat) (n : Nat) (st : Bool) (sz bt so fc : Nat → Nat) (ofs : Nat → Int32) (tg : Nat → Nat) (ch : Nat → Int32) (ad : Nat → Nat) (x : Int32)  : Met l yX0_isLineOrEnd wsX0_isLineOrEnd ({ frames := 0, cells := 0, slots := 0, locals := 0 }) (gPre D vwCl [(cA, .int), (cB, .boolean), (cL, .long)] ((xw q cA n st sz bt so fc ofs tg ch ad) ++ wr) A [.ref (q 0), .int (x)]) (gPost (some (.int (bI (gf_ile n x)))) D vwCl ((xw q cA n st sz bt so fc ofs tg ch ad) ++ wr) A) 0 0 A := by
  refine Met.ofW (cc := cX0_isLineOrEnd) (maxL := 2) (ret := (some .boolean)) (by decide) rfl ?_
  intro p e s m args below meth c s₁ B hml hv
  obtain ⟨rfl, hP, hK, hD⟩ := hv
  have hx := B.exec
  have hb := B.bytes
  have hr := B.returns
  have hlk := B.notSynchronized
  have hts := atoms_spec (ws := wsX0_isLineOrEnd) B.pre
  have hown : s.vm.findClass RX0 = some m.cls := findClass_of_methodNamed B.named
  have hS : va_S A s.heap s.heap [] := va_S.rf
  have hl := lv_entry ([.ref (q 0), .int (x)]) (n := 2) (Nat.le_of_ble_eq_true rfl)
  rw [lg_entry_eq]
  generalize (lg_sl ([.ref (q 0), .int (x)]) ++ List.replicate (2 - (lg_sl ([.ref (q 0), .int (x)])).length) Slot.unset).toArray = ls at hl ⊢
  have hl : lv_has ls 2 [(0, .ref (q 0)), (1, .int (x))] := hl
  have hin : ∀ w ∈ u_ws RX0 TX0 10, w ∈ wsX0_isLineOrEnd := fun w h => List.mem_cons_of_mem _ (inTX0 w h)
  have hf34 := hts _ (List.mem_cons_of_mem _ tfX0_34)
  refine lv_iload_n hx hb dX0_isLineOrEnd_0 rfl (lv_at hl 1 rfl) ?_
  refine lv_if_lt (tgt := 16) hx hb dX0_isLineOrEnd_1 rfl (fun h1 => ?_) (fun h1 => ?_)
  · refine lv_iconst (v := nI (0)) hx hb dX0_isLineOrEnd_16 (by decide) ?_
    exact gi_zret hx hb hlk hr dX0_isLineOrEnd_17 (bR_f (show gf_ile n x = false from decide_eq_false (fun z9 => z9.1 h1))) hP hS
  · refine lv_iload_n hx hb dX0_isLineOrEnd_4 rfl (lv_at hl 1 rfl) ?_
    refine lv_aload_n hx hb dX0_isLineOrEnd_5 rfl (lv_at hl 0 rfl) ?_
    refine va_get (D := D) (ci := 0) (v := .int (nI (n))) (C := RX0) (T := TX0) (N := 10) hx hb hts hin hown hK hP 0 rfl rfl 8 (by decide) hf34 (fun _ h9 => h9) rfl dX0_isLineOrEnd_6 ?_
    refine lv_icmp_gt (tgt := 16) hx hb dX0_isLineOrEnd_9 rfl (fun h9 => ?_) (fun h9 => ?_)
    · refine lv_iconst (v := nI (0)) hx hb dX0_isLineOrEnd_16 (by decide) ?_
      exact gi_zret hx hb hlk hr dX0_isLineOrEnd_17 (bR_f (show gf_ile n x = false from decide_eq_false (fun z9 => z9.2 h9))) hP hS
    · refine lv_iconst (v := nI (1)) hx hb dX0_isLineOrEnd_12 (by decide) ?_
      refine lv_goto (tgt := 17) hx hb dX0_isLineOrEnd_13 rfl ?_
      exact gi_zret hx hb hlk hr dX0_isLineOrEnd_17 (bR_t (show gf_ile n x = true from decide_eq_true ⟨h1, h9⟩)) hP hS
set_option maxHeartbeats 4000000 in
set_option maxRecDepth 100000 in
theorem c_X0_clear (l : Launch) (D : va_G) (cA cB cL : ClassId) (A : Nat → Prop) (wr : va_W) (q : Nat → Nat) (n : Nat) (st : Bool) (sz bt so fc : Nat → Nat) (ofs : Nat → Int32) (tg : Nat → Nat) (ch : Nat → Int32) (ad : Nat → Nat)  : Met l yX0_clear wsX0_clear ({ frames := 0, cells := 0, slots := 0, locals := 0 }) (gPre D vwCl [(cA, .int), (cB, .boolean), (cL, .long)] ((xw q cA n st sz bt so fc ofs tg ch ad) ++ wr) A [.ref (q 0)]) (gPost (some (.int (nI (n)))) D vwCl ((xw q cA 0 false sz bt so fc ofs tg ch ad) ++ wr) A) 0 0 A := by
  refine Met.ofW (cc := cX0_clear) (maxL := 2) (ret := (some .int)) (by decide) rfl ?_
  intro p e s m args below meth c s₁ B hml hv
  obtain ⟨rfl, hP, hK, hD⟩ := hv
  have hx := B.exec
  have hb := B.bytes
  have hr := B.returns
  have hlk := B.notSynchronized
  have hts := atoms_spec (ws := wsX0_clear) B.pre
  have hown : s.vm.findClass RX0 = some m.cls := findClass_of_methodNamed B.named
  have hS : va_S A s.heap s.heap [] := va_S.rf
  have hl := lv_entry ([.ref (q 0)]) (n := 2) (Nat.le_of_ble_eq_true rfl)
  rw [lg_entry_eq]
  generalize (lg_sl ([.ref (q 0)]) ++ List.replicate (2 - (lg_sl ([.ref (q 0)])).length) Slot.unset).toArray = ls at hl ⊢
  have hl : lv_has ls 2 [(0, .ref (q 0))] := hl
  have hin : ∀ w ∈ u_ws RX0 TX0 10, w ∈ wsX0_clear := fun w h => List.mem_cons_of_mem _ (inTX0 w h)
  have hf34 := hts _ (List.mem_cons_of_mem _ tfX0_34)
  have hf38 := hts _ (List.mem_cons_of_mem _ tfX0_38)
  refine lv_aload_n hx hb dX0_clear_0 rfl (lv_at hl 0 rfl) ?_
  refine va_get (D := D) (ci := 0) (v := .int (nI (n))) (C := RX0) (T := TX0) (N := 10) hx hb hts hin hown hK hP 0 rfl rfl 8 (by decide) hf34 (fun _ h9 => h9) rfl dX0_clear_1 ?_
  refine lv_istore_n (lv' := [(1, .int (nI (n))), (0, .ref (q 0))]) hx hb dX0_clear_4 rfl hl (by decide) rfl (fun ls hl => ?_)
  refine lv_aload_n hx hb dX0_clear_5 rfl (lv_at hl 1 rfl) ?_
  refine lv_iconst (v := nI (0)) hx hb dX0_clear_6 (by decide) ?_
  refine va_put (D := D) (ci := 0) (v := .int (nI (0))) (ty := .int) (C := RX0) (T := TX0) (N := 10) hx hb hts hin tyX0 tyX0_ok nmX0 hown hK hP hD hS 0 rfl rfl 8 (by decide) hf34 (fun _ h9 => h9) rfl (by decide +kernel) rfl rfl (Nat.le_of_ble_eq_true rfl) dX0_clear_7 (fun H locs hP hD hS => ?_)
  have hP : va_P D vwCl ((xw q cA 0 st sz bt so fc ofs tg ch ad) ++ wr) H := hP
  have hD : va_D A ((xw q cA 0 st sz bt so fc ofs tg ch ad) ++ wr) := hD
  refine lv_aload_n hx hb dX0_clear_10 rfl (lv_at hl 1 rfl) ?_
  refine lv_iconst (v := nI (0)) hx hb dX0_clear_11 (by decide) ?_
  refine va_put (D := D) (ci := 0) (v := .int (bI (false))) (ty := .boolean) (C := RX0) (T := TX0) (N := 10) hx hb hts hin tyX0 tyX0_ok nmX0 hown hK hP hD hS 0 rfl rfl 9 (by decide) hf38 (fun _ h9 => h9) rfl (by decide +kernel) (bI_nar _) (bI_fits _) (Nat.le_of_ble_eq_true rfl) dX0_clear_12 (fun H locs hP hD hS => ?_)
  have hP : va_P D vwCl ((xw q cA 0 false sz bt so fc ofs tg ch ad) ++ wr) H := hP
  have hD : va_D A ((xw q cA 0 false sz bt so fc ofs tg ch ad) ++ wr) := hD
  refine lv_iload_n hx hb dX0_clear_15 rfl (lv_at hl 0 rfl) ?_
  exact gi_iret hx hb hlk hr dX0_clear_16 (rfl) hP hS
set_option maxHeartbeats 4000000 in
set_option maxRecDepth 100000 in
theorem c_X1_clear (l : Launch) (D : va_G) (cA cB cL : ClassId) (A : Nat → Prop) (wr : va_W) (q : Nat → Nat) (n th : Nat) (st : Bool) (sz bt so fc : Nat → Nat) (ofs : Nat → Int32) (tg nw : Nat → Nat) (gr : Nat → Int32)  : Met l yX1_clear wsX1_clear ({ frames := 0, cells := 0, slots := 0, locals := 0 }) (gPre D vwCl [(cA, .int), (cB, .boolean), (cL, .long)] ((mw q cA cB n th st sz bt so fc ofs tg nw gr) ++ wr) A [.ref (q 0)]) (gPost (some (.int (nI (n)))) D vwCl ((mw q cA cB 0 0 false sz bt so fc ofs tg nw gr) ++ wr) A) 0 0 A := by
  refine Met.ofW (cc := cX1_clear) (maxL := 2) (ret := (some .int)) (by decide) rfl ?_
  intro p e s m args below meth c s₁ B hml hv
  obtain ⟨rfl, hP, hK, hD⟩ := hv
  have hx := B.exec
  have hb := B.bytes
  have hr := B.returns
  have hlk := B.notSynchronized
  have hts := atoms_spec (ws := wsX1_clear) B.pre
  have hown : s.vm.findClass RX1 = some m.cls := findClass_of_methodNamed B.named
  have hS : va_S A s.heap s.heap [] := va_S.rf
  have hl := lv_entry ([.ref (q 0)]) (n := 2) (Nat.le_of_ble_eq_true rfl)
  rw [lg_entry_eq]
  generalize (lg_sl ([.ref (q 0)]) ++ List.replicate (2 - (lg_sl ([.ref (q 0)])).length) Slot.unset).toArray = ls at hl ⊢
  have hl : lv_has ls 2 [(0, .ref (q 0))] := hl
  have hin : ∀ w ∈ u_ws RX1 TX1 11, w ∈ wsX1_clear := fun w h => List.mem_cons_of_mem _ (inTX1 w h)
  have hf35 := hts _ (List.mem_cons_of_mem _ tfX1_35)
  have hf39 := hts _ (List.mem_cons_of_mem _ tfX1_39)
  have hf42 := hts _ (List.mem_cons_of_mem _ tfX1_42)
  refine lv_aload_n hx hb dX1_clear_0 rfl (lv_at hl 0 rfl) ?_
  refine lv_iconst (v := nI (0)) hx hb dX1_clear_1 (by decide) ?_
  refine va_put (D := D) (ci := 1) (v := .int (nI (0))) (ty := .int) (C := RX1) (T := TX1) (N := 11) hx hb hts hin tyX1 tyX1_ok nmX1 hown hK hP hD hS 0 rfl rfl 8 (by decide) hf35 (fun _ h9 => h9) rfl (by decide +kernel) rfl rfl (Nat.le_of_ble_eq_true rfl) dX1_clear_2 (fun H locs hP hD hS => ?_)
  have hP : va_P D vwCl ((mw q cA cB n 0 st sz bt so fc ofs tg nw gr) ++ wr) H := hP
  have hD : va_D A ((mw q cA cB n 0 st sz bt so fc ofs tg nw gr) ++ wr) := hD
  refine lv_aload_n hx hb dX1_clear_5 rfl (lv_at hl 0 rfl) ?_
  refine va_get (D := D) (ci := 1) (v := .int (nI (n))) (C := RX1) (T := TX1) (N := 11) hx hb hts hin hown hK hP 0 rfl rfl 7 (by decide) hf39 (fun _ h9 => h9) rfl dX1_clear_6 ?_
  refine lv_istore_n (lv' := [(1, .int (nI (n))), (0, .ref (q 0))]) hx hb dX1_clear_9 rfl hl (by decide) rfl (fun ls hl => ?_)
  refine lv_aload_n hx hb dX1_clear_10 rfl (lv_at hl 1 rfl) ?_
  refine lv_iconst (v := nI (0)) hx hb dX1_clear_11 (by decide) ?_
  refine va_put (D := D) (ci := 1) (v := .int (nI (0))) (ty := .int) (C := RX1) (T := TX1) (N := 11) hx hb hts hin tyX1 tyX1_ok nmX1 hown hK hP hD hS 0 rfl rfl 7 (by decide) hf39 (fun _ h9 => h9) rfl (by decide +kernel) rfl rfl (Nat.le_of_ble_eq_true rfl) dX1_clear_12 (fun H locs hP hD hS => ?_)
  have hP : va_P D vwCl ((mw q cA cB 0 0 st sz bt so fc ofs tg nw gr) ++ wr) H := hP
  have hD : va_D A ((mw q cA cB 0 0 st sz bt so fc ofs tg nw gr) ++ wr) := hD
  refine lv_aload_n hx hb dX1_clear_15 rfl (lv_at hl 1 rfl) ?_
  refine lv_iconst (v := nI (0)) hx hb dX1_clear_16 (by decide) ?_
  refine va_put (D := D) (ci := 1) (v := .int (bI (false))) (ty := .boolean) (C := RX1) (T := TX1) (N := 11) hx hb hts hin tyX1 tyX1_ok nmX1 hown hK hP hD hS 0 rfl rfl 9 (by decide) hf42 (fun _ h9 => h9) rfl (by decide +kernel) (bI_nar _) (bI_fits _) (Nat.le_of_ble_eq_true rfl) dX1_clear_17 (fun H locs hP hD hS => ?_)
  have hP : va_P D vwCl ((mw q cA cB 0 0 false sz bt so fc ofs tg nw gr) ++ wr) H := hP
  have hD : va_D A ((mw q cA cB 0 0 false sz bt so fc ofs tg nw gr) ++ wr) := hD
  refine lv_iload_n hx hb dX1_clear_20 rfl (lv_at hl 0 rfl) ?_
  exact gi_iret hx hb hlk hr dX1_clear_21 (rfl) hP hS
set_option maxHeartbeats 4000000 in
set_option maxRecDepth 100000 in
theorem c_X1_thrown (l : Launch) (D : va_G) (cA cB cL : ClassId) (A : Nat → Prop) (wr : va_W) (q : Nat → Nat) (n th : Nat) (st : Bool) (sz bt so fc : Nat → Nat) (ofs : Nat → Int32) (tg nw : Nat → Nat) (gr : Nat → Int32)  : Met l yX1_thrown wsX1_thrown ({ frames := 0, cells := 0, slots := 0, locals := 0 }) (gPre D vwCl [(cA, .int), (cB, .boolean), (cL, .long)] ((mw q cA cB n th st sz bt so fc ofs tg nw gr) ++ wr) A [.ref (q 0)]) (gPost (some (.int (nI (th)))) D vwCl ((mw q cA cB n th st sz bt so fc ofs tg nw gr) ++ wr) A) 0 0 A := by
  refine Met.ofW (cc := cX1_thrown) (maxL := 1) (ret := (some .int)) (by decide) rfl ?_
  intro p e s m args below meth c s₁ B hml hv
  obtain ⟨rfl, hP, hK, hD⟩ := hv
  have hx := B.exec
  have hb := B.bytes
  have hr := B.returns
  have hlk := B.notSynchronized
  have hts := atoms_spec (ws := wsX1_thrown) B.pre
  have hown : s.vm.findClass RX1 = some m.cls := findClass_of_methodNamed B.named
  have hS : va_S A s.heap s.heap [] := va_S.rf
  have hl := lv_entry ([.ref (q 0)]) (n := 1) (Nat.le_of_ble_eq_true rfl)
  rw [lg_entry_eq]
  generalize (lg_sl ([.ref (q 0)]) ++ List.replicate (1 - (lg_sl ([.ref (q 0)])).length) Slot.unset).toArray = ls at hl ⊢
  have hl : lv_has ls 1 [(0, .ref (q 0))] := hl
  have hin : ∀ w ∈ u_ws RX1 TX1 11, w ∈ wsX1_thrown := fun w h => List.mem_cons_of_mem _ (inTX1 w h)
  have hf35 := hts _ (List.mem_cons_of_mem _ tfX1_35)
  refine lv_aload_n hx hb dX1_thrown_0 rfl (lv_at hl 0 rfl) ?_
  refine va_get (D := D) (ci := 1) (v := .int (nI (th))) (C := RX1) (T := TX1) (N := 11) hx hb hts hin hown hK hP 0 rfl rfl 8 (by decide) hf35 (fun _ h9 => h9) rfl dX1_thrown_1 ?_
  exact gi_iret hx hb hlk hr dX1_thrown_4 (rfl) hP hS
