set_option maxHeartbeats 4000000 in
set_option maxRecDepth 100000 in
theorem ex_X0_line (l : Launch) (hl9 : l.stackTraces = false) (D : va_G) (cA cB cL : ClassId) (A : Nat → Prop) (wr : va_W) (q : Nat → Nat) (n : Nat) (st : Bool) (sz bt so fc : Nat → Nat) (ofs : Nat → Int32) (tg : Nat → Nat) (ch : Nat → Int32) (ad : Nat → Nat) (hn : n = 120) : vx_Met l yX0_line wsX0_line ({ frames := 6, cells := 1, slots := 6, locals := 82 }) (gPreX D vwCl [(cA, .int), (cB, .boolean), (cL, .long)] ((xw q cA n st sz bt so fc ofs tg ch ad) ++ wr) A [.ref (q 0)]) gNo (gXC sISE D vwCl ((xw q cA n st sz bt so fc ofs tg ch ad) ++ wr) A) 1 6 A := by
  refine vx_ofW (cc := cX0_line) (maxL := 2) (ret := (some .int)) (by decide) rfl ?_
  intro p e s m args below meth c s₁ B hml hnt hv
  obtain ⟨rfl, hP, hK, hD, hX⟩ := hv
  have hx := B.exec
  have hb := B.bytes
  have hr := B.returns
  have hlk := B.notSynchronized
  have hts := atoms_spec (ws := wsX0_line) B.pre
  have hown : s.vm.findClass RX0 = some m.cls := findClass_of_methodNamed B.named
  have hS : va_S A s.heap s.heap [] := va_S.rf
  have hl := lv_entry ([.ref (q 0)]) (n := 2) (Nat.le_of_ble_eq_true rfl)
  rw [lg_entry_eq]
  generalize (lg_sl ([.ref (q 0)]) ++ List.replicate (2 - (lg_sl ([.ref (q 0)])).length) Slot.unset).toArray = ls at hl ⊢
  have hl : lv_has ls 2 [(0, .ref (q 0))] := hl
  have hin : ∀ w ∈ u_ws RX0 TX0 10, w ∈ wsX0_line := fun w h => List.mem_cons_of_mem _ (inTX0 w h)
  have hf19 := hts _ (List.mem_cons_of_mem _ tfX0_19)
  have hf22 := hts _ (List.mem_cons_of_mem _ tfX0_22)
  have hf25 := hts _ (List.mem_cons_of_mem _ tfX0_25)
  have hf34 := hts _ (List.mem_cons_of_mem _ tfX0_34)
  have hf38 := hts _ (List.mem_cons_of_mem _ tfX0_38)
  refine lv_aload_n hx hb dX0_line_0 rfl (lv_at hl 0 rfl) ?_
  refine va_get (D := D) (ci := 0) (v := .int (nI (n))) (C := RX0) (T := TX0) (N := 10) hx hb hts hin hown hK hP 0 rfl rfl 8 (by decide) hf34 (fun _ h9 => h9) rfl dX0_line_1 ?_
  refine lv_bipush (v := nI (120)) hx hb dX0_line_4 (by decide) ?_
  refine gi_icmp_lt (tgt := 19) hx hb (by omega) (by omega) dX0_line_6 rfl (fun h9 => absurd h9 (by omega)) (fun h6 => ?_)
  exact gi_throw (text := _) hx hb hl9 hts (fun w h => List.mem_cons_of_mem _ h) hown (by decide +kernel) tkX0_42 ti_IllegalStateException (List.mem_of_getElem? (i := 0) rfl) x1_46 x2_46 x3_46 hX hP hS (hl.1.trans hml.symm) hnt hlk ⟨Nat.le_of_ble_eq_true rfl, Nat.le_of_ble_eq_true rfl, Nat.le_of_ble_eq_true rfl, Nat.le_of_ble_eq_true rfl⟩ dX0_line_9 dX0_line_12 dX0_line_13 dX0_line_15 dX0_line_18
set_option maxHeartbeats 4000000 in
set_option maxRecDepth 100000 in
theorem ex1_X0_form (l : Launch) (hl9 : l.stackTraces = false) (D : va_G) (cA cB cL : ClassId) (A : Nat → Prop) (wr : va_W) (q : Nat → Nat) (n : Nat) (st : Bool) (sz bt so fc : Nat → Nat) (ofs : Nat → Int32) (tg : Nat → Nat) (ch : Nat → Int32) (ad : Nat → Nat) (x y z : Int32) (hf : gf_isf x y z = false) : vx_Met l yX0_form wsX0_form ({ frames := 6, cells := 1, slots := 6, locals := 82 }) (gPreX D vwCl [(cA, .int), (cB, .boolean), (cL, .long)] ((xw q cA n st sz bt so fc ofs tg ch ad) ++ wr) A [.ref (q 0), .int (x), .int (y), .int (z)]) gNo (gXC sIAE D vwCl ((xw q cA n st sz bt so fc ofs tg ch ad) ++ wr) A) 1 6 A := by
  refine vx_ofW (cc := cX0_form) (maxL := 6) (ret := (some .int)) (by decide) rfl ?_
  intro p e s m args below meth c s₁ B hml hnt hv
  obtain ⟨rfl, hP, hK, hD, hX⟩ := hv
  have hx := B.exec
  have hb := B.bytes
  have hr := B.returns
  have hlk := B.notSynchronized
  have hts := atoms_spec (ws := wsX0_form) B.pre
  have hown : s.vm.findClass RX0 = some m.cls := findClass_of_methodNamed B.named
  have hS : va_S A s.heap s.heap [] := va_S.rf
  have hl := lv_entry ([.ref (q 0), .int (x), .int (y), .int (z)]) (n := 6) (Nat.le_of_ble_eq_true rfl)
  rw [lg_entry_eq]
  generalize (lg_sl ([.ref (q 0), .int (x), .int (y), .int (z)]) ++ List.replicate (6 - (lg_sl ([.ref (q 0), .int (x), .int (y), .int (z)])).length) Slot.unset).toArray = ls at hl ⊢
  have hl : lv_has ls 6 [(0, .ref (q 0)), (1, .int (x)), (2, .int (y)), (3, .int (z))] := hl
  have hin : ∀ w ∈ u_ws RX0 TX0 10, w ∈ wsX0_form := fun w h => List.mem_cons_of_mem _ (inTX0 w h)
  have hf9 := hts _ (List.mem_cons_of_mem _ tfX0_9)
  have hf13 := hts _ (List.mem_cons_of_mem _ tfX0_13)
  have hf16 := hts _ (List.mem_cons_of_mem _ tfX0_16)
  have hf19 := hts _ (List.mem_cons_of_mem _ tfX0_19)
  have hf34 := hts _ (List.mem_cons_of_mem _ tfX0_34)
  have hf38 := hts _ (List.mem_cons_of_mem _ tfX0_38)
  refine lv_iload_n hx hb dX0_form_0 rfl (lv_at hl 1 rfl) ?_
  refine lv_iload_n hx hb dX0_form_1 rfl (lv_at hl 2 rfl) ?_
  refine lv_iload_n hx hb dX0_form_2 rfl (lv_at hl 3 rfl) ?_
  refine gi_goV (va_runS (As := [.int (x), .int (y), .int (z)]) (rest := []) ⟨hx, hb, hml, hown, hts⟩ (c_X0_isForm l D cA cB cL A ((xw q cA n st sz bt so fc ofs tg ch ad) ++ wr) x y z) (va_cwS 3 hts gX0_form_X0_isForm rfl rfl rfl (by decide +kernel) ⟨Nat.le_of_ble_eq_true rfl, Nat.le_of_ble_eq_true rfl⟩) (gi_preS hK hP hD) rfl rfl hl.1 rfl (lv_room (Nat.le_of_ble_eq_true rfl)) dX0_form_3 ⟨Nat.le_of_ble_eq_true rfl, Nat.le_of_ble_eq_true rfl⟩) hS (fun H locs hP hS => ?_)
  refine gi_if_neb (tgt := 19) hx hb dX0_form_6 rfl (fun h9 => absurd h9 (gf_ne_tf hf)) (fun h6 => ?_)
  exact gi_throw (text := _) hx hb hl9 hts (fun w h => List.mem_cons_of_mem _ h) hown (by decide +kernel) tkX0_53 ti_IllegalArgumentException (List.mem_of_getElem? (i := 1) rfl) x1_57 x2_57 x3_57 hX hP hS (hl.1.trans hml.symm) hnt hlk ⟨Nat.le_of_ble_eq_true rfl, Nat.le_of_ble_eq_true rfl, Nat.le_of_ble_eq_true rfl, Nat.le_of_ble_eq_true rfl⟩ dX0_form_9 dX0_form_12 dX0_form_13 dX0_form_15 dX0_form_18
set_option maxHeartbeats 4000000 in
set_option maxRecDepth 100000 in
theorem ex2_X0_form (l : Launch) (hl9 : l.stackTraces = false) (D : va_G) (cA cB cL : ClassId) (A : Nat → Prop) (wr : va_W) (q : Nat → Nat) (st : Bool) (sz bt so fc : Nat → Nat) (ofs : Nat → Int32) (tg : Nat → Nat) (ch : Nat → Int32) (ad : Nat → Nat) (x y z : Int32) (hf : gf_isf x y z = true) : vx_Met l yX0_form wsX0_form ({ frames := 6, cells := 1, slots := 6, locals := 82 }) (gPreX D vwCl [(cA, .int), (cB, .boolean), (cL, .long)] ((xw q cA 0 st sz bt so fc ofs tg ch ad) ++ wr) A [.ref (q 0), .int (x), .int (y), .int (z)]) gNo (gXC sISE D vwCl ((xw q cA 0 st sz bt so fc ofs tg ch ad) ++ wr) A) 1 6 A := by
  refine vx_ofW (cc := cX0_form) (maxL := 6) (ret := (some .int)) (by decide) rfl ?_
  intro p e s m args below meth c s₁ B hml hnt hv
  obtain ⟨rfl, hP, hK, hD, hX⟩ := hv
  have hx := B.exec
  have hb := B.bytes
  have hr := B.returns
  have hlk := B.notSynchronized
  have hts := atoms_spec (ws := wsX0_form) B.pre
  have hown : s.vm.findClass RX0 = some m.cls := findClass_of_methodNamed B.named
  have hS : va_S A s.heap s.heap [] := va_S.rf
  have hl := lv_entry ([.ref (q 0), .int (x), .int (y), .int (z)]) (n := 6) (Nat.le_of_ble_eq_true rfl)
  rw [lg_entry_eq]
  generalize (lg_sl ([.ref (q 0), .int (x), .int (y), .int (z)]) ++ List.replicate (6 - (lg_sl ([.ref (q 0), .int (x), .int (y), .int (z)])).length) Slot.unset).toArray = ls at hl ⊢
  have hl : lv_has ls 6 [(0, .ref (q 0)), (1, .int (x)), (2, .int (y)), (3, .int (z))] := hl
  have hin : ∀ w ∈ u_ws RX0 TX0 10, w ∈ wsX0_form := fun w h => List.mem_cons_of_mem _ (inTX0 w h)
  have hf9 := hts _ (List.mem_cons_of_mem _ tfX0_9)
  have hf13 := hts _ (List.mem_cons_of_mem _ tfX0_13)
  have hf16 := hts _ (List.mem_cons_of_mem _ tfX0_16)
  have hf19 := hts _ (List.mem_cons_of_mem _ tfX0_19)
  have hf34 := hts _ (List.mem_cons_of_mem _ tfX0_34)
  have hf38 := hts _ (List.mem_cons_of_mem _ tfX0_38)
  refine lv_iload_n hx hb dX0_form_0 rfl (lv_at hl 1 rfl) ?_
  refine lv_iload_n hx hb dX0_form_1 rfl (lv_at hl 2 rfl) ?_
  refine lv_iload_n hx hb dX0_form_2 rfl (lv_at hl 3 rfl) ?_
  refine gi_goV (va_runS (As := [.int (x), .int (y), .int (z)]) (rest := []) ⟨hx, hb, hml, hown, hts⟩ (c_X0_isForm l D cA cB cL A ((xw q cA 0 st sz bt so fc ofs tg ch ad) ++ wr) x y z) (va_cwS 3 hts gX0_form_X0_isForm rfl rfl rfl (by decide +kernel) ⟨Nat.le_of_ble_eq_true rfl, Nat.le_of_ble_eq_true rfl⟩) (gi_preS hK hP hD) rfl rfl hl.1 rfl (lv_room (Nat.le_of_ble_eq_true rfl)) dX0_form_3 ⟨Nat.le_of_ble_eq_true rfl, Nat.le_of_ble_eq_true rfl⟩) hS (fun H locs hP hS => ?_)
  refine gi_if_neb (tgt := 19) hx hb dX0_form_6 rfl (fun h6 => ?_) (fun h9 => absurd h9 (gf_ne_ft hf))
  refine lv_aload_n hx hb dX0_form_19 rfl (lv_at hl 0 rfl) ?_
  refine va_get (D := D) (ci := 0) (v := .int (nI (0))) (C := RX0) (T := TX0) (N := 10) hx hb hts hin hown hK hP 0 rfl rfl 8 (by decide) hf34 (fun _ h9 => h9) rfl dX0_form_20 ?_
  refine gi_if_ne (tgt := 36) hx hb (by omega) dX0_form_23 rfl (fun h9 => absurd h9 (by omega)) (fun h23 => ?_)
  exact gi_throw (text := _) hx hb hl9 hts (fun w h => List.mem_cons_of_mem _ h) hown (by decide +kernel) tkX0_42 ti_IllegalStateException (List.mem_of_getElem? (i := 2) rfl) x1_46 x2_46 x3_46 hX hP hS (hl.1.trans hml.symm) hnt hlk ⟨Nat.le_of_ble_eq_true rfl, Nat.le_of_ble_eq_true rfl, Nat.le_of_ble_eq_true rfl, Nat.le_of_ble_eq_true rfl⟩ dX0_form_26 dX0_form_29 dX0_form_30 dX0_form_32 dX0_form_35
set_option maxHeartbeats 4000000 in
set_option maxRecDepth 100000 in
theorem ex3_X0_form (l : Launch) (hl9 : l.stackTraces = false) (D : va_G) (cA cB cL : ClassId) (A : Nat → Prop) (wr : va_W) (q : Nat → Nat) (st : Bool) (sz bt so fc : Nat → Nat) (ofs : Nat → Int32) (tg : Nat → Nat) (ch : Nat → Int32) (ad : Nat → Nat) (k : Nat) (x y z : Int32) (hk : k < 120) (hfc : fc k = 4) (hf : gf_isf x y z = true) : vx_Met l yX0_form wsX0_form ({ frames := 6, cells := 1, slots := 6, locals := 82 }) (gPreX D vwCl [(cA, .int), (cB, .boolean), (cL, .long)] ((xw q cA (k + 1) st sz bt so fc ofs tg ch ad) ++ wr) A [.ref (q 0), .int (x), .int (y), .int (z)]) gNo (gXC sISE D vwCl ((xw q cA (k + 1) st sz bt so fc ofs tg ch ad) ++ wr) A) 1 6 A := by
  refine vx_ofW (cc := cX0_form) (maxL := 6) (ret := (some .int)) (by decide) rfl ?_
  intro p e s m args below meth c s₁ B hml hnt hv
  obtain ⟨rfl, hP, hK, hD, hX⟩ := hv
  have hx := B.exec
  have hb := B.bytes
  have hr := B.returns
  have hlk := B.notSynchronized
  have hts := atoms_spec (ws := wsX0_form) B.pre
  have hown : s.vm.findClass RX0 = some m.cls := findClass_of_methodNamed B.named
  have hS : va_S A s.heap s.heap [] := va_S.rf
  have hl := lv_entry ([.ref (q 0), .int (x), .int (y), .int (z)]) (n := 6) (Nat.le_of_ble_eq_true rfl)
  rw [lg_entry_eq]
  generalize (lg_sl ([.ref (q 0), .int (x), .int (y), .int (z)]) ++ List.replicate (6 - (lg_sl ([.ref (q 0), .int (x), .int (y), .int (z)])).length) Slot.unset).toArray = ls at hl ⊢
  have hl : lv_has ls 6 [(0, .ref (q 0)), (1, .int (x)), (2, .int (y)), (3, .int (z))] := hl
  have hin : ∀ w ∈ u_ws RX0 TX0 10, w ∈ wsX0_form := fun w h => List.mem_cons_of_mem _ (inTX0 w h)
  have hf9 := hts _ (List.mem_cons_of_mem _ tfX0_9)
  have hf13 := hts _ (List.mem_cons_of_mem _ tfX0_13)
  have hf16 := hts _ (List.mem_cons_of_mem _ tfX0_16)
  have hf19 := hts _ (List.mem_cons_of_mem _ tfX0_19)
  have hf34 := hts _ (List.mem_cons_of_mem _ tfX0_34)
  have hf38 := hts _ (List.mem_cons_of_mem _ tfX0_38)
  refine lv_iload_n hx hb dX0_form_0 rfl (lv_at hl 1 rfl) ?_
  refine lv_iload_n hx hb dX0_form_1 rfl (lv_at hl 2 rfl) ?_
  refine lv_iload_n hx hb dX0_form_2 rfl (lv_at hl 3 rfl) ?_
  refine gi_goV (va_runS (As := [.int (x), .int (y), .int (z)]) (rest := []) ⟨hx, hb, hml, hown, hts⟩ (c_X0_isForm l D cA cB cL A ((xw q cA (k + 1) st sz bt so fc ofs tg ch ad) ++ wr) x y z) (va_cwS 3 hts gX0_form_X0_isForm rfl rfl rfl (by decide +kernel) ⟨Nat.le_of_ble_eq_true rfl, Nat.le_of_ble_eq_true rfl⟩) (gi_preS hK hP hD) rfl rfl hl.1 rfl (lv_room (Nat.le_of_ble_eq_true rfl)) dX0_form_3 ⟨Nat.le_of_ble_eq_true rfl, Nat.le_of_ble_eq_true rfl⟩) hS (fun H locs hP hS => ?_)
  refine gi_if_neb (tgt := 19) hx hb dX0_form_6 rfl (fun h6 => ?_) (fun h9 => absurd h9 (gf_ne_ft hf))
  refine lv_aload_n hx hb dX0_form_19 rfl (lv_at hl 0 rfl) ?_
  refine va_get (D := D) (ci := 0) (v := .int (nI (k + 1))) (C := RX0) (T := TX0) (N := 10) hx hb hts hin hown hK hP 0 rfl rfl 8 (by decide) hf34 (fun _ h9 => h9) rfl dX0_form_20 ?_
  refine gi_if_ne (tgt := 36) hx hb (by omega) dX0_form_23 rfl (fun h23 => ?_) (fun h9 => absurd h9 (by omega))
  refine lv_aload_n hx hb dX0_form_36 rfl (lv_at hl 0 rfl) ?_
  refine va_get (D := D) (ci := 0) (v := .int (nI (k + 1))) (C := RX0) (T := TX0) (N := 10) hx hb hts hin hown hK hP 0 rfl rfl 8 (by decide) hf34 (fun _ h9 => h9) rfl dX0_form_37 ?_
  refine lv_iconst (v := nI (1)) hx hb dX0_form_40 (by decide) ?_
  refine gi_isub hx hb (k) (by omega) dX0_form_41 ?_
  refine lv_istore (lv' := [(4, .int (nI (k))), (0, .ref (q 0)), (1, .int (x)), (2, .int (y)), (3, .int (z))]) hx hb dX0_form_42 hl (by decide) rfl (fun ls hl => ?_)
  refine lv_aload_n hx hb dX0_form_44 rfl (lv_at hl 1 rfl) ?_
  refine va_get (D := D) (ci := 0) (v := .ref (q 4)) (C := RX0) (T := TX0) (N := 10) hx hb hts hin hown hK hP 0 rfl rfl 3 (by decide) hf19 (fun _ h9 => h9) rfl dX0_form_45 ?_
  refine lv_iload hx hb dX0_form_48 (lv_at hl 0 rfl) ?_
  refine gi_ald hx hb hK hP 4 0 fc rfl rfl (by omega) (by decide) dX0_form_50 ?_
  refine lv_iconst (v := nI (4)) hx hb dX0_form_51 (by decide) ?_
  refine gi_icmp_lt (tgt := 65) hx hb (by omega) (by omega) dX0_form_52 rfl (fun h9 => absurd h9 (by omega)) (fun h52 => ?_)
  exact gi_throw (text := _) hx hb hl9 hts (fun w h => List.mem_cons_of_mem _ h) hown (by decide +kernel) tkX0_42 ti_IllegalStateException (List.mem_of_getElem? (i := 3) rfl) x1_46 x2_46 x3_46 hX hP hS (hl.1.trans hml.symm) hnt hlk ⟨Nat.le_of_ble_eq_true rfl, Nat.le_of_ble_eq_true rfl, Nat.le_of_ble_eq_true rfl, Nat.le_of_ble_eq_true rfl⟩ dX0_form_55 dX0_form_58 dX0_form_59 dX0_form_61 dX0_form_64
set_option maxHeartbeats 4000000 in
set_option maxRecDepth 100000 in
theorem ex_X0_aim (l : Launch) (hl9 : l.stackTraces = false) (D : va_G) (cA cB cL : ClassId) (A : Nat → Prop) (wr : va_W) (q : Nat → Nat) (n : Nat) (st : Bool) (sz bt so fc : Nat → Nat) (ofs : Nat → Int32) (tg : Nat → Nat) (ch : Nat → Int32) (ad : Nat → Nat) (x y o : Int32) (hf : gf_isl n x = false ∨ gf_ile n y = false) : vx_Met l yX0_aim wsX0_aim ({ frames := 6, cells := 1, slots := 6, locals := 82 }) (gPreX D vwCl [(cA, .int), (cB, .boolean), (cL, .long)] ((xw q cA n st sz bt so fc ofs tg ch ad) ++ wr) A [.ref (q 0), .int (x), .int (y), .int (o)]) gNo (gXC sIOB D vwCl ((xw q cA n st sz bt so fc ofs tg ch ad) ++ wr) A) 1 6 A := by
  refine vx_ofW (cc := cX0_aim) (maxL := 4) (ret := none) (by decide) rfl ?_
  intro p e s m args below meth c s₁ B hml hnt hv
  obtain ⟨rfl, hP, hK, hD, hX⟩ := hv
  have hx := B.exec
  have hb := B.bytes
  have hr := B.returns
  have hlk := B.notSynchronized
  have hts := atoms_spec (ws := wsX0_aim) B.pre
  have hown : s.vm.findClass RX0 = some m.cls := findClass_of_methodNamed B.named
  have hS : va_S A s.heap s.heap [] := va_S.rf
  have hl := lv_entry ([.ref (q 0), .int (x), .int (y), .int (o)]) (n := 4) (Nat.le_of_ble_eq_true rfl)
  rw [lg_entry_eq]
  generalize (lg_sl ([.ref (q 0), .int (x), .int (y), .int (o)]) ++ List.replicate (4 - (lg_sl ([.ref (q 0), .int (x), .int (y), .int (o)])).length) Slot.unset).toArray = ls at hl ⊢
  have hl : lv_has ls 4 [(0, .ref (q 0)), (1, .int (x)), (2, .int (y)), (3, .int (o))] := hl
  have hin : ∀ w ∈ u_ws RX0 TX0 10, w ∈ wsX0_aim := fun w h => List.mem_cons_of_mem _ (inTX0 w h)
  have hf22 := hts _ (List.mem_cons_of_mem _ tfX0_22)
  have hf25 := hts _ (List.mem_cons_of_mem _ tfX0_25)
  have hf38 := hts _ (List.mem_cons_of_mem _ tfX0_38)
  refine lv_aload_n hx hb dX0_aim_0 rfl (lv_at hl 0 rfl) ?_
  refine lv_iload_n hx hb dX0_aim_1 rfl (lv_at hl 1 rfl) ?_
  refine gi_goV (va_runV (As := [.int (x)]) (rest := []) ⟨hx, hb, hml, hown, hts⟩ (c_X0_isLine l D cA cB cL A wr q n st sz bt so fc ofs tg ch ad (x)) (cwV 1 hts gX0_aim_X0_isLine rfl rfl rfl (by decide +kernel) ⟨Nat.le_of_ble_eq_true rfl, Nat.le_of_ble_eq_true rfl⟩) (gi_preV (q0 := 0) hK hP hD rfl rfl rfl) rfl rfl hl.1 rfl (lv_room (Nat.le_of_ble_eq_true rfl)) dX0_aim_2 ⟨Nat.le_of_ble_eq_true rfl, Nat.le_of_ble_eq_true rfl⟩) hS (fun H locs hP hS => ?_)
  refine gi_if_eqb (tgt := 16) hx hb dX0_aim_5 rfl (fun h5 => ?_) (fun h5 => ?_)
  · exact gi_throw (text := _) hx hb hl9 hts (fun w h => List.mem_cons_of_mem _ h) hown (by decide +kernel) tkX0_73 ti_IndexOutOfBoundsException (List.mem_of_getElem? (i := 4) rfl) x1_77 x2_77 x3_77 hX hP hS (hl.1.trans hml.symm) hnt hlk ⟨Nat.le_of_ble_eq_true rfl, Nat.le_of_ble_eq_true rfl, Nat.le_of_ble_eq_true rfl, Nat.le_of_ble_eq_true rfl⟩ dX0_aim_16 dX0_aim_19 dX0_aim_20 dX0_aim_22 dX0_aim_25
  · refine lv_aload_n hx hb dX0_aim_8 rfl (lv_at hl 0 rfl) ?_
    refine lv_iload_n hx hb dX0_aim_9 rfl (lv_at hl 2 rfl) ?_
    refine gi_goV (va_runV (As := [.int (y)]) (rest := []) ⟨hx, hb, hml, hown, hts⟩ (c_X0_isLineOrEnd l D cA cB cL A wr q n st sz bt so fc ofs tg ch ad (y)) (cwV 1 hts gX0_aim_X0_isLineOrEnd rfl rfl rfl (by decide +kernel) ⟨Nat.le_of_ble_eq_true rfl, Nat.le_of_ble_eq_true rfl⟩) (gi_preV (q0 := 0) hK hP hD rfl rfl rfl) rfl rfl hl.1 rfl (lv_room (Nat.le_of_ble_eq_true rfl)) dX0_aim_10 ⟨Nat.le_of_ble_eq_true rfl, Nat.le_of_ble_eq_true rfl⟩) hS (fun H locs hP hS => ?_)
    refine gi_if_neb (tgt := 26) hx hb dX0_aim_13 rfl (fun h9 => absurd h9 (fun z9 => hf.elim (gf_ne_ft h5) (gf_ne_ft z9))) (fun h13 => ?_)
    exact gi_throw (text := _) hx hb hl9 hts (fun w h => List.mem_cons_of_mem _ h) hown (by decide +kernel) tkX0_73 ti_IndexOutOfBoundsException (List.mem_of_getElem? (i := 4) rfl) x1_77 x2_77 x3_77 hX hP hS (hl.1.trans hml.symm) hnt hlk ⟨Nat.le_of_ble_eq_true rfl, Nat.le_of_ble_eq_true rfl, Nat.le_of_ble_eq_true rfl, Nat.le_of_ble_eq_true rfl⟩ dX0_aim_16 dX0_aim_19 dX0_aim_20 dX0_aim_22 dX0_aim_25
set_option maxHeartbeats 4000000 in
set_option maxRecDepth 100000 in
theorem ex3_X0_told (l : Launch) (hl9 : l.stackTraces = false) (D : va_G) (cA cB cL : ClassId) (A : Nat → Prop) (wr : va_W) (q : Nat → Nat) (n : Nat) (st : Bool) (sz bt so fc : Nat → Nat) (ofs : Nat → Int32) (tg : Nat → Nat) (ch : Nat → Int32) (ad : Nat → Nat) (x w : Int32) (hw0 : ¬ w = 0) (hw1 : ¬ w = nI 1) (hw2 : ¬ w = nI 2) : vx_Met l yX0_told wsX0_told ({ frames := 6, cells := 1, slots := 6, locals := 91 }) (gPreX D vwCl [(cA, .int), (cB, .boolean), (cL, .long)] ((xw q cA n st sz bt so fc ofs tg ch ad) ++ wr) A [.ref (q 0), .int (x), .int (w)]) gNo (gXC sIAE D vwCl ((xw q cA n st sz bt so fc ofs tg ch ad) ++ wr) A) 1 6 A := by
  refine vx_ofW (cc := cX0_told) (maxL := 3) (ret := (some .int)) (by decide) rfl ?_
  intro p e s m args below meth c s₁ B hml hnt hv
  obtain ⟨rfl, hP, hK, hD, hX⟩ := hv
  have hx := B.exec
  have hb := B.bytes
  have hr := B.returns
  have hlk := B.notSynchronized
  have hts := atoms_spec (ws := wsX0_told) B.pre
  have hown : s.vm.findClass RX0 = some m.cls := findClass_of_methodNamed B.named
  have hS : va_S A s.heap s.heap [] := va_S.rf
  have hl := lv_entry ([.ref (q 0), .int (x), .int (w)]) (n := 3) (Nat.le_of_ble_eq_true rfl)
  rw [lg_entry_eq]
  generalize (lg_sl ([.ref (q 0), .int (x), .int (w)]) ++ List.replicate (3 - (lg_sl ([.ref (q 0), .int (x), .int (w)])).length) Slot.unset).toArray = ls at hl ⊢
  have hl : lv_has ls 3 [(0, .ref (q 0)), (1, .int (x)), (2, .int (w))] := hl
  have hin : ∀ w ∈ u_ws RX0 TX0 10, w ∈ wsX0_told := fun w h => List.mem_cons_of_mem _ (inTX0 w h)
  have hf28 := hts _ (List.mem_cons_of_mem _ tfX0_28)
  have hf31 := hts _ (List.mem_cons_of_mem _ tfX0_31)
  have hf38 := hts _ (List.mem_cons_of_mem _ tfX0_38)
  refine lv_iload_n hx hb dX0_told_0 rfl (lv_at hl 2 rfl) ?_
  refine lv_if_eq (tgt := 24) hx hb dX0_told_1 rfl (fun h9 => absurd h9 hw0) (fun h1 => ?_)
  refine lv_iload_n hx hb dX0_told_4 rfl (lv_at hl 2 rfl) ?_
  refine lv_iconst (v := nI (1)) hx hb dX0_told_5 (by decide) ?_
  refine lv_icmp_eq (tgt := 24) hx hb dX0_told_6 rfl (fun h9 => absurd h9 hw1) (fun h6 => ?_)
  refine lv_iload_n hx hb dX0_told_9 rfl (lv_at hl 2 rfl) ?_
  refine lv_iconst (v := nI (2)) hx hb dX0_told_10 (by decide) ?_
  refine lv_icmp_eq (tgt := 24) hx hb dX0_told_11 rfl (fun h9 => absurd h9 hw2) (fun h11 => ?_)
  exact gi_throw (text := _) hx hb hl9 hts (fun w h => List.mem_cons_of_mem _ h) hown (by decide +kernel) tkX0_53 ti_IllegalArgumentException (List.mem_of_getElem? (i := 7) rfl) x1_57 x2_57 x3_57 hX hP hS (hl.1.trans hml.symm) hnt hlk ⟨Nat.le_of_ble_eq_true rfl, Nat.le_of_ble_eq_true rfl, Nat.le_of_ble_eq_true rfl, Nat.le_of_ble_eq_true rfl⟩ dX0_told_14 dX0_told_17 dX0_told_18 dX0_told_20 dX0_told_23
set_option maxHeartbeats 4000000 in
set_option maxRecDepth 100000 in
theorem ex1_X0_told (l : Launch) (hl9 : l.stackTraces = false) (D : va_G) (cA cB cL : ClassId) (A : Nat → Prop) (wr : va_W) (q : Nat → Nat) (n : Nat) (sz bt so fc : Nat → Nat) (ofs : Nat → Int32) (tg : Nat → Nat) (ch : Nat → Int32) (ad : Nat → Nat) (x : Int32) (w : Nat) (hw2 : w ≤ 2) : vx_Met l yX0_told wsX0_told ({ frames := 6, cells := 1, slots := 6, locals := 91 }) (gPreX D vwCl [(cA, .int), (cB, .boolean), (cL, .long)] ((xw q cA n false sz bt so fc ofs tg ch ad) ++ wr) A [.ref (q 0), .int (x), .int (nI (w))]) gNo (gXC sISE D vwCl ((xw q cA n false sz bt so fc ofs tg ch ad) ++ wr) A) 1 6 A := by
  refine vx_ofW (cc := cX0_told) (maxL := 3) (ret := (some .int)) (by decide) rfl ?_
  intro p e s m args below meth c s₁ B hml hnt hv
  obtain ⟨rfl, hP, hK, hD, hX⟩ := hv
  have hx := B.exec
  have hb := B.bytes
  have hr := B.returns
  have hlk := B.notSynchronized
  have hts := atoms_spec (ws := wsX0_told) B.pre
  have hown : s.vm.findClass RX0 = some m.cls := findClass_of_methodNamed B.named
  have hS : va_S A s.heap s.heap [] := va_S.rf
  have hl := lv_entry ([.ref (q 0), .int (x), .int (nI (w))]) (n := 3) (Nat.le_of_ble_eq_true rfl)
  rw [lg_entry_eq]
  generalize (lg_sl ([.ref (q 0), .int (x), .int (nI (w))]) ++ List.replicate (3 - (lg_sl ([.ref (q 0), .int (x), .int (nI (w))])).length) Slot.unset).toArray = ls at hl ⊢
  have hl : lv_has ls 3 [(0, .ref (q 0)), (1, .int (x)), (2, .int (nI (w)))] := hl
  have hin : ∀ w ∈ u_ws RX0 TX0 10, w ∈ wsX0_told := fun w h => List.mem_cons_of_mem _ (inTX0 w h)
  have hf28 := hts _ (List.mem_cons_of_mem _ tfX0_28)
  have hf31 := hts _ (List.mem_cons_of_mem _ tfX0_31)
  have hf38 := hts _ (List.mem_cons_of_mem _ tfX0_38)
  refine lv_iload_n hx hb dX0_told_0 rfl (lv_at hl 2 rfl) ?_
  refine gi_if_eq (tgt := 24) hx hb (by omega) dX0_told_1 rfl (fun h1 => ?_) (fun h1 => ?_)
  · refine lv_aload_n hx hb dX0_told_24 rfl (lv_at hl 0 rfl) ?_
    refine va_get (D := D) (ci := 0) (v := .int (bI (false))) (C := RX0) (T := TX0) (N := 10) hx hb hts hin hown hK hP 0 rfl rfl 9 (by decide) hf38 (fun _ h9 => h9) rfl dX0_told_25 ?_
    refine gi_if_neb (tgt := 41) hx hb dX0_told_28 rfl (fun h9 => absurd h9 (by decide)) (fun h28 => ?_)
    exact gi_throw (text := _) hx hb hl9 hts (fun w h => List.mem_cons_of_mem _ h) hown (by decide +kernel) tkX0_42 ti_IllegalStateException (List.mem_of_getElem? (i := 8) rfl) x1_46 x2_46 x3_46 hX hP hS (hl.1.trans hml.symm) hnt hlk ⟨Nat.le_of_ble_eq_true rfl, Nat.le_of_ble_eq_true rfl, Nat.le_of_ble_eq_true rfl, Nat.le_of_ble_eq_true rfl⟩ dX0_told_31 dX0_told_34 dX0_told_35 dX0_told_37 dX0_told_40
  · refine lv_iload_n hx hb dX0_told_4 rfl (lv_at hl 2 rfl) ?_
    refine lv_iconst (v := nI (1)) hx hb dX0_told_5 (by decide) ?_
    refine gi_icmp_eq (tgt := 24) hx hb (by omega) (by omega) dX0_told_6 rfl (fun h6 => ?_) (fun h6 => ?_)
    · refine lv_aload_n hx hb dX0_told_24 rfl (lv_at hl 0 rfl) ?_
      refine va_get (D := D) (ci := 0) (v := .int (bI (false))) (C := RX0) (T := TX0) (N := 10) hx hb hts hin hown hK hP 0 rfl rfl 9 (by decide) hf38 (fun _ h9 => h9) rfl dX0_told_25 ?_
      refine gi_if_neb (tgt := 41) hx hb dX0_told_28 rfl (fun h9 => absurd h9 (by decide)) (fun h28 => ?_)
      exact gi_throw (text := _) hx hb hl9 hts (fun w h => List.mem_cons_of_mem _ h) hown (by decide +kernel) tkX0_42 ti_IllegalStateException (List.mem_of_getElem? (i := 8) rfl) x1_46 x2_46 x3_46 hX hP hS (hl.1.trans hml.symm) hnt hlk ⟨Nat.le_of_ble_eq_true rfl, Nat.le_of_ble_eq_true rfl, Nat.le_of_ble_eq_true rfl, Nat.le_of_ble_eq_true rfl⟩ dX0_told_31 dX0_told_34 dX0_told_35 dX0_told_37 dX0_told_40
    · refine lv_iload_n hx hb dX0_told_9 rfl (lv_at hl 2 rfl) ?_
      refine lv_iconst (v := nI (2)) hx hb dX0_told_10 (by decide) ?_
      refine gi_icmp_eq (tgt := 24) hx hb (by omega) (by omega) dX0_told_11 rfl (fun h11 => ?_) (fun h9 => absurd h9 (by omega))
      refine lv_aload_n hx hb dX0_told_24 rfl (lv_at hl 0 rfl) ?_
      refine va_get (D := D) (ci := 0) (v := .int (bI (false))) (C := RX0) (T := TX0) (N := 10) hx hb hts hin hown hK hP 0 rfl rfl 9 (by decide) hf38 (fun _ h9 => h9) rfl dX0_told_25 ?_
      refine gi_if_neb (tgt := 41) hx hb dX0_told_28 rfl (fun h9 => absurd h9 (by decide)) (fun h28 => ?_)
      exact gi_throw (text := _) hx hb hl9 hts (fun w h => List.mem_cons_of_mem _ h) hown (by decide +kernel) tkX0_42 ti_IllegalStateException (List.mem_of_getElem? (i := 8) rfl) x1_46 x2_46 x3_46 hX hP hS (hl.1.trans hml.symm) hnt hlk ⟨Nat.le_of_ble_eq_true rfl, Nat.le_of_ble_eq_true rfl, Nat.le_of_ble_eq_true rfl, Nat.le_of_ble_eq_true rfl⟩ dX0_told_31 dX0_told_34 dX0_told_35 dX0_told_37 dX0_told_40
set_option maxHeartbeats 4000000 in
set_option maxRecDepth 100000 in
theorem ex2_X0_told (l : Launch) (hl9 : l.stackTraces = false) (D : va_G) (cA cB cL : ClassId) (A : Nat → Prop) (wr : va_W) (q : Nat → Nat) (n : Nat) (sz bt so fc : Nat → Nat) (ofs : Nat → Int32) (tg : Nat → Nat) (ch : Nat → Int32) (ad : Nat → Nat) (x : Int32) (w : Nat) (hw2 : w ≤ 2) (hx8 : gf_isl n x = false) (hx9 : w = 0 → gf_ile n x = false) : vx_Met l yX0_told wsX0_told ({ frames := 6, cells := 1, slots := 6, locals := 91 }) (gPreX D vwCl [(cA, .int), (cB, .boolean), (cL, .long)] ((xw q cA n true sz bt so fc ofs tg ch ad) ++ wr) A [.ref (q 0), .int (x), .int (nI (w))]) gNo (gXC sIOB D vwCl ((xw q cA n true sz bt so fc ofs tg ch ad) ++ wr) A) 1 6 A := by
  refine vx_ofW (cc := cX0_told) (maxL := 3) (ret := (some .int)) (by decide) rfl ?_
  intro p e s m args below meth c s₁ B hml hnt hv
  obtain ⟨rfl, hP, hK, hD, hX⟩ := hv
  have hx := B.exec
  have hb := B.bytes
  have hr := B.returns
  have hlk := B.notSynchronized
  have hts := atoms_spec (ws := wsX0_told) B.pre
  have hown : s.vm.findClass RX0 = some m.cls := findClass_of_methodNamed B.named
  have hS : va_S A s.heap s.heap [] := va_S.rf
  have hl := lv_entry ([.ref (q 0), .int (x), .int (nI (w))]) (n := 3) (Nat.le_of_ble_eq_true rfl)
  rw [lg_entry_eq]
  generalize (lg_sl ([.ref (q 0), .int (x), .int (nI (w))]) ++ List.replicate (3 - (lg_sl ([.ref (q 0), .int (x), .int (nI (w))])).length) Slot.unset).toArray = ls at hl ⊢
  have hl : lv_has ls 3 [(0, .ref (q 0)), (1, .int (x)), (2, .int (nI (w)))] := hl
  have hin : ∀ w ∈ u_ws RX0 TX0 10, w ∈ wsX0_told := fun w h => List.mem_cons_of_mem _ (inTX0 w h)
  have hf28 := hts _ (List.mem_cons_of_mem _ tfX0_28)
  have hf31 := hts _ (List.mem_cons_of_mem _ tfX0_31)
  have hf38 := hts _ (List.mem_cons_of_mem _ tfX0_38)
  refine lv_iload_n hx hb dX0_told_0 rfl (lv_at hl 2 rfl) ?_
  refine gi_if_eq (tgt := 24) hx hb (by omega) dX0_told_1 rfl (fun h1 => ?_) (fun h1 => ?_)
  · refine lv_aload_n hx hb dX0_told_24 rfl (lv_at hl 0 rfl) ?_
    refine va_get (D := D) (ci := 0) (v := .int (bI (true))) (C := RX0) (T := TX0) (N := 10) hx hb hts hin hown hK hP 0 rfl rfl 9 (by decide) hf38 (fun _ h9 => h9) rfl dX0_told_25 ?_
    refine gi_if_neb (tgt := 41) hx hb dX0_told_28 rfl (fun h28 => ?_) (fun h9 => absurd h9 (by decide))
    refine lv_aload_n hx hb dX0_told_41 rfl (lv_at hl 0 rfl) ?_
    refine lv_iload_n hx hb dX0_told_42 rfl (lv_at hl 1 rfl) ?_
    refine gi_goV (va_runV (As := [.int (x)]) (rest := []) ⟨hx, hb, hml, hown, hts⟩ (c_X0_isLine l D cA cB cL A wr q n true sz bt so fc ofs tg ch ad (x)) (cwV 1 hts gX0_told_X0_isLine rfl rfl rfl (by decide +kernel) ⟨Nat.le_of_ble_eq_true rfl, Nat.le_of_ble_eq_true rfl⟩) (gi_preV (q0 := 0) hK hP hD rfl rfl rfl) rfl rfl hl.1 rfl (lv_room (Nat.le_of_ble_eq_true rfl)) dX0_told_43 ⟨Nat.le_of_ble_eq_true rfl, Nat.le_of_ble_eq_true rfl⟩) hS (fun H locs hP hS => ?_)
    refine gi_if_neb (tgt := 71) hx hb dX0_told_46 rfl (fun h9 => absurd h9 (gf_ne_tf hx8)) (fun h46 => ?_)
    refine lv_iload_n hx hb dX0_told_49 rfl (lv_at hl 2 rfl) ?_
    refine gi_if_ne (tgt := 61) hx hb (by omega) dX0_told_50 rfl (fun h50 => ?_) (fun h50 => ?_)
    · exact gi_throw (text := _) hx hb hl9 hts (fun w h => List.mem_cons_of_mem _ h) hown (by decide +kernel) tkX0_73 ti_IndexOutOfBoundsException (List.mem_of_getElem? (i := 9) rfl) x1_77 x2_77 x3_77 hX hP hS (hl.1.trans hml.symm) hnt hlk ⟨Nat.le_of_ble_eq_true rfl, Nat.le_of_ble_eq_true rfl, Nat.le_of_ble_eq_true rfl, Nat.le_of_ble_eq_true rfl⟩ dX0_told_61 dX0_told_64 dX0_told_65 dX0_told_67 dX0_told_70
    · refine lv_aload_n hx hb dX0_told_53 rfl (lv_at hl 0 rfl) ?_
      refine lv_iload_n hx hb dX0_told_54 rfl (lv_at hl 1 rfl) ?_
      refine gi_goV (va_runV (As := [.int (x)]) (rest := []) ⟨hx, hb, hml, hown, hts⟩ (c_X0_isLineOrEnd l D cA cB cL A wr q n true sz bt so fc ofs tg ch ad (x)) (cwV 1 hts gX0_told_X0_isLineOrEnd rfl rfl rfl (by decide +kernel) ⟨Nat.le_of_ble_eq_true rfl, Nat.le_of_ble_eq_true rfl⟩) (gi_preV (q0 := 0) hK hP hD rfl rfl rfl) rfl rfl hl.1 rfl (lv_room (Nat.le_of_ble_eq_true rfl)) dX0_told_55 ⟨Nat.le_of_ble_eq_true rfl, Nat.le_of_ble_eq_true rfl⟩) hS (fun H locs hP hS => ?_)
      refine gi_if_neb (tgt := 71) hx hb dX0_told_58 rfl (fun h9 => absurd h9 (gf_ne_tf (hx9 h50))) (fun h58 => ?_)
      exact gi_throw (text := _) hx hb hl9 hts (fun w h => List.mem_cons_of_mem _ h) hown (by decide +kernel) tkX0_73 ti_IndexOutOfBoundsException (List.mem_of_getElem? (i := 9) rfl) x1_77 x2_77 x3_77 hX hP hS (hl.1.trans hml.symm) hnt hlk ⟨Nat.le_of_ble_eq_true rfl, Nat.le_of_ble_eq_true rfl, Nat.le_of_ble_eq_true rfl, Nat.le_of_ble_eq_true rfl⟩ dX0_told_61 dX0_told_64 dX0_told_65 dX0_told_67 dX0_told_70
  · refine lv_iload_n hx hb dX0_told_4 rfl (lv_at hl 2 rfl) ?_
    refine lv_iconst (v := nI (1)) hx hb dX0_told_5 (by decide) ?_
    refine gi_icmp_eq (tgt := 24) hx hb (by omega) (by omega) dX0_told_6 rfl (fun h6 => ?_) (fun h6 => ?_)
    · refine lv_aload_n hx hb dX0_told_24 rfl (lv_at hl 0 rfl) ?_
      refine va_get (D := D) (ci := 0) (v := .int (bI (true))) (C := RX0) (T := TX0) (N := 10) hx hb hts hin hown hK hP 0 rfl rfl 9 (by decide) hf38 (fun _ h9 => h9) rfl dX0_told_25 ?_
      refine gi_if_neb (tgt := 41) hx hb dX0_told_28 rfl (fun h28 => ?_) (fun h9 => absurd h9 (by decide))
      refine lv_aload_n hx hb dX0_told_41 rfl (lv_at hl 0 rfl) ?_
      refine lv_iload_n hx hb dX0_told_42 rfl (lv_at hl 1 rfl) ?_
      refine gi_goV (va_runV (As := [.int (x)]) (rest := []) ⟨hx, hb, hml, hown, hts⟩ (c_X0_isLine l D cA cB cL A wr q n true sz bt so fc ofs tg ch ad (x)) (cwV 1 hts gX0_told_X0_isLine rfl rfl rfl (by decide +kernel) ⟨Nat.le_of_ble_eq_true rfl, Nat.le_of_ble_eq_true rfl⟩) (gi_preV (q0 := 0) hK hP hD rfl rfl rfl) rfl rfl hl.1 rfl (lv_room (Nat.le_of_ble_eq_true rfl)) dX0_told_43 ⟨Nat.le_of_ble_eq_true rfl, Nat.le_of_ble_eq_true rfl⟩) hS (fun H locs hP hS => ?_)
      refine gi_if_neb (tgt := 71) hx hb dX0_told_46 rfl (fun h9 => absurd h9 (gf_ne_tf hx8)) (fun h46 => ?_)
      refine lv_iload_n hx hb dX0_told_49 rfl (lv_at hl 2 rfl) ?_
      refine gi_if_ne (tgt := 61) hx hb (by omega) dX0_told_50 rfl (fun h50 => ?_) (fun h50 => ?_)
      · exact gi_throw (text := _) hx hb hl9 hts (fun w h => List.mem_cons_of_mem _ h) hown (by decide +kernel) tkX0_73 ti_IndexOutOfBoundsException (List.mem_of_getElem? (i := 9) rfl) x1_77 x2_77 x3_77 hX hP hS (hl.1.trans hml.symm) hnt hlk ⟨Nat.le_of_ble_eq_true rfl, Nat.le_of_ble_eq_true rfl, Nat.le_of_ble_eq_true rfl, Nat.le_of_ble_eq_true rfl⟩ dX0_told_61 dX0_told_64 dX0_told_65 dX0_told_67 dX0_told_70
      · refine lv_aload_n hx hb dX0_told_53 rfl (lv_at hl 0 rfl) ?_
        refine lv_iload_n hx hb dX0_told_54 rfl (lv_at hl 1 rfl) ?_
        refine gi_goV (va_runV (As := [.int (x)]) (rest := []) ⟨hx, hb, hml, hown, hts⟩ (c_X0_isLineOrEnd l D cA cB cL A wr q n true sz bt so fc ofs tg ch ad (x)) (cwV 1 hts gX0_told_X0_isLineOrEnd rfl rfl rfl (by decide +kernel) ⟨Nat.le_of_ble_eq_true rfl, Nat.le_of_ble_eq_true rfl⟩) (gi_preV (q0 := 0) hK hP hD rfl rfl rfl) rfl rfl hl.1 rfl (lv_room (Nat.le_of_ble_eq_true rfl)) dX0_told_55 ⟨Nat.le_of_ble_eq_true rfl, Nat.le_of_ble_eq_true rfl⟩) hS (fun H locs hP hS => ?_)
        refine gi_if_neb (tgt := 71) hx hb dX0_told_58 rfl (fun h9 => absurd h9 (gf_ne_tf (hx9 h50))) (fun h58 => ?_)
        exact gi_throw (text := _) hx hb hl9 hts (fun w h => List.mem_cons_of_mem _ h) hown (by decide +kernel) tkX0_73 ti_IndexOutOfBoundsException (List.mem_of_getElem? (i := 9) rfl) x1_77 x2_77 x3_77 hX hP hS (hl.1.trans hml.symm) hnt hlk ⟨Nat.le_of_ble_eq_true rfl, Nat.le_of_ble_eq_true rfl, Nat.le_of_ble_eq_true rfl, Nat.le_of_ble_eq_true rfl⟩ dX0_told_61 dX0_told_64 dX0_told_65 dX0_told_67 dX0_told_70
    · refine lv_iload_n hx hb dX0_told_9 rfl (lv_at hl 2 rfl) ?_
      refine lv_iconst (v := nI (2)) hx hb dX0_told_10 (by decide) ?_
      refine gi_icmp_eq (tgt := 24) hx hb (by omega) (by omega) dX0_told_11 rfl (fun h11 => ?_) (fun h9 => absurd h9 (by omega))
      refine lv_aload_n hx hb dX0_told_24 rfl (lv_at hl 0 rfl) ?_
      refine va_get (D := D) (ci := 0) (v := .int (bI (true))) (C := RX0) (T := TX0) (N := 10) hx hb hts hin hown hK hP 0 rfl rfl 9 (by decide) hf38 (fun _ h9 => h9) rfl dX0_told_25 ?_
      refine gi_if_neb (tgt := 41) hx hb dX0_told_28 rfl (fun h28 => ?_) (fun h9 => absurd h9 (by decide))
      refine lv_aload_n hx hb dX0_told_41 rfl (lv_at hl 0 rfl) ?_
      refine lv_iload_n hx hb dX0_told_42 rfl (lv_at hl 1 rfl) ?_
      refine gi_goV (va_runV (As := [.int (x)]) (rest := []) ⟨hx, hb, hml, hown, hts⟩ (c_X0_isLine l D cA cB cL A wr q n true sz bt so fc ofs tg ch ad (x)) (cwV 1 hts gX0_told_X0_isLine rfl rfl rfl (by decide +kernel) ⟨Nat.le_of_ble_eq_true rfl, Nat.le_of_ble_eq_true rfl⟩) (gi_preV (q0 := 0) hK hP hD rfl rfl rfl) rfl rfl hl.1 rfl (lv_room (Nat.le_of_ble_eq_true rfl)) dX0_told_43 ⟨Nat.le_of_ble_eq_true rfl, Nat.le_of_ble_eq_true rfl⟩) hS (fun H locs hP hS => ?_)
      refine gi_if_neb (tgt := 71) hx hb dX0_told_46 rfl (fun h9 => absurd h9 (gf_ne_tf hx8)) (fun h46 => ?_)
      refine lv_iload_n hx hb dX0_told_49 rfl (lv_at hl 2 rfl) ?_
      refine gi_if_ne (tgt := 61) hx hb (by omega) dX0_told_50 rfl (fun h50 => ?_) (fun h50 => ?_)
      · exact gi_throw (text := _) hx hb hl9 hts (fun w h => List.mem_cons_of_mem _ h) hown (by decide +kernel) tkX0_73 ti_IndexOutOfBoundsException (List.mem_of_getElem? (i := 9) rfl) x1_77 x2_77 x3_77 hX hP hS (hl.1.trans hml.symm) hnt hlk ⟨Nat.le_of_ble_eq_true rfl, Nat.le_of_ble_eq_true rfl, Nat.le_of_ble_eq_true rfl, Nat.le_of_ble_eq_true rfl⟩ dX0_told_61 dX0_told_64 dX0_told_65 dX0_told_67 dX0_told_70
      · refine lv_aload_n hx hb dX0_told_53 rfl (lv_at hl 0 rfl) ?_
        refine lv_iload_n hx hb dX0_told_54 rfl (lv_at hl 1 rfl) ?_
        refine gi_goV (va_runV (As := [.int (x)]) (rest := []) ⟨hx, hb, hml, hown, hts⟩ (c_X0_isLineOrEnd l D cA cB cL A wr q n true sz bt so fc ofs tg ch ad (x)) (cwV 1 hts gX0_told_X0_isLineOrEnd rfl rfl rfl (by decide +kernel) ⟨Nat.le_of_ble_eq_true rfl, Nat.le_of_ble_eq_true rfl⟩) (gi_preV (q0 := 0) hK hP hD rfl rfl rfl) rfl rfl hl.1 rfl (lv_room (Nat.le_of_ble_eq_true rfl)) dX0_told_55 ⟨Nat.le_of_ble_eq_true rfl, Nat.le_of_ble_eq_true rfl⟩) hS (fun H locs hP hS => ?_)
        refine gi_if_neb (tgt := 71) hx hb dX0_told_58 rfl (fun h9 => absurd h9 (gf_ne_tf (hx9 h50))) (fun h58 => ?_)
        exact gi_throw (text := _) hx hb hl9 hts (fun w h => List.mem_cons_of_mem _ h) hown (by decide +kernel) tkX0_73 ti_IndexOutOfBoundsException (List.mem_of_getElem? (i := 9) rfl) x1_77 x2_77 x3_77 hX hP hS (hl.1.trans hml.symm) hnt hlk ⟨Nat.le_of_ble_eq_true rfl, Nat.le_of_ble_eq_true rfl, Nat.le_of_ble_eq_true rfl, Nat.le_of_ble_eq_true rfl⟩ dX0_told_61 dX0_told_64 dX0_told_65 dX0_told_67 dX0_told_70
set_option maxHeartbeats 4000000 in
set_option maxRecDepth 100000 in
theorem ex1_X0_value (l : Launch) (hl9 : l.stackTraces = false) (D : va_G) (cA cB cL : ClassId) (A : Nat → Prop) (wr : va_W) (q : Nat → Nat) (n : Nat) (sz bt so fc : Nat → Nat) (ofs : Nat → Int32) (tg : Nat → Nat) (ch : Nat → Int32) (ad : Nat → Nat) (x : Int32)  : vx_Met l yX0_value wsX0_value ({ frames := 6, cells := 1, slots := 6, locals := 82 }) (gPreX D vwCl [(cA, .int), (cB, .boolean), (cL, .long)] ((xw q cA n false sz bt so fc ofs tg ch ad) ++ wr) A [.ref (q 0), .int (x)]) gNo (gXC sISE D vwCl ((xw q cA n false sz bt so fc ofs tg ch ad) ++ wr) A) 1 6 A := by
  refine vx_ofW (cc := cX0_value) (maxL := 2) (ret := (some .long)) (by decide) rfl ?_
  intro p e s m args below meth c s₁ B hml hnt hv
  obtain ⟨rfl, hP, hK, hD, hX⟩ := hv
  have hx := B.exec
  have hb := B.bytes
  have hr := B.returns
  have hlk := B.notSynchronized
  have hts := atoms_spec (ws := wsX0_value) B.pre
  have hown : s.vm.findClass RX0 = some m.cls := findClass_of_methodNamed B.named
  have hS : va_S A s.heap s.heap [] := va_S.rf
  have hl := lv_entry ([.ref (q 0), .int (x)]) (n := 2) (Nat.le_of_ble_eq_true rfl)
  rw [lg_entry_eq]
  generalize (lg_sl ([.ref (q 0), .int (x)]) ++ List.replicate (2 - (lg_sl ([.ref (q 0), .int (x)])).length) Slot.unset).toArray = ls at hl ⊢
  have hl : lv_has ls 2 [(0, .ref (q 0)), (1, .int (x))] := hl
  have hin : ∀ w ∈ u_ws RX0 TX0 10, w ∈ wsX0_value := fun w h => List.mem_cons_of_mem _ (inTX0 w h)
  have hf38 := hts _ (List.mem_cons_of_mem _ tfX0_38)
  refine lv_aload_n hx hb dX0_value_0 rfl (lv_at hl 0 rfl) ?_
  refine va_get (D := D) (ci := 0) (v := .int (bI (false))) (C := RX0) (T := TX0) (N := 10) hx hb hts hin hown hK hP 0 rfl rfl 9 (by decide) hf38 (fun _ h9 => h9) rfl dX0_value_1 ?_
  refine gi_if_neb (tgt := 17) hx hb dX0_value_4 rfl (fun h9 => absurd h9 (by decide)) (fun h4 => ?_)
  exact gi_throw (text := _) hx hb hl9 hts (fun w h => List.mem_cons_of_mem _ h) hown (by decide +kernel) tkX0_42 ti_IllegalStateException (List.mem_of_getElem? (i := 8) rfl) x1_46 x2_46 x3_46 hX hP hS (hl.1.trans hml.symm) hnt hlk ⟨Nat.le_of_ble_eq_true rfl, Nat.le_of_ble_eq_true rfl, Nat.le_of_ble_eq_true rfl, Nat.le_of_ble_eq_true rfl⟩ dX0_value_7 dX0_value_10 dX0_value_11 dX0_value_13 dX0_value_16
set_option maxHeartbeats 4000000 in
set_option maxRecDepth 100000 in
theorem ex2_X0_value (l : Launch) (hl9 : l.stackTraces = false) (D : va_G) (cA cB cL : ClassId) (A : Nat → Prop) (wr : va_W) (q : Nat → Nat) (n : Nat) (sz bt so fc : Nat → Nat) (ofs : Nat → Int32) (tg : Nat → Nat) (ch : Nat → Int32) (ad : Nat → Nat) (x : Int32) (hx8 : gf_isl n x = false) : vx_Met l yX0_value wsX0_value ({ frames := 6, cells := 1, slots := 6, locals := 82 }) (gPreX D vwCl [(cA, .int), (cB, .boolean), (cL, .long)] ((xw q cA n true sz bt so fc ofs tg ch ad) ++ wr) A [.ref (q 0), .int (x)]) gNo (gXC sIOB D vwCl ((xw q cA n true sz bt so fc ofs tg ch ad) ++ wr) A) 1 6 A := by
  refine vx_ofW (cc := cX0_value) (maxL := 2) (ret := (some .long)) (by decide) rfl ?_
  intro p e s m args below meth c s₁ B hml hnt hv
  obtain ⟨rfl, hP, hK, hD, hX⟩ := hv
  have hx := B.exec
  have hb := B.bytes
  have hr := B.returns
  have hlk := B.notSynchronized
  have hts := atoms_spec (ws := wsX0_value) B.pre
  have hown : s.vm.findClass RX0 = some m.cls := findClass_of_methodNamed B.named
  have hS : va_S A s.heap s.heap [] := va_S.rf
  have hl := lv_entry ([.ref (q 0), .int (x)]) (n := 2) (Nat.le_of_ble_eq_true rfl)
  rw [lg_entry_eq]
  generalize (lg_sl ([.ref (q 0), .int (x)]) ++ List.replicate (2 - (lg_sl ([.ref (q 0), .int (x)])).length) Slot.unset).toArray = ls at hl ⊢
  have hl : lv_has ls 2 [(0, .ref (q 0)), (1, .int (x))] := hl
  have hin : ∀ w ∈ u_ws RX0 TX0 10, w ∈ wsX0_value := fun w h => List.mem_cons_of_mem _ (inTX0 w h)
  have hf38 := hts _ (List.mem_cons_of_mem _ tfX0_38)
  refine lv_aload_n hx hb dX0_value_0 rfl (lv_at hl 0 rfl) ?_
  refine va_get (D := D) (ci := 0) (v := .int (bI (true))) (C := RX0) (T := TX0) (N := 10) hx hb hts hin hown hK hP 0 rfl rfl 9 (by decide) hf38 (fun _ h9 => h9) rfl dX0_value_1 ?_
  refine gi_if_neb (tgt := 17) hx hb dX0_value_4 rfl (fun h4 => ?_) (fun h9 => absurd h9 (by decide))
  refine lv_aload_n hx hb dX0_value_17 rfl (lv_at hl 0 rfl) ?_
  refine lv_iload_n hx hb dX0_value_18 rfl (lv_at hl 1 rfl) ?_
  refine gi_goV (va_runV (As := [.int (x)]) (rest := []) ⟨hx, hb, hml, hown, hts⟩ (c_X0_isLine l D cA cB cL A wr q n true sz bt so fc ofs tg ch ad (x)) (cwV 1 hts gX0_value_X0_isLine rfl rfl rfl (by decide +kernel) ⟨Nat.le_of_ble_eq_true rfl, Nat.le_of_ble_eq_true rfl⟩) (gi_preV (q0 := 0) hK hP hD rfl rfl rfl) rfl rfl hl.1 rfl (lv_room (Nat.le_of_ble_eq_true rfl)) dX0_value_19 ⟨Nat.le_of_ble_eq_true rfl, Nat.le_of_ble_eq_true rfl⟩) hS (fun H locs hP hS => ?_)
  refine gi_if_neb (tgt := 35) hx hb dX0_value_22 rfl (fun h9 => absurd h9 (gf_ne_tf hx8)) (fun h22 => ?_)
  exact gi_throw (text := _) hx hb hl9 hts (fun w h => List.mem_cons_of_mem _ h) hown (by decide +kernel) tkX0_73 ti_IndexOutOfBoundsException (List.mem_of_getElem? (i := 9) rfl) x1_77 x2_77 x3_77 hX hP hS (hl.1.trans hml.symm) hnt hlk ⟨Nat.le_of_ble_eq_true rfl, Nat.le_of_ble_eq_true rfl, Nat.le_of_ble_eq_true rfl, Nat.le_of_ble_eq_true rfl⟩ dX0_value_25 dX0_value_28 dX0_value_29 dX0_value_31 dX0_value_34
set_option maxHeartbeats 4000000 in
set_option maxRecDepth 100000 in
theorem ex_X0_wrong (l : Launch) (hl9 : l.stackTraces = false) (D : va_G) (cA cB cL : ClassId) (A : Nat → Prop) (wr : va_W) (q : Nat → Nat) (n : Nat) (sz bt so fc : Nat → Nat) (ofs : Nat → Int32) (tg : Nat → Nat) (ch : Nat → Int32) (ad : Nat → Nat)  : vx_Met l yX0_wrong wsX0_wrong ({ frames := 6, cells := 1, slots := 6, locals := 112 }) (gPreX D vwCl [(cA, .int), (cB, .boolean), (cL, .long)] ((xw q cA n false sz bt so fc ofs tg ch ad) ++ wr) A [.ref (q 0)]) gNo (gXC sISE D vwCl ((xw q cA n false sz bt so fc ofs tg ch ad) ++ wr) A) 1 6 A := by
  refine vx_ofW (cc := cX0_wrong) (maxL := 1) (ret := (some .int)) (by decide) rfl ?_
  intro p e s m args below meth c s₁ B hml hnt hv
  obtain ⟨rfl, hP, hK, hD, hX⟩ := hv
  have hx := B.exec
  have hb := B.bytes
  have hr := B.returns
  have hlk := B.notSynchronized
  have hts := atoms_spec (ws := wsX0_wrong) B.pre
  have hown : s.vm.findClass RX0 = some m.cls := findClass_of_methodNamed B.named
  have hS : va_S A s.heap s.heap [] := va_S.rf
  have hl := lv_entry ([.ref (q 0)]) (n := 1) (Nat.le_of_ble_eq_true rfl)
  rw [lg_entry_eq]
  generalize (lg_sl ([.ref (q 0)]) ++ List.replicate (1 - (lg_sl ([.ref (q 0)])).length) Slot.unset).toArray = ls at hl ⊢
  have hl : lv_has ls 1 [(0, .ref (q 0))] := hl
  have hin : ∀ w ∈ u_ws RX0 TX0 10, w ∈ wsX0_wrong := fun w h => List.mem_cons_of_mem _ (inTX0 w h)
  have hf38 := hts _ (List.mem_cons_of_mem _ tfX0_38)
  refine lv_aload_n hx hb dX0_wrong_0 rfl (lv_at hl 0 rfl) ?_
  refine va_get (D := D) (ci := 0) (v := .int (bI (false))) (C := RX0) (T := TX0) (N := 10) hx hb hts hin hown hK hP 0 rfl rfl 9 (by decide) hf38 (fun _ h9 => h9) rfl dX0_wrong_1 ?_
  refine gi_if_neb (tgt := 17) hx hb dX0_wrong_4 rfl (fun h9 => absurd h9 (by decide)) (fun h4 => ?_)
  exact gi_throw (text := _) hx hb hl9 hts (fun w h => List.mem_cons_of_mem _ h) hown (by decide +kernel) tkX0_42 ti_IllegalStateException (List.mem_of_getElem? (i := 8) rfl) x1_46 x2_46 x3_46 hX hP hS (hl.1.trans hml.symm) hnt hlk ⟨Nat.le_of_ble_eq_true rfl, Nat.le_of_ble_eq_true rfl, Nat.le_of_ble_eq_true rfl, Nat.le_of_ble_eq_true rfl⟩ dX0_wrong_7 dX0_wrong_10 dX0_wrong_11 dX0_wrong_13 dX0_wrong_16
set_option maxHeartbeats 4000000 in
set_option maxRecDepth 100000 in
theorem ex1_X0_settle (l : Launch) (hl9 : l.stackTraces = false) (D : va_G) (cA cB cL : ClassId) (A : Nat → Prop) (wr : va_W) (q : Nat → Nat) (n : Nat) (st : Bool) (sz bt so fc : Nat → Nat) (ofs : Nat → Int32) (tg : Nat → Nat) (ch : Nat → Int32) (ad : Nat → Nat) (nw0 : Nat → Nat) (r : Nat) (hw : gf_wf n fc sz bt so tg) (hr : r ≤ 360) (hgo : ∀ q9, q9 < r → gf_go n fc sz bt so tg ofs (gf_now n fc sz bt so tg ofs nw0 q9)) (hend : 4096 < gf_ad fc sz (gf_now n fc sz bt so tg ofs nw0 r) n) : vx_Met l yX0_settle wsX0_settle ({ frames := 6, cells := 1, slots := 6, locals := 112 }) (gPreX D vwCl [(cA, .int), (cB, .boolean), (cL, .long)] ((xw q cA n st sz bt so fc ofs tg ch ad) ++ wr) A [.ref (q 0)]) gNo (gXC sISE D vwCl ((xw q cA n true sz bt so fc ofs tg (gf_chr n fc sz bt so tg ofs nw0 ch r) (gf_adr n fc sz bt so tg ofs nw0 ad (r + 1))) ++ wr) A) 1 6 A := by
  refine vx_ofW (cc := cX0_settle) (maxL := 2) (ret := (some .int)) (by decide) rfl ?_
  intro p e s m args below meth c s₁ B hml hnt hv
  obtain ⟨rfl, hP, hK, hD, hX⟩ := hv
  have hx := B.exec
  have hb := B.bytes
  have hr := B.returns
  have hlk := B.notSynchronized
  have hts := atoms_spec (ws := wsX0_settle) B.pre
  have hown : s.vm.findClass RX0 = some m.cls := findClass_of_methodNamed B.named
  have hS : va_S A s.heap s.heap [] := va_S.rf
  have hl := lv_entry ([.ref (q 0)]) (n := 2) (Nat.le_of_ble_eq_true rfl)
  rw [lg_entry_eq]
  generalize (lg_sl ([.ref (q 0)]) ++ List.replicate (2 - (lg_sl ([.ref (q 0)])).length) Slot.unset).toArray = ls at hl ⊢
  have hl : lv_has ls 2 [(0, .ref (q 0))] := hl
  have hin : ∀ w ∈ u_ws RX0 TX0 10, w ∈ wsX0_settle := fun w h => List.mem_cons_of_mem _ (inTX0 w h)
  have hf31 := hts _ (List.mem_cons_of_mem _ tfX0_31)
  have hf34 := hts _ (List.mem_cons_of_mem _ tfX0_34)
  have hf38 := hts _ (List.mem_cons_of_mem _ tfX0_38)
  have hn := hw.1
  refine lv_aload_n hx hb dX0_settle_0 rfl (lv_at hl 0 rfl) ?_
  refine lv_iconst (v := nI (1)) hx hb dX0_settle_1 (by decide) ?_
  refine va_put (D := D) (ci := 0) (v := .int (bI (true))) (ty := .boolean) (C := RX0) (T := TX0) (N := 10) hx hb hts hin tyX0 tyX0_ok nmX0 hown hK hP hD hS 0 rfl rfl 9 (by decide) hf38 (fun _ h9 => h9) rfl (by decide +kernel) (bI_nar _) (bI_fits _) (Nat.le_of_ble_eq_true rfl) dX0_settle_2 (fun H locs hP hD hS => ?_)
  have hP : va_P D vwCl ((xw q cA n true sz bt so fc ofs tg ch ad) ++ wr) H := hP
  have hD : va_D A ((xw q cA n true sz bt so fc ofs tg ch ad) ++ wr) := hD
  refine lv_aload_n hx hb dX0_settle_5 rfl (lv_at hl 0 rfl) ?_
  refine gi_goN (va_runV (As := []) (rest := []) ⟨hx, hb, hml, hown, hts⟩ (c_X0_takeFirstForms l D cA cB cL A wr q n true sz bt so fc ofs tg ch ad hw.1 (fun i hi => (hw.2 i hi).1)) (cwV 0 hts gX0_settle_X0_takeFirstForms rfl rfl rfl (by decide +kernel) ⟨Nat.le_of_ble_eq_true rfl, Nat.le_of_ble_eq_true rfl⟩) (gi_preV (q0 := 0) hK hP hD rfl rfl rfl) rfl rfl hl.1 rfl (lv_room (Nat.le_of_ble_eq_true rfl)) dX0_settle_6 ⟨Nat.le_of_ble_eq_true rfl, Nat.le_of_ble_eq_true rfl⟩) hS (fun H locs hP hS => ?_)
  have hP : va_P D vwCl ((xw q cA n true sz bt so fc ofs tg (gf_chr n fc sz bt so tg ofs nw0 ch 0) ad) ++ wr) H := hP
  have hD : va_D A ((xw q cA n true sz bt so fc ofs tg (gf_chr n fc sz bt so tg ofs nw0 ch 0) ad) ++ wr) := gD_same hD rfl
  refine lv_iconst (v := nI (0)) hx hb dX0_settle_9 (by decide) ?_
  refine lv_istore_n (lv' := [(1, .int (nI (0))), (0, .ref (q 0))]) hx hb dX0_settle_10 rfl hl (by decide) rfl (fun ls hl => ?_)
  have loop : ∀ (k i : Nat), i + k = r → ∀ (H : Heap) (locs : List Loc) (ls : Array Slot), va_P D vwCl ((xw q cA n true sz bt so fc ofs tg (gf_chr n fc sz bt so tg ofs nw0 ch i) (gf_adr n fc sz bt so tg ofs nw0 ad i)) ++ wr) H → va_S A s.heap H locs → lv_has ls 2 [(1, .int (nI (i))), (0, .ref (q 0))] → W p l e (headSpec wsX0_settle ({ frames := 6, cells := 1, slots := 6, locals := 112 })).room s m ([.ref (q 0)] : List Value).toArray below meth c H locs 0 0 (vx_MQ below gNo (gXC sISE D vwCl ((xw q cA n true sz bt so fc ofs tg (gf_chr n fc sz bt so tg ofs nw0 ch r) (gf_adr n fc sz bt so tg ofs nw0 ad (r + 1))) ++ wr) A) ([.ref (q 0)] : List Value).toArray s 1 6 A) (F0 m 11 ls []) := by
    intro k
    induction k with
    | zero =>
      intro i hik H locs ls hP hS hl
      have h9 : r = i := by omega
      subst h9
      have hD : va_D A ((xw q cA n true sz bt so fc ofs tg (gf_chr n fc sz bt so tg ofs nw0 ch r) (gf_adr n fc sz bt so tg ofs nw0 ad r)) ++ wr) := gD_same hD rfl
      have hk9 := (gf_run r (fun q9 h9 => hgo q9 (by omega))).1
      have hch9 : ∀ j, j < n → gf_chr n fc sz bt so tg ofs nw0 ch r j = gf_c fc (gf_now n fc sz bt so tg ofs nw0 r) j := fun j hj => gf_chr_c n fc sz bt so tg ofs nw0 ch r j hj
      have had9 : ∀ j, j ≤ n → gf_adr n fc sz bt so tg ofs nw0 ad (r + 1) j = gf_ad fc sz (gf_now n fc sz bt so tg ofs nw0 r) j := fun j hj => gf_adr_a n fc sz bt so tg ofs nw0 ad r j hj
      have ha9 := gf_ad_le hw hk9 n (Nat.le_refl n)
      refine lv_iload_n hx hb dX0_settle_11 rfl (lv_at hl 0 rfl) ?_
      refine lv_sipush (v := nI (360)) hx hb dX0_settle_12 (by decide) ?_
      refine gi_icmp_gt (tgt := 84) hx hb (by omega) (by omega) dX0_settle_15 rfl (fun h9 => absurd h9 (by omega)) (fun h15 => ?_)
      refine lv_aload_n hx hb dX0_settle_18 rfl (lv_at hl 1 rfl) ?_
      refine gi_goN (va_runV (As := []) (rest := []) ⟨hx, hb, hml, hown, hts⟩ (c_X0_giveAddresses l D cA cB cL A wr q n true sz bt so fc ofs tg (gf_chr n fc sz bt so tg ofs nw0 ch r) (gf_adr n fc sz bt so tg ofs nw0 ad r) (gf_now n fc sz bt so tg ofs nw0 r) hw hk9 hch9) (cwV 0 hts gX0_settle_X0_giveAddresses rfl rfl rfl (by decide +kernel) ⟨Nat.le_of_ble_eq_true rfl, Nat.le_of_ble_eq_true rfl⟩) (gi_preV (q0 := 0) hK hP hD rfl rfl rfl) rfl rfl hl.1 rfl (lv_room (Nat.le_of_ble_eq_true rfl)) dX0_settle_19 ⟨Nat.le_of_ble_eq_true rfl, Nat.le_of_ble_eq_true rfl⟩) hS (fun H locs hP hS => ?_)
      have hP : va_P D vwCl ((xw q cA n true sz bt so fc ofs tg (gf_chr n fc sz bt so tg ofs nw0 ch r) (gf_adr n fc sz bt so tg ofs nw0 ad (r + 1))) ++ wr) H := hP
      have hD : va_D A ((xw q cA n true sz bt so fc ofs tg (gf_chr n fc sz bt so tg ofs nw0 ch r) (gf_adr n fc sz bt so tg ofs nw0 ad (r + 1))) ++ wr) := gD_same hD rfl
      refine lv_aload_n hx hb dX0_settle_22 rfl (lv_at hl 1 rfl) ?_
      refine va_get (D := D) (ci := 0) (v := .ref (q 8)) (C := RX0) (T := TX0) (N := 10) hx hb hts hin hown hK hP 0 rfl rfl 7 (by decide) hf31 (fun _ h9 => h9) rfl dX0_settle_23 ?_
      refine lv_aload_n hx hb dX0_settle_26 rfl (lv_at hl 1 rfl) ?_
      refine va_get (D := D) (ci := 0) (v := .int (nI (n))) (C := RX0) (T := TX0) (N := 10) hx hb hts hin hown hK hP 0 rfl rfl 8 (by decide) hf34 (fun _ h9 => h9) rfl dX0_settle_27 ?_
      refine gi_ald hx hb hK hP 8 0 (gf_adr n fc sz bt so tg ofs nw0 ad (r + 1)) rfl rfl (by omega) (by decide) dX0_settle_30 ?_
      refine gi_top (y := (nI (gf_ad fc sz (gf_now n fc sz bt so tg ofs nw0 r) n))) (congrArg nI (had9 n (Nat.le_refl n))) ?_
      refine lv_sipush (v := nI (4096)) hx hb dX0_settle_31 (by decide) ?_
      refine gi_icmp_le (tgt := 47) hx hb (by omega) (by omega) dX0_settle_34 rfl (fun h9 => absurd h9 (by omega)) (fun h34 => ?_)
      exact gi_throw (text := _) hx hb hl9 hts (fun w h => List.mem_cons_of_mem _ h) hown (by decide +kernel) tkX0_42 ti_IllegalStateException (List.mem_of_getElem? (i := 5) rfl) x1_46 x2_46 x3_46 hX hP hS (hl.1.trans hml.symm) hnt hlk ⟨Nat.le_of_ble_eq_true rfl, Nat.le_of_ble_eq_true rfl, Nat.le_of_ble_eq_true rfl, Nat.le_of_ble_eq_true rfl⟩ dX0_settle_37 dX0_settle_40 dX0_settle_41 dX0_settle_43 dX0_settle_46
    | succ k ih =>
      intro i hik H locs ls hP hS hl
      have hi : i < r := by omega
      have hg9 := hgo i hi
      have hD : va_D A ((xw q cA n true sz bt so fc ofs tg (gf_chr n fc sz bt so tg ofs nw0 ch i) (gf_adr n fc sz bt so tg ofs nw0 ad i)) ++ wr) := gD_same hD rfl
      have hk9 := (gf_run i (fun q9 h9 => hgo q9 (by omega))).1
      have hch9 : ∀ j, j < n → gf_chr n fc sz bt so tg ofs nw0 ch i j = gf_c fc (gf_now n fc sz bt so tg ofs nw0 i) j := fun j hj => gf_chr_c n fc sz bt so tg ofs nw0 ch i j hj
      have had9 : ∀ j, j ≤ n → gf_adr n fc sz bt so tg ofs nw0 ad (i + 1) j = gf_ad fc sz (gf_now n fc sz bt so tg ofs nw0 i) j := fun j hj => gf_adr_a n fc sz bt so tg ofs nw0 ad i j hj
      have ha9 := gf_ad_le hw hk9 n (Nat.le_refl n)
      have hg1 := hg9.1
      refine lv_iload_n hx hb dX0_settle_11 rfl (lv_at hl 0 rfl) ?_
      refine lv_sipush (v := nI (360)) hx hb dX0_settle_12 (by decide) ?_
      refine gi_icmp_gt (tgt := 84) hx hb (by omega) (by omega) dX0_settle_15 rfl (fun h9 => absurd h9 (by omega)) (fun h15 => ?_)
      refine lv_aload_n hx hb dX0_settle_18 rfl (lv_at hl 1 rfl) ?_
      refine gi_goN (va_runV (As := []) (rest := []) ⟨hx, hb, hml, hown, hts⟩ (c_X0_giveAddresses l D cA cB cL A wr q n true sz bt so fc ofs tg (gf_chr n fc sz bt so tg ofs nw0 ch i) (gf_adr n fc sz bt so tg ofs nw0 ad i) (gf_now n fc sz bt so tg ofs nw0 i) hw hk9 hch9) (cwV 0 hts gX0_settle_X0_giveAddresses rfl rfl rfl (by decide +kernel) ⟨Nat.le_of_ble_eq_true rfl, Nat.le_of_ble_eq_true rfl⟩) (gi_preV (q0 := 0) hK hP hD rfl rfl rfl) rfl rfl hl.1 rfl (lv_room (Nat.le_of_ble_eq_true rfl)) dX0_settle_19 ⟨Nat.le_of_ble_eq_true rfl, Nat.le_of_ble_eq_true rfl⟩) hS (fun H locs hP hS => ?_)
      have hP : va_P D vwCl ((xw q cA n true sz bt so fc ofs tg (gf_chr n fc sz bt so tg ofs nw0 ch i) (gf_adr n fc sz bt so tg ofs nw0 ad (i + 1))) ++ wr) H := hP
      have hD : va_D A ((xw q cA n true sz bt so fc ofs tg (gf_chr n fc sz bt so tg ofs nw0 ch i) (gf_adr n fc sz bt so tg ofs nw0 ad (i + 1))) ++ wr) := gD_same hD rfl
      refine lv_aload_n hx hb dX0_settle_22 rfl (lv_at hl 1 rfl) ?_
      refine va_get (D := D) (ci := 0) (v := .ref (q 8)) (C := RX0) (T := TX0) (N := 10) hx hb hts hin hown hK hP 0 rfl rfl 7 (by decide) hf31 (fun _ h9 => h9) rfl dX0_settle_23 ?_
      refine lv_aload_n hx hb dX0_settle_26 rfl (lv_at hl 1 rfl) ?_
      refine va_get (D := D) (ci := 0) (v := .int (nI (n))) (C := RX0) (T := TX0) (N := 10) hx hb hts hin hown hK hP 0 rfl rfl 8 (by decide) hf34 (fun _ h9 => h9) rfl dX0_settle_27 ?_
      refine gi_ald hx hb hK hP 8 0 (gf_adr n fc sz bt so tg ofs nw0 ad (i + 1)) rfl rfl (by omega) (by decide) dX0_settle_30 ?_
      refine gi_top (y := (nI (gf_ad fc sz (gf_now n fc sz bt so tg ofs nw0 i) n))) (congrArg nI (had9 n (Nat.le_refl n))) ?_
      refine lv_sipush (v := nI (4096)) hx hb dX0_settle_31 (by decide) ?_
      refine gi_icmp_le (tgt := 47) hx hb (by omega) (by omega) dX0_settle_34 rfl (fun h34 => ?_) (fun h9 => absurd h9 (by omega))
      refine lv_aload_n hx hb dX0_settle_47 rfl (lv_at hl 1 rfl) ?_
      refine gi_goV (va_runV (As := []) (rest := []) ⟨hx, hb, hml, hown, hts⟩ (c_X0_leastUnfit l D cA cB cL A wr q n true sz bt so fc ofs tg (gf_chr n fc sz bt so tg ofs nw0 ch i) (gf_adr n fc sz bt so tg ofs nw0 ad (i + 1)) (gf_now n fc sz bt so tg ofs nw0 i) hw hk9 hch9 had9) (cwV 0 hts gX0_settle_X0_leastUnfit rfl rfl rfl (by decide +kernel) ⟨Nat.le_of_ble_eq_true rfl, Nat.le_of_ble_eq_true rfl⟩) (gi_preV (q0 := 0) hK hP hD rfl rfl rfl) rfl rfl hl.1 rfl (lv_room (Nat.le_of_ble_eq_true rfl)) dX0_settle_48 ⟨Nat.le_of_ble_eq_true rfl, Nat.le_of_ble_eq_true rfl⟩) hS (fun H locs hP hS => ?_)
      refine lv_iconst (v := -1) hx hb dX0_settle_51 (by decide) ?_
      refine lv_icmp_ne (tgt := 57) hx hb dX0_settle_52 rfl (fun h52 => ?_) (fun h9 => absurd h9 (fun z9 => hg9.2.1 ((gf_lu_iff n (by omega) fc sz bt so tg ofs _).mp z9)))
      refine lv_aload_n hx hb dX0_settle_57 rfl (lv_at hl 1 rfl) ?_
      refine gi_goV (va_runV (As := []) (rest := []) ⟨hx, hb, hml, hown, hts⟩ (c_X0_someUnfitHasNoNext l D cA cB cL A wr q n true sz bt so fc ofs tg (gf_chr n fc sz bt so tg ofs nw0 ch i) (gf_adr n fc sz bt so tg ofs nw0 ad (i + 1)) (gf_now n fc sz bt so tg ofs nw0 i) hw hk9 hch9 had9) (cwV 0 hts gX0_settle_X0_someUnfitHasNoNext rfl rfl rfl (by decide +kernel) ⟨Nat.le_of_ble_eq_true rfl, Nat.le_of_ble_eq_true rfl⟩) (gi_preV (q0 := 0) hK hP hD rfl rfl rfl) rfl rfl hl.1 rfl (lv_room (Nat.le_of_ble_eq_true rfl)) dX0_settle_58 ⟨Nat.le_of_ble_eq_true rfl, Nat.le_of_ble_eq_true rfl⟩) hS (fun H locs hP hS => ?_)
      refine gi_if_eqb (tgt := 74) hx hb dX0_settle_61 rfl (fun h61 => ?_) (fun h9 => absurd h9 (fun z9 => hg9.2.2 ((gf_last_iff n fc sz bt so tg ofs _).mp z9)))
      refine lv_aload_n hx hb dX0_settle_74 rfl (lv_at hl 1 rfl) ?_
      refine gi_goN (va_runV (As := []) (rest := []) ⟨hx, hb, hml, hown, hts⟩ (c_X0_moveUnfitOn l D cA cB cL A wr q n true sz bt so fc ofs tg (gf_chr n fc sz bt so tg ofs nw0 ch i) (gf_adr n fc sz bt so tg ofs nw0 ad (i + 1)) (gf_now n fc sz bt so tg ofs nw0 i) hw hk9 hch9 had9) (cwV 0 hts gX0_settle_X0_moveUnfitOn rfl rfl rfl (by decide +kernel) ⟨Nat.le_of_ble_eq_true rfl, Nat.le_of_ble_eq_true rfl⟩) (gi_preV (q0 := 0) hK hP hD rfl rfl rfl) rfl rfl hl.1 rfl (lv_room (Nat.le_of_ble_eq_true rfl)) dX0_settle_75 ⟨Nat.le_of_ble_eq_true rfl, Nat.le_of_ble_eq_true rfl⟩) hS (fun H locs hP hS => ?_)
      have hP : va_P D vwCl ((xw q cA n true sz bt so fc ofs tg (gf_chr n fc sz bt so tg ofs nw0 ch (i + 1)) (gf_adr n fc sz bt so tg ofs nw0 ad (i + 1))) ++ wr) H := hP
      have hD : va_D A ((xw q cA n true sz bt so fc ofs tg (gf_chr n fc sz bt so tg ofs nw0 ch (i + 1)) (gf_adr n fc sz bt so tg ofs nw0 ad (i + 1))) ++ wr) := gD_same hD rfl
      refine lv_iinc (k := 0) (lv' := [(1, .int (nI (i + 1))), (0, .ref (q 0))]) hx hb dX0_settle_78 hl rfl (gi_inc _) (by decide) rfl (fun ls hl => ?_)
      refine lv_goto (tgt := 11) hx hb dX0_settle_81 rfl ?_
      exact ih (i + 1) (by omega) H locs ls hP hS (lv_sub hl [0, 1] rfl)
  exact loop r 0 (by omega) _ _ _ hP hS (lv_sub hl [0, 1] rfl)
set_option maxHeartbeats 4000000 in
set_option maxRecDepth 100000 in
theorem ex2_X0_settle (l : Launch) (hl9 : l.stackTraces = false) (D : va_G) (cA cB cL : ClassId) (A : Nat → Prop) (wr : va_W) (q : Nat → Nat) (n : Nat) (st : Bool) (sz bt so fc : Nat → Nat) (ofs : Nat → Int32) (tg : Nat → Nat) (ch : Nat → Int32) (ad : Nat → Nat) (nw0 : Nat → Nat) (r : Nat) (hw : gf_wf n fc sz bt so tg) (hr : r ≤ 360) (hgo : ∀ q9, q9 < r → gf_go n fc sz bt so tg ofs (gf_now n fc sz bt so tg ofs nw0 q9)) (hend : gf_ad fc sz (gf_now n fc sz bt so tg ofs nw0 r) n ≤ 4096) (hlast : gf_last n fc sz bt so tg ofs (gf_now n fc sz bt so tg ofs nw0 r)) : vx_Met l yX0_settle wsX0_settle ({ frames := 6, cells := 1, slots := 6, locals := 112 }) (gPreX D vwCl [(cA, .int), (cB, .boolean), (cL, .long)] ((xw q cA n st sz bt so fc ofs tg ch ad) ++ wr) A [.ref (q 0)]) gNo (gXC sUOE D vwCl ((xw q cA n true sz bt so fc ofs tg (gf_chr n fc sz bt so tg ofs nw0 ch r) (gf_adr n fc sz bt so tg ofs nw0 ad (r + 1))) ++ wr) A) 1 6 A := by
  refine vx_ofW (cc := cX0_settle) (maxL := 2) (ret := (some .int)) (by decide) rfl ?_
  intro p e s m args below meth c s₁ B hml hnt hv
  obtain ⟨rfl, hP, hK, hD, hX⟩ := hv
  have hx := B.exec
  have hb := B.bytes
  have hr := B.returns
  have hlk := B.notSynchronized
  have hts := atoms_spec (ws := wsX0_settle) B.pre
  have hown : s.vm.findClass RX0 = some m.cls := findClass_of_methodNamed B.named
  have hS : va_S A s.heap s.heap [] := va_S.rf
  have hl := lv_entry ([.ref (q 0)]) (n := 2) (Nat.le_of_ble_eq_true rfl)
  rw [lg_entry_eq]
  generalize (lg_sl ([.ref (q 0)]) ++ List.replicate (2 - (lg_sl ([.ref (q 0)])).length) Slot.unset).toArray = ls at hl ⊢
  have hl : lv_has ls 2 [(0, .ref (q 0))] := hl
  have hin : ∀ w ∈ u_ws RX0 TX0 10, w ∈ wsX0_settle := fun w h => List.mem_cons_of_mem _ (inTX0 w h)
  have hf31 := hts _ (List.mem_cons_of_mem _ tfX0_31)
  have hf34 := hts _ (List.mem_cons_of_mem _ tfX0_34)
  have hf38 := hts _ (List.mem_cons_of_mem _ tfX0_38)
  have hn := hw.1
  refine lv_aload_n hx hb dX0_settle_0 rfl (lv_at hl 0 rfl) ?_
  refine lv_iconst (v := nI (1)) hx hb dX0_settle_1 (by decide) ?_
  refine va_put (D := D) (ci := 0) (v := .int (bI (true))) (ty := .boolean) (C := RX0) (T := TX0) (N := 10) hx hb hts hin tyX0 tyX0_ok nmX0 hown hK hP hD hS 0 rfl rfl 9 (by decide) hf38 (fun _ h9 => h9) rfl (by decide +kernel) (bI_nar _) (bI_fits _) (Nat.le_of_ble_eq_true rfl) dX0_settle_2 (fun H locs hP hD hS => ?_)
  have hP : va_P D vwCl ((xw q cA n true sz bt so fc ofs tg ch ad) ++ wr) H := hP
  have hD : va_D A ((xw q cA n true sz bt so fc ofs tg ch ad) ++ wr) := hD
  refine lv_aload_n hx hb dX0_settle_5 rfl (lv_at hl 0 rfl) ?_
  refine gi_goN (va_runV (As := []) (rest := []) ⟨hx, hb, hml, hown, hts⟩ (c_X0_takeFirstForms l D cA cB cL A wr q n true sz bt so fc ofs tg ch ad hw.1 (fun i hi => (hw.2 i hi).1)) (cwV 0 hts gX0_settle_X0_takeFirstForms rfl rfl rfl (by decide +kernel) ⟨Nat.le_of_ble_eq_true rfl, Nat.le_of_ble_eq_true rfl⟩) (gi_preV (q0 := 0) hK hP hD rfl rfl rfl) rfl rfl hl.1 rfl (lv_room (Nat.le_of_ble_eq_true rfl)) dX0_settle_6 ⟨Nat.le_of_ble_eq_true rfl, Nat.le_of_ble_eq_true rfl⟩) hS (fun H locs hP hS => ?_)
  have hP : va_P D vwCl ((xw q cA n true sz bt so fc ofs tg (gf_chr n fc sz bt so tg ofs nw0 ch 0) ad) ++ wr) H := hP
  have hD : va_D A ((xw q cA n true sz bt so fc ofs tg (gf_chr n fc sz bt so tg ofs nw0 ch 0) ad) ++ wr) := gD_same hD rfl
  refine lv_iconst (v := nI (0)) hx hb dX0_settle_9 (by decide) ?_
  refine lv_istore_n (lv' := [(1, .int (nI (0))), (0, .ref (q 0))]) hx hb dX0_settle_10 rfl hl (by decide) rfl (fun ls hl => ?_)
  have loop : ∀ (k i : Nat), i + k = r → ∀ (H : Heap) (locs : List Loc) (ls : Array Slot), va_P D vwCl ((xw q cA n true sz bt so fc ofs tg (gf_chr n fc sz bt so tg ofs nw0 ch i) (gf_adr n fc sz bt so tg ofs nw0 ad i)) ++ wr) H → va_S A s.heap H locs → lv_has ls 2 [(1, .int (nI (i))), (0, .ref (q 0))] → W p l e (headSpec wsX0_settle ({ frames := 6, cells := 1, slots := 6, locals := 112 })).room s m ([.ref (q 0)] : List Value).toArray below meth c H locs 0 0 (vx_MQ below gNo (gXC sUOE D vwCl ((xw q cA n true sz bt so fc ofs tg (gf_chr n fc sz bt so tg ofs nw0 ch r) (gf_adr n fc sz bt so tg ofs nw0 ad (r + 1))) ++ wr) A) ([.ref (q 0)] : List Value).toArray s 1 6 A) (F0 m 11 ls []) := by
    intro k
    induction k with
    | zero =>
      intro i hik H locs ls hP hS hl
      have h9 : r = i := by omega
      subst h9
      have hD : va_D A ((xw q cA n true sz bt so fc ofs tg (gf_chr n fc sz bt so tg ofs nw0 ch r) (gf_adr n fc sz bt so tg ofs nw0 ad r)) ++ wr) := gD_same hD rfl
      have hk9 := (gf_run r (fun q9 h9 => hgo q9 (by omega))).1
      have hch9 : ∀ j, j < n → gf_chr n fc sz bt so tg ofs nw0 ch r j = gf_c fc (gf_now n fc sz bt so tg ofs nw0 r) j := fun j hj => gf_chr_c n fc sz bt so tg ofs nw0 ch r j hj
      have had9 : ∀ j, j ≤ n → gf_adr n fc sz bt so tg ofs nw0 ad (r + 1) j = gf_ad fc sz (gf_now n fc sz bt so tg ofs nw0 r) j := fun j hj => gf_adr_a n fc sz bt so tg ofs nw0 ad r j hj
      have ha9 := gf_ad_le hw hk9 n (Nat.le_refl n)
      refine lv_iload_n hx hb dX0_settle_11 rfl (lv_at hl 0 rfl) ?_
      refine lv_sipush (v := nI (360)) hx hb dX0_settle_12 (by decide) ?_
      refine gi_icmp_gt (tgt := 84) hx hb (by omega) (by omega) dX0_settle_15 rfl (fun h9 => absurd h9 (by omega)) (fun h15 => ?_)
      refine lv_aload_n hx hb dX0_settle_18 rfl (lv_at hl 1 rfl) ?_
      refine gi_goN (va_runV (As := []) (rest := []) ⟨hx, hb, hml, hown, hts⟩ (c_X0_giveAddresses l D cA cB cL A wr q n true sz bt so fc ofs tg (gf_chr n fc sz bt so tg ofs nw0 ch r) (gf_adr n fc sz bt so tg ofs nw0 ad r) (gf_now n fc sz bt so tg ofs nw0 r) hw hk9 hch9) (cwV 0 hts gX0_settle_X0_giveAddresses rfl rfl rfl (by decide +kernel) ⟨Nat.le_of_ble_eq_true rfl, Nat.le_of_ble_eq_true rfl⟩) (gi_preV (q0 := 0) hK hP hD rfl rfl rfl) rfl rfl hl.1 rfl (lv_room (Nat.le_of_ble_eq_true rfl)) dX0_settle_19 ⟨Nat.le_of_ble_eq_true rfl, Nat.le_of_ble_eq_true rfl⟩) hS (fun H locs hP hS => ?_)
      have hP : va_P D vwCl ((xw q cA n true sz bt so fc ofs tg (gf_chr n fc sz bt so tg ofs nw0 ch r) (gf_adr n fc sz bt so tg ofs nw0 ad (r + 1))) ++ wr) H := hP
      have hD : va_D A ((xw q cA n true sz bt so fc ofs tg (gf_chr n fc sz bt so tg ofs nw0 ch r) (gf_adr n fc sz bt so tg ofs nw0 ad (r + 1))) ++ wr) := gD_same hD rfl
      refine lv_aload_n hx hb dX0_settle_22 rfl (lv_at hl 1 rfl) ?_
      refine va_get (D := D) (ci := 0) (v := .ref (q 8)) (C := RX0) (T := TX0) (N := 10) hx hb hts hin hown hK hP 0 rfl rfl 7 (by decide) hf31 (fun _ h9 => h9) rfl dX0_settle_23 ?_
      refine lv_aload_n hx hb dX0_settle_26 rfl (lv_at hl 1 rfl) ?_
      refine va_get (D := D) (ci := 0) (v := .int (nI (n))) (C := RX0) (T := TX0) (N := 10) hx hb hts hin hown hK hP 0 rfl rfl 8 (by decide) hf34 (fun _ h9 => h9) rfl dX0_settle_27 ?_
      refine gi_ald hx hb hK hP 8 0 (gf_adr n fc sz bt so tg ofs nw0 ad (r + 1)) rfl rfl (by omega) (by decide) dX0_settle_30 ?_
      refine gi_top (y := (nI (gf_ad fc sz (gf_now n fc sz bt so tg ofs nw0 r) n))) (congrArg nI (had9 n (Nat.le_refl n))) ?_
      refine lv_sipush (v := nI (4096)) hx hb dX0_settle_31 (by decide) ?_
      refine gi_icmp_le (tgt := 47) hx hb (by omega) (by omega) dX0_settle_34 rfl (fun h34 => ?_) (fun h9 => absurd h9 (by omega))
      refine lv_aload_n hx hb dX0_settle_47 rfl (lv_at hl 1 rfl) ?_
      refine gi_goV (va_runV (As := []) (rest := []) ⟨hx, hb, hml, hown, hts⟩ (c_X0_leastUnfit l D cA cB cL A wr q n true sz bt so fc ofs tg (gf_chr n fc sz bt so tg ofs nw0 ch r) (gf_adr n fc sz bt so tg ofs nw0 ad (r + 1)) (gf_now n fc sz bt so tg ofs nw0 r) hw hk9 hch9 had9) (cwV 0 hts gX0_settle_X0_leastUnfit rfl rfl rfl (by decide +kernel) ⟨Nat.le_of_ble_eq_true rfl, Nat.le_of_ble_eq_true rfl⟩) (gi_preV (q0 := 0) hK hP hD rfl rfl rfl) rfl rfl hl.1 rfl (lv_room (Nat.le_of_ble_eq_true rfl)) dX0_settle_48 ⟨Nat.le_of_ble_eq_true rfl, Nat.le_of_ble_eq_true rfl⟩) hS (fun H locs hP hS => ?_)
      refine lv_iconst (v := -1) hx hb dX0_settle_51 (by decide) ?_
      refine lv_icmp_ne (tgt := 57) hx hb dX0_settle_52 rfl (fun h52 => ?_) (fun h9 => absurd h9 (fun z9 => by obtain ⟨j9, h1, h2, _⟩ := hlast; exact gf_ne_ft ((gf_lu_iff n (by omega) fc sz bt so tg ofs _).mp z9 j9 h1) h2))
      refine lv_aload_n hx hb dX0_settle_57 rfl (lv_at hl 1 rfl) ?_
      refine gi_goV (va_runV (As := []) (rest := []) ⟨hx, hb, hml, hown, hts⟩ (c_X0_someUnfitHasNoNext l D cA cB cL A wr q n true sz bt so fc ofs tg (gf_chr n fc sz bt so tg ofs nw0 ch r) (gf_adr n fc sz bt so tg ofs nw0 ad (r + 1)) (gf_now n fc sz bt so tg ofs nw0 r) hw hk9 hch9 had9) (cwV 0 hts gX0_settle_X0_someUnfitHasNoNext rfl rfl rfl (by decide +kernel) ⟨Nat.le_of_ble_eq_true rfl, Nat.le_of_ble_eq_true rfl⟩) (gi_preV (q0 := 0) hK hP hD rfl rfl rfl) rfl rfl hl.1 rfl (lv_room (Nat.le_of_ble_eq_true rfl)) dX0_settle_58 ⟨Nat.le_of_ble_eq_true rfl, Nat.le_of_ble_eq_true rfl⟩) hS (fun H locs hP hS => ?_)
      refine gi_if_eqb (tgt := 74) hx hb dX0_settle_61 rfl (fun h9 => absurd h9 (gf_ne_ft ((gf_last_iff n fc sz bt so tg ofs _).mpr hlast))) (fun h61 => ?_)
      exact gi_throw (text := _) hx hb hl9 hts (fun w h => List.mem_cons_of_mem _ h) hown (by decide +kernel) tkX0_94 ti_UnsupportedOperationException (List.mem_of_getElem? (i := 6) rfl) x1_98 x2_98 x3_98 hX hP hS (hl.1.trans hml.symm) hnt hlk ⟨Nat.le_of_ble_eq_true rfl, Nat.le_of_ble_eq_true rfl, Nat.le_of_ble_eq_true rfl, Nat.le_of_ble_eq_true rfl⟩ dX0_settle_64 dX0_settle_67 dX0_settle_68 dX0_settle_70 dX0_settle_73
    | succ k ih =>
      intro i hik H locs ls hP hS hl
      have hi : i < r := by omega
      have hg9 := hgo i hi
      have hD : va_D A ((xw q cA n true sz bt so fc ofs tg (gf_chr n fc sz bt so tg ofs nw0 ch i) (gf_adr n fc sz bt so tg ofs nw0 ad i)) ++ wr) := gD_same hD rfl
      have hk9 := (gf_run i (fun q9 h9 => hgo q9 (by omega))).1
      have hch9 : ∀ j, j < n → gf_chr n fc sz bt so tg ofs nw0 ch i j = gf_c fc (gf_now n fc sz bt so tg ofs nw0 i) j := fun j hj => gf_chr_c n fc sz bt so tg ofs nw0 ch i j hj
      have had9 : ∀ j, j ≤ n → gf_adr n fc sz bt so tg ofs nw0 ad (i + 1) j = gf_ad fc sz (gf_now n fc sz bt so tg ofs nw0 i) j := fun j hj => gf_adr_a n fc sz bt so tg ofs nw0 ad i j hj
      have ha9 := gf_ad_le hw hk9 n (Nat.le_refl n)
      have hg1 := hg9.1
      refine lv_iload_n hx hb dX0_settle_11 rfl (lv_at hl 0 rfl) ?_
      refine lv_sipush (v := nI (360)) hx hb dX0_settle_12 (by decide) ?_
      refine gi_icmp_gt (tgt := 84) hx hb (by omega) (by omega) dX0_settle_15 rfl (fun h9 => absurd h9 (by omega)) (fun h15 => ?_)
      refine lv_aload_n hx hb dX0_settle_18 rfl (lv_at hl 1 rfl) ?_
      refine gi_goN (va_runV (As := []) (rest := []) ⟨hx, hb, hml, hown, hts⟩ (c_X0_giveAddresses l D cA cB cL A wr q n true sz bt so fc ofs tg (gf_chr n fc sz bt so tg ofs nw0 ch i) (gf_adr n fc sz bt so tg ofs nw0 ad i) (gf_now n fc sz bt so tg ofs nw0 i) hw hk9 hch9) (cwV 0 hts gX0_settle_X0_giveAddresses rfl rfl rfl (by decide +kernel) ⟨Nat.le_of_ble_eq_true rfl, Nat.le_of_ble_eq_true rfl⟩) (gi_preV (q0 := 0) hK hP hD rfl rfl rfl) rfl rfl hl.1 rfl (lv_room (Nat.le_of_ble_eq_true rfl)) dX0_settle_19 ⟨Nat.le_of_ble_eq_true rfl, Nat.le_of_ble_eq_true rfl⟩) hS (fun H locs hP hS => ?_)
      have hP : va_P D vwCl ((xw q cA n true sz bt so fc ofs tg (gf_chr n fc sz bt so tg ofs nw0 ch i) (gf_adr n fc sz bt so tg ofs nw0 ad (i + 1))) ++ wr) H := hP
      have hD : va_D A ((xw q cA n true sz bt so fc ofs tg (gf_chr n fc sz bt so tg ofs nw0 ch i) (gf_adr n fc sz bt so tg ofs nw0 ad (i + 1))) ++ wr) := gD_same hD rfl
      refine lv_aload_n hx hb dX0_settle_22 rfl (lv_at hl 1 rfl) ?_
      refine va_get (D := D) (ci := 0) (v := .ref (q 8)) (C := RX0) (T := TX0) (N := 10) hx hb hts hin hown hK hP 0 rfl rfl 7 (by decide) hf31 (fun _ h9 => h9) rfl dX0_settle_23 ?_
      refine lv_aload_n hx hb dX0_settle_26 rfl (lv_at hl 1 rfl) ?_
      refine va_get (D := D) (ci := 0) (v := .int (nI (n))) (C := RX0) (T := TX0) (N := 10) hx hb hts hin hown hK hP 0 rfl rfl 8 (by decide) hf34 (fun _ h9 => h9) rfl dX0_settle_27 ?_
      refine gi_ald hx hb hK hP 8 0 (gf_adr n fc sz bt so tg ofs nw0 ad (i + 1)) rfl rfl (by omega) (by decide) dX0_settle_30 ?_
      refine gi_top (y := (nI (gf_ad fc sz (gf_now n fc sz bt so tg ofs nw0 i) n))) (congrArg nI (had9 n (Nat.le_refl n))) ?_
      refine lv_sipush (v := nI (4096)) hx hb dX0_settle_31 (by decide) ?_
      refine gi_icmp_le (tgt := 47) hx hb (by omega) (by omega) dX0_settle_34 rfl (fun h34 => ?_) (fun h9 => absurd h9 (by omega))
      refine lv_aload_n hx hb dX0_settle_47 rfl (lv_at hl 1 rfl) ?_
      refine gi_goV (va_runV (As := []) (rest := []) ⟨hx, hb, hml, hown, hts⟩ (c_X0_leastUnfit l D cA cB cL A wr q n true sz bt so fc ofs tg (gf_chr n fc sz bt so tg ofs nw0 ch i) (gf_adr n fc sz bt so tg ofs nw0 ad (i + 1)) (gf_now n fc sz bt so tg ofs nw0 i) hw hk9 hch9 had9) (cwV 0 hts gX0_settle_X0_leastUnfit rfl rfl rfl (by decide +kernel) ⟨Nat.le_of_ble_eq_true rfl, Nat.le_of_ble_eq_true rfl⟩) (gi_preV (q0 := 0) hK hP hD rfl rfl rfl) rfl rfl hl.1 rfl (lv_room (Nat.le_of_ble_eq_true rfl)) dX0_settle_48 ⟨Nat.le_of_ble_eq_true rfl, Nat.le_of_ble_eq_true rfl⟩) hS (fun H locs hP hS => ?_)
      refine lv_iconst (v := -1) hx hb dX0_settle_51 (by decide) ?_
      refine lv_icmp_ne (tgt := 57) hx hb dX0_settle_52 rfl (fun h52 => ?_) (fun h9 => absurd h9 (fun z9 => hg9.2.1 ((gf_lu_iff n (by omega) fc sz bt so tg ofs _).mp z9)))
      refine lv_aload_n hx hb dX0_settle_57 rfl (lv_at hl 1 rfl) ?_
      refine gi_goV (va_runV (As := []) (rest := []) ⟨hx, hb, hml, hown, hts⟩ (c_X0_someUnfitHasNoNext l D cA cB cL A wr q n true sz bt so fc ofs tg (gf_chr n fc sz bt so tg ofs nw0 ch i) (gf_adr n fc sz bt so tg ofs nw0 ad (i + 1)) (gf_now n fc sz bt so tg ofs nw0 i) hw hk9 hch9 had9) (cwV 0 hts gX0_settle_X0_someUnfitHasNoNext rfl rfl rfl (by decide +kernel) ⟨Nat.le_of_ble_eq_true rfl, Nat.le_of_ble_eq_true rfl⟩) (gi_preV (q0 := 0) hK hP hD rfl rfl rfl) rfl rfl hl.1 rfl (lv_room (Nat.le_of_ble_eq_true rfl)) dX0_settle_58 ⟨Nat.le_of_ble_eq_true rfl, Nat.le_of_ble_eq_true rfl⟩) hS (fun H locs hP hS => ?_)
      refine gi_if_eqb (tgt := 74) hx hb dX0_settle_61 rfl (fun h61 => ?_) (fun h9 => absurd h9 (fun z9 => hg9.2.2 ((gf_last_iff n fc sz bt so tg ofs _).mp z9)))
      refine lv_aload_n hx hb dX0_settle_74 rfl (lv_at hl 1 rfl) ?_
      refine gi_goN (va_runV (As := []) (rest := []) ⟨hx, hb, hml, hown, hts⟩ (c_X0_moveUnfitOn l D cA cB cL A wr q n true sz bt so fc ofs tg (gf_chr n fc sz bt so tg ofs nw0 ch i) (gf_adr n fc sz bt so tg ofs nw0 ad (i + 1)) (gf_now n fc sz bt so tg ofs nw0 i) hw hk9 hch9 had9) (cwV 0 hts gX0_settle_X0_moveUnfitOn rfl rfl rfl (by decide +kernel) ⟨Nat.le_of_ble_eq_true rfl, Nat.le_of_ble_eq_true rfl⟩) (gi_preV (q0 := 0) hK hP hD rfl rfl rfl) rfl rfl hl.1 rfl (lv_room (Nat.le_of_ble_eq_true rfl)) dX0_settle_75 ⟨Nat.le_of_ble_eq_true rfl, Nat.le_of_ble_eq_true rfl⟩) hS (fun H locs hP hS => ?_)
      have hP : va_P D vwCl ((xw q cA n true sz bt so fc ofs tg (gf_chr n fc sz bt so tg ofs nw0 ch (i + 1)) (gf_adr n fc sz bt so tg ofs nw0 ad (i + 1))) ++ wr) H := hP
      have hD : va_D A ((xw q cA n true sz bt so fc ofs tg (gf_chr n fc sz bt so tg ofs nw0 ch (i + 1)) (gf_adr n fc sz bt so tg ofs nw0 ad (i + 1))) ++ wr) := gD_same hD rfl
      refine lv_iinc (k := 0) (lv' := [(1, .int (nI (i + 1))), (0, .ref (q 0))]) hx hb dX0_settle_78 hl rfl (gi_inc _) (by decide) rfl (fun ls hl => ?_)
      refine lv_goto (tgt := 11) hx hb dX0_settle_81 rfl ?_
      exact ih (i + 1) (by omega) H locs ls hP hS (lv_sub hl [0, 1] rfl)
  exact loop r 0 (by omega) _ _ _ hP hS (lv_sub hl [0, 1] rfl)
