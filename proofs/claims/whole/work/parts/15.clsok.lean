set_option maxHeartbeats 4000000 in
set_option maxRecDepth 100000 in
theorem ok_X0_line (l : Launch) (D : va_G) (cA cB cL : ClassId) (A : Nat → Prop) (wr : va_W) (q : Nat → Nat) (n : Nat) (st : Bool) (sz bt so fc : Nat → Nat) (ofs : Nat → Int32) (tg : Nat → Nat) (ch : Nat → Int32) (ad : Nat → Nat) (hn : n < 120) : Met l yX0_line wsX0_line ({ frames := 0, cells := 0, slots := 0, locals := 0 }) (gPre D vwCl [(cA, .int), (cB, .boolean), (cL, .long)] ((xw q cA n st sz bt so fc ofs tg ch ad) ++ wr) A [.ref (q 0)]) (gPost (some (.int (nI (n)))) D vwCl ((xw q cA (n + 1) false sz bt so (gU fc n 0) (upd ofs n (nI (0))) (gU tg n 0) ch ad) ++ wr) A) 0 0 A := by
  refine Met.ofW (cc := cX0_line) (maxL := 2) (ret := (some .int)) (by decide) rfl ?_
  intro p e s m args below meth c s₁ B hml hv
  obtain ⟨rfl, hP, hK, hD⟩ := hv
  have hx := B.exec
  have hb := B.bytes
  have hr := B.returns
  have hlk := B.notSynchronized
  have hts := atoms_spec (ws := wsX0_line) B.pre
  have hown : s.vm.findClass RX0 = some m.cls := findClass_of_methodNamed B.named
  have hS : va_S A s.heap s.heap [] := va_S.rf
  have hl := lv_entry ([.ref (q 0)]) (n := 2) (Nat.le_of_ble_eq_true rfl)
  rw [lg_entry_eq]
  generalize (lg_sl ([.ref (q 0)]) ++ List.replicate (2 - (lg_sl ([.ref (q 0)])).length) Slot.unset).toArray = ls at hl ⊢
  have hl : lv_has ls 2 [(0, .ref (q 0))] := hl
  have hin : ∀ w ∈ u_ws RX0 TX0 10, w ∈ wsX0_line := fun w h => List.mem_cons_of_mem _ (inTX0 w h)
  have hf19 := hts _ (List.mem_cons_of_mem _ tfX0_19)
  have hf22 := hts _ (List.mem_cons_of_mem _ tfX0_22)
  have hf25 := hts _ (List.mem_cons_of_mem _ tfX0_25)
  have hf34 := hts _ (List.mem_cons_of_mem _ tfX0_34)
  have hf38 := hts _ (List.mem_cons_of_mem _ tfX0_38)
  refine lv_aload_n hx hb dX0_line_0 rfl (lv_at hl 0 rfl) ?_
  refine va_get (D := D) (ci := 0) (v := .int (nI (n))) (C := RX0) (T := TX0) (N := 10) hx hb hts hin hown hK hP 0 rfl rfl 8 (by decide) hf34 (fun _ h9 => h9) rfl dX0_line_1 ?_
  refine lv_bipush (v := nI (120)) hx hb dX0_line_4 (by decide) ?_
  refine gi_icmp_lt (tgt := 19) hx hb (by omega) (by omega) dX0_line_6 rfl (fun h6 => ?_) (fun h9 => absurd h9 (by omega))
  refine lv_aload_n hx hb dX0_line_19 rfl (lv_at hl 0 rfl) ?_
  refine va_get (D := D) (ci := 0) (v := .int (nI (n))) (C := RX0) (T := TX0) (N := 10) hx hb hts hin hown hK hP 0 rfl rfl 8 (by decide) hf34 (fun _ h9 => h9) rfl dX0_line_20 ?_
  refine lv_istore_n (lv' := [(1, .int (nI (n))), (0, .ref (q 0))]) hx hb dX0_line_23 rfl hl (by decide) rfl (fun ls hl => ?_)
  refine lv_aload_n hx hb dX0_line_24 rfl (lv_at hl 1 rfl) ?_
  refine va_get (D := D) (ci := 0) (v := .ref (q 4)) (C := RX0) (T := TX0) (N := 10) hx hb hts hin hown hK hP 0 rfl rfl 3 (by decide) hf19 (fun _ h9 => h9) rfl dX0_line_25 ?_
  refine lv_iload_n hx hb dX0_line_28 rfl (lv_at hl 0 rfl) ?_
  refine lv_iconst (v := nI (0)) hx hb dX0_line_29 (by decide) ?_
  refine gi_ast hx hb hK hP hD hS 4 0 fc rfl rfl (by omega) (by decide) dX0_line_30 (fun H locs hP hD hS => ?_)
  have hP : va_P D vwCl ((xw q cA n st sz bt so (gU fc n 0) ofs tg ch ad) ++ wr) H := hP
  have hD : va_D A ((xw q cA n st sz bt so (gU fc n 0) ofs tg ch ad) ++ wr) := hD
  refine lv_aload_n hx hb dX0_line_31 rfl (lv_at hl 1 rfl) ?_
  refine va_get (D := D) (ci := 0) (v := .ref (q 6)) (C := RX0) (T := TX0) (N := 10) hx hb hts hin hown hK hP 0 rfl rfl 5 (by decide) hf25 (fun _ h9 => h9) rfl dX0_line_32 ?_
  refine lv_iload_n hx hb dX0_line_35 rfl (lv_at hl 0 rfl) ?_
  refine lv_iconst (v := nI (0)) hx hb dX0_line_36 (by decide) ?_
  refine gi_ast hx hb hK hP hD hS 6 0 tg rfl rfl (by omega) (by decide) dX0_line_37 (fun H locs hP hD hS => ?_)
  have hP : va_P D vwCl ((xw q cA n st sz bt so (gU fc n 0) ofs (gU tg n 0) ch ad) ++ wr) H := hP
  have hD : va_D A ((xw q cA n st sz bt so (gU fc n 0) ofs (gU tg n 0) ch ad) ++ wr) := hD
  refine lv_aload_n hx hb dX0_line_38 rfl (lv_at hl 1 rfl) ?_
  refine va_get (D := D) (ci := 0) (v := .ref (q 5)) (C := RX0) (T := TX0) (N := 10) hx hb hts hin hown hK hP 0 rfl rfl 4 (by decide) hf22 (fun _ h9 => h9) rfl dX0_line_39 ?_
  refine lv_iload_n hx hb dX0_line_42 rfl (lv_at hl 0 rfl) ?_
  refine lv_iconst (v := nI (0)) hx hb dX0_line_43 (by decide) ?_
  refine gi_astI hx hb hK hP hD hS 5 0 ofs rfl rfl (by omega) (by decide) dX0_line_44 (fun H locs hP hD hS => ?_)
  have hP : va_P D vwCl ((xw q cA n st sz bt so (gU fc n 0) (upd ofs n ((nI (0)))) (gU tg n 0) ch ad) ++ wr) H := hP
  have hD : va_D A ((xw q cA n st sz bt so (gU fc n 0) (upd ofs n ((nI (0)))) (gU tg n 0) ch ad) ++ wr) := hD
  refine lv_aload_n hx hb dX0_line_45 rfl (lv_at hl 1 rfl) ?_
  refine lv_iload_n hx hb dX0_line_46 rfl (lv_at hl 0 rfl) ?_
  refine lv_iconst (v := nI (1)) hx hb dX0_line_47 (by decide) ?_
  refine gi_iadd hx hb (n + 1) rfl dX0_line_48 ?_
  refine va_put (D := D) (ci := 0) (v := .int (nI (n + 1))) (ty := .int) (C := RX0) (T := TX0) (N := 10) hx hb hts hin tyX0 tyX0_ok nmX0 hown hK hP hD hS 0 rfl rfl 8 (by decide) hf34 (fun _ h9 => h9) rfl (by decide +kernel) rfl rfl (Nat.le_of_ble_eq_true rfl) dX0_line_49 (fun H locs hP hD hS => ?_)
  have hP : va_P D vwCl ((xw q cA (n + 1) st sz bt so (gU fc n 0) (upd ofs n ((nI (0)))) (gU tg n 0) ch ad) ++ wr) H := hP
  have hD : va_D A ((xw q cA (n + 1) st sz bt so (gU fc n 0) (upd ofs n ((nI (0)))) (gU tg n 0) ch ad) ++ wr) := hD
  refine lv_aload_n hx hb dX0_line_52 rfl (lv_at hl 1 rfl) ?_
  refine lv_iconst (v := nI (0)) hx hb dX0_line_53 (by decide) ?_
  refine va_put (D := D) (ci := 0) (v := .int (bI (false))) (ty := .boolean) (C := RX0) (T := TX0) (N := 10) hx hb hts hin tyX0 tyX0_ok nmX0 hown hK hP hD hS 0 rfl rfl 9 (by decide) hf38 (fun _ h9 => h9) rfl (by decide +kernel) (bI_nar _) (bI_fits _) (Nat.le_of_ble_eq_true rfl) dX0_line_54 (fun H locs hP hD hS => ?_)
  have hP : va_P D vwCl ((xw q cA (n + 1) false sz bt so (gU fc n 0) (upd ofs n ((nI (0)))) (gU tg n 0) ch ad) ++ wr) H := hP
  have hD : va_D A ((xw q cA (n + 1) false sz bt so (gU fc n 0) (upd ofs n ((nI (0)))) (gU tg n 0) ch ad) ++ wr) := hD
  refine lv_iload_n hx hb dX0_line_57 rfl (lv_at hl 0 rfl) ?_
  exact gi_iret hx hb hlk hr dX0_line_58 (rfl) hP hS
set_option maxHeartbeats 4000000 in
set_option maxRecDepth 100000 in
theorem ok_X0_form (l : Launch) (D : va_G) (cA cB cL : ClassId) (A : Nat → Prop) (wr : va_W) (q : Nat → Nat) (st : Bool) (sz bt so fc : Nat → Nat) (ofs : Nat → Int32) (tg : Nat → Nat) (ch : Nat → Int32) (ad : Nat → Nat) (k x y z : Nat) (hk : k < 120) (hfc : fc k < 4) (hf : gf_isf (nI x) (nI y) (nI z) = true) : Met l yX0_form wsX0_form ({ frames := 1, cells := 0, slots := 0, locals := 22 }) (gPre D vwCl [(cA, .int), (cB, .boolean), (cL, .long)] ((xw q cA (k + 1) st sz bt so fc ofs tg ch ad) ++ wr) A [.ref (q 0), .int (nI (x)), .int (nI (y)), .int (nI (z))]) (gPost (some (.int (nI (fc k + 1)))) D vwCl ((xw q cA (k + 1) false (gU sz (4 * k + fc k) x) (gU bt (4 * k + fc k) y) (gU so (4 * k + fc k) z) (gU fc k (fc k + 1)) ofs tg ch ad) ++ wr) A) 0 0 A := by
  refine Met.ofW (cc := cX0_form) (maxL := 6) (ret := (some .int)) (by decide) rfl ?_
  intro p e s m args below meth c s₁ B hml hv
  obtain ⟨rfl, hP, hK, hD⟩ := hv
  have hx := B.exec
  have hb := B.bytes
  have hr := B.returns
  have hlk := B.notSynchronized
  have hts := atoms_spec (ws := wsX0_form) B.pre
  have hown : s.vm.findClass RX0 = some m.cls := findClass_of_methodNamed B.named
  have hS : va_S A s.heap s.heap [] := va_S.rf
  have hl := lv_entry ([.ref (q 0), .int (nI (x)), .int (nI (y)), .int (nI (z))]) (n := 6) (Nat.le_of_ble_eq_true rfl)
  rw [lg_entry_eq]
  generalize (lg_sl ([.ref (q 0), .int (nI (x)), .int (nI (y)), .int (nI (z))]) ++ List.replicate (6 - (lg_sl ([.ref (q 0), .int (nI (x)), .int (nI (y)), .int (nI (z))])).length) Slot.unset).toArray = ls at hl ⊢
  have hl : lv_has ls 6 [(0, .ref (q 0)), (1, .int (nI (x))), (2, .int (nI (y))), (3, .int (nI (z)))] := hl
  have hin : ∀ w ∈ u_ws RX0 TX0 10, w ∈ wsX0_form := fun w h => List.mem_cons_of_mem _ (inTX0 w h)
  have hf9 := hts _ (List.mem_cons_of_mem _ tfX0_9)
  have hf13 := hts _ (List.mem_cons_of_mem _ tfX0_13)
  have hf16 := hts _ (List.mem_cons_of_mem _ tfX0_16)
  have hf19 := hts _ (List.mem_cons_of_mem _ tfX0_19)
  have hf34 := hts _ (List.mem_cons_of_mem _ tfX0_34)
  have hf38 := hts _ (List.mem_cons_of_mem _ tfX0_38)
  refine lv_iload_n hx hb dX0_form_0 rfl (lv_at hl 1 rfl) ?_
  refine lv_iload_n hx hb dX0_form_1 rfl (lv_at hl 2 rfl) ?_
  refine lv_iload_n hx hb dX0_form_2 rfl (lv_at hl 3 rfl) ?_
  refine gi_goV (va_runS (As := [.int (nI (x)), .int (nI (y)), .int (nI (z))]) (rest := []) ⟨hx, hb, hml, hown, hts⟩ (c_X0_isForm l D cA cB cL A ((xw q cA (k + 1) st sz bt so fc ofs tg ch ad) ++ wr) (nI x) (nI y) (nI z)) (va_cwS 3 hts gX0_form_X0_isForm rfl rfl rfl (by decide +kernel) ⟨Nat.le_of_ble_eq_true rfl, Nat.le_of_ble_eq_true rfl⟩) (gi_preS hK hP hD) rfl rfl hl.1 rfl (lv_room (Nat.le_of_ble_eq_true rfl)) dX0_form_3 ⟨Nat.le_of_ble_eq_true rfl, Nat.le_of_ble_eq_true rfl⟩) hS (fun H locs hP hS => ?_)
  refine gi_if_neb (tgt := 19) hx hb dX0_form_6 rfl (fun h6 => ?_) (fun h9 => absurd h9 (gf_ne_ft hf))
  refine lv_aload_n hx hb dX0_form_19 rfl (lv_at hl 0 rfl) ?_
  refine va_get (D := D) (ci := 0) (v := .int (nI (k + 1))) (C := RX0) (T := TX0) (N := 10) hx hb hts hin hown hK hP 0 rfl rfl 8 (by decide) hf34 (fun _ h9 => h9) rfl dX0_form_20 ?_
  refine gi_if_ne (tgt := 36) hx hb (by omega) dX0_form_23 rfl (fun h23 => ?_) (fun h9 => absurd h9 (by omega))
  refine lv_aload_n hx hb dX0_form_36 rfl (lv_at hl 0 rfl) ?_
  refine va_get (D := D) (ci := 0) (v := .int (nI (k + 1))) (C := RX0) (T := TX0) (N := 10) hx hb hts hin hown hK hP 0 rfl rfl 8 (by decide) hf34 (fun _ h9 => h9) rfl dX0_form_37 ?_
  refine lv_iconst (v := nI (1)) hx hb dX0_form_40 (by decide) ?_
  refine gi_isub hx hb (k) (by omega) dX0_form_41 ?_
  refine lv_istore (lv' := [(4, .int (nI (k))), (0, .ref (q 0)), (1, .int (nI (x))), (2, .int (nI (y))), (3, .int (nI (z)))]) hx hb dX0_form_42 hl (by decide) rfl (fun ls hl => ?_)
  refine lv_aload_n hx hb dX0_form_44 rfl (lv_at hl 1 rfl) ?_
  refine va_get (D := D) (ci := 0) (v := .ref (q 4)) (C := RX0) (T := TX0) (N := 10) hx hb hts hin hown hK hP 0 rfl rfl 3 (by decide) hf19 (fun _ h9 => h9) rfl dX0_form_45 ?_
  refine lv_iload hx hb dX0_form_48 (lv_at hl 0 rfl) ?_
  refine gi_ald hx hb hK hP 4 0 fc rfl rfl (by omega) (by decide) dX0_form_50 ?_
  refine lv_iconst (v := nI (4)) hx hb dX0_form_51 (by decide) ?_
  refine gi_icmp_lt (tgt := 65) hx hb (by omega) (by omega) dX0_form_52 rfl (fun h52 => ?_) (fun h9 => absurd h9 (by omega))
  refine lv_iload hx hb dX0_form_65 (lv_at hl 0 rfl) ?_
  refine lv_aload_n hx hb dX0_form_67 rfl (lv_at hl 1 rfl) ?_
  refine va_get (D := D) (ci := 0) (v := .ref (q 4)) (C := RX0) (T := TX0) (N := 10) hx hb hts hin hown hK hP 0 rfl rfl 3 (by decide) hf19 (fun _ h9 => h9) rfl dX0_form_68 ?_
  refine lv_iload hx hb dX0_form_71 (lv_at hl 0 rfl) ?_
  refine gi_ald hx hb hK hP 4 0 fc rfl rfl (by omega) (by decide) dX0_form_73 ?_
  refine gi_goV (va_runS (As := [.int (nI (k)), .int (nI (fc k))]) (rest := []) ⟨hx, hb, hml, hown, hts⟩ (c_X0_placeOf l D cA cB cL A ((xw q cA (k + 1) st sz bt so fc ofs tg ch ad) ++ wr) k (fc k)) (va_cwS 2 hts gX0_form_X0_placeOf rfl rfl rfl (by decide +kernel) ⟨Nat.le_of_ble_eq_true rfl, Nat.le_of_ble_eq_true rfl⟩) (gi_preS hK hP hD) rfl rfl hl.1 rfl (lv_room (Nat.le_of_ble_eq_true rfl)) dX0_form_74 ⟨Nat.le_of_ble_eq_true rfl, Nat.le_of_ble_eq_true rfl⟩) hS (fun H locs hP hS => ?_)
  refine lv_istore (lv' := [(5, .int (nI (4 * k + (fc k)))), (4, .int (nI (k))), (0, .ref (q 0)), (1, .int (nI (x))), (2, .int (nI (y))), (3, .int (nI (z)))]) hx hb dX0_form_77 hl (by decide) rfl (fun ls hl => ?_)
  refine lv_aload_n hx hb dX0_form_79 rfl (lv_at hl 2 rfl) ?_
  refine va_get (D := D) (ci := 0) (v := .ref (q 1)) (C := RX0) (T := TX0) (N := 10) hx hb hts hin hown hK hP 0 rfl rfl 0 (by decide) hf9 (fun _ h9 => h9) rfl dX0_form_80 ?_
  refine lv_iload hx hb dX0_form_83 (lv_at hl 0 rfl) ?_
  refine lv_iload_n hx hb dX0_form_85 rfl (lv_at hl 3 rfl) ?_
  refine gi_ast hx hb hK hP hD hS 1 0 sz rfl rfl (by omega) (by decide) dX0_form_86 (fun H locs hP hD hS => ?_)
  have hP : va_P D vwCl ((xw q cA (k + 1) st (gU sz (4 * k + (fc k)) x) bt so fc ofs tg ch ad) ++ wr) H := hP
  have hD : va_D A ((xw q cA (k + 1) st (gU sz (4 * k + (fc k)) x) bt so fc ofs tg ch ad) ++ wr) := hD
  refine lv_aload_n hx hb dX0_form_87 rfl (lv_at hl 2 rfl) ?_
  refine va_get (D := D) (ci := 0) (v := .ref (q 2)) (C := RX0) (T := TX0) (N := 10) hx hb hts hin hown hK hP 0 rfl rfl 1 (by decide) hf13 (fun _ h9 => h9) rfl dX0_form_88 ?_
  refine lv_iload hx hb dX0_form_91 (lv_at hl 0 rfl) ?_
  refine lv_iload_n hx hb dX0_form_93 rfl (lv_at hl 4 rfl) ?_
  refine gi_ast hx hb hK hP hD hS 2 0 bt rfl rfl (by omega) (by decide) dX0_form_94 (fun H locs hP hD hS => ?_)
  have hP : va_P D vwCl ((xw q cA (k + 1) st (gU sz (4 * k + (fc k)) x) (gU bt (4 * k + (fc k)) y) so fc ofs tg ch ad) ++ wr) H := hP
  have hD : va_D A ((xw q cA (k + 1) st (gU sz (4 * k + (fc k)) x) (gU bt (4 * k + (fc k)) y) so fc ofs tg ch ad) ++ wr) := hD
  refine lv_aload_n hx hb dX0_form_95 rfl (lv_at hl 2 rfl) ?_
  refine va_get (D := D) (ci := 0) (v := .ref (q 3)) (C := RX0) (T := TX0) (N := 10) hx hb hts hin hown hK hP 0 rfl rfl 2 (by decide) hf16 (fun _ h9 => h9) rfl dX0_form_96 ?_
  refine lv_iload hx hb dX0_form_99 (lv_at hl 0 rfl) ?_
  refine lv_iload_n hx hb dX0_form_101 rfl (lv_at hl 5 rfl) ?_
  refine gi_ast hx hb hK hP hD hS 3 0 so rfl rfl (by omega) (by decide) dX0_form_102 (fun H locs hP hD hS => ?_)
  have hP : va_P D vwCl ((xw q cA (k + 1) st (gU sz (4 * k + (fc k)) x) (gU bt (4 * k + (fc k)) y) (gU so (4 * k + (fc k)) z) fc ofs tg ch ad) ++ wr) H := hP
  have hD : va_D A ((xw q cA (k + 1) st (gU sz (4 * k + (fc k)) x) (gU bt (4 * k + (fc k)) y) (gU so (4 * k + (fc k)) z) fc ofs tg ch ad) ++ wr) := hD
  refine lv_aload_n hx hb dX0_form_103 rfl (lv_at hl 2 rfl) ?_
  refine va_get (D := D) (ci := 0) (v := .ref (q 4)) (C := RX0) (T := TX0) (N := 10) hx hb hts hin hown hK hP 0 rfl rfl 3 (by decide) hf19 (fun _ h9 => h9) rfl dX0_form_104 ?_
  refine lv_iload hx hb dX0_form_107 (lv_at hl 1 rfl) ?_
  refine lv_dup2_11 hx hb dX0_form_109 rfl rfl ?_
  refine gi_ald hx hb hK hP 4 0 fc rfl rfl (by omega) (by decide) dX0_form_110 ?_
  refine lv_iconst (v := nI (1)) hx hb dX0_form_111 (by decide) ?_
  refine gi_iadd hx hb (fc k + 1) rfl dX0_form_112 ?_
  refine gi_ast hx hb hK hP hD hS 4 0 fc rfl rfl (by omega) (by decide) dX0_form_113 (fun H locs hP hD hS => ?_)
  have hP : va_P D vwCl ((xw q cA (k + 1) st (gU sz (4 * k + (fc k)) x) (gU bt (4 * k + (fc k)) y) (gU so (4 * k + (fc k)) z) (gU fc k (fc k + 1)) ofs tg ch ad) ++ wr) H := hP
  have hD : va_D A ((xw q cA (k + 1) st (gU sz (4 * k + (fc k)) x) (gU bt (4 * k + (fc k)) y) (gU so (4 * k + (fc k)) z) (gU fc k (fc k + 1)) ofs tg ch ad) ++ wr) := hD
  refine lv_aload_n hx hb dX0_form_114 rfl (lv_at hl 2 rfl) ?_
  refine lv_iconst (v := nI (0)) hx hb dX0_form_115 (by decide) ?_
  refine va_put (D := D) (ci := 0) (v := .int (bI (false))) (ty := .boolean) (C := RX0) (T := TX0) (N := 10) hx hb hts hin tyX0 tyX0_ok nmX0 hown hK hP hD hS 0 rfl rfl 9 (by decide) hf38 (fun _ h9 => h9) rfl (by decide +kernel) (bI_nar _) (bI_fits _) (Nat.le_of_ble_eq_true rfl) dX0_form_116 (fun H locs hP hD hS => ?_)
  have hP : va_P D vwCl ((xw q cA (k + 1) false (gU sz (4 * k + (fc k)) x) (gU bt (4 * k + (fc k)) y) (gU so (4 * k + (fc k)) z) (gU fc k (fc k + 1)) ofs tg ch ad) ++ wr) H := hP
  have hD : va_D A ((xw q cA (k + 1) false (gU sz (4 * k + (fc k)) x) (gU bt (4 * k + (fc k)) y) (gU so (4 * k + (fc k)) z) (gU fc k (fc k + 1)) ofs tg ch ad) ++ wr) := hD
  refine lv_aload_n hx hb dX0_form_119 rfl (lv_at hl 2 rfl) ?_
  refine va_get (D := D) (ci := 0) (v := .ref (q 4)) (C := RX0) (T := TX0) (N := 10) hx hb hts hin hown hK hP 0 rfl rfl 3 (by decide) hf19 (fun _ h9 => h9) rfl dX0_form_120 ?_
  refine lv_iload hx hb dX0_form_123 (lv_at hl 1 rfl) ?_
  refine gi_ald hx hb hK hP 4 0 (gU fc k (fc k + 1)) rfl rfl (by omega) (by decide) dX0_form_125 ?_
  exact gi_iret hx hb hlk hr dX0_form_126 (congrArg nI (gU_at _ _ _)) hP hS
set_option maxHeartbeats 4000000 in
set_option maxRecDepth 100000 in
theorem ok_X0_aim (l : Launch) (D : va_G) (cA cB cL : ClassId) (A : Nat → Prop) (wr : va_W) (q : Nat → Nat) (n : Nat) (st : Bool) (sz bt so fc : Nat → Nat) (ofs : Nat → Int32) (tg : Nat → Nat) (ch : Nat → Int32) (ad : Nat → Nat) (i t : Nat) (o : Int32) (hn : n ≤ 120) (hi : i < n) (ht : t ≤ n) : Met l yX0_aim wsX0_aim ({ frames := 1, cells := 0, slots := 0, locals := 21 }) (gPre D vwCl [(cA, .int), (cB, .boolean), (cL, .long)] ((xw q cA n st sz bt so fc ofs tg ch ad) ++ wr) A [.ref (q 0), .int (nI (i)), .int (nI (t)), .int (o)]) (gPost none D vwCl ((xw q cA n false sz bt so fc (upd ofs i o) (gU tg i t) ch ad) ++ wr) A) 0 0 A := by
  refine Met.ofW (cc := cX0_aim) (maxL := 4) (ret := none) (by decide) rfl ?_
  intro p e s m args below meth c s₁ B hml hv
  obtain ⟨rfl, hP, hK, hD⟩ := hv
  have hx := B.exec
  have hb := B.bytes
  have hr := B.returns
  have hlk := B.notSynchronized
  have hts := atoms_spec (ws := wsX0_aim) B.pre
  have hown : s.vm.findClass RX0 = some m.cls := findClass_of_methodNamed B.named
  have hS : va_S A s.heap s.heap [] := va_S.rf
  have hl := lv_entry ([.ref (q 0), .int (nI (i)), .int (nI (t)), .int (o)]) (n := 4) (Nat.le_of_ble_eq_true rfl)
  rw [lg_entry_eq]
  generalize (lg_sl ([.ref (q 0), .int (nI (i)), .int (nI (t)), .int (o)]) ++ List.replicate (4 - (lg_sl ([.ref (q 0), .int (nI (i)), .int (nI (t)), .int (o)])).length) Slot.unset).toArray = ls at hl ⊢
  have hl : lv_has ls 4 [(0, .ref (q 0)), (1, .int (nI (i))), (2, .int (nI (t))), (3, .int (o))] := hl
  have hin : ∀ w ∈ u_ws RX0 TX0 10, w ∈ wsX0_aim := fun w h => List.mem_cons_of_mem _ (inTX0 w h)
  have hf22 := hts _ (List.mem_cons_of_mem _ tfX0_22)
  have hf25 := hts _ (List.mem_cons_of_mem _ tfX0_25)
  have hf38 := hts _ (List.mem_cons_of_mem _ tfX0_38)
  refine lv_aload_n hx hb dX0_aim_0 rfl (lv_at hl 0 rfl) ?_
  refine lv_iload_n hx hb dX0_aim_1 rfl (lv_at hl 1 rfl) ?_
  refine gi_goV (va_runV (As := [.int (nI (i))]) (rest := []) ⟨hx, hb, hml, hown, hts⟩ (c_X0_isLine l D cA cB cL A wr q n st sz bt so fc ofs tg ch ad (nI i)) (cwV 1 hts gX0_aim_X0_isLine rfl rfl rfl (by decide +kernel) ⟨Nat.le_of_ble_eq_true rfl, Nat.le_of_ble_eq_true rfl⟩) (gi_preV (q0 := 0) hK hP hD rfl rfl rfl) rfl rfl hl.1 rfl (lv_room (Nat.le_of_ble_eq_true rfl)) dX0_aim_2 ⟨Nat.le_of_ble_eq_true rfl, Nat.le_of_ble_eq_true rfl⟩) hS (fun H locs hP hS => ?_)
  refine gi_if_eqb (tgt := 16) hx hb dX0_aim_5 rfl (fun h9 => absurd h9 (gf_ne_ft (gf_isl_t hi (by omega)))) (fun h5 => ?_)
  refine lv_aload_n hx hb dX0_aim_8 rfl (lv_at hl 0 rfl) ?_
  refine lv_iload_n hx hb dX0_aim_9 rfl (lv_at hl 2 rfl) ?_
  refine gi_goV (va_runV (As := [.int (nI (t))]) (rest := []) ⟨hx, hb, hml, hown, hts⟩ (c_X0_isLineOrEnd l D cA cB cL A wr q n st sz bt so fc ofs tg ch ad (nI t)) (cwV 1 hts gX0_aim_X0_isLineOrEnd rfl rfl rfl (by decide +kernel) ⟨Nat.le_of_ble_eq_true rfl, Nat.le_of_ble_eq_true rfl⟩) (gi_preV (q0 := 0) hK hP hD rfl rfl rfl) rfl rfl hl.1 rfl (lv_room (Nat.le_of_ble_eq_true rfl)) dX0_aim_10 ⟨Nat.le_of_ble_eq_true rfl, Nat.le_of_ble_eq_true rfl⟩) hS (fun H locs hP hS => ?_)
  refine gi_if_neb (tgt := 26) hx hb dX0_aim_13 rfl (fun h13 => ?_) (fun h9 => absurd h9 (gf_ne_ft (gf_ile_t ht (by omega))))
  refine lv_aload_n hx hb dX0_aim_26 rfl (lv_at hl 0 rfl) ?_
  refine va_get (D := D) (ci := 0) (v := .ref (q 6)) (C := RX0) (T := TX0) (N := 10) hx hb hts hin hown hK hP 0 rfl rfl 5 (by decide) hf25 (fun _ h9 => h9) rfl dX0_aim_27 ?_
  refine lv_iload_n hx hb dX0_aim_30 rfl (lv_at hl 1 rfl) ?_
  refine lv_iload_n hx hb dX0_aim_31 rfl (lv_at hl 2 rfl) ?_
  refine gi_ast hx hb hK hP hD hS 6 0 tg rfl rfl (by omega) (by decide) dX0_aim_32 (fun H locs hP hD hS => ?_)
  have hP : va_P D vwCl ((xw q cA n st sz bt so fc ofs (gU tg i t) ch ad) ++ wr) H := hP
  have hD : va_D A ((xw q cA n st sz bt so fc ofs (gU tg i t) ch ad) ++ wr) := hD
  refine lv_aload_n hx hb dX0_aim_33 rfl (lv_at hl 0 rfl) ?_
  refine va_get (D := D) (ci := 0) (v := .ref (q 5)) (C := RX0) (T := TX0) (N := 10) hx hb hts hin hown hK hP 0 rfl rfl 4 (by decide) hf22 (fun _ h9 => h9) rfl dX0_aim_34 ?_
  refine lv_iload_n hx hb dX0_aim_37 rfl (lv_at hl 1 rfl) ?_
  refine lv_iload_n hx hb dX0_aim_38 rfl (lv_at hl 3 rfl) ?_
  refine gi_astI hx hb hK hP hD hS 5 0 ofs rfl rfl (by omega) (by decide) dX0_aim_39 (fun H locs hP hD hS => ?_)
  have hP : va_P D vwCl ((xw q cA n st sz bt so fc (upd ofs i ((o))) (gU tg i t) ch ad) ++ wr) H := hP
  have hD : va_D A ((xw q cA n st sz bt so fc (upd ofs i ((o))) (gU tg i t) ch ad) ++ wr) := hD
  refine lv_aload_n hx hb dX0_aim_40 rfl (lv_at hl 0 rfl) ?_
  refine lv_iconst (v := nI (0)) hx hb dX0_aim_41 (by decide) ?_
  refine va_put (D := D) (ci := 0) (v := .int (bI (false))) (ty := .boolean) (C := RX0) (T := TX0) (N := 10) hx hb hts hin tyX0 tyX0_ok nmX0 hown hK hP hD hS 0 rfl rfl 9 (by decide) hf38 (fun _ h9 => h9) rfl (by decide +kernel) (bI_nar _) (bI_fits _) (Nat.le_of_ble_eq_true rfl) dX0_aim_42 (fun H locs hP hD hS => ?_)
  have hP : va_P D vwCl ((xw q cA n false sz bt so fc (upd ofs i ((o))) (gU tg i t) ch ad) ++ wr) H := hP
  have hD : va_D A ((xw q cA n false sz bt so fc (upd ofs i ((o))) (gU tg i t) ch ad) ++ wr) := hD
  exact gi_vret hx hb hlk hr dX0_aim_45 hP hS
set_option maxHeartbeats 4000000 in
set_option maxRecDepth 100000 in
theorem ok0_X0_told (l : Launch) (D : va_G) (cA cB cL : ClassId) (A : Nat → Prop) (wr : va_W) (q : Nat → Nat) (n : Nat) (sz bt so fc : Nat → Nat) (ofs : Nat → Int32) (tg : Nat → Nat) (ch : Nat → Int32) (ad : Nat → Nat) (j : Nat) (hn : n ≤ 120) (hj : j ≤ n) : Met l yX0_told wsX0_told ({ frames := 4, cells := 0, slots := 0, locals := 91 }) (gPre D vwCl [(cA, .int), (cB, .boolean), (cL, .long)] ((xw q cA n true sz bt so fc ofs tg ch ad) ++ wr) A [.ref (q 0), .int (nI (j)), .int (nI (0))]) (gPost (some (.int (nI (ad j)))) D vwCl ((xw q cA n true sz bt so fc ofs tg ch ad) ++ wr) A) 0 0 A := by
  refine Met.ofW (cc := cX0_told) (maxL := 3) (ret := (some .int)) (by decide) rfl ?_
  intro p e s m args below meth c s₁ B hml hv
  obtain ⟨rfl, hP, hK, hD⟩ := hv
  have hx := B.exec
  have hb := B.bytes
  have hr := B.returns
  have hlk := B.notSynchronized
  have hts := atoms_spec (ws := wsX0_told) B.pre
  have hown : s.vm.findClass RX0 = some m.cls := findClass_of_methodNamed B.named
  have hS : va_S A s.heap s.heap [] := va_S.rf
  have hl := lv_entry ([.ref (q 0), .int (nI (j)), .int (nI (0))]) (n := 3) (Nat.le_of_ble_eq_true rfl)
  rw [lg_entry_eq]
  generalize (lg_sl ([.ref (q 0), .int (nI (j)), .int (nI (0))]) ++ List.replicate (3 - (lg_sl ([.ref (q 0), .int (nI (j)), .int (nI (0))])).length) Slot.unset).toArray = ls at hl ⊢
  have hl : lv_has ls 3 [(0, .ref (q 0)), (1, .int (nI (j))), (2, .int (nI (0)))] := hl
  have hin : ∀ w ∈ u_ws RX0 TX0 10, w ∈ wsX0_told := fun w h => List.mem_cons_of_mem _ (inTX0 w h)
  have hf28 := hts _ (List.mem_cons_of_mem _ tfX0_28)
  have hf31 := hts _ (List.mem_cons_of_mem _ tfX0_31)
  have hf38 := hts _ (List.mem_cons_of_mem _ tfX0_38)
  refine lv_iload_n hx hb dX0_told_0 rfl (lv_at hl 2 rfl) ?_
  refine gi_if_eq (tgt := 24) hx hb (by omega) dX0_told_1 rfl (fun h1 => ?_) (fun h9 => absurd h9 (by omega))
  refine lv_aload_n hx hb dX0_told_24 rfl (lv_at hl 0 rfl) ?_
  refine va_get (D := D) (ci := 0) (v := .int (bI (true))) (C := RX0) (T := TX0) (N := 10) hx hb hts hin hown hK hP 0 rfl rfl 9 (by decide) hf38 (fun _ h9 => h9) rfl dX0_told_25 ?_
  refine gi_if_neb (tgt := 41) hx hb dX0_told_28 rfl (fun h28 => ?_) (fun h9 => absurd h9 (by decide))
  refine lv_aload_n hx hb dX0_told_41 rfl (lv_at hl 0 rfl) ?_
  refine lv_iload_n hx hb dX0_told_42 rfl (lv_at hl 1 rfl) ?_
  refine gi_goV (va_runV (As := [.int (nI (j))]) (rest := []) ⟨hx, hb, hml, hown, hts⟩ (c_X0_isLine l D cA cB cL A wr q n true sz bt so fc ofs tg ch ad (nI j)) (cwV 1 hts gX0_told_X0_isLine rfl rfl rfl (by decide +kernel) ⟨Nat.le_of_ble_eq_true rfl, Nat.le_of_ble_eq_true rfl⟩) (gi_preV (q0 := 0) hK hP hD rfl rfl rfl) rfl rfl hl.1 rfl (lv_room (Nat.le_of_ble_eq_true rfl)) dX0_told_43 ⟨Nat.le_of_ble_eq_true rfl, Nat.le_of_ble_eq_true rfl⟩) hS (fun H locs hP hS => ?_)
  refine gi_if_neb (tgt := 71) hx hb dX0_told_46 rfl (fun h46 => ?_) (fun h46 => ?_)
  · refine lv_iload_n hx hb dX0_told_71 rfl (lv_at hl 2 rfl) ?_
    refine gi_if_ne (tgt := 82) hx hb (by omega) dX0_told_72 rfl (fun h9 => absurd h9 (by omega)) (fun h72 => ?_)
    refine lv_aload_n hx hb dX0_told_75 rfl (lv_at hl 0 rfl) ?_
    refine va_get (D := D) (ci := 0) (v := .ref (q 8)) (C := RX0) (T := TX0) (N := 10) hx hb hts hin hown hK hP 0 rfl rfl 7 (by decide) hf31 (fun _ h9 => h9) rfl dX0_told_76 ?_
    refine lv_iload_n hx hb dX0_told_79 rfl (lv_at hl 1 rfl) ?_
    refine gi_ald hx hb hK hP 8 0 ad rfl rfl (by omega) (by decide) dX0_told_80 ?_
    exact gi_iret hx hb hlk hr dX0_told_81 (rfl) hP hS
  · refine lv_iload_n hx hb dX0_told_49 rfl (lv_at hl 2 rfl) ?_
    refine gi_if_ne (tgt := 61) hx hb (by omega) dX0_told_50 rfl (fun h9 => absurd h9 (by omega)) (fun h50 => ?_)
    refine lv_aload_n hx hb dX0_told_53 rfl (lv_at hl 0 rfl) ?_
    refine lv_iload_n hx hb dX0_told_54 rfl (lv_at hl 1 rfl) ?_
    refine gi_goV (va_runV (As := [.int (nI (j))]) (rest := []) ⟨hx, hb, hml, hown, hts⟩ (c_X0_isLineOrEnd l D cA cB cL A wr q n true sz bt so fc ofs tg ch ad (nI j)) (cwV 1 hts gX0_told_X0_isLineOrEnd rfl rfl rfl (by decide +kernel) ⟨Nat.le_of_ble_eq_true rfl, Nat.le_of_ble_eq_true rfl⟩) (gi_preV (q0 := 0) hK hP hD rfl rfl rfl) rfl rfl hl.1 rfl (lv_room (Nat.le_of_ble_eq_true rfl)) dX0_told_55 ⟨Nat.le_of_ble_eq_true rfl, Nat.le_of_ble_eq_true rfl⟩) hS (fun H locs hP hS => ?_)
    refine gi_if_neb (tgt := 71) hx hb dX0_told_58 rfl (fun h58 => ?_) (fun h9 => absurd h9 (gf_ne_ft (gf_ile_t hj (by omega))))
    refine lv_iload_n hx hb dX0_told_71 rfl (lv_at hl 2 rfl) ?_
    refine gi_if_ne (tgt := 82) hx hb (by omega) dX0_told_72 rfl (fun h9 => absurd h9 (by omega)) (fun h72 => ?_)
    refine lv_aload_n hx hb dX0_told_75 rfl (lv_at hl 0 rfl) ?_
    refine va_get (D := D) (ci := 0) (v := .ref (q 8)) (C := RX0) (T := TX0) (N := 10) hx hb hts hin hown hK hP 0 rfl rfl 7 (by decide) hf31 (fun _ h9 => h9) rfl dX0_told_76 ?_
    refine lv_iload_n hx hb dX0_told_79 rfl (lv_at hl 1 rfl) ?_
    refine gi_ald hx hb hK hP 8 0 ad rfl rfl (by omega) (by decide) dX0_told_80 ?_
    exact gi_iret hx hb hlk hr dX0_told_81 (rfl) hP hS
set_option maxHeartbeats 4000000 in
set_option maxRecDepth 100000 in
theorem ok1_X0_told (l : Launch) (D : va_G) (cA cB cL : ClassId) (A : Nat → Prop) (wr : va_W) (q : Nat → Nat) (n : Nat) (sz bt so fc : Nat → Nat) (ofs : Nat → Int32) (tg : Nat → Nat) (ch : Nat → Int32) (ad : Nat → Nat) (j : Nat) (hn : n ≤ 120) (hj : j < n) : Met l yX0_told wsX0_told ({ frames := 4, cells := 0, slots := 0, locals := 91 }) (gPre D vwCl [(cA, .int), (cB, .boolean), (cL, .long)] ((xw q cA n true sz bt so fc ofs tg ch ad) ++ wr) A [.ref (q 0), .int (nI (j)), .int (nI (1))]) (gPost (some (.int (ch j))) D vwCl ((xw q cA n true sz bt so fc ofs tg ch ad) ++ wr) A) 0 0 A := by
  refine Met.ofW (cc := cX0_told) (maxL := 3) (ret := (some .int)) (by decide) rfl ?_
  intro p e s m args below meth c s₁ B hml hv
  obtain ⟨rfl, hP, hK, hD⟩ := hv
  have hx := B.exec
  have hb := B.bytes
  have hr := B.returns
  have hlk := B.notSynchronized
  have hts := atoms_spec (ws := wsX0_told) B.pre
  have hown : s.vm.findClass RX0 = some m.cls := findClass_of_methodNamed B.named
  have hS : va_S A s.heap s.heap [] := va_S.rf
  have hl := lv_entry ([.ref (q 0), .int (nI (j)), .int (nI (1))]) (n := 3) (Nat.le_of_ble_eq_true rfl)
  rw [lg_entry_eq]
  generalize (lg_sl ([.ref (q 0), .int (nI (j)), .int (nI (1))]) ++ List.replicate (3 - (lg_sl ([.ref (q 0), .int (nI (j)), .int (nI (1))])).length) Slot.unset).toArray = ls at hl ⊢
  have hl : lv_has ls 3 [(0, .ref (q 0)), (1, .int (nI (j))), (2, .int (nI (1)))] := hl
  have hin : ∀ w ∈ u_ws RX0 TX0 10, w ∈ wsX0_told := fun w h => List.mem_cons_of_mem _ (inTX0 w h)
  have hf28 := hts _ (List.mem_cons_of_mem _ tfX0_28)
  have hf31 := hts _ (List.mem_cons_of_mem _ tfX0_31)
  have hf38 := hts _ (List.mem_cons_of_mem _ tfX0_38)
  refine lv_iload_n hx hb dX0_told_0 rfl (lv_at hl 2 rfl) ?_
  refine gi_if_eq (tgt := 24) hx hb (by omega) dX0_told_1 rfl (fun h9 => absurd h9 (by omega)) (fun h1 => ?_)
  refine lv_iload_n hx hb dX0_told_4 rfl (lv_at hl 2 rfl) ?_
  refine lv_iconst (v := nI (1)) hx hb dX0_told_5 (by decide) ?_
  refine gi_icmp_eq (tgt := 24) hx hb (by omega) (by omega) dX0_told_6 rfl (fun h6 => ?_) (fun h9 => absurd h9 (by omega))
  refine lv_aload_n hx hb dX0_told_24 rfl (lv_at hl 0 rfl) ?_
  refine va_get (D := D) (ci := 0) (v := .int (bI (true))) (C := RX0) (T := TX0) (N := 10) hx hb hts hin hown hK hP 0 rfl rfl 9 (by decide) hf38 (fun _ h9 => h9) rfl dX0_told_25 ?_
  refine gi_if_neb (tgt := 41) hx hb dX0_told_28 rfl (fun h28 => ?_) (fun h9 => absurd h9 (by decide))
  refine lv_aload_n hx hb dX0_told_41 rfl (lv_at hl 0 rfl) ?_
  refine lv_iload_n hx hb dX0_told_42 rfl (lv_at hl 1 rfl) ?_
  refine gi_goV (va_runV (As := [.int (nI (j))]) (rest := []) ⟨hx, hb, hml, hown, hts⟩ (c_X0_isLine l D cA cB cL A wr q n true sz bt so fc ofs tg ch ad (nI j)) (cwV 1 hts gX0_told_X0_isLine rfl rfl rfl (by decide +kernel) ⟨Nat.le_of_ble_eq_true rfl, Nat.le_of_ble_eq_true rfl⟩) (gi_preV (q0 := 0) hK hP hD rfl rfl rfl) rfl rfl hl.1 rfl (lv_room (Nat.le_of_ble_eq_true rfl)) dX0_told_43 ⟨Nat.le_of_ble_eq_true rfl, Nat.le_of_ble_eq_true rfl⟩) hS (fun H locs hP hS => ?_)
  refine gi_if_neb (tgt := 71) hx hb dX0_told_46 rfl (fun h46 => ?_) (fun h9 => absurd h9 (gf_ne_ft (gf_isl_t hj (by omega))))
  refine lv_iload_n hx hb dX0_told_71 rfl (lv_at hl 2 rfl) ?_
  refine gi_if_ne (tgt := 82) hx hb (by omega) dX0_told_72 rfl (fun h72 => ?_) (fun h9 => absurd h9 (by omega))
  refine lv_iload_n hx hb dX0_told_82 rfl (lv_at hl 2 rfl) ?_
  refine lv_iconst (v := nI (1)) hx hb dX0_told_83 (by decide) ?_
  refine gi_icmp_ne (tgt := 94) hx hb (by omega) (by omega) dX0_told_84 rfl (fun h9 => absurd h9 (by omega)) (fun h84 => ?_)
  refine lv_aload_n hx hb dX0_told_87 rfl (lv_at hl 0 rfl) ?_
  refine va_get (D := D) (ci := 0) (v := .ref (q 7)) (C := RX0) (T := TX0) (N := 10) hx hb hts hin hown hK hP 0 rfl rfl 6 (by decide) hf28 (fun _ h9 => h9) rfl dX0_told_88 ?_
  refine lv_iload_n hx hb dX0_told_91 rfl (lv_at hl 1 rfl) ?_
  refine gi_aldI hx hb hK hP 7 0 ch rfl rfl (by omega) (by decide) dX0_told_92 ?_
  exact gi_iret hx hb hlk hr dX0_told_93 (rfl) hP hS
set_option maxHeartbeats 4000000 in
set_option maxRecDepth 100000 in
theorem ok2_X0_told (l : Launch) (D : va_G) (cA cB cL : ClassId) (A : Nat → Prop) (wr : va_W) (q : Nat → Nat) (n : Nat) (sz bt so fc : Nat → Nat) (ofs : Nat → Int32) (tg : Nat → Nat) (ch : Nat → Int32) (ad : Nat → Nat) (nw : Nat → Nat) (i : Nat) (hw : gf_wf n fc sz bt so tg) (hk : gf_nk n fc nw) (hi : i < n) (hch : ch i = gf_c fc nw i) (had : ∀ j, j ≤ n → ad j = gf_ad fc sz nw j) : Met l yX0_told wsX0_told ({ frames := 4, cells := 0, slots := 0, locals := 91 }) (gPre D vwCl [(cA, .int), (cB, .boolean), (cL, .long)] ((xw q cA n true sz bt so fc ofs tg ch ad) ++ wr) A [.ref (q 0), .int (nI (i)), .int (nI (2))]) (gPost (some (.int (bI (gf_fit fc sz bt so tg ofs nw i)))) D vwCl ((xw q cA n true sz bt so fc ofs tg ch ad) ++ wr) A) 0 0 A := by
  refine Met.ofW (cc := cX0_told) (maxL := 3) (ret := (some .int)) (by decide) rfl ?_
  intro p e s m args below meth c s₁ B hml hv
  obtain ⟨rfl, hP, hK, hD⟩ := hv
  have hx := B.exec
  have hb := B.bytes
  have hr := B.returns
  have hlk := B.notSynchronized
  have hts := atoms_spec (ws := wsX0_told) B.pre
  have hown : s.vm.findClass RX0 = some m.cls := findClass_of_methodNamed B.named
  have hS : va_S A s.heap s.heap [] := va_S.rf
  have hl := lv_entry ([.ref (q 0), .int (nI (i)), .int (nI (2))]) (n := 3) (Nat.le_of_ble_eq_true rfl)
  rw [lg_entry_eq]
  generalize (lg_sl ([.ref (q 0), .int (nI (i)), .int (nI (2))]) ++ List.replicate (3 - (lg_sl ([.ref (q 0), .int (nI (i)), .int (nI (2))])).length) Slot.unset).toArray = ls at hl ⊢
  have hl : lv_has ls 3 [(0, .ref (q 0)), (1, .int (nI (i))), (2, .int (nI (2)))] := hl
  have hin : ∀ w ∈ u_ws RX0 TX0 10, w ∈ wsX0_told := fun w h => List.mem_cons_of_mem _ (inTX0 w h)
  have hf28 := hts _ (List.mem_cons_of_mem _ tfX0_28)
  have hf31 := hts _ (List.mem_cons_of_mem _ tfX0_31)
  have hf38 := hts _ (List.mem_cons_of_mem _ tfX0_38)
  have hn := hw.1
  refine lv_iload_n hx hb dX0_told_0 rfl (lv_at hl 2 rfl) ?_
  refine gi_if_eq (tgt := 24) hx hb (by omega) dX0_told_1 rfl (fun h9 => absurd h9 (by omega)) (fun h1 => ?_)
  refine lv_iload_n hx hb dX0_told_4 rfl (lv_at hl 2 rfl) ?_
  refine lv_iconst (v := nI (1)) hx hb dX0_told_5 (by decide) ?_
  refine gi_icmp_eq (tgt := 24) hx hb (by omega) (by omega) dX0_told_6 rfl (fun h9 => absurd h9 (by omega)) (fun h6 => ?_)
  refine lv_iload_n hx hb dX0_told_9 rfl (lv_at hl 2 rfl) ?_
  refine lv_iconst (v := nI (2)) hx hb dX0_told_10 (by decide) ?_
  refine gi_icmp_eq (tgt := 24) hx hb (by omega) (by omega) dX0_told_11 rfl (fun h11 => ?_) (fun h9 => absurd h9 (by omega))
  refine lv_aload_n hx hb dX0_told_24 rfl (lv_at hl 0 rfl) ?_
  refine va_get (D := D) (ci := 0) (v := .int (bI (true))) (C := RX0) (T := TX0) (N := 10) hx hb hts hin hown hK hP 0 rfl rfl 9 (by decide) hf38 (fun _ h9 => h9) rfl dX0_told_25 ?_
  refine gi_if_neb (tgt := 41) hx hb dX0_told_28 rfl (fun h28 => ?_) (fun h9 => absurd h9 (by decide))
  refine lv_aload_n hx hb dX0_told_41 rfl (lv_at hl 0 rfl) ?_
  refine lv_iload_n hx hb dX0_told_42 rfl (lv_at hl 1 rfl) ?_
  refine gi_goV (va_runV (As := [.int (nI (i))]) (rest := []) ⟨hx, hb, hml, hown, hts⟩ (c_X0_isLine l D cA cB cL A wr q n true sz bt so fc ofs tg ch ad (nI i)) (cwV 1 hts gX0_told_X0_isLine rfl rfl rfl (by decide +kernel) ⟨Nat.le_of_ble_eq_true rfl, Nat.le_of_ble_eq_true rfl⟩) (gi_preV (q0 := 0) hK hP hD rfl rfl rfl) rfl rfl hl.1 rfl (lv_room (Nat.le_of_ble_eq_true rfl)) dX0_told_43 ⟨Nat.le_of_ble_eq_true rfl, Nat.le_of_ble_eq_true rfl⟩) hS (fun H locs hP hS => ?_)
  refine gi_if_neb (tgt := 71) hx hb dX0_told_46 rfl (fun h46 => ?_) (fun h9 => absurd h9 (gf_ne_ft (gf_isl_t hi (by omega))))
  refine lv_iload_n hx hb dX0_told_71 rfl (lv_at hl 2 rfl) ?_
  refine gi_if_ne (tgt := 82) hx hb (by omega) dX0_told_72 rfl (fun h72 => ?_) (fun h9 => absurd h9 (by omega))
  refine lv_iload_n hx hb dX0_told_82 rfl (lv_at hl 2 rfl) ?_
  refine lv_iconst (v := nI (1)) hx hb dX0_told_83 (by decide) ?_
  refine gi_icmp_ne (tgt := 94) hx hb (by omega) (by omega) dX0_told_84 rfl (fun h84 => ?_) (fun h9 => absurd h9 (by omega))
  refine lv_aload_n hx hb dX0_told_94 rfl (lv_at hl 0 rfl) ?_
  refine lv_iload_n hx hb dX0_told_95 rfl (lv_at hl 1 rfl) ?_
  refine gi_goV (va_runV (As := [.int (nI (i))]) (rest := []) ⟨hx, hb, hml, hown, hts⟩ (c_X0_isFitting l D cA cB cL A wr q n true sz bt so fc ofs tg ch ad nw i hw hk hi hch had) (cwV 1 hts gX0_told_X0_isFitting rfl rfl rfl (by decide +kernel) ⟨Nat.le_of_ble_eq_true rfl, Nat.le_of_ble_eq_true rfl⟩) (gi_preV (q0 := 0) hK hP hD rfl rfl rfl) rfl rfl hl.1 rfl (lv_room (Nat.le_of_ble_eq_true rfl)) dX0_told_96 ⟨Nat.le_of_ble_eq_true rfl, Nat.le_of_ble_eq_true rfl⟩) hS (fun H locs hP hS => ?_)
  refine gi_if_eqb (tgt := 106) hx hb dX0_told_99 rfl (fun h99 => ?_) (fun h99 => ?_)
  · refine lv_iconst (v := nI (0)) hx hb dX0_told_106 (by decide) ?_
    exact gi_iret hx hb hlk hr dX0_told_107 (bR_f h99) hP hS
  · refine lv_iconst (v := nI (1)) hx hb dX0_told_102 (by decide) ?_
    refine lv_goto (tgt := 107) hx hb dX0_told_103 rfl ?_
    exact gi_iret hx hb hlk hr dX0_told_107 (bR_t h99) hP hS
set_option maxHeartbeats 4000000 in
set_option maxRecDepth 100000 in
theorem ok_X0_value (l : Launch) (D : va_G) (cA cB cL : ClassId) (A : Nat → Prop) (wr : va_W) (q : Nat → Nat) (n : Nat) (sz bt so fc : Nat → Nat) (ofs : Nat → Int32) (tg : Nat → Nat) (ch : Nat → Int32) (ad : Nat → Nat) (nw : Nat → Nat) (i : Nat) (hw : gf_wf n fc sz bt so tg) (hk : gf_nk n fc nw) (hi : i < n) (hch : ch i = gf_c fc nw i) (had : ∀ j, j ≤ n → ad j = gf_ad fc sz nw j) : Met l yX0_value wsX0_value ({ frames := 3, cells := 0, slots := 0, locals := 65 }) (gPre D vwCl [(cA, .int), (cB, .boolean), (cL, .long)] ((xw q cA n true sz bt so fc ofs tg ch ad) ++ wr) A [.ref (q 0), .int (nI (i))]) (gPost (some (.long (gf_va fc sz so tg ofs nw i))) D vwCl ((xw q cA n true sz bt so fc ofs tg ch ad) ++ wr) A) 0 0 A := by
  refine Met.ofW (cc := cX0_value) (maxL := 2) (ret := (some .long)) (by decide) rfl ?_
  intro p e s m args below meth c s₁ B hml hv
  obtain ⟨rfl, hP, hK, hD⟩ := hv
  have hx := B.exec
  have hb := B.bytes
  have hr := B.returns
  have hlk := B.notSynchronized
  have hts := atoms_spec (ws := wsX0_value) B.pre
  have hown : s.vm.findClass RX0 = some m.cls := findClass_of_methodNamed B.named
  have hS : va_S A s.heap s.heap [] := va_S.rf
  have hl := lv_entry ([.ref (q 0), .int (nI (i))]) (n := 2) (Nat.le_of_ble_eq_true rfl)
  rw [lg_entry_eq]
  generalize (lg_sl ([.ref (q 0), .int (nI (i))]) ++ List.replicate (2 - (lg_sl ([.ref (q 0), .int (nI (i))])).length) Slot.unset).toArray = ls at hl ⊢
  have hl : lv_has ls 2 [(0, .ref (q 0)), (1, .int (nI (i)))] := hl
  have hin : ∀ w ∈ u_ws RX0 TX0 10, w ∈ wsX0_value := fun w h => List.mem_cons_of_mem _ (inTX0 w h)
  have hf38 := hts _ (List.mem_cons_of_mem _ tfX0_38)
  have hn := hw.1
  refine lv_aload_n hx hb dX0_value_0 rfl (lv_at hl 0 rfl) ?_
  refine va_get (D := D) (ci := 0) (v := .int (bI (true))) (C := RX0) (T := TX0) (N := 10) hx hb hts hin hown hK hP 0 rfl rfl 9 (by decide) hf38 (fun _ h9 => h9) rfl dX0_value_1 ?_
  refine gi_if_neb (tgt := 17) hx hb dX0_value_4 rfl (fun h4 => ?_) (fun h9 => absurd h9 (by decide))
  refine lv_aload_n hx hb dX0_value_17 rfl (lv_at hl 0 rfl) ?_
  refine lv_iload_n hx hb dX0_value_18 rfl (lv_at hl 1 rfl) ?_
  refine gi_goV (va_runV (As := [.int (nI (i))]) (rest := []) ⟨hx, hb, hml, hown, hts⟩ (c_X0_isLine l D cA cB cL A wr q n true sz bt so fc ofs tg ch ad (nI i)) (cwV 1 hts gX0_value_X0_isLine rfl rfl rfl (by decide +kernel) ⟨Nat.le_of_ble_eq_true rfl, Nat.le_of_ble_eq_true rfl⟩) (gi_preV (q0 := 0) hK hP hD rfl rfl rfl) rfl rfl hl.1 rfl (lv_room (Nat.le_of_ble_eq_true rfl)) dX0_value_19 ⟨Nat.le_of_ble_eq_true rfl, Nat.le_of_ble_eq_true rfl⟩) hS (fun H locs hP hS => ?_)
  refine gi_if_neb (tgt := 35) hx hb dX0_value_22 rfl (fun h22 => ?_) (fun h9 => absurd h9 (gf_ne_ft (gf_isl_t hi (by omega))))
  refine lv_aload_n hx hb dX0_value_35 rfl (lv_at hl 0 rfl) ?_
  refine lv_iload_n hx hb dX0_value_36 rfl (lv_at hl 1 rfl) ?_
  refine gi_goV (va_runV (As := [.int (nI (i))]) (rest := []) ⟨hx, hb, hml, hown, hts⟩ (c_X0_valueOf l D cA cB cL A wr q n true sz bt so fc ofs tg ch ad nw i hw hk hi hch had) (cwV 1 hts gX0_value_X0_valueOf rfl rfl rfl (by decide +kernel) ⟨Nat.le_of_ble_eq_true rfl, Nat.le_of_ble_eq_true rfl⟩) (gi_preV (q0 := 0) hK hP hD rfl rfl rfl) rfl rfl hl.1 rfl (lv_room (Nat.le_of_ble_eq_true rfl)) dX0_value_37 ⟨Nat.le_of_ble_eq_true rfl, Nat.le_of_ble_eq_true rfl⟩) hS (fun H locs hP hS => ?_)
  exact gi_lret hx hb hlk hr dX0_value_40 (rfl) hP hS
set_option maxHeartbeats 4000000 in
set_option maxRecDepth 100000 in
theorem ok_X0_wrong (l : Launch) (D : va_G) (cA cB cL : ClassId) (A : Nat → Prop) (wr : va_W) (q : Nat → Nat) (n : Nat) (sz bt so fc : Nat → Nat) (ofs : Nat → Int32) (tg : Nat → Nat) (ch : Nat → Int32) (ad : Nat → Nat) (nw : Nat → Nat) (hw : gf_wf n fc sz bt so tg) (hk : gf_nk n fc nw) (hch : ∀ i, i < n → ch i = gf_c fc nw i) (had : ∀ j, j ≤ n → ad j = gf_ad fc sz nw j) : Met l yX0_wrong wsX0_wrong ({ frames := 5, cells := 0, slots := 0, locals := 112 }) (gPre D vwCl [(cA, .int), (cB, .boolean), (cL, .long)] ((xw q cA n true sz bt so fc ofs tg ch ad) ++ wr) A [.ref (q 0)]) (gPost (some (.int (gf_lu (gf_fit fc sz bt so tg ofs nw) n 0))) D vwCl ((xw q cA n true sz bt so fc ofs tg ch ad) ++ wr) A) 0 0 A := by
  refine Met.ofW (cc := cX0_wrong) (maxL := 1) (ret := (some .int)) (by decide) rfl ?_
  intro p e s m args below meth c s₁ B hml hv
  obtain ⟨rfl, hP, hK, hD⟩ := hv
  have hx := B.exec
  have hb := B.bytes
  have hr := B.returns
  have hlk := B.notSynchronized
  have hts := atoms_spec (ws := wsX0_wrong) B.pre
  have hown : s.vm.findClass RX0 = some m.cls := findClass_of_methodNamed B.named
  have hS : va_S A s.heap s.heap [] := va_S.rf
  have hl := lv_entry ([.ref (q 0)]) (n := 1) (Nat.le_of_ble_eq_true rfl)
  rw [lg_entry_eq]
  generalize (lg_sl ([.ref (q 0)]) ++ List.replicate (1 - (lg_sl ([.ref (q 0)])).length) Slot.unset).toArray = ls at hl ⊢
  have hl : lv_has ls 1 [(0, .ref (q 0))] := hl
  have hin : ∀ w ∈ u_ws RX0 TX0 10, w ∈ wsX0_wrong := fun w h => List.mem_cons_of_mem _ (inTX0 w h)
  have hf38 := hts _ (List.mem_cons_of_mem _ tfX0_38)
  refine lv_aload_n hx hb dX0_wrong_0 rfl (lv_at hl 0 rfl) ?_
  refine va_get (D := D) (ci := 0) (v := .int (bI (true))) (C := RX0) (T := TX0) (N := 10) hx hb hts hin hown hK hP 0 rfl rfl 9 (by decide) hf38 (fun _ h9 => h9) rfl dX0_wrong_1 ?_
  refine gi_if_neb (tgt := 17) hx hb dX0_wrong_4 rfl (fun h4 => ?_) (fun h9 => absurd h9 (by decide))
  refine lv_aload_n hx hb dX0_wrong_17 rfl (lv_at hl 0 rfl) ?_
  refine gi_goV (va_runV (As := []) (rest := []) ⟨hx, hb, hml, hown, hts⟩ (c_X0_leastUnfit l D cA cB cL A wr q n true sz bt so fc ofs tg ch ad nw hw hk hch had) (cwV 0 hts gX0_wrong_X0_leastUnfit rfl rfl rfl (by decide +kernel) ⟨Nat.le_of_ble_eq_true rfl, Nat.le_of_ble_eq_true rfl⟩) (gi_preV (q0 := 0) hK hP hD rfl rfl rfl) rfl rfl hl.1 rfl (lv_room (Nat.le_of_ble_eq_true rfl)) dX0_wrong_18 ⟨Nat.le_of_ble_eq_true rfl, Nat.le_of_ble_eq_true rfl⟩) hS (fun H locs hP hS => ?_)
  exact gi_iret hx hb hlk hr dX0_wrong_21 (rfl) hP hS
