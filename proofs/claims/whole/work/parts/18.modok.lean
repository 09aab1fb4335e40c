set_option maxHeartbeats 4000000 in
set_option maxRecDepth 100000 in
theorem ok_X1_line (l : Launch) (D : va_G) (cA cB cL : ClassId) (A : Nat → Prop) (wr : va_W) (q : Nat → Nat) (n th : Nat) (st : Bool) (sz bt so fc : Nat → Nat) (ofs : Nat → Int32) (tg nw : Nat → Nat) (gr : Nat → Int32) (hn : n < 120) : Met l yX1_line wsX1_line ({ frames := 0, cells := 0, slots := 0, locals := 0 }) (gPre D vwCl [(cA, .int), (cB, .boolean), (cL, .long)] ((mw q cA cB n th st sz bt so fc ofs tg nw gr) ++ wr) A [.ref (q 0)]) (gPost (some (.int (nI (n)))) D vwCl ((mw q cA cB (n + 1) 0 false sz bt so (gU fc n 0) (upd ofs n (nI (0))) (gU tg n 0) nw gr) ++ wr) A) 0 0 A := by
  refine Met.ofW (cc := cX1_line) (maxL := 1) (ret := (some .int)) (by decide) rfl ?_
  intro p e s m args below meth c s₁ B hml hv
  obtain ⟨rfl, hP, hK, hD⟩ := hv
  have hx := B.exec
  have hb := B.bytes
  have hr := B.returns
  have hlk := B.notSynchronized
  have hts := atoms_spec (ws := wsX1_line) B.pre
  have hown : s.vm.findClass RX1 = some m.cls := findClass_of_methodNamed B.named
  have hS : va_S A s.heap s.heap [] := va_S.rf
  have hl := lv_entry ([.ref (q 0)]) (n := 1) (Nat.le_of_ble_eq_true rfl)
  rw [lg_entry_eq]
  generalize (lg_sl ([.ref (q 0)]) ++ List.replicate (1 - (lg_sl ([.ref (q 0)])).length) Slot.unset).toArray = ls at hl ⊢
  have hl : lv_has ls 1 [(0, .ref (q 0))] := hl
  have hin : ∀ w ∈ u_ws RX1 TX1 11, w ∈ wsX1_line := fun w h => List.mem_cons_of_mem _ (inTX1 w h)
  have hf9 := hts _ (List.mem_cons_of_mem _ tfX1_9)
  have hf22 := hts _ (List.mem_cons_of_mem _ tfX1_22)
  have hf25 := hts _ (List.mem_cons_of_mem _ tfX1_25)
  have hf35 := hts _ (List.mem_cons_of_mem _ tfX1_35)
  have hf39 := hts _ (List.mem_cons_of_mem _ tfX1_39)
  have hf42 := hts _ (List.mem_cons_of_mem _ tfX1_42)
  refine lv_aload_n hx hb dX1_line_0 rfl (lv_at hl 0 rfl) ?_
  refine lv_aload_n hx hb dX1_line_1 rfl (lv_at hl 0 rfl) ?_
  refine va_get (D := D) (ci := 1) (v := .int (nI (n))) (C := RX1) (T := TX1) (N := 11) hx hb hts hin hown hK hP 0 rfl rfl 7 (by decide) hf39 (fun _ h9 => h9) rfl dX1_line_2 ?_
  refine lv_bipush (v := nI (120)) hx hb dX1_line_5 (by decide) ?_
  refine gi_icmp_ne (tgt := 14) hx hb (by omega) (by omega) dX1_line_7 rfl (fun h7 => ?_) (fun h9 => absurd h9 (by omega))
  refine lv_iconst (v := nI (0)) hx hb dX1_line_14 (by decide) ?_
  refine va_put (D := D) (ci := 1) (v := .int (nI (0))) (ty := .int) (C := RX1) (T := TX1) (N := 11) hx hb hts hin tyX1 tyX1_ok nmX1 hown hK hP hD hS 0 rfl rfl 8 (by decide) hf35 (fun _ h9 => h9) rfl (by decide +kernel) rfl rfl (Nat.le_of_ble_eq_true rfl) dX1_line_15 (fun H locs hP hD hS => ?_)
  have hP : va_P D vwCl ((mw q cA cB n 0 st sz bt so fc ofs tg nw gr) ++ wr) H := hP
  have hD : va_D A ((mw q cA cB n 0 st sz bt so fc ofs tg nw gr) ++ wr) := hD
  refine lv_aload_n hx hb dX1_line_18 rfl (lv_at hl 0 rfl) ?_
  refine va_get (D := D) (ci := 1) (v := .int (nI (0))) (C := RX1) (T := TX1) (N := 11) hx hb hts hin hown hK hP 0 rfl rfl 8 (by decide) hf35 (fun _ h9 => h9) rfl dX1_line_19 ?_
  refine gi_if_le (tgt := 27) hx hb (by omega) dX1_line_22 rfl (fun h22 => ?_) (fun h9 => absurd h9 (by omega))
  refine lv_aload_n hx hb dX1_line_27 rfl (lv_at hl 0 rfl) ?_
  refine va_get (D := D) (ci := 1) (v := .ref (q 1)) (C := RX1) (T := TX1) (N := 11) hx hb hts hin hown hK hP 0 rfl rfl 0 (by decide) hf9 (fun _ h9 => h9) rfl dX1_line_28 ?_
  refine lv_aload_n hx hb dX1_line_31 rfl (lv_at hl 0 rfl) ?_
  refine va_get (D := D) (ci := 1) (v := .int (nI (n))) (C := RX1) (T := TX1) (N := 11) hx hb hts hin hown hK hP 0 rfl rfl 7 (by decide) hf39 (fun _ h9 => h9) rfl dX1_line_32 ?_
  refine lv_iconst (v := nI (0)) hx hb dX1_line_35 (by decide) ?_
  refine gi_ast hx hb hK hP hD hS 1 0 fc rfl rfl (by omega) (by decide) dX1_line_36 (fun H locs hP hD hS => ?_)
  have hP : va_P D vwCl ((mw q cA cB n 0 st sz bt so (gU fc n 0) ofs tg nw gr) ++ wr) H := hP
  have hD : va_D A ((mw q cA cB n 0 st sz bt so (gU fc n 0) ofs tg nw gr) ++ wr) := hD
  refine lv_aload_n hx hb dX1_line_37 rfl (lv_at hl 0 rfl) ?_
  refine va_get (D := D) (ci := 1) (v := .ref (q 5)) (C := RX1) (T := TX1) (N := 11) hx hb hts hin hown hK hP 0 rfl rfl 4 (by decide) hf22 (fun _ h9 => h9) rfl dX1_line_38 ?_
  refine lv_aload_n hx hb dX1_line_41 rfl (lv_at hl 0 rfl) ?_
  refine va_get (D := D) (ci := 1) (v := .int (nI (n))) (C := RX1) (T := TX1) (N := 11) hx hb hts hin hown hK hP 0 rfl rfl 7 (by decide) hf39 (fun _ h9 => h9) rfl dX1_line_42 ?_
  refine lv_iconst (v := nI (0)) hx hb dX1_line_45 (by decide) ?_
  refine gi_ast hx hb hK hP hD hS 5 0 tg rfl rfl (by omega) (by decide) dX1_line_46 (fun H locs hP hD hS => ?_)
  have hP : va_P D vwCl ((mw q cA cB n 0 st sz bt so (gU fc n 0) ofs (gU tg n 0) nw gr) ++ wr) H := hP
  have hD : va_D A ((mw q cA cB n 0 st sz bt so (gU fc n 0) ofs (gU tg n 0) nw gr) ++ wr) := hD
  refine lv_aload_n hx hb dX1_line_47 rfl (lv_at hl 0 rfl) ?_
  refine va_get (D := D) (ci := 1) (v := .ref (q 6)) (C := RX1) (T := TX1) (N := 11) hx hb hts hin hown hK hP 0 rfl rfl 5 (by decide) hf25 (fun _ h9 => h9) rfl dX1_line_48 ?_
  refine lv_aload_n hx hb dX1_line_51 rfl (lv_at hl 0 rfl) ?_
  refine va_get (D := D) (ci := 1) (v := .int (nI (n))) (C := RX1) (T := TX1) (N := 11) hx hb hts hin hown hK hP 0 rfl rfl 7 (by decide) hf39 (fun _ h9 => h9) rfl dX1_line_52 ?_
  refine lv_iconst (v := nI (0)) hx hb dX1_line_55 (by decide) ?_
  refine gi_astI hx hb hK hP hD hS 6 0 ofs rfl rfl (by omega) (by decide) dX1_line_56 (fun H locs hP hD hS => ?_)
  have hP : va_P D vwCl ((mw q cA cB n 0 st sz bt so (gU fc n 0) (upd ofs n ((nI (0)))) (gU tg n 0) nw gr) ++ wr) H := hP
  have hD : va_D A ((mw q cA cB n 0 st sz bt so (gU fc n 0) (upd ofs n ((nI (0)))) (gU tg n 0) nw gr) ++ wr) := hD
  refine lv_aload_n hx hb dX1_line_57 rfl (lv_at hl 0 rfl) ?_
  refine lv_dup hx hb dX1_line_58 rfl ?_
  refine va_get (D := D) (ci := 1) (v := .int (nI (n))) (C := RX1) (T := TX1) (N := 11) hx hb hts hin hown hK hP 0 rfl rfl 7 (by decide) hf39 (fun _ h9 => h9) rfl dX1_line_59 ?_
  refine lv_iconst (v := nI (1)) hx hb dX1_line_62 (by decide) ?_
  refine gi_iadd hx hb (n + 1) rfl dX1_line_63 ?_
  refine va_put (D := D) (ci := 1) (v := .int (nI (n + 1))) (ty := .int) (C := RX1) (T := TX1) (N := 11) hx hb hts hin tyX1 tyX1_ok nmX1 hown hK hP hD hS 0 rfl rfl 7 (by decide) hf39 (fun _ h9 => h9) rfl (by decide +kernel) rfl rfl (Nat.le_of_ble_eq_true rfl) dX1_line_64 (fun H locs hP hD hS => ?_)
  have hP : va_P D vwCl ((mw q cA cB (n + 1) 0 st sz bt so (gU fc n 0) (upd ofs n ((nI (0)))) (gU tg n 0) nw gr) ++ wr) H := hP
  have hD : va_D A ((mw q cA cB (n + 1) 0 st sz bt so (gU fc n 0) (upd ofs n ((nI (0)))) (gU tg n 0) nw gr) ++ wr) := hD
  refine lv_aload_n hx hb dX1_line_67 rfl (lv_at hl 0 rfl) ?_
  refine lv_iconst (v := nI (0)) hx hb dX1_line_68 (by decide) ?_
  refine va_put (D := D) (ci := 1) (v := .int (bI (false))) (ty := .boolean) (C := RX1) (T := TX1) (N := 11) hx hb hts hin tyX1 tyX1_ok nmX1 hown hK hP hD hS 0 rfl rfl 9 (by decide) hf42 (fun _ h9 => h9) rfl (by decide +kernel) (bI_nar _) (bI_fits _) (Nat.le_of_ble_eq_true rfl) dX1_line_69 (fun H locs hP hD hS => ?_)
  have hP : va_P D vwCl ((mw q cA cB (n + 1) 0 false sz bt so (gU fc n 0) (upd ofs n ((nI (0)))) (gU tg n 0) nw gr) ++ wr) H := hP
  have hD : va_D A ((mw q cA cB (n + 1) 0 false sz bt so (gU fc n 0) (upd ofs n ((nI (0)))) (gU tg n 0) nw gr) ++ wr) := hD
  refine lv_aload_n hx hb dX1_line_72 rfl (lv_at hl 0 rfl) ?_
  refine va_get (D := D) (ci := 1) (v := .int (nI (n + 1))) (C := RX1) (T := TX1) (N := 11) hx hb hts hin hown hK hP 0 rfl rfl 7 (by decide) hf39 (fun _ h9 => h9) rfl dX1_line_73 ?_
  refine lv_iconst (v := nI (1)) hx hb dX1_line_76 (by decide) ?_
  refine gi_isub hx hb (n) (by omega) dX1_line_77 ?_
  exact gi_iret hx hb hlk hr dX1_line_78 (rfl) hP hS
set_option maxHeartbeats 4000000 in
set_option maxRecDepth 100000 in
theorem ex_X1_line (l : Launch) (D : va_G) (cA cB cL : ClassId) (A : Nat → Prop) (wr : va_W) (q : Nat → Nat) (n th : Nat) (st : Bool) (sz bt so fc : Nat → Nat) (ofs : Nat → Int32) (tg nw : Nat → Nat) (gr : Nat → Int32) (hn : n = 120) : Met l yX1_line wsX1_line ({ frames := 0, cells := 0, slots := 0, locals := 0 }) (gPre D vwCl [(cA, .int), (cB, .boolean), (cL, .long)] ((mw q cA cB n th st sz bt so fc ofs tg nw gr) ++ wr) A [.ref (q 0)]) (gPost (some (.int (nI (0)))) D vwCl ((mw q cA cB n 1 st sz bt so fc ofs tg nw gr) ++ wr) A) 0 0 A := by
  refine Met.ofW (cc := cX1_line) (maxL := 1) (ret := (some .int)) (by decide) rfl ?_
  intro p e s m args below meth c s₁ B hml hv
  obtain ⟨rfl, hP, hK, hD⟩ := hv
  have hx := B.exec
  have hb := B.bytes
  have hr := B.returns
  have hlk := B.notSynchronized
  have hts := atoms_spec (ws := wsX1_line) B.pre
  have hown : s.vm.findClass RX1 = some m.cls := findClass_of_methodNamed B.named
  have hS : va_S A s.heap s.heap [] := va_S.rf
  have hl := lv_entry ([.ref (q 0)]) (n := 1) (Nat.le_of_ble_eq_true rfl)
  rw [lg_entry_eq]
  generalize (lg_sl ([.ref (q 0)]) ++ List.replicate (1 - (lg_sl ([.ref (q 0)])).length) Slot.unset).toArray = ls at hl ⊢
  have hl : lv_has ls 1 [(0, .ref (q 0))] := hl
  have hin : ∀ w ∈ u_ws RX1 TX1 11, w ∈ wsX1_line := fun w h => List.mem_cons_of_mem _ (inTX1 w h)
  have hf9 := hts _ (List.mem_cons_of_mem _ tfX1_9)
  have hf22 := hts _ (List.mem_cons_of_mem _ tfX1_22)
  have hf25 := hts _ (List.mem_cons_of_mem _ tfX1_25)
  have hf35 := hts _ (List.mem_cons_of_mem _ tfX1_35)
  have hf39 := hts _ (List.mem_cons_of_mem _ tfX1_39)
  have hf42 := hts _ (List.mem_cons_of_mem _ tfX1_42)
  refine lv_aload_n hx hb dX1_line_0 rfl (lv_at hl 0 rfl) ?_
  refine lv_aload_n hx hb dX1_line_1 rfl (lv_at hl 0 rfl) ?_
  refine va_get (D := D) (ci := 1) (v := .int (nI (n))) (C := RX1) (T := TX1) (N := 11) hx hb hts hin hown hK hP 0 rfl rfl 7 (by decide) hf39 (fun _ h9 => h9) rfl dX1_line_2 ?_
  refine lv_bipush (v := nI (120)) hx hb dX1_line_5 (by decide) ?_
  refine gi_icmp_ne (tgt := 14) hx hb (by omega) (by omega) dX1_line_7 rfl (fun h9 => absurd h9 (by omega)) (fun h7 => ?_)
  refine lv_iconst (v := nI (1)) hx hb dX1_line_10 (by decide) ?_
  refine lv_goto (tgt := 15) hx hb dX1_line_11 rfl ?_
  refine va_put (D := D) (ci := 1) (v := .int (nI (1))) (ty := .int) (C := RX1) (T := TX1) (N := 11) hx hb hts hin tyX1 tyX1_ok nmX1 hown hK hP hD hS 0 rfl rfl 8 (by decide) hf35 (fun _ h9 => h9) rfl (by decide +kernel) rfl rfl (Nat.le_of_ble_eq_true rfl) dX1_line_15 (fun H locs hP hD hS => ?_)
  have hP : va_P D vwCl ((mw q cA cB n 1 st sz bt so fc ofs tg nw gr) ++ wr) H := hP
  have hD : va_D A ((mw q cA cB n 1 st sz bt so fc ofs tg nw gr) ++ wr) := hD
  refine lv_aload_n hx hb dX1_line_18 rfl (lv_at hl 0 rfl) ?_
  refine va_get (D := D) (ci := 1) (v := .int (nI (1))) (C := RX1) (T := TX1) (N := 11) hx hb hts hin hown hK hP 0 rfl rfl 8 (by decide) hf35 (fun _ h9 => h9) rfl dX1_line_19 ?_
  refine gi_if_le (tgt := 27) hx hb (by omega) dX1_line_22 rfl (fun h9 => absurd h9 (by omega)) (fun h22 => ?_)
  refine lv_iconst (v := nI (0)) hx hb dX1_line_25 (by decide) ?_
  exact gi_iret hx hb hlk hr dX1_line_26 (rfl) hP hS
set_option maxHeartbeats 4000000 in
set_option maxRecDepth 100000 in
theorem ok_X1_form (l : Launch) (D : va_G) (cA cB cL : ClassId) (A : Nat → Prop) (wr : va_W) (q : Nat → Nat) (th : Nat) (st : Bool) (sz bt so fc : Nat → Nat) (ofs : Nat → Int32) (tg nw : Nat → Nat) (gr : Nat → Int32) (k : Nat) (x y z : Nat) (hk : k < 120) (hfc : fc k < 4) (hx1 : 1 ≤ x) (hx2 : x ≤ 64) (hy1 : 1 ≤ y) (hy2 : y ≤ 32) (hz2 : z ≤ 2) : Met l yX1_form wsX1_form ({ frames := 0, cells := 0, slots := 0, locals := 0 }) (gPre D vwCl [(cA, .int), (cB, .boolean), (cL, .long)] ((mw q cA cB (k + 1) th st sz bt so fc ofs tg nw gr) ++ wr) A [.ref (q 0), .int (nI (x)), .int (nI (y)), .int (nI (z))]) (gPost (some (.int (nI (fc k + 1)))) D vwCl ((mw q cA cB (k + 1) 0 false (gU sz (4 * k + fc k) x) (gU bt (4 * k + fc k) y) (gU so (4 * k + fc k) z) (gU fc k (fc k + 1)) ofs tg nw gr) ++ wr) A) 0 0 A := by
  refine Met.ofW (cc := cX1_form) (maxL := 7) (ret := (some .int)) (by decide) rfl ?_
  intro p e s m args below meth c s₁ B hml hv
  obtain ⟨rfl, hP, hK, hD⟩ := hv
  have hx := B.exec
  have hb := B.bytes
  have hr := B.returns
  have hlk := B.notSynchronized
  have hts := atoms_spec (ws := wsX1_form) B.pre
  have hown : s.vm.findClass RX1 = some m.cls := findClass_of_methodNamed B.named
  have hS : va_S A s.heap s.heap [] := va_S.rf
  have hl := lv_entry ([.ref (q 0), .int (nI (x)), .int (nI (y)), .int (nI (z))]) (n := 7) (Nat.le_of_ble_eq_true rfl)
  rw [lg_entry_eq]
  generalize (lg_sl ([.ref (q 0), .int (nI (x)), .int (nI (y)), .int (nI (z))]) ++ List.replicate (7 - (lg_sl ([.ref (q 0), .int (nI (x)), .int (nI (y)), .int (nI (z))])).length) Slot.unset).toArray = ls at hl ⊢
  have hl : lv_has ls 7 [(0, .ref (q 0)), (1, .int (nI (x))), (2, .int (nI (y))), (3, .int (nI (z)))] := hl
  have hin : ∀ w ∈ u_ws RX1 TX1 11, w ∈ wsX1_form := fun w h => List.mem_cons_of_mem _ (inTX1 w h)
  have hf9 := hts _ (List.mem_cons_of_mem _ tfX1_9)
  have hf13 := hts _ (List.mem_cons_of_mem _ tfX1_13)
  have hf16 := hts _ (List.mem_cons_of_mem _ tfX1_16)
  have hf19 := hts _ (List.mem_cons_of_mem _ tfX1_19)
  have hf35 := hts _ (List.mem_cons_of_mem _ tfX1_35)
  have hf39 := hts _ (List.mem_cons_of_mem _ tfX1_39)
  have hf42 := hts _ (List.mem_cons_of_mem _ tfX1_42)
  refine lv_iload_n hx hb dX1_form_0 rfl (lv_at hl 1 rfl) ?_
  refine lv_iconst (v := nI (1)) hx hb dX1_form_1 (by decide) ?_
  refine gi_icmp_lt (tgt := 35) hx hb (by omega) (by omega) dX1_form_2 rfl (fun h9 => absurd h9 (by omega)) (fun h2 => ?_)
  refine lv_iload_n hx hb dX1_form_5 rfl (lv_at hl 1 rfl) ?_
  refine lv_bipush (v := nI (64)) hx hb dX1_form_6 (by decide) ?_
  refine gi_icmp_gt (tgt := 35) hx hb (by omega) (by omega) dX1_form_8 rfl (fun h9 => absurd h9 (by omega)) (fun h8 => ?_)
  refine lv_iload_n hx hb dX1_form_11 rfl (lv_at hl 2 rfl) ?_
  refine lv_iconst (v := nI (1)) hx hb dX1_form_12 (by decide) ?_
  refine gi_icmp_lt (tgt := 35) hx hb (by omega) (by omega) dX1_form_13 rfl (fun h9 => absurd h9 (by omega)) (fun h13 => ?_)
  refine lv_iload_n hx hb dX1_form_16 rfl (lv_at hl 2 rfl) ?_
  refine lv_bipush (v := nI (32)) hx hb dX1_form_17 (by decide) ?_
  refine gi_icmp_gt (tgt := 35) hx hb (by omega) (by omega) dX1_form_19 rfl (fun h9 => absurd h9 (by omega)) (fun h19 => ?_)
  refine lv_iload_n hx hb dX1_form_22 rfl (lv_at hl 3 rfl) ?_
  refine gi_if_lt (tgt := 35) hx hb (by omega) dX1_form_23 rfl (fun h9 => absurd h9 (by omega)) (fun h23 => ?_)
  refine lv_iload_n hx hb dX1_form_26 rfl (lv_at hl 3 rfl) ?_
  refine lv_iconst (v := nI (2)) hx hb dX1_form_27 (by decide) ?_
  refine gi_icmp_gt (tgt := 35) hx hb (by omega) (by omega) dX1_form_28 rfl (fun h9 => absurd h9 (by omega)) (fun h28 => ?_)
  refine lv_iconst (v := nI (1)) hx hb dX1_form_31 (by decide) ?_
  refine lv_goto (tgt := 36) hx hb dX1_form_32 rfl ?_
  refine lv_istore (lv' := [(4, .int (nI (1))), (0, .ref (q 0)), (1, .int (nI (x))), (2, .int (nI (y))), (3, .int (nI (z)))]) hx hb dX1_form_36 hl (by decide) rfl (fun ls hl => ?_)
  refine lv_aload_n hx hb dX1_form_38 rfl (lv_at hl 1 rfl) ?_
  refine lv_iload hx hb dX1_form_39 (lv_at hl 0 rfl) ?_
  refine gi_if_ne (tgt := 48) hx hb (by omega) dX1_form_41 rfl (fun h41 => ?_) (fun h9 => absurd h9 (by omega))
  refine lv_aload_n hx hb dX1_form_48 rfl (lv_at hl 1 rfl) ?_
  refine va_get (D := D) (ci := 1) (v := .int (nI (k + 1))) (C := RX1) (T := TX1) (N := 11) hx hb hts hin hown hK hP 0 rfl rfl 7 (by decide) hf39 (fun _ h9 => h9) rfl dX1_form_49 ?_
  refine gi_if_eq (tgt := 70) hx hb (by omega) dX1_form_52 rfl (fun h9 => absurd h9 (by omega)) (fun h52 => ?_)
  refine lv_aload_n hx hb dX1_form_55 rfl (lv_at hl 1 rfl) ?_
  refine va_get (D := D) (ci := 1) (v := .ref (q 1)) (C := RX1) (T := TX1) (N := 11) hx hb hts hin hown hK hP 0 rfl rfl 0 (by decide) hf9 (fun _ h9 => h9) rfl dX1_form_56 ?_
  refine lv_aload_n hx hb dX1_form_59 rfl (lv_at hl 1 rfl) ?_
  refine va_get (D := D) (ci := 1) (v := .int (nI (k + 1))) (C := RX1) (T := TX1) (N := 11) hx hb hts hin hown hK hP 0 rfl rfl 7 (by decide) hf39 (fun _ h9 => h9) rfl dX1_form_60 ?_
  refine lv_iconst (v := nI (1)) hx hb dX1_form_63 (by decide) ?_
  refine gi_isub hx hb (k) (by omega) dX1_form_64 ?_
  refine gi_ald hx hb hK hP 1 0 fc rfl rfl (by omega) (by decide) dX1_form_65 ?_
  refine lv_iconst (v := nI (4)) hx hb dX1_form_66 (by decide) ?_
  refine gi_icmp_ne (tgt := 74) hx hb (by omega) (by omega) dX1_form_67 rfl (fun h67 => ?_) (fun h9 => absurd h9 (by omega))
  refine lv_iconst (v := nI (0)) hx hb dX1_form_74 (by decide) ?_
  refine va_put (D := D) (ci := 1) (v := .int (nI (0))) (ty := .int) (C := RX1) (T := TX1) (N := 11) hx hb hts hin tyX1 tyX1_ok nmX1 hown hK hP hD hS 0 rfl rfl 8 (by decide) hf35 (fun _ h9 => h9) rfl (by decide +kernel) rfl rfl (Nat.le_of_ble_eq_true rfl) dX1_form_75 (fun H locs hP hD hS => ?_)
  have hP : va_P D vwCl ((mw q cA cB (k + 1) 0 st sz bt so fc ofs tg nw gr) ++ wr) H := hP
  have hD : va_D A ((mw q cA cB (k + 1) 0 st sz bt so fc ofs tg nw gr) ++ wr) := hD
  refine lv_aload_n hx hb dX1_form_78 rfl (lv_at hl 1 rfl) ?_
  refine va_get (D := D) (ci := 1) (v := .int (nI (0))) (C := RX1) (T := TX1) (N := 11) hx hb hts hin hown hK hP 0 rfl rfl 8 (by decide) hf35 (fun _ h9 => h9) rfl dX1_form_79 ?_
  refine gi_if_le (tgt := 87) hx hb (by omega) dX1_form_82 rfl (fun h82 => ?_) (fun h9 => absurd h9 (by omega))
  refine lv_aload_n hx hb dX1_form_87 rfl (lv_at hl 1 rfl) ?_
  refine va_get (D := D) (ci := 1) (v := .int (nI (k + 1))) (C := RX1) (T := TX1) (N := 11) hx hb hts hin hown hK hP 0 rfl rfl 7 (by decide) hf39 (fun _ h9 => h9) rfl dX1_form_88 ?_
  refine lv_iconst (v := nI (1)) hx hb dX1_form_91 (by decide) ?_
  refine gi_isub hx hb (k) (by omega) dX1_form_92 ?_
  refine lv_istore (lv' := [(5, .int (nI (k))), (4, .int (nI (1))), (0, .ref (q 0)), (1, .int (nI (x))), (2, .int (nI (y))), (3, .int (nI (z)))]) hx hb dX1_form_93 hl (by decide) rfl (fun ls hl => ?_)
  refine lv_iconst (v := nI (4)) hx hb dX1_form_95 (by decide) ?_
  refine lv_iload hx hb dX1_form_96 (lv_at hl 0 rfl) ?_
  refine gi_imul hx hb (4 * k) rfl dX1_form_98 ?_
  refine lv_aload_n hx hb dX1_form_99 rfl (lv_at hl 2 rfl) ?_
  refine va_get (D := D) (ci := 1) (v := .ref (q 1)) (C := RX1) (T := TX1) (N := 11) hx hb hts hin hown hK hP 0 rfl rfl 0 (by decide) hf9 (fun _ h9 => h9) rfl dX1_form_100 ?_
  refine lv_iload hx hb dX1_form_103 (lv_at hl 0 rfl) ?_
  refine gi_ald hx hb hK hP 1 0 fc rfl rfl (by omega) (by decide) dX1_form_105 ?_
  refine gi_iadd hx hb (4 * k + (fc k)) rfl dX1_form_106 ?_
  refine lv_istore (lv' := [(6, .int (nI (4 * k + (fc k)))), (5, .int (nI (k))), (4, .int (nI (1))), (0, .ref (q 0)), (1, .int (nI (x))), (2, .int (nI (y))), (3, .int (nI (z)))]) hx hb dX1_form_107 hl (by decide) rfl (fun ls hl => ?_)
  refine lv_aload_n hx hb dX1_form_109 rfl (lv_at hl 3 rfl) ?_
  refine va_get (D := D) (ci := 1) (v := .ref (q 2)) (C := RX1) (T := TX1) (N := 11) hx hb hts hin hown hK hP 0 rfl rfl 1 (by decide) hf13 (fun _ h9 => h9) rfl dX1_form_110 ?_
  refine lv_iload hx hb dX1_form_113 (lv_at hl 0 rfl) ?_
  refine lv_iload_n hx hb dX1_form_115 rfl (lv_at hl 4 rfl) ?_
  refine gi_ast hx hb hK hP hD hS 2 0 sz rfl rfl (by omega) (by decide) dX1_form_116 (fun H locs hP hD hS => ?_)
  have hP : va_P D vwCl ((mw q cA cB (k + 1) 0 st (gU sz (4 * k + (fc k)) x) bt so fc ofs tg nw gr) ++ wr) H := hP
  have hD : va_D A ((mw q cA cB (k + 1) 0 st (gU sz (4 * k + (fc k)) x) bt so fc ofs tg nw gr) ++ wr) := hD
  refine lv_aload_n hx hb dX1_form_117 rfl (lv_at hl 3 rfl) ?_
  refine va_get (D := D) (ci := 1) (v := .ref (q 3)) (C := RX1) (T := TX1) (N := 11) hx hb hts hin hown hK hP 0 rfl rfl 2 (by decide) hf16 (fun _ h9 => h9) rfl dX1_form_118 ?_
  refine lv_iload hx hb dX1_form_121 (lv_at hl 0 rfl) ?_
  refine lv_iload_n hx hb dX1_form_123 rfl (lv_at hl 5 rfl) ?_
  refine gi_ast hx hb hK hP hD hS 3 0 bt rfl rfl (by omega) (by decide) dX1_form_124 (fun H locs hP hD hS => ?_)
  have hP : va_P D vwCl ((mw q cA cB (k + 1) 0 st (gU sz (4 * k + (fc k)) x) (gU bt (4 * k + (fc k)) y) so fc ofs tg nw gr) ++ wr) H := hP
  have hD : va_D A ((mw q cA cB (k + 1) 0 st (gU sz (4 * k + (fc k)) x) (gU bt (4 * k + (fc k)) y) so fc ofs tg nw gr) ++ wr) := hD
  refine lv_aload_n hx hb dX1_form_125 rfl (lv_at hl 3 rfl) ?_
  refine va_get (D := D) (ci := 1) (v := .ref (q 4)) (C := RX1) (T := TX1) (N := 11) hx hb hts hin hown hK hP 0 rfl rfl 3 (by decide) hf19 (fun _ h9 => h9) rfl dX1_form_126 ?_
  refine lv_iload hx hb dX1_form_129 (lv_at hl 0 rfl) ?_
  refine lv_iload_n hx hb dX1_form_131 rfl (lv_at hl 6 rfl) ?_
  refine gi_ast hx hb hK hP hD hS 4 0 so rfl rfl (by omega) (by decide) dX1_form_132 (fun H locs hP hD hS => ?_)
  have hP : va_P D vwCl ((mw q cA cB (k + 1) 0 st (gU sz (4 * k + (fc k)) x) (gU bt (4 * k + (fc k)) y) (gU so (4 * k + (fc k)) z) fc ofs tg nw gr) ++ wr) H := hP
  have hD : va_D A ((mw q cA cB (k + 1) 0 st (gU sz (4 * k + (fc k)) x) (gU bt (4 * k + (fc k)) y) (gU so (4 * k + (fc k)) z) fc ofs tg nw gr) ++ wr) := hD
  refine lv_aload_n hx hb dX1_form_133 rfl (lv_at hl 3 rfl) ?_
  refine va_get (D := D) (ci := 1) (v := .ref (q 1)) (C := RX1) (T := TX1) (N := 11) hx hb hts hin hown hK hP 0 rfl rfl 0 (by decide) hf9 (fun _ h9 => h9) rfl dX1_form_134 ?_
  refine lv_iload hx hb dX1_form_137 (lv_at hl 1 rfl) ?_
  refine lv_dup2_11 hx hb dX1_form_139 rfl rfl ?_
  refine gi_ald hx hb hK hP 1 0 fc rfl rfl (by omega) (by decide) dX1_form_140 ?_
  refine lv_iconst (v := nI (1)) hx hb dX1_form_141 (by decide) ?_
  refine gi_iadd hx hb (fc k + 1) rfl dX1_form_142 ?_
  refine gi_ast hx hb hK hP hD hS 1 0 fc rfl rfl (by omega) (by decide) dX1_form_143 (fun H locs hP hD hS => ?_)
  have hP : va_P D vwCl ((mw q cA cB (k + 1) 0 st (gU sz (4 * k + (fc k)) x) (gU bt (4 * k + (fc k)) y) (gU so (4 * k + (fc k)) z) (gU fc k (fc k + 1)) ofs tg nw gr) ++ wr) H := hP
  have hD : va_D A ((mw q cA cB (k + 1) 0 st (gU sz (4 * k + (fc k)) x) (gU bt (4 * k + (fc k)) y) (gU so (4 * k + (fc k)) z) (gU fc k (fc k + 1)) ofs tg nw gr) ++ wr) := hD
  refine lv_aload_n hx hb dX1_form_144 rfl (lv_at hl 3 rfl) ?_
  refine lv_iconst (v := nI (0)) hx hb dX1_form_145 (by decide) ?_
  refine va_put (D := D) (ci := 1) (v := .int (bI (false))) (ty := .boolean) (C := RX1) (T := TX1) (N := 11) hx hb hts hin tyX1 tyX1_ok nmX1 hown hK hP hD hS 0 rfl rfl 9 (by decide) hf42 (fun _ h9 => h9) rfl (by decide +kernel) (bI_nar _) (bI_fits _) (Nat.le_of_ble_eq_true rfl) dX1_form_146 (fun H locs hP hD hS => ?_)
  have hP : va_P D vwCl ((mw q cA cB (k + 1) 0 false (gU sz (4 * k + (fc k)) x) (gU bt (4 * k + (fc k)) y) (gU so (4 * k + (fc k)) z) (gU fc k (fc k + 1)) ofs tg nw gr) ++ wr) H := hP
  have hD : va_D A ((mw q cA cB (k + 1) 0 false (gU sz (4 * k + (fc k)) x) (gU bt (4 * k + (fc k)) y) (gU so (4 * k + (fc k)) z) (gU fc k (fc k + 1)) ofs tg nw gr) ++ wr) := hD
  refine lv_aload_n hx hb dX1_form_149 rfl (lv_at hl 3 rfl) ?_
  refine va_get (D := D) (ci := 1) (v := .ref (q 1)) (C := RX1) (T := TX1) (N := 11) hx hb hts hin hown hK hP 0 rfl rfl 0 (by decide) hf9 (fun _ h9 => h9) rfl dX1_form_150 ?_
  refine lv_iload hx hb dX1_form_153 (lv_at hl 1 rfl) ?_
  refine gi_ald hx hb hK hP 1 0 (gU fc k (fc k + 1)) rfl rfl (by omega) (by decide) dX1_form_155 ?_
  exact gi_iret hx hb hlk hr dX1_form_156 (congrArg nI (gU_at _ _ _)) hP hS
set_option maxHeartbeats 4000000 in
set_option maxRecDepth 100000 in
theorem ex2_X1_form (l : Launch) (D : va_G) (cA cB cL : ClassId) (A : Nat → Prop) (wr : va_W) (q : Nat → Nat) (th : Nat) (st : Bool) (sz bt so fc : Nat → Nat) (ofs : Nat → Int32) (tg nw : Nat → Nat) (gr : Nat → Int32) (x y z : Nat) (hx1 : 1 ≤ x) (hx2 : x ≤ 64) (hy1 : 1 ≤ y) (hy2 : y ≤ 32) (hz2 : z ≤ 2) : Met l yX1_form wsX1_form ({ frames := 0, cells := 0, slots := 0, locals := 0 }) (gPre D vwCl [(cA, .int), (cB, .boolean), (cL, .long)] ((mw q cA cB 0 th st sz bt so fc ofs tg nw gr) ++ wr) A [.ref (q 0), .int (nI (x)), .int (nI (y)), .int (nI (z))]) (gPost (some (.int (nI (0)))) D vwCl ((mw q cA cB 0 2 st sz bt so fc ofs tg nw gr) ++ wr) A) 0 0 A := by
  refine Met.ofW (cc := cX1_form) (maxL := 7) (ret := (some .int)) (by decide) rfl ?_
  intro p e s m args below meth c s₁ B hml hv
  obtain ⟨rfl, hP, hK, hD⟩ := hv
  have hx := B.exec
  have hb := B.bytes
  have hr := B.returns
  have hlk := B.notSynchronized
  have hts := atoms_spec (ws := wsX1_form) B.pre
  have hown : s.vm.findClass RX1 = some m.cls := findClass_of_methodNamed B.named
  have hS : va_S A s.heap s.heap [] := va_S.rf
  have hl := lv_entry ([.ref (q 0), .int (nI (x)), .int (nI (y)), .int (nI (z))]) (n := 7) (Nat.le_of_ble_eq_true rfl)
  rw [lg_entry_eq]
  generalize (lg_sl ([.ref (q 0), .int (nI (x)), .int (nI (y)), .int (nI (z))]) ++ List.replicate (7 - (lg_sl ([.ref (q 0), .int (nI (x)), .int (nI (y)), .int (nI (z))])).length) Slot.unset).toArray = ls at hl ⊢
  have hl : lv_has ls 7 [(0, .ref (q 0)), (1, .int (nI (x))), (2, .int (nI (y))), (3, .int (nI (z)))] := hl
  have hin : ∀ w ∈ u_ws RX1 TX1 11, w ∈ wsX1_form := fun w h => List.mem_cons_of_mem _ (inTX1 w h)
  have hf9 := hts _ (List.mem_cons_of_mem _ tfX1_9)
  have hf13 := hts _ (List.mem_cons_of_mem _ tfX1_13)
  have hf16 := hts _ (List.mem_cons_of_mem _ tfX1_16)
  have hf19 := hts _ (List.mem_cons_of_mem _ tfX1_19)
  have hf35 := hts _ (List.mem_cons_of_mem _ tfX1_35)
  have hf39 := hts _ (List.mem_cons_of_mem _ tfX1_39)
  have hf42 := hts _ (List.mem_cons_of_mem _ tfX1_42)
  refine lv_iload_n hx hb dX1_form_0 rfl (lv_at hl 1 rfl) ?_
  refine lv_iconst (v := nI (1)) hx hb dX1_form_1 (by decide) ?_
  refine gi_icmp_lt (tgt := 35) hx hb (by omega) (by omega) dX1_form_2 rfl (fun h9 => absurd h9 (by omega)) (fun h2 => ?_)
  refine lv_iload_n hx hb dX1_form_5 rfl (lv_at hl 1 rfl) ?_
  refine lv_bipush (v := nI (64)) hx hb dX1_form_6 (by decide) ?_
  refine gi_icmp_gt (tgt := 35) hx hb (by omega) (by omega) dX1_form_8 rfl (fun h9 => absurd h9 (by omega)) (fun h8 => ?_)
  refine lv_iload_n hx hb dX1_form_11 rfl (lv_at hl 2 rfl) ?_
  refine lv_iconst (v := nI (1)) hx hb dX1_form_12 (by decide) ?_
  refine gi_icmp_lt (tgt := 35) hx hb (by omega) (by omega) dX1_form_13 rfl (fun h9 => absurd h9 (by omega)) (fun h13 => ?_)
  refine lv_iload_n hx hb dX1_form_16 rfl (lv_at hl 2 rfl) ?_
  refine lv_bipush (v := nI (32)) hx hb dX1_form_17 (by decide) ?_
  refine gi_icmp_gt (tgt := 35) hx hb (by omega) (by omega) dX1_form_19 rfl (fun h9 => absurd h9 (by omega)) (fun h19 => ?_)
  refine lv_iload_n hx hb dX1_form_22 rfl (lv_at hl 3 rfl) ?_
  refine gi_if_lt (tgt := 35) hx hb (by omega) dX1_form_23 rfl (fun h9 => absurd h9 (by omega)) (fun h23 => ?_)
  refine lv_iload_n hx hb dX1_form_26 rfl (lv_at hl 3 rfl) ?_
  refine lv_iconst (v := nI (2)) hx hb dX1_form_27 (by decide) ?_
  refine gi_icmp_gt (tgt := 35) hx hb (by omega) (by omega) dX1_form_28 rfl (fun h9 => absurd h9 (by omega)) (fun h28 => ?_)
  refine lv_iconst (v := nI (1)) hx hb dX1_form_31 (by decide) ?_
  refine lv_goto (tgt := 36) hx hb dX1_form_32 rfl ?_
  refine lv_istore (lv' := [(4, .int (nI (1))), (0, .ref (q 0)), (1, .int (nI (x))), (2, .int (nI (y))), (3, .int (nI (z)))]) hx hb dX1_form_36 hl (by decide) rfl (fun ls hl => ?_)
  refine lv_aload_n hx hb dX1_form_38 rfl (lv_at hl 1 rfl) ?_
  refine lv_iload hx hb dX1_form_39 (lv_at hl 0 rfl) ?_
  refine gi_if_ne (tgt := 48) hx hb (by omega) dX1_form_41 rfl (fun h41 => ?_) (fun h9 => absurd h9 (by omega))
  refine lv_aload_n hx hb dX1_form_48 rfl (lv_at hl 1 rfl) ?_
  refine va_get (D := D) (ci := 1) (v := .int (nI (0))) (C := RX1) (T := TX1) (N := 11) hx hb hts hin hown hK hP 0 rfl rfl 7 (by decide) hf39 (fun _ h9 => h9) rfl dX1_form_49 ?_
  refine gi_if_eq (tgt := 70) hx hb (by omega) dX1_form_52 rfl (fun h52 => ?_) (fun h9 => absurd h9 (by omega))
  refine lv_iconst (v := nI (2)) hx hb dX1_form_70 (by decide) ?_
  refine lv_goto (tgt := 75) hx hb dX1_form_71 rfl ?_
  refine va_put (D := D) (ci := 1) (v := .int (nI (2))) (ty := .int) (C := RX1) (T := TX1) (N := 11) hx hb hts hin tyX1 tyX1_ok nmX1 hown hK hP hD hS 0 rfl rfl 8 (by decide) hf35 (fun _ h9 => h9) rfl (by decide +kernel) rfl rfl (Nat.le_of_ble_eq_true rfl) dX1_form_75 (fun H locs hP hD hS => ?_)
  have hP : va_P D vwCl ((mw q cA cB 0 2 st sz bt so fc ofs tg nw gr) ++ wr) H := hP
  have hD : va_D A ((mw q cA cB 0 2 st sz bt so fc ofs tg nw gr) ++ wr) := hD
  refine lv_aload_n hx hb dX1_form_78 rfl (lv_at hl 1 rfl) ?_
  refine va_get (D := D) (ci := 1) (v := .int (nI (2))) (C := RX1) (T := TX1) (N := 11) hx hb hts hin hown hK hP 0 rfl rfl 8 (by decide) hf35 (fun _ h9 => h9) rfl dX1_form_79 ?_
  refine gi_if_le (tgt := 87) hx hb (by omega) dX1_form_82 rfl (fun h9 => absurd h9 (by omega)) (fun h82 => ?_)
  refine lv_iconst (v := nI (0)) hx hb dX1_form_85 (by decide) ?_
  exact gi_iret hx hb hlk hr dX1_form_86 (rfl) hP hS
set_option maxHeartbeats 4000000 in
set_option maxRecDepth 100000 in
theorem ex3_X1_form (l : Launch) (D : va_G) (cA cB cL : ClassId) (A : Nat → Prop) (wr : va_W) (q : Nat → Nat) (th : Nat) (st : Bool) (sz bt so fc : Nat → Nat) (ofs : Nat → Int32) (tg nw : Nat → Nat) (gr : Nat → Int32) (k : Nat) (x y z : Nat) (hk : k < 120) (hfc : fc k = 4) (hx1 : 1 ≤ x) (hx2 : x ≤ 64) (hy1 : 1 ≤ y) (hy2 : y ≤ 32) (hz2 : z ≤ 2) : Met l yX1_form wsX1_form ({ frames := 0, cells := 0, slots := 0, locals := 0 }) (gPre D vwCl [(cA, .int), (cB, .boolean), (cL, .long)] ((mw q cA cB (k + 1) th st sz bt so fc ofs tg nw gr) ++ wr) A [.ref (q 0), .int (nI (x)), .int (nI (y)), .int (nI (z))]) (gPost (some (.int (nI (0)))) D vwCl ((mw q cA cB (k + 1) 2 st sz bt so fc ofs tg nw gr) ++ wr) A) 0 0 A := by
  refine Met.ofW (cc := cX1_form) (maxL := 7) (ret := (some .int)) (by decide) rfl ?_
  intro p e s m args below meth c s₁ B hml hv
  obtain ⟨rfl, hP, hK, hD⟩ := hv
  have hx := B.exec
  have hb := B.bytes
  have hr := B.returns
  have hlk := B.notSynchronized
  have hts := atoms_spec (ws := wsX1_form) B.pre
  have hown : s.vm.findClass RX1 = some m.cls := findClass_of_methodNamed B.named
  have hS : va_S A s.heap s.heap [] := va_S.rf
  have hl := lv_entry ([.ref (q 0), .int (nI (x)), .int (nI (y)), .int (nI (z))]) (n := 7) (Nat.le_of_ble_eq_true rfl)
  rw [lg_entry_eq]
  generalize (lg_sl ([.ref (q 0), .int (nI (x)), .int (nI (y)), .int (nI (z))]) ++ List.replicate (7 - (lg_sl ([.ref (q 0), .int (nI (x)), .int (nI (y)), .int (nI (z))])).length) Slot.unset).toArray = ls at hl ⊢
  have hl : lv_has ls 7 [(0, .ref (q 0)), (1, .int (nI (x))), (2, .int (nI (y))), (3, .int (nI (z)))] := hl
  have hin : ∀ w ∈ u_ws RX1 TX1 11, w ∈ wsX1_form := fun w h => List.mem_cons_of_mem _ (inTX1 w h)
  have hf9 := hts _ (List.mem_cons_of_mem _ tfX1_9)
  have hf13 := hts _ (List.mem_cons_of_mem _ tfX1_13)
  have hf16 := hts _ (List.mem_cons_of_mem _ tfX1_16)
  have hf19 := hts _ (List.mem_cons_of_mem _ tfX1_19)
  have hf35 := hts _ (List.mem_cons_of_mem _ tfX1_35)
  have hf39 := hts _ (List.mem_cons_of_mem _ tfX1_39)
  have hf42 := hts _ (List.mem_cons_of_mem _ tfX1_42)
  refine lv_iload_n hx hb dX1_form_0 rfl (lv_at hl 1 rfl) ?_
  refine lv_iconst (v := nI (1)) hx hb dX1_form_1 (by decide) ?_
  refine gi_icmp_lt (tgt := 35) hx hb (by omega) (by omega) dX1_form_2 rfl (fun h9 => absurd h9 (by omega)) (fun h2 => ?_)
  refine lv_iload_n hx hb dX1_form_5 rfl (lv_at hl 1 rfl) ?_
  refine lv_bipush (v := nI (64)) hx hb dX1_form_6 (by decide) ?_
  refine gi_icmp_gt (tgt := 35) hx hb (by omega) (by omega) dX1_form_8 rfl (fun h9 => absurd h9 (by omega)) (fun h8 => ?_)
  refine lv_iload_n hx hb dX1_form_11 rfl (lv_at hl 2 rfl) ?_
  refine lv_iconst (v := nI (1)) hx hb dX1_form_12 (by decide) ?_
  refine gi_icmp_lt (tgt := 35) hx hb (by omega) (by omega) dX1_form_13 rfl (fun h9 => absurd h9 (by omega)) (fun h13 => ?_)
  refine lv_iload_n hx hb dX1_form_16 rfl (lv_at hl 2 rfl) ?_
  refine lv_bipush (v := nI (32)) hx hb dX1_form_17 (by decide) ?_
  refine gi_icmp_gt (tgt := 35) hx hb (by omega) (by omega) dX1_form_19 rfl (fun h9 => absurd h9 (by omega)) (fun h19 => ?_)
  refine lv_iload_n hx hb dX1_form_22 rfl (lv_at hl 3 rfl) ?_
  refine gi_if_lt (tgt := 35) hx hb (by omega) dX1_form_23 rfl (fun h9 => absurd h9 (by omega)) (fun h23 => ?_)
  refine lv_iload_n hx hb dX1_form_26 rfl (lv_at hl 3 rfl) ?_
  refine lv_iconst (v := nI (2)) hx hb dX1_form_27 (by decide) ?_
  refine gi_icmp_gt (tgt := 35) hx hb (by omega) (by omega) dX1_form_28 rfl (fun h9 => absurd h9 (by omega)) (fun h28 => ?_)
  refine lv_iconst (v := nI (1)) hx hb dX1_form_31 (by decide) ?_
  refine lv_goto (tgt := 36) hx hb dX1_form_32 rfl ?_
  refine lv_istore (lv' := [(4, .int (nI (1))), (0, .ref (q 0)), (1, .int (nI (x))), (2, .int (nI (y))), (3, .int (nI (z)))]) hx hb dX1_form_36 hl (by decide) rfl (fun ls hl => ?_)
  refine lv_aload_n hx hb dX1_form_38 rfl (lv_at hl 1 rfl) ?_
  refine lv_iload hx hb dX1_form_39 (lv_at hl 0 rfl) ?_
  refine gi_if_ne (tgt := 48) hx hb (by omega) dX1_form_41 rfl (fun h41 => ?_) (fun h9 => absurd h9 (by omega))
  refine lv_aload_n hx hb dX1_form_48 rfl (lv_at hl 1 rfl) ?_
  refine va_get (D := D) (ci := 1) (v := .int (nI (k + 1))) (C := RX1) (T := TX1) (N := 11) hx hb hts hin hown hK hP 0 rfl rfl 7 (by decide) hf39 (fun _ h9 => h9) rfl dX1_form_49 ?_
  refine gi_if_eq (tgt := 70) hx hb (by omega) dX1_form_52 rfl (fun h9 => absurd h9 (by omega)) (fun h52 => ?_)
  refine lv_aload_n hx hb dX1_form_55 rfl (lv_at hl 1 rfl) ?_
  refine va_get (D := D) (ci := 1) (v := .ref (q 1)) (C := RX1) (T := TX1) (N := 11) hx hb hts hin hown hK hP 0 rfl rfl 0 (by decide) hf9 (fun _ h9 => h9) rfl dX1_form_56 ?_
  refine lv_aload_n hx hb dX1_form_59 rfl (lv_at hl 1 rfl) ?_
  refine va_get (D := D) (ci := 1) (v := .int (nI (k + 1))) (C := RX1) (T := TX1) (N := 11) hx hb hts hin hown hK hP 0 rfl rfl 7 (by decide) hf39 (fun _ h9 => h9) rfl dX1_form_60 ?_
  refine lv_iconst (v := nI (1)) hx hb dX1_form_63 (by decide) ?_
  refine gi_isub hx hb (k) (by omega) dX1_form_64 ?_
  refine gi_ald hx hb hK hP 1 0 fc rfl rfl (by omega) (by decide) dX1_form_65 ?_
  refine lv_iconst (v := nI (4)) hx hb dX1_form_66 (by decide) ?_
  refine gi_icmp_ne (tgt := 74) hx hb (by omega) (by omega) dX1_form_67 rfl (fun h9 => absurd h9 (by omega)) (fun h67 => ?_)
  refine lv_iconst (v := nI (2)) hx hb dX1_form_70 (by decide) ?_
  refine lv_goto (tgt := 75) hx hb dX1_form_71 rfl ?_
  refine va_put (D := D) (ci := 1) (v := .int (nI (2))) (ty := .int) (C := RX1) (T := TX1) (N := 11) hx hb hts hin tyX1 tyX1_ok nmX1 hown hK hP hD hS 0 rfl rfl 8 (by decide) hf35 (fun _ h9 => h9) rfl (by decide +kernel) rfl rfl (Nat.le_of_ble_eq_true rfl) dX1_form_75 (fun H locs hP hD hS => ?_)
  have hP : va_P D vwCl ((mw q cA cB (k + 1) 2 st sz bt so fc ofs tg nw gr) ++ wr) H := hP
  have hD : va_D A ((mw q cA cB (k + 1) 2 st sz bt so fc ofs tg nw gr) ++ wr) := hD
  refine lv_aload_n hx hb dX1_form_78 rfl (lv_at hl 1 rfl) ?_
  refine va_get (D := D) (ci := 1) (v := .int (nI (2))) (C := RX1) (T := TX1) (N := 11) hx hb hts hin hown hK hP 0 rfl rfl 8 (by decide) hf35 (fun _ h9 => h9) rfl dX1_form_79 ?_
  refine gi_if_le (tgt := 87) hx hb (by omega) dX1_form_82 rfl (fun h9 => absurd h9 (by omega)) (fun h82 => ?_)
  refine lv_iconst (v := nI (0)) hx hb dX1_form_85 (by decide) ?_
  exact gi_iret hx hb hlk hr dX1_form_86 (rfl) hP hS
set_option maxHeartbeats 4000000 in
set_option maxRecDepth 100000 in
theorem ex1_X1_form (l : Launch) (D : va_G) (cA cB cL : ClassId) (A : Nat → Prop) (wr : va_W) (q : Nat → Nat) (n th : Nat) (st : Bool) (sz bt so fc : Nat → Nat) (ofs : Nat → Int32) (tg nw : Nat → Nat) (gr : Nat → Int32) (x y z : Int32) (hf : gf_isf x y z = false) : Met l yX1_form wsX1_form ({ frames := 0, cells := 0, slots := 0, locals := 0 }) (gPre D vwCl [(cA, .int), (cB, .boolean), (cL, .long)] ((mw q cA cB n th st sz bt so fc ofs tg nw gr) ++ wr) A [.ref (q 0), .int (x), .int (y), .int (z)]) (gPost (some (.int (nI (0)))) D vwCl ((mw q cA cB n 1 st sz bt so fc ofs tg nw gr) ++ wr) A) 0 0 A := by
  refine Met.ofW (cc := cX1_form) (maxL := 7) (ret := (some .int)) (by decide) rfl ?_
  intro p e s m args below meth c s₁ B hml hv
  obtain ⟨rfl, hP, hK, hD⟩ := hv
  have hx := B.exec
  have hb := B.bytes
  have hr := B.returns
  have hlk := B.notSynchronized
  have hts := atoms_spec (ws := wsX1_form) B.pre
  have hown : s.vm.findClass RX1 = some m.cls := findClass_of_methodNamed B.named
  have hS : va_S A s.heap s.heap [] := va_S.rf
  have hl := lv_entry ([.ref (q 0), .int (x), .int (y), .int (z)]) (n := 7) (Nat.le_of_ble_eq_true rfl)
  rw [lg_entry_eq]
  generalize (lg_sl ([.ref (q 0), .int (x), .int (y), .int (z)]) ++ List.replicate (7 - (lg_sl ([.ref (q 0), .int (x), .int (y), .int (z)])).length) Slot.unset).toArray = ls at hl ⊢
  have hl : lv_has ls 7 [(0, .ref (q 0)), (1, .int (x)), (2, .int (y)), (3, .int (z))] := hl
  have hin : ∀ w ∈ u_ws RX1 TX1 11, w ∈ wsX1_form := fun w h => List.mem_cons_of_mem _ (inTX1 w h)
  have hf9 := hts _ (List.mem_cons_of_mem _ tfX1_9)
  have hf13 := hts _ (List.mem_cons_of_mem _ tfX1_13)
  have hf16 := hts _ (List.mem_cons_of_mem _ tfX1_16)
  have hf19 := hts _ (List.mem_cons_of_mem _ tfX1_19)
  have hf35 := hts _ (List.mem_cons_of_mem _ tfX1_35)
  have hf39 := hts _ (List.mem_cons_of_mem _ tfX1_39)
  have hf42 := hts _ (List.mem_cons_of_mem _ tfX1_42)
  refine lv_iload_n hx hb dX1_form_0 rfl (lv_at hl 1 rfl) ?_
  refine lv_iconst (v := nI (1)) hx hb dX1_form_1 (by decide) ?_
  refine lv_icmp_lt (tgt := 35) hx hb dX1_form_2 rfl (fun h2 => ?_) (fun h2 => ?_)
  · refine lv_iconst (v := nI (0)) hx hb dX1_form_35 (by decide) ?_
    refine lv_istore (lv' := [(4, .int (nI (0))), (0, .ref (q 0)), (1, .int (x)), (2, .int (y)), (3, .int (z))]) hx hb dX1_form_36 hl (by decide) rfl (fun ls hl => ?_)
    refine lv_aload_n hx hb dX1_form_38 rfl (lv_at hl 1 rfl) ?_
    refine lv_iload hx hb dX1_form_39 (lv_at hl 0 rfl) ?_
    refine gi_if_ne (tgt := 48) hx hb (by omega) dX1_form_41 rfl (fun h9 => absurd h9 (by omega)) (fun h41 => ?_)
    refine lv_iconst (v := nI (1)) hx hb dX1_form_44 (by decide) ?_
    refine lv_goto (tgt := 75) hx hb dX1_form_45 rfl ?_
    refine va_put (D := D) (ci := 1) (v := .int (nI (1))) (ty := .int) (C := RX1) (T := TX1) (N := 11) hx hb hts hin tyX1 tyX1_ok nmX1 hown hK hP hD hS 0 rfl rfl 8 (by decide) hf35 (fun _ h9 => h9) rfl (by decide +kernel) rfl rfl (Nat.le_of_ble_eq_true rfl) dX1_form_75 (fun H locs hP hD hS => ?_)
    have hP : va_P D vwCl ((mw q cA cB n 1 st sz bt so fc ofs tg nw gr) ++ wr) H := hP
    have hD : va_D A ((mw q cA cB n 1 st sz bt so fc ofs tg nw gr) ++ wr) := hD
    refine lv_aload_n hx hb dX1_form_78 rfl (lv_at hl 1 rfl) ?_
    refine va_get (D := D) (ci := 1) (v := .int (nI (1))) (C := RX1) (T := TX1) (N := 11) hx hb hts hin hown hK hP 0 rfl rfl 8 (by decide) hf35 (fun _ h9 => h9) rfl dX1_form_79 ?_
    refine gi_if_le (tgt := 87) hx hb (by omega) dX1_form_82 rfl (fun h9 => absurd h9 (by omega)) (fun h82 => ?_)
    refine lv_iconst (v := nI (0)) hx hb dX1_form_85 (by decide) ?_
    exact gi_iret hx hb hlk hr dX1_form_86 (rfl) hP hS
  · refine lv_iload_n hx hb dX1_form_5 rfl (lv_at hl 1 rfl) ?_
    refine lv_bipush (v := nI (64)) hx hb dX1_form_6 (by decide) ?_
    refine lv_icmp_gt (tgt := 35) hx hb dX1_form_8 rfl (fun h8 => ?_) (fun h8 => ?_)
    · refine lv_iconst (v := nI (0)) hx hb dX1_form_35 (by decide) ?_
      refine lv_istore (lv' := [(4, .int (nI (0))), (0, .ref (q 0)), (1, .int (x)), (2, .int (y)), (3, .int (z))]) hx hb dX1_form_36 hl (by decide) rfl (fun ls hl => ?_)
      refine lv_aload_n hx hb dX1_form_38 rfl (lv_at hl 1 rfl) ?_
      refine lv_iload hx hb dX1_form_39 (lv_at hl 0 rfl) ?_
      refine gi_if_ne (tgt := 48) hx hb (by omega) dX1_form_41 rfl (fun h9 => absurd h9 (by omega)) (fun h41 => ?_)
      refine lv_iconst (v := nI (1)) hx hb dX1_form_44 (by decide) ?_
      refine lv_goto (tgt := 75) hx hb dX1_form_45 rfl ?_
      refine va_put (D := D) (ci := 1) (v := .int (nI (1))) (ty := .int) (C := RX1) (T := TX1) (N := 11) hx hb hts hin tyX1 tyX1_ok nmX1 hown hK hP hD hS 0 rfl rfl 8 (by decide) hf35 (fun _ h9 => h9) rfl (by decide +kernel) rfl rfl (Nat.le_of_ble_eq_true rfl) dX1_form_75 (fun H locs hP hD hS => ?_)
      have hP : va_P D vwCl ((mw q cA cB n 1 st sz bt so fc ofs tg nw gr) ++ wr) H := hP
      have hD : va_D A ((mw q cA cB n 1 st sz bt so fc ofs tg nw gr) ++ wr) := hD
      refine lv_aload_n hx hb dX1_form_78 rfl (lv_at hl 1 rfl) ?_
      refine va_get (D := D) (ci := 1) (v := .int (nI (1))) (C := RX1) (T := TX1) (N := 11) hx hb hts hin hown hK hP 0 rfl rfl 8 (by decide) hf35 (fun _ h9 => h9) rfl dX1_form_79 ?_
      refine gi_if_le (tgt := 87) hx hb (by omega) dX1_form_82 rfl (fun h9 => absurd h9 (by omega)) (fun h82 => ?_)
      refine lv_iconst (v := nI (0)) hx hb dX1_form_85 (by decide) ?_
      exact gi_iret hx hb hlk hr dX1_form_86 (rfl) hP hS
    · refine lv_iload_n hx hb dX1_form_11 rfl (lv_at hl 2 rfl) ?_
      refine lv_iconst (v := nI (1)) hx hb dX1_form_12 (by decide) ?_
      refine lv_icmp_lt (tgt := 35) hx hb dX1_form_13 rfl (fun h13 => ?_) (fun h13 => ?_)
      · refine lv_iconst (v := nI (0)) hx hb dX1_form_35 (by decide) ?_
        refine lv_istore (lv' := [(4, .int (nI (0))), (0, .ref (q 0)), (1, .int (x)), (2, .int (y)), (3, .int (z))]) hx hb dX1_form_36 hl (by decide) rfl (fun ls hl => ?_)
        refine lv_aload_n hx hb dX1_form_38 rfl (lv_at hl 1 rfl) ?_
        refine lv_iload hx hb dX1_form_39 (lv_at hl 0 rfl) ?_
        refine gi_if_ne (tgt := 48) hx hb (by omega) dX1_form_41 rfl (fun h9 => absurd h9 (by omega)) (fun h41 => ?_)
        refine lv_iconst (v := nI (1)) hx hb dX1_form_44 (by decide) ?_
        refine lv_goto (tgt := 75) hx hb dX1_form_45 rfl ?_
        refine va_put (D := D) (ci := 1) (v := .int (nI (1))) (ty := .int) (C := RX1) (T := TX1) (N := 11) hx hb hts hin tyX1 tyX1_ok nmX1 hown hK hP hD hS 0 rfl rfl 8 (by decide) hf35 (fun _ h9 => h9) rfl (by decide +kernel) rfl rfl (Nat.le_of_ble_eq_true rfl) dX1_form_75 (fun H locs hP hD hS => ?_)
        have hP : va_P D vwCl ((mw q cA cB n 1 st sz bt so fc ofs tg nw gr) ++ wr) H := hP
        have hD : va_D A ((mw q cA cB n 1 st sz bt so fc ofs tg nw gr) ++ wr) := hD
        refine lv_aload_n hx hb dX1_form_78 rfl (lv_at hl 1 rfl) ?_
        refine va_get (D := D) (ci := 1) (v := .int (nI (1))) (C := RX1) (T := TX1) (N := 11) hx hb hts hin hown hK hP 0 rfl rfl 8 (by decide) hf35 (fun _ h9 => h9) rfl dX1_form_79 ?_
        refine gi_if_le (tgt := 87) hx hb (by omega) dX1_form_82 rfl (fun h9 => absurd h9 (by omega)) (fun h82 => ?_)
        refine lv_iconst (v := nI (0)) hx hb dX1_form_85 (by decide) ?_
        exact gi_iret hx hb hlk hr dX1_form_86 (rfl) hP hS
      · refine lv_iload_n hx hb dX1_form_16 rfl (lv_at hl 2 rfl) ?_
        refine lv_bipush (v := nI (32)) hx hb dX1_form_17 (by decide) ?_
        refine lv_icmp_gt (tgt := 35) hx hb dX1_form_19 rfl (fun h19 => ?_) (fun h19 => ?_)
        · refine lv_iconst (v := nI (0)) hx hb dX1_form_35 (by decide) ?_
          refine lv_istore (lv' := [(4, .int (nI (0))), (0, .ref (q 0)), (1, .int (x)), (2, .int (y)), (3, .int (z))]) hx hb dX1_form_36 hl (by decide) rfl (fun ls hl => ?_)
          refine lv_aload_n hx hb dX1_form_38 rfl (lv_at hl 1 rfl) ?_
          refine lv_iload hx hb dX1_form_39 (lv_at hl 0 rfl) ?_
          refine gi_if_ne (tgt := 48) hx hb (by omega) dX1_form_41 rfl (fun h9 => absurd h9 (by omega)) (fun h41 => ?_)
          refine lv_iconst (v := nI (1)) hx hb dX1_form_44 (by decide) ?_
          refine lv_goto (tgt := 75) hx hb dX1_form_45 rfl ?_
          refine va_put (D := D) (ci := 1) (v := .int (nI (1))) (ty := .int) (C := RX1) (T := TX1) (N := 11) hx hb hts hin tyX1 tyX1_ok nmX1 hown hK hP hD hS 0 rfl rfl 8 (by decide) hf35 (fun _ h9 => h9) rfl (by decide +kernel) rfl rfl (Nat.le_of_ble_eq_true rfl) dX1_form_75 (fun H locs hP hD hS => ?_)
          have hP : va_P D vwCl ((mw q cA cB n 1 st sz bt so fc ofs tg nw gr) ++ wr) H := hP
          have hD : va_D A ((mw q cA cB n 1 st sz bt so fc ofs tg nw gr) ++ wr) := hD
          refine lv_aload_n hx hb dX1_form_78 rfl (lv_at hl 1 rfl) ?_
          refine va_get (D := D) (ci := 1) (v := .int (nI (1))) (C := RX1) (T := TX1) (N := 11) hx hb hts hin hown hK hP 0 rfl rfl 8 (by decide) hf35 (fun _ h9 => h9) rfl dX1_form_79 ?_
          refine gi_if_le (tgt := 87) hx hb (by omega) dX1_form_82 rfl (fun h9 => absurd h9 (by omega)) (fun h82 => ?_)
          refine lv_iconst (v := nI (0)) hx hb dX1_form_85 (by decide) ?_
          exact gi_iret hx hb hlk hr dX1_form_86 (rfl) hP hS
        · refine lv_iload_n hx hb dX1_form_22 rfl (lv_at hl 3 rfl) ?_
          refine lv_if_lt (tgt := 35) hx hb dX1_form_23 rfl (fun h23 => ?_) (fun h23 => ?_)
          · refine lv_iconst (v := nI (0)) hx hb dX1_form_35 (by decide) ?_
            refine lv_istore (lv' := [(4, .int (nI (0))), (0, .ref (q 0)), (1, .int (x)), (2, .int (y)), (3, .int (z))]) hx hb dX1_form_36 hl (by decide) rfl (fun ls hl => ?_)
            refine lv_aload_n hx hb dX1_form_38 rfl (lv_at hl 1 rfl) ?_
            refine lv_iload hx hb dX1_form_39 (lv_at hl 0 rfl) ?_
            refine gi_if_ne (tgt := 48) hx hb (by omega) dX1_form_41 rfl (fun h9 => absurd h9 (by omega)) (fun h41 => ?_)
            refine lv_iconst (v := nI (1)) hx hb dX1_form_44 (by decide) ?_
            refine lv_goto (tgt := 75) hx hb dX1_form_45 rfl ?_
            refine va_put (D := D) (ci := 1) (v := .int (nI (1))) (ty := .int) (C := RX1) (T := TX1) (N := 11) hx hb hts hin tyX1 tyX1_ok nmX1 hown hK hP hD hS 0 rfl rfl 8 (by decide) hf35 (fun _ h9 => h9) rfl (by decide +kernel) rfl rfl (Nat.le_of_ble_eq_true rfl) dX1_form_75 (fun H locs hP hD hS => ?_)
            have hP : va_P D vwCl ((mw q cA cB n 1 st sz bt so fc ofs tg nw gr) ++ wr) H := hP
            have hD : va_D A ((mw q cA cB n 1 st sz bt so fc ofs tg nw gr) ++ wr) := hD
            refine lv_aload_n hx hb dX1_form_78 rfl (lv_at hl 1 rfl) ?_
            refine va_get (D := D) (ci := 1) (v := .int (nI (1))) (C := RX1) (T := TX1) (N := 11) hx hb hts hin hown hK hP 0 rfl rfl 8 (by decide) hf35 (fun _ h9 => h9) rfl dX1_form_79 ?_
            refine gi_if_le (tgt := 87) hx hb (by omega) dX1_form_82 rfl (fun h9 => absurd h9 (by omega)) (fun h82 => ?_)
            refine lv_iconst (v := nI (0)) hx hb dX1_form_85 (by decide) ?_
            exact gi_iret hx hb hlk hr dX1_form_86 (rfl) hP hS
          · refine lv_iload_n hx hb dX1_form_26 rfl (lv_at hl 3 rfl) ?_
            refine lv_iconst (v := nI (2)) hx hb dX1_form_27 (by decide) ?_
            refine lv_icmp_gt (tgt := 35) hx hb dX1_form_28 rfl (fun h28 => ?_) (fun h28 => ?_)
            · refine lv_iconst (v := nI (0)) hx hb dX1_form_35 (by decide) ?_
              refine lv_istore (lv' := [(4, .int (nI (0))), (0, .ref (q 0)), (1, .int (x)), (2, .int (y)), (3, .int (z))]) hx hb dX1_form_36 hl (by decide) rfl (fun ls hl => ?_)
              refine lv_aload_n hx hb dX1_form_38 rfl (lv_at hl 1 rfl) ?_
              refine lv_iload hx hb dX1_form_39 (lv_at hl 0 rfl) ?_
              refine gi_if_ne (tgt := 48) hx hb (by omega) dX1_form_41 rfl (fun h9 => absurd h9 (by omega)) (fun h41 => ?_)
              refine lv_iconst (v := nI (1)) hx hb dX1_form_44 (by decide) ?_
              refine lv_goto (tgt := 75) hx hb dX1_form_45 rfl ?_
              refine va_put (D := D) (ci := 1) (v := .int (nI (1))) (ty := .int) (C := RX1) (T := TX1) (N := 11) hx hb hts hin tyX1 tyX1_ok nmX1 hown hK hP hD hS 0 rfl rfl 8 (by decide) hf35 (fun _ h9 => h9) rfl (by decide +kernel) rfl rfl (Nat.le_of_ble_eq_true rfl) dX1_form_75 (fun H locs hP hD hS => ?_)
              have hP : va_P D vwCl ((mw q cA cB n 1 st sz bt so fc ofs tg nw gr) ++ wr) H := hP
              have hD : va_D A ((mw q cA cB n 1 st sz bt so fc ofs tg nw gr) ++ wr) := hD
              refine lv_aload_n hx hb dX1_form_78 rfl (lv_at hl 1 rfl) ?_
              refine va_get (D := D) (ci := 1) (v := .int (nI (1))) (C := RX1) (T := TX1) (N := 11) hx hb hts hin hown hK hP 0 rfl rfl 8 (by decide) hf35 (fun _ h9 => h9) rfl dX1_form_79 ?_
              refine gi_if_le (tgt := 87) hx hb (by omega) dX1_form_82 rfl (fun h9 => absurd h9 (by omega)) (fun h82 => ?_)
              refine lv_iconst (v := nI (0)) hx hb dX1_form_85 (by decide) ?_
              exact gi_iret hx hb hlk hr dX1_form_86 (rfl) hP hS
            · exact absurd (show gf_isf x y z = true from decide_eq_true ⟨h2, h8, h13, h19, h23, h28⟩) (gf_ne_tf hf)
set_option maxHeartbeats 4000000 in
set_option maxRecDepth 100000 in
theorem ok_X1_aim (l : Launch) (D : va_G) (cA cB cL : ClassId) (A : Nat → Prop) (wr : va_W) (q : Nat → Nat) (n th : Nat) (st : Bool) (sz bt so fc : Nat → Nat) (ofs : Nat → Int32) (tg nw : Nat → Nat) (gr : Nat → Int32) (i t : Nat) (o : Int32) (hn : n ≤ 120) (hi : i < n) (ht : t ≤ n) : Met l yX1_aim wsX1_aim ({ frames := 0, cells := 0, slots := 0, locals := 0 }) (gPre D vwCl [(cA, .int), (cB, .boolean), (cL, .long)] ((mw q cA cB n th st sz bt so fc ofs tg nw gr) ++ wr) A [.ref (q 0), .int (nI (i)), .int (nI (t)), .int (o)]) (gPost none D vwCl ((mw q cA cB n 0 false sz bt so fc (upd ofs i o) (gU tg i t) nw gr) ++ wr) A) 0 0 A := by
  refine Met.ofW (cc := cX1_aim) (maxL := 4) (ret := none) (by decide) rfl ?_
  intro p e s m args below meth c s₁ B hml hv
  obtain ⟨rfl, hP, hK, hD⟩ := hv
  have hx := B.exec
  have hb := B.bytes
  have hr := B.returns
  have hlk := B.notSynchronized
  have hts := atoms_spec (ws := wsX1_aim) B.pre
  have hown : s.vm.findClass RX1 = some m.cls := findClass_of_methodNamed B.named
  have hS : va_S A s.heap s.heap [] := va_S.rf
  have hl := lv_entry ([.ref (q 0), .int (nI (i)), .int (nI (t)), .int (o)]) (n := 4) (Nat.le_of_ble_eq_true rfl)
  rw [lg_entry_eq]
  generalize (lg_sl ([.ref (q 0), .int (nI (i)), .int (nI (t)), .int (o)]) ++ List.replicate (4 - (lg_sl ([.ref (q 0), .int (nI (i)), .int (nI (t)), .int (o)])).length) Slot.unset).toArray = ls at hl ⊢
  have hl : lv_has ls 4 [(0, .ref (q 0)), (1, .int (nI (i))), (2, .int (nI (t))), (3, .int (o))] := hl
  have hin : ∀ w ∈ u_ws RX1 TX1 11, w ∈ wsX1_aim := fun w h => List.mem_cons_of_mem _ (inTX1 w h)
  have hf22 := hts _ (List.mem_cons_of_mem _ tfX1_22)
  have hf25 := hts _ (List.mem_cons_of_mem _ tfX1_25)
  have hf35 := hts _ (List.mem_cons_of_mem _ tfX1_35)
  have hf39 := hts _ (List.mem_cons_of_mem _ tfX1_39)
  have hf42 := hts _ (List.mem_cons_of_mem _ tfX1_42)
  refine lv_aload_n hx hb dX1_aim_0 rfl (lv_at hl 0 rfl) ?_
  refine lv_iload_n hx hb dX1_aim_1 rfl (lv_at hl 1 rfl) ?_
  refine gi_if_lt (tgt := 25) hx hb (by omega) dX1_aim_2 rfl (fun h9 => absurd h9 (by omega)) (fun h2 => ?_)
  refine lv_iload_n hx hb dX1_aim_5 rfl (lv_at hl 1 rfl) ?_
  refine lv_aload_n hx hb dX1_aim_6 rfl (lv_at hl 0 rfl) ?_
  refine va_get (D := D) (ci := 1) (v := .int (nI (n))) (C := RX1) (T := TX1) (N := 11) hx hb hts hin hown hK hP 0 rfl rfl 7 (by decide) hf39 (fun _ h9 => h9) rfl dX1_aim_7 ?_
  refine gi_icmp_ge (tgt := 25) hx hb (by omega) (by omega) dX1_aim_10 rfl (fun h9 => absurd h9 (by omega)) (fun h10 => ?_)
  refine lv_iload_n hx hb dX1_aim_13 rfl (lv_at hl 2 rfl) ?_
  refine gi_if_lt (tgt := 25) hx hb (by omega) dX1_aim_14 rfl (fun h9 => absurd h9 (by omega)) (fun h14 => ?_)
  refine lv_iload_n hx hb dX1_aim_17 rfl (lv_at hl 2 rfl) ?_
  refine lv_aload_n hx hb dX1_aim_18 rfl (lv_at hl 0 rfl) ?_
  refine va_get (D := D) (ci := 1) (v := .int (nI (n))) (C := RX1) (T := TX1) (N := 11) hx hb hts hin hown hK hP 0 rfl rfl 7 (by decide) hf39 (fun _ h9 => h9) rfl dX1_aim_19 ?_
  refine gi_icmp_le (tgt := 29) hx hb (by omega) (by omega) dX1_aim_22 rfl (fun h22 => ?_) (fun h9 => absurd h9 (by omega))
  refine lv_iconst (v := nI (0)) hx hb dX1_aim_29 (by decide) ?_
  refine va_put (D := D) (ci := 1) (v := .int (nI (0))) (ty := .int) (C := RX1) (T := TX1) (N := 11) hx hb hts hin tyX1 tyX1_ok nmX1 hown hK hP hD hS 0 rfl rfl 8 (by decide) hf35 (fun _ h9 => h9) rfl (by decide +kernel) rfl rfl (Nat.le_of_ble_eq_true rfl) dX1_aim_30 (fun H locs hP hD hS => ?_)
  have hP : va_P D vwCl ((mw q cA cB n 0 st sz bt so fc ofs tg nw gr) ++ wr) H := hP
  have hD : va_D A ((mw q cA cB n 0 st sz bt so fc ofs tg nw gr) ++ wr) := hD
  refine lv_aload_n hx hb dX1_aim_33 rfl (lv_at hl 0 rfl) ?_
  refine va_get (D := D) (ci := 1) (v := .int (nI (0))) (C := RX1) (T := TX1) (N := 11) hx hb hts hin hown hK hP 0 rfl rfl 8 (by decide) hf35 (fun _ h9 => h9) rfl dX1_aim_34 ?_
  refine gi_if_le (tgt := 41) hx hb (by omega) dX1_aim_37 rfl (fun h37 => ?_) (fun h9 => absurd h9 (by omega))
  refine lv_aload_n hx hb dX1_aim_41 rfl (lv_at hl 0 rfl) ?_
  refine va_get (D := D) (ci := 1) (v := .ref (q 5)) (C := RX1) (T := TX1) (N := 11) hx hb hts hin hown hK hP 0 rfl rfl 4 (by decide) hf22 (fun _ h9 => h9) rfl dX1_aim_42 ?_
  refine lv_iload_n hx hb dX1_aim_45 rfl (lv_at hl 1 rfl) ?_
  refine lv_iload_n hx hb dX1_aim_46 rfl (lv_at hl 2 rfl) ?_
  refine gi_ast hx hb hK hP hD hS 5 0 tg rfl rfl (by omega) (by decide) dX1_aim_47 (fun H locs hP hD hS => ?_)
  have hP : va_P D vwCl ((mw q cA cB n 0 st sz bt so fc ofs (gU tg i t) nw gr) ++ wr) H := hP
  have hD : va_D A ((mw q cA cB n 0 st sz bt so fc ofs (gU tg i t) nw gr) ++ wr) := hD
  refine lv_aload_n hx hb dX1_aim_48 rfl (lv_at hl 0 rfl) ?_
  refine va_get (D := D) (ci := 1) (v := .ref (q 6)) (C := RX1) (T := TX1) (N := 11) hx hb hts hin hown hK hP 0 rfl rfl 5 (by decide) hf25 (fun _ h9 => h9) rfl dX1_aim_49 ?_
  refine lv_iload_n hx hb dX1_aim_52 rfl (lv_at hl 1 rfl) ?_
  refine lv_iload_n hx hb dX1_aim_53 rfl (lv_at hl 3 rfl) ?_
  refine gi_astI hx hb hK hP hD hS 6 0 ofs rfl rfl (by omega) (by decide) dX1_aim_54 (fun H locs hP hD hS => ?_)
  have hP : va_P D vwCl ((mw q cA cB n 0 st sz bt so fc (upd ofs i ((o))) (gU tg i t) nw gr) ++ wr) H := hP
  have hD : va_D A ((mw q cA cB n 0 st sz bt so fc (upd ofs i ((o))) (gU tg i t) nw gr) ++ wr) := hD
  refine lv_aload_n hx hb dX1_aim_55 rfl (lv_at hl 0 rfl) ?_
  refine lv_iconst (v := nI (0)) hx hb dX1_aim_56 (by decide) ?_
  refine va_put (D := D) (ci := 1) (v := .int (bI (false))) (ty := .boolean) (C := RX1) (T := TX1) (N := 11) hx hb hts hin tyX1 tyX1_ok nmX1 hown hK hP hD hS 0 rfl rfl 9 (by decide) hf42 (fun _ h9 => h9) rfl (by decide +kernel) (bI_nar _) (bI_fits _) (Nat.le_of_ble_eq_true rfl) dX1_aim_57 (fun H locs hP hD hS => ?_)
  have hP : va_P D vwCl ((mw q cA cB n 0 false sz bt so fc (upd ofs i ((o))) (gU tg i t) nw gr) ++ wr) H := hP
  have hD : va_D A ((mw q cA cB n 0 false sz bt so fc (upd ofs i ((o))) (gU tg i t) nw gr) ++ wr) := hD
  exact gi_vret hx hb hlk hr dX1_aim_60 hP hS
set_option maxHeartbeats 4000000 in
set_option maxRecDepth 100000 in
theorem ex_X1_aim (l : Launch) (D : va_G) (cA cB cL : ClassId) (A : Nat → Prop) (wr : va_W) (q : Nat → Nat) (n th : Nat) (st : Bool) (sz bt so fc : Nat → Nat) (ofs : Nat → Int32) (tg nw : Nat → Nat) (gr : Nat → Int32) (x y o : Int32) (hf : gf_isl n x = false ∨ gf_ile n y = false) : Met l yX1_aim wsX1_aim ({ frames := 0, cells := 0, slots := 0, locals := 0 }) (gPre D vwCl [(cA, .int), (cB, .boolean), (cL, .long)] ((mw q cA cB n th st sz bt so fc ofs tg nw gr) ++ wr) A [.ref (q 0), .int (x), .int (y), .int (o)]) (gPost none D vwCl ((mw q cA cB n 1 st sz bt so fc ofs tg nw gr) ++ wr) A) 0 0 A := by
  refine Met.ofW (cc := cX1_aim) (maxL := 4) (ret := none) (by decide) rfl ?_
  intro p e s m args below meth c s₁ B hml hv
  obtain ⟨rfl, hP, hK, hD⟩ := hv
  have hx := B.exec
  have hb := B.bytes
  have hr := B.returns
  have hlk := B.notSynchronized
  have hts := atoms_spec (ws := wsX1_aim) B.pre
  have hown : s.vm.findClass RX1 = some m.cls := findClass_of_methodNamed B.named
  have hS : va_S A s.heap s.heap [] := va_S.rf
  have hl := lv_entry ([.ref (q 0), .int (x), .int (y), .int (o)]) (n := 4) (Nat.le_of_ble_eq_true rfl)
  rw [lg_entry_eq]
  generalize (lg_sl ([.ref (q 0), .int (x), .int (y), .int (o)]) ++ List.replicate (4 - (lg_sl ([.ref (q 0), .int (x), .int (y), .int (o)])).length) Slot.unset).toArray = ls at hl ⊢
  have hl : lv_has ls 4 [(0, .ref (q 0)), (1, .int (x)), (2, .int (y)), (3, .int (o))] := hl
  have hin : ∀ w ∈ u_ws RX1 TX1 11, w ∈ wsX1_aim := fun w h => List.mem_cons_of_mem _ (inTX1 w h)
  have hf22 := hts _ (List.mem_cons_of_mem _ tfX1_22)
  have hf25 := hts _ (List.mem_cons_of_mem _ tfX1_25)
  have hf35 := hts _ (List.mem_cons_of_mem _ tfX1_35)
  have hf39 := hts _ (List.mem_cons_of_mem _ tfX1_39)
  have hf42 := hts _ (List.mem_cons_of_mem _ tfX1_42)
  refine lv_aload_n hx hb dX1_aim_0 rfl (lv_at hl 0 rfl) ?_
  refine lv_iload_n hx hb dX1_aim_1 rfl (lv_at hl 1 rfl) ?_
  refine lv_if_lt (tgt := 25) hx hb dX1_aim_2 rfl (fun h2 => ?_) (fun h2 => ?_)
  · refine lv_iconst (v := nI (1)) hx hb dX1_aim_25 (by decide) ?_
    refine lv_goto (tgt := 30) hx hb dX1_aim_26 rfl ?_
    refine va_put (D := D) (ci := 1) (v := .int (nI (1))) (ty := .int) (C := RX1) (T := TX1) (N := 11) hx hb hts hin tyX1 tyX1_ok nmX1 hown hK hP hD hS 0 rfl rfl 8 (by decide) hf35 (fun _ h9 => h9) rfl (by decide +kernel) rfl rfl (Nat.le_of_ble_eq_true rfl) dX1_aim_30 (fun H locs hP hD hS => ?_)
    have hP : va_P D vwCl ((mw q cA cB n 1 st sz bt so fc ofs tg nw gr) ++ wr) H := hP
    have hD : va_D A ((mw q cA cB n 1 st sz bt so fc ofs tg nw gr) ++ wr) := hD
    refine lv_aload_n hx hb dX1_aim_33 rfl (lv_at hl 0 rfl) ?_
    refine va_get (D := D) (ci := 1) (v := .int (nI (1))) (C := RX1) (T := TX1) (N := 11) hx hb hts hin hown hK hP 0 rfl rfl 8 (by decide) hf35 (fun _ h9 => h9) rfl dX1_aim_34 ?_
    refine gi_if_le (tgt := 41) hx hb (by omega) dX1_aim_37 rfl (fun h9 => absurd h9 (by omega)) (fun h37 => ?_)
    exact gi_vret hx hb hlk hr dX1_aim_40 hP hS
  · refine lv_iload_n hx hb dX1_aim_5 rfl (lv_at hl 1 rfl) ?_
    refine lv_aload_n hx hb dX1_aim_6 rfl (lv_at hl 0 rfl) ?_
    refine va_get (D := D) (ci := 1) (v := .int (nI (n))) (C := RX1) (T := TX1) (N := 11) hx hb hts hin hown hK hP 0 rfl rfl 7 (by decide) hf39 (fun _ h9 => h9) rfl dX1_aim_7 ?_
    refine lv_icmp_ge (tgt := 25) hx hb dX1_aim_10 rfl (fun h10 => ?_) (fun h10 => ?_)
    · refine lv_iconst (v := nI (1)) hx hb dX1_aim_25 (by decide) ?_
      refine lv_goto (tgt := 30) hx hb dX1_aim_26 rfl ?_
      refine va_put (D := D) (ci := 1) (v := .int (nI (1))) (ty := .int) (C := RX1) (T := TX1) (N := 11) hx hb hts hin tyX1 tyX1_ok nmX1 hown hK hP hD hS 0 rfl rfl 8 (by decide) hf35 (fun _ h9 => h9) rfl (by decide +kernel) rfl rfl (Nat.le_of_ble_eq_true rfl) dX1_aim_30 (fun H locs hP hD hS => ?_)
      have hP : va_P D vwCl ((mw q cA cB n 1 st sz bt so fc ofs tg nw gr) ++ wr) H := hP
      have hD : va_D A ((mw q cA cB n 1 st sz bt so fc ofs tg nw gr) ++ wr) := hD
      refine lv_aload_n hx hb dX1_aim_33 rfl (lv_at hl 0 rfl) ?_
      refine va_get (D := D) (ci := 1) (v := .int (nI (1))) (C := RX1) (T := TX1) (N := 11) hx hb hts hin hown hK hP 0 rfl rfl 8 (by decide) hf35 (fun _ h9 => h9) rfl dX1_aim_34 ?_
      refine gi_if_le (tgt := 41) hx hb (by omega) dX1_aim_37 rfl (fun h9 => absurd h9 (by omega)) (fun h37 => ?_)
      exact gi_vret hx hb hlk hr dX1_aim_40 hP hS
    · refine lv_iload_n hx hb dX1_aim_13 rfl (lv_at hl 2 rfl) ?_
      refine lv_if_lt (tgt := 25) hx hb dX1_aim_14 rfl (fun h14 => ?_) (fun h14 => ?_)
      · refine lv_iconst (v := nI (1)) hx hb dX1_aim_25 (by decide) ?_
        refine lv_goto (tgt := 30) hx hb dX1_aim_26 rfl ?_
        refine va_put (D := D) (ci := 1) (v := .int (nI (1))) (ty := .int) (C := RX1) (T := TX1) (N := 11) hx hb hts hin tyX1 tyX1_ok nmX1 hown hK hP hD hS 0 rfl rfl 8 (by decide) hf35 (fun _ h9 => h9) rfl (by decide +kernel) rfl rfl (Nat.le_of_ble_eq_true rfl) dX1_aim_30 (fun H locs hP hD hS => ?_)
        have hP : va_P D vwCl ((mw q cA cB n 1 st sz bt so fc ofs tg nw gr) ++ wr) H := hP
        have hD : va_D A ((mw q cA cB n 1 st sz bt so fc ofs tg nw gr) ++ wr) := hD
        refine lv_aload_n hx hb dX1_aim_33 rfl (lv_at hl 0 rfl) ?_
        refine va_get (D := D) (ci := 1) (v := .int (nI (1))) (C := RX1) (T := TX1) (N := 11) hx hb hts hin hown hK hP 0 rfl rfl 8 (by decide) hf35 (fun _ h9 => h9) rfl dX1_aim_34 ?_
        refine gi_if_le (tgt := 41) hx hb (by omega) dX1_aim_37 rfl (fun h9 => absurd h9 (by omega)) (fun h37 => ?_)
        exact gi_vret hx hb hlk hr dX1_aim_40 hP hS
      · refine lv_iload_n hx hb dX1_aim_17 rfl (lv_at hl 2 rfl) ?_
        refine lv_aload_n hx hb dX1_aim_18 rfl (lv_at hl 0 rfl) ?_
        refine va_get (D := D) (ci := 1) (v := .int (nI (n))) (C := RX1) (T := TX1) (N := 11) hx hb hts hin hown hK hP 0 rfl rfl 7 (by decide) hf39 (fun _ h9 => h9) rfl dX1_aim_19 ?_
        refine lv_icmp_le (tgt := 29) hx hb dX1_aim_22 rfl (fun h22 => ?_) (fun h22 => ?_)
        · exact hf.elim (fun z9 => absurd (show gf_isl n x = true from decide_eq_true ⟨h2, h10⟩) (gf_ne_tf z9)) (fun z9 => absurd (show gf_ile n y = true from decide_eq_true ⟨h14, i32_nlt h22⟩) (gf_ne_tf z9))
        · refine lv_iconst (v := nI (1)) hx hb dX1_aim_25 (by decide) ?_
          refine lv_goto (tgt := 30) hx hb dX1_aim_26 rfl ?_
          refine va_put (D := D) (ci := 1) (v := .int (nI (1))) (ty := .int) (C := RX1) (T := TX1) (N := 11) hx hb hts hin tyX1 tyX1_ok nmX1 hown hK hP hD hS 0 rfl rfl 8 (by decide) hf35 (fun _ h9 => h9) rfl (by decide +kernel) rfl rfl (Nat.le_of_ble_eq_true rfl) dX1_aim_30 (fun H locs hP hD hS => ?_)
          have hP : va_P D vwCl ((mw q cA cB n 1 st sz bt so fc ofs tg nw gr) ++ wr) H := hP
          have hD : va_D A ((mw q cA cB n 1 st sz bt so fc ofs tg nw gr) ++ wr) := hD
          refine lv_aload_n hx hb dX1_aim_33 rfl (lv_at hl 0 rfl) ?_
          refine va_get (D := D) (ci := 1) (v := .int (nI (1))) (C := RX1) (T := TX1) (N := 11) hx hb hts hin hown hK hP 0 rfl rfl 8 (by decide) hf35 (fun _ h9 => h9) rfl dX1_aim_34 ?_
          refine gi_if_le (tgt := 41) hx hb (by omega) dX1_aim_37 rfl (fun h9 => absurd h9 (by omega)) (fun h37 => ?_)
          exact gi_vret hx hb hlk hr dX1_aim_40 hP hS
set_option maxHeartbeats 4000000 in
set_option maxRecDepth 100000 in
theorem ex3_X1_told (l : Launch) (D : va_G) (cA cB cL : ClassId) (A : Nat → Prop) (wr : va_W) (q : Nat → Nat) (n th : Nat) (st : Bool) (sz bt so fc : Nat → Nat) (ofs : Nat → Int32) (tg nw : Nat → Nat) (gr : Nat → Int32) (x w : Int32) (hwt : w < 0 ∨ nI 2 < w) : Met l yX1_told wsX1_told ({ frames := 3, cells := 0, slots := 0, locals := 72 }) (gPre D vwCl [(cA, .int), (cB, .boolean), (cL, .long)] ((mw q cA cB n th st sz bt so fc ofs tg nw gr) ++ wr) A [.ref (q 0), .int (x), .int (w)]) (gPost (some (.int (nI (0)))) D vwCl ((mw q cA cB n 3 st sz bt so fc ofs tg nw gr) ++ wr) A) 0 0 A := by
  refine Met.ofW (cc := cX1_told) (maxL := 3) (ret := (some .int)) (by decide) rfl ?_
  intro p e s m args below meth c s₁ B hml hv
  obtain ⟨rfl, hP, hK, hD⟩ := hv
  have hx := B.exec
  have hb := B.bytes
  have hr := B.returns
  have hlk := B.notSynchronized
  have hts := atoms_spec (ws := wsX1_told) B.pre
  have hown : s.vm.findClass RX1 = some m.cls := findClass_of_methodNamed B.named
  have hS : va_S A s.heap s.heap [] := va_S.rf
  have hl := lv_entry ([.ref (q 0), .int (x), .int (w)]) (n := 3) (Nat.le_of_ble_eq_true rfl)
  rw [lg_entry_eq]
  generalize (lg_sl ([.ref (q 0), .int (x), .int (w)]) ++ List.replicate (3 - (lg_sl ([.ref (q 0), .int (x), .int (w)])).length) Slot.unset).toArray = ls at hl ⊢
  have hl : lv_has ls 3 [(0, .ref (q 0)), (1, .int (x)), (2, .int (w))] := hl
  have hin : ∀ w ∈ u_ws RX1 TX1 11, w ∈ wsX1_told := fun w h => List.mem_cons_of_mem _ (inTX1 w h)
  have hf9 := hts _ (List.mem_cons_of_mem _ tfX1_9)
  have hf28 := hts _ (List.mem_cons_of_mem _ tfX1_28)
  have hf35 := hts _ (List.mem_cons_of_mem _ tfX1_35)
  have hf39 := hts _ (List.mem_cons_of_mem _ tfX1_39)
  have hf42 := hts _ (List.mem_cons_of_mem _ tfX1_42)
  refine lv_aload_n hx hb dX1_told_0 rfl (lv_at hl 0 rfl) ?_
  refine lv_iload_n hx hb dX1_told_1 rfl (lv_at hl 2 rfl) ?_
  refine lv_if_lt (tgt := 10) hx hb dX1_told_2 rfl (fun h2 => ?_) (fun h2 => ?_)
  · refine lv_iconst (v := nI (3)) hx hb dX1_told_10 (by decide) ?_
    refine lv_goto (tgt := 54) hx hb dX1_told_11 rfl ?_
    refine va_put (D := D) (ci := 1) (v := .int (nI (3))) (ty := .int) (C := RX1) (T := TX1) (N := 11) hx hb hts hin tyX1 tyX1_ok nmX1 hown hK hP hD hS 0 rfl rfl 8 (by decide) hf35 (fun _ h9 => h9) rfl (by decide +kernel) rfl rfl (Nat.le_of_ble_eq_true rfl) dX1_told_54 (fun H locs hP hD hS => ?_)
    have hP : va_P D vwCl ((mw q cA cB n 3 st sz bt so fc ofs tg nw gr) ++ wr) H := hP
    have hD : va_D A ((mw q cA cB n 3 st sz bt so fc ofs tg nw gr) ++ wr) := hD
    refine lv_aload_n hx hb dX1_told_57 rfl (lv_at hl 0 rfl) ?_
    refine va_get (D := D) (ci := 1) (v := .int (nI (3))) (C := RX1) (T := TX1) (N := 11) hx hb hts hin hown hK hP 0 rfl rfl 8 (by decide) hf35 (fun _ h9 => h9) rfl dX1_told_58 ?_
    refine gi_if_le (tgt := 66) hx hb (by omega) dX1_told_61 rfl (fun h9 => absurd h9 (by omega)) (fun h61 => ?_)
    refine lv_iconst (v := nI (0)) hx hb dX1_told_64 (by decide) ?_
    exact gi_iret hx hb hlk hr dX1_told_65 (rfl) hP hS
  · refine lv_iload_n hx hb dX1_told_5 rfl (lv_at hl 2 rfl) ?_
    refine lv_iconst (v := nI (2)) hx hb dX1_told_6 (by decide) ?_
    refine lv_icmp_le (tgt := 14) hx hb dX1_told_7 rfl (fun h9 => absurd h9 (fun z9 => hwt.elim h2 (i32_nlt z9))) (fun h7 => ?_)
    refine lv_iconst (v := nI (3)) hx hb dX1_told_10 (by decide) ?_
    refine lv_goto (tgt := 54) hx hb dX1_told_11 rfl ?_
    refine va_put (D := D) (ci := 1) (v := .int (nI (3))) (ty := .int) (C := RX1) (T := TX1) (N := 11) hx hb hts hin tyX1 tyX1_ok nmX1 hown hK hP hD hS 0 rfl rfl 8 (by decide) hf35 (fun _ h9 => h9) rfl (by decide +kernel) rfl rfl (Nat.le_of_ble_eq_true rfl) dX1_told_54 (fun H locs hP hD hS => ?_)
    have hP : va_P D vwCl ((mw q cA cB n 3 st sz bt so fc ofs tg nw gr) ++ wr) H := hP
    have hD : va_D A ((mw q cA cB n 3 st sz bt so fc ofs tg nw gr) ++ wr) := hD
    refine lv_aload_n hx hb dX1_told_57 rfl (lv_at hl 0 rfl) ?_
    refine va_get (D := D) (ci := 1) (v := .int (nI (3))) (C := RX1) (T := TX1) (N := 11) hx hb hts hin hown hK hP 0 rfl rfl 8 (by decide) hf35 (fun _ h9 => h9) rfl dX1_told_58 ?_
    refine gi_if_le (tgt := 66) hx hb (by omega) dX1_told_61 rfl (fun h9 => absurd h9 (by omega)) (fun h61 => ?_)
    refine lv_iconst (v := nI (0)) hx hb dX1_told_64 (by decide) ?_
    exact gi_iret hx hb hlk hr dX1_told_65 (rfl) hP hS
set_option maxHeartbeats 4000000 in
set_option maxRecDepth 100000 in
theorem ex1_X1_told (l : Launch) (D : va_G) (cA cB cL : ClassId) (A : Nat → Prop) (wr : va_W) (q : Nat → Nat) (n th : Nat) (sz bt so fc : Nat → Nat) (ofs : Nat → Int32) (tg nw : Nat → Nat) (gr : Nat → Int32) (x : Int32) (w : Nat) (hw2 : w ≤ 2) : Met l yX1_told wsX1_told ({ frames := 3, cells := 0, slots := 0, locals := 72 }) (gPre D vwCl [(cA, .int), (cB, .boolean), (cL, .long)] ((mw q cA cB n th false sz bt so fc ofs tg nw gr) ++ wr) A [.ref (q 0), .int (x), .int (nI (w))]) (gPost (some (.int (nI (0)))) D vwCl ((mw q cA cB n 1 false sz bt so fc ofs tg nw gr) ++ wr) A) 0 0 A := by
  refine Met.ofW (cc := cX1_told) (maxL := 3) (ret := (some .int)) (by decide) rfl ?_
  intro p e s m args below meth c s₁ B hml hv
  obtain ⟨rfl, hP, hK, hD⟩ := hv
  have hx := B.exec
  have hb := B.bytes
  have hr := B.returns
  have hlk := B.notSynchronized
  have hts := atoms_spec (ws := wsX1_told) B.pre
  have hown : s.vm.findClass RX1 = some m.cls := findClass_of_methodNamed B.named
  have hS : va_S A s.heap s.heap [] := va_S.rf
  have hl := lv_entry ([.ref (q 0), .int (x), .int (nI (w))]) (n := 3) (Nat.le_of_ble_eq_true rfl)
  rw [lg_entry_eq]
  generalize (lg_sl ([.ref (q 0), .int (x), .int (nI (w))]) ++ List.replicate (3 - (lg_sl ([.ref (q 0), .int (x), .int (nI (w))])).length) Slot.unset).toArray = ls at hl ⊢
  have hl : lv_has ls 3 [(0, .ref (q 0)), (1, .int (x)), (2, .int (nI (w)))] := hl
  have hin : ∀ w ∈ u_ws RX1 TX1 11, w ∈ wsX1_told := fun w h => List.mem_cons_of_mem _ (inTX1 w h)
  have hf9 := hts _ (List.mem_cons_of_mem _ tfX1_9)
  have hf28 := hts _ (List.mem_cons_of_mem _ tfX1_28)
  have hf35 := hts _ (List.mem_cons_of_mem _ tfX1_35)
  have hf39 := hts _ (List.mem_cons_of_mem _ tfX1_39)
  have hf42 := hts _ (List.mem_cons_of_mem _ tfX1_42)
  refine lv_aload_n hx hb dX1_told_0 rfl (lv_at hl 0 rfl) ?_
  refine lv_iload_n hx hb dX1_told_1 rfl (lv_at hl 2 rfl) ?_
  refine gi_if_lt (tgt := 10) hx hb (by omega) dX1_told_2 rfl (fun h9 => absurd h9 (by omega)) (fun h2 => ?_)
  refine lv_iload_n hx hb dX1_told_5 rfl (lv_at hl 2 rfl) ?_
  refine lv_iconst (v := nI (2)) hx hb dX1_told_6 (by decide) ?_
  refine gi_icmp_le (tgt := 14) hx hb (by omega) (by omega) dX1_told_7 rfl (fun h7 => ?_) (fun h9 => absurd h9 (by omega))
  refine lv_aload_n hx hb dX1_told_14 rfl (lv_at hl 0 rfl) ?_
  refine va_get (D := D) (ci := 1) (v := .int (bI (false))) (C := RX1) (T := TX1) (N := 11) hx hb hts hin hown hK hP 0 rfl rfl 9 (by decide) hf42 (fun _ h9 => h9) rfl dX1_told_15 ?_
  refine gi_if_neb (tgt := 25) hx hb dX1_told_18 rfl (fun h9 => absurd h9 (by decide)) (fun h18 => ?_)
  refine lv_iconst (v := nI (1)) hx hb dX1_told_21 (by decide) ?_
  refine lv_goto (tgt := 54) hx hb dX1_told_22 rfl ?_
  refine va_put (D := D) (ci := 1) (v := .int (nI (1))) (ty := .int) (C := RX1) (T := TX1) (N := 11) hx hb hts hin tyX1 tyX1_ok nmX1 hown hK hP hD hS 0 rfl rfl 8 (by decide) hf35 (fun _ h9 => h9) rfl (by decide +kernel) rfl rfl (Nat.le_of_ble_eq_true rfl) dX1_told_54 (fun H locs hP hD hS => ?_)
  have hP : va_P D vwCl ((mw q cA cB n 1 false sz bt so fc ofs tg nw gr) ++ wr) H := hP
  have hD : va_D A ((mw q cA cB n 1 false sz bt so fc ofs tg nw gr) ++ wr) := hD
  refine lv_aload_n hx hb dX1_told_57 rfl (lv_at hl 0 rfl) ?_
  refine va_get (D := D) (ci := 1) (v := .int (nI (1))) (C := RX1) (T := TX1) (N := 11) hx hb hts hin hown hK hP 0 rfl rfl 8 (by decide) hf35 (fun _ h9 => h9) rfl dX1_told_58 ?_
  refine gi_if_le (tgt := 66) hx hb (by omega) dX1_told_61 rfl (fun h9 => absurd h9 (by omega)) (fun h61 => ?_)
  refine lv_iconst (v := nI (0)) hx hb dX1_told_64 (by decide) ?_
  exact gi_iret hx hb hlk hr dX1_told_65 (rfl) hP hS
set_option maxHeartbeats 4000000 in
set_option maxRecDepth 100000 in
theorem ex2_X1_told (l : Launch) (D : va_G) (cA cB cL : ClassId) (A : Nat → Prop) (wr : va_W) (q : Nat → Nat) (n th : Nat) (sz bt so fc : Nat → Nat) (ofs : Nat → Int32) (tg nw : Nat → Nat) (gr : Nat → Int32) (x : Int32) (w : Nat) (hw2 : w ≤ 2) (hx9 : gf_ile n x = false) : Met l yX1_told wsX1_told ({ frames := 3, cells := 0, slots := 0, locals := 72 }) (gPre D vwCl [(cA, .int), (cB, .boolean), (cL, .long)] ((mw q cA cB n th true sz bt so fc ofs tg nw gr) ++ wr) A [.ref (q 0), .int (x), .int (nI (w))]) (gPost (some (.int (nI (0)))) D vwCl ((mw q cA cB n 2 true sz bt so fc ofs tg nw gr) ++ wr) A) 0 0 A := by
  refine Met.ofW (cc := cX1_told) (maxL := 3) (ret := (some .int)) (by decide) rfl ?_
  intro p e s m args below meth c s₁ B hml hv
  obtain ⟨rfl, hP, hK, hD⟩ := hv
  have hx := B.exec
  have hb := B.bytes
  have hr := B.returns
  have hlk := B.notSynchronized
  have hts := atoms_spec (ws := wsX1_told) B.pre
  have hown : s.vm.findClass RX1 = some m.cls := findClass_of_methodNamed B.named
  have hS : va_S A s.heap s.heap [] := va_S.rf
  have hl := lv_entry ([.ref (q 0), .int (x), .int (nI (w))]) (n := 3) (Nat.le_of_ble_eq_true rfl)
  rw [lg_entry_eq]
  generalize (lg_sl ([.ref (q 0), .int (x), .int (nI (w))]) ++ List.replicate (3 - (lg_sl ([.ref (q 0), .int (x), .int (nI (w))])).length) Slot.unset).toArray = ls at hl ⊢
  have hl : lv_has ls 3 [(0, .ref (q 0)), (1, .int (x)), (2, .int (nI (w)))] := hl
  have hin : ∀ w ∈ u_ws RX1 TX1 11, w ∈ wsX1_told := fun w h => List.mem_cons_of_mem _ (inTX1 w h)
  have hf9 := hts _ (List.mem_cons_of_mem _ tfX1_9)
  have hf28 := hts _ (List.mem_cons_of_mem _ tfX1_28)
  have hf35 := hts _ (List.mem_cons_of_mem _ tfX1_35)
  have hf39 := hts _ (List.mem_cons_of_mem _ tfX1_39)
  have hf42 := hts _ (List.mem_cons_of_mem _ tfX1_42)
  refine lv_aload_n hx hb dX1_told_0 rfl (lv_at hl 0 rfl) ?_
  refine lv_iload_n hx hb dX1_told_1 rfl (lv_at hl 2 rfl) ?_
  refine gi_if_lt (tgt := 10) hx hb (by omega) dX1_told_2 rfl (fun h9 => absurd h9 (by omega)) (fun h2 => ?_)
  refine lv_iload_n hx hb dX1_told_5 rfl (lv_at hl 2 rfl) ?_
  refine lv_iconst (v := nI (2)) hx hb dX1_told_6 (by decide) ?_
  refine gi_icmp_le (tgt := 14) hx hb (by omega) (by omega) dX1_told_7 rfl (fun h7 => ?_) (fun h9 => absurd h9 (by omega))
  refine lv_aload_n hx hb dX1_told_14 rfl (lv_at hl 0 rfl) ?_
  refine va_get (D := D) (ci := 1) (v := .int (bI (true))) (C := RX1) (T := TX1) (N := 11) hx hb hts hin hown hK hP 0 rfl rfl 9 (by decide) hf42 (fun _ h9 => h9) rfl dX1_told_15 ?_
  refine gi_if_neb (tgt := 25) hx hb dX1_told_18 rfl (fun h18 => ?_) (fun h9 => absurd h9 (by decide))
  refine lv_iload_n hx hb dX1_told_25 rfl (lv_at hl 1 rfl) ?_
  refine lv_if_lt (tgt := 49) hx hb dX1_told_26 rfl (fun h26 => ?_) (fun h26 => ?_)
  · refine lv_iconst (v := nI (2)) hx hb dX1_told_49 (by decide) ?_
    refine lv_goto (tgt := 54) hx hb dX1_told_50 rfl ?_
    refine va_put (D := D) (ci := 1) (v := .int (nI (2))) (ty := .int) (C := RX1) (T := TX1) (N := 11) hx hb hts hin tyX1 tyX1_ok nmX1 hown hK hP hD hS 0 rfl rfl 8 (by decide) hf35 (fun _ h9 => h9) rfl (by decide +kernel) rfl rfl (Nat.le_of_ble_eq_true rfl) dX1_told_54 (fun H locs hP hD hS => ?_)
    have hP : va_P D vwCl ((mw q cA cB n 2 true sz bt so fc ofs tg nw gr) ++ wr) H := hP
    have hD : va_D A ((mw q cA cB n 2 true sz bt so fc ofs tg nw gr) ++ wr) := hD
    refine lv_aload_n hx hb dX1_told_57 rfl (lv_at hl 0 rfl) ?_
    refine va_get (D := D) (ci := 1) (v := .int (nI (2))) (C := RX1) (T := TX1) (N := 11) hx hb hts hin hown hK hP 0 rfl rfl 8 (by decide) hf35 (fun _ h9 => h9) rfl dX1_told_58 ?_
    refine gi_if_le (tgt := 66) hx hb (by omega) dX1_told_61 rfl (fun h9 => absurd h9 (by omega)) (fun h61 => ?_)
    refine lv_iconst (v := nI (0)) hx hb dX1_told_64 (by decide) ?_
    exact gi_iret hx hb hlk hr dX1_told_65 (rfl) hP hS
  · refine lv_iload_n hx hb dX1_told_29 rfl (lv_at hl 1 rfl) ?_
    refine lv_aload_n hx hb dX1_told_30 rfl (lv_at hl 0 rfl) ?_
    refine va_get (D := D) (ci := 1) (v := .int (nI (n))) (C := RX1) (T := TX1) (N := 11) hx hb hts hin hown hK hP 0 rfl rfl 7 (by decide) hf39 (fun _ h9 => h9) rfl dX1_told_31 ?_
    refine lv_icmp_gt (tgt := 49) hx hb dX1_told_34 rfl (fun h34 => ?_) (fun h9 => absurd h9 (fun z9 => absurd (show gf_ile n x = true from decide_eq_true ⟨h26, z9⟩) (gf_ne_tf hx9)))
    refine lv_iconst (v := nI (2)) hx hb dX1_told_49 (by decide) ?_
    refine lv_goto (tgt := 54) hx hb dX1_told_50 rfl ?_
    refine va_put (D := D) (ci := 1) (v := .int (nI (2))) (ty := .int) (C := RX1) (T := TX1) (N := 11) hx hb hts hin tyX1 tyX1_ok nmX1 hown hK hP hD hS 0 rfl rfl 8 (by decide) hf35 (fun _ h9 => h9) rfl (by decide +kernel) rfl rfl (Nat.le_of_ble_eq_true rfl) dX1_told_54 (fun H locs hP hD hS => ?_)
    have hP : va_P D vwCl ((mw q cA cB n 2 true sz bt so fc ofs tg nw gr) ++ wr) H := hP
    have hD : va_D A ((mw q cA cB n 2 true sz bt so fc ofs tg nw gr) ++ wr) := hD
    refine lv_aload_n hx hb dX1_told_57 rfl (lv_at hl 0 rfl) ?_
    refine va_get (D := D) (ci := 1) (v := .int (nI (2))) (C := RX1) (T := TX1) (N := 11) hx hb hts hin hown hK hP 0 rfl rfl 8 (by decide) hf35 (fun _ h9 => h9) rfl dX1_told_58 ?_
    refine gi_if_le (tgt := 66) hx hb (by omega) dX1_told_61 rfl (fun h9 => absurd h9 (by omega)) (fun h61 => ?_)
    refine lv_iconst (v := nI (0)) hx hb dX1_told_64 (by decide) ?_
    exact gi_iret hx hb hlk hr dX1_told_65 (rfl) hP hS
set_option maxHeartbeats 4000000 in
set_option maxRecDepth 100000 in
theorem ex2n_X1_told (l : Launch) (D : va_G) (cA cB cL : ClassId) (A : Nat → Prop) (wr : va_W) (q : Nat → Nat) (n th : Nat) (sz bt so fc : Nat → Nat) (ofs : Nat → Int32) (tg nw : Nat → Nat) (gr : Nat → Int32) (w : Nat) (hn : n ≤ 120) (hw1 : 1 ≤ w) (hw2 : w ≤ 2) : Met l yX1_told wsX1_told ({ frames := 3, cells := 0, slots := 0, locals := 72 }) (gPre D vwCl [(cA, .int), (cB, .boolean), (cL, .long)] ((mw q cA cB n th true sz bt so fc ofs tg nw gr) ++ wr) A [.ref (q 0), .int (nI (n)), .int (nI (w))]) (gPost (some (.int (nI (0)))) D vwCl ((mw q cA cB n 2 true sz bt so fc ofs tg nw gr) ++ wr) A) 0 0 A := by
  refine Met.ofW (cc := cX1_told) (maxL := 3) (ret := (some .int)) (by decide) rfl ?_
  intro p e s m args below meth c s₁ B hml hv
  obtain ⟨rfl, hP, hK, hD⟩ := hv
  have hx := B.exec
  have hb := B.bytes
  have hr := B.returns
  have hlk := B.notSynchronized
  have hts := atoms_spec (ws := wsX1_told) B.pre
  have hown : s.vm.findClass RX1 = some m.cls := findClass_of_methodNamed B.named
  have hS : va_S A s.heap s.heap [] := va_S.rf
  have hl := lv_entry ([.ref (q 0), .int (nI (n)), .int (nI (w))]) (n := 3) (Nat.le_of_ble_eq_true rfl)
  rw [lg_entry_eq]
  generalize (lg_sl ([.ref (q 0), .int (nI (n)), .int (nI (w))]) ++ List.replicate (3 - (lg_sl ([.ref (q 0), .int (nI (n)), .int (nI (w))])).length) Slot.unset).toArray = ls at hl ⊢
  have hl : lv_has ls 3 [(0, .ref (q 0)), (1, .int (nI (n))), (2, .int (nI (w)))] := hl
  have hin : ∀ w ∈ u_ws RX1 TX1 11, w ∈ wsX1_told := fun w h => List.mem_cons_of_mem _ (inTX1 w h)
  have hf9 := hts _ (List.mem_cons_of_mem _ tfX1_9)
  have hf28 := hts _ (List.mem_cons_of_mem _ tfX1_28)
  have hf35 := hts _ (List.mem_cons_of_mem _ tfX1_35)
  have hf39 := hts _ (List.mem_cons_of_mem _ tfX1_39)
  have hf42 := hts _ (List.mem_cons_of_mem _ tfX1_42)
  refine lv_aload_n hx hb dX1_told_0 rfl (lv_at hl 0 rfl) ?_
  refine lv_iload_n hx hb dX1_told_1 rfl (lv_at hl 2 rfl) ?_
  refine gi_if_lt (tgt := 10) hx hb (by omega) dX1_told_2 rfl (fun h9 => absurd h9 (by omega)) (fun h2 => ?_)
  refine lv_iload_n hx hb dX1_told_5 rfl (lv_at hl 2 rfl) ?_
  refine lv_iconst (v := nI (2)) hx hb dX1_told_6 (by decide) ?_
  refine gi_icmp_le (tgt := 14) hx hb (by omega) (by omega) dX1_told_7 rfl (fun h7 => ?_) (fun h9 => absurd h9 (by omega))
  refine lv_aload_n hx hb dX1_told_14 rfl (lv_at hl 0 rfl) ?_
  refine va_get (D := D) (ci := 1) (v := .int (bI (true))) (C := RX1) (T := TX1) (N := 11) hx hb hts hin hown hK hP 0 rfl rfl 9 (by decide) hf42 (fun _ h9 => h9) rfl dX1_told_15 ?_
  refine gi_if_neb (tgt := 25) hx hb dX1_told_18 rfl (fun h18 => ?_) (fun h9 => absurd h9 (by decide))
  refine lv_iload_n hx hb dX1_told_25 rfl (lv_at hl 1 rfl) ?_
  refine gi_if_lt (tgt := 49) hx hb (by omega) dX1_told_26 rfl (fun h9 => absurd h9 (by omega)) (fun h26 => ?_)
  refine lv_iload_n hx hb dX1_told_29 rfl (lv_at hl 1 rfl) ?_
  refine lv_aload_n hx hb dX1_told_30 rfl (lv_at hl 0 rfl) ?_
  refine va_get (D := D) (ci := 1) (v := .int (nI (n))) (C := RX1) (T := TX1) (N := 11) hx hb hts hin hown hK hP 0 rfl rfl 7 (by decide) hf39 (fun _ h9 => h9) rfl dX1_told_31 ?_
  refine gi_icmp_gt (tgt := 49) hx hb (by omega) (by omega) dX1_told_34 rfl (fun h9 => absurd h9 (by omega)) (fun h34 => ?_)
  refine lv_iload_n hx hb dX1_told_37 rfl (lv_at hl 1 rfl) ?_
  refine lv_aload_n hx hb dX1_told_38 rfl (lv_at hl 0 rfl) ?_
  refine va_get (D := D) (ci := 1) (v := .int (nI (n))) (C := RX1) (T := TX1) (N := 11) hx hb hts hin hown hK hP 0 rfl rfl 7 (by decide) hf39 (fun _ h9 => h9) rfl dX1_told_39 ?_
  refine gi_icmp_ne (tgt := 53) hx hb (by omega) (by omega) dX1_told_42 rfl (fun h9 => absurd h9 (by omega)) (fun h42 => ?_)
  refine lv_iload_n hx hb dX1_told_45 rfl (lv_at hl 2 rfl) ?_
  refine gi_if_le (tgt := 53) hx hb (by omega) dX1_told_46 rfl (fun h9 => absurd h9 (by omega)) (fun h46 => ?_)
  refine lv_iconst (v := nI (2)) hx hb dX1_told_49 (by decide) ?_
  refine lv_goto (tgt := 54) hx hb dX1_told_50 rfl ?_
  refine va_put (D := D) (ci := 1) (v := .int (nI (2))) (ty := .int) (C := RX1) (T := TX1) (N := 11) hx hb hts hin tyX1 tyX1_ok nmX1 hown hK hP hD hS 0 rfl rfl 8 (by decide) hf35 (fun _ h9 => h9) rfl (by decide +kernel) rfl rfl (Nat.le_of_ble_eq_true rfl) dX1_told_54 (fun H locs hP hD hS => ?_)
  have hP : va_P D vwCl ((mw q cA cB n 2 true sz bt so fc ofs tg nw gr) ++ wr) H := hP
  have hD : va_D A ((mw q cA cB n 2 true sz bt so fc ofs tg nw gr) ++ wr) := hD
  refine lv_aload_n hx hb dX1_told_57 rfl (lv_at hl 0 rfl) ?_
  refine va_get (D := D) (ci := 1) (v := .int (nI (2))) (C := RX1) (T := TX1) (N := 11) hx hb hts hin hown hK hP 0 rfl rfl 8 (by decide) hf35 (fun _ h9 => h9) rfl dX1_told_58 ?_
  refine gi_if_le (tgt := 66) hx hb (by omega) dX1_told_61 rfl (fun h9 => absurd h9 (by omega)) (fun h61 => ?_)
  refine lv_iconst (v := nI (0)) hx hb dX1_told_64 (by decide) ?_
  exact gi_iret hx hb hlk hr dX1_told_65 (rfl) hP hS
set_option maxHeartbeats 4000000 in
set_option maxRecDepth 100000 in
theorem ok0_X1_told (l : Launch) (D : va_G) (cA cB cL : ClassId) (A : Nat → Prop) (wr : va_W) (q : Nat → Nat) (n th : Nat) (sz bt so fc : Nat → Nat) (ofs : Nat → Int32) (tg nw : Nat → Nat) (gr : Nat → Int32) (j : Nat) (hw : gf_wf n fc sz bt so tg) (hk : gf_nk n fc nw) (hj : j ≤ n) : Met l yX1_told wsX1_told ({ frames := 3, cells := 0, slots := 0, locals := 72 }) (gPre D vwCl [(cA, .int), (cB, .boolean), (cL, .long)] ((mw q cA cB n th true sz bt so fc ofs tg nw gr) ++ wr) A [.ref (q 0), .int (nI (j)), .int (nI (0))]) (gPost (some (.int (nI (gf_ad fc sz nw j)))) D vwCl ((mw q cA cB n 0 true sz bt so fc ofs tg nw gr) ++ wr) A) 0 0 A := by
  refine Met.ofW (cc := cX1_told) (maxL := 3) (ret := (some .int)) (by decide) rfl ?_
  intro p e s m args below meth c s₁ B hml hv
  obtain ⟨rfl, hP, hK, hD⟩ := hv
  have hx := B.exec
  have hb := B.bytes
  have hr := B.returns
  have hlk := B.notSynchronized
  have hts := atoms_spec (ws := wsX1_told) B.pre
  have hown : s.vm.findClass RX1 = some m.cls := findClass_of_methodNamed B.named
  have hS : va_S A s.heap s.heap [] := va_S.rf
  have hl := lv_entry ([.ref (q 0), .int (nI (j)), .int (nI (0))]) (n := 3) (Nat.le_of_ble_eq_true rfl)
  rw [lg_entry_eq]
  generalize (lg_sl ([.ref (q 0), .int (nI (j)), .int (nI (0))]) ++ List.replicate (3 - (lg_sl ([.ref (q 0), .int (nI (j)), .int (nI (0))])).length) Slot.unset).toArray = ls at hl ⊢
  have hl : lv_has ls 3 [(0, .ref (q 0)), (1, .int (nI (j))), (2, .int (nI (0)))] := hl
  have hin : ∀ w ∈ u_ws RX1 TX1 11, w ∈ wsX1_told := fun w h => List.mem_cons_of_mem _ (inTX1 w h)
  have hf9 := hts _ (List.mem_cons_of_mem _ tfX1_9)
  have hf28 := hts _ (List.mem_cons_of_mem _ tfX1_28)
  have hf35 := hts _ (List.mem_cons_of_mem _ tfX1_35)
  have hf39 := hts _ (List.mem_cons_of_mem _ tfX1_39)
  have hf42 := hts _ (List.mem_cons_of_mem _ tfX1_42)
  have hn := hw.1
  refine lv_aload_n hx hb dX1_told_0 rfl (lv_at hl 0 rfl) ?_
  refine lv_iload_n hx hb dX1_told_1 rfl (lv_at hl 2 rfl) ?_
  refine gi_if_lt (tgt := 10) hx hb (by omega) dX1_told_2 rfl (fun h9 => absurd h9 (by omega)) (fun h2 => ?_)
  refine lv_iload_n hx hb dX1_told_5 rfl (lv_at hl 2 rfl) ?_
  refine lv_iconst (v := nI (2)) hx hb dX1_told_6 (by decide) ?_
  refine gi_icmp_le (tgt := 14) hx hb (by omega) (by omega) dX1_told_7 rfl (fun h7 => ?_) (fun h9 => absurd h9 (by omega))
  refine lv_aload_n hx hb dX1_told_14 rfl (lv_at hl 0 rfl) ?_
  refine va_get (D := D) (ci := 1) (v := .int (bI (true))) (C := RX1) (T := TX1) (N := 11) hx hb hts hin hown hK hP 0 rfl rfl 9 (by decide) hf42 (fun _ h9 => h9) rfl dX1_told_15 ?_
  refine gi_if_neb (tgt := 25) hx hb dX1_told_18 rfl (fun h18 => ?_) (fun h9 => absurd h9 (by decide))
  refine lv_iload_n hx hb dX1_told_25 rfl (lv_at hl 1 rfl) ?_
  refine gi_if_lt (tgt := 49) hx hb (by omega) dX1_told_26 rfl (fun h9 => absurd h9 (by omega)) (fun h26 => ?_)
  refine lv_iload_n hx hb dX1_told_29 rfl (lv_at hl 1 rfl) ?_
  refine lv_aload_n hx hb dX1_told_30 rfl (lv_at hl 0 rfl) ?_
  refine va_get (D := D) (ci := 1) (v := .int (nI (n))) (C := RX1) (T := TX1) (N := 11) hx hb hts hin hown hK hP 0 rfl rfl 7 (by decide) hf39 (fun _ h9 => h9) rfl dX1_told_31 ?_
  refine gi_icmp_gt (tgt := 49) hx hb (by omega) (by omega) dX1_told_34 rfl (fun h9 => absurd h9 (by omega)) (fun h34 => ?_)
  refine lv_iload_n hx hb dX1_told_37 rfl (lv_at hl 1 rfl) ?_
  refine lv_aload_n hx hb dX1_told_38 rfl (lv_at hl 0 rfl) ?_
  refine va_get (D := D) (ci := 1) (v := .int (nI (n))) (C := RX1) (T := TX1) (N := 11) hx hb hts hin hown hK hP 0 rfl rfl 7 (by decide) hf39 (fun _ h9 => h9) rfl dX1_told_39 ?_
  refine gi_icmp_ne (tgt := 53) hx hb (by omega) (by omega) dX1_told_42 rfl (fun h42 => ?_) (fun h42 => ?_)
  · refine lv_iconst (v := nI (0)) hx hb dX1_told_53 (by decide) ?_
    refine va_put (D := D) (ci := 1) (v := .int (nI (0))) (ty := .int) (C := RX1) (T := TX1) (N := 11) hx hb hts hin tyX1 tyX1_ok nmX1 hown hK hP hD hS 0 rfl rfl 8 (by decide) hf35 (fun _ h9 => h9) rfl (by decide +kernel) rfl rfl (Nat.le_of_ble_eq_true rfl) dX1_told_54 (fun H locs hP hD hS => ?_)
    have hP : va_P D vwCl ((mw q cA cB n 0 true sz bt so fc ofs tg nw gr) ++ wr) H := hP
    have hD : va_D A ((mw q cA cB n 0 true sz bt so fc ofs tg nw gr) ++ wr) := hD
    refine lv_aload_n hx hb dX1_told_57 rfl (lv_at hl 0 rfl) ?_
    refine va_get (D := D) (ci := 1) (v := .int (nI (0))) (C := RX1) (T := TX1) (N := 11) hx hb hts hin hown hK hP 0 rfl rfl 8 (by decide) hf35 (fun _ h9 => h9) rfl dX1_told_58 ?_
    refine gi_if_le (tgt := 66) hx hb (by omega) dX1_told_61 rfl (fun h61 => ?_) (fun h9 => absurd h9 (by omega))
    refine lv_iload_n hx hb dX1_told_66 rfl (lv_at hl 2 rfl) ?_
    refine gi_if_ne (tgt := 76) hx hb (by omega) dX1_told_67 rfl (fun h9 => absurd h9 (by omega)) (fun h67 => ?_)
    refine lv_aload_n hx hb dX1_told_70 rfl (lv_at hl 0 rfl) ?_
    refine lv_iload_n hx hb dX1_told_71 rfl (lv_at hl 1 rfl) ?_
    refine gi_goV (va_runV (As := [.int (nI (j))]) (rest := []) ⟨hx, hb, hml, hown, hts⟩ (c_X1_address l D cA cB cL A wr q n 0 true sz bt so fc ofs tg nw gr j hw hk hj) (cwV 1 hts gX1_told_X1_address rfl rfl rfl (by decide +kernel) ⟨Nat.le_of_ble_eq_true rfl, Nat.le_of_ble_eq_true rfl⟩) (gi_preV (q0 := 0) hK hP hD rfl rfl rfl) rfl rfl hl.1 rfl (lv_room (Nat.le_of_ble_eq_true rfl)) dX1_told_72 ⟨Nat.le_of_ble_eq_true rfl, Nat.le_of_ble_eq_true rfl⟩) hS (fun H locs hP hS => ?_)
    exact gi_iret hx hb hlk hr dX1_told_75 (rfl) hP hS
  · refine lv_iload_n hx hb dX1_told_45 rfl (lv_at hl 2 rfl) ?_
    refine gi_if_le (tgt := 53) hx hb (by omega) dX1_told_46 rfl (fun h46 => ?_) (fun h9 => absurd h9 (by omega))
    refine lv_iconst (v := nI (0)) hx hb dX1_told_53 (by decide) ?_
    refine va_put (D := D) (ci := 1) (v := .int (nI (0))) (ty := .int) (C := RX1) (T := TX1) (N := 11) hx hb hts hin tyX1 tyX1_ok nmX1 hown hK hP hD hS 0 rfl rfl 8 (by decide) hf35 (fun _ h9 => h9) rfl (by decide +kernel) rfl rfl (Nat.le_of_ble_eq_true rfl) dX1_told_54 (fun H locs hP hD hS => ?_)
    have hP : va_P D vwCl ((mw q cA cB n 0 true sz bt so fc ofs tg nw gr) ++ wr) H := hP
    have hD : va_D A ((mw q cA cB n 0 true sz bt so fc ofs tg nw gr) ++ wr) := hD
    refine lv_aload_n hx hb dX1_told_57 rfl (lv_at hl 0 rfl) ?_
    refine va_get (D := D) (ci := 1) (v := .int (nI (0))) (C := RX1) (T := TX1) (N := 11) hx hb hts hin hown hK hP 0 rfl rfl 8 (by decide) hf35 (fun _ h9 => h9) rfl dX1_told_58 ?_
    refine gi_if_le (tgt := 66) hx hb (by omega) dX1_told_61 rfl (fun h61 => ?_) (fun h9 => absurd h9 (by omega))
    refine lv_iload_n hx hb dX1_told_66 rfl (lv_at hl 2 rfl) ?_
    refine gi_if_ne (tgt := 76) hx hb (by omega) dX1_told_67 rfl (fun h9 => absurd h9 (by omega)) (fun h67 => ?_)
    refine lv_aload_n hx hb dX1_told_70 rfl (lv_at hl 0 rfl) ?_
    refine lv_iload_n hx hb dX1_told_71 rfl (lv_at hl 1 rfl) ?_
    refine gi_goV (va_runV (As := [.int (nI (j))]) (rest := []) ⟨hx, hb, hml, hown, hts⟩ (c_X1_address l D cA cB cL A wr q n 0 true sz bt so fc ofs tg nw gr j hw hk hj) (cwV 1 hts gX1_told_X1_address rfl rfl rfl (by decide +kernel) ⟨Nat.le_of_ble_eq_true rfl, Nat.le_of_ble_eq_true rfl⟩) (gi_preV (q0 := 0) hK hP hD rfl rfl rfl) rfl rfl hl.1 rfl (lv_room (Nat.le_of_ble_eq_true rfl)) dX1_told_72 ⟨Nat.le_of_ble_eq_true rfl, Nat.le_of_ble_eq_true rfl⟩) hS (fun H locs hP hS => ?_)
    exact gi_iret hx hb hlk hr dX1_told_75 (rfl) hP hS
set_option maxHeartbeats 4000000 in
set_option maxRecDepth 100000 in
theorem ok1_X1_told (l : Launch) (D : va_G) (cA cB cL : ClassId) (A : Nat → Prop) (wr : va_W) (q : Nat → Nat) (n th : Nat) (sz bt so fc : Nat → Nat) (ofs : Nat → Int32) (tg nw : Nat → Nat) (gr : Nat → Int32) (j : Nat) (hw : gf_wf n fc sz bt so tg) (hk : gf_nk n fc nw) (hj : j < n) : Met l yX1_told wsX1_told ({ frames := 3, cells := 0, slots := 0, locals := 72 }) (gPre D vwCl [(cA, .int), (cB, .boolean), (cL, .long)] ((mw q cA cB n th true sz bt so fc ofs tg nw gr) ++ wr) A [.ref (q 0), .int (nI (j)), .int (nI (1))]) (gPost (some (.int (gf_c fc nw j))) D vwCl ((mw q cA cB n 0 true sz bt so fc ofs tg nw gr) ++ wr) A) 0 0 A := by
  refine Met.ofW (cc := cX1_told) (maxL := 3) (ret := (some .int)) (by decide) rfl ?_
  intro p e s m args below meth c s₁ B hml hv
  obtain ⟨rfl, hP, hK, hD⟩ := hv
  have hx := B.exec
  have hb := B.bytes
  have hr := B.returns
  have hlk := B.notSynchronized
  have hts := atoms_spec (ws := wsX1_told) B.pre
  have hown : s.vm.findClass RX1 = some m.cls := findClass_of_methodNamed B.named
  have hS : va_S A s.heap s.heap [] := va_S.rf
  have hl := lv_entry ([.ref (q 0), .int (nI (j)), .int (nI (1))]) (n := 3) (Nat.le_of_ble_eq_true rfl)
  rw [lg_entry_eq]
  generalize (lg_sl ([.ref (q 0), .int (nI (j)), .int (nI (1))]) ++ List.replicate (3 - (lg_sl ([.ref (q 0), .int (nI (j)), .int (nI (1))])).length) Slot.unset).toArray = ls at hl ⊢
  have hl : lv_has ls 3 [(0, .ref (q 0)), (1, .int (nI (j))), (2, .int (nI (1)))] := hl
  have hin : ∀ w ∈ u_ws RX1 TX1 11, w ∈ wsX1_told := fun w h => List.mem_cons_of_mem _ (inTX1 w h)
  have hf9 := hts _ (List.mem_cons_of_mem _ tfX1_9)
  have hf28 := hts _ (List.mem_cons_of_mem _ tfX1_28)
  have hf35 := hts _ (List.mem_cons_of_mem _ tfX1_35)
  have hf39 := hts _ (List.mem_cons_of_mem _ tfX1_39)
  have hf42 := hts _ (List.mem_cons_of_mem _ tfX1_42)
  have hn := hw.1
  have hfb := (hw.2 j hj).1
  refine lv_aload_n hx hb dX1_told_0 rfl (lv_at hl 0 rfl) ?_
  refine lv_iload_n hx hb dX1_told_1 rfl (lv_at hl 2 rfl) ?_
  refine gi_if_lt (tgt := 10) hx hb (by omega) dX1_told_2 rfl (fun h9 => absurd h9 (by omega)) (fun h2 => ?_)
  refine lv_iload_n hx hb dX1_told_5 rfl (lv_at hl 2 rfl) ?_
  refine lv_iconst (v := nI (2)) hx hb dX1_told_6 (by decide) ?_
  refine gi_icmp_le (tgt := 14) hx hb (by omega) (by omega) dX1_told_7 rfl (fun h7 => ?_) (fun h9 => absurd h9 (by omega))
  refine lv_aload_n hx hb dX1_told_14 rfl (lv_at hl 0 rfl) ?_
  refine va_get (D := D) (ci := 1) (v := .int (bI (true))) (C := RX1) (T := TX1) (N := 11) hx hb hts hin hown hK hP 0 rfl rfl 9 (by decide) hf42 (fun _ h9 => h9) rfl dX1_told_15 ?_
  refine gi_if_neb (tgt := 25) hx hb dX1_told_18 rfl (fun h18 => ?_) (fun h9 => absurd h9 (by decide))
  refine lv_iload_n hx hb dX1_told_25 rfl (lv_at hl 1 rfl) ?_
  refine gi_if_lt (tgt := 49) hx hb (by omega) dX1_told_26 rfl (fun h9 => absurd h9 (by omega)) (fun h26 => ?_)
  refine lv_iload_n hx hb dX1_told_29 rfl (lv_at hl 1 rfl) ?_
  refine lv_aload_n hx hb dX1_told_30 rfl (lv_at hl 0 rfl) ?_
  refine va_get (D := D) (ci := 1) (v := .int (nI (n))) (C := RX1) (T := TX1) (N := 11) hx hb hts hin hown hK hP 0 rfl rfl 7 (by decide) hf39 (fun _ h9 => h9) rfl dX1_told_31 ?_
  refine gi_icmp_gt (tgt := 49) hx hb (by omega) (by omega) dX1_told_34 rfl (fun h9 => absurd h9 (by omega)) (fun h34 => ?_)
  refine lv_iload_n hx hb dX1_told_37 rfl (lv_at hl 1 rfl) ?_
  refine lv_aload_n hx hb dX1_told_38 rfl (lv_at hl 0 rfl) ?_
  refine va_get (D := D) (ci := 1) (v := .int (nI (n))) (C := RX1) (T := TX1) (N := 11) hx hb hts hin hown hK hP 0 rfl rfl 7 (by decide) hf39 (fun _ h9 => h9) rfl dX1_told_39 ?_
  refine gi_icmp_ne (tgt := 53) hx hb (by omega) (by omega) dX1_told_42 rfl (fun h42 => ?_) (fun h9 => absurd h9 (by omega))
  refine lv_iconst (v := nI (0)) hx hb dX1_told_53 (by decide) ?_
  refine va_put (D := D) (ci := 1) (v := .int (nI (0))) (ty := .int) (C := RX1) (T := TX1) (N := 11) hx hb hts hin tyX1 tyX1_ok nmX1 hown hK hP hD hS 0 rfl rfl 8 (by decide) hf35 (fun _ h9 => h9) rfl (by decide +kernel) rfl rfl (Nat.le_of_ble_eq_true rfl) dX1_told_54 (fun H locs hP hD hS => ?_)
  have hP : va_P D vwCl ((mw q cA cB n 0 true sz bt so fc ofs tg nw gr) ++ wr) H := hP
  have hD : va_D A ((mw q cA cB n 0 true sz bt so fc ofs tg nw gr) ++ wr) := hD
  refine lv_aload_n hx hb dX1_told_57 rfl (lv_at hl 0 rfl) ?_
  refine va_get (D := D) (ci := 1) (v := .int (nI (0))) (C := RX1) (T := TX1) (N := 11) hx hb hts hin hown hK hP 0 rfl rfl 8 (by decide) hf35 (fun _ h9 => h9) rfl dX1_told_58 ?_
  refine gi_if_le (tgt := 66) hx hb (by omega) dX1_told_61 rfl (fun h61 => ?_) (fun h9 => absurd h9 (by omega))
  refine lv_iload_n hx hb dX1_told_66 rfl (lv_at hl 2 rfl) ?_
  refine gi_if_ne (tgt := 76) hx hb (by omega) dX1_told_67 rfl (fun h67 => ?_) (fun h9 => absurd h9 (by omega))
  refine lv_iload_n hx hb dX1_told_76 rfl (lv_at hl 2 rfl) ?_
  refine lv_iconst (v := nI (1)) hx hb dX1_told_77 (by decide) ?_
  refine gi_icmp_ne (tgt := 101) hx hb (by omega) (by omega) dX1_told_78 rfl (fun h9 => absurd h9 (by omega)) (fun h78 => ?_)
  refine lv_aload_n hx hb dX1_told_81 rfl (lv_at hl 0 rfl) ?_
  refine va_get (D := D) (ci := 1) (v := .ref (q 1)) (C := RX1) (T := TX1) (N := 11) hx hb hts hin hown hK hP 0 rfl rfl 0 (by decide) hf9 (fun _ h9 => h9) rfl dX1_told_82 ?_
  refine lv_iload_n hx hb dX1_told_85 rfl (lv_at hl 1 rfl) ?_
  refine gi_ald hx hb hK hP 1 0 fc rfl rfl (by omega) (by decide) dX1_told_86 ?_
  refine gi_if_ne (tgt := 94) hx hb (by omega) dX1_told_87 rfl (fun h87 => ?_) (fun h87 => ?_)
  · refine lv_aload_n hx hb dX1_told_94 rfl (lv_at hl 0 rfl) ?_
    refine va_get (D := D) (ci := 1) (v := .ref (q 7)) (C := RX1) (T := TX1) (N := 11) hx hb hts hin hown hK hP 0 rfl rfl 6 (by decide) hf28 (fun _ h9 => h9) rfl dX1_told_95 ?_
    refine lv_iload_n hx hb dX1_told_98 rfl (lv_at hl 1 rfl) ?_
    refine gi_ald hx hb hK hP 7 0 nw rfl rfl (by omega) (by decide) dX1_told_99 ?_
    exact gi_iret hx hb hlk hr dX1_told_100 ((gf_c_n h87).symm) hP hS
  · refine lv_iconst (v := -1) hx hb dX1_told_90 (by decide) ?_
    refine lv_goto (tgt := 100) hx hb dX1_told_91 rfl ?_
    exact gi_iret hx hb hlk hr dX1_told_100 ((if_pos h87).symm) hP hS
set_option maxHeartbeats 4000000 in
set_option maxRecDepth 100000 in
theorem ok2_X1_told (l : Launch) (D : va_G) (cA cB cL : ClassId) (A : Nat → Prop) (wr : va_W) (q : Nat → Nat) (n th : Nat) (sz bt so fc : Nat → Nat) (ofs : Nat → Int32) (tg nw : Nat → Nat) (gr : Nat → Int32) (j : Nat) (hw : gf_wf n fc sz bt so tg) (hk : gf_nk n fc nw) (hj : j < n) : Met l yX1_told wsX1_told ({ frames := 3, cells := 0, slots := 0, locals := 72 }) (gPre D vwCl [(cA, .int), (cB, .boolean), (cL, .long)] ((mw q cA cB n th true sz bt so fc ofs tg nw gr) ++ wr) A [.ref (q 0), .int (nI (j)), .int (nI (2))]) (gPost (some (.int (bI (gf_fit fc sz bt so tg ofs nw j)))) D vwCl ((mw q cA cB n 0 true sz bt so fc ofs tg nw gr) ++ wr) A) 0 0 A := by
  refine Met.ofW (cc := cX1_told) (maxL := 3) (ret := (some .int)) (by decide) rfl ?_
  intro p e s m args below meth c s₁ B hml hv
  obtain ⟨rfl, hP, hK, hD⟩ := hv
  have hx := B.exec
  have hb := B.bytes
  have hr := B.returns
  have hlk := B.notSynchronized
  have hts := atoms_spec (ws := wsX1_told) B.pre
  have hown : s.vm.findClass RX1 = some m.cls := findClass_of_methodNamed B.named
  have hS : va_S A s.heap s.heap [] := va_S.rf
  have hl := lv_entry ([.ref (q 0), .int (nI (j)), .int (nI (2))]) (n := 3) (Nat.le_of_ble_eq_true rfl)
  rw [lg_entry_eq]
  generalize (lg_sl ([.ref (q 0), .int (nI (j)), .int (nI (2))]) ++ List.replicate (3 - (lg_sl ([.ref (q 0), .int (nI (j)), .int (nI (2))])).length) Slot.unset).toArray = ls at hl ⊢
  have hl : lv_has ls 3 [(0, .ref (q 0)), (1, .int (nI (j))), (2, .int (nI (2)))] := hl
  have hin : ∀ w ∈ u_ws RX1 TX1 11, w ∈ wsX1_told := fun w h => List.mem_cons_of_mem _ (inTX1 w h)
  have hf9 := hts _ (List.mem_cons_of_mem _ tfX1_9)
  have hf28 := hts _ (List.mem_cons_of_mem _ tfX1_28)
  have hf35 := hts _ (List.mem_cons_of_mem _ tfX1_35)
  have hf39 := hts _ (List.mem_cons_of_mem _ tfX1_39)
  have hf42 := hts _ (List.mem_cons_of_mem _ tfX1_42)
  have hn := hw.1
  refine lv_aload_n hx hb dX1_told_0 rfl (lv_at hl 0 rfl) ?_
  refine lv_iload_n hx hb dX1_told_1 rfl (lv_at hl 2 rfl) ?_
  refine gi_if_lt (tgt := 10) hx hb (by omega) dX1_told_2 rfl (fun h9 => absurd h9 (by omega)) (fun h2 => ?_)
  refine lv_iload_n hx hb dX1_told_5 rfl (lv_at hl 2 rfl) ?_
  refine lv_iconst (v := nI (2)) hx hb dX1_told_6 (by decide) ?_
  refine gi_icmp_le (tgt := 14) hx hb (by omega) (by omega) dX1_told_7 rfl (fun h7 => ?_) (fun h9 => absurd h9 (by omega))
  refine lv_aload_n hx hb dX1_told_14 rfl (lv_at hl 0 rfl) ?_
  refine va_get (D := D) (ci := 1) (v := .int (bI (true))) (C := RX1) (T := TX1) (N := 11) hx hb hts hin hown hK hP 0 rfl rfl 9 (by decide) hf42 (fun _ h9 => h9) rfl dX1_told_15 ?_
  refine gi_if_neb (tgt := 25) hx hb dX1_told_18 rfl (fun h18 => ?_) (fun h9 => absurd h9 (by decide))
  refine lv_iload_n hx hb dX1_told_25 rfl (lv_at hl 1 rfl) ?_
  refine gi_if_lt (tgt := 49) hx hb (by omega) dX1_told_26 rfl (fun h9 => absurd h9 (by omega)) (fun h26 => ?_)
  refine lv_iload_n hx hb dX1_told_29 rfl (lv_at hl 1 rfl) ?_
  refine lv_aload_n hx hb dX1_told_30 rfl (lv_at hl 0 rfl) ?_
  refine va_get (D := D) (ci := 1) (v := .int (nI (n))) (C := RX1) (T := TX1) (N := 11) hx hb hts hin hown hK hP 0 rfl rfl 7 (by decide) hf39 (fun _ h9 => h9) rfl dX1_told_31 ?_
  refine gi_icmp_gt (tgt := 49) hx hb (by omega) (by omega) dX1_told_34 rfl (fun h9 => absurd h9 (by omega)) (fun h34 => ?_)
  refine lv_iload_n hx hb dX1_told_37 rfl (lv_at hl 1 rfl) ?_
  refine lv_aload_n hx hb dX1_told_38 rfl (lv_at hl 0 rfl) ?_
  refine va_get (D := D) (ci := 1) (v := .int (nI (n))) (C := RX1) (T := TX1) (N := 11) hx hb hts hin hown hK hP 0 rfl rfl 7 (by decide) hf39 (fun _ h9 => h9) rfl dX1_told_39 ?_
  refine gi_icmp_ne (tgt := 53) hx hb (by omega) (by omega) dX1_told_42 rfl (fun h42 => ?_) (fun h9 => absurd h9 (by omega))
  refine lv_iconst (v := nI (0)) hx hb dX1_told_53 (by decide) ?_
  refine va_put (D := D) (ci := 1) (v := .int (nI (0))) (ty := .int) (C := RX1) (T := TX1) (N := 11) hx hb hts hin tyX1 tyX1_ok nmX1 hown hK hP hD hS 0 rfl rfl 8 (by decide) hf35 (fun _ h9 => h9) rfl (by decide +kernel) rfl rfl (Nat.le_of_ble_eq_true rfl) dX1_told_54 (fun H locs hP hD hS => ?_)
  have hP : va_P D vwCl ((mw q cA cB n 0 true sz bt so fc ofs tg nw gr) ++ wr) H := hP
  have hD : va_D A ((mw q cA cB n 0 true sz bt so fc ofs tg nw gr) ++ wr) := hD
  refine lv_aload_n hx hb dX1_told_57 rfl (lv_at hl 0 rfl) ?_
  refine va_get (D := D) (ci := 1) (v := .int (nI (0))) (C := RX1) (T := TX1) (N := 11) hx hb hts hin hown hK hP 0 rfl rfl 8 (by decide) hf35 (fun _ h9 => h9) rfl dX1_told_58 ?_
  refine gi_if_le (tgt := 66) hx hb (by omega) dX1_told_61 rfl (fun h61 => ?_) (fun h9 => absurd h9 (by omega))
  refine lv_iload_n hx hb dX1_told_66 rfl (lv_at hl 2 rfl) ?_
  refine gi_if_ne (tgt := 76) hx hb (by omega) dX1_told_67 rfl (fun h67 => ?_) (fun h9 => absurd h9 (by omega))
  refine lv_iload_n hx hb dX1_told_76 rfl (lv_at hl 2 rfl) ?_
  refine lv_iconst (v := nI (1)) hx hb dX1_told_77 (by decide) ?_
  refine gi_icmp_ne (tgt := 101) hx hb (by omega) (by omega) dX1_told_78 rfl (fun h78 => ?_) (fun h9 => absurd h9 (by omega))
  refine lv_aload_n hx hb dX1_told_101 rfl (lv_at hl 0 rfl) ?_
  refine lv_iload_n hx hb dX1_told_102 rfl (lv_at hl 1 rfl) ?_
  refine gi_goV (va_runV (As := [.int (nI (j))]) (rest := []) ⟨hx, hb, hml, hown, hts⟩ (c_X1_isFitting l D cA cB cL A wr q n 0 true sz bt so fc ofs tg nw gr j hw hk hj) (cwV 1 hts gX1_told_X1_isFitting rfl rfl rfl (by decide +kernel) ⟨Nat.le_of_ble_eq_true rfl, Nat.le_of_ble_eq_true rfl⟩) (gi_preV (q0 := 0) hK hP hD rfl rfl rfl) rfl rfl hl.1 rfl (lv_room (Nat.le_of_ble_eq_true rfl)) dX1_told_103 ⟨Nat.le_of_ble_eq_true rfl, Nat.le_of_ble_eq_true rfl⟩) hS (fun H locs hP hS => ?_)
  refine gi_if_eqb (tgt := 113) hx hb dX1_told_106 rfl (fun h106 => ?_) (fun h106 => ?_)
  · refine lv_iconst (v := nI (0)) hx hb dX1_told_113 (by decide) ?_
    exact gi_iret hx hb hlk hr dX1_told_114 (bR_f h106) hP hS
  · refine lv_iconst (v := nI (1)) hx hb dX1_told_109 (by decide) ?_
    refine lv_goto (tgt := 114) hx hb dX1_told_110 rfl ?_
    exact gi_iret hx hb hlk hr dX1_told_114 (bR_t h106) hP hS
set_option maxHeartbeats 4000000 in
set_option maxRecDepth 100000 in
theorem ex1_X1_value (l : Launch) (D : va_G) (cA cB cL : ClassId) (A : Nat → Prop) (wr : va_W) (q : Nat → Nat) (n th : Nat) (sz bt so fc : Nat → Nat) (ofs : Nat → Int32) (tg nw : Nat → Nat) (gr : Nat → Int32) (x : Int32)  : Met l yX1_value wsX1_value ({ frames := 2, cells := 0, slots := 0, locals := 46 }) (gPre D vwCl [(cA, .int), (cB, .boolean), (cL, .long)] ((mw q cA cB n th false sz bt so fc ofs tg nw gr) ++ wr) A [.ref (q 0), .int (x)]) (gPost (some (.long (0))) D vwCl ((mw q cA cB n 1 false sz bt so fc ofs tg nw gr) ++ wr) A) 0 0 A := by
  refine Met.ofW (cc := cX1_value) (maxL := 2) (ret := (some .long)) (by decide) rfl ?_
  intro p e s m args below meth c s₁ B hml hv
  obtain ⟨rfl, hP, hK, hD⟩ := hv
  have hx := B.exec
  have hb := B.bytes
  have hr := B.returns
  have hlk := B.notSynchronized
  have hts := atoms_spec (ws := wsX1_value) B.pre
  have hown : s.vm.findClass RX1 = some m.cls := findClass_of_methodNamed B.named
  have hS : va_S A s.heap s.heap [] := va_S.rf
  have hl := lv_entry ([.ref (q 0), .int (x)]) (n := 2) (Nat.le_of_ble_eq_true rfl)
  rw [lg_entry_eq]
  generalize (lg_sl ([.ref (q 0), .int (x)]) ++ List.replicate (2 - (lg_sl ([.ref (q 0), .int (x)])).length) Slot.unset).toArray = ls at hl ⊢
  have hl : lv_has ls 2 [(0, .ref (q 0)), (1, .int (x))] := hl
  have hin : ∀ w ∈ u_ws RX1 TX1 11, w ∈ wsX1_value := fun w h => List.mem_cons_of_mem _ (inTX1 w h)
  have hf35 := hts _ (List.mem_cons_of_mem _ tfX1_35)
  have hf39 := hts _ (List.mem_cons_of_mem _ tfX1_39)
  have hf42 := hts _ (List.mem_cons_of_mem _ tfX1_42)
  refine lv_aload_n hx hb dX1_value_0 rfl (lv_at hl 0 rfl) ?_
  refine lv_aload_n hx hb dX1_value_1 rfl (lv_at hl 0 rfl) ?_
  refine va_get (D := D) (ci := 1) (v := .int (bI (false))) (C := RX1) (T := TX1) (N := 11) hx hb hts hin hown hK hP 0 rfl rfl 9 (by decide) hf42 (fun _ h9 => h9) rfl dX1_value_2 ?_
  refine gi_if_neb (tgt := 12) hx hb dX1_value_5 rfl (fun h9 => absurd h9 (by decide)) (fun h5 => ?_)
  refine lv_iconst (v := nI (1)) hx hb dX1_value_8 (by decide) ?_
  refine lv_goto (tgt := 29) hx hb dX1_value_9 rfl ?_
  refine va_put (D := D) (ci := 1) (v := .int (nI (1))) (ty := .int) (C := RX1) (T := TX1) (N := 11) hx hb hts hin tyX1 tyX1_ok nmX1 hown hK hP hD hS 0 rfl rfl 8 (by decide) hf35 (fun _ h9 => h9) rfl (by decide +kernel) rfl rfl (Nat.le_of_ble_eq_true rfl) dX1_value_29 (fun H locs hP hD hS => ?_)
  have hP : va_P D vwCl ((mw q cA cB n 1 false sz bt so fc ofs tg nw gr) ++ wr) H := hP
  have hD : va_D A ((mw q cA cB n 1 false sz bt so fc ofs tg nw gr) ++ wr) := hD
  refine lv_aload_n hx hb dX1_value_32 rfl (lv_at hl 0 rfl) ?_
  refine va_get (D := D) (ci := 1) (v := .int (nI (1))) (C := RX1) (T := TX1) (N := 11) hx hb hts hin hown hK hP 0 rfl rfl 8 (by decide) hf35 (fun _ h9 => h9) rfl dX1_value_33 ?_
  refine gi_if_le (tgt := 43) hx hb (by omega) dX1_value_36 rfl (fun h9 => absurd h9 (by omega)) (fun h36 => ?_)
  refine lv_lconst (v := 0) hx hb dX1_value_39 (by decide) ?_
  refine lv_goto (tgt := 48) hx hb dX1_value_40 rfl ?_
  exact gi_lret hx hb hlk hr dX1_value_48 (rfl) hP hS
set_option maxHeartbeats 4000000 in
set_option maxRecDepth 100000 in
theorem ex2_X1_value (l : Launch) (D : va_G) (cA cB cL : ClassId) (A : Nat → Prop) (wr : va_W) (q : Nat → Nat) (n th : Nat) (sz bt so fc : Nat → Nat) (ofs : Nat → Int32) (tg nw : Nat → Nat) (gr : Nat → Int32) (x : Int32) (hx9 : gf_isl n x = false) : Met l yX1_value wsX1_value ({ frames := 2, cells := 0, slots := 0, locals := 46 }) (gPre D vwCl [(cA, .int), (cB, .boolean), (cL, .long)] ((mw q cA cB n th true sz bt so fc ofs tg nw gr) ++ wr) A [.ref (q 0), .int (x)]) (gPost (some (.long (0))) D vwCl ((mw q cA cB n 2 true sz bt so fc ofs tg nw gr) ++ wr) A) 0 0 A := by
  refine Met.ofW (cc := cX1_value) (maxL := 2) (ret := (some .long)) (by decide) rfl ?_
  intro p e s m args below meth c s₁ B hml hv
  obtain ⟨rfl, hP, hK, hD⟩ := hv
  have hx := B.exec
  have hb := B.bytes
  have hr := B.returns
  have hlk := B.notSynchronized
  have hts := atoms_spec (ws := wsX1_value) B.pre
  have hown : s.vm.findClass RX1 = some m.cls := findClass_of_methodNamed B.named
  have hS : va_S A s.heap s.heap [] := va_S.rf
  have hl := lv_entry ([.ref (q 0), .int (x)]) (n := 2) (Nat.le_of_ble_eq_true rfl)
  rw [lg_entry_eq]
  generalize (lg_sl ([.ref (q 0), .int (x)]) ++ List.replicate (2 - (lg_sl ([.ref (q 0), .int (x)])).length) Slot.unset).toArray = ls at hl ⊢
  have hl : lv_has ls 2 [(0, .ref (q 0)), (1, .int (x))] := hl
  have hin : ∀ w ∈ u_ws RX1 TX1 11, w ∈ wsX1_value := fun w h => List.mem_cons_of_mem _ (inTX1 w h)
  have hf35 := hts _ (List.mem_cons_of_mem _ tfX1_35)
  have hf39 := hts _ (List.mem_cons_of_mem _ tfX1_39)
  have hf42 := hts _ (List.mem_cons_of_mem _ tfX1_42)
  refine lv_aload_n hx hb dX1_value_0 rfl (lv_at hl 0 rfl) ?_
  refine lv_aload_n hx hb dX1_value_1 rfl (lv_at hl 0 rfl) ?_
  refine va_get (D := D) (ci := 1) (v := .int (bI (true))) (C := RX1) (T := TX1) (N := 11) hx hb hts hin hown hK hP 0 rfl rfl 9 (by decide) hf42 (fun _ h9 => h9) rfl dX1_value_2 ?_
  refine gi_if_neb (tgt := 12) hx hb dX1_value_5 rfl (fun h5 => ?_) (fun h9 => absurd h9 (by decide))
  refine lv_iload_n hx hb dX1_value_12 rfl (lv_at hl 1 rfl) ?_
  refine lv_if_lt (tgt := 24) hx hb dX1_value_13 rfl (fun h13 => ?_) (fun h13 => ?_)
  · refine lv_iconst (v := nI (2)) hx hb dX1_value_24 (by decide) ?_
    refine lv_goto (tgt := 29) hx hb dX1_value_25 rfl ?_
    refine va_put (D := D) (ci := 1) (v := .int (nI (2))) (ty := .int) (C := RX1) (T := TX1) (N := 11) hx hb hts hin tyX1 tyX1_ok nmX1 hown hK hP hD hS 0 rfl rfl 8 (by decide) hf35 (fun _ h9 => h9) rfl (by decide +kernel) rfl rfl (Nat.le_of_ble_eq_true rfl) dX1_value_29 (fun H locs hP hD hS => ?_)
    have hP : va_P D vwCl ((mw q cA cB n 2 true sz bt so fc ofs tg nw gr) ++ wr) H := hP
    have hD : va_D A ((mw q cA cB n 2 true sz bt so fc ofs tg nw gr) ++ wr) := hD
    refine lv_aload_n hx hb dX1_value_32 rfl (lv_at hl 0 rfl) ?_
    refine va_get (D := D) (ci := 1) (v := .int (nI (2))) (C := RX1) (T := TX1) (N := 11) hx hb hts hin hown hK hP 0 rfl rfl 8 (by decide) hf35 (fun _ h9 => h9) rfl dX1_value_33 ?_
    refine gi_if_le (tgt := 43) hx hb (by omega) dX1_value_36 rfl (fun h9 => absurd h9 (by omega)) (fun h36 => ?_)
    refine lv_lconst (v := 0) hx hb dX1_value_39 (by decide) ?_
    refine lv_goto (tgt := 48) hx hb dX1_value_40 rfl ?_
    exact gi_lret hx hb hlk hr dX1_value_48 (rfl) hP hS
  · refine lv_iload_n hx hb dX1_value_16 rfl (lv_at hl 1 rfl) ?_
    refine lv_aload_n hx hb dX1_value_17 rfl (lv_at hl 0 rfl) ?_
    refine va_get (D := D) (ci := 1) (v := .int (nI (n))) (C := RX1) (T := TX1) (N := 11) hx hb hts hin hown hK hP 0 rfl rfl 7 (by decide) hf39 (fun _ h9 => h9) rfl dX1_value_18 ?_
    refine lv_icmp_lt (tgt := 28) hx hb dX1_value_21 rfl (fun h9 => absurd h9 (fun z9 => absurd (show gf_isl n x = true from decide_eq_true ⟨h13, i32_nle z9⟩) (gf_ne_tf hx9))) (fun h21 => ?_)
    refine lv_iconst (v := nI (2)) hx hb dX1_value_24 (by decide) ?_
    refine lv_goto (tgt := 29) hx hb dX1_value_25 rfl ?_
    refine va_put (D := D) (ci := 1) (v := .int (nI (2))) (ty := .int) (C := RX1) (T := TX1) (N := 11) hx hb hts hin tyX1 tyX1_ok nmX1 hown hK hP hD hS 0 rfl rfl 8 (by decide) hf35 (fun _ h9 => h9) rfl (by decide +kernel) rfl rfl (Nat.le_of_ble_eq_true rfl) dX1_value_29 (fun H locs hP hD hS => ?_)
    have hP : va_P D vwCl ((mw q cA cB n 2 true sz bt so fc ofs tg nw gr) ++ wr) H := hP
    have hD : va_D A ((mw q cA cB n 2 true sz bt so fc ofs tg nw gr) ++ wr) := hD
    refine lv_aload_n hx hb dX1_value_32 rfl (lv_at hl 0 rfl) ?_
    refine va_get (D := D) (ci := 1) (v := .int (nI (2))) (C := RX1) (T := TX1) (N := 11) hx hb hts hin hown hK hP 0 rfl rfl 8 (by decide) hf35 (fun _ h9 => h9) rfl dX1_value_33 ?_
    refine gi_if_le (tgt := 43) hx hb (by omega) dX1_value_36 rfl (fun h9 => absurd h9 (by omega)) (fun h36 => ?_)
    refine lv_lconst (v := 0) hx hb dX1_value_39 (by decide) ?_
    refine lv_goto (tgt := 48) hx hb dX1_value_40 rfl ?_
    exact gi_lret hx hb hlk hr dX1_value_48 (rfl) hP hS
set_option maxHeartbeats 4000000 in
set_option maxRecDepth 100000 in
theorem ok_X1_value (l : Launch) (D : va_G) (cA cB cL : ClassId) (A : Nat → Prop) (wr : va_W) (q : Nat → Nat) (n th : Nat) (sz bt so fc : Nat → Nat) (ofs : Nat → Int32) (tg nw : Nat → Nat) (gr : Nat → Int32) (j : Nat) (hw : gf_wf n fc sz bt so tg) (hk : gf_nk n fc nw) (hj : j < n) : Met l yX1_value wsX1_value ({ frames := 2, cells := 0, slots := 0, locals := 46 }) (gPre D vwCl [(cA, .int), (cB, .boolean), (cL, .long)] ((mw q cA cB n th true sz bt so fc ofs tg nw gr) ++ wr) A [.ref (q 0), .int (nI (j))]) (gPost (some (.long (gf_va fc sz so tg ofs nw j))) D vwCl ((mw q cA cB n 0 true sz bt so fc ofs tg nw gr) ++ wr) A) 0 0 A := by
  refine Met.ofW (cc := cX1_value) (maxL := 2) (ret := (some .long)) (by decide) rfl ?_
  intro p e s m args below meth c s₁ B hml hv
  obtain ⟨rfl, hP, hK, hD⟩ := hv
  have hx := B.exec
  have hb := B.bytes
  have hr := B.returns
  have hlk := B.notSynchronized
  have hts := atoms_spec (ws := wsX1_value) B.pre
  have hown : s.vm.findClass RX1 = some m.cls := findClass_of_methodNamed B.named
  have hS : va_S A s.heap s.heap [] := va_S.rf
  have hl := lv_entry ([.ref (q 0), .int (nI (j))]) (n := 2) (Nat.le_of_ble_eq_true rfl)
  rw [lg_entry_eq]
  generalize (lg_sl ([.ref (q 0), .int (nI (j))]) ++ List.replicate (2 - (lg_sl ([.ref (q 0), .int (nI (j))])).length) Slot.unset).toArray = ls at hl ⊢
  have hl : lv_has ls 2 [(0, .ref (q 0)), (1, .int (nI (j)))] := hl
  have hin : ∀ w ∈ u_ws RX1 TX1 11, w ∈ wsX1_value := fun w h => List.mem_cons_of_mem _ (inTX1 w h)
  have hf35 := hts _ (List.mem_cons_of_mem _ tfX1_35)
  have hf39 := hts _ (List.mem_cons_of_mem _ tfX1_39)
  have hf42 := hts _ (List.mem_cons_of_mem _ tfX1_42)
  have hn := hw.1
  refine lv_aload_n hx hb dX1_value_0 rfl (lv_at hl 0 rfl) ?_
  refine lv_aload_n hx hb dX1_value_1 rfl (lv_at hl 0 rfl) ?_
  refine va_get (D := D) (ci := 1) (v := .int (bI (true))) (C := RX1) (T := TX1) (N := 11) hx hb hts hin hown hK hP 0 rfl rfl 9 (by decide) hf42 (fun _ h9 => h9) rfl dX1_value_2 ?_
  refine gi_if_neb (tgt := 12) hx hb dX1_value_5 rfl (fun h5 => ?_) (fun h9 => absurd h9 (by decide))
  refine lv_iload_n hx hb dX1_value_12 rfl (lv_at hl 1 rfl) ?_
  refine gi_if_lt (tgt := 24) hx hb (by omega) dX1_value_13 rfl (fun h9 => absurd h9 (by omega)) (fun h13 => ?_)
  refine lv_iload_n hx hb dX1_value_16 rfl (lv_at hl 1 rfl) ?_
  refine lv_aload_n hx hb dX1_value_17 rfl (lv_at hl 0 rfl) ?_
  refine va_get (D := D) (ci := 1) (v := .int (nI (n))) (C := RX1) (T := TX1) (N := 11) hx hb hts hin hown hK hP 0 rfl rfl 7 (by decide) hf39 (fun _ h9 => h9) rfl dX1_value_18 ?_
  refine gi_icmp_lt (tgt := 28) hx hb (by omega) (by omega) dX1_value_21 rfl (fun h21 => ?_) (fun h9 => absurd h9 (by omega))
  refine lv_iconst (v := nI (0)) hx hb dX1_value_28 (by decide) ?_
  refine va_put (D := D) (ci := 1) (v := .int (nI (0))) (ty := .int) (C := RX1) (T := TX1) (N := 11) hx hb hts hin tyX1 tyX1_ok nmX1 hown hK hP hD hS 0 rfl rfl 8 (by decide) hf35 (fun _ h9 => h9) rfl (by decide +kernel) rfl rfl (Nat.le_of_ble_eq_true rfl) dX1_value_29 (fun H locs hP hD hS => ?_)
  have hP : va_P D vwCl ((mw q cA cB n 0 true sz bt so fc ofs tg nw gr) ++ wr) H := hP
  have hD : va_D A ((mw q cA cB n 0 true sz bt so fc ofs tg nw gr) ++ wr) := hD
  refine lv_aload_n hx hb dX1_value_32 rfl (lv_at hl 0 rfl) ?_
  refine va_get (D := D) (ci := 1) (v := .int (nI (0))) (C := RX1) (T := TX1) (N := 11) hx hb hts hin hown hK hP 0 rfl rfl 8 (by decide) hf35 (fun _ h9 => h9) rfl dX1_value_33 ?_
  refine gi_if_le (tgt := 43) hx hb (by omega) dX1_value_36 rfl (fun h36 => ?_) (fun h9 => absurd h9 (by omega))
  refine lv_aload_n hx hb dX1_value_43 rfl (lv_at hl 0 rfl) ?_
  refine lv_iload_n hx hb dX1_value_44 rfl (lv_at hl 1 rfl) ?_
  refine gi_goV (va_runV (As := [.int (nI (j))]) (rest := []) ⟨hx, hb, hml, hown, hts⟩ (c_X1_worth l D cA cB cL A wr q n 0 true sz bt so fc ofs tg nw gr j hw hk hj) (cwV 1 hts gX1_value_X1_worth rfl rfl rfl (by decide +kernel) ⟨Nat.le_of_ble_eq_true rfl, Nat.le_of_ble_eq_true rfl⟩) (gi_preV (q0 := 0) hK hP hD rfl rfl rfl) rfl rfl hl.1 rfl (lv_room (Nat.le_of_ble_eq_true rfl)) dX1_value_45 ⟨Nat.le_of_ble_eq_true rfl, Nat.le_of_ble_eq_true rfl⟩) hS (fun H locs hP hS => ?_)
  exact gi_lret hx hb hlk hr dX1_value_48 (rfl) hP hS
set_option maxHeartbeats 4000000 in
set_option maxRecDepth 100000 in
theorem ex_X1_wrong (l : Launch) (D : va_G) (cA cB cL : ClassId) (A : Nat → Prop) (wr : va_W) (q : Nat → Nat) (n th : Nat) (sz bt so fc : Nat → Nat) (ofs : Nat → Int32) (tg nw : Nat → Nat) (gr : Nat → Int32)  : Met l yX1_wrong wsX1_wrong ({ frames := 3, cells := 0, slots := 0, locals := 72 }) (gPre D vwCl [(cA, .int), (cB, .boolean), (cL, .long)] ((mw q cA cB n th false sz bt so fc ofs tg nw gr) ++ wr) A [.ref (q 0)]) (gPost (some (.int (nI (0)))) D vwCl ((mw q cA cB n 1 false sz bt so fc ofs tg nw gr) ++ wr) A) 0 0 A := by
  refine Met.ofW (cc := cX1_wrong) (maxL := 2) (ret := (some .int)) (by decide) rfl ?_
  intro p e s m args below meth c s₁ B hml hv
  obtain ⟨rfl, hP, hK, hD⟩ := hv
  have hx := B.exec
  have hb := B.bytes
  have hr := B.returns
  have hlk := B.notSynchronized
  have hts := atoms_spec (ws := wsX1_wrong) B.pre
  have hown : s.vm.findClass RX1 = some m.cls := findClass_of_methodNamed B.named
  have hS : va_S A s.heap s.heap [] := va_S.rf
  have hl := lv_entry ([.ref (q 0)]) (n := 2) (Nat.le_of_ble_eq_true rfl)
  rw [lg_entry_eq]
  generalize (lg_sl ([.ref (q 0)]) ++ List.replicate (2 - (lg_sl ([.ref (q 0)])).length) Slot.unset).toArray = ls at hl ⊢
  have hl : lv_has ls 2 [(0, .ref (q 0))] := hl
  have hin : ∀ w ∈ u_ws RX1 TX1 11, w ∈ wsX1_wrong := fun w h => List.mem_cons_of_mem _ (inTX1 w h)
  have hf35 := hts _ (List.mem_cons_of_mem _ tfX1_35)
  have hf39 := hts _ (List.mem_cons_of_mem _ tfX1_39)
  have hf42 := hts _ (List.mem_cons_of_mem _ tfX1_42)
  refine lv_aload_n hx hb dX1_wrong_0 rfl (lv_at hl 0 rfl) ?_
  refine lv_aload_n hx hb dX1_wrong_1 rfl (lv_at hl 0 rfl) ?_
  refine va_get (D := D) (ci := 1) (v := .int (bI (false))) (C := RX1) (T := TX1) (N := 11) hx hb hts hin hown hK hP 0 rfl rfl 9 (by decide) hf42 (fun _ h9 => h9) rfl dX1_wrong_2 ?_
  refine gi_if_eqb (tgt := 12) hx hb dX1_wrong_5 rfl (fun h5 => ?_) (fun h9 => absurd h9 (by decide))
  refine lv_iconst (v := nI (1)) hx hb dX1_wrong_12 (by decide) ?_
  refine va_put (D := D) (ci := 1) (v := .int (nI (1))) (ty := .int) (C := RX1) (T := TX1) (N := 11) hx hb hts hin tyX1 tyX1_ok nmX1 hown hK hP hD hS 0 rfl rfl 8 (by decide) hf35 (fun _ h9 => h9) rfl (by decide +kernel) rfl rfl (Nat.le_of_ble_eq_true rfl) dX1_wrong_13 (fun H locs hP hD hS => ?_)
  have hP : va_P D vwCl ((mw q cA cB n 1 false sz bt so fc ofs tg nw gr) ++ wr) H := hP
  have hD : va_D A ((mw q cA cB n 1 false sz bt so fc ofs tg nw gr) ++ wr) := hD
  refine lv_aload_n hx hb dX1_wrong_16 rfl (lv_at hl 0 rfl) ?_
  refine va_get (D := D) (ci := 1) (v := .int (nI (1))) (C := RX1) (T := TX1) (N := 11) hx hb hts hin hown hK hP 0 rfl rfl 8 (by decide) hf35 (fun _ h9 => h9) rfl dX1_wrong_17 ?_
  refine gi_if_le (tgt := 25) hx hb (by omega) dX1_wrong_20 rfl (fun h9 => absurd h9 (by omega)) (fun h20 => ?_)
  refine lv_iconst (v := nI (0)) hx hb dX1_wrong_23 (by decide) ?_
  exact gi_iret hx hb hlk hr dX1_wrong_24 (rfl) hP hS
set_option maxHeartbeats 4000000 in
set_option maxRecDepth 100000 in
theorem ok_X1_wrong (l : Launch) (D : va_G) (cA cB cL : ClassId) (A : Nat → Prop) (wr : va_W) (q : Nat → Nat) (n th : Nat) (sz bt so fc : Nat → Nat) (ofs : Nat → Int32) (tg nw : Nat → Nat) (gr : Nat → Int32) (hw : gf_wf n fc sz bt so tg) (hk : gf_nk n fc nw)  : Met l yX1_wrong wsX1_wrong ({ frames := 3, cells := 0, slots := 0, locals := 72 }) (gPre D vwCl [(cA, .int), (cB, .boolean), (cL, .long)] ((mw q cA cB n th true sz bt so fc ofs tg nw gr) ++ wr) A [.ref (q 0)]) (gPost (some (.int (gf_lu (gf_fit fc sz bt so tg ofs nw) n 0))) D vwCl ((mw q cA cB n 0 true sz bt so fc ofs tg nw gr) ++ wr) A) 0 0 A := by
  refine Met.ofW (cc := cX1_wrong) (maxL := 2) (ret := (some .int)) (by decide) rfl ?_
  intro p e s m args below meth c s₁ B hml hv
  obtain ⟨rfl, hP, hK, hD⟩ := hv
  have hx := B.exec
  have hb := B.bytes
  have hr := B.returns
  have hlk := B.notSynchronized
  have hts := atoms_spec (ws := wsX1_wrong) B.pre
  have hown : s.vm.findClass RX1 = some m.cls := findClass_of_methodNamed B.named
  have hS : va_S A s.heap s.heap [] := va_S.rf
  have hl := lv_entry ([.ref (q 0)]) (n := 2) (Nat.le_of_ble_eq_true rfl)
  rw [lg_entry_eq]
  generalize (lg_sl ([.ref (q 0)]) ++ List.replicate (2 - (lg_sl ([.ref (q 0)])).length) Slot.unset).toArray = ls at hl ⊢
  have hl : lv_has ls 2 [(0, .ref (q 0))] := hl
  have hin : ∀ w ∈ u_ws RX1 TX1 11, w ∈ wsX1_wrong := fun w h => List.mem_cons_of_mem _ (inTX1 w h)
  have hf35 := hts _ (List.mem_cons_of_mem _ tfX1_35)
  have hf39 := hts _ (List.mem_cons_of_mem _ tfX1_39)
  have hf42 := hts _ (List.mem_cons_of_mem _ tfX1_42)
  have hn := hw.1
  refine lv_aload_n hx hb dX1_wrong_0 rfl (lv_at hl 0 rfl) ?_
  refine lv_aload_n hx hb dX1_wrong_1 rfl (lv_at hl 0 rfl) ?_
  refine va_get (D := D) (ci := 1) (v := .int (bI (true))) (C := RX1) (T := TX1) (N := 11) hx hb hts hin hown hK hP 0 rfl rfl 9 (by decide) hf42 (fun _ h9 => h9) rfl dX1_wrong_2 ?_
  refine gi_if_eqb (tgt := 12) hx hb dX1_wrong_5 rfl (fun h9 => absurd h9 (by decide)) (fun h5 => ?_)
  refine lv_iconst (v := nI (0)) hx hb dX1_wrong_8 (by decide) ?_
  refine lv_goto (tgt := 13) hx hb dX1_wrong_9 rfl ?_
  refine va_put (D := D) (ci := 1) (v := .int (nI (0))) (ty := .int) (C := RX1) (T := TX1) (N := 11) hx hb hts hin tyX1 tyX1_ok nmX1 hown hK hP hD hS 0 rfl rfl 8 (by decide) hf35 (fun _ h9 => h9) rfl (by decide +kernel) rfl rfl (Nat.le_of_ble_eq_true rfl) dX1_wrong_13 (fun H locs hP hD hS => ?_)
  have hP : va_P D vwCl ((mw q cA cB n 0 true sz bt so fc ofs tg nw gr) ++ wr) H := hP
  have hD : va_D A ((mw q cA cB n 0 true sz bt so fc ofs tg nw gr) ++ wr) := hD
  refine lv_aload_n hx hb dX1_wrong_16 rfl (lv_at hl 0 rfl) ?_
  refine va_get (D := D) (ci := 1) (v := .int (nI (0))) (C := RX1) (T := TX1) (N := 11) hx hb hts hin hown hK hP 0 rfl rfl 8 (by decide) hf35 (fun _ h9 => h9) rfl dX1_wrong_17 ?_
  refine gi_if_le (tgt := 25) hx hb (by omega) dX1_wrong_20 rfl (fun h20 => ?_) (fun h9 => absurd h9 (by omega))
  refine lv_iconst (v := nI (0)) hx hb dX1_wrong_25 (by decide) ?_
  refine lv_istore_n (lv' := [(1, .int (nI (0))), (0, .ref (q 0))]) hx hb dX1_wrong_26 rfl hl (by decide) rfl (fun ls hl => ?_)
  have loop : ∀ (k i : Nat), i + k = n → gf_lu (gf_fit fc sz bt so tg ofs nw) k i = gf_lu (gf_fit fc sz bt so tg ofs nw) n 0 → ∀ (H : Heap) (locs : List Loc) (ls : Array Slot), va_P D vwCl ((mw q cA cB n 0 true sz bt so fc ofs tg nw gr) ++ wr) H → va_S A s.heap H locs → lv_has ls 2 [(1, .int (nI (i))), (0, .ref (q 0))] → W p l e (headSpec wsX1_wrong ({ frames := 3, cells := 0, slots := 0, locals := 72 })).room s m ([.ref (q 0)] : List Value).toArray below meth c H locs 0 0 (MQ below (gPost (some (.int (gf_lu (gf_fit fc sz bt so tg ofs nw) n 0))) D vwCl ((mw q cA cB n 0 true sz bt so fc ofs tg nw gr) ++ wr) A) ([.ref (q 0)] : List Value).toArray s 0 0 A) (F0 m 27 ls []) := by
    intro k
    induction k with
    | zero =>
      intro i hik hinv H locs ls hP hS hl
      have h9 : n = i := by omega
      subst h9
      have hD : va_D A ((mw q cA cB n 0 true sz bt so fc ofs tg nw gr) ++ wr) := gD_same hD rfl
      refine lv_iload_n hx hb dX1_wrong_27 rfl (lv_at hl 0 rfl) ?_
      refine lv_aload_n hx hb dX1_wrong_28 rfl (lv_at hl 1 rfl) ?_
      refine va_get (D := D) (ci := 1) (v := .int (nI (n))) (C := RX1) (T := TX1) (N := 11) hx hb hts hin hown hK hP 0 rfl rfl 7 (by decide) hf39 (fun _ h9 => h9) rfl dX1_wrong_29 ?_
      refine gi_icmp_ge (tgt := 51) hx hb (by omega) (by omega) dX1_wrong_32 rfl (fun h32 => ?_) (fun h9 => absurd h9 (by omega))
      refine lv_iconst (v := -1) hx hb dX1_wrong_51 (by decide) ?_
      exact gi_iret hx hb hlk hr dX1_wrong_52 (hinv) hP hS
    | succ k ih =>
      intro i hik hinv H locs ls hP hS hl
      have hi : i < n := by omega
      have hD : va_D A ((mw q cA cB n 0 true sz bt so fc ofs tg nw gr) ++ wr) := gD_same hD rfl
      refine lv_iload_n hx hb dX1_wrong_27 rfl (lv_at hl 0 rfl) ?_
      refine lv_aload_n hx hb dX1_wrong_28 rfl (lv_at hl 1 rfl) ?_
      refine va_get (D := D) (ci := 1) (v := .int (nI (n))) (C := RX1) (T := TX1) (N := 11) hx hb hts hin hown hK hP 0 rfl rfl 7 (by decide) hf39 (fun _ h9 => h9) rfl dX1_wrong_29 ?_
      refine gi_icmp_ge (tgt := 51) hx hb (by omega) (by omega) dX1_wrong_32 rfl (fun h9 => absurd h9 (by omega)) (fun h32 => ?_)
      refine lv_aload_n hx hb dX1_wrong_35 rfl (lv_at hl 1 rfl) ?_
      refine lv_iload_n hx hb dX1_wrong_36 rfl (lv_at hl 0 rfl) ?_
      refine gi_goV (va_runV (As := [.int (nI (i))]) (rest := []) ⟨hx, hb, hml, hown, hts⟩ (c_X1_isFitting l D cA cB cL A wr q n 0 true sz bt so fc ofs tg nw gr i hw hk hi) (cwV 1 hts gX1_wrong_X1_isFitting rfl rfl rfl (by decide +kernel) ⟨Nat.le_of_ble_eq_true rfl, Nat.le_of_ble_eq_true rfl⟩) (gi_preV (q0 := 0) hK hP hD rfl rfl rfl) rfl rfl hl.1 rfl (lv_room (Nat.le_of_ble_eq_true rfl)) dX1_wrong_37 ⟨Nat.le_of_ble_eq_true rfl, Nat.le_of_ble_eq_true rfl⟩) hS (fun H locs hP hS => ?_)
      refine gi_if_neb (tgt := 45) hx hb dX1_wrong_40 rfl (fun h40 => ?_) (fun h40 => ?_)
      · refine lv_iinc (k := 0) (lv' := [(1, .int (nI (i + 1))), (0, .ref (q 0))]) hx hb dX1_wrong_45 hl rfl (gi_inc _) (by decide) rfl (fun ls hl => ?_)
        refine lv_goto (tgt := 27) hx hb dX1_wrong_48 rfl ?_
        exact ih (i + 1) (by omega) ((if_pos h40).symm.trans hinv) H locs ls hP hS (lv_sub hl [0, 1] rfl)
      · refine lv_iload_n hx hb dX1_wrong_43 rfl (lv_at hl 0 rfl) ?_
        exact gi_iret hx hb hlk hr dX1_wrong_44 ((if_neg (gf_ne_tf h40)).symm.trans hinv) hP hS
  exact loop n 0 (by omega) rfl _ _ _ hP hS (lv_sub hl [0, 1] rfl)
