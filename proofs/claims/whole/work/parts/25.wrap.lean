set_option maxHeartbeats 4000000 in
set_option maxRecDepth 100000 in
theorem wok_L_line (l : Launch) (D : va_G) (cA cB cL : ClassId) (A : Nat → Prop) (wr : va_W) (qo : Nat) (fo : Nat → Int64) (q : Nat → Nat) (n : Nat) (st : Bool) (sz bt so fc : Nat → Nat) (ofs : Nat → Int32) (tg : Nat → Nat) (ch : Nat → Int32) (ad : Nat → Nat) (hn : n < 120) : Met l yL_line wsL_line ({ frames := 1, cells := 0, slots := 0, locals := 21 }) (gPre D vwCl [(cA, .int), (cB, .boolean), (cL, .long)] ((xw q cA n st sz bt so fc ofs tg ch ad) ++ (og qo cL fo :: wr)) A [.ref (q 0), .ref (qo)]) (gPost (some (.int (nI (0)))) D vwCl ((xw q cA (n + 1) false sz bt so (gU fc n 0) (upd ofs n (nI (0))) (gU tg n 0) ch ad) ++ (og qo cL (vp_updL fo 0 ((nI (n)).toInt64)) :: wr)) A) 0 0 A := by
  refine va_MetW (hh := [(0, 8, 11, 13)]) (cc := cL_line) (maxL := 3) (ret := (some .int)) (by decide) rfl ?_
  intro p e s m args below meth c s₁ B hml hv
  obtain ⟨rfl, hP, hK, hD⟩ := hv
  have hx := B.exec
  have hb := B.bytes
  have hr := B.returns
  have hlk := B.notSynchronized
  have hts := atoms_spec (ws := wsL_line) B.pre
  have hown : s.vm.findClass RL = some m.cls := findClass_of_methodNamed B.named
  have hS : va_S A s.heap s.heap [] := va_S.rf
  have hl := lv_entry ([.ref (q 0), .ref (qo)]) (n := 3) (Nat.le_of_ble_eq_true rfl)
  rw [lg_entry_eq]
  generalize (lg_sl ([.ref (q 0), .ref (qo)]) ++ List.replicate (3 - (lg_sl ([.ref (q 0), .ref (qo)])).length) Slot.unset).toArray = ls at hl ⊢
  have hl : lv_has ls 3 [(0, .ref (q 0)), (1, .ref (qo))] := hl
  refine lv_aload_n hx hb dL_line_0 rfl (lv_at hl 1 rfl) ?_
  refine lv_iconst (v := nI (0)) hx hb dL_line_1 (by decide) ?_
  refine lv_aload_n hx hb dL_line_2 rfl (lv_at hl 0 rfl) ?_
  refine gi_goV (va_runV (As := []) (rest := [.int (nI (0)), .ref (qo)]) ⟨hx, hb, hml, hown, hts⟩ (ok_X0_line l D cA cB cL A (og qo cL fo :: wr) q n st sz bt so fc ofs tg ch ad hn) (cwV 0 hts gL_line_X0_line rfl rfl rfl (by decide +kernel) ⟨Nat.le_of_ble_eq_true rfl, Nat.le_of_ble_eq_true rfl⟩) (gi_preV (q0 := 0) hK hP hD rfl rfl rfl) rfl rfl hl.1 rfl (lv_room (Nat.le_of_ble_eq_true rfl)) dL_line_3 ⟨Nat.le_of_ble_eq_true rfl, Nat.le_of_ble_eq_true rfl⟩) hS (fun H locs hP hS => ?_)
  have hP : va_P D vwCl ((xw q cA (n + 1) false sz bt so (gU fc n 0) (upd ofs n (nI (0))) (gU tg n 0) ch ad) ++ (og qo cL fo :: wr)) H := hP
  have hD : va_D A ((xw q cA (n + 1) false sz bt so (gU fc n 0) (upd ofs n (nI (0))) (gU tg n 0) ch ad) ++ (og qo cL fo :: wr)) := gD_same hD rfl
  refine lv_i2l (v := ((nI (n))).toInt64) hx hb dL_line_6 rfl ?_
  refine gi_lst hx hb hK hP hD hS 9 2 fo rfl rfl (by decide) (by decide) dL_line_7 (fun H locs hP hD hS => ?_)
  have hP : va_P D vwCl ((xw q cA (n + 1) false sz bt so (gU fc n 0) (upd ofs n (nI (0))) (gU tg n 0) ch ad) ++ (og qo cL (vp_updL fo 0 (((nI (n))).toInt64)) :: wr)) H := hP
  have hD : va_D A ((xw q cA (n + 1) false sz bt so (gU fc n 0) (upd ofs n (nI (0))) (gU tg n 0) ch ad) ++ (og qo cL (vp_updL fo 0 (((nI (n))).toInt64)) :: wr)) := hD
  refine lv_goto (tgt := 14) hx hb dL_line_8 rfl ?_
  refine lv_iconst (v := nI (0)) hx hb dL_line_14 (by decide) ?_
  exact gi_iretN hx hb hlk hr dL_line_15 rfl hP hS
set_option maxHeartbeats 4000000 in
set_option maxRecDepth 100000 in
theorem wex_L_line (l : Launch) (hl9 : l.stackTraces = false) (D : va_G) (cA cB cL : ClassId) (A : Nat → Prop) (wr : va_W) (qo : Nat) (fo : Nat → Int64) (q : Nat → Nat) (n : Nat) (st : Bool) (sz bt so fc : Nat → Nat) (ofs : Nat → Int32) (tg : Nat → Nat) (ch : Nat → Int32) (ad : Nat → Nat) (hn : n = 120) : Met l yL_line wsL_line ({ frames := 7, cells := 1, slots := 6, locals := 103 }) (gPreX D vwCl [(cA, .int), (cB, .boolean), (cL, .long)] ((xw q cA n st sz bt so fc ofs tg ch ad) ++ (og qo cL fo :: wr)) A [.ref (q 0), .ref (qo)]) (gPost (some (.int (nI (1)))) D vwCl ((xw q cA n st sz bt so fc ofs tg ch ad) ++ (og qo cL fo :: wr)) A) 1 6 A := by
  refine va_MetW (hh := [(0, 8, 11, 13)]) (cc := cL_line) (maxL := 3) (ret := (some .int)) (by decide) rfl ?_
  intro p e s m args below meth c s₁ B hml hv
  obtain ⟨rfl, hP, hK, hD, hX⟩ := hv
  have hx := B.exec
  have hb := B.bytes
  have hr := B.returns
  have hlk := B.notSynchronized
  have hts := atoms_spec (ws := wsL_line) B.pre
  have hown : s.vm.findClass RL = some m.cls := findClass_of_methodNamed B.named
  have hS : va_S A s.heap s.heap [] := va_S.rf
  have hl := lv_entry ([.ref (q 0), .ref (qo)]) (n := 3) (Nat.le_of_ble_eq_true rfl)
  rw [lg_entry_eq]
  generalize (lg_sl ([.ref (q 0), .ref (qo)]) ++ List.replicate (3 - (lg_sl ([.ref (q 0), .ref (qo)])).length) Slot.unset).toArray = ls at hl ⊢
  have hTab : c.exceptionTable.toList = tableOf [(0, 8, 11, 13)] := vx_table (x := yL_line) B (hts (.codeWith yL_line cL_line 3 (some .int) [(0, 8, 11, 13)]) (by unfold wsL_line; exact List.mem_cons_self))
  have hl : lv_has ls 3 [(0, .ref (q 0)), (1, .ref (qo))] := hl
  refine lv_aload_n hx hb dL_line_0 rfl (lv_at hl 1 rfl) ?_
  refine lv_iconst (v := nI (0)) hx hb dL_line_1 (by decide) ?_
  refine lv_aload_n hx hb dL_line_2 rfl (lv_at hl 0 rfl) ?_
  refine gi_goX (vx_runV (As := []) (rest := [.int (nI (0)), .ref (qo)]) ⟨hx, hb, hml, hown, hts⟩ (ex_X0_line l hl9 D cA cB cL A (og qo cL fo :: wr) q n st sz bt so fc ofs tg ch ad hn) (cwV 0 hts gL_line_X0_line rfl rfl rfl (by decide +kernel) ⟨Nat.le_of_ble_eq_true rfl, Nat.le_of_ble_eq_true rfl⟩) (gi_preVX (q0 := 0) hK hP hD hX hS rfl rfl rfl) rfl rfl hl.1 rfl (lv_room (Nat.le_of_ble_eq_true rfl)) dL_line_3 ⟨Nat.le_of_ble_eq_true rfl, Nat.le_of_ble_eq_true rfl⟩) hS (fun ce q9 H locs hP hS hce hcv hcl => ?_)
  refine vx_catch (own := RL) (name := sISE) (E := sISE) hown [] ⟨0, 8, 11, 13⟩ [] (by rw [hTab]; rfl) (fun z hz => nomatch hz) (by decide) (by decide) (hts _ (List.mem_cons_of_mem _ tkL_13)) (va_Nw.use rfl (hX.2.2.1 _ (List.mem_of_getElem? (i := 3) rfl))) hce hcv hcl ?_
  have hD : va_D A ((xw q cA n st sz bt so fc ofs tg ch ad) ++ (og qo cL fo :: wr)) := gD_same hD rfl
  refine lv_astore_n (lv' := [(2, .ref (q9)), (0, .ref (q 0)), (1, .ref (qo))]) hx hb dL_line_11 rfl hl (by decide) rfl (fun ls hl => ?_)
  refine lv_iconst (v := nI (1)) hx hb dL_line_12 (by decide) ?_
  exact gi_iretN hx hb hlk hr dL_line_13 rfl hP hS
set_option maxHeartbeats 4000000 in
set_option maxRecDepth 100000 in
theorem wok_L_form (l : Launch) (D : va_G) (cA cB cL : ClassId) (A : Nat → Prop) (wr : va_W) (qo : Nat) (fo : Nat → Int64) (q : Nat → Nat) (st : Bool) (sz bt so fc : Nat → Nat) (ofs : Nat → Int32) (tg : Nat → Nat) (ch : Nat → Int32) (ad : Nat → Nat) (k x y z : Nat) (hk : k < 120) (hfc : fc k < 4) (hf : gf_isf (nI x) (nI y) (nI z) = true) : Met l yL_form wsL_form ({ frames := 2, cells := 0, slots := 0, locals := 47 }) (gPre D vwCl [(cA, .int), (cB, .boolean), (cL, .long)] ((xw q cA (k + 1) st sz bt so fc ofs tg ch ad) ++ (og qo cL fo :: wr)) A [.ref (q 0), .int (nI (x)), .int (nI (y)), .int (nI (z)), .ref (qo)]) (gPost (some (.int (nI (0)))) D vwCl ((xw q cA (k + 1) false (gU sz (4 * k + fc k) x) (gU bt (4 * k + fc k) y) (gU so (4 * k + fc k) z) (gU fc k (fc k + 1)) ofs tg ch ad) ++ (og qo cL (vp_updL fo 0 ((nI (fc k + 1)).toInt64)) :: wr)) A) 0 0 A := by
  refine va_MetW (hh := [(0, 12, 15, 19), (0, 12, 19, 13)]) (cc := cL_form) (maxL := 6) (ret := (some .int)) (by decide) rfl ?_
  intro p e s m args below meth c s₁ B hml hv
  obtain ⟨rfl, hP, hK, hD⟩ := hv
  have hx := B.exec
  have hb := B.bytes
  have hr := B.returns
  have hlk := B.notSynchronized
  have hts := atoms_spec (ws := wsL_form) B.pre
  have hown : s.vm.findClass RL = some m.cls := findClass_of_methodNamed B.named
  have hS : va_S A s.heap s.heap [] := va_S.rf
  have hl := lv_entry ([.ref (q 0), .int (nI (x)), .int (nI (y)), .int (nI (z)), .ref (qo)]) (n := 6) (Nat.le_of_ble_eq_true rfl)
  rw [lg_entry_eq]
  generalize (lg_sl ([.ref (q 0), .int (nI (x)), .int (nI (y)), .int (nI (z)), .ref (qo)]) ++ List.replicate (6 - (lg_sl ([.ref (q 0), .int (nI (x)), .int (nI (y)), .int (nI (z)), .ref (qo)])).length) Slot.unset).toArray = ls at hl ⊢
  have hl : lv_has ls 6 [(0, .ref (q 0)), (1, .int (nI (x))), (2, .int (nI (y))), (3, .int (nI (z))), (4, .ref (qo))] := hl
  refine lv_aload hx hb dL_form_0 (lv_at hl 4 rfl) ?_
  refine lv_iconst (v := nI (0)) hx hb dL_form_2 (by decide) ?_
  refine lv_aload_n hx hb dL_form_3 rfl (lv_at hl 0 rfl) ?_
  refine lv_iload_n hx hb dL_form_4 rfl (lv_at hl 1 rfl) ?_
  refine lv_iload_n hx hb dL_form_5 rfl (lv_at hl 2 rfl) ?_
  refine lv_iload_n hx hb dL_form_6 rfl (lv_at hl 3 rfl) ?_
  refine gi_goV (va_runV (As := [.int (nI (x)), .int (nI (y)), .int (nI (z))]) (rest := [.int (nI (0)), .ref (qo)]) ⟨hx, hb, hml, hown, hts⟩ (ok_X0_form l D cA cB cL A (og qo cL fo :: wr) q st sz bt so fc ofs tg ch ad k x y z hk hfc hf) (cwV 3 hts gL_form_X0_form rfl rfl rfl (by decide +kernel) ⟨Nat.le_of_ble_eq_true rfl, Nat.le_of_ble_eq_true rfl⟩) (gi_preV (q0 := 0) hK hP hD rfl rfl rfl) rfl rfl hl.1 rfl (lv_room (Nat.le_of_ble_eq_true rfl)) dL_form_7 ⟨Nat.le_of_ble_eq_true rfl, Nat.le_of_ble_eq_true rfl⟩) hS (fun H locs hP hS => ?_)
  have hP : va_P D vwCl ((xw q cA (k + 1) false (gU sz (4 * k + fc k) x) (gU bt (4 * k + fc k) y) (gU so (4 * k + fc k) z) (gU fc k (fc k + 1)) ofs tg ch ad) ++ (og qo cL fo :: wr)) H := hP
  have hD : va_D A ((xw q cA (k + 1) false (gU sz (4 * k + fc k) x) (gU bt (4 * k + fc k) y) (gU so (4 * k + fc k) z) (gU fc k (fc k + 1)) ofs tg ch ad) ++ (og qo cL fo :: wr)) := gD_same hD rfl
  refine lv_i2l (v := ((nI (fc k + 1))).toInt64) hx hb dL_form_10 rfl ?_
  refine gi_lst hx hb hK hP hD hS 9 2 fo rfl rfl (by decide) (by decide) dL_form_11 (fun H locs hP hD hS => ?_)
  have hP : va_P D vwCl ((xw q cA (k + 1) false (gU sz (4 * k + fc k) x) (gU bt (4 * k + fc k) y) (gU so (4 * k + fc k) z) (gU fc k (fc k + 1)) ofs tg ch ad) ++ (og qo cL (vp_updL fo 0 (((nI (fc k + 1))).toInt64)) :: wr)) H := hP
  have hD : va_D A ((xw q cA (k + 1) false (gU sz (4 * k + fc k) x) (gU bt (4 * k + fc k) y) (gU so (4 * k + fc k) z) (gU fc k (fc k + 1)) ofs tg ch ad) ++ (og qo cL (vp_updL fo 0 (((nI (fc k + 1))).toInt64)) :: wr)) := hD
  refine lv_goto (tgt := 23) hx hb dL_form_12 rfl ?_
  refine lv_iconst (v := nI (0)) hx hb dL_form_23 (by decide) ?_
  exact gi_iretN hx hb hlk hr dL_form_24 rfl hP hS
set_option maxHeartbeats 4000000 in
set_option maxRecDepth 100000 in
theorem wex1_L_form (l : Launch) (hl9 : l.stackTraces = false) (D : va_G) (cA cB cL : ClassId) (A : Nat → Prop) (wr : va_W) (qo : Nat) (fo : Nat → Int64) (q : Nat → Nat) (n : Nat) (st : Bool) (sz bt so fc : Nat → Nat) (ofs : Nat → Int32) (tg : Nat → Nat) (ch : Nat → Int32) (ad : Nat → Nat) (x y z : Int32) (hf : gf_isf x y z = false) : Met l yL_form wsL_form ({ frames := 7, cells := 1, slots := 6, locals := 107 }) (gPreX D vwCl [(cA, .int), (cB, .boolean), (cL, .long)] ((xw q cA n st sz bt so fc ofs tg ch ad) ++ (og qo cL fo :: wr)) A [.ref (q 0), .int (x), .int (y), .int (z), .ref (qo)]) (gPost (some (.int (nI (1)))) D vwCl ((xw q cA n st sz bt so fc ofs tg ch ad) ++ (og qo cL fo :: wr)) A) 1 6 A := by
  refine va_MetW (hh := [(0, 12, 15, 19), (0, 12, 19, 13)]) (cc := cL_form) (maxL := 6) (ret := (some .int)) (by decide) rfl ?_
  intro p e s m args below meth c s₁ B hml hv
  obtain ⟨rfl, hP, hK, hD, hX⟩ := hv
  have hx := B.exec
  have hb := B.bytes
  have hr := B.returns
  have hlk := B.notSynchronized
  have hts := atoms_spec (ws := wsL_form) B.pre
  have hown : s.vm.findClass RL = some m.cls := findClass_of_methodNamed B.named
  have hS : va_S A s.heap s.heap [] := va_S.rf
  have hl := lv_entry ([.ref (q 0), .int (x), .int (y), .int (z), .ref (qo)]) (n := 6) (Nat.le_of_ble_eq_true rfl)
  rw [lg_entry_eq]
  generalize (lg_sl ([.ref (q 0), .int (x), .int (y), .int (z), .ref (qo)]) ++ List.replicate (6 - (lg_sl ([.ref (q 0), .int (x), .int (y), .int (z), .ref (qo)])).length) Slot.unset).toArray = ls at hl ⊢
  have hTab : c.exceptionTable.toList = tableOf [(0, 12, 15, 19), (0, 12, 19, 13)] := vx_table (x := yL_form) B (hts (.codeWith yL_form cL_form 6 (some .int) [(0, 12, 15, 19), (0, 12, 19, 13)]) (by unfold wsL_form; exact List.mem_cons_self))
  have hl : lv_has ls 6 [(0, .ref (q 0)), (1, .int (x)), (2, .int (y)), (3, .int (z)), (4, .ref (qo))] := hl
  refine lv_aload hx hb dL_form_0 (lv_at hl 4 rfl) ?_
  refine lv_iconst (v := nI (0)) hx hb dL_form_2 (by decide) ?_
  refine lv_aload_n hx hb dL_form_3 rfl (lv_at hl 0 rfl) ?_
  refine lv_iload_n hx hb dL_form_4 rfl (lv_at hl 1 rfl) ?_
  refine lv_iload_n hx hb dL_form_5 rfl (lv_at hl 2 rfl) ?_
  refine lv_iload_n hx hb dL_form_6 rfl (lv_at hl 3 rfl) ?_
  refine gi_goX (vx_runV (As := [.int (x), .int (y), .int (z)]) (rest := [.int (nI (0)), .ref (qo)]) ⟨hx, hb, hml, hown, hts⟩ (ex1_X0_form l hl9 D cA cB cL A (og qo cL fo :: wr) q n st sz bt so fc ofs tg ch ad x y z hf) (cwV 3 hts gL_form_X0_form rfl rfl rfl (by decide +kernel) ⟨Nat.le_of_ble_eq_true rfl, Nat.le_of_ble_eq_true rfl⟩) (gi_preVX (q0 := 0) hK hP hD hX hS rfl rfl rfl) rfl rfl hl.1 rfl (lv_room (Nat.le_of_ble_eq_true rfl)) dL_form_7 ⟨Nat.le_of_ble_eq_true rfl, Nat.le_of_ble_eq_true rfl⟩) hS (fun ce q9 H locs hP hS hce hcv hcl => ?_)
  refine vx_catch (own := RL) (name := sIAE) (E := sIAE) hown [] ⟨0, 12, 15, 19⟩ [⟨0, 12, 19, 13⟩] (by rw [hTab]; rfl) (fun z hz => nomatch hz) (by decide) (by decide) (hts _ (List.mem_cons_of_mem _ tkL_19)) (va_Nw.use rfl (hX.2.2.1 _ (List.mem_of_getElem? (i := 4) rfl))) hce hcv hcl ?_
  have hD : va_D A ((xw q cA n st sz bt so fc ofs tg ch ad) ++ (og qo cL fo :: wr)) := gD_same hD rfl
  refine lv_astore (lv' := [(5, .ref (q9)), (0, .ref (q 0)), (1, .int (x)), (2, .int (y)), (3, .int (z)), (4, .ref (qo))]) hx hb dL_form_15 hl (by decide) rfl (fun ls hl => ?_)
  refine lv_iconst (v := nI (1)) hx hb dL_form_17 (by decide) ?_
  exact gi_iretN hx hb hlk hr dL_form_18 rfl hP hS
set_option maxHeartbeats 4000000 in
set_option maxRecDepth 100000 in
theorem wex2_L_form (l : Launch) (hl9 : l.stackTraces = false) (D : va_G) (cA cB cL : ClassId) (A : Nat → Prop) (wr : va_W) (qo : Nat) (fo : Nat → Int64) (q : Nat → Nat) (st : Bool) (sz bt so fc : Nat → Nat) (ofs : Nat → Int32) (tg : Nat → Nat) (ch : Nat → Int32) (ad : Nat → Nat) (x y z : Int32) (hf : gf_isf x y z = true) : Met l yL_form wsL_form ({ frames := 7, cells := 1, slots := 6, locals := 107 }) (gPreX D vwCl [(cA, .int), (cB, .boolean), (cL, .long)] ((xw q cA 0 st sz bt so fc ofs tg ch ad) ++ (og qo cL fo :: wr)) A [.ref (q 0), .int (x), .int (y), .int (z), .ref (qo)]) (gPost (some (.int (nI (2)))) D vwCl ((xw q cA 0 st sz bt so fc ofs tg ch ad) ++ (og qo cL fo :: wr)) A) 1 6 A := by
  refine va_MetW (hh := [(0, 12, 15, 19), (0, 12, 19, 13)]) (cc := cL_form) (maxL := 6) (ret := (some .int)) (by decide) rfl ?_
  intro p e s m args below meth c s₁ B hml hv
  obtain ⟨rfl, hP, hK, hD, hX⟩ := hv
  have hx := B.exec
  have hb := B.bytes
  have hr := B.returns
  have hlk := B.notSynchronized
  have hts := atoms_spec (ws := wsL_form) B.pre
  have hown : s.vm.findClass RL = some m.cls := findClass_of_methodNamed B.named
  have hS : va_S A s.heap s.heap [] := va_S.rf
  have hl := lv_entry ([.ref (q 0), .int (x), .int (y), .int (z), .ref (qo)]) (n := 6) (Nat.le_of_ble_eq_true rfl)
  rw [lg_entry_eq]
  generalize (lg_sl ([.ref (q 0), .int (x), .int (y), .int (z), .ref (qo)]) ++ List.replicate (6 - (lg_sl ([.ref (q 0), .int (x), .int (y), .int (z), .ref (qo)])).length) Slot.unset).toArray = ls at hl ⊢
  have hTab : c.exceptionTable.toList = tableOf [(0, 12, 15, 19), (0, 12, 19, 13)] := vx_table (x := yL_form) B (hts (.codeWith yL_form cL_form 6 (some .int) [(0, 12, 15, 19), (0, 12, 19, 13)]) (by unfold wsL_form; exact List.mem_cons_self))
  have hl : lv_has ls 6 [(0, .ref (q 0)), (1, .int (x)), (2, .int (y)), (3, .int (z)), (4, .ref (qo))] := hl
  refine lv_aload hx hb dL_form_0 (lv_at hl 4 rfl) ?_
  refine lv_iconst (v := nI (0)) hx hb dL_form_2 (by decide) ?_
  refine lv_aload_n hx hb dL_form_3 rfl (lv_at hl 0 rfl) ?_
  refine lv_iload_n hx hb dL_form_4 rfl (lv_at hl 1 rfl) ?_
  refine lv_iload_n hx hb dL_form_5 rfl (lv_at hl 2 rfl) ?_
  refine lv_iload_n hx hb dL_form_6 rfl (lv_at hl 3 rfl) ?_
  refine gi_goX (vx_runV (As := [.int (x), .int (y), .int (z)]) (rest := [.int (nI (0)), .ref (qo)]) ⟨hx, hb, hml, hown, hts⟩ (ex2_X0_form l hl9 D cA cB cL A (og qo cL fo :: wr) q st sz bt so fc ofs tg ch ad x y z hf) (cwV 3 hts gL_form_X0_form rfl rfl rfl (by decide +kernel) ⟨Nat.le_of_ble_eq_true rfl, Nat.le_of_ble_eq_true rfl⟩) (gi_preVX (q0 := 0) hK hP hD hX hS rfl rfl rfl) rfl rfl hl.1 rfl (lv_room (Nat.le_of_ble_eq_true rfl)) dL_form_7 ⟨Nat.le_of_ble_eq_true rfl, Nat.le_of_ble_eq_true rfl⟩) hS (fun ce q9 H locs hP hS hce hcv hcl => ?_)
  refine vx_catch (own := RL) (name := sISE) (E := sISE) hown [⟨0, 12, 15, 19⟩] ⟨0, 12, 19, 13⟩ [] (by rw [hTab]; rfl) (fun z hz => by
      rcases List.mem_cons.mp hz with rfl | hz
      · exact Or.inr ⟨by decide, sIAE, hts _ (List.mem_cons_of_mem _ tkL_19), hX.2.2.2.2 _ (List.mem_of_getElem? (i := 0) rfl)⟩
      cases hz) (by decide) (by decide) (hts _ (List.mem_cons_of_mem _ tkL_13)) (va_Nw.use rfl (hX.2.2.1 _ (List.mem_of_getElem? (i := 3) rfl))) hce hcv hcl ?_
  have hD : va_D A ((xw q cA 0 st sz bt so fc ofs tg ch ad) ++ (og qo cL fo :: wr)) := gD_same hD rfl
  refine lv_astore (lv' := [(5, .ref (q9)), (0, .ref (q 0)), (1, .int (x)), (2, .int (y)), (3, .int (z)), (4, .ref (qo))]) hx hb dL_form_19 hl (by decide) rfl (fun ls hl => ?_)
  refine lv_iconst (v := nI (2)) hx hb dL_form_21 (by decide) ?_
  exact gi_iretN hx hb hlk hr dL_form_22 rfl hP hS
set_option maxHeartbeats 4000000 in
set_option maxRecDepth 100000 in
theorem wex3_L_form (l : Launch) (hl9 : l.stackTraces = false) (D : va_G) (cA cB cL : ClassId) (A : Nat → Prop) (wr : va_W) (qo : Nat) (fo : Nat → Int64) (q : Nat → Nat) (st : Bool) (sz bt so fc : Nat → Nat) (ofs : Nat → Int32) (tg : Nat → Nat) (ch : Nat → Int32) (ad : Nat → Nat) (k : Nat) (x y z : Int32) (hk : k < 120) (hfc : fc k = 4) (hf : gf_isf x y z = true) : Met l yL_form wsL_form ({ frames := 7, cells := 1, slots := 6, locals := 107 }) (gPreX D vwCl [(cA, .int), (cB, .boolean), (cL, .long)] ((xw q cA (k + 1) st sz bt so fc ofs tg ch ad) ++ (og qo cL fo :: wr)) A [.ref (q 0), .int (x), .int (y), .int (z), .ref (qo)]) (gPost (some (.int (nI (2)))) D vwCl ((xw q cA (k + 1) st sz bt so fc ofs tg ch ad) ++ (og qo cL fo :: wr)) A) 1 6 A := by
  refine va_MetW (hh := [(0, 12, 15, 19), (0, 12, 19, 13)]) (cc := cL_form) (maxL := 6) (ret := (some .int)) (by decide) rfl ?_
  intro p e s m args below meth c s₁ B hml hv
  obtain ⟨rfl, hP, hK, hD, hX⟩ := hv
  have hx := B.exec
  have hb := B.bytes
  have hr := B.returns
  have hlk := B.notSynchronized
  have hts := atoms_spec (ws := wsL_form) B.pre
  have hown : s.vm.findClass RL = some m.cls := findClass_of_methodNamed B.named
  have hS : va_S A s.heap s.heap [] := va_S.rf
  have hl := lv_entry ([.ref (q 0), .int (x), .int (y), .int (z), .ref (qo)]) (n := 6) (Nat.le_of_ble_eq_true rfl)
  rw [lg_entry_eq]
  generalize (lg_sl ([.ref (q 0), .int (x), .int (y), .int (z), .ref (qo)]) ++ List.replicate (6 - (lg_sl ([.ref (q 0), .int (x), .int (y), .int (z), .ref (qo)])).length) Slot.unset).toArray = ls at hl ⊢
  have hTab : c.exceptionTable.toList = tableOf [(0, 12, 15, 19), (0, 12, 19, 13)] := vx_table (x := yL_form) B (hts (.codeWith yL_form cL_form 6 (some .int) [(0, 12, 15, 19), (0, 12, 19, 13)]) (by unfold wsL_form; exact List.mem_cons_self))
  have hl : lv_has ls 6 [(0, .ref (q 0)), (1, .int (x)), (2, .int (y)), (3, .int (z)), (4, .ref (qo))] := hl
  refine lv_aload hx hb dL_form_0 (lv_at hl 4 rfl) ?_
  refine lv_iconst (v := nI (0)) hx hb dL_form_2 (by decide) ?_
  refine lv_aload_n hx hb dL_form_3 rfl (lv_at hl 0 rfl) ?_
  refine lv_iload_n hx hb dL_form_4 rfl (lv_at hl 1 rfl) ?_
  refine lv_iload_n hx hb dL_form_5 rfl (lv_at hl 2 rfl) ?_
  refine lv_iload_n hx hb dL_form_6 rfl (lv_at hl 3 rfl) ?_
  refine gi_goX (vx_runV (As := [.int (x), .int (y), .int (z)]) (rest := [.int (nI (0)), .ref (qo)]) ⟨hx, hb, hml, hown, hts⟩ (ex3_X0_form l hl9 D cA cB cL A (og qo cL fo :: wr) q st sz bt so fc ofs tg ch ad k x y z hk hfc hf) (cwV 3 hts gL_form_X0_form rfl rfl rfl (by decide +kernel) ⟨Nat.le_of_ble_eq_true rfl, Nat.le_of_ble_eq_true rfl⟩) (gi_preVX (q0 := 0) hK hP hD hX hS rfl rfl rfl) rfl rfl hl.1 rfl (lv_room (Nat.le_of_ble_eq_true rfl)) dL_form_7 ⟨Nat.le_of_ble_eq_true rfl, Nat.le_of_ble_eq_true rfl⟩) hS (fun ce q9 H locs hP hS hce hcv hcl => ?_)
  refine vx_catch (own := RL) (name := sISE) (E := sISE) hown [⟨0, 12, 15, 19⟩] ⟨0, 12, 19, 13⟩ [] (by rw [hTab]; rfl) (fun z hz => by
      rcases List.mem_cons.mp hz with rfl | hz
      · exact Or.inr ⟨by decide, sIAE, hts _ (List.mem_cons_of_mem _ tkL_19), hX.2.2.2.2 _ (List.mem_of_getElem? (i := 0) rfl)⟩
      cases hz) (by decide) (by decide) (hts _ (List.mem_cons_of_mem _ tkL_13)) (va_Nw.use rfl (hX.2.2.1 _ (List.mem_of_getElem? (i := 3) rfl))) hce hcv hcl ?_
  have hD : va_D A ((xw q cA (k + 1) st sz bt so fc ofs tg ch ad) ++ (og qo cL fo :: wr)) := gD_same hD rfl
  refine lv_astore (lv' := [(5, .ref (q9)), (0, .ref (q 0)), (1, .int (x)), (2, .int (y)), (3, .int (z)), (4, .ref (qo))]) hx hb dL_form_19 hl (by decide) rfl (fun ls hl => ?_)
  refine lv_iconst (v := nI (2)) hx hb dL_form_21 (by decide) ?_
  exact gi_iretN hx hb hlk hr dL_form_22 rfl hP hS
set_option maxHeartbeats 4000000 in
set_option maxRecDepth 100000 in
theorem wok_L_aim (l : Launch) (D : va_G) (cA cB cL : ClassId) (A : Nat → Prop) (wr : va_W) (qo : Nat) (fo : Nat → Int64) (q : Nat → Nat) (n : Nat) (st : Bool) (sz bt so fc : Nat → Nat) (ofs : Nat → Int32) (tg : Nat → Nat) (ch : Nat → Int32) (ad : Nat → Nat) (i t : Nat) (o : Int32) (hn : n ≤ 120) (hi : i < n) (ht : t ≤ n) : Met l yL_aim wsL_aim ({ frames := 2, cells := 0, slots := 0, locals := 44 }) (gPre D vwCl [(cA, .int), (cB, .boolean), (cL, .long)] ((xw q cA n st sz bt so fc ofs tg ch ad) ++ (og qo cL fo :: wr)) A [.ref (q 0), .int (nI (i)), .int (nI (t)), .int (o)]) (gPost (some (.int (nI (0)))) D vwCl ((xw q cA n false sz bt so fc (upd ofs i o) (gU tg i t) ch ad) ++ (og qo cL fo :: wr)) A) 0 0 A := by
  refine va_MetW (hh := [(0, 7, 10, 25)]) (cc := cL_aim) (maxL := 5) (ret := (some .int)) (by decide) rfl ?_
  intro p e s m args below meth c s₁ B hml hv
  obtain ⟨rfl, hP, hK, hD⟩ := hv
  have hx := B.exec
  have hb := B.bytes
  have hr := B.returns
  have hlk := B.notSynchronized
  have hts := atoms_spec (ws := wsL_aim) B.pre
  have hown : s.vm.findClass RL = some m.cls := findClass_of_methodNamed B.named
  have hS : va_S A s.heap s.heap [] := va_S.rf
  have hl := lv_entry ([.ref (q 0), .int (nI (i)), .int (nI (t)), .int (o)]) (n := 5) (Nat.le_of_ble_eq_true rfl)
  rw [lg_entry_eq]
  generalize (lg_sl ([.ref (q 0), .int (nI (i)), .int (nI (t)), .int (o)]) ++ List.replicate (5 - (lg_sl ([.ref (q 0), .int (nI (i)), .int (nI (t)), .int (o)])).length) Slot.unset).toArray = ls at hl ⊢
  have hl : lv_has ls 5 [(0, .ref (q 0)), (1, .int (nI (i))), (2, .int (nI (t))), (3, .int (o))] := hl
  refine lv_aload_n hx hb dL_aim_0 rfl (lv_at hl 0 rfl) ?_
  refine lv_iload_n hx hb dL_aim_1 rfl (lv_at hl 1 rfl) ?_
  refine lv_iload_n hx hb dL_aim_2 rfl (lv_at hl 2 rfl) ?_
  refine lv_iload_n hx hb dL_aim_3 rfl (lv_at hl 3 rfl) ?_
  refine gi_goN (va_runV (As := [.int (nI (i)), .int (nI (t)), .int (o)]) (rest := []) ⟨hx, hb, hml, hown, hts⟩ (ok_X0_aim l D cA cB cL A (og qo cL fo :: wr) q n st sz bt so fc ofs tg ch ad i t o hn hi ht) (cwV 3 hts gL_aim_X0_aim rfl rfl rfl (by decide +kernel) ⟨Nat.le_of_ble_eq_true rfl, Nat.le_of_ble_eq_true rfl⟩) (gi_preV (q0 := 0) hK hP hD rfl rfl rfl) rfl rfl hl.1 rfl (lv_room (Nat.le_of_ble_eq_true rfl)) dL_aim_4 ⟨Nat.le_of_ble_eq_true rfl, Nat.le_of_ble_eq_true rfl⟩) hS (fun H locs hP hS => ?_)
  have hP : va_P D vwCl ((xw q cA n false sz bt so fc (upd ofs i o) (gU tg i t) ch ad) ++ (og qo cL fo :: wr)) H := hP
  have hD : va_D A ((xw q cA n false sz bt so fc (upd ofs i o) (gU tg i t) ch ad) ++ (og qo cL fo :: wr)) := gD_same hD rfl
  refine lv_goto (tgt := 14) hx hb dL_aim_7 rfl ?_
  refine lv_iconst (v := nI (0)) hx hb dL_aim_14 (by decide) ?_
  exact gi_iretN hx hb hlk hr dL_aim_15 rfl hP hS
set_option maxHeartbeats 4000000 in
set_option maxRecDepth 100000 in
theorem wex_L_aim (l : Launch) (hl9 : l.stackTraces = false) (D : va_G) (cA cB cL : ClassId) (A : Nat → Prop) (wr : va_W) (qo : Nat) (fo : Nat → Int64) (q : Nat → Nat) (n : Nat) (st : Bool) (sz bt so fc : Nat → Nat) (ofs : Nat → Int32) (tg : Nat → Nat) (ch : Nat → Int32) (ad : Nat → Nat) (x y o : Int32) (hf : gf_isl n x = false ∨ gf_ile n y = false) : Met l yL_aim wsL_aim ({ frames := 7, cells := 1, slots := 6, locals := 105 }) (gPreX D vwCl [(cA, .int), (cB, .boolean), (cL, .long)] ((xw q cA n st sz bt so fc ofs tg ch ad) ++ (og qo cL fo :: wr)) A [.ref (q 0), .int (x), .int (y), .int (o)]) (gPost (some (.int (nI (1)))) D vwCl ((xw q cA n st sz bt so fc ofs tg ch ad) ++ (og qo cL fo :: wr)) A) 1 6 A := by
  refine va_MetW (hh := [(0, 7, 10, 25)]) (cc := cL_aim) (maxL := 5) (ret := (some .int)) (by decide) rfl ?_
  intro p e s m args below meth c s₁ B hml hv
  obtain ⟨rfl, hP, hK, hD, hX⟩ := hv
  have hx := B.exec
  have hb := B.bytes
  have hr := B.returns
  have hlk := B.notSynchronized
  have hts := atoms_spec (ws := wsL_aim) B.pre
  have hown : s.vm.findClass RL = some m.cls := findClass_of_methodNamed B.named
  have hS : va_S A s.heap s.heap [] := va_S.rf
  have hl := lv_entry ([.ref (q 0), .int (x), .int (y), .int (o)]) (n := 5) (Nat.le_of_ble_eq_true rfl)
  rw [lg_entry_eq]
  generalize (lg_sl ([.ref (q 0), .int (x), .int (y), .int (o)]) ++ List.replicate (5 - (lg_sl ([.ref (q 0), .int (x), .int (y), .int (o)])).length) Slot.unset).toArray = ls at hl ⊢
  have hTab : c.exceptionTable.toList = tableOf [(0, 7, 10, 25)] := vx_table (x := yL_aim) B (hts (.codeWith yL_aim cL_aim 5 (some .int) [(0, 7, 10, 25)]) (by unfold wsL_aim; exact List.mem_cons_self))
  have hl : lv_has ls 5 [(0, .ref (q 0)), (1, .int (x)), (2, .int (y)), (3, .int (o))] := hl
  refine lv_aload_n hx hb dL_aim_0 rfl (lv_at hl 0 rfl) ?_
  refine lv_iload_n hx hb dL_aim_1 rfl (lv_at hl 1 rfl) ?_
  refine lv_iload_n hx hb dL_aim_2 rfl (lv_at hl 2 rfl) ?_
  refine lv_iload_n hx hb dL_aim_3 rfl (lv_at hl 3 rfl) ?_
  refine gi_goX (vx_runV (As := [.int (x), .int (y), .int (o)]) (rest := []) ⟨hx, hb, hml, hown, hts⟩ (ex_X0_aim l hl9 D cA cB cL A (og qo cL fo :: wr) q n st sz bt so fc ofs tg ch ad x y o hf) (cwV 3 hts gL_aim_X0_aim rfl rfl rfl (by decide +kernel) ⟨Nat.le_of_ble_eq_true rfl, Nat.le_of_ble_eq_true rfl⟩) (gi_preVX (q0 := 0) hK hP hD hX hS rfl rfl rfl) rfl rfl hl.1 rfl (lv_room (Nat.le_of_ble_eq_true rfl)) dL_aim_4 ⟨Nat.le_of_ble_eq_true rfl, Nat.le_of_ble_eq_true rfl⟩) hS (fun ce q9 H locs hP hS hce hcv hcl => ?_)
  refine vx_catch (own := RL) (name := sIOB) (E := sIOB) hown [] ⟨0, 7, 10, 25⟩ [] (by rw [hTab]; rfl) (fun z hz => nomatch hz) (by decide) (by decide) (hts _ (List.mem_cons_of_mem _ tkL_25)) (va_Nw.use rfl (hX.2.2.1 _ (List.mem_of_getElem? (i := 5) rfl))) hce hcv hcl ?_
  have hD : va_D A ((xw q cA n st sz bt so fc ofs tg ch ad) ++ (og qo cL fo :: wr)) := gD_same hD rfl
  refine lv_astore (lv' := [(4, .ref (q9)), (0, .ref (q 0)), (1, .int (x)), (2, .int (y)), (3, .int (o))]) hx hb dL_aim_10 hl (by decide) rfl (fun ls hl => ?_)
  refine lv_iconst (v := nI (1)) hx hb dL_aim_12 (by decide) ?_
  exact gi_iretN hx hb hlk hr dL_aim_13 rfl hP hS
set_option maxHeartbeats 4000000 in
set_option maxRecDepth 100000 in
theorem wok_L_settle (l : Launch) (D : va_G) (cA cB cL : ClassId) (A : Nat → Prop) (wr : va_W) (qo : Nat) (fo : Nat → Int64) (q : Nat → Nat) (n : Nat) (st : Bool) (sz bt so fc : Nat → Nat) (ofs : Nat → Int32) (tg : Nat → Nat) (ch : Nat → Int32) (ad : Nat → Nat) (nw0 : Nat → Nat) (r : Nat) (hw : gf_wf n fc sz bt so tg) (hr9 : r ≤ 360) (hgo : ∀ q9, q9 < r → gf_go n fc sz bt so tg ofs (gf_now n fc sz bt so tg ofs nw0 q9)) (hend : gf_ad fc sz (gf_now n fc sz bt so tg ofs nw0 r) n ≤ 4096) (hall : gf_all n fc sz bt so tg ofs (gf_now n fc sz bt so tg ofs nw0 r)) : Met l yL_settle wsL_settle ({ frames := 6, cells := 0, slots := 0, locals := 133 }) (gPre D vwCl [(cA, .int), (cB, .boolean), (cL, .long)] ((xw q cA n st sz bt so fc ofs tg ch ad) ++ (og qo cL fo :: wr)) A [.ref (q 0), .ref (qo)]) (gPost (some (.int (nI (0)))) D vwCl ((xw q cA n true sz bt so fc ofs tg (gf_chr n fc sz bt so tg ofs nw0 ch r) (gf_adr n fc sz bt so tg ofs nw0 ad (r + 1))) ++ (og qo cL (vp_updL fo 0 ((nI (r)).toInt64)) :: wr)) A) 0 0 A := by
  refine va_MetW (hh := [(0, 8, 11, 13), (0, 8, 14, 30)]) (cc := cL_settle) (maxL := 3) (ret := (some .int)) (by decide) rfl ?_
  intro p e s m args below meth c s₁ B hml hv
  obtain ⟨rfl, hP, hK, hD⟩ := hv
  have hx := B.exec
  have hb := B.bytes
  have hr := B.returns
  have hlk := B.notSynchronized
  have hts := atoms_spec (ws := wsL_settle) B.pre
  have hown : s.vm.findClass RL = some m.cls := findClass_of_methodNamed B.named
  have hS : va_S A s.heap s.heap [] := va_S.rf
  have hl := lv_entry ([.ref (q 0), .ref (qo)]) (n := 3) (Nat.le_of_ble_eq_true rfl)
  rw [lg_entry_eq]
  generalize (lg_sl ([.ref (q 0), .ref (qo)]) ++ List.replicate (3 - (lg_sl ([.ref (q 0), .ref (qo)])).length) Slot.unset).toArray = ls at hl ⊢
  have hl : lv_has ls 3 [(0, .ref (q 0)), (1, .ref (qo))] := hl
  refine lv_aload_n hx hb dL_settle_0 rfl (lv_at hl 1 rfl) ?_
  refine lv_iconst (v := nI (0)) hx hb dL_settle_1 (by decide) ?_
  refine lv_aload_n hx hb dL_settle_2 rfl (lv_at hl 0 rfl) ?_
  refine gi_goV (va_runV (As := []) (rest := [.int (nI (0)), .ref (qo)]) ⟨hx, hb, hml, hown, hts⟩ (ok_X0_settle l D cA cB cL A (og qo cL fo :: wr) q n st sz bt so fc ofs tg ch ad nw0 r hw hr9 hgo hend hall) (cwV 0 hts gL_settle_X0_settle rfl rfl rfl (by decide +kernel) ⟨Nat.le_of_ble_eq_true rfl, Nat.le_of_ble_eq_true rfl⟩) (gi_preV (q0 := 0) hK hP hD rfl rfl rfl) rfl rfl hl.1 rfl (lv_room (Nat.le_of_ble_eq_true rfl)) dL_settle_3 ⟨Nat.le_of_ble_eq_true rfl, Nat.le_of_ble_eq_true rfl⟩) hS (fun H locs hP hS => ?_)
  have hP : va_P D vwCl ((xw q cA n true sz bt so fc ofs tg (gf_chr n fc sz bt so tg ofs nw0 ch r) (gf_adr n fc sz bt so tg ofs nw0 ad (r + 1))) ++ (og qo cL fo :: wr)) H := hP
  have hD : va_D A ((xw q cA n true sz bt so fc ofs tg (gf_chr n fc sz bt so tg ofs nw0 ch r) (gf_adr n fc sz bt so tg ofs nw0 ad (r + 1))) ++ (og qo cL fo :: wr)) := gD_same hD rfl
  refine lv_i2l (v := ((nI (r))).toInt64) hx hb dL_settle_6 rfl ?_
  refine gi_lst hx hb hK hP hD hS 9 2 fo rfl rfl (by decide) (by decide) dL_settle_7 (fun H locs hP hD hS => ?_)
  have hP : va_P D vwCl ((xw q cA n true sz bt so fc ofs tg (gf_chr n fc sz bt so tg ofs nw0 ch r) (gf_adr n fc sz bt so tg ofs nw0 ad (r + 1))) ++ (og qo cL (vp_updL fo 0 (((nI (r))).toInt64)) :: wr)) H := hP
  have hD : va_D A ((xw q cA n true sz bt so fc ofs tg (gf_chr n fc sz bt so tg ofs nw0 ch r) (gf_adr n fc sz bt so tg ofs nw0 ad (r + 1))) ++ (og qo cL (vp_updL fo 0 (((nI (r))).toInt64)) :: wr)) := hD
  refine lv_goto (tgt := 17) hx hb dL_settle_8 rfl ?_
  refine lv_iconst (v := nI (0)) hx hb dL_settle_17 (by decide) ?_
  exact gi_iretN hx hb hlk hr dL_settle_18 rfl hP hS
set_option maxHeartbeats 4000000 in
set_option maxRecDepth 100000 in
theorem wex1_L_settle (l : Launch) (hl9 : l.stackTraces = false) (D : va_G) (cA cB cL : ClassId) (A : Nat → Prop) (wr : va_W) (qo : Nat) (fo : Nat → Int64) (q : Nat → Nat) (n : Nat) (st : Bool) (sz bt so fc : Nat → Nat) (ofs : Nat → Int32) (tg : Nat → Nat) (ch : Nat → Int32) (ad : Nat → Nat) (nw0 : Nat → Nat) (r : Nat) (hw : gf_wf n fc sz bt so tg) (hr9 : r ≤ 360) (hgo : ∀ q9, q9 < r → gf_go n fc sz bt so tg ofs (gf_now n fc sz bt so tg ofs nw0 q9)) (hend : 4096 < gf_ad fc sz (gf_now n fc sz bt so tg ofs nw0 r) n) : Met l yL_settle wsL_settle ({ frames := 7, cells := 1, slots := 6, locals := 133 }) (gPreX D vwCl [(cA, .int), (cB, .boolean), (cL, .long)] ((xw q cA n st sz bt so fc ofs tg ch ad) ++ (og qo cL fo :: wr)) A [.ref (q 0), .ref (qo)]) (gPost (some (.int (nI (1)))) D vwCl ((xw q cA n true sz bt so fc ofs tg (gf_chr n fc sz bt so tg ofs nw0 ch r) (gf_adr n fc sz bt so tg ofs nw0 ad (r + 1))) ++ (og qo cL fo :: wr)) A) 1 6 A := by
  refine va_MetW (hh := [(0, 8, 11, 13), (0, 8, 14, 30)]) (cc := cL_settle) (maxL := 3) (ret := (some .int)) (by decide) rfl ?_
  intro p e s m args below meth c s₁ B hml hv
  obtain ⟨rfl, hP, hK, hD, hX⟩ := hv
  have hx := B.exec
  have hb := B.bytes
  have hr := B.returns
  have hlk := B.notSynchronized
  have hts := atoms_spec (ws := wsL_settle) B.pre
  have hown : s.vm.findClass RL = some m.cls := findClass_of_methodNamed B.named
  have hS : va_S A s.heap s.heap [] := va_S.rf
  have hl := lv_entry ([.ref (q 0), .ref (qo)]) (n := 3) (Nat.le_of_ble_eq_true rfl)
  rw [lg_entry_eq]
  generalize (lg_sl ([.ref (q 0), .ref (qo)]) ++ List.replicate (3 - (lg_sl ([.ref (q 0), .ref (qo)])).length) Slot.unset).toArray = ls at hl ⊢
  have hTab : c.exceptionTable.toList = tableOf [(0, 8, 11, 13), (0, 8, 14, 30)] := vx_table (x := yL_settle) B (hts (.codeWith yL_settle cL_settle 3 (some .int) [(0, 8, 11, 13), (0, 8, 14, 30)]) (by unfold wsL_settle; exact List.mem_cons_self))
  have hl : lv_has ls 3 [(0, .ref (q 0)), (1, .ref (qo))] := hl
  refine lv_aload_n hx hb dL_settle_0 rfl (lv_at hl 1 rfl) ?_
  refine lv_iconst (v := nI (0)) hx hb dL_settle_1 (by decide) ?_
  refine lv_aload_n hx hb dL_settle_2 rfl (lv_at hl 0 rfl) ?_
  refine gi_goX (vx_runV (As := []) (rest := [.int (nI (0)), .ref (qo)]) ⟨hx, hb, hml, hown, hts⟩ (ex1_X0_settle l hl9 D cA cB cL A (og qo cL fo :: wr) q n st sz bt so fc ofs tg ch ad nw0 r hw hr9 hgo hend) (cwV 0 hts gL_settle_X0_settle rfl rfl rfl (by decide +kernel) ⟨Nat.le_of_ble_eq_true rfl, Nat.le_of_ble_eq_true rfl⟩) (gi_preVX (q0 := 0) hK hP hD hX hS rfl rfl rfl) rfl rfl hl.1 rfl (lv_room (Nat.le_of_ble_eq_true rfl)) dL_settle_3 ⟨Nat.le_of_ble_eq_true rfl, Nat.le_of_ble_eq_true rfl⟩) hS (fun ce q9 H locs hP hS hce hcv hcl => ?_)
  refine vx_catch (own := RL) (name := sISE) (E := sISE) hown [] ⟨0, 8, 11, 13⟩ [⟨0, 8, 14, 30⟩] (by rw [hTab]; rfl) (fun z hz => nomatch hz) (by decide) (by decide) (hts _ (List.mem_cons_of_mem _ tkL_13)) (va_Nw.use rfl (hX.2.2.1 _ (List.mem_of_getElem? (i := 3) rfl))) hce hcv hcl ?_
  have hD : va_D A ((xw q cA n true sz bt so fc ofs tg (gf_chr n fc sz bt so tg ofs nw0 ch r) (gf_adr n fc sz bt so tg ofs nw0 ad (r + 1))) ++ (og qo cL fo :: wr)) := gD_same hD rfl
  refine lv_astore_n (lv' := [(2, .ref (q9)), (0, .ref (q 0)), (1, .ref (qo))]) hx hb dL_settle_11 rfl hl (by decide) rfl (fun ls hl => ?_)
  refine lv_iconst (v := nI (1)) hx hb dL_settle_12 (by decide) ?_
  exact gi_iretN hx hb hlk hr dL_settle_13 rfl hP hS
set_option maxHeartbeats 4000000 in
set_option maxRecDepth 100000 in
theorem wex2_L_settle (l : Launch) (hl9 : l.stackTraces = false) (D : va_G) (cA cB cL : ClassId) (A : Nat → Prop) (wr : va_W) (qo : Nat) (fo : Nat → Int64) (q : Nat → Nat) (n : Nat) (st : Bool) (sz bt so fc : Nat → Nat) (ofs : Nat → Int32) (tg : Nat → Nat) (ch : Nat → Int32) (ad : Nat → Nat) (nw0 : Nat → Nat) (r : Nat) (hw : gf_wf n fc sz bt so tg) (hr9 : r ≤ 360) (hgo : ∀ q9, q9 < r → gf_go n fc sz bt so tg ofs (gf_now n fc sz bt so tg ofs nw0 q9)) (hend : gf_ad fc sz (gf_now n fc sz bt so tg ofs nw0 r) n ≤ 4096) (hlast : gf_last n fc sz bt so tg ofs (gf_now n fc sz bt so tg ofs nw0 r)) : Met l yL_settle wsL_settle ({ frames := 7, cells := 1, slots := 6, locals := 133 }) (gPreX D vwCl [(cA, .int), (cB, .boolean), (cL, .long)] ((xw q cA n st sz bt so fc ofs tg ch ad) ++ (og qo cL fo :: wr)) A [.ref (q 0), .ref (qo)]) (gPost (some (.int (nI (2)))) D vwCl ((xw q cA n true sz bt so fc ofs tg (gf_chr n fc sz bt so tg ofs nw0 ch r) (gf_adr n fc sz bt so tg ofs nw0 ad (r + 1))) ++ (og qo cL fo :: wr)) A) 1 6 A := by
  refine va_MetW (hh := [(0, 8, 11, 13), (0, 8, 14, 30)]) (cc := cL_settle) (maxL := 3) (ret := (some .int)) (by decide) rfl ?_
  intro p e s m args below meth c s₁ B hml hv
  obtain ⟨rfl, hP, hK, hD, hX⟩ := hv
  have hx := B.exec
  have hb := B.bytes
  have hr := B.returns
  have hlk := B.notSynchronized
  have hts := atoms_spec (ws := wsL_settle) B.pre
  have hown : s.vm.findClass RL = some m.cls := findClass_of_methodNamed B.named
  have hS : va_S A s.heap s.heap [] := va_S.rf
  have hl := lv_entry ([.ref (q 0), .ref (qo)]) (n := 3) (Nat.le_of_ble_eq_true rfl)
  rw [lg_entry_eq]
  generalize (lg_sl ([.ref (q 0), .ref (qo)]) ++ List.replicate (3 - (lg_sl ([.ref (q 0), .ref (qo)])).length) Slot.unset).toArray = ls at hl ⊢
  have hTab : c.exceptionTable.toList = tableOf [(0, 8, 11, 13), (0, 8, 14, 30)] := vx_table (x := yL_settle) B (hts (.codeWith yL_settle cL_settle 3 (some .int) [(0, 8, 11, 13), (0, 8, 14, 30)]) (by unfold wsL_settle; exact List.mem_cons_self))
  have hl : lv_has ls 3 [(0, .ref (q 0)), (1, .ref (qo))] := hl
  refine lv_aload_n hx hb dL_settle_0 rfl (lv_at hl 1 rfl) ?_
  refine lv_iconst (v := nI (0)) hx hb dL_settle_1 (by decide) ?_
  refine lv_aload_n hx hb dL_settle_2 rfl (lv_at hl 0 rfl) ?_
  refine gi_goX (vx_runV (As := []) (rest := [.int (nI (0)), .ref (qo)]) ⟨hx, hb, hml, hown, hts⟩ (ex2_X0_settle l hl9 D cA cB cL A (og qo cL fo :: wr) q n st sz bt so fc ofs tg ch ad nw0 r hw hr9 hgo hend hlast) (cwV 0 hts gL_settle_X0_settle rfl rfl rfl (by decide +kernel) ⟨Nat.le_of_ble_eq_true rfl, Nat.le_of_ble_eq_true rfl⟩) (gi_preVX (q0 := 0) hK hP hD hX hS rfl rfl rfl) rfl rfl hl.1 rfl (lv_room (Nat.le_of_ble_eq_true rfl)) dL_settle_3 ⟨Nat.le_of_ble_eq_true rfl, Nat.le_of_ble_eq_true rfl⟩) hS (fun ce q9 H locs hP hS hce hcv hcl => ?_)
  refine vx_catch (own := RL) (name := sUOE) (E := sUOE) hown [⟨0, 8, 11, 13⟩] ⟨0, 8, 14, 30⟩ [] (by rw [hTab]; rfl) (fun z hz => by
      rcases List.mem_cons.mp hz with rfl | hz
      · exact Or.inr ⟨by decide, sISE, hts _ (List.mem_cons_of_mem _ tkL_13), hX.2.2.2.2 _ (List.mem_of_getElem? (i := 1) rfl)⟩
      cases hz) (by decide) (by decide) (hts _ (List.mem_cons_of_mem _ tkL_30)) (va_Nw.use rfl (hX.2.2.1 _ (List.mem_of_getElem? (i := 6) rfl))) hce hcv hcl ?_
  have hD : va_D A ((xw q cA n true sz bt so fc ofs tg (gf_chr n fc sz bt so tg ofs nw0 ch r) (gf_adr n fc sz bt so tg ofs nw0 ad (r + 1))) ++ (og qo cL fo :: wr)) := gD_same hD rfl
  refine lv_astore_n (lv' := [(2, .ref (q9)), (0, .ref (q 0)), (1, .ref (qo))]) hx hb dL_settle_14 rfl hl (by decide) rfl (fun ls hl => ?_)
  refine lv_iconst (v := nI (2)) hx hb dL_settle_15 (by decide) ?_
  exact gi_iretN hx hb hlk hr dL_settle_16 rfl hP hS
set_option maxHeartbeats 4000000 in
set_option maxRecDepth 100000 in
theorem wok0_L_told (l : Launch) (D : va_G) (cA cB cL : ClassId) (A : Nat → Prop) (wr : va_W) (qo : Nat) (fo : Nat → Int64) (q : Nat → Nat) (n : Nat) (sz bt so fc : Nat → Nat) (ofs : Nat → Int32) (tg : Nat → Nat) (ch : Nat → Int32) (ad : Nat → Nat) (j : Nat) (hn : n ≤ 120) (hj : j ≤ n) : Met l yL_told wsL_told ({ frames := 5, cells := 0, slots := 0, locals := 113 }) (gPre D vwCl [(cA, .int), (cB, .boolean), (cL, .long)] ((xw q cA n true sz bt so fc ofs tg ch ad) ++ (og qo cL fo :: wr)) A [.ref (q 0), .int (nI (j)), .int (nI (0)), .ref (qo)]) (gPost (some (.int (nI (0)))) D vwCl ((xw q cA n true sz bt so fc ofs tg ch ad) ++ (og qo cL (vp_updL fo 0 ((nI (ad j)).toInt64)) :: wr)) A) 0 0 A := by
  refine va_MetW (hh := [(0, 10, 13, 13), (0, 10, 17, 25), (0, 10, 21, 19)]) (cc := cL_told) (maxL := 5) (ret := (some .int)) (by decide) rfl ?_
  intro p e s m args below meth c s₁ B hml hv
  obtain ⟨rfl, hP, hK, hD⟩ := hv
  have hx := B.exec
  have hb := B.bytes
  have hr := B.returns
  have hlk := B.notSynchronized
  have hts := atoms_spec (ws := wsL_told) B.pre
  have hown : s.vm.findClass RL = some m.cls := findClass_of_methodNamed B.named
  have hS : va_S A s.heap s.heap [] := va_S.rf
  have hl := lv_entry ([.ref (q 0), .int (nI (j)), .int (nI (0)), .ref (qo)]) (n := 5) (Nat.le_of_ble_eq_true rfl)
  rw [lg_entry_eq]
  generalize (lg_sl ([.ref (q 0), .int (nI (j)), .int (nI (0)), .ref (qo)]) ++ List.replicate (5 - (lg_sl ([.ref (q 0), .int (nI (j)), .int (nI (0)), .ref (qo)])).length) Slot.unset).toArray = ls at hl ⊢
  have hl : lv_has ls 5 [(0, .ref (q 0)), (1, .int (nI (j))), (2, .int (nI (0))), (3, .ref (qo))] := hl
  refine lv_aload_n hx hb dL_told_0 rfl (lv_at hl 3 rfl) ?_
  refine lv_iconst (v := nI (0)) hx hb dL_told_1 (by decide) ?_
  refine lv_aload_n hx hb dL_told_2 rfl (lv_at hl 0 rfl) ?_
  refine lv_iload_n hx hb dL_told_3 rfl (lv_at hl 1 rfl) ?_
  refine lv_iload_n hx hb dL_told_4 rfl (lv_at hl 2 rfl) ?_
  refine gi_goV (va_runV (As := [.int (nI (j)), .int (nI (0))]) (rest := [.int (nI (0)), .ref (qo)]) ⟨hx, hb, hml, hown, hts⟩ (ok0_X0_told l D cA cB cL A (og qo cL fo :: wr) q n sz bt so fc ofs tg ch ad j hn hj) (cwV 2 hts gL_told_X0_told rfl rfl rfl (by decide +kernel) ⟨Nat.le_of_ble_eq_true rfl, Nat.le_of_ble_eq_true rfl⟩) (gi_preV (q0 := 0) hK hP hD rfl rfl rfl) rfl rfl hl.1 rfl (lv_room (Nat.le_of_ble_eq_true rfl)) dL_told_5 ⟨Nat.le_of_ble_eq_true rfl, Nat.le_of_ble_eq_true rfl⟩) hS (fun H locs hP hS => ?_)
  have hP : va_P D vwCl ((xw q cA n true sz bt so fc ofs tg ch ad) ++ (og qo cL fo :: wr)) H := hP
  have hD : va_D A ((xw q cA n true sz bt so fc ofs tg ch ad) ++ (og qo cL fo :: wr)) := gD_same hD rfl
  refine lv_i2l (v := ((nI (ad j))).toInt64) hx hb dL_told_8 rfl ?_
  refine gi_lst hx hb hK hP hD hS 9 2 fo rfl rfl (by decide) (by decide) dL_told_9 (fun H locs hP hD hS => ?_)
  have hP : va_P D vwCl ((xw q cA n true sz bt so fc ofs tg ch ad) ++ (og qo cL (vp_updL fo 0 (((nI (ad j))).toInt64)) :: wr)) H := hP
  have hD : va_D A ((xw q cA n true sz bt so fc ofs tg ch ad) ++ (og qo cL (vp_updL fo 0 (((nI (ad j))).toInt64)) :: wr)) := hD
  refine lv_goto (tgt := 25) hx hb dL_told_10 rfl ?_
  refine lv_iconst (v := nI (0)) hx hb dL_told_25 (by decide) ?_
  exact gi_iretN hx hb hlk hr dL_told_26 rfl hP hS
set_option maxHeartbeats 4000000 in
set_option maxRecDepth 100000 in
theorem wok1_L_told (l : Launch) (D : va_G) (cA cB cL : ClassId) (A : Nat → Prop) (wr : va_W) (qo : Nat) (fo : Nat → Int64) (q : Nat → Nat) (n : Nat) (sz bt so fc : Nat → Nat) (ofs : Nat → Int32) (tg : Nat → Nat) (ch : Nat → Int32) (ad : Nat → Nat) (j : Nat) (hn : n ≤ 120) (hj : j < n) : Met l yL_told wsL_told ({ frames := 5, cells := 0, slots := 0, locals := 113 }) (gPre D vwCl [(cA, .int), (cB, .boolean), (cL, .long)] ((xw q cA n true sz bt so fc ofs tg ch ad) ++ (og qo cL fo :: wr)) A [.ref (q 0), .int (nI (j)), .int (nI (1)), .ref (qo)]) (gPost (some (.int (nI (0)))) D vwCl ((xw q cA n true sz bt so fc ofs tg ch ad) ++ (og qo cL (vp_updL fo 0 ((ch j).toInt64)) :: wr)) A) 0 0 A := by
  refine va_MetW (hh := [(0, 10, 13, 13), (0, 10, 17, 25), (0, 10, 21, 19)]) (cc := cL_told) (maxL := 5) (ret := (some .int)) (by decide) rfl ?_
  intro p e s m args below meth c s₁ B hml hv
  obtain ⟨rfl, hP, hK, hD⟩ := hv
  have hx := B.exec
  have hb := B.bytes
  have hr := B.returns
  have hlk := B.notSynchronized
  have hts := atoms_spec (ws := wsL_told) B.pre
  have hown : s.vm.findClass RL = some m.cls := findClass_of_methodNamed B.named
  have hS : va_S A s.heap s.heap [] := va_S.rf
  have hl := lv_entry ([.ref (q 0), .int (nI (j)), .int (nI (1)), .ref (qo)]) (n := 5) (Nat.le_of_ble_eq_true rfl)
  rw [lg_entry_eq]
  generalize (lg_sl ([.ref (q 0), .int (nI (j)), .int (nI (1)), .ref (qo)]) ++ List.replicate (5 - (lg_sl ([.ref (q 0), .int (nI (j)), .int (nI (1)), .ref (qo)])).length) Slot.unset).toArray = ls at hl ⊢
  have hl : lv_has ls 5 [(0, .ref (q 0)), (1, .int (nI (j))), (2, .int (nI (1))), (3, .ref (qo))] := hl
  refine lv_aload_n hx hb dL_told_0 rfl (lv_at hl 3 rfl) ?_
  refine lv_iconst (v := nI (0)) hx hb dL_told_1 (by decide) ?_
  refine lv_aload_n hx hb dL_told_2 rfl (lv_at hl 0 rfl) ?_
  refine lv_iload_n hx hb dL_told_3 rfl (lv_at hl 1 rfl) ?_
  refine lv_iload_n hx hb dL_told_4 rfl (lv_at hl 2 rfl) ?_
  refine gi_goV (va_runV (As := [.int (nI (j)), .int (nI (1))]) (rest := [.int (nI (0)), .ref (qo)]) ⟨hx, hb, hml, hown, hts⟩ (ok1_X0_told l D cA cB cL A (og qo cL fo :: wr) q n sz bt so fc ofs tg ch ad j hn hj) (cwV 2 hts gL_told_X0_told rfl rfl rfl (by decide +kernel) ⟨Nat.le_of_ble_eq_true rfl, Nat.le_of_ble_eq_true rfl⟩) (gi_preV (q0 := 0) hK hP hD rfl rfl rfl) rfl rfl hl.1 rfl (lv_room (Nat.le_of_ble_eq_true rfl)) dL_told_5 ⟨Nat.le_of_ble_eq_true rfl, Nat.le_of_ble_eq_true rfl⟩) hS (fun H locs hP hS => ?_)
  have hP : va_P D vwCl ((xw q cA n true sz bt so fc ofs tg ch ad) ++ (og qo cL fo :: wr)) H := hP
  have hD : va_D A ((xw q cA n true sz bt so fc ofs tg ch ad) ++ (og qo cL fo :: wr)) := gD_same hD rfl
  refine lv_i2l (v := ((ch j)).toInt64) hx hb dL_told_8 rfl ?_
  refine gi_lst hx hb hK hP hD hS 9 2 fo rfl rfl (by decide) (by decide) dL_told_9 (fun H locs hP hD hS => ?_)
  have hP : va_P D vwCl ((xw q cA n true sz bt so fc ofs tg ch ad) ++ (og qo cL (vp_updL fo 0 (((ch j)).toInt64)) :: wr)) H := hP
  have hD : va_D A ((xw q cA n true sz bt so fc ofs tg ch ad) ++ (og qo cL (vp_updL fo 0 (((ch j)).toInt64)) :: wr)) := hD
  refine lv_goto (tgt := 25) hx hb dL_told_10 rfl ?_
  refine lv_iconst (v := nI (0)) hx hb dL_told_25 (by decide) ?_
  exact gi_iretN hx hb hlk hr dL_told_26 rfl hP hS
set_option maxHeartbeats 4000000 in
set_option maxRecDepth 100000 in
theorem wok2_L_told (l : Launch) (D : va_G) (cA cB cL : ClassId) (A : Nat → Prop) (wr : va_W) (qo : Nat) (fo : Nat → Int64) (q : Nat → Nat) (n : Nat) (sz bt so fc : Nat → Nat) (ofs : Nat → Int32) (tg : Nat → Nat) (ch : Nat → Int32) (ad : Nat → Nat) (nw : Nat → Nat) (i : Nat) (hw : gf_wf n fc sz bt so tg) (hk : gf_nk n fc nw) (hi : i < n) (hch : ch i = gf_c fc nw i) (had : ∀ j, j ≤ n → ad j = gf_ad fc sz nw j) : Met l yL_told wsL_told ({ frames := 5, cells := 0, slots := 0, locals := 113 }) (gPre D vwCl [(cA, .int), (cB, .boolean), (cL, .long)] ((xw q cA n true sz bt so fc ofs tg ch ad) ++ (og qo cL fo :: wr)) A [.ref (q 0), .int (nI (i)), .int (nI (2)), .ref (qo)]) (gPost (some (.int (nI (0)))) D vwCl ((xw q cA n true sz bt so fc ofs tg ch ad) ++ (og qo cL (vp_updL fo 0 ((bI (gf_fit fc sz bt so tg ofs nw i)).toInt64)) :: wr)) A) 0 0 A := by
  refine va_MetW (hh := [(0, 10, 13, 13), (0, 10, 17, 25), (0, 10, 21, 19)]) (cc := cL_told) (maxL := 5) (ret := (some .int)) (by decide) rfl ?_
  intro p e s m args below meth c s₁ B hml hv
  obtain ⟨rfl, hP, hK, hD⟩ := hv
  have hx := B.exec
  have hb := B.bytes
  have hr := B.returns
  have hlk := B.notSynchronized
  have hts := atoms_spec (ws := wsL_told) B.pre
  have hown : s.vm.findClass RL = some m.cls := findClass_of_methodNamed B.named
  have hS : va_S A s.heap s.heap [] := va_S.rf
  have hl := lv_entry ([.ref (q 0), .int (nI (i)), .int (nI (2)), .ref (qo)]) (n := 5) (Nat.le_of_ble_eq_true rfl)
  rw [lg_entry_eq]
  generalize (lg_sl ([.ref (q 0), .int (nI (i)), .int (nI (2)), .ref (qo)]) ++ List.replicate (5 - (lg_sl ([.ref (q 0), .int (nI (i)), .int (nI (2)), .ref (qo)])).length) Slot.unset).toArray = ls at hl ⊢
  have hl : lv_has ls 5 [(0, .ref (q 0)), (1, .int (nI (i))), (2, .int (nI (2))), (3, .ref (qo))] := hl
  refine lv_aload_n hx hb dL_told_0 rfl (lv_at hl 3 rfl) ?_
  refine lv_iconst (v := nI (0)) hx hb dL_told_1 (by decide) ?_
  refine lv_aload_n hx hb dL_told_2 rfl (lv_at hl 0 rfl) ?_
  refine lv_iload_n hx hb dL_told_3 rfl (lv_at hl 1 rfl) ?_
  refine lv_iload_n hx hb dL_told_4 rfl (lv_at hl 2 rfl) ?_
  refine gi_goV (va_runV (As := [.int (nI (i)), .int (nI (2))]) (rest := [.int (nI (0)), .ref (qo)]) ⟨hx, hb, hml, hown, hts⟩ (ok2_X0_told l D cA cB cL A (og qo cL fo :: wr) q n sz bt so fc ofs tg ch ad nw i hw hk hi hch had) (cwV 2 hts gL_told_X0_told rfl rfl rfl (by decide +kernel) ⟨Nat.le_of_ble_eq_true rfl, Nat.le_of_ble_eq_true rfl⟩) (gi_preV (q0 := 0) hK hP hD rfl rfl rfl) rfl rfl hl.1 rfl (lv_room (Nat.le_of_ble_eq_true rfl)) dL_told_5 ⟨Nat.le_of_ble_eq_true rfl, Nat.le_of_ble_eq_true rfl⟩) hS (fun H locs hP hS => ?_)
  have hP : va_P D vwCl ((xw q cA n true sz bt so fc ofs tg ch ad) ++ (og qo cL fo :: wr)) H := hP
  have hD : va_D A ((xw q cA n true sz bt so fc ofs tg ch ad) ++ (og qo cL fo :: wr)) := gD_same hD rfl
  refine lv_i2l (v := ((bI (gf_fit fc sz bt so tg ofs nw i))).toInt64) hx hb dL_told_8 rfl ?_
  refine gi_lst hx hb hK hP hD hS 9 2 fo rfl rfl (by decide) (by decide) dL_told_9 (fun H locs hP hD hS => ?_)
  have hP : va_P D vwCl ((xw q cA n true sz bt so fc ofs tg ch ad) ++ (og qo cL (vp_updL fo 0 (((bI (gf_fit fc sz bt so tg ofs nw i))).toInt64)) :: wr)) H := hP
  have hD : va_D A ((xw q cA n true sz bt so fc ofs tg ch ad) ++ (og qo cL (vp_updL fo 0 (((bI (gf_fit fc sz bt so tg ofs nw i))).toInt64)) :: wr)) := hD
  refine lv_goto (tgt := 25) hx hb dL_told_10 rfl ?_
  refine lv_iconst (v := nI (0)) hx hb dL_told_25 (by decide) ?_
  exact gi_iretN hx hb hlk hr dL_told_26 rfl hP hS
set_option maxHeartbeats 4000000 in
set_option maxRecDepth 100000 in
theorem wex1_L_told (l : Launch) (hl9 : l.stackTraces = false) (D : va_G) (cA cB cL : ClassId) (A : Nat → Prop) (wr : va_W) (qo : Nat) (fo : Nat → Int64) (q : Nat → Nat) (n : Nat) (sz bt so fc : Nat → Nat) (ofs : Nat → Int32) (tg : Nat → Nat) (ch : Nat → Int32) (ad : Nat → Nat) (x : Int32) (w : Nat) (hw2 : w ≤ 2) : Met l yL_told wsL_told ({ frames := 7, cells := 1, slots := 6, locals := 113 }) (gPreX D vwCl [(cA, .int), (cB, .boolean), (cL, .long)] ((xw q cA n false sz bt so fc ofs tg ch ad) ++ (og qo cL fo :: wr)) A [.ref (q 0), .int (x), .int (nI (w)), .ref (qo)]) (gPost (some (.int (nI (1)))) D vwCl ((xw q cA n false sz bt so fc ofs tg ch ad) ++ (og qo cL fo :: wr)) A) 1 6 A := by
  refine va_MetW (hh := [(0, 10, 13, 13), (0, 10, 17, 25), (0, 10, 21, 19)]) (cc := cL_told) (maxL := 5) (ret := (some .int)) (by decide) rfl ?_
  intro p e s m args below meth c s₁ B hml hv
  obtain ⟨rfl, hP, hK, hD, hX⟩ := hv
  have hx := B.exec
  have hb := B.bytes
  have hr := B.returns
  have hlk := B.notSynchronized
  have hts := atoms_spec (ws := wsL_told) B.pre
  have hown : s.vm.findClass RL = some m.cls := findClass_of_methodNamed B.named
  have hS : va_S A s.heap s.heap [] := va_S.rf
  have hl := lv_entry ([.ref (q 0), .int (x), .int (nI (w)), .ref (qo)]) (n := 5) (Nat.le_of_ble_eq_true rfl)
  rw [lg_entry_eq]
  generalize (lg_sl ([.ref (q 0), .int (x), .int (nI (w)), .ref (qo)]) ++ List.replicate (5 - (lg_sl ([.ref (q 0), .int (x), .int (nI (w)), .ref (qo)])).length) Slot.unset).toArray = ls at hl ⊢
  have hTab : c.exceptionTable.toList = tableOf [(0, 10, 13, 13), (0, 10, 17, 25), (0, 10, 21, 19)] := vx_table (x := yL_told) B (hts (.codeWith yL_told cL_told 5 (some .int) [(0, 10, 13, 13), (0, 10, 17, 25), (0, 10, 21, 19)]) (by unfold wsL_told; exact List.mem_cons_self))
  have hl : lv_has ls 5 [(0, .ref (q 0)), (1, .int (x)), (2, .int (nI (w))), (3, .ref (qo))] := hl
  refine lv_aload_n hx hb dL_told_0 rfl (lv_at hl 3 rfl) ?_
  refine lv_iconst (v := nI (0)) hx hb dL_told_1 (by decide) ?_
  refine lv_aload_n hx hb dL_told_2 rfl (lv_at hl 0 rfl) ?_
  refine lv_iload_n hx hb dL_told_3 rfl (lv_at hl 1 rfl) ?_
  refine lv_iload_n hx hb dL_told_4 rfl (lv_at hl 2 rfl) ?_
  refine gi_goX (vx_runV (As := [.int (x), .int (nI (w))]) (rest := [.int (nI (0)), .ref (qo)]) ⟨hx, hb, hml, hown, hts⟩ (ex1_X0_told l hl9 D cA cB cL A (og qo cL fo :: wr) q n sz bt so fc ofs tg ch ad x w hw2) (cwV 2 hts gL_told_X0_told rfl rfl rfl (by decide +kernel) ⟨Nat.le_of_ble_eq_true rfl, Nat.le_of_ble_eq_true rfl⟩) (gi_preVX (q0 := 0) hK hP hD hX hS rfl rfl rfl) rfl rfl hl.1 rfl (lv_room (Nat.le_of_ble_eq_true rfl)) dL_told_5 ⟨Nat.le_of_ble_eq_true rfl, Nat.le_of_ble_eq_true rfl⟩) hS (fun ce q9 H locs hP hS hce hcv hcl => ?_)
  refine vx_catch (own := RL) (name := sISE) (E := sISE) hown [] ⟨0, 10, 13, 13⟩ [⟨0, 10, 17, 25⟩, ⟨0, 10, 21, 19⟩] (by rw [hTab]; rfl) (fun z hz => nomatch hz) (by decide) (by decide) (hts _ (List.mem_cons_of_mem _ tkL_13)) (va_Nw.use rfl (hX.2.2.1 _ (List.mem_of_getElem? (i := 3) rfl))) hce hcv hcl ?_
  have hD : va_D A ((xw q cA n false sz bt so fc ofs tg ch ad) ++ (og qo cL fo :: wr)) := gD_same hD rfl
  refine lv_astore (lv' := [(4, .ref (q9)), (0, .ref (q 0)), (1, .int (x)), (2, .int (nI (w))), (3, .ref (qo))]) hx hb dL_told_13 hl (by decide) rfl (fun ls hl => ?_)
  refine lv_iconst (v := nI (1)) hx hb dL_told_15 (by decide) ?_
  exact gi_iretN hx hb hlk hr dL_told_16 rfl hP hS
set_option maxHeartbeats 4000000 in
set_option maxRecDepth 100000 in
theorem wex2_L_told (l : Launch) (hl9 : l.stackTraces = false) (D : va_G) (cA cB cL : ClassId) (A : Nat → Prop) (wr : va_W) (qo : Nat) (fo : Nat → Int64) (q : Nat → Nat) (n : Nat) (sz bt so fc : Nat → Nat) (ofs : Nat → Int32) (tg : Nat → Nat) (ch : Nat → Int32) (ad : Nat → Nat) (x : Int32) (w : Nat) (hw2 : w ≤ 2) (hx8 : gf_isl n x = false) (hx9 : w = 0 → gf_ile n x = false) : Met l yL_told wsL_told ({ frames := 7, cells := 1, slots := 6, locals := 113 }) (gPreX D vwCl [(cA, .int), (cB, .boolean), (cL, .long)] ((xw q cA n true sz bt so fc ofs tg ch ad) ++ (og qo cL fo :: wr)) A [.ref (q 0), .int (x), .int (nI (w)), .ref (qo)]) (gPost (some (.int (nI (2)))) D vwCl ((xw q cA n true sz bt so fc ofs tg ch ad) ++ (og qo cL fo :: wr)) A) 1 6 A := by
  refine va_MetW (hh := [(0, 10, 13, 13), (0, 10, 17, 25), (0, 10, 21, 19)]) (cc := cL_told) (maxL := 5) (ret := (some .int)) (by decide) rfl ?_
  intro p e s m args below meth c s₁ B hml hv
  obtain ⟨rfl, hP, hK, hD, hX⟩ := hv
  have hx := B.exec
  have hb := B.bytes
  have hr := B.returns
  have hlk := B.notSynchronized
  have hts := atoms_spec (ws := wsL_told) B.pre
  have hown : s.vm.findClass RL = some m.cls := findClass_of_methodNamed B.named
  have hS : va_S A s.heap s.heap [] := va_S.rf
  have hl := lv_entry ([.ref (q 0), .int (x), .int (nI (w)), .ref (qo)]) (n := 5) (Nat.le_of_ble_eq_true rfl)
  rw [lg_entry_eq]
  generalize (lg_sl ([.ref (q 0), .int (x), .int (nI (w)), .ref (qo)]) ++ List.replicate (5 - (lg_sl ([.ref (q 0), .int (x), .int (nI (w)), .ref (qo)])).length) Slot.unset).toArray = ls at hl ⊢
  have hTab : c.exceptionTable.toList = tableOf [(0, 10, 13, 13), (0, 10, 17, 25), (0, 10, 21, 19)] := vx_table (x := yL_told) B (hts (.codeWith yL_told cL_told 5 (some .int) [(0, 10, 13, 13), (0, 10, 17, 25), (0, 10, 21, 19)]) (by unfold wsL_told; exact List.mem_cons_self))
  have hl : lv_has ls 5 [(0, .ref (q 0)), (1, .int (x)), (2, .int (nI (w))), (3, .ref (qo))] := hl
  refine lv_aload_n hx hb dL_told_0 rfl (lv_at hl 3 rfl) ?_
  refine lv_iconst (v := nI (0)) hx hb dL_told_1 (by decide) ?_
  refine lv_aload_n hx hb dL_told_2 rfl (lv_at hl 0 rfl) ?_
  refine lv_iload_n hx hb dL_told_3 rfl (lv_at hl 1 rfl) ?_
  refine lv_iload_n hx hb dL_told_4 rfl (lv_at hl 2 rfl) ?_
  refine gi_goX (vx_runV (As := [.int (x), .int (nI (w))]) (rest := [.int (nI (0)), .ref (qo)]) ⟨hx, hb, hml, hown, hts⟩ (ex2_X0_told l hl9 D cA cB cL A (og qo cL fo :: wr) q n sz bt so fc ofs tg ch ad x w hw2 hx8 hx9) (cwV 2 hts gL_told_X0_told rfl rfl rfl (by decide +kernel) ⟨Nat.le_of_ble_eq_true rfl, Nat.le_of_ble_eq_true rfl⟩) (gi_preVX (q0 := 0) hK hP hD hX hS rfl rfl rfl) rfl rfl hl.1 rfl (lv_room (Nat.le_of_ble_eq_true rfl)) dL_told_5 ⟨Nat.le_of_ble_eq_true rfl, Nat.le_of_ble_eq_true rfl⟩) hS (fun ce q9 H locs hP hS hce hcv hcl => ?_)
  refine vx_catch (own := RL) (name := sIOB) (E := sIOB) hown [⟨0, 10, 13, 13⟩] ⟨0, 10, 17, 25⟩ [⟨0, 10, 21, 19⟩] (by rw [hTab]; rfl) (fun z hz => by
      rcases List.mem_cons.mp hz with rfl | hz
      · exact Or.inr ⟨by decide, sISE, hts _ (List.mem_cons_of_mem _ tkL_13), hX.2.2.2.2 _ (List.mem_of_getElem? (i := 2) rfl)⟩
      cases hz) (by decide) (by decide) (hts _ (List.mem_cons_of_mem _ tkL_25)) (va_Nw.use rfl (hX.2.2.1 _ (List.mem_of_getElem? (i := 5) rfl))) hce hcv hcl ?_
  have hD : va_D A ((xw q cA n true sz bt so fc ofs tg ch ad) ++ (og qo cL fo :: wr)) := gD_same hD rfl
  refine lv_astore (lv' := [(4, .ref (q9)), (0, .ref (q 0)), (1, .int (x)), (2, .int (nI (w))), (3, .ref (qo))]) hx hb dL_told_17 hl (by decide) rfl (fun ls hl => ?_)
  refine lv_iconst (v := nI (2)) hx hb dL_told_19 (by decide) ?_
  exact gi_iretN hx hb hlk hr dL_told_20 rfl hP hS
set_option maxHeartbeats 4000000 in
set_option maxRecDepth 100000 in
theorem wex3_L_told (l : Launch) (hl9 : l.stackTraces = false) (D : va_G) (cA cB cL : ClassId) (A : Nat → Prop) (wr : va_W) (qo : Nat) (fo : Nat → Int64) (q : Nat → Nat) (n : Nat) (st : Bool) (sz bt so fc : Nat → Nat) (ofs : Nat → Int32) (tg : Nat → Nat) (ch : Nat → Int32) (ad : Nat → Nat) (x w : Int32) (hw0 : ¬ w = 0) (hw1 : ¬ w = nI 1) (hw2 : ¬ w = nI 2) : Met l yL_told wsL_told ({ frames := 7, cells := 1, slots := 6, locals := 113 }) (gPreX D vwCl [(cA, .int), (cB, .boolean), (cL, .long)] ((xw q cA n st sz bt so fc ofs tg ch ad) ++ (og qo cL fo :: wr)) A [.ref (q 0), .int (x), .int (w), .ref (qo)]) (gPost (some (.int (nI (3)))) D vwCl ((xw q cA n st sz bt so fc ofs tg ch ad) ++ (og qo cL fo :: wr)) A) 1 6 A := by
  refine va_MetW (hh := [(0, 10, 13, 13), (0, 10, 17, 25), (0, 10, 21, 19)]) (cc := cL_told) (maxL := 5) (ret := (some .int)) (by decide) rfl ?_
  intro p e s m args below meth c s₁ B hml hv
  obtain ⟨rfl, hP, hK, hD, hX⟩ := hv
  have hx := B.exec
  have hb := B.bytes
  have hr := B.returns
  have hlk := B.notSynchronized
  have hts := atoms_spec (ws := wsL_told) B.pre
  have hown : s.vm.findClass RL = some m.cls := findClass_of_methodNamed B.named
  have hS : va_S A s.heap s.heap [] := va_S.rf
  have hl := lv_entry ([.ref (q 0), .int (x), .int (w), .ref (qo)]) (n := 5) (Nat.le_of_ble_eq_true rfl)
  rw [lg_entry_eq]
  generalize (lg_sl ([.ref (q 0), .int (x), .int (w), .ref (qo)]) ++ List.replicate (5 - (lg_sl ([.ref (q 0), .int (x), .int (w), .ref (qo)])).length) Slot.unset).toArray = ls at hl ⊢
  have hTab : c.exceptionTable.toList = tableOf [(0, 10, 13, 13), (0, 10, 17, 25), (0, 10, 21, 19)] := vx_table (x := yL_told) B (hts (.codeWith yL_told cL_told 5 (some .int) [(0, 10, 13, 13), (0, 10, 17, 25), (0, 10, 21, 19)]) (by unfold wsL_told; exact List.mem_cons_self))
  have hl : lv_has ls 5 [(0, .ref (q 0)), (1, .int (x)), (2, .int (w)), (3, .ref (qo))] := hl
  refine lv_aload_n hx hb dL_told_0 rfl (lv_at hl 3 rfl) ?_
  refine lv_iconst (v := nI (0)) hx hb dL_told_1 (by decide) ?_
  refine lv_aload_n hx hb dL_told_2 rfl (lv_at hl 0 rfl) ?_
  refine lv_iload_n hx hb dL_told_3 rfl (lv_at hl 1 rfl) ?_
  refine lv_iload_n hx hb dL_told_4 rfl (lv_at hl 2 rfl) ?_
  refine gi_goX (vx_runV (As := [.int (x), .int (w)]) (rest := [.int (nI (0)), .ref (qo)]) ⟨hx, hb, hml, hown, hts⟩ (ex3_X0_told l hl9 D cA cB cL A (og qo cL fo :: wr) q n st sz bt so fc ofs tg ch ad x w hw0 hw1 hw2) (cwV 2 hts gL_told_X0_told rfl rfl rfl (by decide +kernel) ⟨Nat.le_of_ble_eq_true rfl, Nat.le_of_ble_eq_true rfl⟩) (gi_preVX (q0 := 0) hK hP hD hX hS rfl rfl rfl) rfl rfl hl.1 rfl (lv_room (Nat.le_of_ble_eq_true rfl)) dL_told_5 ⟨Nat.le_of_ble_eq_true rfl, Nat.le_of_ble_eq_true rfl⟩) hS (fun ce q9 H locs hP hS hce hcv hcl => ?_)
  refine vx_catch (own := RL) (name := sIAE) (E := sIAE) hown [⟨0, 10, 13, 13⟩, ⟨0, 10, 17, 25⟩] ⟨0, 10, 21, 19⟩ [] (by rw [hTab]; rfl) (fun z hz => by
      rcases List.mem_cons.mp hz with rfl | hz
      · exact Or.inr ⟨by decide, sISE, hts _ (List.mem_cons_of_mem _ tkL_13), hX.2.2.2.2 _ (List.mem_of_getElem? (i := 3) rfl)⟩
      rcases List.mem_cons.mp hz with rfl | hz
      · exact Or.inr ⟨by decide, sIOB, hts _ (List.mem_cons_of_mem _ tkL_25), hX.2.2.2.2 _ (List.mem_of_getElem? (i := 4) rfl)⟩
      cases hz) (by decide) (by decide) (hts _ (List.mem_cons_of_mem _ tkL_19)) (va_Nw.use rfl (hX.2.2.1 _ (List.mem_of_getElem? (i := 4) rfl))) hce hcv hcl ?_
  have hD : va_D A ((xw q cA n st sz bt so fc ofs tg ch ad) ++ (og qo cL fo :: wr)) := gD_same hD rfl
  refine lv_astore (lv' := [(4, .ref (q9)), (0, .ref (q 0)), (1, .int (x)), (2, .int (w)), (3, .ref (qo))]) hx hb dL_told_21 hl (by decide) rfl (fun ls hl => ?_)
  refine lv_iconst (v := nI (3)) hx hb dL_told_23 (by decide) ?_
  exact gi_iretN hx hb hlk hr dL_told_24 rfl hP hS
set_option maxHeartbeats 4000000 in
set_option maxRecDepth 100000 in
theorem wok_L_value (l : Launch) (D : va_G) (cA cB cL : ClassId) (A : Nat → Prop) (wr : va_W) (qo : Nat) (fo : Nat → Int64) (q : Nat → Nat) (n : Nat) (sz bt so fc : Nat → Nat) (ofs : Nat → Int32) (tg : Nat → Nat) (ch : Nat → Int32) (ad : Nat → Nat) (nw : Nat → Nat) (i : Nat) (hw : gf_wf n fc sz bt so tg) (hk : gf_nk n fc nw) (hi : i < n) (hch : ch i = gf_c fc nw i) (had : ∀ j, j ≤ n → ad j = gf_ad fc sz nw j) : Met l yL_value wsL_value ({ frames := 4, cells := 0, slots := 0, locals := 86 }) (gPre D vwCl [(cA, .int), (cB, .boolean), (cL, .long)] ((xw q cA n true sz bt so fc ofs tg ch ad) ++ (og qo cL fo :: wr)) A [.ref (q 0), .int (nI (i)), .ref (qo)]) (gPost (some (.int (nI (0)))) D vwCl ((xw q cA n true sz bt so fc ofs tg ch ad) ++ (og qo cL (vp_updL fo 0 (gf_va fc sz so tg ofs nw i)) :: wr)) A) 0 0 A := by
  refine va_MetW (hh := [(0, 8, 11, 13), (0, 8, 14, 25)]) (cc := cL_value) (maxL := 4) (ret := (some .int)) (by decide) rfl ?_
  intro p e s m args below meth c s₁ B hml hv
  obtain ⟨rfl, hP, hK, hD⟩ := hv
  have hx := B.exec
  have hb := B.bytes
  have hr := B.returns
  have hlk := B.notSynchronized
  have hts := atoms_spec (ws := wsL_value) B.pre
  have hown : s.vm.findClass RL = some m.cls := findClass_of_methodNamed B.named
  have hS : va_S A s.heap s.heap [] := va_S.rf
  have hl := lv_entry ([.ref (q 0), .int (nI (i)), .ref (qo)]) (n := 4) (Nat.le_of_ble_eq_true rfl)
  rw [lg_entry_eq]
  generalize (lg_sl ([.ref (q 0), .int (nI (i)), .ref (qo)]) ++ List.replicate (4 - (lg_sl ([.ref (q 0), .int (nI (i)), .ref (qo)])).length) Slot.unset).toArray = ls at hl ⊢
  have hl : lv_has ls 4 [(0, .ref (q 0)), (1, .int (nI (i))), (2, .ref (qo))] := hl
  refine lv_aload_n hx hb dL_value_0 rfl (lv_at hl 2 rfl) ?_
  refine lv_iconst (v := nI (0)) hx hb dL_value_1 (by decide) ?_
  refine lv_aload_n hx hb dL_value_2 rfl (lv_at hl 0 rfl) ?_
  refine lv_iload_n hx hb dL_value_3 rfl (lv_at hl 1 rfl) ?_
  refine gi_goV (va_runV (As := [.int (nI (i))]) (rest := [.int (nI (0)), .ref (qo)]) ⟨hx, hb, hml, hown, hts⟩ (ok_X0_value l D cA cB cL A (og qo cL fo :: wr) q n sz bt so fc ofs tg ch ad nw i hw hk hi hch had) (cwV 1 hts gL_value_X0_value rfl rfl rfl (by decide +kernel) ⟨Nat.le_of_ble_eq_true rfl, Nat.le_of_ble_eq_true rfl⟩) (gi_preV (q0 := 0) hK hP hD rfl rfl rfl) rfl rfl hl.1 rfl (lv_room (Nat.le_of_ble_eq_true rfl)) dL_value_4 ⟨Nat.le_of_ble_eq_true rfl, Nat.le_of_ble_eq_true rfl⟩) hS (fun H locs hP hS => ?_)
  have hP : va_P D vwCl ((xw q cA n true sz bt so fc ofs tg ch ad) ++ (og qo cL fo :: wr)) H := hP
  have hD : va_D A ((xw q cA n true sz bt so fc ofs tg ch ad) ++ (og qo cL fo :: wr)) := gD_same hD rfl
  refine gi_lst hx hb hK hP hD hS 9 2 fo rfl rfl (by decide) (by decide) dL_value_7 (fun H locs hP hD hS => ?_)
  have hP : va_P D vwCl ((xw q cA n true sz bt so fc ofs tg ch ad) ++ (og qo cL (vp_updL fo 0 (gf_va fc sz so tg ofs nw i)) :: wr)) H := hP
  have hD : va_D A ((xw q cA n true sz bt so fc ofs tg ch ad) ++ (og qo cL (vp_updL fo 0 (gf_va fc sz so tg ofs nw i)) :: wr)) := hD
  refine lv_goto (tgt := 17) hx hb dL_value_8 rfl ?_
  refine lv_iconst (v := nI (0)) hx hb dL_value_17 (by decide) ?_
  exact gi_iretN hx hb hlk hr dL_value_18 rfl hP hS
set_option maxHeartbeats 4000000 in
set_option maxRecDepth 100000 in
theorem wex1_L_value (l : Launch) (hl9 : l.stackTraces = false) (D : va_G) (cA cB cL : ClassId) (A : Nat → Prop) (wr : va_W) (qo : Nat) (fo : Nat → Int64) (q : Nat → Nat) (n : Nat) (sz bt so fc : Nat → Nat) (ofs : Nat → Int32) (tg : Nat → Nat) (ch : Nat → Int32) (ad : Nat → Nat) (x : Int32)  : Met l yL_value wsL_value ({ frames := 7, cells := 1, slots := 6, locals := 103 }) (gPreX D vwCl [(cA, .int), (cB, .boolean), (cL, .long)] ((xw q cA n false sz bt so fc ofs tg ch ad) ++ (og qo cL fo :: wr)) A [.ref (q 0), .int (x), .ref (qo)]) (gPost (some (.int (nI (1)))) D vwCl ((xw q cA n false sz bt so fc ofs tg ch ad) ++ (og qo cL fo :: wr)) A) 1 6 A := by
  refine va_MetW (hh := [(0, 8, 11, 13), (0, 8, 14, 25)]) (cc := cL_value) (maxL := 4) (ret := (some .int)) (by decide) rfl ?_
  intro p e s m args below meth c s₁ B hml hv
  obtain ⟨rfl, hP, hK, hD, hX⟩ := hv
  have hx := B.exec
  have hb := B.bytes
  have hr := B.returns
  have hlk := B.notSynchronized
  have hts := atoms_spec (ws := wsL_value) B.pre
  have hown : s.vm.findClass RL = some m.cls := findClass_of_methodNamed B.named
  have hS : va_S A s.heap s.heap [] := va_S.rf
  have hl := lv_entry ([.ref (q 0), .int (x), .ref (qo)]) (n := 4) (Nat.le_of_ble_eq_true rfl)
  rw [lg_entry_eq]
  generalize (lg_sl ([.ref (q 0), .int (x), .ref (qo)]) ++ List.replicate (4 - (lg_sl ([.ref (q 0), .int (x), .ref (qo)])).length) Slot.unset).toArray = ls at hl ⊢
  have hTab : c.exceptionTable.toList = tableOf [(0, 8, 11, 13), (0, 8, 14, 25)] := vx_table (x := yL_value) B (hts (.codeWith yL_value cL_value 4 (some .int) [(0, 8, 11, 13), (0, 8, 14, 25)]) (by unfold wsL_value; exact List.mem_cons_self))
  have hl : lv_has ls 4 [(0, .ref (q 0)), (1, .int (x)), (2, .ref (qo))] := hl
  refine lv_aload_n hx hb dL_value_0 rfl (lv_at hl 2 rfl) ?_
  refine lv_iconst (v := nI (0)) hx hb dL_value_1 (by decide) ?_
  refine lv_aload_n hx hb dL_value_2 rfl (lv_at hl 0 rfl) ?_
  refine lv_iload_n hx hb dL_value_3 rfl (lv_at hl 1 rfl) ?_
  refine gi_goX (vx_runV (As := [.int (x)]) (rest := [.int (nI (0)), .ref (qo)]) ⟨hx, hb, hml, hown, hts⟩ (ex1_X0_value l hl9 D cA cB cL A (og qo cL fo :: wr) q n sz bt so fc ofs tg ch ad x ) (cwV 1 hts gL_value_X0_value rfl rfl rfl (by decide +kernel) ⟨Nat.le_of_ble_eq_true rfl, Nat.le_of_ble_eq_true rfl⟩) (gi_preVX (q0 := 0) hK hP hD hX hS rfl rfl rfl) rfl rfl hl.1 rfl (lv_room (Nat.le_of_ble_eq_true rfl)) dL_value_4 ⟨Nat.le_of_ble_eq_true rfl, Nat.le_of_ble_eq_true rfl⟩) hS (fun ce q9 H locs hP hS hce hcv hcl => ?_)
  refine vx_catch (own := RL) (name := sISE) (E := sISE) hown [] ⟨0, 8, 11, 13⟩ [⟨0, 8, 14, 25⟩] (by rw [hTab]; rfl) (fun z hz => nomatch hz) (by decide) (by decide) (hts _ (List.mem_cons_of_mem _ tkL_13)) (va_Nw.use rfl (hX.2.2.1 _ (List.mem_of_getElem? (i := 3) rfl))) hce hcv hcl ?_
  have hD : va_D A ((xw q cA n false sz bt so fc ofs tg ch ad) ++ (og qo cL fo :: wr)) := gD_same hD rfl
  refine lv_astore_n (lv' := [(3, .ref (q9)), (0, .ref (q 0)), (1, .int (x)), (2, .ref (qo))]) hx hb dL_value_11 rfl hl (by decide) rfl (fun ls hl => ?_)
  refine lv_iconst (v := nI (1)) hx hb dL_value_12 (by decide) ?_
  exact gi_iretN hx hb hlk hr dL_value_13 rfl hP hS
set_option maxHeartbeats 4000000 in
set_option maxRecDepth 100000 in
theorem wex2_L_value (l : Launch) (hl9 : l.stackTraces = false) (D : va_G) (cA cB cL : ClassId) (A : Nat → Prop) (wr : va_W) (qo : Nat) (fo : Nat → Int64) (q : Nat → Nat) (n : Nat) (sz bt so fc : Nat → Nat) (ofs : Nat → Int32) (tg : Nat → Nat) (ch : Nat → Int32) (ad : Nat → Nat) (x : Int32) (hx8 : gf_isl n x = false) : Met l yL_value wsL_value ({ frames := 7, cells := 1, slots := 6, locals := 103 }) (gPreX D vwCl [(cA, .int), (cB, .boolean), (cL, .long)] ((xw q cA n true sz bt so fc ofs tg ch ad) ++ (og qo cL fo :: wr)) A [.ref (q 0), .int (x), .ref (qo)]) (gPost (some (.int (nI (2)))) D vwCl ((xw q cA n true sz bt so fc ofs tg ch ad) ++ (og qo cL fo :: wr)) A) 1 6 A := by
  refine va_MetW (hh := [(0, 8, 11, 13), (0, 8, 14, 25)]) (cc := cL_value) (maxL := 4) (ret := (some .int)) (by decide) rfl ?_
  intro p e s m args below meth c s₁ B hml hv
  obtain ⟨rfl, hP, hK, hD, hX⟩ := hv
  have hx := B.exec
  have hb := B.bytes
  have hr := B.returns
  have hlk := B.notSynchronized
  have hts := atoms_spec (ws := wsL_value) B.pre
  have hown : s.vm.findClass RL = some m.cls := findClass_of_methodNamed B.named
  have hS : va_S A s.heap s.heap [] := va_S.rf
  have hl := lv_entry ([.ref (q 0), .int (x), .ref (qo)]) (n := 4) (Nat.le_of_ble_eq_true rfl)
  rw [lg_entry_eq]
  generalize (lg_sl ([.ref (q 0), .int (x), .ref (qo)]) ++ List.replicate (4 - (lg_sl ([.ref (q 0), .int (x), .ref (qo)])).length) Slot.unset).toArray = ls at hl ⊢
  have hTab : c.exceptionTable.toList = tableOf [(0, 8, 11, 13), (0, 8, 14, 25)] := vx_table (x := yL_value) B (hts (.codeWith yL_value cL_value 4 (some .int) [(0, 8, 11, 13), (0, 8, 14, 25)]) (by unfold wsL_value; exact List.mem_cons_self))
  have hl : lv_has ls 4 [(0, .ref (q 0)), (1, .int (x)), (2, .ref (qo))] := hl
  refine lv_aload_n hx hb dL_value_0 rfl (lv_at hl 2 rfl) ?_
  refine lv_iconst (v := nI (0)) hx hb dL_value_1 (by decide) ?_
  refine lv_aload_n hx hb dL_value_2 rfl (lv_at hl 0 rfl) ?_
  refine lv_iload_n hx hb dL_value_3 rfl (lv_at hl 1 rfl) ?_
  refine gi_goX (vx_runV (As := [.int (x)]) (rest := [.int (nI (0)), .ref (qo)]) ⟨hx, hb, hml, hown, hts⟩ (ex2_X0_value l hl9 D cA cB cL A (og qo cL fo :: wr) q n sz bt so fc ofs tg ch ad x hx8) (cwV 1 hts gL_value_X0_value rfl rfl rfl (by decide +kernel) ⟨Nat.le_of_ble_eq_true rfl, Nat.le_of_ble_eq_true rfl⟩) (gi_preVX (q0 := 0) hK hP hD hX hS rfl rfl rfl) rfl rfl hl.1 rfl (lv_room (Nat.le_of_ble_eq_true rfl)) dL_value_4 ⟨Nat.le_of_ble_eq_true rfl, Nat.le_of_ble_eq_true rfl⟩) hS (fun ce q9 H locs hP hS hce hcv hcl => ?_)
  refine vx_catch (own := RL) (name := sIOB) (E := sIOB) hown [⟨0, 8, 11, 13⟩] ⟨0, 8, 14, 25⟩ [] (by rw [hTab]; rfl) (fun z hz => by
      rcases List.mem_cons.mp hz with rfl | hz
      · exact Or.inr ⟨by decide, sISE, hts _ (List.mem_cons_of_mem _ tkL_13), hX.2.2.2.2 _ (List.mem_of_getElem? (i := 2) rfl)⟩
      cases hz) (by decide) (by decide) (hts _ (List.mem_cons_of_mem _ tkL_25)) (va_Nw.use rfl (hX.2.2.1 _ (List.mem_of_getElem? (i := 5) rfl))) hce hcv hcl ?_
  have hD : va_D A ((xw q cA n true sz bt so fc ofs tg ch ad) ++ (og qo cL fo :: wr)) := gD_same hD rfl
  refine lv_astore_n (lv' := [(3, .ref (q9)), (0, .ref (q 0)), (1, .int (x)), (2, .ref (qo))]) hx hb dL_value_14 rfl hl (by decide) rfl (fun ls hl => ?_)
  refine lv_iconst (v := nI (2)) hx hb dL_value_15 (by decide) ?_
  exact gi_iretN hx hb hlk hr dL_value_16 rfl hP hS
set_option maxHeartbeats 4000000 in
set_option maxRecDepth 100000 in
theorem wok_L_wrong (l : Launch) (D : va_G) (cA cB cL : ClassId) (A : Nat → Prop) (wr : va_W) (qo : Nat) (fo : Nat → Int64) (q : Nat → Nat) (n : Nat) (sz bt so fc : Nat → Nat) (ofs : Nat → Int32) (tg : Nat → Nat) (ch : Nat → Int32) (ad : Nat → Nat) (nw : Nat → Nat) (hw : gf_wf n fc sz bt so tg) (hk : gf_nk n fc nw) (hch : ∀ i, i < n → ch i = gf_c fc nw i) (had : ∀ j, j ≤ n → ad j = gf_ad fc sz nw j) : Met l yL_wrong wsL_wrong ({ frames := 6, cells := 0, slots := 0, locals := 132 }) (gPre D vwCl [(cA, .int), (cB, .boolean), (cL, .long)] ((xw q cA n true sz bt so fc ofs tg ch ad) ++ (og qo cL fo :: wr)) A [.ref (q 0), .ref (qo)]) (gPost (some (.int (nI (0)))) D vwCl ((xw q cA n true sz bt so fc ofs tg ch ad) ++ (og qo cL (vp_updL fo 0 ((gf_lu (gf_fit fc sz bt so tg ofs nw) n 0).toInt64)) :: wr)) A) 0 0 A := by
  refine va_MetW (hh := [(0, 8, 11, 13)]) (cc := cL_wrong) (maxL := 3) (ret := (some .int)) (by decide) rfl ?_
  intro p e s m args below meth c s₁ B hml hv
  obtain ⟨rfl, hP, hK, hD⟩ := hv
  have hx := B.exec
  have hb := B.bytes
  have hr := B.returns
  have hlk := B.notSynchronized
  have hts := atoms_spec (ws := wsL_wrong) B.pre
  have hown : s.vm.findClass RL = some m.cls := findClass_of_methodNamed B.named
  have hS : va_S A s.heap s.heap [] := va_S.rf
  have hl := lv_entry ([.ref (q 0), .ref (qo)]) (n := 3) (Nat.le_of_ble_eq_true rfl)
  rw [lg_entry_eq]
  generalize (lg_sl ([.ref (q 0), .ref (qo)]) ++ List.replicate (3 - (lg_sl ([.ref (q 0), .ref (qo)])).length) Slot.unset).toArray = ls at hl ⊢
  have hl : lv_has ls 3 [(0, .ref (q 0)), (1, .ref (qo))] := hl
  refine lv_aload_n hx hb dL_wrong_0 rfl (lv_at hl 1 rfl) ?_
  refine lv_iconst (v := nI (0)) hx hb dL_wrong_1 (by decide) ?_
  refine lv_aload_n hx hb dL_wrong_2 rfl (lv_at hl 0 rfl) ?_
  refine gi_goV (va_runV (As := []) (rest := [.int (nI (0)), .ref (qo)]) ⟨hx, hb, hml, hown, hts⟩ (ok_X0_wrong l D cA cB cL A (og qo cL fo :: wr) q n sz bt so fc ofs tg ch ad nw hw hk hch had) (cwV 0 hts gL_wrong_X0_wrong rfl rfl rfl (by decide +kernel) ⟨Nat.le_of_ble_eq_true rfl, Nat.le_of_ble_eq_true rfl⟩) (gi_preV (q0 := 0) hK hP hD rfl rfl rfl) rfl rfl hl.1 rfl (lv_room (Nat.le_of_ble_eq_true rfl)) dL_wrong_3 ⟨Nat.le_of_ble_eq_true rfl, Nat.le_of_ble_eq_true rfl⟩) hS (fun H locs hP hS => ?_)
  have hP : va_P D vwCl ((xw q cA n true sz bt so fc ofs tg ch ad) ++ (og qo cL fo :: wr)) H := hP
  have hD : va_D A ((xw q cA n true sz bt so fc ofs tg ch ad) ++ (og qo cL fo :: wr)) := gD_same hD rfl
  refine lv_i2l (v := ((gf_lu (gf_fit fc sz bt so tg ofs nw) n 0)).toInt64) hx hb dL_wrong_6 rfl ?_
  refine gi_lst hx hb hK hP hD hS 9 2 fo rfl rfl (by decide) (by decide) dL_wrong_7 (fun H locs hP hD hS => ?_)
  have hP : va_P D vwCl ((xw q cA n true sz bt so fc ofs tg ch ad) ++ (og qo cL (vp_updL fo 0 (((gf_lu (gf_fit fc sz bt so tg ofs nw) n 0)).toInt64)) :: wr)) H := hP
  have hD : va_D A ((xw q cA n true sz bt so fc ofs tg ch ad) ++ (og qo cL (vp_updL fo 0 (((gf_lu (gf_fit fc sz bt so tg ofs nw) n 0)).toInt64)) :: wr)) := hD
  refine lv_goto (tgt := 14) hx hb dL_wrong_8 rfl ?_
  refine lv_iconst (v := nI (0)) hx hb dL_wrong_14 (by decide) ?_
  exact gi_iretN hx hb hlk hr dL_wrong_15 rfl hP hS
set_option maxHeartbeats 4000000 in
set_option maxRecDepth 100000 in
theorem wex_L_wrong (l : Launch) (hl9 : l.stackTraces = false) (D : va_G) (cA cB cL : ClassId) (A : Nat → Prop) (wr : va_W) (qo : Nat) (fo : Nat → Int64) (q : Nat → Nat) (n : Nat) (sz bt so fc : Nat → Nat) (ofs : Nat → Int32) (tg : Nat → Nat) (ch : Nat → Int32) (ad : Nat → Nat)  : Met l yL_wrong wsL_wrong ({ frames := 7, cells := 1, slots := 6, locals := 132 }) (gPreX D vwCl [(cA, .int), (cB, .boolean), (cL, .long)] ((xw q cA n false sz bt so fc ofs tg ch ad) ++ (og qo cL fo :: wr)) A [.ref (q 0), .ref (qo)]) (gPost (some (.int (nI (1)))) D vwCl ((xw q cA n false sz bt so fc ofs tg ch ad) ++ (og qo cL fo :: wr)) A) 1 6 A := by
  refine va_MetW (hh := [(0, 8, 11, 13)]) (cc := cL_wrong) (maxL := 3) (ret := (some .int)) (by decide) rfl ?_
  intro p e s m args below meth c s₁ B hml hv
  obtain ⟨rfl, hP, hK, hD, hX⟩ := hv
  have hx := B.exec
  have hb := B.bytes
  have hr := B.returns
  have hlk := B.notSynchronized
  have hts := atoms_spec (ws := wsL_wrong) B.pre
  have hown : s.vm.findClass RL = some m.cls := findClass_of_methodNamed B.named
  have hS : va_S A s.heap s.heap [] := va_S.rf
  have hl := lv_entry ([.ref (q 0), .ref (qo)]) (n := 3) (Nat.le_of_ble_eq_true rfl)
  rw [lg_entry_eq]
  generalize (lg_sl ([.ref (q 0), .ref (qo)]) ++ List.replicate (3 - (lg_sl ([.ref (q 0), .ref (qo)])).length) Slot.unset).toArray = ls at hl ⊢
  have hTab : c.exceptionTable.toList = tableOf [(0, 8, 11, 13)] := vx_table (x := yL_wrong) B (hts (.codeWith yL_wrong cL_wrong 3 (some .int) [(0, 8, 11, 13)]) (by unfold wsL_wrong; exact List.mem_cons_self))
  have hl : lv_has ls 3 [(0, .ref (q 0)), (1, .ref (qo))] := hl
  refine lv_aload_n hx hb dL_wrong_0 rfl (lv_at hl 1 rfl) ?_
  refine lv_iconst (v := nI (0)) hx hb dL_wrong_1 (by decide) ?_
  refine lv_aload_n hx hb dL_wrong_2 rfl (lv_at hl 0 rfl) ?_
  refine gi_goX (vx_runV (As := []) (rest := [.int (nI (0)), .ref (qo)]) ⟨hx, hb, hml, hown, hts⟩ (ex_X0_wrong l hl9 D cA cB cL A (og qo cL fo :: wr) q n sz bt so fc ofs tg ch ad ) (cwV 0 hts gL_wrong_X0_wrong rfl rfl rfl (by decide +kernel) ⟨Nat.le_of_ble_eq_true rfl, Nat.le_of_ble_eq_true rfl⟩) (gi_preVX (q0 := 0) hK hP hD hX hS rfl rfl rfl) rfl rfl hl.1 rfl (lv_room (Nat.le_of_ble_eq_true rfl)) dL_wrong_3 ⟨Nat.le_of_ble_eq_true rfl, Nat.le_of_ble_eq_true rfl⟩) hS (fun ce q9 H locs hP hS hce hcv hcl => ?_)
  refine vx_catch (own := RL) (name := sISE) (E := sISE) hown [] ⟨0, 8, 11, 13⟩ [] (by rw [hTab]; rfl) (fun z hz => nomatch hz) (by decide) (by decide) (hts _ (List.mem_cons_of_mem _ tkL_13)) (va_Nw.use rfl (hX.2.2.1 _ (List.mem_of_getElem? (i := 3) rfl))) hce hcv hcl ?_
  have hD : va_D A ((xw q cA n false sz bt so fc ofs tg ch ad) ++ (og qo cL fo :: wr)) := gD_same hD rfl
  refine lv_astore_n (lv' := [(2, .ref (q9)), (0, .ref (q 0)), (1, .ref (qo))]) hx hb dL_wrong_11 rfl hl (by decide) rfl (fun ls hl => ?_)
  refine lv_iconst (v := nI (1)) hx hb dL_wrong_12 (by decide) ?_
  exact gi_iretN hx hb hlk hr dL_wrong_13 rfl hP hS
