set_option maxHeartbeats 4000000 in
set_option maxRecDepth 100000 in
theorem c_X0_sizeOf (l : Launch) (D : va_G) (cA cB cL : ClassId) (A : Nat → Prop) (wr : va_W) (q : Nat → Nat) (n : Nat) (st : Bool) (sz bt so fc : Nat → Nat) (ofs : Nat → Int32) (tg : Nat → Nat) (ch : Nat → Int32) (ad : Nat → Nat) (nw : Nat → Nat) (i : Nat) (hw : gf_wf n fc sz bt so tg) (hk : gf_nk n fc nw) (hi : i < n) (hch : ch i = gf_c fc nw i) : Met l yX0_sizeOf wsX0_sizeOf ({ frames := 1, cells := 0, slots := 0, locals := 21 }) (gPre D vwCl [(cA, .int), (cB, .boolean), (cL, .long)] ((xw q cA n st sz bt so fc ofs tg ch ad) ++ wr) A [.ref (q 0), .int (nI (i))]) (gPost (some (.int (nI (if fc i = 0 then 0 else sz (4 * i + nw i))))) D vwCl ((xw q cA n st sz bt so fc ofs tg ch ad) ++ wr) A) 0 0 A := by
  refine Met.ofW (cc := cX0_sizeOf) (maxL := 2) (ret := (some .int)) (by decide) rfl ?_
  intro p e s m args below meth c s₁ B hml hv
  obtain ⟨rfl, hP, hK, hD⟩ := hv
  have hx := B.exec
  have hb := B.bytes
  have hr := B.returns
  have hlk := B.notSynchronized
  have hts := atoms_spec (ws := wsX0_sizeOf) B.pre
  have hown : s.vm.findClass RX0 = some m.cls := findClass_of_methodNamed B.named
  have hS : va_S A s.heap s.heap [] := va_S.rf
  have hl := lv_entry ([.ref (q 0), .int (nI (i))]) (n := 2) (Nat.le_of_ble_eq_true rfl)
  rw [lg_entry_eq]
  generalize (lg_sl ([.ref (q 0), .int (nI (i))]) ++ List.replicate (2 - (lg_sl ([.ref (q 0), .int (nI (i))])).length) Slot.unset).toArray = ls at hl ⊢
  have hl : lv_has ls 2 [(0, .ref (q 0)), (1, .int (nI (i)))] := hl
  have hin : ∀ w ∈ u_ws RX0 TX0 10, w ∈ wsX0_sizeOf := fun w h => List.mem_cons_of_mem _ (inTX0 w h)
  have hf9 := hts _ (List.mem_cons_of_mem _ tfX0_9)
  have hf28 := hts _ (List.mem_cons_of_mem _ tfX0_28)
  have hn := hw.1
  have hn3 := gf_nk_le hw hk hi
  obtain ⟨hfc, htg, hfo⟩ := hw.2 i hi
  refine lv_aload_n hx hb dX0_sizeOf_0 rfl (lv_at hl 0 rfl) ?_
  refine va_get (D := D) (ci := 0) (v := .ref (q 7)) (C := RX0) (T := TX0) (N := 10) hx hb hts hin hown hK hP 0 rfl rfl 6 (by decide) hf28 (fun _ h9 => h9) rfl dX0_sizeOf_1 ?_
  refine lv_iload_n hx hb dX0_sizeOf_4 rfl (lv_at hl 1 rfl) ?_
  refine gi_aldI hx hb hK hP 7 0 ch rfl rfl (by omega) (by decide) dX0_sizeOf_5 ?_
  refine gi_top (y := (gf_c fc nw i)) (hch) ?_
  refine lv_iconst (v := -1) hx hb dX0_sizeOf_6 (by decide) ?_
  refine lv_icmp_ne (tgt := 14) hx hb dX0_sizeOf_7 rfl (fun h7 => ?_) (fun h7 => ?_)
  · have hz : fc i ≠ 0 := gf_c_1 h7
    have hfi := hfo (nw i) ((hk i hi).2 hz)
    refine lv_aload_n hx hb dX0_sizeOf_14 rfl (lv_at hl 0 rfl) ?_
    refine va_get (D := D) (ci := 0) (v := .ref (q 1)) (C := RX0) (T := TX0) (N := 10) hx hb hts hin hown hK hP 0 rfl rfl 0 (by decide) hf9 (fun _ h9 => h9) rfl dX0_sizeOf_15 ?_
    refine lv_iload_n hx hb dX0_sizeOf_18 rfl (lv_at hl 1 rfl) ?_
    refine lv_aload_n hx hb dX0_sizeOf_19 rfl (lv_at hl 0 rfl) ?_
    refine va_get (D := D) (ci := 0) (v := .ref (q 7)) (C := RX0) (T := TX0) (N := 10) hx hb hts hin hown hK hP 0 rfl rfl 6 (by decide) hf28 (fun _ h9 => h9) rfl dX0_sizeOf_20 ?_
    refine lv_iload_n hx hb dX0_sizeOf_23 rfl (lv_at hl 1 rfl) ?_
    refine gi_aldI hx hb hK hP 7 0 ch rfl rfl (by omega) (by decide) dX0_sizeOf_24 ?_
    refine gi_top (y := (nI (nw i))) (hch.trans (gf_c_n hz)) ?_
    refine gi_goV (va_runS (As := [.int (nI (i)), .int (nI (nw i))]) (rest := [.ref (q 1)]) ⟨hx, hb, hml, hown, hts⟩ (c_X0_placeOf l D cA cB cL A ((xw q cA n st sz bt so fc ofs tg ch ad) ++ wr) i (nw i)) (va_cwS 2 hts gX0_sizeOf_X0_placeOf rfl rfl rfl (by decide +kernel) ⟨Nat.le_of_ble_eq_true rfl, Nat.le_of_ble_eq_true rfl⟩) (gi_preS hK hP hD) rfl rfl hl.1 rfl (lv_room (Nat.le_of_ble_eq_true rfl)) dX0_sizeOf_25 ⟨Nat.le_of_ble_eq_true rfl, Nat.le_of_ble_eq_true rfl⟩) hS (fun H locs hP hS => ?_)
    refine gi_ald hx hb hK hP 1 0 sz rfl rfl (by omega) (by decide) dX0_sizeOf_28 ?_
    exact gi_iret hx hb hlk hr dX0_sizeOf_29 (congrArg nI (if_neg hz).symm) hP hS
  · have hz : fc i = 0 := gf_c_0 (by omega) h7
    refine lv_iconst (v := nI (0)) hx hb dX0_sizeOf_10 (by decide) ?_
    refine lv_goto (tgt := 29) hx hb dX0_sizeOf_11 rfl ?_
    exact gi_iret hx hb hlk hr dX0_sizeOf_29 (congrArg nI (if_pos hz).symm) hP hS
set_option maxHeartbeats 4000000 in
set_option maxRecDepth 100000 in
theorem c_X0_isFromItsLine (l : Launch) (D : va_G) (cA cB cL : ClassId) (A : Nat → Prop) (wr : va_W) (q : Nat → Nat) (n : Nat) (st : Bool) (sz bt so fc : Nat → Nat) (ofs : Nat → Int32) (tg : Nat → Nat) (ch : Nat → Int32) (ad : Nat → Nat) (nw : Nat → Nat) (i : Nat) (hw : gf_wf n fc sz bt so tg) (hk : gf_nk n fc nw) (hi : i < n) (hch : ch i = gf_c fc nw i) : Met l yX0_isFromItsLine wsX0_isFromItsLine ({ frames := 1, cells := 0, slots := 0, locals := 21 }) (gPre D vwCl [(cA, .int), (cB, .boolean), (cL, .long)] ((xw q cA n st sz bt so fc ofs tg ch ad) ++ wr) A [.ref (q 0), .int (nI (i))]) (gPost (some (.int (bI (gf_ff fc so nw i)))) D vwCl ((xw q cA n st sz bt so fc ofs tg ch ad) ++ wr) A) 0 0 A := by
  refine Met.ofW (cc := cX0_isFromItsLine) (maxL := 2) (ret := (some .boolean)) (by decide) rfl ?_
  intro p e s m args below meth c s₁ B hml hv
  obtain ⟨rfl, hP, hK, hD⟩ := hv
  have hx := B.exec
  have hb := B.bytes
  have hr := B.returns
  have hlk := B.notSynchronized
  have hts := atoms_spec (ws := wsX0_isFromItsLine) B.pre
  have hown : s.vm.findClass RX0 = some m.cls := findClass_of_methodNamed B.named
  have hS : va_S A s.heap s.heap [] := va_S.rf
  have hl := lv_entry ([.ref (q 0), .int (nI (i))]) (n := 2) (Nat.le_of_ble_eq_true rfl)
  rw [lg_entry_eq]
  generalize (lg_sl ([.ref (q 0), .int (nI (i))]) ++ List.replicate (2 - (lg_sl ([.ref (q 0), .int (nI (i))])).length) Slot.unset).toArray = ls at hl ⊢
  have hl : lv_has ls 2 [(0, .ref (q 0)), (1, .int (nI (i)))] := hl
  have hin : ∀ w ∈ u_ws RX0 TX0 10, w ∈ wsX0_isFromItsLine := fun w h => List.mem_cons_of_mem _ (inTX0 w h)
  have hf16 := hts _ (List.mem_cons_of_mem _ tfX0_16)
  have hf28 := hts _ (List.mem_cons_of_mem _ tfX0_28)
  have hn := hw.1
  have hn3 := gf_nk_le hw hk hi
  obtain ⟨hfc, htg, hfo⟩ := hw.2 i hi
  refine lv_aload_n hx hb dX0_isFromItsLine_0 rfl (lv_at hl 0 rfl) ?_
  refine va_get (D := D) (ci := 0) (v := .ref (q 7)) (C := RX0) (T := TX0) (N := 10) hx hb hts hin hown hK hP 0 rfl rfl 6 (by decide) hf28 (fun _ h9 => h9) rfl dX0_isFromItsLine_1 ?_
  refine lv_iload_n hx hb dX0_isFromItsLine_4 rfl (lv_at hl 1 rfl) ?_
  refine gi_aldI hx hb hK hP 7 0 ch rfl rfl (by omega) (by decide) dX0_isFromItsLine_5 ?_
  refine gi_top (y := (gf_c fc nw i)) (hch) ?_
  refine lv_iconst (v := -1) hx hb dX0_isFromItsLine_6 (by decide) ?_
  refine lv_icmp_eq (tgt := 33) hx hb dX0_isFromItsLine_7 rfl (fun h7 => ?_) (fun h7 => ?_)
  · refine lv_iconst (v := nI (0)) hx hb dX0_isFromItsLine_33 (by decide) ?_
    exact gi_zret hx hb hlk hr dX0_isFromItsLine_34 (bR_f (show gf_ff fc so nw i = false from decide_eq_false (fun z9 => z9.1 (gf_c_0 (by omega) h7)))) hP hS
  · have hz : fc i ≠ 0 := gf_c_1 h7
    have hfi := hfo (nw i) ((hk i hi).2 hz)
    refine lv_aload_n hx hb dX0_isFromItsLine_10 rfl (lv_at hl 0 rfl) ?_
    refine va_get (D := D) (ci := 0) (v := .ref (q 3)) (C := RX0) (T := TX0) (N := 10) hx hb hts hin hown hK hP 0 rfl rfl 2 (by decide) hf16 (fun _ h9 => h9) rfl dX0_isFromItsLine_11 ?_
    refine lv_iload_n hx hb dX0_isFromItsLine_14 rfl (lv_at hl 1 rfl) ?_
    refine lv_aload_n hx hb dX0_isFromItsLine_15 rfl (lv_at hl 0 rfl) ?_
    refine va_get (D := D) (ci := 0) (v := .ref (q 7)) (C := RX0) (T := TX0) (N := 10) hx hb hts hin hown hK hP 0 rfl rfl 6 (by decide) hf28 (fun _ h9 => h9) rfl dX0_isFromItsLine_16 ?_
    refine lv_iload_n hx hb dX0_isFromItsLine_19 rfl (lv_at hl 1 rfl) ?_
    refine gi_aldI hx hb hK hP 7 0 ch rfl rfl (by omega) (by decide) dX0_isFromItsLine_20 ?_
    refine gi_top (y := (nI (nw i))) (hch.trans (gf_c_n hz)) ?_
    refine gi_goV (va_runS (As := [.int (nI (i)), .int (nI (nw i))]) (rest := [.ref (q 3)]) ⟨hx, hb, hml, hown, hts⟩ (c_X0_placeOf l D cA cB cL A ((xw q cA n st sz bt so fc ofs tg ch ad) ++ wr) i (nw i)) (va_cwS 2 hts gX0_isFromItsLine_X0_placeOf rfl rfl rfl (by decide +kernel) ⟨Nat.le_of_ble_eq_true rfl, Nat.le_of_ble_eq_true rfl⟩) (gi_preS hK hP hD) rfl rfl hl.1 rfl (lv_room (Nat.le_of_ble_eq_true rfl)) dX0_isFromItsLine_21 ⟨Nat.le_of_ble_eq_true rfl, Nat.le_of_ble_eq_true rfl⟩) hS (fun H locs hP hS => ?_)
    refine gi_ald hx hb hK hP 3 0 so rfl rfl (by omega) (by decide) dX0_isFromItsLine_24 ?_
    refine lv_iconst (v := nI (2)) hx hb dX0_isFromItsLine_25 (by decide) ?_
    refine gi_icmp_ne (tgt := 33) hx hb (by omega) (by omega) dX0_isFromItsLine_26 rfl (fun h26 => ?_) (fun h26 => ?_)
    · refine lv_iconst (v := nI (0)) hx hb dX0_isFromItsLine_33 (by decide) ?_
      exact gi_zret hx hb hlk hr dX0_isFromItsLine_34 (bR_f (show gf_ff fc so nw i = false from decide_eq_false (fun z9 => h26 z9.2))) hP hS
    · refine lv_iconst (v := nI (1)) hx hb dX0_isFromItsLine_29 (by decide) ?_
      refine lv_goto (tgt := 34) hx hb dX0_isFromItsLine_30 rfl ?_
      exact gi_zret hx hb hlk hr dX0_isFromItsLine_34 (bR_t (show gf_ff fc so nw i = true from decide_eq_true ⟨hz, h26⟩)) hP hS
set_option maxHeartbeats 4000000 in
set_option maxRecDepth 100000 in
theorem c_X0_valueOf (l : Launch) (D : va_G) (cA cB cL : ClassId) (A : Nat → Prop) (wr : va_W) (q : Nat → Nat) (n : Nat) (st : Bool) (sz bt so fc : Nat → Nat) (ofs : Nat → Int32) (tg : Nat → Nat) (ch : Nat → Int32) (ad : Nat → Nat) (nw : Nat → Nat) (i : Nat) (hw : gf_wf n fc sz bt so tg) (hk : gf_nk n fc nw) (hi : i < n) (hch : ch i = gf_c fc nw i) (had : ∀ j, j ≤ n → ad j = gf_ad fc sz nw j) : Met l yX0_valueOf wsX0_valueOf ({ frames := 2, cells := 0, slots := 0, locals := 42 }) (gPre D vwCl [(cA, .int), (cB, .boolean), (cL, .long)] ((xw q cA n st sz bt so fc ofs tg ch ad) ++ wr) A [.ref (q 0), .int (nI (i))]) (gPost (some (.long (gf_va fc sz so tg ofs nw i))) D vwCl ((xw q cA n st sz bt so fc ofs tg ch ad) ++ wr) A) 0 0 A := by
  refine Met.ofW (cc := cX0_valueOf) (maxL := 4) (ret := (some .long)) (by decide) rfl ?_
  intro p e s m args below meth c s₁ B hml hv
  obtain ⟨rfl, hP, hK, hD⟩ := hv
  have hx := B.exec
  have hb := B.bytes
  have hr := B.returns
  have hlk := B.notSynchronized
  have hts := atoms_spec (ws := wsX0_valueOf) B.pre
  have hown : s.vm.findClass RX0 = some m.cls := findClass_of_methodNamed B.named
  have hS : va_S A s.heap s.heap [] := va_S.rf
  have hl := lv_entry ([.ref (q 0), .int (nI (i))]) (n := 4) (Nat.le_of_ble_eq_true rfl)
  rw [lg_entry_eq]
  generalize (lg_sl ([.ref (q 0), .int (nI (i))]) ++ List.replicate (4 - (lg_sl ([.ref (q 0), .int (nI (i))])).length) Slot.unset).toArray = ls at hl ⊢
  have hl : lv_has ls 4 [(0, .ref (q 0)), (1, .int (nI (i)))] := hl
  have hin : ∀ w ∈ u_ws RX0 TX0 10, w ∈ wsX0_valueOf := fun w h => List.mem_cons_of_mem _ (inTX0 w h)
  have hf22 := hts _ (List.mem_cons_of_mem _ tfX0_22)
  have hf25 := hts _ (List.mem_cons_of_mem _ tfX0_25)
  have hf31 := hts _ (List.mem_cons_of_mem _ tfX0_31)
  have hn := hw.1
  have hn3 := gf_nk_le hw hk hi
  obtain ⟨hfc, htg, hfo⟩ := hw.2 i hi
  have ha1 := gf_ad_le hw hk (tg i) htg
  have ha2 := gf_ad_le hw hk i (by omega)
  refine lv_aload_n hx hb dX0_valueOf_0 rfl (lv_at hl 0 rfl) ?_
  refine va_get (D := D) (ci := 0) (v := .ref (q 8)) (C := RX0) (T := TX0) (N := 10) hx hb hts hin hown hK hP 0 rfl rfl 7 (by decide) hf31 (fun _ h9 => h9) rfl dX0_valueOf_1 ?_
  refine lv_aload_n hx hb dX0_valueOf_4 rfl (lv_at hl 0 rfl) ?_
  refine va_get (D := D) (ci := 0) (v := .ref (q 6)) (C := RX0) (T := TX0) (N := 10) hx hb hts hin hown hK hP 0 rfl rfl 5 (by decide) hf25 (fun _ h9 => h9) rfl dX0_valueOf_5 ?_
  refine lv_iload_n hx hb dX0_valueOf_8 rfl (lv_at hl 1 rfl) ?_
  refine gi_ald hx hb hK hP 6 0 tg rfl rfl (by omega) (by decide) dX0_valueOf_9 ?_
  refine gi_ald hx hb hK hP 8 0 ad rfl rfl (by omega) (by decide) dX0_valueOf_10 ?_
  refine gi_top (y := (nI (gf_ad fc sz nw (tg i)))) (congrArg nI (had _ htg)) ?_
  refine lv_i2l (v := lN (gf_ad fc sz nw (tg i))) hx hb dX0_valueOf_11 (lN_of (by omega)) ?_
  refine lv_aload_n hx hb dX0_valueOf_12 rfl (lv_at hl 0 rfl) ?_
  refine va_get (D := D) (ci := 0) (v := .ref (q 5)) (C := RX0) (T := TX0) (N := 10) hx hb hts hin hown hK hP 0 rfl rfl 4 (by decide) hf22 (fun _ h9 => h9) rfl dX0_valueOf_13 ?_
  refine lv_iload_n hx hb dX0_valueOf_16 rfl (lv_at hl 1 rfl) ?_
  refine gi_aldI hx hb hK hP 5 0 ofs rfl rfl (by omega) (by decide) dX0_valueOf_17 ?_
  refine lv_i2l (v := ((ofs i)).toInt64) hx hb dX0_valueOf_18 rfl ?_
  refine lv_ladd hx hb dX0_valueOf_19 ?_
  refine lv_lstore_n (lv' := [(2, .long ((lN (gf_ad fc sz nw (tg i))) + (((ofs i)).toInt64))), (0, .ref (q 0)), (1, .int (nI (i)))]) hx hb dX0_valueOf_20 rfl hl (by decide) rfl (fun ls hl => ?_)
  refine lv_aload_n hx hb dX0_valueOf_21 rfl (lv_at hl 1 rfl) ?_
  refine lv_iload_n hx hb dX0_valueOf_22 rfl (lv_at hl 2 rfl) ?_
  refine gi_goV (va_runV (As := [.int (nI (i))]) (rest := []) ⟨hx, hb, hml, hown, hts⟩ (c_X0_isFromItsLine l D cA cB cL A wr q n st sz bt so fc ofs tg ch ad nw i hw hk hi hch) (cwV 1 hts gX0_valueOf_X0_isFromItsLine rfl rfl rfl (by decide +kernel) ⟨Nat.le_of_ble_eq_true rfl, Nat.le_of_ble_eq_true rfl⟩) (gi_preV (q0 := 0) hK hP hD rfl rfl rfl) rfl rfl hl.1 rfl (lv_room (Nat.le_of_ble_eq_true rfl)) dX0_valueOf_23 ⟨Nat.le_of_ble_eq_true rfl, Nat.le_of_ble_eq_true rfl⟩) hS (fun H locs hP hS => ?_)
  refine gi_if_eqb (tgt := 41) hx hb dX0_valueOf_26 rfl (fun h26 => ?_) (fun h26 => ?_)
  · refine lv_lload_n hx hb dX0_valueOf_41 rfl (lv_at hl 0 rfl) ?_
    exact gi_lret hx hb hlk hr dX0_valueOf_42 ((if_neg (of_decide_eq_false (show decide (fc i ≠ 0 ∧ so (4 * i + nw i) = 2) = false from h26))).symm) hP hS
  · refine lv_lload_n hx hb dX0_valueOf_29 rfl (lv_at hl 0 rfl) ?_
    refine lv_aload_n hx hb dX0_valueOf_30 rfl (lv_at hl 1 rfl) ?_
    refine va_get (D := D) (ci := 0) (v := .ref (q 8)) (C := RX0) (T := TX0) (N := 10) hx hb hts hin hown hK hP 0 rfl rfl 7 (by decide) hf31 (fun _ h9 => h9) rfl dX0_valueOf_31 ?_
    refine lv_iload_n hx hb dX0_valueOf_34 rfl (lv_at hl 2 rfl) ?_
    refine gi_ald hx hb hK hP 8 0 ad rfl rfl (by omega) (by decide) dX0_valueOf_35 ?_
    refine gi_top (y := (nI (gf_ad fc sz nw i))) (congrArg nI (had i (by omega))) ?_
    refine lv_i2l (v := lN (gf_ad fc sz nw i)) hx hb dX0_valueOf_36 (lN_of (by omega)) ?_
    refine lv_lsub hx hb dX0_valueOf_37 ?_
    refine lv_goto (tgt := 42) hx hb dX0_valueOf_38 rfl ?_
    exact gi_lret hx hb hlk hr dX0_valueOf_42 ((if_pos (of_decide_eq_true (show decide (fc i ≠ 0 ∧ so (4 * i + nw i) = 2) = true from h26))).symm) hP hS
set_option maxHeartbeats 4000000 in
set_option maxRecDepth 100000 in
theorem c_X0_isFitting (l : Launch) (D : va_G) (cA cB cL : ClassId) (A : Nat → Prop) (wr : va_W) (q : Nat → Nat) (n : Nat) (st : Bool) (sz bt so fc : Nat → Nat) (ofs : Nat → Int32) (tg : Nat → Nat) (ch : Nat → Int32) (ad : Nat → Nat) (nw : Nat → Nat) (i : Nat) (hw : gf_wf n fc sz bt so tg) (hk : gf_nk n fc nw) (hi : i < n) (hch : ch i = gf_c fc nw i) (had : ∀ j, j ≤ n → ad j = gf_ad fc sz nw j) : Met l yX0_isFitting wsX0_isFitting ({ frames := 3, cells := 0, slots := 0, locals := 65 }) (gPre D vwCl [(cA, .int), (cB, .boolean), (cL, .long)] ((xw q cA n st sz bt so fc ofs tg ch ad) ++ wr) A [.ref (q 0), .int (nI (i))]) (gPost (some (.int (bI (gf_fit fc sz bt so tg ofs nw i)))) D vwCl ((xw q cA n st sz bt so fc ofs tg ch ad) ++ wr) A) 0 0 A := by
  refine Met.ofW (cc := cX0_isFitting) (maxL := 7) (ret := (some .boolean)) (by decide) rfl ?_
  intro p e s m args below meth c s₁ B hml hv
  obtain ⟨rfl, hP, hK, hD⟩ := hv
  have hx := B.exec
  have hb := B.bytes
  have hr := B.returns
  have hlk := B.notSynchronized
  have hts := atoms_spec (ws := wsX0_isFitting) B.pre
  have hown : s.vm.findClass RX0 = some m.cls := findClass_of_methodNamed B.named
  have hS : va_S A s.heap s.heap [] := va_S.rf
  have hl := lv_entry ([.ref (q 0), .int (nI (i))]) (n := 7) (Nat.le_of_ble_eq_true rfl)
  rw [lg_entry_eq]
  generalize (lg_sl ([.ref (q 0), .int (nI (i))]) ++ List.replicate (7 - (lg_sl ([.ref (q 0), .int (nI (i))])).length) Slot.unset).toArray = ls at hl ⊢
  have hl : lv_has ls 7 [(0, .ref (q 0)), (1, .int (nI (i)))] := hl
  have hin : ∀ w ∈ u_ws RX0 TX0 10, w ∈ wsX0_isFitting := fun w h => List.mem_cons_of_mem _ (inTX0 w h)
  have hf13 := hts _ (List.mem_cons_of_mem _ tfX0_13)
  have hf16 := hts _ (List.mem_cons_of_mem _ tfX0_16)
  have hf28 := hts _ (List.mem_cons_of_mem _ tfX0_28)
  have hn := hw.1
  have hn3 := gf_nk_le hw hk hi
  obtain ⟨hfc, htg, hfo⟩ := hw.2 i hi
  have ha1 := gf_ad_le hw hk (tg i) htg
  have ha2 := gf_ad_le hw hk i (by omega)
  refine lv_aload_n hx hb dX0_isFitting_0 rfl (lv_at hl 0 rfl) ?_
  refine va_get (D := D) (ci := 0) (v := .ref (q 7)) (C := RX0) (T := TX0) (N := 10) hx hb hts hin hown hK hP 0 rfl rfl 6 (by decide) hf28 (fun _ h9 => h9) rfl dX0_isFitting_1 ?_
  refine lv_iload_n hx hb dX0_isFitting_4 rfl (lv_at hl 1 rfl) ?_
  refine gi_aldI hx hb hK hP 7 0 ch rfl rfl (by omega) (by decide) dX0_isFitting_5 ?_
  refine gi_top (y := (gf_c fc nw i)) (hch) ?_
  refine lv_iconst (v := -1) hx hb dX0_isFitting_6 (by decide) ?_
  refine lv_icmp_ne (tgt := 12) hx hb dX0_isFitting_7 rfl (fun h7 => ?_) (fun h7 => ?_)
  · have hz : fc i ≠ 0 := gf_c_1 h7
    have hfi := hfo (nw i) ((hk i hi).2 hz)
    refine lv_iload_n hx hb dX0_isFitting_12 rfl (lv_at hl 1 rfl) ?_
    refine lv_aload_n hx hb dX0_isFitting_13 rfl (lv_at hl 0 rfl) ?_
    refine va_get (D := D) (ci := 0) (v := .ref (q 7)) (C := RX0) (T := TX0) (N := 10) hx hb hts hin hown hK hP 0 rfl rfl 6 (by decide) hf28 (fun _ h9 => h9) rfl dX0_isFitting_14 ?_
    refine lv_iload_n hx hb dX0_isFitting_17 rfl (lv_at hl 1 rfl) ?_
    refine gi_aldI hx hb hK hP 7 0 ch rfl rfl (by omega) (by decide) dX0_isFitting_18 ?_
    refine gi_top (y := (nI (nw i))) (hch.trans (gf_c_n hz)) ?_
    refine gi_goV (va_runS (As := [.int (nI (i)), .int (nI (nw i))]) (rest := []) ⟨hx, hb, hml, hown, hts⟩ (c_X0_placeOf l D cA cB cL A ((xw q cA n st sz bt so fc ofs tg ch ad) ++ wr) i (nw i)) (va_cwS 2 hts gX0_isFitting_X0_placeOf rfl rfl rfl (by decide +kernel) ⟨Nat.le_of_ble_eq_true rfl, Nat.le_of_ble_eq_true rfl⟩) (gi_preS hK hP hD) rfl rfl hl.1 rfl (lv_room (Nat.le_of_ble_eq_true rfl)) dX0_isFitting_19 ⟨Nat.le_of_ble_eq_true rfl, Nat.le_of_ble_eq_true rfl⟩) hS (fun H locs hP hS => ?_)
    refine lv_istore_n (lv' := [(2, .int (nI (4 * i + (nw i)))), (0, .ref (q 0)), (1, .int (nI (i)))]) hx hb dX0_isFitting_22 rfl hl (by decide) rfl (fun ls hl => ?_)
    refine lv_aload_n hx hb dX0_isFitting_23 rfl (lv_at hl 1 rfl) ?_
    refine lv_iload_n hx hb dX0_isFitting_24 rfl (lv_at hl 2 rfl) ?_
    refine gi_goV (va_runV (As := [.int (nI (i))]) (rest := []) ⟨hx, hb, hml, hown, hts⟩ (c_X0_valueOf l D cA cB cL A wr q n st sz bt so fc ofs tg ch ad nw i hw hk hi hch had) (cwV 1 hts gX0_isFitting_X0_valueOf rfl rfl rfl (by decide +kernel) ⟨Nat.le_of_ble_eq_true rfl, Nat.le_of_ble_eq_true rfl⟩) (gi_preV (q0 := 0) hK hP hD rfl rfl rfl) rfl rfl hl.1 rfl (lv_room (Nat.le_of_ble_eq_true rfl)) dX0_isFitting_25 ⟨Nat.le_of_ble_eq_true rfl, Nat.le_of_ble_eq_true rfl⟩) hS (fun H locs hP hS => ?_)
    refine lv_lstore_n (lv' := [(3, .long (gf_va fc sz so tg ofs nw i)), (2, .int (nI (4 * i + (nw i)))), (0, .ref (q 0)), (1, .int (nI (i)))]) hx hb dX0_isFitting_28 rfl hl (by decide) rfl (fun ls hl => ?_)
    refine lv_aload_n hx hb dX0_isFitting_29 rfl (lv_at hl 2 rfl) ?_
    refine va_get (D := D) (ci := 0) (v := .ref (q 3)) (C := RX0) (T := TX0) (N := 10) hx hb hts hin hown hK hP 0 rfl rfl 2 (by decide) hf16 (fun _ h9 => h9) rfl dX0_isFitting_30 ?_
    refine lv_iload_n hx hb dX0_isFitting_33 rfl (lv_at hl 1 rfl) ?_
    refine gi_ald hx hb hK hP 3 0 so rfl rfl (by omega) (by decide) dX0_isFitting_34 ?_
    refine gi_if_ne (tgt := 63) hx hb (by omega) dX0_isFitting_35 rfl (fun h35 => ?_) (fun h35 => ?_)
    · refine lv_lconst (v := 1) hx hb dX0_isFitting_63 (by decide) ?_
      refine lv_aload_n hx hb dX0_isFitting_64 rfl (lv_at hl 2 rfl) ?_
      refine va_get (D := D) (ci := 0) (v := .ref (q 2)) (C := RX0) (T := TX0) (N := 10) hx hb hts hin hown hK hP 0 rfl rfl 1 (by decide) hf13 (fun _ h9 => h9) rfl dX0_isFitting_65 ?_
      refine lv_iload_n hx hb dX0_isFitting_68 rfl (lv_at hl 1 rfl) ?_
      refine gi_ald hx hb hK hP 2 0 bt rfl rfl (by omega) (by decide) dX0_isFitting_69 ?_
      refine lv_iconst (v := nI (1)) hx hb dX0_isFitting_70 (by decide) ?_
      refine gi_isub hx hb (bt (4 * i + (nw i)) - 1) (by omega) dX0_isFitting_71 ?_
      refine lv_lshl (v := gf_sh (bt (4 * i + (nw i)) - 1)) hx hb dX0_isFitting_72 rfl ?_
      refine lv_lstore (lv' := [(5, .long (gf_sh (bt (4 * i + (nw i)) - 1))), (3, .long (gf_va fc sz so tg ofs nw i)), (2, .int (nI (4 * i + (nw i)))), (0, .ref (q 0)), (1, .int (nI (i)))]) hx hb dX0_isFitting_73 hl (by decide) rfl (fun ls hl => ?_)
      refine lv_lload_n hx hb dX0_isFitting_75 rfl (lv_at hl 1 rfl) ?_
      refine lv_lload hx hb dX0_isFitting_76 (lv_at hl 0 rfl) ?_
      refine lv_lneg hx hb dX0_isFitting_78 ?_
      refine gi_lcmp hx hb dX0_isFitting_79 ?_
      refine gi_lif_lt (tgt := 94) hx hb dX0_isFitting_80 rfl (fun h80 => ?_) (fun h80 => ?_)
      · refine lv_iconst (v := nI (0)) hx hb dX0_isFitting_94 (by decide) ?_
        exact gi_zret hx hb hlk hr dX0_isFitting_95 (bR_f (show gf_fit fc sz bt so tg ofs nw i = false from (gf_fit_1 hz).trans ((if_neg h35).trans (and_f1 (decide_eq_false (fun z9 => z9 h80)))))) hP hS
      · refine lv_lload_n hx hb dX0_isFitting_83 rfl (lv_at hl 1 rfl) ?_
        refine lv_lload hx hb dX0_isFitting_84 (lv_at hl 0 rfl) ?_
        refine gi_lcmp hx hb dX0_isFitting_86 ?_
        refine gi_lif_ge (tgt := 94) hx hb dX0_isFitting_87 rfl (fun h87 => ?_) (fun h87 => ?_)
        · refine lv_iconst (v := nI (0)) hx hb dX0_isFitting_94 (by decide) ?_
          exact gi_zret hx hb hlk hr dX0_isFitting_95 (bR_f (show gf_fit fc sz bt so tg ofs nw i = false from (gf_fit_1 hz).trans ((if_neg h35).trans (and_f2 (decide_eq_false (fun z9 => z9 h87)))))) hP hS
        · refine lv_iconst (v := nI (1)) hx hb dX0_isFitting_90 (by decide) ?_
          refine lv_goto (tgt := 95) hx hb dX0_isFitting_91 rfl ?_
          exact gi_zret hx hb hlk hr dX0_isFitting_95 (bR_t (show gf_fit fc sz bt so tg ofs nw i = true from (gf_fit_1 hz).trans ((if_neg h35).trans (and_tt (decide_eq_true h80) (decide_eq_true h87))))) hP hS
    · refine lv_lload_n hx hb dX0_isFitting_38 rfl (lv_at hl 0 rfl) ?_
      refine lv_lconst (v := 0) hx hb dX0_isFitting_39 (by decide) ?_
      refine gi_lcmp hx hb dX0_isFitting_40 ?_
      refine gi_lif_lt (tgt := 61) hx hb dX0_isFitting_41 rfl (fun h41 => ?_) (fun h41 => ?_)
      · refine lv_iconst (v := nI (0)) hx hb dX0_isFitting_61 (by decide) ?_
        exact gi_zret hx hb hlk hr dX0_isFitting_62 (bR_f (show gf_fit fc sz bt so tg ofs nw i = false from (gf_fit_1 hz).trans ((if_pos h35).trans (and_f1 (decide_eq_false (fun z9 => z9 h41)))))) hP hS
      · refine lv_lload_n hx hb dX0_isFitting_44 rfl (lv_at hl 0 rfl) ?_
        refine lv_lconst (v := 1) hx hb dX0_isFitting_45 (by decide) ?_
        refine lv_aload_n hx hb dX0_isFitting_46 rfl (lv_at hl 2 rfl) ?_
        refine va_get (D := D) (ci := 0) (v := .ref (q 2)) (C := RX0) (T := TX0) (N := 10) hx hb hts hin hown hK hP 0 rfl rfl 1 (by decide) hf13 (fun _ h9 => h9) rfl dX0_isFitting_47 ?_
        refine lv_iload_n hx hb dX0_isFitting_50 rfl (lv_at hl 1 rfl) ?_
        refine gi_ald hx hb hK hP 2 0 bt rfl rfl (by omega) (by decide) dX0_isFitting_51 ?_
        refine lv_lshl (v := gf_sh (bt (4 * i + (nw i)))) hx hb dX0_isFitting_52 rfl ?_
        refine gi_lcmp hx hb dX0_isFitting_53 ?_
        refine gi_lif_ge (tgt := 61) hx hb dX0_isFitting_54 rfl (fun h54 => ?_) (fun h54 => ?_)
        · refine lv_iconst (v := nI (0)) hx hb dX0_isFitting_61 (by decide) ?_
          exact gi_zret hx hb hlk hr dX0_isFitting_62 (bR_f (show gf_fit fc sz bt so tg ofs nw i = false from (gf_fit_1 hz).trans ((if_pos h35).trans (and_f2 (decide_eq_false (fun z9 => z9 h54)))))) hP hS
        · refine lv_iconst (v := nI (1)) hx hb dX0_isFitting_57 (by decide) ?_
          refine lv_goto (tgt := 62) hx hb dX0_isFitting_58 rfl ?_
          exact gi_zret hx hb hlk hr dX0_isFitting_62 (bR_t (show gf_fit fc sz bt so tg ofs nw i = true from (gf_fit_1 hz).trans ((if_pos h35).trans (and_tt (decide_eq_true h41) (decide_eq_true h54))))) hP hS
  · have hz : fc i = 0 := gf_c_0 (by omega) h7
    refine lv_iconst (v := nI (1)) hx hb dX0_isFitting_10 (by decide) ?_
    exact gi_zret hx hb hlk hr dX0_isFitting_11 (bR_t (show gf_fit fc sz bt so tg ofs nw i = true from gf_fit_0 hz)) hP hS
