set_option maxHeartbeats 4000000 in
set_option maxRecDepth 100000 in
theorem c_X1_address (l : Launch) (D : va_G) (cA cB cL : ClassId) (A : Nat → Prop) (wr : va_W) (q : Nat → Nat) (n th : Nat) (st : Bool) (sz bt so fc : Nat → Nat) (ofs : Nat → Int32) (tg nw : Nat → Nat) (gr : Nat → Int32) (z : Nat) (hw : gf_wf n fc sz bt so tg) (hk : gf_nk n fc nw) (hz : z ≤ n) : Met l yX1_address wsX1_address ({ frames := 0, cells := 0, slots := 0, locals := 0 }) (gPre D vwCl [(cA, .int), (cB, .boolean), (cL, .long)] ((mw q cA cB n th st sz bt so fc ofs tg nw gr) ++ wr) A [.ref (q 0), .int (nI (z))]) (gPost (some (.int (nI (gf_ad fc sz nw z)))) D vwCl ((mw q cA cB n th st sz bt so fc ofs tg nw gr) ++ wr) A) 0 0 A := by
  refine Met.ofW (cc := cX1_address) (maxL := 4) (ret := (some .int)) (by decide) rfl ?_
  intro p e s m args below meth c s₁ B hml hv
  obtain ⟨rfl, hP, hK, hD⟩ := hv
  have hx := B.exec
  have hb := B.bytes
  have hr := B.returns
  have hlk := B.notSynchronized
  have hts := atoms_spec (ws := wsX1_address) B.pre
  have hown : s.vm.findClass RX1 = some m.cls := findClass_of_methodNamed B.named
  have hS : va_S A s.heap s.heap [] := va_S.rf
  have hl := lv_entry ([.ref (q 0), .int (nI (z))]) (n := 4) (Nat.le_of_ble_eq_true rfl)
  rw [lg_entry_eq]
  generalize (lg_sl ([.ref (q 0), .int (nI (z))]) ++ List.replicate (4 - (lg_sl ([.ref (q 0), .int (nI (z))])).length) Slot.unset).toArray = ls at hl ⊢
  have hl : lv_has ls 4 [(0, .ref (q 0)), (1, .int (nI (z)))] := hl
  have hin : ∀ w ∈ u_ws RX1 TX1 11, w ∈ wsX1_address := fun w h => List.mem_cons_of_mem _ (inTX1 w h)
  have hf9 := hts _ (List.mem_cons_of_mem _ tfX1_9)
  have hf13 := hts _ (List.mem_cons_of_mem _ tfX1_13)
  have hf28 := hts _ (List.mem_cons_of_mem _ tfX1_28)
  have hn := hw.1
  refine lv_iconst (v := nI (0)) hx hb dX1_address_0 (by decide) ?_
  refine lv_istore_n (lv' := [(2, .int (nI (0))), (0, .ref (q 0)), (1, .int (nI (z)))]) hx hb dX1_address_1 rfl hl (by decide) rfl (fun ls hl => ?_)
  refine lv_iconst (v := nI (0)) hx hb dX1_address_2 (by decide) ?_
  refine lv_istore_n (lv' := [(3, .int (nI (0))), (2, .int (nI (0))), (0, .ref (q 0)), (1, .int (nI (z)))]) hx hb dX1_address_3 rfl hl (by decide) rfl (fun ls hl => ?_)
  have loop : ∀ (k i : Nat), i + k = z → ∀ (H : Heap) (locs : List Loc) (ls : Array Slot), va_P D vwCl ((mw q cA cB n th st sz bt so fc ofs tg nw gr) ++ wr) H → va_S A s.heap H locs → lv_has ls 4 [(3, .int (nI (i))), (2, .int (nI (gf_ad fc sz nw (i)))), (0, .ref (q 0)), (1, .int (nI (z)))] → W p l e (headSpec wsX1_address ({ frames := 0, cells := 0, slots := 0, locals := 0 })).room s m ([.ref (q 0), .int (nI (z))] : List Value).toArray below meth c H locs 0 0 (MQ below (gPost (some (.int (nI (gf_ad fc sz nw z)))) D vwCl ((mw q cA cB n th st sz bt so fc ofs tg nw gr) ++ wr) A) ([.ref (q 0), .int (nI (z))] : List Value).toArray s 0 0 A) (F0 m 4 ls []) := by
    intro k
    induction k with
    | zero =>
      intro i hik H locs ls hP hS hl
      have h9 : z = i := by omega
      subst h9
      have hD : va_D A ((mw q cA cB n th st sz bt so fc ofs tg nw gr) ++ wr) := gD_same hD rfl
      refine lv_iload_n hx hb dX1_address_4 rfl (lv_at hl 0 rfl) ?_
      refine lv_iload_n hx hb dX1_address_5 rfl (lv_at hl 3 rfl) ?_
      refine gi_icmp_ge (tgt := 42) hx hb (by omega) (by omega) dX1_address_6 rfl (fun h6 => ?_) (fun h9 => absurd h9 (by omega))
      refine lv_iload_n hx hb dX1_address_42 rfl (lv_at hl 1 rfl) ?_
      exact gi_iret hx hb hlk hr dX1_address_43 (rfl) hP hS
    | succ k ih =>
      intro i hik H locs ls hP hS hl
      have hi : i < z := by omega
      have hD : va_D A ((mw q cA cB n th st sz bt so fc ofs tg nw gr) ++ wr) := gD_same hD rfl
      refine lv_iload_n hx hb dX1_address_4 rfl (lv_at hl 0 rfl) ?_
      refine lv_iload_n hx hb dX1_address_5 rfl (lv_at hl 3 rfl) ?_
      refine gi_icmp_ge (tgt := 42) hx hb (by omega) (by omega) dX1_address_6 rfl (fun h9 => absurd h9 (by omega)) (fun h6 => ?_)
      have hn3 := gf_nk_le hw hk (show i < n by omega)
      have hfb := (hw.2 i (show i < n by omega)).1
      refine lv_aload_n hx hb dX1_address_9 rfl (lv_at hl 2 rfl) ?_
      refine va_get (D := D) (ci := 1) (v := .ref (q 1)) (C := RX1) (T := TX1) (N := 11) hx hb hts hin hown hK hP 0 rfl rfl 0 (by decide) hf9 (fun _ h9 => h9) rfl dX1_address_10 ?_
      refine lv_iload_n hx hb dX1_address_13 rfl (lv_at hl 0 rfl) ?_
      refine gi_ald hx hb hK hP 1 0 fc rfl rfl (by omega) (by decide) dX1_address_14 ?_
      refine gi_if_le (tgt := 36) hx hb (by omega) dX1_address_15 rfl (fun h15 => ?_) (fun h15 => ?_)
      · refine lv_iinc (k := 0) (lv' := [(3, .int (nI (i + 1))), (2, .int (nI (gf_ad fc sz nw (i)))), (0, .ref (q 0)), (1, .int (nI (z)))]) hx hb dX1_address_36 hl rfl (gi_inc _) (by decide) rfl (fun ls hl => ?_)
        refine lv_goto (tgt := 4) hx hb dX1_address_39 rfl ?_
        rw [← gf_ad_z (sz := sz) (nw := nw) h15] at hl
        exact ih (i + 1) (by omega) H locs ls hP hS (lv_sub hl [0, 1, 2, 3] rfl)
      · refine lv_iload_n hx hb dX1_address_18 rfl (lv_at hl 1 rfl) ?_
        refine lv_aload_n hx hb dX1_address_19 rfl (lv_at hl 2 rfl) ?_
        refine va_get (D := D) (ci := 1) (v := .ref (q 2)) (C := RX1) (T := TX1) (N := 11) hx hb hts hin hown hK hP 0 rfl rfl 1 (by decide) hf13 (fun _ h9 => h9) rfl dX1_address_20 ?_
        refine lv_iconst (v := nI (4)) hx hb dX1_address_23 (by decide) ?_
        refine lv_iload_n hx hb dX1_address_24 rfl (lv_at hl 0 rfl) ?_
        refine gi_imul hx hb (4 * i) rfl dX1_address_25 ?_
        refine lv_aload_n hx hb dX1_address_26 rfl (lv_at hl 2 rfl) ?_
        refine va_get (D := D) (ci := 1) (v := .ref (q 7)) (C := RX1) (T := TX1) (N := 11) hx hb hts hin hown hK hP 0 rfl rfl 6 (by decide) hf28 (fun _ h9 => h9) rfl dX1_address_27 ?_
        refine lv_iload_n hx hb dX1_address_30 rfl (lv_at hl 0 rfl) ?_
        refine gi_ald hx hb hK hP 7 0 nw rfl rfl (by omega) (by decide) dX1_address_31 ?_
        refine gi_iadd hx hb (4 * i + (nw i)) rfl dX1_address_32 ?_
        refine gi_ald hx hb hK hP 2 0 sz rfl rfl (by omega) (by decide) dX1_address_33 ?_
        refine gi_iadd hx hb (gf_ad fc sz nw (i + 1)) (gf_ad_n h15) dX1_address_34 ?_
        refine lv_istore_n (lv' := [(2, .int (nI (gf_ad fc sz nw (i + 1)))), (3, .int (nI (i))), (0, .ref (q 0)), (1, .int (nI (z)))]) hx hb dX1_address_35 rfl hl (by decide) rfl (fun ls hl => ?_)
        refine lv_iinc (k := 1) (lv' := [(3, .int (nI (i + 1))), (2, .int (nI (gf_ad fc sz nw (i + 1)))), (0, .ref (q 0)), (1, .int (nI (z)))]) hx hb dX1_address_36 hl rfl (gi_inc _) (by decide) rfl (fun ls hl => ?_)
        refine lv_goto (tgt := 4) hx hb dX1_address_39 rfl ?_
        exact ih (i + 1) (by omega) H locs ls hP hS (lv_sub hl [0, 1, 2, 3] rfl)
  exact loop z 0 (by omega) _ _ _ hP hS (lv_sub hl [0, 1, 2, 3] rfl)
set_option maxHeartbeats 4000000 in
set_option maxRecDepth 100000 in
theorem c_X1_worth (l : Launch) (D : va_G) (cA cB cL : ClassId) (A : Nat → Prop) (wr : va_W) (q : Nat → Nat) (n th : Nat) (st : Bool) (sz bt so fc : Nat → Nat) (ofs : Nat → Int32) (tg nw : Nat → Nat) (gr : Nat → Int32) (i : Nat) (hw : gf_wf n fc sz bt so tg) (hk : gf_nk n fc nw) (hi : i < n) : Met l yX1_worth wsX1_worth ({ frames := 1, cells := 0, slots := 0, locals := 23 }) (gPre D vwCl [(cA, .int), (cB, .boolean), (cL, .long)] ((mw q cA cB n th st sz bt so fc ofs tg nw gr) ++ wr) A [.ref (q 0), .int (nI (i))]) (gPost (some (.long (gf_va fc sz so tg ofs nw i))) D vwCl ((mw q cA cB n th st sz bt so fc ofs tg nw gr) ++ wr) A) 0 0 A := by
  refine Met.ofW (cc := cX1_worth) (maxL := 4) (ret := (some .long)) (by decide) rfl ?_
  intro p e s m args below meth c s₁ B hml hv
  obtain ⟨rfl, hP, hK, hD⟩ := hv
  have hx := B.exec
  have hb := B.bytes
  have hr := B.returns
  have hlk := B.notSynchronized
  have hts := atoms_spec (ws := wsX1_worth) B.pre
  have hown : s.vm.findClass RX1 = some m.cls := findClass_of_methodNamed B.named
  have hS : va_S A s.heap s.heap [] := va_S.rf
  have hl := lv_entry ([.ref (q 0), .int (nI (i))]) (n := 4) (Nat.le_of_ble_eq_true rfl)
  rw [lg_entry_eq]
  generalize (lg_sl ([.ref (q 0), .int (nI (i))]) ++ List.replicate (4 - (lg_sl ([.ref (q 0), .int (nI (i))])).length) Slot.unset).toArray = ls at hl ⊢
  have hl : lv_has ls 4 [(0, .ref (q 0)), (1, .int (nI (i)))] := hl
  have hin : ∀ w ∈ u_ws RX1 TX1 11, w ∈ wsX1_worth := fun w h => List.mem_cons_of_mem _ (inTX1 w h)
  have hf9 := hts _ (List.mem_cons_of_mem _ tfX1_9)
  have hf19 := hts _ (List.mem_cons_of_mem _ tfX1_19)
  have hf22 := hts _ (List.mem_cons_of_mem _ tfX1_22)
  have hf25 := hts _ (List.mem_cons_of_mem _ tfX1_25)
  have hf28 := hts _ (List.mem_cons_of_mem _ tfX1_28)
  have hn := hw.1
  have hn3 := gf_nk_le hw hk hi
  obtain ⟨hfc, htg, hfo⟩ := hw.2 i hi
  have ha1 := gf_ad_le hw hk (tg i) htg
  have ha2 := gf_ad_le hw hk i (by omega)
  refine lv_aload_n hx hb dX1_worth_0 rfl (lv_at hl 0 rfl) ?_
  refine lv_aload_n hx hb dX1_worth_1 rfl (lv_at hl 0 rfl) ?_
  refine va_get (D := D) (ci := 1) (v := .ref (q 5)) (C := RX1) (T := TX1) (N := 11) hx hb hts hin hown hK hP 0 rfl rfl 4 (by decide) hf22 (fun _ h9 => h9) rfl dX1_worth_2 ?_
  refine lv_iload_n hx hb dX1_worth_5 rfl (lv_at hl 1 rfl) ?_
  refine gi_ald hx hb hK hP 5 0 tg rfl rfl (by omega) (by decide) dX1_worth_6 ?_
  refine gi_goV (va_runV (As := [.int (nI (tg i))]) (rest := []) ⟨hx, hb, hml, hown, hts⟩ (c_X1_address l D cA cB cL A wr q n th st sz bt so fc ofs tg nw gr (tg i) hw hk htg) (cwV 1 hts gX1_worth_X1_address rfl rfl rfl (by decide +kernel) ⟨Nat.le_of_ble_eq_true rfl, Nat.le_of_ble_eq_true rfl⟩) (gi_preV (q0 := 0) hK hP hD rfl rfl rfl) rfl rfl hl.1 rfl (lv_room (Nat.le_of_ble_eq_true rfl)) dX1_worth_7 ⟨Nat.le_of_ble_eq_true rfl, Nat.le_of_ble_eq_true rfl⟩) hS (fun H locs hP hS => ?_)
  refine lv_i2l (v := lN (gf_ad fc sz nw (tg i))) hx hb dX1_worth_10 (lN_of (by omega)) ?_
  refine lv_aload_n hx hb dX1_worth_11 rfl (lv_at hl 0 rfl) ?_
  refine va_get (D := D) (ci := 1) (v := .ref (q 6)) (C := RX1) (T := TX1) (N := 11) hx hb hts hin hown hK hP 0 rfl rfl 5 (by decide) hf25 (fun _ h9 => h9) rfl dX1_worth_12 ?_
  refine lv_iload_n hx hb dX1_worth_15 rfl (lv_at hl 1 rfl) ?_
  refine gi_aldI hx hb hK hP 6 0 ofs rfl rfl (by omega) (by decide) dX1_worth_16 ?_
  refine lv_i2l (v := ((ofs i)).toInt64) hx hb dX1_worth_17 rfl ?_
  refine lv_ladd hx hb dX1_worth_18 ?_
  refine lv_lstore_n (lv' := [(2, .long ((lN (gf_ad fc sz nw (tg i))) + (((ofs i)).toInt64))), (0, .ref (q 0)), (1, .int (nI (i)))]) hx hb dX1_worth_19 rfl hl (by decide) rfl (fun ls hl => ?_)
  refine lv_aload_n hx hb dX1_worth_20 rfl (lv_at hl 1 rfl) ?_
  refine va_get (D := D) (ci := 1) (v := .ref (q 1)) (C := RX1) (T := TX1) (N := 11) hx hb hts hin hown hK hP 0 rfl rfl 0 (by decide) hf9 (fun _ h9 => h9) rfl dX1_worth_21 ?_
  refine lv_iload_n hx hb dX1_worth_24 rfl (lv_at hl 2 rfl) ?_
  refine gi_ald hx hb hK hP 1 0 fc rfl rfl (by omega) (by decide) dX1_worth_25 ?_
  refine gi_if_le (tgt := 59) hx hb (by omega) dX1_worth_26 rfl (fun h26 => ?_) (fun h26 => ?_)
  · refine lv_lload_n hx hb dX1_worth_59 rfl (lv_at hl 0 rfl) ?_
    exact gi_lret hx hb hlk hr dX1_worth_60 ((if_neg (fun z9 => z9.1 h26)).symm) hP hS
  · have hfi := hfo (nw i) ((hk i hi).2 h26)
    refine lv_aload_n hx hb dX1_worth_29 rfl (lv_at hl 1 rfl) ?_
    refine va_get (D := D) (ci := 1) (v := .ref (q 4)) (C := RX1) (T := TX1) (N := 11) hx hb hts hin hown hK hP 0 rfl rfl 3 (by decide) hf19 (fun _ h9 => h9) rfl dX1_worth_30 ?_
    refine lv_iconst (v := nI (4)) hx hb dX1_worth_33 (by decide) ?_
    refine lv_iload_n hx hb dX1_worth_34 rfl (lv_at hl 2 rfl) ?_
    refine gi_imul hx hb (4 * i) rfl dX1_worth_35 ?_
    refine lv_aload_n hx hb dX1_worth_36 rfl (lv_at hl 1 rfl) ?_
    refine va_get (D := D) (ci := 1) (v := .ref (q 7)) (C := RX1) (T := TX1) (N := 11) hx hb hts hin hown hK hP 0 rfl rfl 6 (by decide) hf28 (fun _ h9 => h9) rfl dX1_worth_37 ?_
    refine lv_iload_n hx hb dX1_worth_40 rfl (lv_at hl 2 rfl) ?_
    refine gi_ald hx hb hK hP 7 0 nw rfl rfl (by omega) (by decide) dX1_worth_41 ?_
    refine gi_iadd hx hb (4 * i + (nw i)) rfl dX1_worth_42 ?_
    refine gi_ald hx hb hK hP 4 0 so rfl rfl (by omega) (by decide) dX1_worth_43 ?_
    refine lv_iconst (v := nI (2)) hx hb dX1_worth_44 (by decide) ?_
    refine gi_icmp_ne (tgt := 59) hx hb (by omega) (by omega) dX1_worth_45 rfl (fun h45 => ?_) (fun h45 => ?_)
    · refine lv_lload_n hx hb dX1_worth_59 rfl (lv_at hl 0 rfl) ?_
      exact gi_lret hx hb hlk hr dX1_worth_60 ((if_neg (fun z9 => h45 z9.2)).symm) hP hS
    · refine lv_lload_n hx hb dX1_worth_48 rfl (lv_at hl 0 rfl) ?_
      refine lv_aload_n hx hb dX1_worth_49 rfl (lv_at hl 1 rfl) ?_
      refine lv_iload_n hx hb dX1_worth_50 rfl (lv_at hl 2 rfl) ?_
      refine gi_goV (va_runV (As := [.int (nI (i))]) (rest := [.long ((lN (gf_ad fc sz nw (tg i))) + (((ofs i)).toInt64))]) ⟨hx, hb, hml, hown, hts⟩ (c_X1_address l D cA cB cL A wr q n th st sz bt so fc ofs tg nw gr i hw hk (by omega)) (cwV 1 hts gX1_worth_X1_address rfl rfl rfl (by decide +kernel) ⟨Nat.le_of_ble_eq_true rfl, Nat.le_of_ble_eq_true rfl⟩) (gi_preV (q0 := 0) hK hP hD rfl rfl rfl) rfl rfl hl.1 rfl (lv_room (Nat.le_of_ble_eq_true rfl)) dX1_worth_51 ⟨Nat.le_of_ble_eq_true rfl, Nat.le_of_ble_eq_true rfl⟩) hS (fun H locs hP hS => ?_)
      refine lv_i2l (v := lN (gf_ad fc sz nw i)) hx hb dX1_worth_54 (lN_of (by omega)) ?_
      refine lv_lsub hx hb dX1_worth_55 ?_
      refine lv_goto (tgt := 60) hx hb dX1_worth_56 rfl ?_
      exact gi_lret hx hb hlk hr dX1_worth_60 ((if_pos ⟨h26, h45⟩).symm) hP hS
set_option maxHeartbeats 4000000 in
set_option maxRecDepth 100000 in
theorem c_X1_isFitting (l : Launch) (D : va_G) (cA cB cL : ClassId) (A : Nat → Prop) (wr : va_W) (q : Nat → Nat) (n th : Nat) (st : Bool) (sz bt so fc : Nat → Nat) (ofs : Nat → Int32) (tg nw : Nat → Nat) (gr : Nat → Int32) (i : Nat) (hw : gf_wf n fc sz bt so tg) (hk : gf_nk n fc nw) (hi : i < n) : Met l yX1_isFitting wsX1_isFitting ({ frames := 2, cells := 0, slots := 0, locals := 46 }) (gPre D vwCl [(cA, .int), (cB, .boolean), (cL, .long)] ((mw q cA cB n th st sz bt so fc ofs tg nw gr) ++ wr) A [.ref (q 0), .int (nI (i))]) (gPost (some (.int (bI (gf_fit fc sz bt so tg ofs nw i)))) D vwCl ((mw q cA cB n th st sz bt so fc ofs tg nw gr) ++ wr) A) 0 0 A := by
  refine Met.ofW (cc := cX1_isFitting) (maxL := 7) (ret := (some .boolean)) (by decide) rfl ?_
  intro p e s m args below meth c s₁ B hml hv
  obtain ⟨rfl, hP, hK, hD⟩ := hv
  have hx := B.exec
  have hb := B.bytes
  have hr := B.returns
  have hlk := B.notSynchronized
  have hts := atoms_spec (ws := wsX1_isFitting) B.pre
  have hown : s.vm.findClass RX1 = some m.cls := findClass_of_methodNamed B.named
  have hS : va_S A s.heap s.heap [] := va_S.rf
  have hl := lv_entry ([.ref (q 0), .int (nI (i))]) (n := 7) (Nat.le_of_ble_eq_true rfl)
  rw [lg_entry_eq]
  generalize (lg_sl ([.ref (q 0), .int (nI (i))]) ++ List.replicate (7 - (lg_sl ([.ref (q 0), .int (nI (i))])).length) Slot.unset).toArray = ls at hl ⊢
  have hl : lv_has ls 7 [(0, .ref (q 0)), (1, .int (nI (i)))] := hl
  have hin : ∀ w ∈ u_ws RX1 TX1 11, w ∈ wsX1_isFitting := fun w h => List.mem_cons_of_mem _ (inTX1 w h)
  have hf9 := hts _ (List.mem_cons_of_mem _ tfX1_9)
  have hf16 := hts _ (List.mem_cons_of_mem _ tfX1_16)
  have hf19 := hts _ (List.mem_cons_of_mem _ tfX1_19)
  have hf28 := hts _ (List.mem_cons_of_mem _ tfX1_28)
  have hn := hw.1
  have hn3 := gf_nk_le hw hk hi
  obtain ⟨hfc, htg, hfo⟩ := hw.2 i hi
  have ha1 := gf_ad_le hw hk (tg i) htg
  have ha2 := gf_ad_le hw hk i (by omega)
  refine lv_aload_n hx hb dX1_isFitting_0 rfl (lv_at hl 0 rfl) ?_
  refine va_get (D := D) (ci := 1) (v := .ref (q 1)) (C := RX1) (T := TX1) (N := 11) hx hb hts hin hown hK hP 0 rfl rfl 0 (by decide) hf9 (fun _ h9 => h9) rfl dX1_isFitting_1 ?_
  refine lv_iload_n hx hb dX1_isFitting_4 rfl (lv_at hl 1 rfl) ?_
  refine gi_ald hx hb hK hP 1 0 fc rfl rfl (by omega) (by decide) dX1_isFitting_5 ?_
  refine gi_if_ne (tgt := 11) hx hb (by omega) dX1_isFitting_6 rfl (fun h6 => ?_) (fun h6 => ?_)
  · have hz : fc i ≠ 0 := h6
    have hfi := hfo (nw i) ((hk i hi).2 hz)
    refine lv_iconst (v := nI (4)) hx hb dX1_isFitting_11 (by decide) ?_
    refine lv_iload_n hx hb dX1_isFitting_12 rfl (lv_at hl 1 rfl) ?_
    refine gi_imul hx hb (4 * i) rfl dX1_isFitting_13 ?_
    refine lv_aload_n hx hb dX1_isFitting_14 rfl (lv_at hl 0 rfl) ?_
    refine va_get (D := D) (ci := 1) (v := .ref (q 7)) (C := RX1) (T := TX1) (N := 11) hx hb hts hin hown hK hP 0 rfl rfl 6 (by decide) hf28 (fun _ h9 => h9) rfl dX1_isFitting_15 ?_
    refine lv_iload_n hx hb dX1_isFitting_18 rfl (lv_at hl 1 rfl) ?_
    refine gi_ald hx hb hK hP 7 0 nw rfl rfl (by omega) (by decide) dX1_isFitting_19 ?_
    refine gi_iadd hx hb (4 * i + (nw i)) rfl dX1_isFitting_20 ?_
    refine lv_istore_n (lv' := [(2, .int (nI (4 * i + (nw i)))), (0, .ref (q 0)), (1, .int (nI (i)))]) hx hb dX1_isFitting_21 rfl hl (by decide) rfl (fun ls hl => ?_)
    refine lv_aload_n hx hb dX1_isFitting_22 rfl (lv_at hl 1 rfl) ?_
    refine lv_iload_n hx hb dX1_isFitting_23 rfl (lv_at hl 2 rfl) ?_
    refine gi_goV (va_runV (As := [.int (nI (i))]) (rest := []) ⟨hx, hb, hml, hown, hts⟩ (c_X1_worth l D cA cB cL A wr q n th st sz bt so fc ofs tg nw gr i hw hk hi) (cwV 1 hts gX1_isFitting_X1_worth rfl rfl rfl (by decide +kernel) ⟨Nat.le_of_ble_eq_true rfl, Nat.le_of_ble_eq_true rfl⟩) (gi_preV (q0 := 0) hK hP hD rfl rfl rfl) rfl rfl hl.1 rfl (lv_room (Nat.le_of_ble_eq_true rfl)) dX1_isFitting_24 ⟨Nat.le_of_ble_eq_true rfl, Nat.le_of_ble_eq_true rfl⟩) hS (fun H locs hP hS => ?_)
    refine lv_lstore_n (lv' := [(3, .long (gf_va fc sz so tg ofs nw i)), (2, .int (nI (4 * i + (nw i)))), (0, .ref (q 0)), (1, .int (nI (i)))]) hx hb dX1_isFitting_27 rfl hl (by decide) rfl (fun ls hl => ?_)
    refine lv_lconst (v := 1) hx hb dX1_isFitting_28 (by decide) ?_
    refine lv_aload_n hx hb dX1_isFitting_29 rfl (lv_at hl 2 rfl) ?_
    refine va_get (D := D) (ci := 1) (v := .ref (q 3)) (C := RX1) (T := TX1) (N := 11) hx hb hts hin hown hK hP 0 rfl rfl 2 (by decide) hf16 (fun _ h9 => h9) rfl dX1_isFitting_30 ?_
    refine lv_iload_n hx hb dX1_isFitting_33 rfl (lv_at hl 1 rfl) ?_
    refine gi_ald hx hb hK hP 3 0 bt rfl rfl (by omega) (by decide) dX1_isFitting_34 ?_
    refine lv_iconst (v := nI (1)) hx hb dX1_isFitting_35 (by decide) ?_
    refine gi_isub hx hb (bt (4 * i + (nw i)) - 1) (by omega) dX1_isFitting_36 ?_
    refine lv_lshl (v := gf_sh (bt (4 * i + (nw i)) - 1)) hx hb dX1_isFitting_37 rfl ?_
    refine lv_lstore (lv' := [(5, .long (gf_sh (bt (4 * i + (nw i)) - 1))), (3, .long (gf_va fc sz so tg ofs nw i)), (2, .int (nI (4 * i + (nw i)))), (0, .ref (q 0)), (1, .int (nI (i)))]) hx hb dX1_isFitting_38 hl (by decide) rfl (fun ls hl => ?_)
    refine lv_aload_n hx hb dX1_isFitting_40 rfl (lv_at hl 3 rfl) ?_
    refine va_get (D := D) (ci := 1) (v := .ref (q 4)) (C := RX1) (T := TX1) (N := 11) hx hb hts hin hown hK hP 0 rfl rfl 3 (by decide) hf19 (fun _ h9 => h9) rfl dX1_isFitting_41 ?_
    refine lv_iload_n hx hb dX1_isFitting_44 rfl (lv_at hl 2 rfl) ?_
    refine gi_ald hx hb hK hP 4 0 so rfl rfl (by omega) (by decide) dX1_isFitting_45 ?_
    refine gi_if_ne (tgt := 74) hx hb (by omega) dX1_isFitting_46 rfl (fun h46 => ?_) (fun h46 => ?_)
    · refine lv_lload_n hx hb dX1_isFitting_74 rfl (lv_at hl 1 rfl) ?_
      refine lv_lload hx hb dX1_isFitting_75 (lv_at hl 0 rfl) ?_
      refine lv_lneg hx hb dX1_isFitting_77 ?_
      refine gi_lcmp hx hb dX1_isFitting_78 ?_
      refine gi_lif_lt (tgt := 93) hx hb dX1_isFitting_79 rfl (fun h79 => ?_) (fun h79 => ?_)
      · refine lv_iconst (v := nI (0)) hx hb dX1_isFitting_93 (by decide) ?_
        exact gi_zret hx hb hlk hr dX1_isFitting_94 (bR_f (show gf_fit fc sz bt so tg ofs nw i = false from (gf_fit_1 hz).trans ((if_neg h46).trans (and_f1 (decide_eq_false (fun z9 => z9 h79)))))) hP hS
      · refine lv_lload_n hx hb dX1_isFitting_82 rfl (lv_at hl 1 rfl) ?_
        refine lv_lload hx hb dX1_isFitting_83 (lv_at hl 0 rfl) ?_
        refine gi_lcmp hx hb dX1_isFitting_85 ?_
        refine gi_lif_ge (tgt := 93) hx hb dX1_isFitting_86 rfl (fun h86 => ?_) (fun h86 => ?_)
        · refine lv_iconst (v := nI (0)) hx hb dX1_isFitting_93 (by decide) ?_
          exact gi_zret hx hb hlk hr dX1_isFitting_94 (bR_f (show gf_fit fc sz bt so tg ofs nw i = false from (gf_fit_1 hz).trans ((if_neg h46).trans (and_f2 (decide_eq_false (fun z9 => z9 h86)))))) hP hS
        · refine lv_iconst (v := nI (1)) hx hb dX1_isFitting_89 (by decide) ?_
          refine lv_goto (tgt := 94) hx hb dX1_isFitting_90 rfl ?_
          exact gi_zret hx hb hlk hr dX1_isFitting_94 (bR_t (show gf_fit fc sz bt so tg ofs nw i = true from (gf_fit_1 hz).trans ((if_neg h46).trans (and_tt (decide_eq_true h79) (decide_eq_true h86))))) hP hS
    · refine lv_lload_n hx hb dX1_isFitting_49 rfl (lv_at hl 1 rfl) ?_
      refine lv_lconst (v := 0) hx hb dX1_isFitting_50 (by decide) ?_
      refine gi_lcmp hx hb dX1_isFitting_51 ?_
      refine gi_lif_lt (tgt := 70) hx hb dX1_isFitting_52 rfl (fun h52 => ?_) (fun h52 => ?_)
      · refine lv_iconst (v := nI (0)) hx hb dX1_isFitting_70 (by decide) ?_
        refine lv_goto (tgt := 94) hx hb dX1_isFitting_71 rfl ?_
        exact gi_zret hx hb hlk hr dX1_isFitting_94 (bR_f (show gf_fit fc sz bt so tg ofs nw i = false from (gf_fit_1 hz).trans ((if_pos h46).trans (and_f1 (decide_eq_false (fun z9 => z9 h52)))))) hP hS
      · refine lv_lload_n hx hb dX1_isFitting_55 rfl (lv_at hl 1 rfl) ?_
        refine lv_ldc2 (v := 2) hx hb hown (hts _ (List.mem_cons_of_mem _ tlX1_54)) dX1_isFitting_56 ?_
        refine lv_lload hx hb dX1_isFitting_59 (lv_at hl 0 rfl) ?_
        refine lv_lmul hx hb dX1_isFitting_61 ?_
        refine gi_topl (y := (gf_sh (bt (4 * i + nw i)))) (gf_sh2 _ (by omega) (by omega)) ?_
        refine gi_lcmp hx hb dX1_isFitting_62 ?_
        refine gi_lif_ge (tgt := 70) hx hb dX1_isFitting_63 rfl (fun h63 => ?_) (fun h63 => ?_)
        · refine lv_iconst (v := nI (0)) hx hb dX1_isFitting_70 (by decide) ?_
          refine lv_goto (tgt := 94) hx hb dX1_isFitting_71 rfl ?_
          exact gi_zret hx hb hlk hr dX1_isFitting_94 (bR_f (show gf_fit fc sz bt so tg ofs nw i = false from (gf_fit_1 hz).trans ((if_pos h46).trans (and_f2 (decide_eq_false (fun z9 => z9 h63)))))) hP hS
        · refine lv_iconst (v := nI (1)) hx hb dX1_isFitting_66 (by decide) ?_
          refine lv_goto (tgt := 94) hx hb dX1_isFitting_67 rfl ?_
          exact gi_zret hx hb hlk hr dX1_isFitting_94 (bR_t (show gf_fit fc sz bt so tg ofs nw i = true from (gf_fit_1 hz).trans ((if_pos h46).trans (and_tt (decide_eq_true h52) (decide_eq_true h63))))) hP hS
  · have hz : fc i = 0 := h6
    refine lv_iconst (v := nI (1)) hx hb dX1_isFitting_9 (by decide) ?_
    exact gi_zret hx hb hlk hr dX1_isFitting_10 (bR_t (show gf_fit fc sz bt so tg ofs nw i = true from gf_fit_0 hz)) hP hS
