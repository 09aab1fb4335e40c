set_option maxHeartbeats 4000000 in
set_option maxRecDepth 100000 in
theorem c_X0_takeFirstForms (l : Launch) (D : va_G) (cA cB cL : ClassId) (A : Nat → Prop) (wr : va_W) (q : Nat → Nat) (n : Nat) (st : Bool) (sz bt so fc : Nat → Nat) (ofs : Nat → Int32) (tg : Nat → Nat) (ch : Nat → Int32) (ad : Nat → Nat) (hn : n ≤ 120) (hfc4 : ∀ i, i < n → fc i ≤ 4) : Met l yX0_takeFirstForms wsX0_takeFirstForms ({ frames := 0, cells := 0, slots := 0, locals := 0 }) (gPre D vwCl [(cA, .int), (cB, .boolean), (cL, .long)] ((xw q cA n st sz bt so fc ofs tg ch ad) ++ wr) A [.ref (q 0)]) (gPost none D vwCl ((xw q cA n st sz bt so fc ofs tg (gf_tf fc ch n) ad) ++ wr) A) 0 0 A := by
  refine Met.ofW (cc := cX0_takeFirstForms) (maxL := 2) (ret := none) (by decide) rfl ?_
  intro p e s m args below meth c s₁ B hml hv
  obtain ⟨rfl, hP, hK, hD⟩ := hv
  have hx := B.exec
  have hb := B.bytes
  have hr := B.returns
  have hlk := B.notSynchronized
  have hts := atoms_spec (ws := wsX0_takeFirstForms) B.pre
  have hown : s.vm.findClass RX0 = some m.cls := findClass_of_methodNamed B.named
  have hS : va_S A s.heap s.heap [] := va_S.rf
  have hl := lv_entry ([.ref (q 0)]) (n := 2) (Nat.le_of_ble_eq_true rfl)
  rw [lg_entry_eq]
  generalize (lg_sl ([.ref (q 0)]) ++ List.replicate (2 - (lg_sl ([.ref (q 0)])).length) Slot.unset).toArray = ls at hl ⊢
  have hl : lv_has ls 2 [(0, .ref (q 0))] := hl
  have hin : ∀ w ∈ u_ws RX0 TX0 10, w ∈ wsX0_takeFirstForms := fun w h => List.mem_cons_of_mem _ (inTX0 w h)
  have hf19 := hts _ (List.mem_cons_of_mem _ tfX0_19)
  have hf28 := hts _ (List.mem_cons_of_mem _ tfX0_28)
  have hf34 := hts _ (List.mem_cons_of_mem _ tfX0_34)
  refine lv_iconst (v := nI (0)) hx hb dX0_takeFirstForms_0 (by decide) ?_
  refine lv_istore_n (lv' := [(1, .int (nI (0))), (0, .ref (q 0))]) hx hb dX0_takeFirstForms_1 rfl hl (by decide) rfl (fun ls hl => ?_)
  have loop : ∀ (k i : Nat), i + k = n → ∀ (H : Heap) (locs : List Loc) (ls : Array Slot), va_P D vwCl ((xw q cA n st sz bt so fc ofs tg (gf_tf fc ch (i)) ad) ++ wr) H → va_S A s.heap H locs → lv_has ls 2 [(1, .int (nI (i))), (0, .ref (q 0))] → W p l e (headSpec wsX0_takeFirstForms ({ frames := 0, cells := 0, slots := 0, locals := 0 })).room s m ([.ref (q 0)] : List Value).toArray below meth c H locs 0 0 (MQ below (gPost none D vwCl ((xw q cA n st sz bt so fc ofs tg (gf_tf fc ch n) ad) ++ wr) A) ([.ref (q 0)] : List Value).toArray s 0 0 A) (F0 m 2 ls []) := by
    intro k
    induction k with
    | zero =>
      intro i hik H locs ls hP hS hl
      have h9 : n = i := by omega
      subst h9
      have hD : va_D A ((xw q cA n st sz bt so fc ofs tg (gf_tf fc ch (n)) ad) ++ wr) := gD_same hD rfl
      refine lv_iload_n hx hb dX0_takeFirstForms_2 rfl (lv_at hl 0 rfl) ?_
      refine lv_aload_n hx hb dX0_takeFirstForms_3 rfl (lv_at hl 1 rfl) ?_
      refine va_get (D := D) (ci := 0) (v := .int (nI (n))) (C := RX0) (T := TX0) (N := 10) hx hb hts hin hown hK hP 0 rfl rfl 8 (by decide) hf34 (fun _ h9 => h9) rfl dX0_takeFirstForms_4 ?_
      refine gi_icmp_ge (tgt := 36) hx hb (by omega) (by omega) dX0_takeFirstForms_7 rfl (fun h7 => ?_) (fun h9 => absurd h9 (by omega))
      exact gi_vret hx hb hlk hr dX0_takeFirstForms_36 hP hS
    | succ k ih =>
      intro i hik H locs ls hP hS hl
      have hi : i < n := by omega
      have hD : va_D A ((xw q cA n st sz bt so fc ofs tg (gf_tf fc ch (i)) ad) ++ wr) := gD_same hD rfl
      refine lv_iload_n hx hb dX0_takeFirstForms_2 rfl (lv_at hl 0 rfl) ?_
      refine lv_aload_n hx hb dX0_takeFirstForms_3 rfl (lv_at hl 1 rfl) ?_
      refine va_get (D := D) (ci := 0) (v := .int (nI (n))) (C := RX0) (T := TX0) (N := 10) hx hb hts hin hown hK hP 0 rfl rfl 8 (by decide) hf34 (fun _ h9 => h9) rfl dX0_takeFirstForms_4 ?_
      refine gi_icmp_ge (tgt := 36) hx hb (by omega) (by omega) dX0_takeFirstForms_7 rfl (fun h9 => absurd h9 (by omega)) (fun h7 => ?_)
      refine lv_aload_n hx hb dX0_takeFirstForms_10 rfl (lv_at hl 1 rfl) ?_
      refine va_get (D := D) (ci := 0) (v := .ref (q 7)) (C := RX0) (T := TX0) (N := 10) hx hb hts hin hown hK hP 0 rfl rfl 6 (by decide) hf28 (fun _ h9 => h9) rfl dX0_takeFirstForms_11 ?_
      refine lv_iload_n hx hb dX0_takeFirstForms_14 rfl (lv_at hl 0 rfl) ?_
      refine lv_aload_n hx hb dX0_takeFirstForms_15 rfl (lv_at hl 1 rfl) ?_
      refine va_get (D := D) (ci := 0) (v := .ref (q 4)) (C := RX0) (T := TX0) (N := 10) hx hb hts hin hown hK hP 0 rfl rfl 3 (by decide) hf19 (fun _ h9 => h9) rfl dX0_takeFirstForms_16 ?_
      refine lv_iload_n hx hb dX0_takeFirstForms_19 rfl (lv_at hl 0 rfl) ?_
      refine gi_ald hx hb hK hP 4 0 fc rfl rfl (by omega) (by decide) dX0_takeFirstForms_20 ?_
      refine gi_if_ne (tgt := 28) hx hb (by have := hfc4 i hi; omega) dX0_takeFirstForms_21 rfl (fun h21 => ?_) (fun h21 => ?_)
      · refine lv_iconst (v := nI (0)) hx hb dX0_takeFirstForms_28 (by decide) ?_
        refine gi_astI hx hb hK hP hD hS 7 0 (gf_tf fc ch (i)) rfl rfl (by omega) (by decide) dX0_takeFirstForms_29 (fun H locs hP hD hS => ?_)
        have hP : va_P D vwCl ((xw q cA n st sz bt so fc ofs tg (upd (gf_tf fc ch (i)) i ((nI (0)))) ad) ++ wr) H := hP
        have hD : va_D A ((xw q cA n st sz bt so fc ofs tg (upd (gf_tf fc ch (i)) i ((nI (0)))) ad) ++ wr) := hD
        refine lv_iinc (k := 0) (lv' := [(1, .int (nI (i + 1))), (0, .ref (q 0))]) hx hb dX0_takeFirstForms_30 hl rfl (gi_inc _) (by decide) rfl (fun ls hl => ?_)
        refine lv_goto (tgt := 2) hx hb dX0_takeFirstForms_33 rfl ?_
        rw [gf_tf_s fc ch i (if_neg h21).symm] at hP
        exact ih (i + 1) (by omega) H locs ls hP hS (lv_sub hl [0, 1] rfl)
      · refine lv_iconst (v := -1) hx hb dX0_takeFirstForms_24 (by decide) ?_
        refine lv_goto (tgt := 29) hx hb dX0_takeFirstForms_25 rfl ?_
        refine gi_astI hx hb hK hP hD hS 7 0 (gf_tf fc ch (i)) rfl rfl (by omega) (by decide) dX0_takeFirstForms_29 (fun H locs hP hD hS => ?_)
        have hP : va_P D vwCl ((xw q cA n st sz bt so fc ofs tg (upd (gf_tf fc ch (i)) i ((-1))) ad) ++ wr) H := hP
        have hD : va_D A ((xw q cA n st sz bt so fc ofs tg (upd (gf_tf fc ch (i)) i ((-1))) ad) ++ wr) := hD
        refine lv_iinc (k := 0) (lv' := [(1, .int (nI (i + 1))), (0, .ref (q 0))]) hx hb dX0_takeFirstForms_30 hl rfl (gi_inc _) (by decide) rfl (fun ls hl => ?_)
        refine lv_goto (tgt := 2) hx hb dX0_takeFirstForms_33 rfl ?_
        rw [gf_tf_s fc ch i (if_pos h21).symm] at hP
        exact ih (i + 1) (by omega) H locs ls hP hS (lv_sub hl [0, 1] rfl)
  rw [← gf_tf_0 fc ch] at hP
  exact loop n 0 (by omega) _ _ _ hP hS (lv_sub hl [0, 1] rfl)
set_option maxHeartbeats 4000000 in
set_option maxRecDepth 100000 in
theorem c_X0_giveAddresses (l : Launch) (D : va_G) (cA cB cL : ClassId) (A : Nat → Prop) (wr : va_W) (q : Nat → Nat) (n : Nat) (st : Bool) (sz bt so fc : Nat → Nat) (ofs : Nat → Int32) (tg : Nat → Nat) (ch : Nat → Int32) (ad : Nat → Nat) (nw : Nat → Nat) (hw : gf_wf n fc sz bt so tg) (hk : gf_nk n fc nw) (hch : ∀ i, i < n → ch i = gf_c fc nw i) : Met l yX0_giveAddresses wsX0_giveAddresses ({ frames := 2, cells := 0, slots := 0, locals := 42 }) (gPre D vwCl [(cA, .int), (cB, .boolean), (cL, .long)] ((xw q cA n st sz bt so fc ofs tg ch ad) ++ wr) A [.ref (q 0)]) (gPost none D vwCl ((xw q cA n st sz bt so fc ofs tg ch (gf_pa fc sz nw ad n)) ++ wr) A) 0 0 A := by
  refine Met.ofW (cc := cX0_giveAddresses) (maxL := 2) (ret := none) (by decide) rfl ?_
  intro p e s m args below meth c s₁ B hml hv
  obtain ⟨rfl, hP, hK, hD⟩ := hv
  have hx := B.exec
  have hb := B.bytes
  have hr := B.returns
  have hlk := B.notSynchronized
  have hts := atoms_spec (ws := wsX0_giveAddresses) B.pre
  have hown : s.vm.findClass RX0 = some m.cls := findClass_of_methodNamed B.named
  have hS : va_S A s.heap s.heap [] := va_S.rf
  have hl := lv_entry ([.ref (q 0)]) (n := 2) (Nat.le_of_ble_eq_true rfl)
  rw [lg_entry_eq]
  generalize (lg_sl ([.ref (q 0)]) ++ List.replicate (2 - (lg_sl ([.ref (q 0)])).length) Slot.unset).toArray = ls at hl ⊢
  have hl : lv_has ls 2 [(0, .ref (q 0))] := hl
  have hin : ∀ w ∈ u_ws RX0 TX0 10, w ∈ wsX0_giveAddresses := fun w h => List.mem_cons_of_mem _ (inTX0 w h)
  have hf31 := hts _ (List.mem_cons_of_mem _ tfX0_31)
  have hf34 := hts _ (List.mem_cons_of_mem _ tfX0_34)
  have hn := hw.1
  refine lv_aload_n hx hb dX0_giveAddresses_0 rfl (lv_at hl 0 rfl) ?_
  refine va_get (D := D) (ci := 0) (v := .ref (q 8)) (C := RX0) (T := TX0) (N := 10) hx hb hts hin hown hK hP 0 rfl rfl 7 (by decide) hf31 (fun _ h9 => h9) rfl dX0_giveAddresses_1 ?_
  refine lv_iconst (v := nI (0)) hx hb dX0_giveAddresses_4 (by decide) ?_
  refine lv_iconst (v := nI (0)) hx hb dX0_giveAddresses_5 (by decide) ?_
  refine gi_ast hx hb hK hP hD hS 8 0 ad rfl rfl (by omega) (by decide) dX0_giveAddresses_6 (fun H locs hP hD hS => ?_)
  have hP : va_P D vwCl ((xw q cA n st sz bt so fc ofs tg ch (gU ad 0 0)) ++ wr) H := hP
  have hD : va_D A ((xw q cA n st sz bt so fc ofs tg ch (gU ad 0 0)) ++ wr) := hD
  refine lv_iconst (v := nI (0)) hx hb dX0_giveAddresses_7 (by decide) ?_
  refine lv_istore_n (lv' := [(1, .int (nI (0))), (0, .ref (q 0))]) hx hb dX0_giveAddresses_8 rfl hl (by decide) rfl (fun ls hl => ?_)
  have loop : ∀ (k i : Nat), i + k = n → ∀ (H : Heap) (locs : List Loc) (ls : Array Slot), va_P D vwCl ((xw q cA n st sz bt so fc ofs tg ch (gf_pa fc sz nw ad (i))) ++ wr) H → va_S A s.heap H locs → lv_has ls 2 [(1, .int (nI (i))), (0, .ref (q 0))] → W p l e (headSpec wsX0_giveAddresses ({ frames := 2, cells := 0, slots := 0, locals := 42 })).room s m ([.ref (q 0)] : List Value).toArray below meth c H locs 0 0 (MQ below (gPost none D vwCl ((xw q cA n st sz bt so fc ofs tg ch (gf_pa fc sz nw ad n)) ++ wr) A) ([.ref (q 0)] : List Value).toArray s 0 0 A) (F0 m 9 ls []) := by
    intro k
    induction k with
    | zero =>
      intro i hik H locs ls hP hS hl
      have h9 : n = i := by omega
      subst h9
      have hD : va_D A ((xw q cA n st sz bt so fc ofs tg ch (gf_pa fc sz nw ad (n))) ++ wr) := gD_same hD rfl
      refine lv_iload_n hx hb dX0_giveAddresses_9 rfl (lv_at hl 0 rfl) ?_
      refine lv_aload_n hx hb dX0_giveAddresses_10 rfl (lv_at hl 1 rfl) ?_
      refine va_get (D := D) (ci := 0) (v := .int (nI (n))) (C := RX0) (T := TX0) (N := 10) hx hb hts hin hown hK hP 0 rfl rfl 8 (by decide) hf34 (fun _ h9 => h9) rfl dX0_giveAddresses_11 ?_
      refine gi_icmp_ge (tgt := 43) hx hb (by omega) (by omega) dX0_giveAddresses_14 rfl (fun h14 => ?_) (fun h9 => absurd h9 (by omega))
      exact gi_vret hx hb hlk hr dX0_giveAddresses_43 hP hS
    | succ k ih =>
      intro i hik H locs ls hP hS hl
      have hi : i < n := by omega
      have hD : va_D A ((xw q cA n st sz bt so fc ofs tg ch (gf_pa fc sz nw ad (i))) ++ wr) := gD_same hD rfl
      refine lv_iload_n hx hb dX0_giveAddresses_9 rfl (lv_at hl 0 rfl) ?_
      refine lv_aload_n hx hb dX0_giveAddresses_10 rfl (lv_at hl 1 rfl) ?_
      refine va_get (D := D) (ci := 0) (v := .int (nI (n))) (C := RX0) (T := TX0) (N := 10) hx hb hts hin hown hK hP 0 rfl rfl 8 (by decide) hf34 (fun _ h9 => h9) rfl dX0_giveAddresses_11 ?_
      refine gi_icmp_ge (tgt := 43) hx hb (by omega) (by omega) dX0_giveAddresses_14 rfl (fun h9 => absurd h9 (by omega)) (fun h14 => ?_)
      refine lv_aload_n hx hb dX0_giveAddresses_17 rfl (lv_at hl 1 rfl) ?_
      refine va_get (D := D) (ci := 0) (v := .ref (q 8)) (C := RX0) (T := TX0) (N := 10) hx hb hts hin hown hK hP 0 rfl rfl 7 (by decide) hf31 (fun _ h9 => h9) rfl dX0_giveAddresses_18 ?_
      refine lv_iload_n hx hb dX0_giveAddresses_21 rfl (lv_at hl 0 rfl) ?_
      refine lv_iconst (v := nI (1)) hx hb dX0_giveAddresses_22 (by decide) ?_
      refine gi_iadd hx hb (i + 1) rfl dX0_giveAddresses_23 ?_
      refine lv_aload_n hx hb dX0_giveAddresses_24 rfl (lv_at hl 1 rfl) ?_
      refine va_get (D := D) (ci := 0) (v := .ref (q 8)) (C := RX0) (T := TX0) (N := 10) hx hb hts hin hown hK hP 0 rfl rfl 7 (by decide) hf31 (fun _ h9 => h9) rfl dX0_giveAddresses_25 ?_
      refine lv_iload_n hx hb dX0_giveAddresses_28 rfl (lv_at hl 0 rfl) ?_
      refine gi_ald hx hb hK hP 8 0 (gf_pa fc sz nw ad (i)) rfl rfl (by omega) (by decide) dX0_giveAddresses_29 ?_
      refine lv_aload_n hx hb dX0_giveAddresses_30 rfl (lv_at hl 1 rfl) ?_
      refine lv_iload_n hx hb dX0_giveAddresses_31 rfl (lv_at hl 0 rfl) ?_
      refine gi_goV (va_runV (As := [.int (nI (i))]) (rest := [.int (nI ((gf_pa fc sz nw ad (i)) i)), .int (nI (i + 1)), .ref (q 8)]) ⟨hx, hb, hml, hown, hts⟩ (c_X0_sizeOf l D cA cB cL A wr q n st sz bt so fc ofs tg ch (gf_pa fc sz nw ad (i)) nw i hw hk hi (hch i hi)) (cwV 1 hts gX0_giveAddresses_X0_sizeOf rfl rfl rfl (by decide +kernel) ⟨Nat.le_of_ble_eq_true rfl, Nat.le_of_ble_eq_true rfl⟩) (gi_preV (q0 := 0) hK hP hD rfl rfl rfl) rfl rfl hl.1 rfl (lv_room (Nat.le_of_ble_eq_true rfl)) dX0_giveAddresses_32 ⟨Nat.le_of_ble_eq_true rfl, Nat.le_of_ble_eq_true rfl⟩) hS (fun H locs hP hS => ?_)
      refine gi_iadd hx hb ((gf_pa fc sz nw ad (i)) i + (if fc i = 0 then 0 else sz (4 * i + nw i))) rfl dX0_giveAddresses_35 ?_
      refine gi_ast hx hb hK hP hD hS 8 0 (gf_pa fc sz nw ad (i)) rfl rfl (by omega) (by decide) dX0_giveAddresses_36 (fun H locs hP hD hS => ?_)
      have hP : va_P D vwCl ((xw q cA n st sz bt so fc ofs tg ch (gU (gf_pa fc sz nw ad (i)) (i + 1) ((gf_pa fc sz nw ad (i)) i + (if fc i = 0 then 0 else sz (4 * i + nw i))))) ++ wr) H := hP
      have hD : va_D A ((xw q cA n st sz bt so fc ofs tg ch (gU (gf_pa fc sz nw ad (i)) (i + 1) ((gf_pa fc sz nw ad (i)) i + (if fc i = 0 then 0 else sz (4 * i + nw i))))) ++ wr) := hD
      refine lv_iinc (k := 0) (lv' := [(1, .int (nI (i + 1))), (0, .ref (q 0))]) hx hb dX0_giveAddresses_37 hl rfl (gi_inc _) (by decide) rfl (fun ls hl => ?_)
      refine lv_goto (tgt := 9) hx hb dX0_giveAddresses_40 rfl ?_
      rw [gf_pa_s fc sz nw ad i] at hP
      exact ih (i + 1) (by omega) H locs ls hP hS (lv_sub hl [0, 1] rfl)
  rw [gf_pa_0 fc sz nw ad] at hP
  exact loop n 0 (by omega) _ _ _ hP hS (lv_sub hl [0, 1] rfl)
set_option maxHeartbeats 4000000 in
set_option maxRecDepth 100000 in
theorem c_X0_leastUnfit (l : Launch) (D : va_G) (cA cB cL : ClassId) (A : Nat → Prop) (wr : va_W) (q : Nat → Nat) (n : Nat) (st : Bool) (sz bt so fc : Nat → Nat) (ofs : Nat → Int32) (tg : Nat → Nat) (ch : Nat → Int32) (ad : Nat → Nat) (nw : Nat → Nat) (hw : gf_wf n fc sz bt so tg) (hk : gf_nk n fc nw) (hch : ∀ i, i < n → ch i = gf_c fc nw i) (had : ∀ j, j ≤ n → ad j = gf_ad fc sz nw j) : Met l yX0_leastUnfit wsX0_leastUnfit ({ frames := 4, cells := 0, slots := 0, locals := 91 }) (gPre D vwCl [(cA, .int), (cB, .boolean), (cL, .long)] ((xw q cA n st sz bt so fc ofs tg ch ad) ++ wr) A [.ref (q 0)]) (gPost (some (.int (gf_lu (gf_fit fc sz bt so tg ofs nw) n 0))) D vwCl ((xw q cA n st sz bt so fc ofs tg ch ad) ++ wr) A) 0 0 A := by
  refine Met.ofW (cc := cX0_leastUnfit) (maxL := 2) (ret := (some .int)) (by decide) rfl ?_
  intro p e s m args below meth c s₁ B hml hv
  obtain ⟨rfl, hP, hK, hD⟩ := hv
  have hx := B.exec
  have hb := B.bytes
  have hr := B.returns
  have hlk := B.notSynchronized
  have hts := atoms_spec (ws := wsX0_leastUnfit) B.pre
  have hown : s.vm.findClass RX0 = some m.cls := findClass_of_methodNamed B.named
  have hS : va_S A s.heap s.heap [] := va_S.rf
  have hl := lv_entry ([.ref (q 0)]) (n := 2) (Nat.le_of_ble_eq_true rfl)
  rw [lg_entry_eq]
  generalize (lg_sl ([.ref (q 0)]) ++ List.replicate (2 - (lg_sl ([.ref (q 0)])).length) Slot.unset).toArray = ls at hl ⊢
  have hl : lv_has ls 2 [(0, .ref (q 0))] := hl
  have hin : ∀ w ∈ u_ws RX0 TX0 10, w ∈ wsX0_leastUnfit := fun w h => List.mem_cons_of_mem _ (inTX0 w h)
  have hf34 := hts _ (List.mem_cons_of_mem _ tfX0_34)
  have hn := hw.1
  refine lv_iconst (v := nI (0)) hx hb dX0_leastUnfit_0 (by decide) ?_
  refine lv_istore_n (lv' := [(1, .int (nI (0))), (0, .ref (q 0))]) hx hb dX0_leastUnfit_1 rfl hl (by decide) rfl (fun ls hl => ?_)
  have loop : ∀ (k i : Nat), i + k = n → gf_lu (gf_fit fc sz bt so tg ofs nw) k i = gf_lu (gf_fit fc sz bt so tg ofs nw) n 0 → ∀ (H : Heap) (locs : List Loc) (ls : Array Slot), va_P D vwCl ((xw q cA n st sz bt so fc ofs tg ch ad) ++ wr) H → va_S A s.heap H locs → lv_has ls 2 [(1, .int (nI (i))), (0, .ref (q 0))] → W p l e (headSpec wsX0_leastUnfit ({ frames := 4, cells := 0, slots := 0, locals := 91 })).room s m ([.ref (q 0)] : List Value).toArray below meth c H locs 0 0 (MQ below (gPost (some (.int (gf_lu (gf_fit fc sz bt so tg ofs nw) n 0))) D vwCl ((xw q cA n st sz bt so fc ofs tg ch ad) ++ wr) A) ([.ref (q 0)] : List Value).toArray s 0 0 A) (F0 m 2 ls []) := by
    intro k
    induction k with
    | zero =>
      intro i hik hinv H locs ls hP hS hl
      have h9 : n = i := by omega
      subst h9
      have hD : va_D A ((xw q cA n st sz bt so fc ofs tg ch ad) ++ wr) := gD_same hD rfl
      refine lv_iload_n hx hb dX0_leastUnfit_2 rfl (lv_at hl 0 rfl) ?_
      refine lv_aload_n hx hb dX0_leastUnfit_3 rfl (lv_at hl 1 rfl) ?_
      refine va_get (D := D) (ci := 0) (v := .int (nI (n))) (C := RX0) (T := TX0) (N := 10) hx hb hts hin hown hK hP 0 rfl rfl 8 (by decide) hf34 (fun _ h9 => h9) rfl dX0_leastUnfit_4 ?_
      refine gi_icmp_ge (tgt := 26) hx hb (by omega) (by omega) dX0_leastUnfit_7 rfl (fun h7 => ?_) (fun h9 => absurd h9 (by omega))
      refine lv_iconst (v := -1) hx hb dX0_leastUnfit_26 (by decide) ?_
      exact gi_iret hx hb hlk hr dX0_leastUnfit_27 (hinv) hP hS
    | succ k ih =>
      intro i hik hinv H locs ls hP hS hl
      have hi : i < n := by omega
      have hD : va_D A ((xw q cA n st sz bt so fc ofs tg ch ad) ++ wr) := gD_same hD rfl
      refine lv_iload_n hx hb dX0_leastUnfit_2 rfl (lv_at hl 0 rfl) ?_
      refine lv_aload_n hx hb dX0_leastUnfit_3 rfl (lv_at hl 1 rfl) ?_
      refine va_get (D := D) (ci := 0) (v := .int (nI (n))) (C := RX0) (T := TX0) (N := 10) hx hb hts hin hown hK hP 0 rfl rfl 8 (by decide) hf34 (fun _ h9 => h9) rfl dX0_leastUnfit_4 ?_
      refine gi_icmp_ge (tgt := 26) hx hb (by omega) (by omega) dX0_leastUnfit_7 rfl (fun h9 => absurd h9 (by omega)) (fun h7 => ?_)
      refine lv_aload_n hx hb dX0_leastUnfit_10 rfl (lv_at hl 1 rfl) ?_
      refine lv_iload_n hx hb dX0_leastUnfit_11 rfl (lv_at hl 0 rfl) ?_
      refine gi_goV (va_runV (As := [.int (nI (i))]) (rest := []) ⟨hx, hb, hml, hown, hts⟩ (c_X0_isFitting l D cA cB cL A wr q n st sz bt so fc ofs tg ch ad nw i hw hk hi (hch i hi) had) (cwV 1 hts gX0_leastUnfit_X0_isFitting rfl rfl rfl (by decide +kernel) ⟨Nat.le_of_ble_eq_true rfl, Nat.le_of_ble_eq_true rfl⟩) (gi_preV (q0 := 0) hK hP hD rfl rfl rfl) rfl rfl hl.1 rfl (lv_room (Nat.le_of_ble_eq_true rfl)) dX0_leastUnfit_12 ⟨Nat.le_of_ble_eq_true rfl, Nat.le_of_ble_eq_true rfl⟩) hS (fun H locs hP hS => ?_)
      refine gi_if_neb (tgt := 20) hx hb dX0_leastUnfit_15 rfl (fun h15 => ?_) (fun h15 => ?_)
      · refine lv_iinc (k := 0) (lv' := [(1, .int (nI (i + 1))), (0, .ref (q 0))]) hx hb dX0_leastUnfit_20 hl rfl (gi_inc _) (by decide) rfl (fun ls hl => ?_)
        refine lv_goto (tgt := 2) hx hb dX0_leastUnfit_23 rfl ?_
        exact ih (i + 1) (by omega) ((if_pos h15).symm.trans hinv) H locs ls hP hS (lv_sub hl [0, 1] rfl)
      · refine lv_iload_n hx hb dX0_leastUnfit_18 rfl (lv_at hl 0 rfl) ?_
        exact gi_iret hx hb hlk hr dX0_leastUnfit_19 ((if_neg (gf_ne_tf h15)).symm.trans hinv) hP hS
  exact loop n 0 (by omega) rfl _ _ _ hP hS (lv_sub hl [0, 1] rfl)
set_option maxHeartbeats 4000000 in
set_option maxRecDepth 100000 in
theorem c_X0_someUnfitHasNoNext (l : Launch) (D : va_G) (cA cB cL : ClassId) (A : Nat → Prop) (wr : va_W) (q : Nat → Nat) (n : Nat) (st : Bool) (sz bt so fc : Nat → Nat) (ofs : Nat → Int32) (tg : Nat → Nat) (ch : Nat → Int32) (ad : Nat → Nat) (nw : Nat → Nat) (hw : gf_wf n fc sz bt so tg) (hk : gf_nk n fc nw) (hch : ∀ i, i < n → ch i = gf_c fc nw i) (had : ∀ j, j ≤ n → ad j = gf_ad fc sz nw j) : Met l yX0_someUnfitHasNoNext wsX0_someUnfitHasNoNext ({ frames := 4, cells := 0, slots := 0, locals := 91 }) (gPre D vwCl [(cA, .int), (cB, .boolean), (cL, .long)] ((xw q cA n st sz bt so fc ofs tg ch ad) ++ wr) A [.ref (q 0)]) (gPost (some (.int (bI (gf_lb (gf_fit fc sz bt so tg ofs nw) fc nw n 0)))) D vwCl ((xw q cA n st sz bt so fc ofs tg ch ad) ++ wr) A) 0 0 A := by
  refine Met.ofW (cc := cX0_someUnfitHasNoNext) (maxL := 2) (ret := (some .boolean)) (by decide) rfl ?_
  intro p e s m args below meth c s₁ B hml hv
  obtain ⟨rfl, hP, hK, hD⟩ := hv
  have hx := B.exec
  have hb := B.bytes
  have hr := B.returns
  have hlk := B.notSynchronized
  have hts := atoms_spec (ws := wsX0_someUnfitHasNoNext) B.pre
  have hown : s.vm.findClass RX0 = some m.cls := findClass_of_methodNamed B.named
  have hS : va_S A s.heap s.heap [] := va_S.rf
  have hl := lv_entry ([.ref (q 0)]) (n := 2) (Nat.le_of_ble_eq_true rfl)
  rw [lg_entry_eq]
  generalize (lg_sl ([.ref (q 0)]) ++ List.replicate (2 - (lg_sl ([.ref (q 0)])).length) Slot.unset).toArray = ls at hl ⊢
  have hl : lv_has ls 2 [(0, .ref (q 0))] := hl
  have hin : ∀ w ∈ u_ws RX0 TX0 10, w ∈ wsX0_someUnfitHasNoNext := fun w h => List.mem_cons_of_mem _ (inTX0 w h)
  have hf19 := hts _ (List.mem_cons_of_mem _ tfX0_19)
  have hf28 := hts _ (List.mem_cons_of_mem _ tfX0_28)
  have hf34 := hts _ (List.mem_cons_of_mem _ tfX0_34)
  have hn := hw.1
  refine lv_iconst (v := nI (0)) hx hb dX0_someUnfitHasNoNext_0 (by decide) ?_
  refine lv_istore_n (lv' := [(1, .int (nI (0))), (0, .ref (q 0))]) hx hb dX0_someUnfitHasNoNext_1 rfl hl (by decide) rfl (fun ls hl => ?_)
  have loop : ∀ (k i : Nat), i + k = n → gf_lb (gf_fit fc sz bt so tg ofs nw) fc nw k i = gf_lb (gf_fit fc sz bt so tg ofs nw) fc nw n 0 → ∀ (H : Heap) (locs : List Loc) (ls : Array Slot), va_P D vwCl ((xw q cA n st sz bt so fc ofs tg ch ad) ++ wr) H → va_S A s.heap H locs → lv_has ls 2 [(1, .int (nI (i))), (0, .ref (q 0))] → W p l e (headSpec wsX0_someUnfitHasNoNext ({ frames := 4, cells := 0, slots := 0, locals := 91 })).room s m ([.ref (q 0)] : List Value).toArray below meth c H locs 0 0 (MQ below (gPost (some (.int (bI (gf_lb (gf_fit fc sz bt so tg ofs nw) fc nw n 0)))) D vwCl ((xw q cA n st sz bt so fc ofs tg ch ad) ++ wr) A) ([.ref (q 0)] : List Value).toArray s 0 0 A) (F0 m 2 ls []) := by
    intro k
    induction k with
    | zero =>
      intro i hik hinv H locs ls hP hS hl
      have h9 : n = i := by omega
      subst h9
      have hD : va_D A ((xw q cA n st sz bt so fc ofs tg ch ad) ++ wr) := gD_same hD rfl
      refine lv_iload_n hx hb dX0_someUnfitHasNoNext_2 rfl (lv_at hl 0 rfl) ?_
      refine lv_aload_n hx hb dX0_someUnfitHasNoNext_3 rfl (lv_at hl 1 rfl) ?_
      refine va_get (D := D) (ci := 0) (v := .int (nI (n))) (C := RX0) (T := TX0) (N := 10) hx hb hts hin hown hK hP 0 rfl rfl 8 (by decide) hf34 (fun _ h9 => h9) rfl dX0_someUnfitHasNoNext_4 ?_
      refine gi_icmp_ge (tgt := 43) hx hb (by omega) (by omega) dX0_someUnfitHasNoNext_7 rfl (fun h7 => ?_) (fun h9 => absurd h9 (by omega))
      refine lv_iconst (v := nI (0)) hx hb dX0_someUnfitHasNoNext_43 (by decide) ?_
      exact gi_zret hx hb hlk hr dX0_someUnfitHasNoNext_44 (bR_f (show gf_lb (gf_fit fc sz bt so tg ofs nw) fc nw n 0 = false from hinv.symm)) hP hS
    | succ k ih =>
      intro i hik hinv H locs ls hP hS hl
      have hi : i < n := by omega
      have hD : va_D A ((xw q cA n st sz bt so fc ofs tg ch ad) ++ wr) := gD_same hD rfl
      refine lv_iload_n hx hb dX0_someUnfitHasNoNext_2 rfl (lv_at hl 0 rfl) ?_
      refine lv_aload_n hx hb dX0_someUnfitHasNoNext_3 rfl (lv_at hl 1 rfl) ?_
      refine va_get (D := D) (ci := 0) (v := .int (nI (n))) (C := RX0) (T := TX0) (N := 10) hx hb hts hin hown hK hP 0 rfl rfl 8 (by decide) hf34 (fun _ h9 => h9) rfl dX0_someUnfitHasNoNext_4 ?_
      refine gi_icmp_ge (tgt := 43) hx hb (by omega) (by omega) dX0_someUnfitHasNoNext_7 rfl (fun h9 => absurd h9 (by omega)) (fun h7 => ?_)
      have hn3 := gf_nk_le hw hk hi
      have hfb := (hw.2 i hi).1
      refine lv_aload_n hx hb dX0_someUnfitHasNoNext_10 rfl (lv_at hl 1 rfl) ?_
      refine va_get (D := D) (ci := 0) (v := .ref (q 7)) (C := RX0) (T := TX0) (N := 10) hx hb hts hin hown hK hP 0 rfl rfl 6 (by decide) hf28 (fun _ h9 => h9) rfl dX0_someUnfitHasNoNext_11 ?_
      refine lv_iload_n hx hb dX0_someUnfitHasNoNext_14 rfl (lv_at hl 0 rfl) ?_
      refine gi_aldI hx hb hK hP 7 0 ch rfl rfl (by omega) (by decide) dX0_someUnfitHasNoNext_15 ?_
      refine gi_top (y := (gf_c fc nw i)) (hch i hi) ?_
      refine lv_iconst (v := nI (1)) hx hb dX0_someUnfitHasNoNext_16 (by decide) ?_
      refine lv_iadd hx hb dX0_someUnfitHasNoNext_17 ?_
      refine gi_top (y := (nI (if fc i = 0 then 0 else nw i + 1))) (gf_c_inc fc nw i) ?_
      refine lv_aload_n hx hb dX0_someUnfitHasNoNext_18 rfl (lv_at hl 1 rfl) ?_
      refine va_get (D := D) (ci := 0) (v := .ref (q 4)) (C := RX0) (T := TX0) (N := 10) hx hb hts hin hown hK hP 0 rfl rfl 3 (by decide) hf19 (fun _ h9 => h9) rfl dX0_someUnfitHasNoNext_19 ?_
      refine lv_iload_n hx hb dX0_someUnfitHasNoNext_22 rfl (lv_at hl 0 rfl) ?_
      refine gi_ald hx hb hK hP 4 0 fc rfl rfl (by omega) (by decide) dX0_someUnfitHasNoNext_23 ?_
      refine gi_icmp_lt (tgt := 37) hx hb (gf_c1_lt hn3) (by omega) dX0_someUnfitHasNoNext_24 rfl (fun h24 => ?_) (fun h24 => ?_)
      · refine lv_iinc (k := 0) (lv' := [(1, .int (nI (i + 1))), (0, .ref (q 0))]) hx hb dX0_someUnfitHasNoNext_37 hl rfl (gi_inc _) (by decide) rfl (fun ls hl => ?_)
        refine lv_goto (tgt := 2) hx hb dX0_someUnfitHasNoNext_40 rfl ?_
        exact ih (i + 1) (by omega) ((if_neg (gf_lb_1 h24)).symm.trans hinv) H locs ls hP hS (lv_sub hl [0, 1] rfl)
      · refine lv_aload_n hx hb dX0_someUnfitHasNoNext_27 rfl (lv_at hl 1 rfl) ?_
        refine lv_iload_n hx hb dX0_someUnfitHasNoNext_28 rfl (lv_at hl 0 rfl) ?_
        refine gi_goV (va_runV (As := [.int (nI (i))]) (rest := []) ⟨hx, hb, hml, hown, hts⟩ (c_X0_isFitting l D cA cB cL A wr q n st sz bt so fc ofs tg ch ad nw i hw hk hi (hch i hi) had) (cwV 1 hts gX0_someUnfitHasNoNext_X0_isFitting rfl rfl rfl (by decide +kernel) ⟨Nat.le_of_ble_eq_true rfl, Nat.le_of_ble_eq_true rfl⟩) (gi_preV (q0 := 0) hK hP hD rfl rfl rfl) rfl rfl hl.1 rfl (lv_room (Nat.le_of_ble_eq_true rfl)) dX0_someUnfitHasNoNext_29 ⟨Nat.le_of_ble_eq_true rfl, Nat.le_of_ble_eq_true rfl⟩) hS (fun H locs hP hS => ?_)
        refine gi_if_neb (tgt := 37) hx hb dX0_someUnfitHasNoNext_32 rfl (fun h32 => ?_) (fun h32 => ?_)
        · refine lv_iinc (k := 0) (lv' := [(1, .int (nI (i + 1))), (0, .ref (q 0))]) hx hb dX0_someUnfitHasNoNext_37 hl rfl (gi_inc _) (by decide) rfl (fun ls hl => ?_)
          refine lv_goto (tgt := 2) hx hb dX0_someUnfitHasNoNext_40 rfl ?_
          exact ih (i + 1) (by omega) ((if_neg (fun z9 => gf_ne_ft h32 z9.2)).symm.trans hinv) H locs ls hP hS (lv_sub hl [0, 1] rfl)
        · refine lv_iconst (v := nI (1)) hx hb dX0_someUnfitHasNoNext_35 (by decide) ?_
          exact gi_zret hx hb hlk hr dX0_someUnfitHasNoNext_36 (bR_t (show gf_lb (gf_fit fc sz bt so tg ofs nw) fc nw n 0 = true from hinv.symm.trans (if_pos ⟨gf_lb_2 h24, h32⟩))) hP hS
  exact loop n 0 (by omega) rfl _ _ _ hP hS (lv_sub hl [0, 1] rfl)
set_option maxHeartbeats 4000000 in
set_option maxRecDepth 100000 in
theorem c_X0_moveUnfitOn (l : Launch) (D : va_G) (cA cB cL : ClassId) (A : Nat → Prop) (wr : va_W) (q : Nat → Nat) (n : Nat) (st : Bool) (sz bt so fc : Nat → Nat) (ofs : Nat → Int32) (tg : Nat → Nat) (ch : Nat → Int32) (ad : Nat → Nat) (nw : Nat → Nat) (hw : gf_wf n fc sz bt so tg) (hk : gf_nk n fc nw) (hch : ∀ i, i < n → ch i = gf_c fc nw i) (had : ∀ j, j ≤ n → ad j = gf_ad fc sz nw j) : Met l yX0_moveUnfitOn wsX0_moveUnfitOn ({ frames := 4, cells := 0, slots := 0, locals := 91 }) (gPre D vwCl [(cA, .int), (cB, .boolean), (cL, .long)] ((xw q cA n st sz bt so fc ofs tg ch ad) ++ wr) A [.ref (q 0)]) (gPost none D vwCl ((xw q cA n st sz bt so fc ofs tg (gf_mv (gf_fit fc sz bt so tg ofs nw) ch n) ad) ++ wr) A) 0 0 A := by
  refine Met.ofW (cc := cX0_moveUnfitOn) (maxL := 2) (ret := none) (by decide) rfl ?_
  intro p e s m args below meth c s₁ B hml hv
  obtain ⟨rfl, hP, hK, hD⟩ := hv
  have hx := B.exec
  have hb := B.bytes
  have hr := B.returns
  have hlk := B.notSynchronized
  have hts := atoms_spec (ws := wsX0_moveUnfitOn) B.pre
  have hown : s.vm.findClass RX0 = some m.cls := findClass_of_methodNamed B.named
  have hS : va_S A s.heap s.heap [] := va_S.rf
  have hl := lv_entry ([.ref (q 0)]) (n := 2) (Nat.le_of_ble_eq_true rfl)
  rw [lg_entry_eq]
  generalize (lg_sl ([.ref (q 0)]) ++ List.replicate (2 - (lg_sl ([.ref (q 0)])).length) Slot.unset).toArray = ls at hl ⊢
  have hl : lv_has ls 2 [(0, .ref (q 0))] := hl
  have hin : ∀ w ∈ u_ws RX0 TX0 10, w ∈ wsX0_moveUnfitOn := fun w h => List.mem_cons_of_mem _ (inTX0 w h)
  have hf28 := hts _ (List.mem_cons_of_mem _ tfX0_28)
  have hf34 := hts _ (List.mem_cons_of_mem _ tfX0_34)
  have hn := hw.1
  refine lv_iconst (v := nI (0)) hx hb dX0_moveUnfitOn_0 (by decide) ?_
  refine lv_istore_n (lv' := [(1, .int (nI (0))), (0, .ref (q 0))]) hx hb dX0_moveUnfitOn_1 rfl hl (by decide) rfl (fun ls hl => ?_)
  have loop : ∀ (k i : Nat), i + k = n → ∀ (H : Heap) (locs : List Loc) (ls : Array Slot), va_P D vwCl ((xw q cA n st sz bt so fc ofs tg (gf_mv (gf_fit fc sz bt so tg ofs nw) ch (i)) ad) ++ wr) H → va_S A s.heap H locs → lv_has ls 2 [(1, .int (nI (i))), (0, .ref (q 0))] → W p l e (headSpec wsX0_moveUnfitOn ({ frames := 4, cells := 0, slots := 0, locals := 91 })).room s m ([.ref (q 0)] : List Value).toArray below meth c H locs 0 0 (MQ below (gPost none D vwCl ((xw q cA n st sz bt so fc ofs tg (gf_mv (gf_fit fc sz bt so tg ofs nw) ch n) ad) ++ wr) A) ([.ref (q 0)] : List Value).toArray s 0 0 A) (F0 m 2 ls []) := by
    intro k
    induction k with
    | zero =>
      intro i hik H locs ls hP hS hl
      have h9 : n = i := by omega
      subst h9
      have hD : va_D A ((xw q cA n st sz bt so fc ofs tg (gf_mv (gf_fit fc sz bt so tg ofs nw) ch (n)) ad) ++ wr) := gD_same hD rfl
      refine lv_iload_n hx hb dX0_moveUnfitOn_2 rfl (lv_at hl 0 rfl) ?_
      refine lv_aload_n hx hb dX0_moveUnfitOn_3 rfl (lv_at hl 1 rfl) ?_
      refine va_get (D := D) (ci := 0) (v := .int (nI (n))) (C := RX0) (T := TX0) (N := 10) hx hb hts hin hown hK hP 0 rfl rfl 8 (by decide) hf34 (fun _ h9 => h9) rfl dX0_moveUnfitOn_4 ?_
      refine gi_icmp_ge (tgt := 34) hx hb (by omega) (by omega) dX0_moveUnfitOn_7 rfl (fun h7 => ?_) (fun h9 => absurd h9 (by omega))
      exact gi_vret hx hb hlk hr dX0_moveUnfitOn_34 hP hS
    | succ k ih =>
      intro i hik H locs ls hP hS hl
      have hi : i < n := by omega
      have hD : va_D A ((xw q cA n st sz bt so fc ofs tg (gf_mv (gf_fit fc sz bt so tg ofs nw) ch (i)) ad) ++ wr) := gD_same hD rfl
      refine lv_iload_n hx hb dX0_moveUnfitOn_2 rfl (lv_at hl 0 rfl) ?_
      refine lv_aload_n hx hb dX0_moveUnfitOn_3 rfl (lv_at hl 1 rfl) ?_
      refine va_get (D := D) (ci := 0) (v := .int (nI (n))) (C := RX0) (T := TX0) (N := 10) hx hb hts hin hown hK hP 0 rfl rfl 8 (by decide) hf34 (fun _ h9 => h9) rfl dX0_moveUnfitOn_4 ?_
      refine gi_icmp_ge (tgt := 34) hx hb (by omega) (by omega) dX0_moveUnfitOn_7 rfl (fun h9 => absurd h9 (by omega)) (fun h7 => ?_)
      refine lv_aload_n hx hb dX0_moveUnfitOn_10 rfl (lv_at hl 1 rfl) ?_
      refine lv_iload_n hx hb dX0_moveUnfitOn_11 rfl (lv_at hl 0 rfl) ?_
      refine gi_goV (va_runV (As := [.int (nI (i))]) (rest := []) ⟨hx, hb, hml, hown, hts⟩ (c_X0_isFitting l D cA cB cL A wr q n st sz bt so fc ofs tg (gf_mv (gf_fit fc sz bt so tg ofs nw) ch (i)) ad nw i hw hk hi ((gf_mv_at (gf_fit fc sz bt so tg ofs nw) ch i).trans (hch i hi)) had) (cwV 1 hts gX0_moveUnfitOn_X0_isFitting rfl rfl rfl (by decide +kernel) ⟨Nat.le_of_ble_eq_true rfl, Nat.le_of_ble_eq_true rfl⟩) (gi_preV (q0 := 0) hK hP hD rfl rfl rfl) rfl rfl hl.1 rfl (lv_room (Nat.le_of_ble_eq_true rfl)) dX0_moveUnfitOn_12 ⟨Nat.le_of_ble_eq_true rfl, Nat.le_of_ble_eq_true rfl⟩) hS (fun H locs hP hS => ?_)
      refine gi_if_neb (tgt := 28) hx hb dX0_moveUnfitOn_15 rfl (fun h15 => ?_) (fun h15 => ?_)
      · refine lv_iinc (k := 0) (lv' := [(1, .int (nI (i + 1))), (0, .ref (q 0))]) hx hb dX0_moveUnfitOn_28 hl rfl (gi_inc _) (by decide) rfl (fun ls hl => ?_)
        refine lv_goto (tgt := 2) hx hb dX0_moveUnfitOn_31 rfl ?_
        rw [gf_mv_k (gf_fit fc sz bt so tg ofs nw) ch i h15] at hP
        exact ih (i + 1) (by omega) H locs ls hP hS (lv_sub hl [0, 1] rfl)
      · refine lv_aload_n hx hb dX0_moveUnfitOn_18 rfl (lv_at hl 1 rfl) ?_
        refine va_get (D := D) (ci := 0) (v := .ref (q 7)) (C := RX0) (T := TX0) (N := 10) hx hb hts hin hown hK hP 0 rfl rfl 6 (by decide) hf28 (fun _ h9 => h9) rfl dX0_moveUnfitOn_19 ?_
        refine lv_iload_n hx hb dX0_moveUnfitOn_22 rfl (lv_at hl 0 rfl) ?_
        refine lv_dup2_11 hx hb dX0_moveUnfitOn_23 rfl rfl ?_
        refine gi_aldI hx hb hK hP 7 0 (gf_mv (gf_fit fc sz bt so tg ofs nw) ch (i)) rfl rfl (by omega) (by decide) dX0_moveUnfitOn_24 ?_
        refine lv_iconst (v := nI (1)) hx hb dX0_moveUnfitOn_25 (by decide) ?_
        refine lv_iadd hx hb dX0_moveUnfitOn_26 ?_
        refine gi_astI hx hb hK hP hD hS 7 0 (gf_mv (gf_fit fc sz bt so tg ofs nw) ch (i)) rfl rfl (by omega) (by decide) dX0_moveUnfitOn_27 (fun H locs hP hD hS => ?_)
        have hP : va_P D vwCl ((xw q cA n st sz bt so fc ofs tg (upd (gf_mv (gf_fit fc sz bt so tg ofs nw) ch (i)) i ((((gf_mv (gf_fit fc sz bt so tg ofs nw) ch (i)) i) + (nI (1))))) ad) ++ wr) H := hP
        have hD : va_D A ((xw q cA n st sz bt so fc ofs tg (upd (gf_mv (gf_fit fc sz bt so tg ofs nw) ch (i)) i ((((gf_mv (gf_fit fc sz bt so tg ofs nw) ch (i)) i) + (nI (1))))) ad) ++ wr) := hD
        refine lv_iinc (k := 0) (lv' := [(1, .int (nI (i + 1))), (0, .ref (q 0))]) hx hb dX0_moveUnfitOn_28 hl rfl (gi_inc _) (by decide) rfl (fun ls hl => ?_)
        refine lv_goto (tgt := 2) hx hb dX0_moveUnfitOn_31 rfl ?_
        rw [gf_mv_s (gf_fit fc sz bt so tg ofs nw) ch i h15] at hP
        exact ih (i + 1) (by omega) H locs ls hP hS (lv_sub hl [0, 1] rfl)
  rw [← gf_mv_0 (gf_fit fc sz bt so tg ofs nw) ch] at hP
  exact loop n 0 (by omega) _ _ _ hP hS (lv_sub hl [0, 1] rfl)
