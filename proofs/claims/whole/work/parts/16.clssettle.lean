set_option maxHeartbeats 4000000 in
set_option maxRecDepth 100000 in
theorem ok_X0_settle (l : Launch) (D : va_G) (cA cB cL : ClassId) (A : Nat → Prop) (wr : va_W) (q : Nat → Nat) (n : Nat) (st : Bool) (sz bt so fc : Nat → Nat) (ofs : Nat → Int32) (tg : Nat → Nat) (ch : Nat → Int32) (ad : Nat → Nat) (nw0 : Nat → Nat) (r : Nat) (hw : gf_wf n fc sz bt so tg) (hr : r ≤ 360) (hgo : ∀ q9, q9 < r → gf_go n fc sz bt so tg ofs (gf_now n fc sz bt so tg ofs nw0 q9)) (hend : gf_ad fc sz (gf_now n fc sz bt so tg ofs nw0 r) n ≤ 4096) (hall : gf_all n fc sz bt so tg ofs (gf_now n fc sz bt so tg ofs nw0 r)) : Met l yX0_settle wsX0_settle ({ frames := 5, cells := 0, slots := 0, locals := 112 }) (gPre D vwCl [(cA, .int), (cB, .boolean), (cL, .long)] ((xw q cA n st sz bt so fc ofs tg ch ad) ++ wr) A [.ref (q 0)]) (gPost (some (.int (nI (r)))) D vwCl ((xw q cA n true sz bt so fc ofs tg (gf_chr n fc sz bt so tg ofs nw0 ch r) (gf_adr n fc sz bt so tg ofs nw0 ad (r + 1))) ++ wr) A) 0 0 A := by
  refine Met.ofW (cc := cX0_settle) (maxL := 2) (ret := (some .int)) (by decide) rfl ?_
  intro p e s m args below meth c s₁ B hml hv
  obtain ⟨rfl, hP, hK, hD⟩ := hv
  have hx := B.exec
  have hb := B.bytes
  have hr := B.returns
  have hlk := B.notSynchronized
  have hts := atoms_spec (ws := wsX0_settle) B.pre
  have hown : s.vm.findClass RX0 = some m.cls := findClass_of_methodNamed B.named
  have hS : va_S A s.heap s.heap [] := va_S.rf
  have hl := lv_entry ([.ref (q 0)]) (n := 2) (Nat.le_of_ble_eq_true rfl)
  rw [lg_entry_eq]
  generalize (lg_sl ([.ref (q 0)]) ++ List.replicate (2 - (lg_sl ([.ref (q 0)])).length) Slot.unset).toArray = ls at hl ⊢
  have hl : lv_has ls 2 [(0, .ref (q 0))] := hl
  have hin : ∀ w ∈ u_ws RX0 TX0 10, w ∈ wsX0_settle := fun w h => List.mem_cons_of_mem _ (inTX0 w h)
  have hf31 := hts _ (List.mem_cons_of_mem _ tfX0_31)
  have hf34 := hts _ (List.mem_cons_of_mem _ tfX0_34)
  have hf38 := hts _ (List.mem_cons_of_mem _ tfX0_38)
  have hn := hw.1
  refine lv_aload_n hx hb dX0_settle_0 rfl (lv_at hl 0 rfl) ?_
  refine lv_iconst (v := nI (1)) hx hb dX0_settle_1 (by decide) ?_
  refine va_put (D := D) (ci := 0) (v := .int (bI (true))) (ty := .boolean) (C := RX0) (T := TX0) (N := 10) hx hb hts hin tyX0 tyX0_ok nmX0 hown hK hP hD hS 0 rfl rfl 9 (by decide) hf38 (fun _ h9 => h9) rfl (by decide +kernel) (bI_nar _) (bI_fits _) (Nat.le_of_ble_eq_true rfl) dX0_settle_2 (fun H locs hP hD hS => ?_)
  have hP : va_P D vwCl ((xw q cA n true sz bt so fc ofs tg ch ad) ++ wr) H := hP
  have hD : va_D A ((xw q cA n true sz bt so fc ofs tg ch ad) ++ wr) := hD
  refine lv_aload_n hx hb dX0_settle_5 rfl (lv_at hl 0 rfl) ?_
  refine gi_goN (va_runV (As := []) (rest := []) ⟨hx, hb, hml, hown, hts⟩ (c_X0_takeFirstForms l D cA cB cL A wr q n true sz bt so fc ofs tg ch ad hw.1 (fun i hi => (hw.2 i hi).1)) (cwV 0 hts gX0_settle_X0_takeFirstForms rfl rfl rfl (by decide +kernel) ⟨Nat.le_of_ble_eq_true rfl, Nat.le_of_ble_eq_true rfl⟩) (gi_preV (q0 := 0) hK hP hD rfl rfl rfl) rfl rfl hl.1 rfl (lv_room (Nat.le_of_ble_eq_true rfl)) dX0_settle_6 ⟨Nat.le_of_ble_eq_true rfl, Nat.le_of_ble_eq_true rfl⟩) hS (fun H locs hP hS => ?_)
  have hP : va_P D vwCl ((xw q cA n true sz bt so fc ofs tg (gf_chr n fc sz bt so tg ofs nw0 ch 0) ad) ++ wr) H := hP
  have hD : va_D A ((xw q cA n true sz bt so fc ofs tg (gf_chr n fc sz bt so tg ofs nw0 ch 0) ad) ++ wr) := gD_same hD rfl
  refine lv_iconst (v := nI (0)) hx hb dX0_settle_9 (by decide) ?_
  refine lv_istore_n (lv' := [(1, .int (nI (0))), (0, .ref (q 0))]) hx hb dX0_settle_10 rfl hl (by decide) rfl (fun ls hl => ?_)
  have loop : ∀ (k i : Nat), i + k = r → ∀ (H : Heap) (locs : List Loc) (ls : Array Slot), va_P D vwCl ((xw q cA n true sz bt so fc ofs tg (gf_chr n fc sz bt so tg ofs nw0 ch i) (gf_adr n fc sz bt so tg ofs nw0 ad i)) ++ wr) H → va_S A s.heap H locs → lv_has ls 2 [(1, .int (nI (i))), (0, .ref (q 0))] → W p l e (headSpec wsX0_settle ({ frames := 5, cells := 0, slots := 0, locals := 112 })).room s m ([.ref (q 0)] : List Value).toArray below meth c H locs 0 0 (MQ below (gPost (some (.int (nI (r)))) D vwCl ((xw q cA n true sz bt so fc ofs tg (gf_chr n fc sz bt so tg ofs nw0 ch r) (gf_adr n fc sz bt so tg ofs nw0 ad (r + 1))) ++ wr) A) ([.ref (q 0)] : List Value).toArray s 0 0 A) (F0 m 11 ls []) := by
    intro k
    induction k with
    | zero =>
      intro i hik H locs ls hP hS hl
      have h9 : r = i := by omega
      subst h9
      have hD : va_D A ((xw q cA n true sz bt so fc ofs tg (gf_chr n fc sz bt so tg ofs nw0 ch r) (gf_adr n fc sz bt so tg ofs nw0 ad r)) ++ wr) := gD_same hD rfl
      have hk9 := (gf_run r (fun q9 h9 => hgo q9 (by omega))).1
      have hch9 : ∀ j, j < n → gf_chr n fc sz bt so tg ofs nw0 ch r j = gf_c fc (gf_now n fc sz bt so tg ofs nw0 r) j := fun j hj => gf_chr_c n fc sz bt so tg ofs nw0 ch r j hj
      have had9 : ∀ j, j ≤ n → gf_adr n fc sz bt so tg ofs nw0 ad (r + 1) j = gf_ad fc sz (gf_now n fc sz bt so tg ofs nw0 r) j := fun j hj => gf_adr_a n fc sz bt so tg ofs nw0 ad r j hj
      have ha9 := gf_ad_le hw hk9 n (Nat.le_refl n)
      refine lv_iload_n hx hb dX0_settle_11 rfl (lv_at hl 0 rfl) ?_
      refine lv_sipush (v := nI (360)) hx hb dX0_settle_12 (by decide) ?_
      refine gi_icmp_gt (tgt := 84) hx hb (by omega) (by omega) dX0_settle_15 rfl (fun h9 => absurd h9 (by omega)) (fun h15 => ?_)
      refine lv_aload_n hx hb dX0_settle_18 rfl (lv_at hl 1 rfl) ?_
      refine gi_goN (va_runV (As := []) (rest := []) ⟨hx, hb, hml, hown, hts⟩ (c_X0_giveAddresses l D cA cB cL A wr q n true sz bt so fc ofs tg (gf_chr n fc sz bt so tg ofs nw0 ch r) (gf_adr n fc sz bt so tg ofs nw0 ad r) (gf_now n fc sz bt so tg ofs nw0 r) hw hk9 hch9) (cwV 0 hts gX0_settle_X0_giveAddresses rfl rfl rfl (by decide +kernel) ⟨Nat.le_of_ble_eq_true rfl, Nat.le_of_ble_eq_true rfl⟩) (gi_preV (q0 := 0) hK hP hD rfl rfl rfl) rfl rfl hl.1 rfl (lv_room (Nat.le_of_ble_eq_true rfl)) dX0_settle_19 ⟨Nat.le_of_ble_eq_true rfl, Nat.le_of_ble_eq_true rfl⟩) hS (fun H locs hP hS => ?_)
      have hP : va_P D vwCl ((xw q cA n true sz bt so fc ofs tg (gf_chr n fc sz bt so tg ofs nw0 ch r) (gf_adr n fc sz bt so tg ofs nw0 ad (r + 1))) ++ wr) H := hP
      have hD : va_D A ((xw q cA n true sz bt so fc ofs tg (gf_chr n fc sz bt so tg ofs nw0 ch r) (gf_adr n fc sz bt so tg ofs nw0 ad (r + 1))) ++ wr) := gD_same hD rfl
      refine lv_aload_n hx hb dX0_settle_22 rfl (lv_at hl 1 rfl) ?_
      refine va_get (D := D) (ci := 0) (v := .ref (q 8)) (C := RX0) (T := TX0) (N := 10) hx hb hts hin hown hK hP 0 rfl rfl 7 (by decide) hf31 (fun _ h9 => h9) rfl dX0_settle_23 ?_
      refine lv_aload_n hx hb dX0_settle_26 rfl (lv_at hl 1 rfl) ?_
      refine va_get (D := D) (ci := 0) (v := .int (nI (n))) (C := RX0) (T := TX0) (N := 10) hx hb hts hin hown hK hP 0 rfl rfl 8 (by decide) hf34 (fun _ h9 => h9) rfl dX0_settle_27 ?_
      refine gi_ald hx hb hK hP 8 0 (gf_adr n fc sz bt so tg ofs nw0 ad (r + 1)) rfl rfl (by omega) (by decide) dX0_settle_30 ?_
      refine gi_top (y := (nI (gf_ad fc sz (gf_now n fc sz bt so tg ofs nw0 r) n))) (congrArg nI (had9 n (Nat.le_refl n))) ?_
      refine lv_sipush (v := nI (4096)) hx hb dX0_settle_31 (by decide) ?_
      refine gi_icmp_le (tgt := 47) hx hb (by omega) (by omega) dX0_settle_34 rfl (fun h34 => ?_) (fun h9 => absurd h9 (by omega))
      refine lv_aload_n hx hb dX0_settle_47 rfl (lv_at hl 1 rfl) ?_
      refine gi_goV (va_runV (As := []) (rest := []) ⟨hx, hb, hml, hown, hts⟩ (c_X0_leastUnfit l D cA cB cL A wr q n true sz bt so fc ofs tg (gf_chr n fc sz bt so tg ofs nw0 ch r) (gf_adr n fc sz bt so tg ofs nw0 ad (r + 1)) (gf_now n fc sz bt so tg ofs nw0 r) hw hk9 hch9 had9) (cwV 0 hts gX0_settle_X0_leastUnfit rfl rfl rfl (by decide +kernel) ⟨Nat.le_of_ble_eq_true rfl, Nat.le_of_ble_eq_true rfl⟩) (gi_preV (q0 := 0) hK hP hD rfl rfl rfl) rfl rfl hl.1 rfl (lv_room (Nat.le_of_ble_eq_true rfl)) dX0_settle_48 ⟨Nat.le_of_ble_eq_true rfl, Nat.le_of_ble_eq_true rfl⟩) hS (fun H locs hP hS => ?_)
      refine lv_iconst (v := -1) hx hb dX0_settle_51 (by decide) ?_
      refine lv_icmp_ne (tgt := 57) hx hb dX0_settle_52 rfl (fun h9 => absurd h9 (fun z9 => z9 ((gf_lu_iff n (by omega) fc sz bt so tg ofs _).mpr hall))) (fun h52 => ?_)
      refine lv_iload_n hx hb dX0_settle_55 rfl (lv_at hl 0 rfl) ?_
      exact gi_iret hx hb hlk hr dX0_settle_56 (rfl) hP hS
    | succ k ih =>
      intro i hik H locs ls hP hS hl
      have hi : i < r := by omega
      have hg9 := hgo i hi
      have hD : va_D A ((xw q cA n true sz bt so fc ofs tg (gf_chr n fc sz bt so tg ofs nw0 ch i) (gf_adr n fc sz bt so tg ofs nw0 ad i)) ++ wr) := gD_same hD rfl
      have hk9 := (gf_run i (fun q9 h9 => hgo q9 (by omega))).1
      have hch9 : ∀ j, j < n → gf_chr n fc sz bt so tg ofs nw0 ch i j = gf_c fc (gf_now n fc sz bt so tg ofs nw0 i) j := fun j hj => gf_chr_c n fc sz bt so tg ofs nw0 ch i j hj
      have had9 : ∀ j, j ≤ n → gf_adr n fc sz bt so tg ofs nw0 ad (i + 1) j = gf_ad fc sz (gf_now n fc sz bt so tg ofs nw0 i) j := fun j hj => gf_adr_a n fc sz bt so tg ofs nw0 ad i j hj
      have ha9 := gf_ad_le hw hk9 n (Nat.le_refl n)
      have hg1 := hg9.1
      refine lv_iload_n hx hb dX0_settle_11 rfl (lv_at hl 0 rfl) ?_
      refine lv_sipush (v := nI (360)) hx hb dX0_settle_12 (by decide) ?_
      refine gi_icmp_gt (tgt := 84) hx hb (by omega) (by omega) dX0_settle_15 rfl (fun h9 => absurd h9 (by omega)) (fun h15 => ?_)
      refine lv_aload_n hx hb dX0_settle_18 rfl (lv_at hl 1 rfl) ?_
      refine gi_goN (va_runV (As := []) (rest := []) ⟨hx, hb, hml, hown, hts⟩ (c_X0_giveAddresses l D cA cB cL A wr q n true sz bt so fc ofs tg (gf_chr n fc sz bt so tg ofs nw0 ch i) (gf_adr n fc sz bt so tg ofs nw0 ad i) (gf_now n fc sz bt so tg ofs nw0 i) hw hk9 hch9) (cwV 0 hts gX0_settle_X0_giveAddresses rfl rfl rfl (by decide +kernel) ⟨Nat.le_of_ble_eq_true rfl, Nat.le_of_ble_eq_true rfl⟩) (gi_preV (q0 := 0) hK hP hD rfl rfl rfl) rfl rfl hl.1 rfl (lv_room (Nat.le_of_ble_eq_true rfl)) dX0_settle_19 ⟨Nat.le_of_ble_eq_true rfl, Nat.le_of_ble_eq_true rfl⟩) hS (fun H locs hP hS => ?_)
      have hP : va_P D vwCl ((xw q cA n true sz bt so fc ofs tg (gf_chr n fc sz bt so tg ofs nw0 ch i) (gf_adr n fc sz bt so tg ofs nw0 ad (i + 1))) ++ wr) H := hP
      have hD : va_D A ((xw q cA n true sz bt so fc ofs tg (gf_chr n fc sz bt so tg ofs nw0 ch i) (gf_adr n fc sz bt so tg ofs nw0 ad (i + 1))) ++ wr) := gD_same hD rfl
      refine lv_aload_n hx hb dX0_settle_22 rfl (lv_at hl 1 rfl) ?_
      refine va_get (D := D) (ci := 0) (v := .ref (q 8)) (C := RX0) (T := TX0) (N := 10) hx hb hts hin hown hK hP 0 rfl rfl 7 (by decide) hf31 (fun _ h9 => h9) rfl dX0_settle_23 ?_
      refine lv_aload_n hx hb dX0_settle_26 rfl (lv_at hl 1 rfl) ?_
      refine va_get (D := D) (ci := 0) (v := .int (nI (n))) (C := RX0) (T := TX0) (N := 10) hx hb hts hin hown hK hP 0 rfl rfl 8 (by decide) hf34 (fun _ h9 => h9) rfl dX0_settle_27 ?_
      refine gi_ald hx hb hK hP 8 0 (gf_adr n fc sz bt so tg ofs nw0 ad (i + 1)) rfl rfl (by omega) (by decide) dX0_settle_30 ?_
      refine gi_top (y := (nI (gf_ad fc sz (gf_now n fc sz bt so tg ofs nw0 i) n))) (congrArg nI (had9 n (Nat.le_refl n))) ?_
      refine lv_sipush (v := nI (4096)) hx hb dX0_settle_31 (by decide) ?_
      refine gi_icmp_le (tgt := 47) hx hb (by omega) (by omega) dX0_settle_34 rfl (fun h34 => ?_) (fun h9 => absurd h9 (by omega))
      refine lv_aload_n hx hb dX0_settle_47 rfl (lv_at hl 1 rfl) ?_
      refine gi_goV (va_runV (As := []) (rest := []) ⟨hx, hb, hml, hown, hts⟩ (c_X0_leastUnfit l D cA cB cL A wr q n true sz bt so fc ofs tg (gf_chr n fc sz bt so tg ofs nw0 ch i) (gf_adr n fc sz bt so tg ofs nw0 ad (i + 1)) (gf_now n fc sz bt so tg ofs nw0 i) hw hk9 hch9 had9) (cwV 0 hts gX0_settle_X0_leastUnfit rfl rfl rfl (by decide +kernel) ⟨Nat.le_of_ble_eq_true rfl, Nat.le_of_ble_eq_true rfl⟩) (gi_preV (q0 := 0) hK hP hD rfl rfl rfl) rfl rfl hl.1 rfl (lv_room (Nat.le_of_ble_eq_true rfl)) dX0_settle_48 ⟨Nat.le_of_ble_eq_true rfl, Nat.le_of_ble_eq_true rfl⟩) hS (fun H locs hP hS => ?_)
      refine lv_iconst (v := -1) hx hb dX0_settle_51 (by decide) ?_
      refine lv_icmp_ne (tgt := 57) hx hb dX0_settle_52 rfl (fun h52 => ?_) (fun h9 => absurd h9 (fun z9 => hg9.2.1 ((gf_lu_iff n (by omega) fc sz bt so tg ofs _).mp z9)))
      refine lv_aload_n hx hb dX0_settle_57 rfl (lv_at hl 1 rfl) ?_
      refine gi_goV (va_runV (As := []) (rest := []) ⟨hx, hb, hml, hown, hts⟩ (c_X0_someUnfitHasNoNext l D cA cB cL A wr q n true sz bt so fc ofs tg (gf_chr n fc sz bt so tg ofs nw0 ch i) (gf_adr n fc sz bt so tg ofs nw0 ad (i + 1)) (gf_now n fc sz bt so tg ofs nw0 i) hw hk9 hch9 had9) (cwV 0 hts gX0_settle_X0_someUnfitHasNoNext rfl rfl rfl (by decide +kernel) ⟨Nat.le_of_ble_eq_true rfl, Nat.le_of_ble_eq_true rfl⟩) (gi_preV (q0 := 0) hK hP hD rfl rfl rfl) rfl rfl hl.1 rfl (lv_room (Nat.le_of_ble_eq_true rfl)) dX0_settle_58 ⟨Nat.le_of_ble_eq_true rfl, Nat.le_of_ble_eq_true rfl⟩) hS (fun H locs hP hS => ?_)
      refine gi_if_eqb (tgt := 74) hx hb dX0_settle_61 rfl (fun h61 => ?_) (fun h9 => absurd h9 (fun z9 => hg9.2.2 ((gf_last_iff n fc sz bt so tg ofs _).mp z9)))
      refine lv_aload_n hx hb dX0_settle_74 rfl (lv_at hl 1 rfl) ?_
      refine gi_goN (va_runV (As := []) (rest := []) ⟨hx, hb, hml, hown, hts⟩ (c_X0_moveUnfitOn l D cA cB cL A wr q n true sz bt so fc ofs tg (gf_chr n fc sz bt so tg ofs nw0 ch i) (gf_adr n fc sz bt so tg ofs nw0 ad (i + 1)) (gf_now n fc sz bt so tg ofs nw0 i) hw hk9 hch9 had9) (cwV 0 hts gX0_settle_X0_moveUnfitOn rfl rfl rfl (by decide +kernel) ⟨Nat.le_of_ble_eq_true rfl, Nat.le_of_ble_eq_true rfl⟩) (gi_preV (q0 := 0) hK hP hD rfl rfl rfl) rfl rfl hl.1 rfl (lv_room (Nat.le_of_ble_eq_true rfl)) dX0_settle_75 ⟨Nat.le_of_ble_eq_true rfl, Nat.le_of_ble_eq_true rfl⟩) hS (fun H locs hP hS => ?_)
      have hP : va_P D vwCl ((xw q cA n true sz bt so fc ofs tg (gf_chr n fc sz bt so tg ofs nw0 ch (i + 1)) (gf_adr n fc sz bt so tg ofs nw0 ad (i + 1))) ++ wr) H := hP
      have hD : va_D A ((xw q cA n true sz bt so fc ofs tg (gf_chr n fc sz bt so tg ofs nw0 ch (i + 1)) (gf_adr n fc sz bt so tg ofs nw0 ad (i + 1))) ++ wr) := gD_same hD rfl
      refine lv_iinc (k := 0) (lv' := [(1, .int (nI (i + 1))), (0, .ref (q 0))]) hx hb dX0_settle_78 hl rfl (gi_inc _) (by decide) rfl (fun ls hl => ?_)
      refine lv_goto (tgt := 11) hx hb dX0_settle_81 rfl ?_
      exact ih (i + 1) (by omega) H locs ls hP hS (lv_sub hl [0, 1] rfl)
  exact loop r 0 (by omega) _ _ _ hP hS (lv_sub hl [0, 1] rfl)
