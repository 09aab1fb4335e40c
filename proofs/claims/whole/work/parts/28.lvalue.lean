set_option maxHeartbeats 8000000 in
set_option maxRecDepth 100000 in
theorem lc_value {p : Program} {l : Launch} {e : Env} {s : State} {m : MethodId} {below : List Frame} {meth : Method} {c : Code} {b L : Nat} {xs : Nat → Int32} {D : va_G} {cA cB cL : ClassId} {A : Nat → Prop} {qx qm : Nat → Nat} {qo : Nat} (E9 : lwE p l s m meth c b L xs D cA cB cL A qx qm qo) {i : Nat} (hiL : i + 4 ≤ L) (G9 : lwGo p l e s m below meth c b D cA cB cL A qx qm qo i) {n th : Nat} {st : Bool} {sz bt so fc : Nat → Nat} {ofs : Nat → Int32} {tg : Nat → Nat} {ch : Nat → Int32} {ad nw : Nat → Nat} {gr : Nat → Int32} {fo : Nat → Int64} {H : Heap} {locs : List Loc} {ls : Array Slot} (hI : gInv n st sz bt so fc tg ch ad nw) (hP : va_P D vwCl (lwWd qx qm qo cA cB cL n th st sz bt so fc ofs tg ch ad nw gr fo) H) (hS : va_S A s.heap H locs) (hl : lv_has ls 8 [(4, .int (nI (i))), (3, .ref (qo)), (2, .ref (qm 0)), (1, .ref (qx 0)), (0, .ref (b))]) : W p l e room_1 s m #[Value.ref b] below meth c H locs (19 + i) (4103 + 6 * i) (lw_Z below #[Value.ref b] s) (F0 m 393 ls []) := by
  obtain ⟨hx, hb, hml, hown, hts, hXs, hbl, hbA, hL, hl9, hK, hDx, hDm, hX⟩ := E9
  have hw := hI.1
  have hn9 := hw.1
  cases st with
  | false =>
    refine lv_aload_n hx hb dL_law_393 rfl (lv_at hl 3 rfl) ?_
    refine lv_aload_n hx hb dL_law_394 rfl (lv_at hl 4 rfl) ?_
    refine lv_iload hx hb dL_law_395 (lv_at hl 0 rfl) ?_
    refine lv_iconst (v := nI (1)) hx hb dL_law_397 (by decide) ?_
    refine gi_iadd hx hb (i + 1) rfl dL_law_398 ?_
    refine gi_sld hx hb hXs hbl hbA hS (by omega) (by omega) dL_law_399 ?_
    refine lv_aload_n hx hb dL_law_400 rfl (lv_at hl 1 rfl) ?_
    have hD : va_D A ((xw qx cA n false sz bt so fc ofs tg ch ad) ++ (og qo cL fo :: mw qm cA cB n th false sz bt so fc ofs tg nw gr)) := gD_same hDx rfl
    refine gi_goW (vx_runSW (hh := [(0, 8, 11, 13), (0, 8, 14, 25)]) (As := [.ref (qx 0), .int (xs (i + 1)), .ref (qo)]) (rest := []) ⟨hx, hb, hml, hown, hts⟩ (wex1_L_value l hl9 D cA cB cL A (mw qm cA cB n th false sz bt so fc ofs tg nw gr) qo fo qx n sz bt so fc ofs tg ch ad (xs (i + 1))) (vx_cwSW 3 hts gL_law_L_value rfl rfl rfl (by decide +kernel) ⟨Nat.le_of_ble_eq_true rfl, Nat.le_of_ble_eq_true rfl⟩) (gi_preSX hK hP hD hX hS) rfl rfl hl.1 rfl (lv_room (Nat.le_of_ble_eq_true rfl)) dL_law_401 ⟨by show _ ≤ 601024; omega, by show _ ≤ 7293033; omega⟩) hS (fun H locs hP hS => ?_)
    have hP : va_P D vwCl ((xw qx cA n false sz bt so fc ofs tg ch ad) ++ (og qo cL fo :: mw qm cA cB n th false sz bt so fc ofs tg nw gr)) H := hP
    refine lv_istore (lv' := [(5, .int (nI (1))), (4, .int (nI (i))), (3, .ref (qo)), (2, .ref (qm 0)), (1, .ref (qx 0)), (0, .ref (b))]) hx hb dL_law_404 hl (by decide) rfl (fun ls hl => ?_)
    refine lv_aload_n hx hb dL_law_406 rfl (lv_at hl 3 rfl) ?_
    refine lv_aload_n hx hb dL_law_407 rfl (lv_at hl 5 rfl) ?_
    refine lv_iload hx hb dL_law_408 (lv_at hl 1 rfl) ?_
    refine lv_iconst (v := nI (1)) hx hb dL_law_410 (by decide) ?_
    refine gi_iadd hx hb (i + 1) rfl dL_law_411 ?_
    refine gi_sld hx hb hXs hbl hbA hS (by omega) (by omega) dL_law_412 ?_
    have hP2 : va_P D vwCl ((mw qm cA cB n th false sz bt so fc ofs tg nw gr) ++ ((xw qx cA n false sz bt so fc ofs tg ch ad) ++ [og qo cL fo])) H := gP_swap (a := (xw qx cA n false sz bt so fc ofs tg ch ad) ++ [og qo cL fo]) (b := mw qm cA cB n th false sz bt so fc ofs tg nw gr) hP
    have hD2 : va_D A ((mw qm cA cB n th false sz bt so fc ofs tg nw gr) ++ ((xw qx cA n false sz bt so fc ofs tg ch ad) ++ [og qo cL fo])) := gD_same hDm rfl
    refine gi_goW (va_runV (As := [.int (xs (i + 1))]) (rest := []) ⟨hx, hb, hml, hown, hts⟩ (ex1_X1_value l D cA cB cL A ((xw qx cA n false sz bt so fc ofs tg ch ad) ++ [og qo cL fo]) qm n th sz bt so fc ofs tg nw gr (xs (i + 1))) (cwV 1 hts gL_law_X1_value rfl rfl rfl (by decide +kernel) ⟨Nat.le_of_ble_eq_true rfl, Nat.le_of_ble_eq_true rfl⟩) (gi_preV (q0 := 0) hK hP2 hD2 rfl rfl rfl) rfl rfl hl.1 rfl (lv_room (Nat.le_of_ble_eq_true rfl)) dL_law_413 ⟨by show _ ≤ 601024; omega, by show _ ≤ 7293033; omega⟩) hS (fun H locs hP2 hS => ?_)
    have hP : va_P D vwCl ((xw qx cA n false sz bt so fc ofs tg ch ad) ++ (og qo cL fo :: mw qm cA cB n 1 false sz bt so fc ofs tg nw gr)) H := gP_swap (a := mw qm cA cB n 1 false sz bt so fc ofs tg nw gr) (b := (xw qx cA n false sz bt so fc ofs tg ch ad) ++ [og qo cL fo]) hP2
    refine lv_lstore (lv' := [(6, .long (0)), (5, .int (nI (1))), (4, .int (nI (i))), (3, .ref (qo)), (2, .ref (qm 0)), (1, .ref (qx 0)), (0, .ref (b))]) hx hb dL_law_416 hl (by decide) rfl (fun ls hl => ?_)
    refine lv_aload_n hx hb dL_law_418 rfl (lv_at hl 4 rfl) ?_
    have hP2 : va_P D vwCl ((mw qm cA cB n 1 false sz bt so fc ofs tg nw gr) ++ ((xw qx cA n false sz bt so fc ofs tg ch ad) ++ [og qo cL fo])) H := gP_swap (a := (xw qx cA n false sz bt so fc ofs tg ch ad) ++ [og qo cL fo]) (b := mw qm cA cB n 1 false sz bt so fc ofs tg nw gr) hP
    have hD2 : va_D A ((mw qm cA cB n 1 false sz bt so fc ofs tg nw gr) ++ ((xw qx cA n false sz bt so fc ofs tg ch ad) ++ [og qo cL fo])) := gD_same hDm rfl
    refine gi_goW (va_runV (As := []) (rest := []) ⟨hx, hb, hml, hown, hts⟩ (c_X1_thrown l D cA cB cL A ((xw qx cA n false sz bt so fc ofs tg ch ad) ++ [og qo cL fo]) qm n 1 false sz bt so fc ofs tg nw gr) (cwV 0 hts gL_law_X1_thrown rfl rfl rfl (by decide +kernel) ⟨Nat.le_of_ble_eq_true rfl, Nat.le_of_ble_eq_true rfl⟩) (gi_preV (q0 := 0) hK hP2 hD2 rfl rfl rfl) rfl rfl hl.1 rfl (lv_room (Nat.le_of_ble_eq_true rfl)) dL_law_419 ⟨by show _ ≤ 601024; omega, by show _ ≤ 7293033; omega⟩) hS (fun H locs hP2 hS => ?_)
    have hP : va_P D vwCl ((xw qx cA n false sz bt so fc ofs tg ch ad) ++ (og qo cL fo :: mw qm cA cB n 1 false sz bt so fc ofs tg nw gr)) H := gP_swap (a := mw qm cA cB n 1 false sz bt so fc ofs tg nw gr) (b := (xw qx cA n false sz bt so fc ofs tg ch ad) ++ [og qo cL fo]) hP2
    refine lv_iload hx hb dL_law_422 (lv_at hl 1 rfl) ?_
    refine gi_icmp_eq (tgt := 429) hx hb (by omega) (by omega) dL_law_424 rfl (fun h424 => ?_) (fun h9 => absurd h9 (by omega))
    refine lv_iload hx hb dL_law_429 (lv_at hl 1 rfl) ?_
    refine gi_if_ne (tgt := 445) hx hb (by omega) dL_law_431 rfl (fun h431 => ?_) (fun h9 => absurd h9 (by omega))
    refine lv_goto (tgt := 492) hx hb dL_law_445 rfl ?_
    refine W.widen (k := 19 + i + 1) (n := 4103 + 6 * i + 6) (by omega) (by omega) ?_
    exact G9 n 1 false sz bt so fc ofs tg ch ad nw gr fo H locs ls (hI) hP hS (lv_sub hl [2, 3, 4, 5, 6] rfl)
  | true =>
    obtain ⟨hk, hch, had⟩ := hI.2 rfl
    cases hv : gf_isl n (xs (i + 1)) with
    | false =>
      refine lv_aload_n hx hb dL_law_393 rfl (lv_at hl 3 rfl) ?_
      refine lv_aload_n hx hb dL_law_394 rfl (lv_at hl 4 rfl) ?_
      refine lv_iload hx hb dL_law_395 (lv_at hl 0 rfl) ?_
      refine lv_iconst (v := nI (1)) hx hb dL_law_397 (by decide) ?_
      refine gi_iadd hx hb (i + 1) rfl dL_law_398 ?_
      refine gi_sld hx hb hXs hbl hbA hS (by omega) (by omega) dL_law_399 ?_
      refine lv_aload_n hx hb dL_law_400 rfl (lv_at hl 1 rfl) ?_
      have hD : va_D A ((xw qx cA n true sz bt so fc ofs tg ch ad) ++ (og qo cL fo :: mw qm cA cB n th true sz bt so fc ofs tg nw gr)) := gD_same hDx rfl
      refine gi_goW (vx_runSW (hh := [(0, 8, 11, 13), (0, 8, 14, 25)]) (As := [.ref (qx 0), .int (xs (i + 1)), .ref (qo)]) (rest := []) ⟨hx, hb, hml, hown, hts⟩ (wex2_L_value l hl9 D cA cB cL A (mw qm cA cB n th true sz bt so fc ofs tg nw gr) qo fo qx n sz bt so fc ofs tg ch ad (xs (i + 1)) hv) (vx_cwSW 3 hts gL_law_L_value rfl rfl rfl (by decide +kernel) ⟨Nat.le_of_ble_eq_true rfl, Nat.le_of_ble_eq_true rfl⟩) (gi_preSX hK hP hD hX hS) rfl rfl hl.1 rfl (lv_room (Nat.le_of_ble_eq_true rfl)) dL_law_401 ⟨by show _ ≤ 601024; omega, by show _ ≤ 7293033; omega⟩) hS (fun H locs hP hS => ?_)
      have hP : va_P D vwCl ((xw qx cA n true sz bt so fc ofs tg ch ad) ++ (og qo cL fo :: mw qm cA cB n th true sz bt so fc ofs tg nw gr)) H := hP
      refine lv_istore (lv' := [(5, .int (nI (2))), (4, .int (nI (i))), (3, .ref (qo)), (2, .ref (qm 0)), (1, .ref (qx 0)), (0, .ref (b))]) hx hb dL_law_404 hl (by decide) rfl (fun ls hl => ?_)
      refine lv_aload_n hx hb dL_law_406 rfl (lv_at hl 3 rfl) ?_
      refine lv_aload_n hx hb dL_law_407 rfl (lv_at hl 5 rfl) ?_
      refine lv_iload hx hb dL_law_408 (lv_at hl 1 rfl) ?_
      refine lv_iconst (v := nI (1)) hx hb dL_law_410 (by decide) ?_
      refine gi_iadd hx hb (i + 1) rfl dL_law_411 ?_
      refine gi_sld hx hb hXs hbl hbA hS (by omega) (by omega) dL_law_412 ?_
      have hP2 : va_P D vwCl ((mw qm cA cB n th true sz bt so fc ofs tg nw gr) ++ ((xw qx cA n true sz bt so fc ofs tg ch ad) ++ [og qo cL fo])) H := gP_swap (a := (xw qx cA n true sz bt so fc ofs tg ch ad) ++ [og qo cL fo]) (b := mw qm cA cB n th true sz bt so fc ofs tg nw gr) hP
      have hD2 : va_D A ((mw qm cA cB n th true sz bt so fc ofs tg nw gr) ++ ((xw qx cA n true sz bt so fc ofs tg ch ad) ++ [og qo cL fo])) := gD_same hDm rfl
      refine gi_goW (va_runV (As := [.int (xs (i + 1))]) (rest := []) ⟨hx, hb, hml, hown, hts⟩ (ex2_X1_value l D cA cB cL A ((xw qx cA n true sz bt so fc ofs tg ch ad) ++ [og qo cL fo]) qm n th sz bt so fc ofs tg nw gr (xs (i + 1)) hv) (cwV 1 hts gL_law_X1_value rfl rfl rfl (by decide +kernel) ⟨Nat.le_of_ble_eq_true rfl, Nat.le_of_ble_eq_true rfl⟩) (gi_preV (q0 := 0) hK hP2 hD2 rfl rfl rfl) rfl rfl hl.1 rfl (lv_room (Nat.le_of_ble_eq_true rfl)) dL_law_413 ⟨by show _ ≤ 601024; omega, by show _ ≤ 7293033; omega⟩) hS (fun H locs hP2 hS => ?_)
      have hP : va_P D vwCl ((xw qx cA n true sz bt so fc ofs tg ch ad) ++ (og qo cL fo :: mw qm cA cB n 2 true sz bt so fc ofs tg nw gr)) H := gP_swap (a := mw qm cA cB n 2 true sz bt so fc ofs tg nw gr) (b := (xw qx cA n true sz bt so fc ofs tg ch ad) ++ [og qo cL fo]) hP2
      refine lv_lstore (lv' := [(6, .long (0)), (5, .int (nI (2))), (4, .int (nI (i))), (3, .ref (qo)), (2, .ref (qm 0)), (1, .ref (qx 0)), (0, .ref (b))]) hx hb dL_law_416 hl (by decide) rfl (fun ls hl => ?_)
      refine lv_aload_n hx hb dL_law_418 rfl (lv_at hl 4 rfl) ?_
      have hP2 : va_P D vwCl ((mw qm cA cB n 2 true sz bt so fc ofs tg nw gr) ++ ((xw qx cA n true sz bt so fc ofs tg ch ad) ++ [og qo cL fo])) H := gP_swap (a := (xw qx cA n true sz bt so fc ofs tg ch ad) ++ [og qo cL fo]) (b := mw qm cA cB n 2 true sz bt so fc ofs tg nw gr) hP
      have hD2 : va_D A ((mw qm cA cB n 2 true sz bt so fc ofs tg nw gr) ++ ((xw qx cA n true sz bt so fc ofs tg ch ad) ++ [og qo cL fo])) := gD_same hDm rfl
      refine gi_goW (va_runV (As := []) (rest := []) ⟨hx, hb, hml, hown, hts⟩ (c_X1_thrown l D cA cB cL A ((xw qx cA n true sz bt so fc ofs tg ch ad) ++ [og qo cL fo]) qm n 2 true sz bt so fc ofs tg nw gr) (cwV 0 hts gL_law_X1_thrown rfl rfl rfl (by decide +kernel) ⟨Nat.le_of_ble_eq_true rfl, Nat.le_of_ble_eq_true rfl⟩) (gi_preV (q0 := 0) hK hP2 hD2 rfl rfl rfl) rfl rfl hl.1 rfl (lv_room (Nat.le_of_ble_eq_true rfl)) dL_law_419 ⟨by show _ ≤ 601024; omega, by show _ ≤ 7293033; omega⟩) hS (fun H locs hP2 hS => ?_)
      have hP : va_P D vwCl ((xw qx cA n true sz bt so fc ofs tg ch ad) ++ (og qo cL fo :: mw qm cA cB n 2 true sz bt so fc ofs tg nw gr)) H := gP_swap (a := mw qm cA cB n 2 true sz bt so fc ofs tg nw gr) (b := (xw qx cA n true sz bt so fc ofs tg ch ad) ++ [og qo cL fo]) hP2
      refine lv_iload hx hb dL_law_422 (lv_at hl 1 rfl) ?_
      refine gi_icmp_eq (tgt := 429) hx hb (by omega) (by omega) dL_law_424 rfl (fun h424 => ?_) (fun h9 => absurd h9 (by omega))
      refine lv_iload hx hb dL_law_429 (lv_at hl 1 rfl) ?_
      refine gi_if_ne (tgt := 445) hx hb (by omega) dL_law_431 rfl (fun h431 => ?_) (fun h9 => absurd h9 (by omega))
      refine lv_goto (tgt := 492) hx hb dL_law_445 rfl ?_
      refine W.widen (k := 19 + i + 1) (n := 4103 + 6 * i + 6) (by omega) (by omega) ?_
      exact G9 n 2 true sz bt so fc ofs tg ch ad nw gr fo H locs ls (hI) hP hS (lv_sub hl [2, 3, 4, 5, 6] rfl)
    | true =>
      obtain ⟨j, hj, ej⟩ := gf_isl_ex (by omega) hv
      refine lv_aload_n hx hb dL_law_393 rfl (lv_at hl 3 rfl) ?_
      refine lv_aload_n hx hb dL_law_394 rfl (lv_at hl 4 rfl) ?_
      refine lv_iload hx hb dL_law_395 (lv_at hl 0 rfl) ?_
      refine lv_iconst (v := nI (1)) hx hb dL_law_397 (by decide) ?_
      refine gi_iadd hx hb (i + 1) rfl dL_law_398 ?_
      refine gi_sld hx hb hXs hbl hbA hS (by omega) (by omega) dL_law_399 ?_
      refine gi_top (y := (nI (j))) (ej) ?_
      refine lv_aload_n hx hb dL_law_400 rfl (lv_at hl 1 rfl) ?_
      have hD : va_D A ((xw qx cA n true sz bt so fc ofs tg ch ad) ++ (og qo cL fo :: mw qm cA cB n th true sz bt so fc ofs tg nw gr)) := gD_same hDx rfl
      refine gi_goW (vx_runSW (hh := [(0, 8, 11, 13), (0, 8, 14, 25)]) (As := [.ref (qx 0), .int (nI (j)), .ref (qo)]) (rest := []) ⟨hx, hb, hml, hown, hts⟩ (wok_L_value l D cA cB cL A (mw qm cA cB n th true sz bt so fc ofs tg nw gr) qo fo qx n sz bt so fc ofs tg ch ad nw j hw hk hj (hch j hj) had) (vx_cwSW 3 hts gL_law_L_value rfl rfl rfl (by decide +kernel) ⟨Nat.le_of_ble_eq_true rfl, Nat.le_of_ble_eq_true rfl⟩) (gi_preS hK hP hD) rfl rfl hl.1 rfl (lv_room (Nat.le_of_ble_eq_true rfl)) dL_law_401 ⟨by show _ ≤ 601024; omega, by show _ ≤ 7293033; omega⟩) hS (fun H locs hP hS => ?_)
      have hP : va_P D vwCl ((xw qx cA n true sz bt so fc ofs tg ch ad) ++ (og qo cL (vp_updL fo 0 (gf_va fc sz so tg ofs nw j)) :: mw qm cA cB n th true sz bt so fc ofs tg nw gr)) H := hP
      refine lv_istore (lv' := [(5, .int (nI (0))), (4, .int (nI (i))), (3, .ref (qo)), (2, .ref (qm 0)), (1, .ref (qx 0)), (0, .ref (b))]) hx hb dL_law_404 hl (by decide) rfl (fun ls hl => ?_)
      refine lv_aload_n hx hb dL_law_406 rfl (lv_at hl 3 rfl) ?_
      refine lv_aload_n hx hb dL_law_407 rfl (lv_at hl 5 rfl) ?_
      refine lv_iload hx hb dL_law_408 (lv_at hl 1 rfl) ?_
      refine lv_iconst (v := nI (1)) hx hb dL_law_410 (by decide) ?_
      refine gi_iadd hx hb (i + 1) rfl dL_law_411 ?_
      refine gi_sld hx hb hXs hbl hbA hS (by omega) (by omega) dL_law_412 ?_
      refine gi_top (y := (nI (j))) (ej) ?_
      have hP2 : va_P D vwCl ((mw qm cA cB n th true sz bt so fc ofs tg nw gr) ++ ((xw qx cA n true sz bt so fc ofs tg ch ad) ++ [og qo cL (vp_updL fo 0 (gf_va fc sz so tg ofs nw j))])) H := gP_swap (a := (xw qx cA n true sz bt so fc ofs tg ch ad) ++ [og qo cL (vp_updL fo 0 (gf_va fc sz so tg ofs nw j))]) (b := mw qm cA cB n th true sz bt so fc ofs tg nw gr) hP
      have hD2 : va_D A ((mw qm cA cB n th true sz bt so fc ofs tg nw gr) ++ ((xw qx cA n true sz bt so fc ofs tg ch ad) ++ [og qo cL (vp_updL fo 0 (gf_va fc sz so tg ofs nw j))])) := gD_same hDm rfl
      refine gi_goW (va_runV (As := [.int (nI (j))]) (rest := []) ⟨hx, hb, hml, hown, hts⟩ (ok_X1_value l D cA cB cL A ((xw qx cA n true sz bt so fc ofs tg ch ad) ++ [og qo cL (vp_updL fo 0 (gf_va fc sz so tg ofs nw j))]) qm n th sz bt so fc ofs tg nw gr j hw hk hj) (cwV 1 hts gL_law_X1_value rfl rfl rfl (by decide +kernel) ⟨Nat.le_of_ble_eq_true rfl, Nat.le_of_ble_eq_true rfl⟩) (gi_preV (q0 := 0) hK hP2 hD2 rfl rfl rfl) rfl rfl hl.1 rfl (lv_room (Nat.le_of_ble_eq_true rfl)) dL_law_413 ⟨by show _ ≤ 601024; omega, by show _ ≤ 7293033; omega⟩) hS (fun H locs hP2 hS => ?_)
      have hP : va_P D vwCl ((xw qx cA n true sz bt so fc ofs tg ch ad) ++ (og qo cL (vp_updL fo 0 (gf_va fc sz so tg ofs nw j)) :: mw qm cA cB n 0 true sz bt so fc ofs tg nw gr)) H := gP_swap (a := mw qm cA cB n 0 true sz bt so fc ofs tg nw gr) (b := (xw qx cA n true sz bt so fc ofs tg ch ad) ++ [og qo cL (vp_updL fo 0 (gf_va fc sz so tg ofs nw j))]) hP2
      refine lv_lstore (lv' := [(6, .long (gf_va fc sz so tg ofs nw j)), (5, .int (nI (0))), (4, .int (nI (i))), (3, .ref (qo)), (2, .ref (qm 0)), (1, .ref (qx 0)), (0, .ref (b))]) hx hb dL_law_416 hl (by decide) rfl (fun ls hl => ?_)
      refine lv_aload_n hx hb dL_law_418 rfl (lv_at hl 4 rfl) ?_
      have hP2 : va_P D vwCl ((mw qm cA cB n 0 true sz bt so fc ofs tg nw gr) ++ ((xw qx cA n true sz bt so fc ofs tg ch ad) ++ [og qo cL (vp_updL fo 0 (gf_va fc sz so tg ofs nw j))])) H := gP_swap (a := (xw qx cA n true sz bt so fc ofs tg ch ad) ++ [og qo cL (vp_updL fo 0 (gf_va fc sz so tg ofs nw j))]) (b := mw qm cA cB n 0 true sz bt so fc ofs tg nw gr) hP
      have hD2 : va_D A ((mw qm cA cB n 0 true sz bt so fc ofs tg nw gr) ++ ((xw qx cA n true sz bt so fc ofs tg ch ad) ++ [og qo cL (vp_updL fo 0 (gf_va fc sz so tg ofs nw j))])) := gD_same hDm rfl
      refine gi_goW (va_runV (As := []) (rest := []) ⟨hx, hb, hml, hown, hts⟩ (c_X1_thrown l D cA cB cL A ((xw qx cA n true sz bt so fc ofs tg ch ad) ++ [og qo cL (vp_updL fo 0 (gf_va fc sz so tg ofs nw j))]) qm n 0 true sz bt so fc ofs tg nw gr) (cwV 0 hts gL_law_X1_thrown rfl rfl rfl (by decide +kernel) ⟨Nat.le_of_ble_eq_true rfl, Nat.le_of_ble_eq_true rfl⟩) (gi_preV (q0 := 0) hK hP2 hD2 rfl rfl rfl) rfl rfl hl.1 rfl (lv_room (Nat.le_of_ble_eq_true rfl)) dL_law_419 ⟨by show _ ≤ 601024; omega, by show _ ≤ 7293033; omega⟩) hS (fun H locs hP2 hS => ?_)
      have hP : va_P D vwCl ((xw qx cA n true sz bt so fc ofs tg ch ad) ++ (og qo cL (vp_updL fo 0 (gf_va fc sz so tg ofs nw j)) :: mw qm cA cB n 0 true sz bt so fc ofs tg nw gr)) H := gP_swap (a := mw qm cA cB n 0 true sz bt so fc ofs tg nw gr) (b := (xw qx cA n true sz bt so fc ofs tg ch ad) ++ [og qo cL (vp_updL fo 0 (gf_va fc sz so tg ofs nw j))]) hP2
      refine lv_iload hx hb dL_law_422 (lv_at hl 1 rfl) ?_
      refine gi_icmp_eq (tgt := 429) hx hb (by omega) (by omega) dL_law_424 rfl (fun h424 => ?_) (fun h9 => absurd h9 (by omega))
      refine lv_iload hx hb dL_law_429 (lv_at hl 1 rfl) ?_
      refine gi_if_ne (tgt := 445) hx hb (by omega) dL_law_431 rfl (fun h9 => absurd h9 (by omega)) (fun h431 => ?_)
      refine lv_aload_n hx hb dL_law_434 rfl (lv_at hl 3 rfl) ?_
      refine lv_iconst (v := nI (0)) hx hb dL_law_435 (by decide) ?_
      refine gi_lld hx hb hK hP 9 2 (vp_updL fo 0 (gf_va fc sz so tg ofs nw j)) rfl rfl (by decide) (by decide) dL_law_436 ?_
      refine gi_topl (y := (gf_va fc sz so tg ofs nw j)) (if_pos rfl) ?_
      refine lv_lload hx hb dL_law_437 (lv_at hl 0 rfl) ?_
      refine gi_lcmp hx hb dL_law_439 ?_
      refine gi_lif_eq (tgt := 445) hx hb dL_law_440 rfl (fun h440 => ?_) (fun h9 => absurd h9 (fun z9 => z9 rfl))
      refine lv_goto (tgt := 492) hx hb dL_law_445 rfl ?_
      refine W.widen (k := 19 + i + 1) (n := 4103 + 6 * i + 6) (by omega) (by omega) ?_
      exact G9 n 0 true sz bt so fc ofs tg ch ad nw gr (vp_updL fo 0 (gf_va fc sz so tg ofs nw j)) H locs ls (hI) hP hS (lv_sub hl [2, 3, 4, 5, 6] rfl)
