set_option maxHeartbeats 8000000 in
set_option maxRecDepth 100000 in
theorem lc_told {p : Program} {l : Launch} {e : Env} {s : State} {m : MethodId} {below : List Frame} {meth : Method} {c : Code} {b L : Nat} {xs : Nat → Int32} {D : va_G} {cA cB cL : ClassId} {A : Nat → Prop} {qx qm : Nat → Nat} {qo : Nat} (E9 : lwE p l s m meth c b L xs D cA cB cL A qx qm qo) {i : Nat} (hiL : i + 4 ≤ L) (G9 : lwGo p l e s m below meth c b D cA cB cL A qx qm qo i) {n th : Nat} {st : Bool} {sz bt so fc : Nat → Nat} {ofs : Nat → Int32} {tg : Nat → Nat} {ch : Nat → Int32} {ad nw : Nat → Nat} {gr : Nat → Int32} {fo : Nat → Int64} {H : Heap} {locs : List Loc} {ls : Array Slot} (hI : gInv n st sz bt so fc tg ch ad nw) (hP : va_P D vwCl (lwWd qx qm qo cA cB cL n th st sz bt so fc ofs tg ch ad nw gr fo) H) (hS : va_S A s.heap H locs) (hl : lv_has ls 8 [(4, .int (nI (i))), (3, .ref (qo)), (2, .ref (qm 0)), (1, .ref (qx 0)), (0, .ref (b))]) : W p l e room_1 s m #[Value.ref b] below meth c H locs (19 + i) (4103 + 6 * i) (lw_Z below #[Value.ref b] s) (F0 m 325 ls []) := by
  obtain ⟨hx, hb, hml, hown, hts, hXs, hbl, hbA, hL, hl9, hK, hDx, hDm, hX⟩ := E9
  have hw := hI.1
  have hn9 := hw.1
  rcases gf_w3 (xs (i + 2)) with hwt | ⟨w, hw2, ew⟩
  · refine lv_aload_n hx hb dL_law_325 rfl (lv_at hl 3 rfl) ?_
    refine lv_aload_n hx hb dL_law_326 rfl (lv_at hl 4 rfl) ?_
    refine lv_iload hx hb dL_law_327 (lv_at hl 0 rfl) ?_
    refine lv_iconst (v := nI (1)) hx hb dL_law_329 (by decide) ?_
    refine gi_iadd hx hb (i + 1) rfl dL_law_330 ?_
    refine gi_sld hx hb hXs hbl hbA hS (by omega) (by omega) dL_law_331 ?_
    refine lv_aload_n hx hb dL_law_332 rfl (lv_at hl 4 rfl) ?_
    refine lv_iload hx hb dL_law_333 (lv_at hl 0 rfl) ?_
    refine lv_iconst (v := nI (2)) hx hb dL_law_335 (by decide) ?_
    refine gi_iadd hx hb (i + 2) rfl dL_law_336 ?_
    refine gi_sld hx hb hXs hbl hbA hS (by omega) (by omega) dL_law_337 ?_
    refine lv_aload_n hx hb dL_law_338 rfl (lv_at hl 1 rfl) ?_
    have hD : va_D A ((xw qx cA n st sz bt so fc ofs tg ch ad) ++ (og qo cL fo :: mw qm cA cB n th st sz bt so fc ofs tg nw gr)) := gD_same hDx rfl
    refine gi_goW (vx_runSW (hh := [(0, 10, 13, 13), (0, 10, 17, 25), (0, 10, 21, 19)]) (As := [.ref (qx 0), .int (xs (i + 1)), .int (xs (i + 2)), .ref (qo)]) (rest := []) ⟨hx, hb, hml, hown, hts⟩ (wex3_L_told l hl9 D cA cB cL A (mw qm cA cB n th st sz bt so fc ofs tg nw gr) qo fo qx n st sz bt so fc ofs tg ch ad (xs (i + 1)) (xs (i + 2)) (gf_w3n hwt 0 (by decide)) (gf_w3n hwt 1 (by decide)) (gf_w3n hwt 2 (by decide))) (vx_cwSW 4 hts gL_law_L_told rfl rfl rfl (by decide +kernel) ⟨Nat.le_of_ble_eq_true rfl, Nat.le_of_ble_eq_true rfl⟩) (gi_preSX hK hP hD hX hS) rfl rfl hl.1 rfl (lv_room (Nat.le_of_ble_eq_true rfl)) dL_law_339 ⟨by show _ ≤ 601024; omega, by show _ ≤ 7293033; omega⟩) hS (fun H locs hP hS => ?_)
    have hP : va_P D vwCl ((xw qx cA n st sz bt so fc ofs tg ch ad) ++ (og qo cL fo :: mw qm cA cB n th st sz bt so fc ofs tg nw gr)) H := hP
    refine lv_istore (lv' := [(5, .int (nI (3))), (4, .int (nI (i))), (3, .ref (qo)), (2, .ref (qm 0)), (1, .ref (qx 0)), (0, .ref (b))]) hx hb dL_law_342 hl (by decide) rfl (fun ls hl => ?_)
    refine lv_aload_n hx hb dL_law_344 rfl (lv_at hl 3 rfl) ?_
    refine lv_aload_n hx hb dL_law_345 rfl (lv_at hl 5 rfl) ?_
    refine lv_iload hx hb dL_law_346 (lv_at hl 1 rfl) ?_
    refine lv_iconst (v := nI (1)) hx hb dL_law_348 (by decide) ?_
    refine gi_iadd hx hb (i + 1) rfl dL_law_349 ?_
    refine gi_sld hx hb hXs hbl hbA hS (by omega) (by omega) dL_law_350 ?_
    refine lv_aload_n hx hb dL_law_351 rfl (lv_at hl 5 rfl) ?_
    refine lv_iload hx hb dL_law_352 (lv_at hl 1 rfl) ?_
    refine lv_iconst (v := nI (2)) hx hb dL_law_354 (by decide) ?_
    refine gi_iadd hx hb (i + 2) rfl dL_law_355 ?_
    refine gi_sld hx hb hXs hbl hbA hS (by omega) (by omega) dL_law_356 ?_
    have hP2 : va_P D vwCl ((mw qm cA cB n th st sz bt so fc ofs tg nw gr) ++ ((xw qx cA n st sz bt so fc ofs tg ch ad) ++ [og qo cL fo])) H := gP_swap (a := (xw qx cA n st sz bt so fc ofs tg ch ad) ++ [og qo cL fo]) (b := mw qm cA cB n th st sz bt so fc ofs tg nw gr) hP
    have hD2 : va_D A ((mw qm cA cB n th st sz bt so fc ofs tg nw gr) ++ ((xw qx cA n st sz bt so fc ofs tg ch ad) ++ [og qo cL fo])) := gD_same hDm rfl
    refine gi_goW (va_runV (As := [.int (xs (i + 1)), .int (xs (i + 2))]) (rest := []) ⟨hx, hb, hml, hown, hts⟩ (ex3_X1_told l D cA cB cL A ((xw qx cA n st sz bt so fc ofs tg ch ad) ++ [og qo cL fo]) qm n th st sz bt so fc ofs tg nw gr (xs (i + 1)) (xs (i + 2)) hwt) (cwV 2 hts gL_law_X1_told rfl rfl rfl (by decide +kernel) ⟨Nat.le_of_ble_eq_true rfl, Nat.le_of_ble_eq_true rfl⟩) (gi_preV (q0 := 0) hK hP2 hD2 rfl rfl rfl) rfl rfl hl.1 rfl (lv_room (Nat.le_of_ble_eq_true rfl)) dL_law_357 ⟨by show _ ≤ 601024; omega, by show _ ≤ 7293033; omega⟩) hS (fun H locs hP2 hS => ?_)
    have hP : va_P D vwCl ((xw qx cA n st sz bt so fc ofs tg ch ad) ++ (og qo cL fo :: mw qm cA cB n 3 st sz bt so fc ofs tg nw gr)) H := gP_swap (a := mw qm cA cB n 3 st sz bt so fc ofs tg nw gr) (b := (xw qx cA n st sz bt so fc ofs tg ch ad) ++ [og qo cL fo]) hP2
    refine lv_istore (lv' := [(6, .int (nI (0))), (5, .int (nI (3))), (4, .int (nI (i))), (3, .ref (qo)), (2, .ref (qm 0)), (1, .ref (qx 0)), (0, .ref (b))]) hx hb dL_law_360 hl (by decide) rfl (fun ls hl => ?_)
    refine lv_aload_n hx hb dL_law_362 rfl (lv_at hl 4 rfl) ?_
    have hP2 : va_P D vwCl ((mw qm cA cB n 3 st sz bt so fc ofs tg nw gr) ++ ((xw qx cA n st sz bt so fc ofs tg ch ad) ++ [og qo cL fo])) H := gP_swap (a := (xw qx cA n st sz bt so fc ofs tg ch ad) ++ [og qo cL fo]) (b := mw qm cA cB n 3 st sz bt so fc ofs tg nw gr) hP
    have hD2 : va_D A ((mw qm cA cB n 3 st sz bt so fc ofs tg nw gr) ++ ((xw qx cA n st sz bt so fc ofs tg ch ad) ++ [og qo cL fo])) := gD_same hDm rfl
    refine gi_goW (va_runV (As := []) (rest := []) ⟨hx, hb, hml, hown, hts⟩ (c_X1_thrown l D cA cB cL A ((xw qx cA n st sz bt so fc ofs tg ch ad) ++ [og qo cL fo]) qm n 3 st sz bt so fc ofs tg nw gr) (cwV 0 hts gL_law_X1_thrown rfl rfl rfl (by decide +kernel) ⟨Nat.le_of_ble_eq_true rfl, Nat.le_of_ble_eq_true rfl⟩) (gi_preV (q0 := 0) hK hP2 hD2 rfl rfl rfl) rfl rfl hl.1 rfl (lv_room (Nat.le_of_ble_eq_true rfl)) dL_law_363 ⟨by show _ ≤ 601024; omega, by show _ ≤ 7293033; omega⟩) hS (fun H locs hP2 hS => ?_)
    have hP : va_P D vwCl ((xw qx cA n st sz bt so fc ofs tg ch ad) ++ (og qo cL fo :: mw qm cA cB n 3 st sz bt so fc ofs tg nw gr)) H := gP_swap (a := mw qm cA cB n 3 st sz bt so fc ofs tg nw gr) (b := (xw qx cA n st sz bt so fc ofs tg ch ad) ++ [og qo cL fo]) hP2
    refine lv_iload hx hb dL_law_366 (lv_at hl 1 rfl) ?_
    refine gi_icmp_eq (tgt := 373) hx hb (by omega) (by omega) dL_law_368 rfl (fun h368 => ?_) (fun h9 => absurd h9 (by omega))
    refine lv_iload hx hb dL_law_373 (lv_at hl 1 rfl) ?_
    refine gi_if_ne (tgt := 390) hx hb (by omega) dL_law_375 rfl (fun h375 => ?_) (fun h9 => absurd h9 (by omega))
    refine lv_goto (tgt := 492) hx hb dL_law_390 rfl ?_
    refine W.widen (k := 19 + i + 1) (n := 4103 + 6 * i + 6) (by omega) (by omega) ?_
    exact G9 n 3 st sz bt so fc ofs tg ch ad nw gr fo H locs ls (hI) hP hS (lv_sub hl [2, 3, 4, 5, 6] rfl)
  · cases st with
    | false =>
      refine lv_aload_n hx hb dL_law_325 rfl (lv_at hl 3 rfl) ?_
      refine lv_aload_n hx hb dL_law_326 rfl (lv_at hl 4 rfl) ?_
      refine lv_iload hx hb dL_law_327 (lv_at hl 0 rfl) ?_
      refine lv_iconst (v := nI (1)) hx hb dL_law_329 (by decide) ?_
      refine gi_iadd hx hb (i + 1) rfl dL_law_330 ?_
      refine gi_sld hx hb hXs hbl hbA hS (by omega) (by omega) dL_law_331 ?_
      refine lv_aload_n hx hb dL_law_332 rfl (lv_at hl 4 rfl) ?_
      refine lv_iload hx hb dL_law_333 (lv_at hl 0 rfl) ?_
      refine lv_iconst (v := nI (2)) hx hb dL_law_335 (by decide) ?_
      refine gi_iadd hx hb (i + 2) rfl dL_law_336 ?_
      refine gi_sld hx hb hXs hbl hbA hS (by omega) (by omega) dL_law_337 ?_
      refine gi_top (y := (nI (w))) (ew) ?_
      refine lv_aload_n hx hb dL_law_338 rfl (lv_at hl 1 rfl) ?_
      have hD : va_D A ((xw qx cA n false sz bt so fc ofs tg ch ad) ++ (og qo cL fo :: mw qm cA cB n th false sz bt so fc ofs tg nw gr)) := gD_same hDx rfl
      refine gi_goW (vx_runSW (hh := [(0, 10, 13, 13), (0, 10, 17, 25), (0, 10, 21, 19)]) (As := [.ref (qx 0), .int (xs (i + 1)), .int (nI (w)), .ref (qo)]) (rest := []) ⟨hx, hb, hml, hown, hts⟩ (wex1_L_told l hl9 D cA cB cL A (mw qm cA cB n th false sz bt so fc ofs tg nw gr) qo fo qx n sz bt so fc ofs tg ch ad (xs (i + 1)) w hw2) (vx_cwSW 4 hts gL_law_L_told rfl rfl rfl (by decide +kernel) ⟨Nat.le_of_ble_eq_true rfl, Nat.le_of_ble_eq_true rfl⟩) (gi_preSX hK hP hD hX hS) rfl rfl hl.1 rfl (lv_room (Nat.le_of_ble_eq_true rfl)) dL_law_339 ⟨by show _ ≤ 601024; omega, by show _ ≤ 7293033; omega⟩) hS (fun H locs hP hS => ?_)
      have hP : va_P D vwCl ((xw qx cA n false sz bt so fc ofs tg ch ad) ++ (og qo cL fo :: mw qm cA cB n th false sz bt so fc ofs tg nw gr)) H := hP
      refine lv_istore (lv' := [(5, .int (nI (1))), (4, .int (nI (i))), (3, .ref (qo)), (2, .ref (qm 0)), (1, .ref (qx 0)), (0, .ref (b))]) hx hb dL_law_342 hl (by decide) rfl (fun ls hl => ?_)
      refine lv_aload_n hx hb dL_law_344 rfl (lv_at hl 3 rfl) ?_
      refine lv_aload_n hx hb dL_law_345 rfl (lv_at hl 5 rfl) ?_
      refine lv_iload hx hb dL_law_346 (lv_at hl 1 rfl) ?_
      refine lv_iconst (v := nI (1)) hx hb dL_law_348 (by decide) ?_
      refine gi_iadd hx hb (i + 1) rfl dL_law_349 ?_
      refine gi_sld hx hb hXs hbl hbA hS (by omega) (by omega) dL_law_350 ?_
      refine lv_aload_n hx hb dL_law_351 rfl (lv_at hl 5 rfl) ?_
      refine lv_iload hx hb dL_law_352 (lv_at hl 1 rfl) ?_
      refine lv_iconst (v := nI (2)) hx hb dL_law_354 (by decide) ?_
      refine gi_iadd hx hb (i + 2) rfl dL_law_355 ?_
      refine gi_sld hx hb hXs hbl hbA hS (by omega) (by omega) dL_law_356 ?_
      refine gi_top (y := (nI (w))) (ew) ?_
      have hP2 : va_P D vwCl ((mw qm cA cB n th false sz bt so fc ofs tg nw gr) ++ ((xw qx cA n false sz bt so fc ofs tg ch ad) ++ [og qo cL fo])) H := gP_swap (a := (xw qx cA n false sz bt so fc ofs tg ch ad) ++ [og qo cL fo]) (b := mw qm cA cB n th false sz bt so fc ofs tg nw gr) hP
      have hD2 : va_D A ((mw qm cA cB n th false sz bt so fc ofs tg nw gr) ++ ((xw qx cA n false sz bt so fc ofs tg ch ad) ++ [og qo cL fo])) := gD_same hDm rfl
      refine gi_goW (va_runV (As := [.int (xs (i + 1)), .int (nI (w))]) (rest := []) ⟨hx, hb, hml, hown, hts⟩ (ex1_X1_told l D cA cB cL A ((xw qx cA n false sz bt so fc ofs tg ch ad) ++ [og qo cL fo]) qm n th sz bt so fc ofs tg nw gr (xs (i + 1)) w hw2) (cwV 2 hts gL_law_X1_told rfl rfl rfl (by decide +kernel) ⟨Nat.le_of_ble_eq_true rfl, Nat.le_of_ble_eq_true rfl⟩) (gi_preV (q0 := 0) hK hP2 hD2 rfl rfl rfl) rfl rfl hl.1 rfl (lv_room (Nat.le_of_ble_eq_true rfl)) dL_law_357 ⟨by show _ ≤ 601024; omega, by show _ ≤ 7293033; omega⟩) hS (fun H locs hP2 hS => ?_)
      have hP : va_P D vwCl ((xw qx cA n false sz bt so fc ofs tg ch ad) ++ (og qo cL fo :: mw qm cA cB n 1 false sz bt so fc ofs tg nw gr)) H := gP_swap (a := mw qm cA cB n 1 false sz bt so fc ofs tg nw gr) (b := (xw qx cA n false sz bt so fc ofs tg ch ad) ++ [og qo cL fo]) hP2
      refine lv_istore (lv' := [(6, .int (nI (0))), (5, .int (nI (1))), (4, .int (nI (i))), (3, .ref (qo)), (2, .ref (qm 0)), (1, .ref (qx 0)), (0, .ref (b))]) hx hb dL_law_360 hl (by decide) rfl (fun ls hl => ?_)
      refine lv_aload_n hx hb dL_law_362 rfl (lv_at hl 4 rfl) ?_
      have hP2 : va_P D vwCl ((mw qm cA cB n 1 false sz bt so fc ofs tg nw gr) ++ ((xw qx cA n false sz bt so fc ofs tg ch ad) ++ [og qo cL fo])) H := gP_swap (a := (xw qx cA n false sz bt so fc ofs tg ch ad) ++ [og qo cL fo]) (b := mw qm cA cB n 1 false sz bt so fc ofs tg nw gr) hP
      have hD2 : va_D A ((mw qm cA cB n 1 false sz bt so fc ofs tg nw gr) ++ ((xw qx cA n false sz bt so fc ofs tg ch ad) ++ [og qo cL fo])) := gD_same hDm rfl
      refine gi_goW (va_runV (As := []) (rest := []) ⟨hx, hb, hml, hown, hts⟩ (c_X1_thrown l D cA cB cL A ((xw qx cA n false sz bt so fc ofs tg ch ad) ++ [og qo cL fo]) qm n 1 false sz bt so fc ofs tg nw gr) (cwV 0 hts gL_law_X1_thrown rfl rfl rfl (by decide +kernel) ⟨Nat.le_of_ble_eq_true rfl, Nat.le_of_ble_eq_true rfl⟩) (gi_preV (q0 := 0) hK hP2 hD2 rfl rfl rfl) rfl rfl hl.1 rfl (lv_room (Nat.le_of_ble_eq_true rfl)) dL_law_363 ⟨by show _ ≤ 601024; omega, by show _ ≤ 7293033; omega⟩) hS (fun H locs hP2 hS => ?_)
      have hP : va_P D vwCl ((xw qx cA n false sz bt so fc ofs tg ch ad) ++ (og qo cL fo :: mw qm cA cB n 1 false sz bt so fc ofs tg nw gr)) H := gP_swap (a := mw qm cA cB n 1 false sz bt so fc ofs tg nw gr) (b := (xw qx cA n false sz bt so fc ofs tg ch ad) ++ [og qo cL fo]) hP2
      refine lv_iload hx hb dL_law_366 (lv_at hl 1 rfl) ?_
      refine gi_icmp_eq (tgt := 373) hx hb (by omega) (by omega) dL_law_368 rfl (fun h368 => ?_) (fun h9 => absurd h9 (by omega))
      refine lv_iload hx hb dL_law_373 (lv_at hl 1 rfl) ?_
      refine gi_if_ne (tgt := 390) hx hb (by omega) dL_law_375 rfl (fun h375 => ?_) (fun h9 => absurd h9 (by omega))
      refine lv_goto (tgt := 492) hx hb dL_law_390 rfl ?_
      refine W.widen (k := 19 + i + 1) (n := 4103 + 6 * i + 6) (by omega) (by omega) ?_
      exact G9 n 1 false sz bt so fc ofs tg ch ad nw gr fo H locs ls (hI) hP hS (lv_sub hl [2, 3, 4, 5, 6] rfl)
    | true =>
      obtain ⟨hk, hch, had⟩ := hI.2 rfl
      cases hu : gf_ile n (xs (i + 1)) with
      | false =>
        refine lv_aload_n hx hb dL_law_325 rfl (lv_at hl 3 rfl) ?_
        refine lv_aload_n hx hb dL_law_326 rfl (lv_at hl 4 rfl) ?_
        refine lv_iload hx hb dL_law_327 (lv_at hl 0 rfl) ?_
        refine lv_iconst (v := nI (1)) hx hb dL_law_329 (by decide) ?_
        refine gi_iadd hx hb (i + 1) rfl dL_law_330 ?_
        refine gi_sld hx hb hXs hbl hbA hS (by omega) (by omega) dL_law_331 ?_
        refine lv_aload_n hx hb dL_law_332 rfl (lv_at hl 4 rfl) ?_
        refine lv_iload hx hb dL_law_333 (lv_at hl 0 rfl) ?_
        refine lv_iconst (v := nI (2)) hx hb dL_law_335 (by decide) ?_
        refine gi_iadd hx hb (i + 2) rfl dL_law_336 ?_
        refine gi_sld hx hb hXs hbl hbA hS (by omega) (by omega) dL_law_337 ?_
        refine gi_top (y := (nI (w))) (ew) ?_
        refine lv_aload_n hx hb dL_law_338 rfl (lv_at hl 1 rfl) ?_
        have hD : va_D A ((xw qx cA n true sz bt so fc ofs tg ch ad) ++ (og qo cL fo :: mw qm cA cB n th true sz bt so fc ofs tg nw gr)) := gD_same hDx rfl
        refine gi_goW (vx_runSW (hh := [(0, 10, 13, 13), (0, 10, 17, 25), (0, 10, 21, 19)]) (As := [.ref (qx 0), .int (xs (i + 1)), .int (nI (w)), .ref (qo)]) (rest := []) ⟨hx, hb, hml, hown, hts⟩ (wex2_L_told l hl9 D cA cB cL A (mw qm cA cB n th true sz bt so fc ofs tg nw gr) qo fo qx n sz bt so fc ofs tg ch ad (xs (i + 1)) w hw2 (gf_ile_isl hu) (fun _ => hu)) (vx_cwSW 4 hts gL_law_L_told rfl rfl rfl (by decide +kernel) ⟨Nat.le_of_ble_eq_true rfl, Nat.le_of_ble_eq_true rfl⟩) (gi_preSX hK hP hD hX hS) rfl rfl hl.1 rfl (lv_room (Nat.le_of_ble_eq_true rfl)) dL_law_339 ⟨by show _ ≤ 601024; omega, by show _ ≤ 7293033; omega⟩) hS (fun H locs hP hS => ?_)
        have hP : va_P D vwCl ((xw qx cA n true sz bt so fc ofs tg ch ad) ++ (og qo cL fo :: mw qm cA cB n th true sz bt so fc ofs tg nw gr)) H := hP
        refine lv_istore (lv' := [(5, .int (nI (2))), (4, .int (nI (i))), (3, .ref (qo)), (2, .ref (qm 0)), (1, .ref (qx 0)), (0, .ref (b))]) hx hb dL_law_342 hl (by decide) rfl (fun ls hl => ?_)
        refine lv_aload_n hx hb dL_law_344 rfl (lv_at hl 3 rfl) ?_
        refine lv_aload_n hx hb dL_law_345 rfl (lv_at hl 5 rfl) ?_
        refine lv_iload hx hb dL_law_346 (lv_at hl 1 rfl) ?_
        refine lv_iconst (v := nI (1)) hx hb dL_law_348 (by decide) ?_
        refine gi_iadd hx hb (i + 1) rfl dL_law_349 ?_
        refine gi_sld hx hb hXs hbl hbA hS (by omega) (by omega) dL_law_350 ?_
        refine lv_aload_n hx hb dL_law_351 rfl (lv_at hl 5 rfl) ?_
        refine lv_iload hx hb dL_law_352 (lv_at hl 1 rfl) ?_
        refine lv_iconst (v := nI (2)) hx hb dL_law_354 (by decide) ?_
        refine gi_iadd hx hb (i + 2) rfl dL_law_355 ?_
        refine gi_sld hx hb hXs hbl hbA hS (by omega) (by omega) dL_law_356 ?_
        refine gi_top (y := (nI (w))) (ew) ?_
        have hP2 : va_P D vwCl ((mw qm cA cB n th true sz bt so fc ofs tg nw gr) ++ ((xw qx cA n true sz bt so fc ofs tg ch ad) ++ [og qo cL fo])) H := gP_swap (a := (xw qx cA n true sz bt so fc ofs tg ch ad) ++ [og qo cL fo]) (b := mw qm cA cB n th true sz bt so fc ofs tg nw gr) hP
        have hD2 : va_D A ((mw qm cA cB n th true sz bt so fc ofs tg nw gr) ++ ((xw qx cA n true sz bt so fc ofs tg ch ad) ++ [og qo cL fo])) := gD_same hDm rfl
        refine gi_goW (va_runV (As := [.int (xs (i + 1)), .int (nI (w))]) (rest := []) ⟨hx, hb, hml, hown, hts⟩ (ex2_X1_told l D cA cB cL A ((xw qx cA n true sz bt so fc ofs tg ch ad) ++ [og qo cL fo]) qm n th sz bt so fc ofs tg nw gr (xs (i + 1)) w hw2 hu) (cwV 2 hts gL_law_X1_told rfl rfl rfl (by decide +kernel) ⟨Nat.le_of_ble_eq_true rfl, Nat.le_of_ble_eq_true rfl⟩) (gi_preV (q0 := 0) hK hP2 hD2 rfl rfl rfl) rfl rfl hl.1 rfl (lv_room (Nat.le_of_ble_eq_true rfl)) dL_law_357 ⟨by show _ ≤ 601024; omega, by show _ ≤ 7293033; omega⟩) hS (fun H locs hP2 hS => ?_)
        have hP : va_P D vwCl ((xw qx cA n true sz bt so fc ofs tg ch ad) ++ (og qo cL fo :: mw qm cA cB n 2 true sz bt so fc ofs tg nw gr)) H := gP_swap (a := mw qm cA cB n 2 true sz bt so fc ofs tg nw gr) (b := (xw qx cA n true sz bt so fc ofs tg ch ad) ++ [og qo cL fo]) hP2
        refine lv_istore (lv' := [(6, .int (nI (0))), (5, .int (nI (2))), (4, .int (nI (i))), (3, .ref (qo)), (2, .ref (qm 0)), (1, .ref (qx 0)), (0, .ref (b))]) hx hb dL_law_360 hl (by decide) rfl (fun ls hl => ?_)
        refine lv_aload_n hx hb dL_law_362 rfl (lv_at hl 4 rfl) ?_
        have hP2 : va_P D vwCl ((mw qm cA cB n 2 true sz bt so fc ofs tg nw gr) ++ ((xw qx cA n true sz bt so fc ofs tg ch ad) ++ [og qo cL fo])) H := gP_swap (a := (xw qx cA n true sz bt so fc ofs tg ch ad) ++ [og qo cL fo]) (b := mw qm cA cB n 2 true sz bt so fc ofs tg nw gr) hP
        have hD2 : va_D A ((mw qm cA cB n 2 true sz bt so fc ofs tg nw gr) ++ ((xw qx cA n true sz bt so fc ofs tg ch ad) ++ [og qo cL fo])) := gD_same hDm rfl
        refine gi_goW (va_runV (As := []) (rest := []) ⟨hx, hb, hml, hown, hts⟩ (c_X1_thrown l D cA cB cL A ((xw qx cA n true sz bt so fc ofs tg ch ad) ++ [og qo cL fo]) qm n 2 true sz bt so fc ofs tg nw gr) (cwV 0 hts gL_law_X1_thrown rfl rfl rfl (by decide +kernel) ⟨Nat.le_of_ble_eq_true rfl, Nat.le_of_ble_eq_true rfl⟩) (gi_preV (q0 := 0) hK hP2 hD2 rfl rfl rfl) rfl rfl hl.1 rfl (lv_room (Nat.le_of_ble_eq_true rfl)) dL_law_363 ⟨by show _ ≤ 601024; omega, by show _ ≤ 7293033; omega⟩) hS (fun H locs hP2 hS => ?_)
        have hP : va_P D vwCl ((xw qx cA n true sz bt so fc ofs tg ch ad) ++ (og qo cL fo :: mw qm cA cB n 2 true sz bt so fc ofs tg nw gr)) H := gP_swap (a := mw qm cA cB n 2 true sz bt so fc ofs tg nw gr) (b := (xw qx cA n true sz bt so fc ofs tg ch ad) ++ [og qo cL fo]) hP2
        refine lv_iload hx hb dL_law_366 (lv_at hl 1 rfl) ?_
        refine gi_icmp_eq (tgt := 373) hx hb (by omega) (by omega) dL_law_368 rfl (fun h368 => ?_) (fun h9 => absurd h9 (by omega))
        refine lv_iload hx hb dL_law_373 (lv_at hl 1 rfl) ?_
        refine gi_if_ne (tgt := 390) hx hb (by omega) dL_law_375 rfl (fun h375 => ?_) (fun h9 => absurd h9 (by omega))
        refine lv_goto (tgt := 492) hx hb dL_law_390 rfl ?_
        refine W.widen (k := 19 + i + 1) (n := 4103 + 6 * i + 6) (by omega) (by omega) ?_
        exact G9 n 2 true sz bt so fc ofs tg ch ad nw gr fo H locs ls (hI) hP hS (lv_sub hl [2, 3, 4, 5, 6] rfl)
      | true =>
        obtain ⟨j, hj, ej⟩ := gf_ile_ex (by omega) hu
        by_cases hw0 : w = 0
        · subst hw0
          refine lv_aload_n hx hb dL_law_325 rfl (lv_at hl 3 rfl) ?_
          refine lv_aload_n hx hb dL_law_326 rfl (lv_at hl 4 rfl) ?_
          refine lv_iload hx hb dL_law_327 (lv_at hl 0 rfl) ?_
          refine lv_iconst (v := nI (1)) hx hb dL_law_329 (by decide) ?_
          refine gi_iadd hx hb (i + 1) rfl dL_law_330 ?_
          refine gi_sld hx hb hXs hbl hbA hS (by omega) (by omega) dL_law_331 ?_
          refine gi_top (y := (nI (j))) (ej) ?_
          refine lv_aload_n hx hb dL_law_332 rfl (lv_at hl 4 rfl) ?_
          refine lv_iload hx hb dL_law_333 (lv_at hl 0 rfl) ?_
          refine lv_iconst (v := nI (2)) hx hb dL_law_335 (by decide) ?_
          refine gi_iadd hx hb (i + 2) rfl dL_law_336 ?_
          refine gi_sld hx hb hXs hbl hbA hS (by omega) (by omega) dL_law_337 ?_
          refine gi_top (y := (nI (0))) (ew) ?_
          refine lv_aload_n hx hb dL_law_338 rfl (lv_at hl 1 rfl) ?_
          have hD : va_D A ((xw qx cA n true sz bt so fc ofs tg ch ad) ++ (og qo cL fo :: mw qm cA cB n th true sz bt so fc ofs tg nw gr)) := gD_same hDx rfl
          refine gi_goW (vx_runSW (hh := [(0, 10, 13, 13), (0, 10, 17, 25), (0, 10, 21, 19)]) (As := [.ref (qx 0), .int (nI (j)), .int (nI (0)), .ref (qo)]) (rest := []) ⟨hx, hb, hml, hown, hts⟩ (wok0_L_told l D cA cB cL A (mw qm cA cB n th true sz bt so fc ofs tg nw gr) qo fo qx n sz bt so fc ofs tg ch ad j hn9 hj) (vx_cwSW 4 hts gL_law_L_told rfl rfl rfl (by decide +kernel) ⟨Nat.le_of_ble_eq_true rfl, Nat.le_of_ble_eq_true rfl⟩) (gi_preS hK hP hD) rfl rfl hl.1 rfl (lv_room (Nat.le_of_ble_eq_true rfl)) dL_law_339 ⟨by show _ ≤ 601024; omega, by show _ ≤ 7293033; omega⟩) hS (fun H locs hP hS => ?_)
          have hP : va_P D vwCl ((xw qx cA n true sz bt so fc ofs tg ch ad) ++ (og qo cL (vp_updL fo 0 ((nI (ad j)).toInt64)) :: mw qm cA cB n th true sz bt so fc ofs tg nw gr)) H := hP
          refine lv_istore (lv' := [(5, .int (nI (0))), (4, .int (nI (i))), (3, .ref (qo)), (2, .ref (qm 0)), (1, .ref (qx 0)), (0, .ref (b))]) hx hb dL_law_342 hl (by decide) rfl (fun ls hl => ?_)
          refine lv_aload_n hx hb dL_law_344 rfl (lv_at hl 3 rfl) ?_
          refine lv_aload_n hx hb dL_law_345 rfl (lv_at hl 5 rfl) ?_
          refine lv_iload hx hb dL_law_346 (lv_at hl 1 rfl) ?_
          refine lv_iconst (v := nI (1)) hx hb dL_law_348 (by decide) ?_
          refine gi_iadd hx hb (i + 1) rfl dL_law_349 ?_
          refine gi_sld hx hb hXs hbl hbA hS (by omega) (by omega) dL_law_350 ?_
          refine gi_top (y := (nI (j))) (ej) ?_
          refine lv_aload_n hx hb dL_law_351 rfl (lv_at hl 5 rfl) ?_
          refine lv_iload hx hb dL_law_352 (lv_at hl 1 rfl) ?_
          refine lv_iconst (v := nI (2)) hx hb dL_law_354 (by decide) ?_
          refine gi_iadd hx hb (i + 2) rfl dL_law_355 ?_
          refine gi_sld hx hb hXs hbl hbA hS (by omega) (by omega) dL_law_356 ?_
          refine gi_top (y := (nI (0))) (ew) ?_
          have hP2 : va_P D vwCl ((mw qm cA cB n th true sz bt so fc ofs tg nw gr) ++ ((xw qx cA n true sz bt so fc ofs tg ch ad) ++ [og qo cL (vp_updL fo 0 ((nI (ad j)).toInt64))])) H := gP_swap (a := (xw qx cA n true sz bt so fc ofs tg ch ad) ++ [og qo cL (vp_updL fo 0 ((nI (ad j)).toInt64))]) (b := mw qm cA cB n th true sz bt so fc ofs tg nw gr) hP
          have hD2 : va_D A ((mw qm cA cB n th true sz bt so fc ofs tg nw gr) ++ ((xw qx cA n true sz bt so fc ofs tg ch ad) ++ [og qo cL (vp_updL fo 0 ((nI (ad j)).toInt64))])) := gD_same hDm rfl
          refine gi_goW (va_runV (As := [.int (nI (j)), .int (nI (0))]) (rest := []) ⟨hx, hb, hml, hown, hts⟩ (ok0_X1_told l D cA cB cL A ((xw qx cA n true sz bt so fc ofs tg ch ad) ++ [og qo cL (vp_updL fo 0 ((nI (ad j)).toInt64))]) qm n th sz bt so fc ofs tg nw gr j hw hk hj) (cwV 2 hts gL_law_X1_told rfl rfl rfl (by decide +kernel) ⟨Nat.le_of_ble_eq_true rfl, Nat.le_of_ble_eq_true rfl⟩) (gi_preV (q0 := 0) hK hP2 hD2 rfl rfl rfl) rfl rfl hl.1 rfl (lv_room (Nat.le_of_ble_eq_true rfl)) dL_law_357 ⟨by show _ ≤ 601024; omega, by show _ ≤ 7293033; omega⟩) hS (fun H locs hP2 hS => ?_)
          have hP : va_P D vwCl ((xw qx cA n true sz bt so fc ofs tg ch ad) ++ (og qo cL (vp_updL fo 0 ((nI (ad j)).toInt64)) :: mw qm cA cB n 0 true sz bt so fc ofs tg nw gr)) H := gP_swap (a := mw qm cA cB n 0 true sz bt so fc ofs tg nw gr) (b := (xw qx cA n true sz bt so fc ofs tg ch ad) ++ [og qo cL (vp_updL fo 0 ((nI (ad j)).toInt64))]) hP2
          refine gi_top (y := (nI (ad j))) (congrArg nI (had j hj).symm) ?_
          refine lv_istore (lv' := [(6, .int (nI (ad j))), (5, .int (nI (0))), (4, .int (nI (i))), (3, .ref (qo)), (2, .ref (qm 0)), (1, .ref (qx 0)), (0, .ref (b))]) hx hb dL_law_360 hl (by decide) rfl (fun ls hl => ?_)
          refine lv_aload_n hx hb dL_law_362 rfl (lv_at hl 4 rfl) ?_
          have hP2 : va_P D vwCl ((mw qm cA cB n 0 true sz bt so fc ofs tg nw gr) ++ ((xw qx cA n true sz bt so fc ofs tg ch ad) ++ [og qo cL (vp_updL fo 0 ((nI (ad j)).toInt64))])) H := gP_swap (a := (xw qx cA n true sz bt so fc ofs tg ch ad) ++ [og qo cL (vp_updL fo 0 ((nI (ad j)).toInt64))]) (b := mw qm cA cB n 0 true sz bt so fc ofs tg nw gr) hP
          have hD2 : va_D A ((mw qm cA cB n 0 true sz bt so fc ofs tg nw gr) ++ ((xw qx cA n true sz bt so fc ofs tg ch ad) ++ [og qo cL (vp_updL fo 0 ((nI (ad j)).toInt64))])) := gD_same hDm rfl
          refine gi_goW (va_runV (As := []) (rest := []) ⟨hx, hb, hml, hown, hts⟩ (c_X1_thrown l D cA cB cL A ((xw qx cA n true sz bt so fc ofs tg ch ad) ++ [og qo cL (vp_updL fo 0 ((nI (ad j)).toInt64))]) qm n 0 true sz bt so fc ofs tg nw gr) (cwV 0 hts gL_law_X1_thrown rfl rfl rfl (by decide +kernel) ⟨Nat.le_of_ble_eq_true rfl, Nat.le_of_ble_eq_true rfl⟩) (gi_preV (q0 := 0) hK hP2 hD2 rfl rfl rfl) rfl rfl hl.1 rfl (lv_room (Nat.le_of_ble_eq_true rfl)) dL_law_363 ⟨by show _ ≤ 601024; omega, by show _ ≤ 7293033; omega⟩) hS (fun H locs hP2 hS => ?_)
          have hP : va_P D vwCl ((xw qx cA n true sz bt so fc ofs tg ch ad) ++ (og qo cL (vp_updL fo 0 ((nI (ad j)).toInt64)) :: mw qm cA cB n 0 true sz bt so fc ofs tg nw gr)) H := gP_swap (a := mw qm cA cB n 0 true sz bt so fc ofs tg nw gr) (b := (xw qx cA n true sz bt so fc ofs tg ch ad) ++ [og qo cL (vp_updL fo 0 ((nI (ad j)).toInt64))]) hP2
          refine lv_iload hx hb dL_law_366 (lv_at hl 1 rfl) ?_
          refine gi_icmp_eq (tgt := 373) hx hb (by omega) (by omega) dL_law_368 rfl (fun h368 => ?_) (fun h9 => absurd h9 (by omega))
          refine lv_iload hx hb dL_law_373 (lv_at hl 1 rfl) ?_
          refine gi_if_ne (tgt := 390) hx hb (by omega) dL_law_375 rfl (fun h9 => absurd h9 (by omega)) (fun h375 => ?_)
          refine lv_aload_n hx hb dL_law_378 rfl (lv_at hl 3 rfl) ?_
          refine lv_iconst (v := nI (0)) hx hb dL_law_379 (by decide) ?_
          refine gi_lld hx hb hK hP 9 2 (vp_updL fo 0 ((nI (ad j)).toInt64)) rfl rfl (by decide) (by decide) dL_law_380 ?_
          refine gi_topl (y := ((nI (ad j)).toInt64)) (if_pos rfl) ?_
          refine lv_iload hx hb dL_law_381 (lv_at hl 0 rfl) ?_
          refine lv_i2l (v := ((nI (ad j))).toInt64) hx hb dL_law_383 rfl ?_
          refine gi_lcmp hx hb dL_law_384 ?_
          refine gi_lif_eq (tgt := 390) hx hb dL_law_385 rfl (fun h385 => ?_) (fun h9 => absurd h9 (fun z9 => z9 rfl))
          refine lv_goto (tgt := 492) hx hb dL_law_390 rfl ?_
          refine W.widen (k := 19 + i + 1) (n := 4103 + 6 * i + 6) (by omega) (by omega) ?_
          exact G9 n 0 true sz bt so fc ofs tg ch ad nw gr (vp_updL fo 0 ((nI (ad j)).toInt64)) H locs ls (hI) hP hS (lv_sub hl [2, 3, 4, 5, 6] rfl)
        · by_cases hjn : j = n
          · subst hjn
            refine lv_aload_n hx hb dL_law_325 rfl (lv_at hl 3 rfl) ?_
            refine lv_aload_n hx hb dL_law_326 rfl (lv_at hl 4 rfl) ?_
            refine lv_iload hx hb dL_law_327 (lv_at hl 0 rfl) ?_
            refine lv_iconst (v := nI (1)) hx hb dL_law_329 (by decide) ?_
            refine gi_iadd hx hb (i + 1) rfl dL_law_330 ?_
            refine gi_sld hx hb hXs hbl hbA hS (by omega) (by omega) dL_law_331 ?_
            refine gi_top (y := (nI (j))) (ej) ?_
            refine lv_aload_n hx hb dL_law_332 rfl (lv_at hl 4 rfl) ?_
            refine lv_iload hx hb dL_law_333 (lv_at hl 0 rfl) ?_
            refine lv_iconst (v := nI (2)) hx hb dL_law_335 (by decide) ?_
            refine gi_iadd hx hb (i + 2) rfl dL_law_336 ?_
            refine gi_sld hx hb hXs hbl hbA hS (by omega) (by omega) dL_law_337 ?_
            refine gi_top (y := (nI (w))) (ew) ?_
            refine lv_aload_n hx hb dL_law_338 rfl (lv_at hl 1 rfl) ?_
            have hD : va_D A ((xw qx cA j true sz bt so fc ofs tg ch ad) ++ (og qo cL fo :: mw qm cA cB j th true sz bt so fc ofs tg nw gr)) := gD_same hDx rfl
            refine gi_goW (vx_runSW (hh := [(0, 10, 13, 13), (0, 10, 17, 25), (0, 10, 21, 19)]) (As := [.ref (qx 0), .int (nI (j)), .int (nI (w)), .ref (qo)]) (rest := []) ⟨hx, hb, hml, hown, hts⟩ (wex2_L_told l hl9 D cA cB cL A (mw qm cA cB j th true sz bt so fc ofs tg nw gr) qo fo qx j sz bt so fc ofs tg ch ad (nI j) w hw2 (gf_isl_n j (by omega)) (fun z9 => absurd z9 hw0)) (vx_cwSW 4 hts gL_law_L_told rfl rfl rfl (by decide +kernel) ⟨Nat.le_of_ble_eq_true rfl, Nat.le_of_ble_eq_true rfl⟩) (gi_preSX hK hP hD hX hS) rfl rfl hl.1 rfl (lv_room (Nat.le_of_ble_eq_true rfl)) dL_law_339 ⟨by show _ ≤ 601024; omega, by show _ ≤ 7293033; omega⟩) hS (fun H locs hP hS => ?_)
            have hP : va_P D vwCl ((xw qx cA j true sz bt so fc ofs tg ch ad) ++ (og qo cL fo :: mw qm cA cB j th true sz bt so fc ofs tg nw gr)) H := hP
            refine lv_istore (lv' := [(5, .int (nI (2))), (4, .int (nI (i))), (3, .ref (qo)), (2, .ref (qm 0)), (1, .ref (qx 0)), (0, .ref (b))]) hx hb dL_law_342 hl (by decide) rfl (fun ls hl => ?_)
            refine lv_aload_n hx hb dL_law_344 rfl (lv_at hl 3 rfl) ?_
            refine lv_aload_n hx hb dL_law_345 rfl (lv_at hl 5 rfl) ?_
            refine lv_iload hx hb dL_law_346 (lv_at hl 1 rfl) ?_
            refine lv_iconst (v := nI (1)) hx hb dL_law_348 (by decide) ?_
            refine gi_iadd hx hb (i + 1) rfl dL_law_349 ?_
            refine gi_sld hx hb hXs hbl hbA hS (by omega) (by omega) dL_law_350 ?_
            refine gi_top (y := (nI (j))) (ej) ?_
            refine lv_aload_n hx hb dL_law_351 rfl (lv_at hl 5 rfl) ?_
            refine lv_iload hx hb dL_law_352 (lv_at hl 1 rfl) ?_
            refine lv_iconst (v := nI (2)) hx hb dL_law_354 (by decide) ?_
            refine gi_iadd hx hb (i + 2) rfl dL_law_355 ?_
            refine gi_sld hx hb hXs hbl hbA hS (by omega) (by omega) dL_law_356 ?_
            refine gi_top (y := (nI (w))) (ew) ?_
            have hP2 : va_P D vwCl ((mw qm cA cB j th true sz bt so fc ofs tg nw gr) ++ ((xw qx cA j true sz bt so fc ofs tg ch ad) ++ [og qo cL fo])) H := gP_swap (a := (xw qx cA j true sz bt so fc ofs tg ch ad) ++ [og qo cL fo]) (b := mw qm cA cB j th true sz bt so fc ofs tg nw gr) hP
            have hD2 : va_D A ((mw qm cA cB j th true sz bt so fc ofs tg nw gr) ++ ((xw qx cA j true sz bt so fc ofs tg ch ad) ++ [og qo cL fo])) := gD_same hDm rfl
            refine gi_goW (va_runV (As := [.int (nI (j)), .int (nI (w))]) (rest := []) ⟨hx, hb, hml, hown, hts⟩ (ex2n_X1_told l D cA cB cL A ((xw qx cA j true sz bt so fc ofs tg ch ad) ++ [og qo cL fo]) qm j th sz bt so fc ofs tg nw gr w hn9 (show 1 ≤ w by omega) hw2) (cwV 2 hts gL_law_X1_told rfl rfl rfl (by decide +kernel) ⟨Nat.le_of_ble_eq_true rfl, Nat.le_of_ble_eq_true rfl⟩) (gi_preV (q0 := 0) hK hP2 hD2 rfl rfl rfl) rfl rfl hl.1 rfl (lv_room (Nat.le_of_ble_eq_true rfl)) dL_law_357 ⟨by show _ ≤ 601024; omega, by show _ ≤ 7293033; omega⟩) hS (fun H locs hP2 hS => ?_)
            have hP : va_P D vwCl ((xw qx cA j true sz bt so fc ofs tg ch ad) ++ (og qo cL fo :: mw qm cA cB j 2 true sz bt so fc ofs tg nw gr)) H := gP_swap (a := mw qm cA cB j 2 true sz bt so fc ofs tg nw gr) (b := (xw qx cA j true sz bt so fc ofs tg ch ad) ++ [og qo cL fo]) hP2
            refine lv_istore (lv' := [(6, .int (nI (0))), (5, .int (nI (2))), (4, .int (nI (i))), (3, .ref (qo)), (2, .ref (qm 0)), (1, .ref (qx 0)), (0, .ref (b))]) hx hb dL_law_360 hl (by decide) rfl (fun ls hl => ?_)
            refine lv_aload_n hx hb dL_law_362 rfl (lv_at hl 4 rfl) ?_
            have hP2 : va_P D vwCl ((mw qm cA cB j 2 true sz bt so fc ofs tg nw gr) ++ ((xw qx cA j true sz bt so fc ofs tg ch ad) ++ [og qo cL fo])) H := gP_swap (a := (xw qx cA j true sz bt so fc ofs tg ch ad) ++ [og qo cL fo]) (b := mw qm cA cB j 2 true sz bt so fc ofs tg nw gr) hP
            have hD2 : va_D A ((mw qm cA cB j 2 true sz bt so fc ofs tg nw gr) ++ ((xw qx cA j true sz bt so fc ofs tg ch ad) ++ [og qo cL fo])) := gD_same hDm rfl
            refine gi_goW (va_runV (As := []) (rest := []) ⟨hx, hb, hml, hown, hts⟩ (c_X1_thrown l D cA cB cL A ((xw qx cA j true sz bt so fc ofs tg ch ad) ++ [og qo cL fo]) qm j 2 true sz bt so fc ofs tg nw gr) (cwV 0 hts gL_law_X1_thrown rfl rfl rfl (by decide +kernel) ⟨Nat.le_of_ble_eq_true rfl, Nat.le_of_ble_eq_true rfl⟩) (gi_preV (q0 := 0) hK hP2 hD2 rfl rfl rfl) rfl rfl hl.1 rfl (lv_room (Nat.le_of_ble_eq_true rfl)) dL_law_363 ⟨by show _ ≤ 601024; omega, by show _ ≤ 7293033; omega⟩) hS (fun H locs hP2 hS => ?_)
            have hP : va_P D vwCl ((xw qx cA j true sz bt so fc ofs tg ch ad) ++ (og qo cL fo :: mw qm cA cB j 2 true sz bt so fc ofs tg nw gr)) H := gP_swap (a := mw qm cA cB j 2 true sz bt so fc ofs tg nw gr) (b := (xw qx cA j true sz bt so fc ofs tg ch ad) ++ [og qo cL fo]) hP2
            refine lv_iload hx hb dL_law_366 (lv_at hl 1 rfl) ?_
            refine gi_icmp_eq (tgt := 373) hx hb (by omega) (by omega) dL_law_368 rfl (fun h368 => ?_) (fun h9 => absurd h9 (by omega))
            refine lv_iload hx hb dL_law_373 (lv_at hl 1 rfl) ?_
            refine gi_if_ne (tgt := 390) hx hb (by omega) dL_law_375 rfl (fun h375 => ?_) (fun h9 => absurd h9 (by omega))
            refine lv_goto (tgt := 492) hx hb dL_law_390 rfl ?_
            refine W.widen (k := 19 + i + 1) (n := 4103 + 6 * i + 6) (by omega) (by omega) ?_
            exact G9 j 2 true sz bt so fc ofs tg ch ad nw gr fo H locs ls (hI) hP hS (lv_sub hl [2, 3, 4, 5, 6] rfl)
          · have hj2 : j < n := by omega
            by_cases hw1 : w = 1
            · subst hw1
              refine lv_aload_n hx hb dL_law_325 rfl (lv_at hl 3 rfl) ?_
              refine lv_aload_n hx hb dL_law_326 rfl (lv_at hl 4 rfl) ?_
              refine lv_iload hx hb dL_law_327 (lv_at hl 0 rfl) ?_
              refine lv_iconst (v := nI (1)) hx hb dL_law_329 (by decide) ?_
              refine gi_iadd hx hb (i + 1) rfl dL_law_330 ?_
              refine gi_sld hx hb hXs hbl hbA hS (by omega) (by omega) dL_law_331 ?_
              refine gi_top (y := (nI (j))) (ej) ?_
              refine lv_aload_n hx hb dL_law_332 rfl (lv_at hl 4 rfl) ?_
              refine lv_iload hx hb dL_law_333 (lv_at hl 0 rfl) ?_
              refine lv_iconst (v := nI (2)) hx hb dL_law_335 (by decide) ?_
              refine gi_iadd hx hb (i + 2) rfl dL_law_336 ?_
              refine gi_sld hx hb hXs hbl hbA hS (by omega) (by omega) dL_law_337 ?_
              refine gi_top (y := (nI (1))) (ew) ?_
              refine lv_aload_n hx hb dL_law_338 rfl (lv_at hl 1 rfl) ?_
              have hD : va_D A ((xw qx cA n true sz bt so fc ofs tg ch ad) ++ (og qo cL fo :: mw qm cA cB n th true sz bt so fc ofs tg nw gr)) := gD_same hDx rfl
              refine gi_goW (vx_runSW (hh := [(0, 10, 13, 13), (0, 10, 17, 25), (0, 10, 21, 19)]) (As := [.ref (qx 0), .int (nI (j)), .int (nI (1)), .ref (qo)]) (rest := []) ⟨hx, hb, hml, hown, hts⟩ (wok1_L_told l D cA cB cL A (mw qm cA cB n th true sz bt so fc ofs tg nw gr) qo fo qx n sz bt so fc ofs tg ch ad j hn9 hj2) (vx_cwSW 4 hts gL_law_L_told rfl rfl rfl (by decide +kernel) ⟨Nat.le_of_ble_eq_true rfl, Nat.le_of_ble_eq_true rfl⟩) (gi_preS hK hP hD) rfl rfl hl.1 rfl (lv_room (Nat.le_of_ble_eq_true rfl)) dL_law_339 ⟨by show _ ≤ 601024; omega, by show _ ≤ 7293033; omega⟩) hS (fun H locs hP hS => ?_)
              have hP : va_P D vwCl ((xw qx cA n true sz bt so fc ofs tg ch ad) ++ (og qo cL (vp_updL fo 0 ((ch j).toInt64)) :: mw qm cA cB n th true sz bt so fc ofs tg nw gr)) H := hP
              refine lv_istore (lv' := [(5, .int (nI (0))), (4, .int (nI (i))), (3, .ref (qo)), (2, .ref (qm 0)), (1, .ref (qx 0)), (0, .ref (b))]) hx hb dL_law_342 hl (by decide) rfl (fun ls hl => ?_)
              refine lv_aload_n hx hb dL_law_344 rfl (lv_at hl 3 rfl) ?_
              refine lv_aload_n hx hb dL_law_345 rfl (lv_at hl 5 rfl) ?_
              refine lv_iload hx hb dL_law_346 (lv_at hl 1 rfl) ?_
              refine lv_iconst (v := nI (1)) hx hb dL_law_348 (by decide) ?_
              refine gi_iadd hx hb (i + 1) rfl dL_law_349 ?_
              refine gi_sld hx hb hXs hbl hbA hS (by omega) (by omega) dL_law_350 ?_
              refine gi_top (y := (nI (j))) (ej) ?_
              refine lv_aload_n hx hb dL_law_351 rfl (lv_at hl 5 rfl) ?_
              refine lv_iload hx hb dL_law_352 (lv_at hl 1 rfl) ?_
              refine lv_iconst (v := nI (2)) hx hb dL_law_354 (by decide) ?_
              refine gi_iadd hx hb (i + 2) rfl dL_law_355 ?_
              refine gi_sld hx hb hXs hbl hbA hS (by omega) (by omega) dL_law_356 ?_
              refine gi_top (y := (nI (1))) (ew) ?_
              have hP2 : va_P D vwCl ((mw qm cA cB n th true sz bt so fc ofs tg nw gr) ++ ((xw qx cA n true sz bt so fc ofs tg ch ad) ++ [og qo cL (vp_updL fo 0 ((ch j).toInt64))])) H := gP_swap (a := (xw qx cA n true sz bt so fc ofs tg ch ad) ++ [og qo cL (vp_updL fo 0 ((ch j).toInt64))]) (b := mw qm cA cB n th true sz bt so fc ofs tg nw gr) hP
              have hD2 : va_D A ((mw qm cA cB n th true sz bt so fc ofs tg nw gr) ++ ((xw qx cA n true sz bt so fc ofs tg ch ad) ++ [og qo cL (vp_updL fo 0 ((ch j).toInt64))])) := gD_same hDm rfl
              refine gi_goW (va_runV (As := [.int (nI (j)), .int (nI (1))]) (rest := []) ⟨hx, hb, hml, hown, hts⟩ (ok1_X1_told l D cA cB cL A ((xw qx cA n true sz bt so fc ofs tg ch ad) ++ [og qo cL (vp_updL fo 0 ((ch j).toInt64))]) qm n th sz bt so fc ofs tg nw gr j hw hk hj2) (cwV 2 hts gL_law_X1_told rfl rfl rfl (by decide +kernel) ⟨Nat.le_of_ble_eq_true rfl, Nat.le_of_ble_eq_true rfl⟩) (gi_preV (q0 := 0) hK hP2 hD2 rfl rfl rfl) rfl rfl hl.1 rfl (lv_room (Nat.le_of_ble_eq_true rfl)) dL_law_357 ⟨by show _ ≤ 601024; omega, by show _ ≤ 7293033; omega⟩) hS (fun H locs hP2 hS => ?_)
              have hP : va_P D vwCl ((xw qx cA n true sz bt so fc ofs tg ch ad) ++ (og qo cL (vp_updL fo 0 ((ch j).toInt64)) :: mw qm cA cB n 0 true sz bt so fc ofs tg nw gr)) H := gP_swap (a := mw qm cA cB n 0 true sz bt so fc ofs tg nw gr) (b := (xw qx cA n true sz bt so fc ofs tg ch ad) ++ [og qo cL (vp_updL fo 0 ((ch j).toInt64))]) hP2
              refine gi_top (y := (ch j)) ((hch j hj2).symm) ?_
              refine lv_istore (lv' := [(6, .int (ch j)), (5, .int (nI (0))), (4, .int (nI (i))), (3, .ref (qo)), (2, .ref (qm 0)), (1, .ref (qx 0)), (0, .ref (b))]) hx hb dL_law_360 hl (by decide) rfl (fun ls hl => ?_)
              refine lv_aload_n hx hb dL_law_362 rfl (lv_at hl 4 rfl) ?_
              have hP2 : va_P D vwCl ((mw qm cA cB n 0 true sz bt so fc ofs tg nw gr) ++ ((xw qx cA n true sz bt so fc ofs tg ch ad) ++ [og qo cL (vp_updL fo 0 ((ch j).toInt64))])) H := gP_swap (a := (xw qx cA n true sz bt so fc ofs tg ch ad) ++ [og qo cL (vp_updL fo 0 ((ch j).toInt64))]) (b := mw qm cA cB n 0 true sz bt so fc ofs tg nw gr) hP
              have hD2 : va_D A ((mw qm cA cB n 0 true sz bt so fc ofs tg nw gr) ++ ((xw qx cA n true sz bt so fc ofs tg ch ad) ++ [og qo cL (vp_updL fo 0 ((ch j).toInt64))])) := gD_same hDm rfl
              refine gi_goW (va_runV (As := []) (rest := []) ⟨hx, hb, hml, hown, hts⟩ (c_X1_thrown l D cA cB cL A ((xw qx cA n true sz bt so fc ofs tg ch ad) ++ [og qo cL (vp_updL fo 0 ((ch j).toInt64))]) qm n 0 true sz bt so fc ofs tg nw gr) (cwV 0 hts gL_law_X1_thrown rfl rfl rfl (by decide +kernel) ⟨Nat.le_of_ble_eq_true rfl, Nat.le_of_ble_eq_true rfl⟩) (gi_preV (q0 := 0) hK hP2 hD2 rfl rfl rfl) rfl rfl hl.1 rfl (lv_room (Nat.le_of_ble_eq_true rfl)) dL_law_363 ⟨by show _ ≤ 601024; omega, by show _ ≤ 7293033; omega⟩) hS (fun H locs hP2 hS => ?_)
              have hP : va_P D vwCl ((xw qx cA n true sz bt so fc ofs tg ch ad) ++ (og qo cL (vp_updL fo 0 ((ch j).toInt64)) :: mw qm cA cB n 0 true sz bt so fc ofs tg nw gr)) H := gP_swap (a := mw qm cA cB n 0 true sz bt so fc ofs tg nw gr) (b := (xw qx cA n true sz bt so fc ofs tg ch ad) ++ [og qo cL (vp_updL fo 0 ((ch j).toInt64))]) hP2
              refine lv_iload hx hb dL_law_366 (lv_at hl 1 rfl) ?_
              refine gi_icmp_eq (tgt := 373) hx hb (by omega) (by omega) dL_law_368 rfl (fun h368 => ?_) (fun h9 => absurd h9 (by omega))
              refine lv_iload hx hb dL_law_373 (lv_at hl 1 rfl) ?_
              refine gi_if_ne (tgt := 390) hx hb (by omega) dL_law_375 rfl (fun h9 => absurd h9 (by omega)) (fun h375 => ?_)
              refine lv_aload_n hx hb dL_law_378 rfl (lv_at hl 3 rfl) ?_
              refine lv_iconst (v := nI (0)) hx hb dL_law_379 (by decide) ?_
              refine gi_lld hx hb hK hP 9 2 (vp_updL fo 0 ((ch j).toInt64)) rfl rfl (by decide) (by decide) dL_law_380 ?_
              refine gi_topl (y := ((ch j).toInt64)) (if_pos rfl) ?_
              refine lv_iload hx hb dL_law_381 (lv_at hl 0 rfl) ?_
              refine lv_i2l (v := ((ch j)).toInt64) hx hb dL_law_383 rfl ?_
              refine gi_lcmp hx hb dL_law_384 ?_
              refine gi_lif_eq (tgt := 390) hx hb dL_law_385 rfl (fun h385 => ?_) (fun h9 => absurd h9 (fun z9 => z9 rfl))
              refine lv_goto (tgt := 492) hx hb dL_law_390 rfl ?_
              refine W.widen (k := 19 + i + 1) (n := 4103 + 6 * i + 6) (by omega) (by omega) ?_
              exact G9 n 0 true sz bt so fc ofs tg ch ad nw gr (vp_updL fo 0 ((ch j).toInt64)) H locs ls (hI) hP hS (lv_sub hl [2, 3, 4, 5, 6] rfl)
            · have hw22 : w = 2 := by omega
              subst hw22
              refine lv_aload_n hx hb dL_law_325 rfl (lv_at hl 3 rfl) ?_
              refine lv_aload_n hx hb dL_law_326 rfl (lv_at hl 4 rfl) ?_
              refine lv_iload hx hb dL_law_327 (lv_at hl 0 rfl) ?_
              refine lv_iconst (v := nI (1)) hx hb dL_law_329 (by decide) ?_
              refine gi_iadd hx hb (i + 1) rfl dL_law_330 ?_
              refine gi_sld hx hb hXs hbl hbA hS (by omega) (by omega) dL_law_331 ?_
              refine gi_top (y := (nI (j))) (ej) ?_
              refine lv_aload_n hx hb dL_law_332 rfl (lv_at hl 4 rfl) ?_
              refine lv_iload hx hb dL_law_333 (lv_at hl 0 rfl) ?_
              refine lv_iconst (v := nI (2)) hx hb dL_law_335 (by decide) ?_
              refine gi_iadd hx hb (i + 2) rfl dL_law_336 ?_
              refine gi_sld hx hb hXs hbl hbA hS (by omega) (by omega) dL_law_337 ?_
              refine gi_top (y := (nI (2))) (ew) ?_
              refine lv_aload_n hx hb dL_law_338 rfl (lv_at hl 1 rfl) ?_
              have hD : va_D A ((xw qx cA n true sz bt so fc ofs tg ch ad) ++ (og qo cL fo :: mw qm cA cB n th true sz bt so fc ofs tg nw gr)) := gD_same hDx rfl
              refine gi_goW (vx_runSW (hh := [(0, 10, 13, 13), (0, 10, 17, 25), (0, 10, 21, 19)]) (As := [.ref (qx 0), .int (nI (j)), .int (nI (2)), .ref (qo)]) (rest := []) ⟨hx, hb, hml, hown, hts⟩ (wok2_L_told l D cA cB cL A (mw qm cA cB n th true sz bt so fc ofs tg nw gr) qo fo qx n sz bt so fc ofs tg ch ad nw j hw hk hj2 (hch j hj2) had) (vx_cwSW 4 hts gL_law_L_told rfl rfl rfl (by decide +kernel) ⟨Nat.le_of_ble_eq_true rfl, Nat.le_of_ble_eq_true rfl⟩) (gi_preS hK hP hD) rfl rfl hl.1 rfl (lv_room (Nat.le_of_ble_eq_true rfl)) dL_law_339 ⟨by show _ ≤ 601024; omega, by show _ ≤ 7293033; omega⟩) hS (fun H locs hP hS => ?_)
              have hP : va_P D vwCl ((xw qx cA n true sz bt so fc ofs tg ch ad) ++ (og qo cL (vp_updL fo 0 ((bI (gf_fit fc sz bt so tg ofs nw j)).toInt64)) :: mw qm cA cB n th true sz bt so fc ofs tg nw gr)) H := hP
              refine lv_istore (lv' := [(5, .int (nI (0))), (4, .int (nI (i))), (3, .ref (qo)), (2, .ref (qm 0)), (1, .ref (qx 0)), (0, .ref (b))]) hx hb dL_law_342 hl (by decide) rfl (fun ls hl => ?_)
              refine lv_aload_n hx hb dL_law_344 rfl (lv_at hl 3 rfl) ?_
              refine lv_aload_n hx hb dL_law_345 rfl (lv_at hl 5 rfl) ?_
              refine lv_iload hx hb dL_law_346 (lv_at hl 1 rfl) ?_
              refine lv_iconst (v := nI (1)) hx hb dL_law_348 (by decide) ?_
              refine gi_iadd hx hb (i + 1) rfl dL_law_349 ?_
              refine gi_sld hx hb hXs hbl hbA hS (by omega) (by omega) dL_law_350 ?_
              refine gi_top (y := (nI (j))) (ej) ?_
              refine lv_aload_n hx hb dL_law_351 rfl (lv_at hl 5 rfl) ?_
              refine lv_iload hx hb dL_law_352 (lv_at hl 1 rfl) ?_
              refine lv_iconst (v := nI (2)) hx hb dL_law_354 (by decide) ?_
              refine gi_iadd hx hb (i + 2) rfl dL_law_355 ?_
              refine gi_sld hx hb hXs hbl hbA hS (by omega) (by omega) dL_law_356 ?_
              refine gi_top (y := (nI (2))) (ew) ?_
              have hP2 : va_P D vwCl ((mw qm cA cB n th true sz bt so fc ofs tg nw gr) ++ ((xw qx cA n true sz bt so fc ofs tg ch ad) ++ [og qo cL (vp_updL fo 0 ((bI (gf_fit fc sz bt so tg ofs nw j)).toInt64))])) H := gP_swap (a := (xw qx cA n true sz bt so fc ofs tg ch ad) ++ [og qo cL (vp_updL fo 0 ((bI (gf_fit fc sz bt so tg ofs nw j)).toInt64))]) (b := mw qm cA cB n th true sz bt so fc ofs tg nw gr) hP
              have hD2 : va_D A ((mw qm cA cB n th true sz bt so fc ofs tg nw gr) ++ ((xw qx cA n true sz bt so fc ofs tg ch ad) ++ [og qo cL (vp_updL fo 0 ((bI (gf_fit fc sz bt so tg ofs nw j)).toInt64))])) := gD_same hDm rfl
              refine gi_goW (va_runV (As := [.int (nI (j)), .int (nI (2))]) (rest := []) ⟨hx, hb, hml, hown, hts⟩ (ok2_X1_told l D cA cB cL A ((xw qx cA n true sz bt so fc ofs tg ch ad) ++ [og qo cL (vp_updL fo 0 ((bI (gf_fit fc sz bt so tg ofs nw j)).toInt64))]) qm n th sz bt so fc ofs tg nw gr j hw hk hj2) (cwV 2 hts gL_law_X1_told rfl rfl rfl (by decide +kernel) ⟨Nat.le_of_ble_eq_true rfl, Nat.le_of_ble_eq_true rfl⟩) (gi_preV (q0 := 0) hK hP2 hD2 rfl rfl rfl) rfl rfl hl.1 rfl (lv_room (Nat.le_of_ble_eq_true rfl)) dL_law_357 ⟨by show _ ≤ 601024; omega, by show _ ≤ 7293033; omega⟩) hS (fun H locs hP2 hS => ?_)
              have hP : va_P D vwCl ((xw qx cA n true sz bt so fc ofs tg ch ad) ++ (og qo cL (vp_updL fo 0 ((bI (gf_fit fc sz bt so tg ofs nw j)).toInt64)) :: mw qm cA cB n 0 true sz bt so fc ofs tg nw gr)) H := gP_swap (a := mw qm cA cB n 0 true sz bt so fc ofs tg nw gr) (b := (xw qx cA n true sz bt so fc ofs tg ch ad) ++ [og qo cL (vp_updL fo 0 ((bI (gf_fit fc sz bt so tg ofs nw j)).toInt64))]) hP2
              refine lv_istore (lv' := [(6, .int (bI (gf_fit fc sz bt so tg ofs nw j))), (5, .int (nI (0))), (4, .int (nI (i))), (3, .ref (qo)), (2, .ref (qm 0)), (1, .ref (qx 0)), (0, .ref (b))]) hx hb dL_law_360 hl (by decide) rfl (fun ls hl => ?_)
              refine lv_aload_n hx hb dL_law_362 rfl (lv_at hl 4 rfl) ?_
              have hP2 : va_P D vwCl ((mw qm cA cB n 0 true sz bt so fc ofs tg nw gr) ++ ((xw qx cA n true sz bt so fc ofs tg ch ad) ++ [og qo cL (vp_updL fo 0 ((bI (gf_fit fc sz bt so tg ofs nw j)).toInt64))])) H := gP_swap (a := (xw qx cA n true sz bt so fc ofs tg ch ad) ++ [og qo cL (vp_updL fo 0 ((bI (gf_fit fc sz bt so tg ofs nw j)).toInt64))]) (b := mw qm cA cB n 0 true sz bt so fc ofs tg nw gr) hP
              have hD2 : va_D A ((mw qm cA cB n 0 true sz bt so fc ofs tg nw gr) ++ ((xw qx cA n true sz bt so fc ofs tg ch ad) ++ [og qo cL (vp_updL fo 0 ((bI (gf_fit fc sz bt so tg ofs nw j)).toInt64))])) := gD_same hDm rfl
              refine gi_goW (va_runV (As := []) (rest := []) ⟨hx, hb, hml, hown, hts⟩ (c_X1_thrown l D cA cB cL A ((xw qx cA n true sz bt so fc ofs tg ch ad) ++ [og qo cL (vp_updL fo 0 ((bI (gf_fit fc sz bt so tg ofs nw j)).toInt64))]) qm n 0 true sz bt so fc ofs tg nw gr) (cwV 0 hts gL_law_X1_thrown rfl rfl rfl (by decide +kernel) ⟨Nat.le_of_ble_eq_true rfl, Nat.le_of_ble_eq_true rfl⟩) (gi_preV (q0 := 0) hK hP2 hD2 rfl rfl rfl) rfl rfl hl.1 rfl (lv_room (Nat.le_of_ble_eq_true rfl)) dL_law_363 ⟨by show _ ≤ 601024; omega, by show _ ≤ 7293033; omega⟩) hS (fun H locs hP2 hS => ?_)
              have hP : va_P D vwCl ((xw qx cA n true sz bt so fc ofs tg ch ad) ++ (og qo cL (vp_updL fo 0 ((bI (gf_fit fc sz bt so tg ofs nw j)).toInt64)) :: mw qm cA cB n 0 true sz bt so fc ofs tg nw gr)) H := gP_swap (a := mw qm cA cB n 0 true sz bt so fc ofs tg nw gr) (b := (xw qx cA n true sz bt so fc ofs tg ch ad) ++ [og qo cL (vp_updL fo 0 ((bI (gf_fit fc sz bt so tg ofs nw j)).toInt64))]) hP2
              refine lv_iload hx hb dL_law_366 (lv_at hl 1 rfl) ?_
              refine gi_icmp_eq (tgt := 373) hx hb (by omega) (by omega) dL_law_368 rfl (fun h368 => ?_) (fun h9 => absurd h9 (by omega))
              refine lv_iload hx hb dL_law_373 (lv_at hl 1 rfl) ?_
              refine gi_if_ne (tgt := 390) hx hb (by omega) dL_law_375 rfl (fun h9 => absurd h9 (by omega)) (fun h375 => ?_)
              refine lv_aload_n hx hb dL_law_378 rfl (lv_at hl 3 rfl) ?_
              refine lv_iconst (v := nI (0)) hx hb dL_law_379 (by decide) ?_
              refine gi_lld hx hb hK hP 9 2 (vp_updL fo 0 ((bI (gf_fit fc sz bt so tg ofs nw j)).toInt64)) rfl rfl (by decide) (by decide) dL_law_380 ?_
              refine gi_topl (y := ((bI (gf_fit fc sz bt so tg ofs nw j)).toInt64)) (if_pos rfl) ?_
              refine lv_iload hx hb dL_law_381 (lv_at hl 0 rfl) ?_
              refine lv_i2l (v := ((bI (gf_fit fc sz bt so tg ofs nw j))).toInt64) hx hb dL_law_383 rfl ?_
              refine gi_lcmp hx hb dL_law_384 ?_
              refine gi_lif_eq (tgt := 390) hx hb dL_law_385 rfl (fun h385 => ?_) (fun h9 => absurd h9 (fun z9 => z9 rfl))
              refine lv_goto (tgt := 492) hx hb dL_law_390 rfl ?_
              refine W.widen (k := 19 + i + 1) (n := 4103 + 6 * i + 6) (by omega) (by omega) ?_
              exact G9 n 0 true sz bt so fc ofs tg ch ad nw gr (vp_updL fo 0 ((bI (gf_fit fc sz bt so tg ofs nw j)).toInt64)) H locs ls (hI) hP hS (lv_sub hl [2, 3, 4, 5, 6] rfl)
