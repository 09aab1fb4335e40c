set_option maxHeartbeats 8000000 in
set_option maxRecDepth 100000 in
theorem lc_wrong {p : Program} {l : Launch} {e : Env} {s : State} {m : MethodId} {below : List Frame} {meth : Method} {c : Code} {b L : Nat} {xs : Nat → Int32} {D : va_G} {cA cB cL : ClassId} {A : Nat → Prop} {qx qm : Nat → Nat} {qo : Nat} (E9 : lwE p l s m meth c b L xs D cA cB cL A qx qm qo) {i : Nat} (hiL : i + 4 ≤ L) (G9 : lwGo p l e s m below meth c b D cA cB cL A qx qm qo i) {n th : Nat} {st : Bool} {sz bt so fc : Nat → Nat} {ofs : Nat → Int32} {tg : Nat → Nat} {ch : Nat → Int32} {ad nw : Nat → Nat} {gr : Nat → Int32} {fo : Nat → Int64} {H : Heap} {locs : List Loc} {ls : Array Slot} (hI : gInv n st sz bt so fc tg ch ad nw) (hP : va_P D vwCl (lwWd qx qm qo cA cB cL n th st sz bt so fc ofs tg ch ad nw gr fo) H) (hS : va_S A s.heap H locs) (hl : lv_has ls 8 [(4, .int (nI (i))), (3, .ref (qo)), (2, .ref (qm 0)), (1, .ref (qx 0)), (0, .ref (b))]) : W p l e room_1 s m #[Value.ref b] below meth c H locs (19 + i) (4103 + 6 * i) (lw_Z below #[Value.ref b] s) (F0 m 448 ls []) := by
  obtain ⟨hx, hb, hml, hown, hts, hXs, hbl, hbA, hL, hl9, hK, hDx, hDm, hX⟩ := E9
  have hw := hI.1
  have hn9 := hw.1
  cases st with
  | false =>
    refine lv_aload_n hx hb dL_law_448 rfl (lv_at hl 3 rfl) ?_
    refine lv_aload_n hx hb dL_law_449 rfl (lv_at hl 1 rfl) ?_
    have hD : va_D A ((xw qx cA n false sz bt so fc ofs tg ch ad) ++ (og qo cL fo :: mw qm cA cB n th false sz bt so fc ofs tg nw gr)) := gD_same hDx rfl
    refine gi_goW (vx_runSW (hh := [(0, 8, 11, 13)]) (As := [.ref (qx 0), .ref (qo)]) (rest := []) ⟨hx, hb, hml, hown, hts⟩ (wex_L_wrong l hl9 D cA cB cL A (mw qm cA cB n th false sz bt so fc ofs tg nw gr) qo fo qx n sz bt so fc ofs tg ch ad) (vx_cwSW 2 hts gL_law_L_wrong rfl rfl rfl (by decide +kernel) ⟨Nat.le_of_ble_eq_true rfl, Nat.le_of_ble_eq_true rfl⟩) (gi_preSX hK hP hD hX hS) rfl rfl hl.1 rfl (lv_room (Nat.le_of_ble_eq_true rfl)) dL_law_450 ⟨by show _ ≤ 601024; omega, by show _ ≤ 7293033; omega⟩) hS (fun H locs hP hS => ?_)
    have hP : va_P D vwCl ((xw qx cA n false sz bt so fc ofs tg ch ad) ++ (og qo cL fo :: mw qm cA cB n th false sz bt so fc ofs tg nw gr)) H := hP
    refine lv_istore (lv' := [(5, .int (nI (1))), (4, .int (nI (i))), (3, .ref (qo)), (2, .ref (qm 0)), (1, .ref (qx 0)), (0, .ref (b))]) hx hb dL_law_453 hl (by decide) rfl (fun ls hl => ?_)
    refine lv_aload_n hx hb dL_law_455 rfl (lv_at hl 3 rfl) ?_
    have hP2 : va_P D vwCl ((mw qm cA cB n th false sz bt so fc ofs tg nw gr) ++ ((xw qx cA n false sz bt so fc ofs tg ch ad) ++ [og qo cL fo])) H := gP_swap (a := (xw qx cA n false sz bt so fc ofs tg ch ad) ++ [og qo cL fo]) (b := mw qm cA cB n th false sz bt so fc ofs tg nw gr) hP
    have hD2 : va_D A ((mw qm cA cB n th false sz bt so fc ofs tg nw gr) ++ ((xw qx cA n false sz bt so fc ofs tg ch ad) ++ [og qo cL fo])) := gD_same hDm rfl
    refine gi_goW (va_runV (As := []) (rest := []) ⟨hx, hb, hml, hown, hts⟩ (ex_X1_wrong l D cA cB cL A ((xw qx cA n false sz bt so fc ofs tg ch ad) ++ [og qo cL fo]) qm n th sz bt so fc ofs tg nw gr) (cwV 0 hts gL_law_X1_wrong rfl rfl rfl (by decide +kernel) ⟨Nat.le_of_ble_eq_true rfl, Nat.le_of_ble_eq_true rfl⟩) (gi_preV (q0 := 0) hK hP2 hD2 rfl rfl rfl) rfl rfl hl.1 rfl (lv_room (Nat.le_of_ble_eq_true rfl)) dL_law_456 ⟨by show _ ≤ 601024; omega, by show _ ≤ 7293033; omega⟩) hS (fun H locs hP2 hS => ?_)
    have hP : va_P D vwCl ((xw qx cA n false sz bt so fc ofs tg ch ad) ++ (og qo cL fo :: mw qm cA cB n 1 false sz bt so fc ofs tg nw gr)) H := gP_swap (a := mw qm cA cB n 1 false sz bt so fc ofs tg nw gr) (b := (xw qx cA n false sz bt so fc ofs tg ch ad) ++ [og qo cL fo]) hP2
    refine lv_istore (lv' := [(6, .int (nI (0))), (5, .int (nI (1))), (4, .int (nI (i))), (3, .ref (qo)), (2, .ref (qm 0)), (1, .ref (qx 0)), (0, .ref (b))]) hx hb dL_law_459 hl (by decide) rfl (fun ls hl => ?_)
    refine lv_aload_n hx hb dL_law_461 rfl (lv_at hl 4 rfl) ?_
    have hP2 : va_P D vwCl ((mw qm cA cB n 1 false sz bt so fc ofs tg nw gr) ++ ((xw qx cA n false sz bt so fc ofs tg ch ad) ++ [og qo cL fo])) H := gP_swap (a := (xw qx cA n false sz bt so fc ofs tg ch ad) ++ [og qo cL fo]) (b := mw qm cA cB n 1 false sz bt so fc ofs tg nw gr) hP
    have hD2 : va_D A ((mw qm cA cB n 1 false sz bt so fc ofs tg nw gr) ++ ((xw qx cA n false sz bt so fc ofs tg ch ad) ++ [og qo cL fo])) := gD_same hDm rfl
    refine gi_goW (va_runV (As := []) (rest := []) ⟨hx, hb, hml, hown, hts⟩ (c_X1_thrown l D cA cB cL A ((xw qx cA n false sz bt so fc ofs tg ch ad) ++ [og qo cL fo]) qm n 1 false sz bt so fc ofs tg nw gr) (cwV 0 hts gL_law_X1_thrown rfl rfl rfl (by decide +kernel) ⟨Nat.le_of_ble_eq_true rfl, Nat.le_of_ble_eq_true rfl⟩) (gi_preV (q0 := 0) hK hP2 hD2 rfl rfl rfl) rfl rfl hl.1 rfl (lv_room (Nat.le_of_ble_eq_true rfl)) dL_law_462 ⟨by show _ ≤ 601024; omega, by show _ ≤ 7293033; omega⟩) hS (fun H locs hP2 hS => ?_)
    have hP : va_P D vwCl ((xw qx cA n false sz bt so fc ofs tg ch ad) ++ (og qo cL fo :: mw qm cA cB n 1 false sz bt so fc ofs tg nw gr)) H := gP_swap (a := mw qm cA cB n 1 false sz bt so fc ofs tg nw gr) (b := (xw qx cA n false sz bt so fc ofs tg ch ad) ++ [og qo cL fo]) hP2
    refine lv_iload hx hb dL_law_465 (lv_at hl 1 rfl) ?_
    refine gi_icmp_eq (tgt := 472) hx hb (by omega) (by omega) dL_law_467 rfl (fun h467 => ?_) (fun h9 => absurd h9 (by omega))
    refine lv_iload hx hb dL_law_472 (lv_at hl 1 rfl) ?_
    refine gi_if_ne (tgt := 489) hx hb (by omega) dL_law_474 rfl (fun h474 => ?_) (fun h9 => absurd h9 (by omega))
    refine lv_goto (tgt := 492) hx hb dL_law_489 rfl ?_
    refine W.widen (k := 19 + i + 1) (n := 4103 + 6 * i + 6) (by omega) (by omega) ?_
    exact G9 n 1 false sz bt so fc ofs tg ch ad nw gr fo H locs ls (hI) hP hS (lv_sub hl [2, 3, 4, 5, 6] rfl)
  | true =>
    obtain ⟨hk, hch, had⟩ := hI.2 rfl
    refine lv_aload_n hx hb dL_law_448 rfl (lv_at hl 3 rfl) ?_
    refine lv_aload_n hx hb dL_law_449 rfl (lv_at hl 1 rfl) ?_
    have hD : va_D A ((xw qx cA n true sz bt so fc ofs tg ch ad) ++ (og qo cL fo :: mw qm cA cB n th true sz bt so fc ofs tg nw gr)) := gD_same hDx rfl
    refine gi_goW (vx_runSW (hh := [(0, 8, 11, 13)]) (As := [.ref (qx 0), .ref (qo)]) (rest := []) ⟨hx, hb, hml, hown, hts⟩ (wok_L_wrong l D cA cB cL A (mw qm cA cB n th true sz bt so fc ofs tg nw gr) qo fo qx n sz bt so fc ofs tg ch ad nw hw hk hch had) (vx_cwSW 2 hts gL_law_L_wrong rfl rfl rfl (by decide +kernel) ⟨Nat.le_of_ble_eq_true rfl, Nat.le_of_ble_eq_true rfl⟩) (gi_preS hK hP hD) rfl rfl hl.1 rfl (lv_room (Nat.le_of_ble_eq_true rfl)) dL_law_450 ⟨by show _ ≤ 601024; omega, by show _ ≤ 7293033; omega⟩) hS (fun H locs hP hS => ?_)
    have hP : va_P D vwCl ((xw qx cA n true sz bt so fc ofs tg ch ad) ++ (og qo cL (vp_updL fo 0 ((gf_lu (gf_fit fc sz bt so tg ofs nw) n 0).toInt64)) :: mw qm cA cB n th true sz bt so fc ofs tg nw gr)) H := hP
    refine lv_istore (lv' := [(5, .int (nI (0))), (4, .int (nI (i))), (3, .ref (qo)), (2, .ref (qm 0)), (1, .ref (qx 0)), (0, .ref (b))]) hx hb dL_law_453 hl (by decide) rfl (fun ls hl => ?_)
    refine lv_aload_n hx hb dL_law_455 rfl (lv_at hl 3 rfl) ?_
    have hP2 : va_P D vwCl ((mw qm cA cB n th true sz bt so fc ofs tg nw gr) ++ ((xw qx cA n true sz bt so fc ofs tg ch ad) ++ [og qo cL (vp_updL fo 0 ((gf_lu (gf_fit fc sz bt so tg ofs nw) n 0).toInt64))])) H := gP_swap (a := (xw qx cA n true sz bt so fc ofs tg ch ad) ++ [og qo cL (vp_updL fo 0 ((gf_lu (gf_fit fc sz bt so tg ofs nw) n 0).toInt64))]) (b := mw qm cA cB n th true sz bt so fc ofs tg nw gr) hP
    have hD2 : va_D A ((mw qm cA cB n th true sz bt so fc ofs tg nw gr) ++ ((xw qx cA n true sz bt so fc ofs tg ch ad) ++ [og qo cL (vp_updL fo 0 ((gf_lu (gf_fit fc sz bt so tg ofs nw) n 0).toInt64))])) := gD_same hDm rfl
    refine gi_goW (va_runV (As := []) (rest := []) ⟨hx, hb, hml, hown, hts⟩ (ok_X1_wrong l D cA cB cL A ((xw qx cA n true sz bt so fc ofs tg ch ad) ++ [og qo cL (vp_updL fo 0 ((gf_lu (gf_fit fc sz bt so tg ofs nw) n 0).toInt64))]) qm n th sz bt so fc ofs tg nw gr hw hk) (cwV 0 hts gL_law_X1_wrong rfl rfl rfl (by decide +kernel) ⟨Nat.le_of_ble_eq_true rfl, Nat.le_of_ble_eq_true rfl⟩) (gi_preV (q0 := 0) hK hP2 hD2 rfl rfl rfl) rfl rfl hl.1 rfl (lv_room (Nat.le_of_ble_eq_true rfl)) dL_law_456 ⟨by show _ ≤ 601024; omega, by show _ ≤ 7293033; omega⟩) hS (fun H locs hP2 hS => ?_)
    have hP : va_P D vwCl ((xw qx cA n true sz bt so fc ofs tg ch ad) ++ (og qo cL (vp_updL fo 0 ((gf_lu (gf_fit fc sz bt so tg ofs nw) n 0).toInt64)) :: mw qm cA cB n 0 true sz bt so fc ofs tg nw gr)) H := gP_swap (a := mw qm cA cB n 0 true sz bt so fc ofs tg nw gr) (b := (xw qx cA n true sz bt so fc ofs tg ch ad) ++ [og qo cL (vp_updL fo 0 ((gf_lu (gf_fit fc sz bt so tg ofs nw) n 0).toInt64))]) hP2
    refine lv_istore (lv' := [(6, .int (gf_lu (gf_fit fc sz bt so tg ofs nw) n 0)), (5, .int (nI (0))), (4, .int (nI (i))), (3, .ref (qo)), (2, .ref (qm 0)), (1, .ref (qx 0)), (0, .ref (b))]) hx hb dL_law_459 hl (by decide) rfl (fun ls hl => ?_)
    refine lv_aload_n hx hb dL_law_461 rfl (lv_at hl 4 rfl) ?_
    have hP2 : va_P D vwCl ((mw qm cA cB n 0 true sz bt so fc ofs tg nw gr) ++ ((xw qx cA n true sz bt so fc ofs tg ch ad) ++ [og qo cL (vp_updL fo 0 ((gf_lu (gf_fit fc sz bt so tg ofs nw) n 0).toInt64))])) H := gP_swap (a := (xw qx cA n true sz bt so fc ofs tg ch ad) ++ [og qo cL (vp_updL fo 0 ((gf_lu (gf_fit fc sz bt so tg ofs nw) n 0).toInt64))]) (b := mw qm cA cB n 0 true sz bt so fc ofs tg nw gr) hP
    have hD2 : va_D A ((mw qm cA cB n 0 true sz bt so fc ofs tg nw gr) ++ ((xw qx cA n true sz bt so fc ofs tg ch ad) ++ [og qo cL (vp_updL fo 0 ((gf_lu (gf_fit fc sz bt so tg ofs nw) n 0).toInt64))])) := gD_same hDm rfl
    refine gi_goW (va_runV (As := []) (rest := []) ⟨hx, hb, hml, hown, hts⟩ (c_X1_thrown l D cA cB cL A ((xw qx cA n true sz bt so fc ofs tg ch ad) ++ [og qo cL (vp_updL fo 0 ((gf_lu (gf_fit fc sz bt so tg ofs nw) n 0).toInt64))]) qm n 0 true sz bt so fc ofs tg nw gr) (cwV 0 hts gL_law_X1_thrown rfl rfl rfl (by decide +kernel) ⟨Nat.le_of_ble_eq_true rfl, Nat.le_of_ble_eq_true rfl⟩) (gi_preV (q0 := 0) hK hP2 hD2 rfl rfl rfl) rfl rfl hl.1 rfl (lv_room (Nat.le_of_ble_eq_true rfl)) dL_law_462 ⟨by show _ ≤ 601024; omega, by show _ ≤ 7293033; omega⟩) hS (fun H locs hP2 hS => ?_)
    have hP : va_P D vwCl ((xw qx cA n true sz bt so fc ofs tg ch ad) ++ (og qo cL (vp_updL fo 0 ((gf_lu (gf_fit fc sz bt so tg ofs nw) n 0).toInt64)) :: mw qm cA cB n 0 true sz bt so fc ofs tg nw gr)) H := gP_swap (a := mw qm cA cB n 0 true sz bt so fc ofs tg nw gr) (b := (xw qx cA n true sz bt so fc ofs tg ch ad) ++ [og qo cL (vp_updL fo 0 ((gf_lu (gf_fit fc sz bt so tg ofs nw) n 0).toInt64))]) hP2
    refine lv_iload hx hb dL_law_465 (lv_at hl 1 rfl) ?_
    refine gi_icmp_eq (tgt := 472) hx hb (by omega) (by omega) dL_law_467 rfl (fun h467 => ?_) (fun h9 => absurd h9 (by omega))
    refine lv_iload hx hb dL_law_472 (lv_at hl 1 rfl) ?_
    refine gi_if_ne (tgt := 489) hx hb (by omega) dL_law_474 rfl (fun h9 => absurd h9 (by omega)) (fun h474 => ?_)
    refine lv_aload_n hx hb dL_law_477 rfl (lv_at hl 3 rfl) ?_
    refine lv_iconst (v := nI (0)) hx hb dL_law_478 (by decide) ?_
    refine gi_lld hx hb hK hP 9 2 (vp_updL fo 0 ((gf_lu (gf_fit fc sz bt so tg ofs nw) n 0).toInt64)) rfl rfl (by decide) (by decide) dL_law_479 ?_
    refine gi_topl (y := ((gf_lu (gf_fit fc sz bt so tg ofs nw) n 0).toInt64)) (if_pos rfl) ?_
    refine lv_iload hx hb dL_law_480 (lv_at hl 0 rfl) ?_
    refine lv_i2l (v := ((gf_lu (gf_fit fc sz bt so tg ofs nw) n 0)).toInt64) hx hb dL_law_482 rfl ?_
    refine gi_lcmp hx hb dL_law_483 ?_
    refine gi_lif_eq (tgt := 489) hx hb dL_law_484 rfl (fun h484 => ?_) (fun h9 => absurd h9 (fun z9 => z9 rfl))
    refine lv_goto (tgt := 492) hx hb dL_law_489 rfl ?_
    refine W.widen (k := 19 + i + 1) (n := 4103 + 6 * i + 6) (by omega) (by omega) ?_
    exact G9 n 0 true sz bt so fc ofs tg ch ad nw gr (vp_updL fo 0 ((gf_lu (gf_fit fc sz bt so tg ofs nw) n 0).toInt64)) H locs ls (hI) hP hS (lv_sub hl [2, 3, 4, 5, 6] rfl)
