set_option maxHeartbeats 8000000 in
set_option maxRecDepth 100000 in
theorem lc_aim {p : Program} {l : Launch} {e : Env} {s : State} {m : MethodId} {below : List Frame} {meth : Method} {c : Code} {b L : Nat} {xs : Nat → Int32} {D : va_G} {cA cB cL : ClassId} {A : Nat → Prop} {qx qm : Nat → Nat} {qo : Nat} (E9 : lwE p l s m meth c b L xs D cA cB cL A qx qm qo) {i : Nat} (hiL : i + 4 ≤ L) (G9 : lwGo p l e s m below meth c b D cA cB cL A qx qm qo i) {n th : Nat} {st : Bool} {sz bt so fc : Nat → Nat} {ofs : Nat → Int32} {tg : Nat → Nat} {ch : Nat → Int32} {ad nw : Nat → Nat} {gr : Nat → Int32} {fo : Nat → Int64} {H : Heap} {locs : List Loc} {ls : Array Slot} (hI : gInv n st sz bt so fc tg ch ad nw) (hP : va_P D vwCl (lwWd qx qm qo cA cB cL n th st sz bt so fc ofs tg ch ad nw gr fo) H) (hS : va_S A s.heap H locs) (hl : lv_has ls 8 [(4, .int (nI (i))), (3, .ref (qo)), (2, .ref (qm 0)), (1, .ref (qx 0)), (0, .ref (b))]) : W p l e room_1 s m #[Value.ref b] below meth c H locs (19 + i) (4103 + 6 * i) (lw_Z below #[Value.ref b] s) (F0 m 208 ls []) := by
  obtain ⟨hx, hb, hml, hown, hts, hXs, hbl, hbA, hL, hl9, hK, hDx, hDm, hX⟩ := E9
  have hw := hI.1
  have hn9 := hw.1
  cases hv : gf_isl n (xs (i + 1)) with
  | false =>
    refine lv_aload_n hx hb dL_law_208 rfl (lv_at hl 3 rfl) ?_
    refine lv_aload_n hx hb dL_law_209 rfl (lv_at hl 4 rfl) ?_
    refine lv_iload hx hb dL_law_210 (lv_at hl 0 rfl) ?_
    refine lv_iconst (v := nI (1)) hx hb dL_law_212 (by decide) ?_
    refine gi_iadd hx hb (i + 1) rfl dL_law_213 ?_
    refine gi_sld hx hb hXs hbl hbA hS (by omega) (by omega) dL_law_214 ?_
    refine lv_aload_n hx hb dL_law_215 rfl (lv_at hl 4 rfl) ?_
    refine lv_iload hx hb dL_law_216 (lv_at hl 0 rfl) ?_
    refine lv_iconst (v := nI (2)) hx hb dL_law_218 (by decide) ?_
    refine gi_iadd hx hb (i + 2) rfl dL_law_219 ?_
    refine gi_sld hx hb hXs hbl hbA hS (by omega) (by omega) dL_law_220 ?_
    refine lv_aload_n hx hb dL_law_221 rfl (lv_at hl 4 rfl) ?_
    refine lv_iload hx hb dL_law_222 (lv_at hl 0 rfl) ?_
    refine lv_iconst (v := nI (3)) hx hb dL_law_224 (by decide) ?_
    refine gi_iadd hx hb (i + 3) rfl dL_law_225 ?_
    refine gi_sld hx hb hXs hbl hbA hS (by omega) (by omega) dL_law_226 ?_
    have hD : va_D A ((xw qx cA n st sz bt so fc ofs tg ch ad) ++ (og qo cL fo :: mw qm cA cB n th st sz bt so fc ofs tg nw gr)) := gD_same hDx rfl
    refine gi_goW (vx_runSW (hh := [(0, 7, 10, 25)]) (As := [.ref (qx 0), .int (xs (i + 1)), .int (xs (i + 2)), .int (xs (i + 3))]) (rest := []) ⟨hx, hb, hml, hown, hts⟩ (wex_L_aim l hl9 D cA cB cL A (mw qm cA cB n th st sz bt so fc ofs tg nw gr) qo fo qx n st sz bt so fc ofs tg ch ad (xs (i + 1)) (xs (i + 2)) (xs (i + 3)) (Or.inl hv)) (vx_cwSW 4 hts gL_law_L_aim rfl rfl rfl (by decide +kernel) ⟨Nat.le_of_ble_eq_true rfl, Nat.le_of_ble_eq_true rfl⟩) (gi_preSX hK hP hD hX hS) rfl rfl hl.1 rfl (lv_room (Nat.le_of_ble_eq_true rfl)) dL_law_227 ⟨by show _ ≤ 601024; omega, by show _ ≤ 7293033; omega⟩) hS (fun H locs hP hS => ?_)
    have hP : va_P D vwCl ((xw qx cA n st sz bt so fc ofs tg ch ad) ++ (og qo cL fo :: mw qm cA cB n th st sz bt so fc ofs tg nw gr)) H := hP
    refine lv_istore (lv' := [(5, .int (nI (1))), (4, .int (nI (i))), (3, .ref (qo)), (2, .ref (qm 0)), (1, .ref (qx 0)), (0, .ref (b))]) hx hb dL_law_230 hl (by decide) rfl (fun ls hl => ?_)
    refine lv_aload_n hx hb dL_law_232 rfl (lv_at hl 3 rfl) ?_
    refine lv_aload_n hx hb dL_law_233 rfl (lv_at hl 5 rfl) ?_
    refine lv_iload hx hb dL_law_234 (lv_at hl 1 rfl) ?_
    refine lv_iconst (v := nI (1)) hx hb dL_law_236 (by decide) ?_
    refine gi_iadd hx hb (i + 1) rfl dL_law_237 ?_
    refine gi_sld hx hb hXs hbl hbA hS (by omega) (by omega) dL_law_238 ?_
    refine lv_aload_n hx hb dL_law_239 rfl (lv_at hl 5 rfl) ?_
    refine lv_iload hx hb dL_law_240 (lv_at hl 1 rfl) ?_
    refine lv_iconst (v := nI (2)) hx hb dL_law_242 (by decide) ?_
    refine gi_iadd hx hb (i + 2) rfl dL_law_243 ?_
    refine gi_sld hx hb hXs hbl hbA hS (by omega) (by omega) dL_law_244 ?_
    refine lv_aload_n hx hb dL_law_245 rfl (lv_at hl 5 rfl) ?_
    refine lv_iload hx hb dL_law_246 (lv_at hl 1 rfl) ?_
    refine lv_iconst (v := nI (3)) hx hb dL_law_248 (by decide) ?_
    refine gi_iadd hx hb (i + 3) rfl dL_law_249 ?_
    refine gi_sld hx hb hXs hbl hbA hS (by omega) (by omega) dL_law_250 ?_
    have hP2 : va_P D vwCl ((mw qm cA cB n th st sz bt so fc ofs tg nw gr) ++ ((xw qx cA n st sz bt so fc ofs tg ch ad) ++ [og qo cL fo])) H := gP_swap (a := (xw qx cA n st sz bt so fc ofs tg ch ad) ++ [og qo cL fo]) (b := mw qm cA cB n th st sz bt so fc ofs tg nw gr) hP
    have hD2 : va_D A ((mw qm cA cB n th st sz bt so fc ofs tg nw gr) ++ ((xw qx cA n st sz bt so fc ofs tg ch ad) ++ [og qo cL fo])) := gD_same hDm rfl
    refine gi_goN (va_runV (As := [.int (xs (i + 1)), .int (xs (i + 2)), .int (xs (i + 3))]) (rest := []) ⟨hx, hb, hml, hown, hts⟩ (ex_X1_aim l D cA cB cL A ((xw qx cA n st sz bt so fc ofs tg ch ad) ++ [og qo cL fo]) qm n th st sz bt so fc ofs tg nw gr (xs (i + 1)) (xs (i + 2)) (xs (i + 3)) (Or.inl hv)) (cwV 3 hts gL_law_X1_aim rfl rfl rfl (by decide +kernel) ⟨Nat.le_of_ble_eq_true rfl, Nat.le_of_ble_eq_true rfl⟩) (gi_preV (q0 := 0) hK hP2 hD2 rfl rfl rfl) rfl rfl hl.1 rfl (lv_room (Nat.le_of_ble_eq_true rfl)) dL_law_251 ⟨by show _ ≤ 601024; omega, by show _ ≤ 7293033; omega⟩) hS (fun H locs hP2 hS => ?_)
    have hP : va_P D vwCl ((xw qx cA n st sz bt so fc ofs tg ch ad) ++ (og qo cL fo :: mw qm cA cB n 1 st sz bt so fc ofs tg nw gr)) H := gP_swap (a := mw qm cA cB n 1 st sz bt so fc ofs tg nw gr) (b := (xw qx cA n st sz bt so fc ofs tg ch ad) ++ [og qo cL fo]) hP2
    refine lv_aload_n hx hb dL_law_254 rfl (lv_at hl 3 rfl) ?_
    have hP2 : va_P D vwCl ((mw qm cA cB n 1 st sz bt so fc ofs tg nw gr) ++ ((xw qx cA n st sz bt so fc ofs tg ch ad) ++ [og qo cL fo])) H := gP_swap (a := (xw qx cA n st sz bt so fc ofs tg ch ad) ++ [og qo cL fo]) (b := mw qm cA cB n 1 st sz bt so fc ofs tg nw gr) hP
    have hD2 : va_D A ((mw qm cA cB n 1 st sz bt so fc ofs tg nw gr) ++ ((xw qx cA n st sz bt so fc ofs tg ch ad) ++ [og qo cL fo])) := gD_same hDm rfl
    refine gi_goW (va_runV (As := []) (rest := []) ⟨hx, hb, hml, hown, hts⟩ (c_X1_thrown l D cA cB cL A ((xw qx cA n st sz bt so fc ofs tg ch ad) ++ [og qo cL fo]) qm n 1 st sz bt so fc ofs tg nw gr) (cwV 0 hts gL_law_X1_thrown rfl rfl rfl (by decide +kernel) ⟨Nat.le_of_ble_eq_true rfl, Nat.le_of_ble_eq_true rfl⟩) (gi_preV (q0 := 0) hK hP2 hD2 rfl rfl rfl) rfl rfl hl.1 rfl (lv_room (Nat.le_of_ble_eq_true rfl)) dL_law_255 ⟨by show _ ≤ 601024; omega, by show _ ≤ 7293033; omega⟩) hS (fun H locs hP2 hS => ?_)
    have hP : va_P D vwCl ((xw qx cA n st sz bt so fc ofs tg ch ad) ++ (og qo cL fo :: mw qm cA cB n 1 st sz bt so fc ofs tg nw gr)) H := gP_swap (a := mw qm cA cB n 1 st sz bt so fc ofs tg nw gr) (b := (xw qx cA n st sz bt so fc ofs tg ch ad) ++ [og qo cL fo]) hP2
    refine lv_iload hx hb dL_law_258 (lv_at hl 0 rfl) ?_
    refine gi_icmp_eq (tgt := 265) hx hb (by omega) (by omega) dL_law_260 rfl (fun h260 => ?_) (fun h9 => absurd h9 (by omega))
    refine lv_goto (tgt := 492) hx hb dL_law_265 rfl ?_
    refine W.widen (k := 19 + i + 1) (n := 4103 + 6 * i + 6) (by omega) (by omega) ?_
    exact G9 n 1 st sz bt so fc ofs tg ch ad nw gr fo H locs ls (hI) hP hS (lv_sub hl [1, 2, 3, 4, 5] rfl)
  | true =>
    cases hu : gf_ile n (xs (i + 2)) with
    | false =>
      refine lv_aload_n hx hb dL_law_208 rfl (lv_at hl 3 rfl) ?_
      refine lv_aload_n hx hb dL_law_209 rfl (lv_at hl 4 rfl) ?_
      refine lv_iload hx hb dL_law_210 (lv_at hl 0 rfl) ?_
      refine lv_iconst (v := nI (1)) hx hb dL_law_212 (by decide) ?_
      refine gi_iadd hx hb (i + 1) rfl dL_law_213 ?_
      refine gi_sld hx hb hXs hbl hbA hS (by omega) (by omega) dL_law_214 ?_
      refine lv_aload_n hx hb dL_law_215 rfl (lv_at hl 4 rfl) ?_
      refine lv_iload hx hb dL_law_216 (lv_at hl 0 rfl) ?_
      refine lv_iconst (v := nI (2)) hx hb dL_law_218 (by decide) ?_
      refine gi_iadd hx hb (i + 2) rfl dL_law_219 ?_
      refine gi_sld hx hb hXs hbl hbA hS (by omega) (by omega) dL_law_220 ?_
      refine lv_aload_n hx hb dL_law_221 rfl (lv_at hl 4 rfl) ?_
      refine lv_iload hx hb dL_law_222 (lv_at hl 0 rfl) ?_
      refine lv_iconst (v := nI (3)) hx hb dL_law_224 (by decide) ?_
      refine gi_iadd hx hb (i + 3) rfl dL_law_225 ?_
      refine gi_sld hx hb hXs hbl hbA hS (by omega) (by omega) dL_law_226 ?_
      have hD : va_D A ((xw qx cA n st sz bt so fc ofs tg ch ad) ++ (og qo cL fo :: mw qm cA cB n th st sz bt so fc ofs tg nw gr)) := gD_same hDx rfl
      refine gi_goW (vx_runSW (hh := [(0, 7, 10, 25)]) (As := [.ref (qx 0), .int (xs (i + 1)), .int (xs (i + 2)), .int (xs (i + 3))]) (rest := []) ⟨hx, hb, hml, hown, hts⟩ (wex_L_aim l hl9 D cA cB cL A (mw qm cA cB n th st sz bt so fc ofs tg nw gr) qo fo qx n st sz bt so fc ofs tg ch ad (xs (i + 1)) (xs (i + 2)) (xs (i + 3)) (Or.inr hu)) (vx_cwSW 4 hts gL_law_L_aim rfl rfl rfl (by decide +kernel) ⟨Nat.le_of_ble_eq_true rfl, Nat.le_of_ble_eq_true rfl⟩) (gi_preSX hK hP hD hX hS) rfl rfl hl.1 rfl (lv_room (Nat.le_of_ble_eq_true rfl)) dL_law_227 ⟨by show _ ≤ 601024; omega, by show _ ≤ 7293033; omega⟩) hS (fun H locs hP hS => ?_)
      have hP : va_P D vwCl ((xw qx cA n st sz bt so fc ofs tg ch ad) ++ (og qo cL fo :: mw qm cA cB n th st sz bt so fc ofs tg nw gr)) H := hP
      refine lv_istore (lv' := [(5, .int (nI (1))), (4, .int (nI (i))), (3, .ref (qo)), (2, .ref (qm 0)), (1, .ref (qx 0)), (0, .ref (b))]) hx hb dL_law_230 hl (by decide) rfl (fun ls hl => ?_)
      refine lv_aload_n hx hb dL_law_232 rfl (lv_at hl 3 rfl) ?_
      refine lv_aload_n hx hb dL_law_233 rfl (lv_at hl 5 rfl) ?_
      refine lv_iload hx hb dL_law_234 (lv_at hl 1 rfl) ?_
      refine lv_iconst (v := nI (1)) hx hb dL_law_236 (by decide) ?_
      refine gi_iadd hx hb (i + 1) rfl dL_law_237 ?_
      refine gi_sld hx hb hXs hbl hbA hS (by omega) (by omega) dL_law_238 ?_
      refine lv_aload_n hx hb dL_law_239 rfl (lv_at hl 5 rfl) ?_
      refine lv_iload hx hb dL_law_240 (lv_at hl 1 rfl) ?_
      refine lv_iconst (v := nI (2)) hx hb dL_law_242 (by decide) ?_
      refine gi_iadd hx hb (i + 2) rfl dL_law_243 ?_
      refine gi_sld hx hb hXs hbl hbA hS (by omega) (by omega) dL_law_244 ?_
      refine lv_aload_n hx hb dL_law_245 rfl (lv_at hl 5 rfl) ?_
      refine lv_iload hx hb dL_law_246 (lv_at hl 1 rfl) ?_
      refine lv_iconst (v := nI (3)) hx hb dL_law_248 (by decide) ?_
      refine gi_iadd hx hb (i + 3) rfl dL_law_249 ?_
      refine gi_sld hx hb hXs hbl hbA hS (by omega) (by omega) dL_law_250 ?_
      have hP2 : va_P D vwCl ((mw qm cA cB n th st sz bt so fc ofs tg nw gr) ++ ((xw qx cA n st sz bt so fc ofs tg ch ad) ++ [og qo cL fo])) H := gP_swap (a := (xw qx cA n st sz bt so fc ofs tg ch ad) ++ [og qo cL fo]) (b := mw qm cA cB n th st sz bt so fc ofs tg nw gr) hP
      have hD2 : va_D A ((mw qm cA cB n th st sz bt so fc ofs tg nw gr) ++ ((xw qx cA n st sz bt so fc ofs tg ch ad) ++ [og qo cL fo])) := gD_same hDm rfl
      refine gi_goN (va_runV (As := [.int (xs (i + 1)), .int (xs (i + 2)), .int (xs (i + 3))]) (rest := []) ⟨hx, hb, hml, hown, hts⟩ (ex_X1_aim l D cA cB cL A ((xw qx cA n st sz bt so fc ofs tg ch ad) ++ [og qo cL fo]) qm n th st sz bt so fc ofs tg nw gr (xs (i + 1)) (xs (i + 2)) (xs (i + 3)) (Or.inr hu)) (cwV 3 hts gL_law_X1_aim rfl rfl rfl (by decide +kernel) ⟨Nat.le_of_ble_eq_true rfl, Nat.le_of_ble_eq_true rfl⟩) (gi_preV (q0 := 0) hK hP2 hD2 rfl rfl rfl) rfl rfl hl.1 rfl (lv_room (Nat.le_of_ble_eq_true rfl)) dL_law_251 ⟨by show _ ≤ 601024; omega, by show _ ≤ 7293033; omega⟩) hS (fun H locs hP2 hS => ?_)
      have hP : va_P D vwCl ((xw qx cA n st sz bt so fc ofs tg ch ad) ++ (og qo cL fo :: mw qm cA cB n 1 st sz bt so fc ofs tg nw gr)) H := gP_swap (a := mw qm cA cB n 1 st sz bt so fc ofs tg nw gr) (b := (xw qx cA n st sz bt so fc ofs tg ch ad) ++ [og qo cL fo]) hP2
      refine lv_aload_n hx hb dL_law_254 rfl (lv_at hl 3 rfl) ?_
      have hP2 : va_P D vwCl ((mw qm cA cB n 1 st sz bt so fc ofs tg nw gr) ++ ((xw qx cA n st sz bt so fc ofs tg ch ad) ++ [og qo cL fo])) H := gP_swap (a := (xw qx cA n st sz bt so fc ofs tg ch ad) ++ [og qo cL fo]) (b := mw qm cA cB n 1 st sz bt so fc ofs tg nw gr) hP
      have hD2 : va_D A ((mw qm cA cB n 1 st sz bt so fc ofs tg nw gr) ++ ((xw qx cA n st sz bt so fc ofs tg ch ad) ++ [og qo cL fo])) := gD_same hDm rfl
      refine gi_goW (va_runV (As := []) (rest := []) ⟨hx, hb, hml, hown, hts⟩ (c_X1_thrown l D cA cB cL A ((xw qx cA n st sz bt so fc ofs tg ch ad) ++ [og qo cL fo]) qm n 1 st sz bt so fc ofs tg nw gr) (cwV 0 hts gL_law_X1_thrown rfl rfl rfl (by decide +kernel) ⟨Nat.le_of_ble_eq_true rfl, Nat.le_of_ble_eq_true rfl⟩) (gi_preV (q0 := 0) hK hP2 hD2 rfl rfl rfl) rfl rfl hl.1 rfl (lv_room (Nat.le_of_ble_eq_true rfl)) dL_law_255 ⟨by show _ ≤ 601024; omega, by show _ ≤ 7293033; omega⟩) hS (fun H locs hP2 hS => ?_)
      have hP : va_P D vwCl ((xw qx cA n st sz bt so fc ofs tg ch ad) ++ (og qo cL fo :: mw qm cA cB n 1 st sz bt so fc ofs tg nw gr)) H := gP_swap (a := mw qm cA cB n 1 st sz bt so fc ofs tg nw gr) (b := (xw qx cA n st sz bt so fc ofs tg ch ad) ++ [og qo cL fo]) hP2
      refine lv_iload hx hb dL_law_258 (lv_at hl 0 rfl) ?_
      refine gi_icmp_eq (tgt := 265) hx hb (by omega) (by omega) dL_law_260 rfl (fun h260 => ?_) (fun h9 => absurd h9 (by omega))
      refine lv_goto (tgt := 492) hx hb dL_law_265 rfl ?_
      refine W.widen (k := 19 + i + 1) (n := 4103 + 6 * i + 6) (by omega) (by omega) ?_
      exact G9 n 1 st sz bt so fc ofs tg ch ad nw gr fo H locs ls (hI) hP hS (lv_sub hl [1, 2, 3, 4, 5] rfl)
    | true =>
      obtain ⟨j, hj, ej⟩ := gf_isl_ex (by omega) hv
      obtain ⟨t, ht, et⟩ := gf_ile_ex (by omega) hu
      refine lv_aload_n hx hb dL_law_208 rfl (lv_at hl 3 rfl) ?_
      refine lv_aload_n hx hb dL_law_209 rfl (lv_at hl 4 rfl) ?_
      refine lv_iload hx hb dL_law_210 (lv_at hl 0 rfl) ?_
      refine lv_iconst (v := nI (1)) hx hb dL_law_212 (by decide) ?_
      refine gi_iadd hx hb (i + 1) rfl dL_law_213 ?_
      refine gi_sld hx hb hXs hbl hbA hS (by omega) (by omega) dL_law_214 ?_
      refine gi_top (y := (nI (j))) (ej) ?_
      refine lv_aload_n hx hb dL_law_215 rfl (lv_at hl 4 rfl) ?_
      refine lv_iload hx hb dL_law_216 (lv_at hl 0 rfl) ?_
      refine lv_iconst (v := nI (2)) hx hb dL_law_218 (by decide) ?_
      refine gi_iadd hx hb (i + 2) rfl dL_law_219 ?_
      refine gi_sld hx hb hXs hbl hbA hS (by omega) (by omega) dL_law_220 ?_
      refine gi_top (y := (nI (t))) (et) ?_
      refine lv_aload_n hx hb dL_law_221 rfl (lv_at hl 4 rfl) ?_
      refine lv_iload hx hb dL_law_222 (lv_at hl 0 rfl) ?_
      refine lv_iconst (v := nI (3)) hx hb dL_law_224 (by decide) ?_
      refine gi_iadd hx hb (i + 3) rfl dL_law_225 ?_
      refine gi_sld hx hb hXs hbl hbA hS (by omega) (by omega) dL_law_226 ?_
      have hD : va_D A ((xw qx cA n st sz bt so fc ofs tg ch ad) ++ (og qo cL fo :: mw qm cA cB n th st sz bt so fc ofs tg nw gr)) := gD_same hDx rfl
      refine gi_goW (vx_runSW (hh := [(0, 7, 10, 25)]) (As := [.ref (qx 0), .int (nI (j)), .int (nI (t)), .int (xs (i + 3))]) (rest := []) ⟨hx, hb, hml, hown, hts⟩ (wok_L_aim l D cA cB cL A (mw qm cA cB n th st sz bt so fc ofs tg nw gr) qo fo qx n st sz bt so fc ofs tg ch ad j t (xs (i + 3)) hn9 hj ht) (vx_cwSW 4 hts gL_law_L_aim rfl rfl rfl (by decide +kernel) ⟨Nat.le_of_ble_eq_true rfl, Nat.le_of_ble_eq_true rfl⟩) (gi_preS hK hP hD) rfl rfl hl.1 rfl (lv_room (Nat.le_of_ble_eq_true rfl)) dL_law_227 ⟨by show _ ≤ 601024; omega, by show _ ≤ 7293033; omega⟩) hS (fun H locs hP hS => ?_)
      have hP : va_P D vwCl ((xw qx cA n false sz bt so fc (upd ofs j (xs (i + 3))) (gU tg j t) ch ad) ++ (og qo cL fo :: mw qm cA cB n th st sz bt so fc ofs tg nw gr)) H := hP
      refine lv_istore (lv' := [(5, .int (nI (0))), (4, .int (nI (i))), (3, .ref (qo)), (2, .ref (qm 0)), (1, .ref (qx 0)), (0, .ref (b))]) hx hb dL_law_230 hl (by decide) rfl (fun ls hl => ?_)
      refine lv_aload_n hx hb dL_law_232 rfl (lv_at hl 3 rfl) ?_
      refine lv_aload_n hx hb dL_law_233 rfl (lv_at hl 5 rfl) ?_
      refine lv_iload hx hb dL_law_234 (lv_at hl 1 rfl) ?_
      refine lv_iconst (v := nI (1)) hx hb dL_law_236 (by decide) ?_
      refine gi_iadd hx hb (i + 1) rfl dL_law_237 ?_
      refine gi_sld hx hb hXs hbl hbA hS (by omega) (by omega) dL_law_238 ?_
      refine gi_top (y := (nI (j))) (ej) ?_
      refine lv_aload_n hx hb dL_law_239 rfl (lv_at hl 5 rfl) ?_
      refine lv_iload hx hb dL_law_240 (lv_at hl 1 rfl) ?_
      refine lv_iconst (v := nI (2)) hx hb dL_law_242 (by decide) ?_
      refine gi_iadd hx hb (i + 2) rfl dL_law_243 ?_
      refine gi_sld hx hb hXs hbl hbA hS (by omega) (by omega) dL_law_244 ?_
      refine gi_top (y := (nI (t))) (et) ?_
      refine lv_aload_n hx hb dL_law_245 rfl (lv_at hl 5 rfl) ?_
      refine lv_iload hx hb dL_law_246 (lv_at hl 1 rfl) ?_
      refine lv_iconst (v := nI (3)) hx hb dL_law_248 (by decide) ?_
      refine gi_iadd hx hb (i + 3) rfl dL_law_249 ?_
      refine gi_sld hx hb hXs hbl hbA hS (by omega) (by omega) dL_law_250 ?_
      have hP2 : va_P D vwCl ((mw qm cA cB n th st sz bt so fc ofs tg nw gr) ++ ((xw qx cA n false sz bt so fc (upd ofs j (xs (i + 3))) (gU tg j t) ch ad) ++ [og qo cL fo])) H := gP_swap (a := (xw qx cA n false sz bt so fc (upd ofs j (xs (i + 3))) (gU tg j t) ch ad) ++ [og qo cL fo]) (b := mw qm cA cB n th st sz bt so fc ofs tg nw gr) hP
      have hD2 : va_D A ((mw qm cA cB n th st sz bt so fc ofs tg nw gr) ++ ((xw qx cA n false sz bt so fc (upd ofs j (xs (i + 3))) (gU tg j t) ch ad) ++ [og qo cL fo])) := gD_same hDm rfl
      refine gi_goN (va_runV (As := [.int (nI (j)), .int (nI (t)), .int (xs (i + 3))]) (rest := []) ⟨hx, hb, hml, hown, hts⟩ (ok_X1_aim l D cA cB cL A ((xw qx cA n false sz bt so fc (upd ofs j (xs (i + 3))) (gU tg j t) ch ad) ++ [og qo cL fo]) qm n th st sz bt so fc ofs tg nw gr j t (xs (i + 3)) hn9 hj ht) (cwV 3 hts gL_law_X1_aim rfl rfl rfl (by decide +kernel) ⟨Nat.le_of_ble_eq_true rfl, Nat.le_of_ble_eq_true rfl⟩) (gi_preV (q0 := 0) hK hP2 hD2 rfl rfl rfl) rfl rfl hl.1 rfl (lv_room (Nat.le_of_ble_eq_true rfl)) dL_law_251 ⟨by show _ ≤ 601024; omega, by show _ ≤ 7293033; omega⟩) hS (fun H locs hP2 hS => ?_)
      have hP : va_P D vwCl ((xw qx cA n false sz bt so fc (upd ofs j (xs (i + 3))) (gU tg j t) ch ad) ++ (og qo cL fo :: mw qm cA cB n 0 false sz bt so fc (upd ofs j (xs (i + 3))) (gU tg j t) nw gr)) H := gP_swap (a := mw qm cA cB n 0 false sz bt so fc (upd ofs j (xs (i + 3))) (gU tg j t) nw gr) (b := (xw qx cA n false sz bt so fc (upd ofs j (xs (i + 3))) (gU tg j t) ch ad) ++ [og qo cL fo]) hP2
      refine lv_aload_n hx hb dL_law_254 rfl (lv_at hl 3 rfl) ?_
      have hP2 : va_P D vwCl ((mw qm cA cB n 0 false sz bt so fc (upd ofs j (xs (i + 3))) (gU tg j t) nw gr) ++ ((xw qx cA n false sz bt so fc (upd ofs j (xs (i + 3))) (gU tg j t) ch ad) ++ [og qo cL fo])) H := gP_swap (a := (xw qx cA n false sz bt so fc (upd ofs j (xs (i + 3))) (gU tg j t) ch ad) ++ [og qo cL fo]) (b := mw qm cA cB n 0 false sz bt so fc (upd ofs j (xs (i + 3))) (gU tg j t) nw gr) hP
      have hD2 : va_D A ((mw qm cA cB n 0 false sz bt so fc (upd ofs j (xs (i + 3))) (gU tg j t) nw gr) ++ ((xw qx cA n false sz bt so fc (upd ofs j (xs (i + 3))) (gU tg j t) ch ad) ++ [og qo cL fo])) := gD_same hDm rfl
      refine gi_goW (va_runV (As := []) (rest := []) ⟨hx, hb, hml, hown, hts⟩ (c_X1_thrown l D cA cB cL A ((xw qx cA n false sz bt so fc (upd ofs j (xs (i + 3))) (gU tg j t) ch ad) ++ [og qo cL fo]) qm n 0 false sz bt so fc (upd ofs j (xs (i + 3))) (gU tg j t) nw gr) (cwV 0 hts gL_law_X1_thrown rfl rfl rfl (by decide +kernel) ⟨Nat.le_of_ble_eq_true rfl, Nat.le_of_ble_eq_true rfl⟩) (gi_preV (q0 := 0) hK hP2 hD2 rfl rfl rfl) rfl rfl hl.1 rfl (lv_room (Nat.le_of_ble_eq_true rfl)) dL_law_255 ⟨by show _ ≤ 601024; omega, by show _ ≤ 7293033; omega⟩) hS (fun H locs hP2 hS => ?_)
      have hP : va_P D vwCl ((xw qx cA n false sz bt so fc (upd ofs j (xs (i + 3))) (gU tg j t) ch ad) ++ (og qo cL fo :: mw qm cA cB n 0 false sz bt so fc (upd ofs j (xs (i + 3))) (gU tg j t) nw gr)) H := gP_swap (a := mw qm cA cB n 0 false sz bt so fc (upd ofs j (xs (i + 3))) (gU tg j t) nw gr) (b := (xw qx cA n false sz bt so fc (upd ofs j (xs (i + 3))) (gU tg j t) ch ad) ++ [og qo cL fo]) hP2
      refine lv_iload hx hb dL_law_258 (lv_at hl 0 rfl) ?_
      refine gi_icmp_eq (tgt := 265) hx hb (by omega) (by omega) dL_law_260 rfl (fun h260 => ?_) (fun h9 => absurd h9 (by omega))
      refine lv_goto (tgt := 492) hx hb dL_law_265 rfl ?_
      refine W.widen (k := 19 + i + 1) (n := 4103 + 6 * i + 6) (by omega) (by omega) ?_
      exact G9 n 0 false sz bt so fc (upd ofs j (xs (i + 3))) (gU tg j t) ch ad nw gr fo H locs ls (⟨gf_wf_aim hw ht, fun h9 => absurd h9 (by decide)⟩) hP hS (lv_sub hl [1, 2, 3, 4, 5] rfl)
