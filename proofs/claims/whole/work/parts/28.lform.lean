set_option maxHeartbeats 8000000 in
set_option maxRecDepth 100000 in
theorem lc_form {p : Program} {l : Launch} {e : Env} {s : State} {m : MethodId} {below : List Frame} {meth : Method} {c : Code} {b L : Nat} {xs : Nat → Int32} {D : va_G} {cA cB cL : ClassId} {A : Nat → Prop} {qx qm : Nat → Nat} {qo : Nat} (E9 : lwE p l s m meth c b L xs D cA cB cL A qx qm qo) {i : Nat} (hiL : i + 4 ≤ L) (G9 : lwGo p l e s m below meth c b D cA cB cL A qx qm qo i) {n th : Nat} {st : Bool} {sz bt so fc : Nat → Nat} {ofs : Nat → Int32} {tg : Nat → Nat} {ch : Nat → Int32} {ad nw : Nat → Nat} {gr : Nat → Int32} {fo : Nat → Int64} {H : Heap} {locs : List Loc} {ls : Array Slot} (hI : gInv n st sz bt so fc tg ch ad nw) (hP : va_P D vwCl (lwWd qx qm qo cA cB cL n th st sz bt so fc ofs tg ch ad nw gr fo) H) (hS : va_S A s.heap H locs) (hl : lv_has ls 8 [(4, .int (nI (i))), (3, .ref (qo)), (2, .ref (qm 0)), (1, .ref (qx 0)), (0, .ref (b))]) : W p l e room_1 s m #[Value.ref b] below meth c H locs (19 + i) (4103 + 6 * i) (lw_Z below #[Value.ref b] s) (F0 m 128 ls []) := by
  obtain ⟨hx, hb, hml, hown, hts, hXs, hbl, hbA, hL, hl9, hK, hDx, hDm, hX⟩ := E9
  have hw := hI.1
  have hn9 := hw.1
  cases hv : gf_isf (xs (i + 1)) (xs (i + 2)) (xs (i + 3)) with
  | false =>
    refine lv_aload_n hx hb dL_law_128 rfl (lv_at hl 3 rfl) ?_
    refine lv_aload_n hx hb dL_law_129 rfl (lv_at hl 4 rfl) ?_
    refine lv_iload hx hb dL_law_130 (lv_at hl 0 rfl) ?_
    refine lv_iconst (v := nI (1)) hx hb dL_law_132 (by decide) ?_
    refine gi_iadd hx hb (i + 1) rfl dL_law_133 ?_
    refine gi_sld hx hb hXs hbl hbA hS (by omega) (by omega) dL_law_134 ?_
    refine lv_aload_n hx hb dL_law_135 rfl (lv_at hl 4 rfl) ?_
    refine lv_iload hx hb dL_law_136 (lv_at hl 0 rfl) ?_
    refine lv_iconst (v := nI (2)) hx hb dL_law_138 (by decide) ?_
    refine gi_iadd hx hb (i + 2) rfl dL_law_139 ?_
    refine gi_sld hx hb hXs hbl hbA hS (by omega) (by omega) dL_law_140 ?_
    refine lv_aload_n hx hb dL_law_141 rfl (lv_at hl 4 rfl) ?_
    refine lv_iload hx hb dL_law_142 (lv_at hl 0 rfl) ?_
    refine lv_iconst (v := nI (3)) hx hb dL_law_144 (by decide) ?_
    refine gi_iadd hx hb (i + 3) rfl dL_law_145 ?_
    refine gi_sld hx hb hXs hbl hbA hS (by omega) (by omega) dL_law_146 ?_
    refine lv_aload_n hx hb dL_law_147 rfl (lv_at hl 1 rfl) ?_
    have hD : va_D A ((xw qx cA n st sz bt so fc ofs tg ch ad) ++ (og qo cL fo :: mw qm cA cB n th st sz bt so fc ofs tg nw gr)) := gD_same hDx rfl
    refine gi_goW (vx_runSW (hh := [(0, 12, 15, 19), (0, 12, 19, 13)]) (As := [.ref (qx 0), .int (xs (i + 1)), .int (xs (i + 2)), .int (xs (i + 3)), .ref (qo)]) (rest := []) ⟨hx, hb, hml, hown, hts⟩ (wex1_L_form l hl9 D cA cB cL A (mw qm cA cB n th st sz bt so fc ofs tg nw gr) qo fo qx n st sz bt so fc ofs tg ch ad (xs (i + 1)) (xs (i + 2)) (xs (i + 3)) hv) (vx_cwSW 5 hts gL_law_L_form rfl rfl rfl (by decide +kernel) ⟨Nat.le_of_ble_eq_true rfl, Nat.le_of_ble_eq_true rfl⟩) (gi_preSX hK hP hD hX hS) rfl rfl hl.1 rfl (lv_room (Nat.le_of_ble_eq_true rfl)) dL_law_148 ⟨by show _ ≤ 601024; omega, by show _ ≤ 7293033; omega⟩) hS (fun H locs hP hS => ?_)
    have hP : va_P D vwCl ((xw qx cA n st sz bt so fc ofs tg ch ad) ++ (og qo cL fo :: mw qm cA cB n th st sz bt so fc ofs tg nw gr)) H := hP
    refine lv_istore (lv' := [(5, .int (nI (1))), (4, .int (nI (i))), (3, .ref (qo)), (2, .ref (qm 0)), (1, .ref (qx 0)), (0, .ref (b))]) hx hb dL_law_151 hl (by decide) rfl (fun ls hl => ?_)
    refine lv_aload_n hx hb dL_law_153 rfl (lv_at hl 3 rfl) ?_
    refine lv_aload_n hx hb dL_law_154 rfl (lv_at hl 5 rfl) ?_
    refine lv_iload hx hb dL_law_155 (lv_at hl 1 rfl) ?_
    refine lv_iconst (v := nI (1)) hx hb dL_law_157 (by decide) ?_
    refine gi_iadd hx hb (i + 1) rfl dL_law_158 ?_
    refine gi_sld hx hb hXs hbl hbA hS (by omega) (by omega) dL_law_159 ?_
    refine lv_aload_n hx hb dL_law_160 rfl (lv_at hl 5 rfl) ?_
    refine lv_iload hx hb dL_law_161 (lv_at hl 1 rfl) ?_
    refine lv_iconst (v := nI (2)) hx hb dL_law_163 (by decide) ?_
    refine gi_iadd hx hb (i + 2) rfl dL_law_164 ?_
    refine gi_sld hx hb hXs hbl hbA hS (by omega) (by omega) dL_law_165 ?_
    refine lv_aload_n hx hb dL_law_166 rfl (lv_at hl 5 rfl) ?_
    refine lv_iload hx hb dL_law_167 (lv_at hl 1 rfl) ?_
    refine lv_iconst (v := nI (3)) hx hb dL_law_169 (by decide) ?_
    refine gi_iadd hx hb (i + 3) rfl dL_law_170 ?_
    refine gi_sld hx hb hXs hbl hbA hS (by omega) (by omega) dL_law_171 ?_
    have hP2 : va_P D vwCl ((mw qm cA cB n th st sz bt so fc ofs tg nw gr) ++ ((xw qx cA n st sz bt so fc ofs tg ch ad) ++ [og qo cL fo])) H := gP_swap (a := (xw qx cA n st sz bt so fc ofs tg ch ad) ++ [og qo cL fo]) (b := mw qm cA cB n th st sz bt so fc ofs tg nw gr) hP
    have hD2 : va_D A ((mw qm cA cB n th st sz bt so fc ofs tg nw gr) ++ ((xw qx cA n st sz bt so fc ofs tg ch ad) ++ [og qo cL fo])) := gD_same hDm rfl
    refine gi_goW (va_runV (As := [.int (xs (i + 1)), .int (xs (i + 2)), .int (xs (i + 3))]) (rest := []) ⟨hx, hb, hml, hown, hts⟩ (ex1_X1_form l D cA cB cL A ((xw qx cA n st sz bt so fc ofs tg ch ad) ++ [og qo cL fo]) qm n th st sz bt so fc ofs tg nw gr (xs (i + 1)) (xs (i + 2)) (xs (i + 3)) hv) (cwV 3 hts gL_law_X1_form rfl rfl rfl (by decide +kernel) ⟨Nat.le_of_ble_eq_true rfl, Nat.le_of_ble_eq_true rfl⟩) (gi_preV (q0 := 0) hK hP2 hD2 rfl rfl rfl) rfl rfl hl.1 rfl (lv_room (Nat.le_of_ble_eq_true rfl)) dL_law_172 ⟨by show _ ≤ 601024; omega, by show _ ≤ 7293033; omega⟩) hS (fun H locs hP2 hS => ?_)
    have hP : va_P D vwCl ((xw qx cA n st sz bt so fc ofs tg ch ad) ++ (og qo cL fo :: mw qm cA cB n 1 st sz bt so fc ofs tg nw gr)) H := gP_swap (a := mw qm cA cB n 1 st sz bt so fc ofs tg nw gr) (b := (xw qx cA n st sz bt so fc ofs tg ch ad) ++ [og qo cL fo]) hP2
    refine lv_istore (lv' := [(6, .int (nI (0))), (5, .int (nI (1))), (4, .int (nI (i))), (3, .ref (qo)), (2, .ref (qm 0)), (1, .ref (qx 0)), (0, .ref (b))]) hx hb dL_law_175 hl (by decide) rfl (fun ls hl => ?_)
    refine lv_aload_n hx hb dL_law_177 rfl (lv_at hl 4 rfl) ?_
    have hP2 : va_P D vwCl ((mw qm cA cB n 1 st sz bt so fc ofs tg nw gr) ++ ((xw qx cA n st sz bt so fc ofs tg ch ad) ++ [og qo cL fo])) H := gP_swap (a := (xw qx cA n st sz bt so fc ofs tg ch ad) ++ [og qo cL fo]) (b := mw qm cA cB n 1 st sz bt so fc ofs tg nw gr) hP
    have hD2 : va_D A ((mw qm cA cB n 1 st sz bt so fc ofs tg nw gr) ++ ((xw qx cA n st sz bt so fc ofs tg ch ad) ++ [og qo cL fo])) := gD_same hDm rfl
    refine gi_goW (va_runV (As := []) (rest := []) ⟨hx, hb, hml, hown, hts⟩ (c_X1_thrown l D cA cB cL A ((xw qx cA n st sz bt so fc ofs tg ch ad) ++ [og qo cL fo]) qm n 1 st sz bt so fc ofs tg nw gr) (cwV 0 hts gL_law_X1_thrown rfl rfl rfl (by decide +kernel) ⟨Nat.le_of_ble_eq_true rfl, Nat.le_of_ble_eq_true rfl⟩) (gi_preV (q0 := 0) hK hP2 hD2 rfl rfl rfl) rfl rfl hl.1 rfl (lv_room (Nat.le_of_ble_eq_true rfl)) dL_law_178 ⟨by show _ ≤ 601024; omega, by show _ ≤ 7293033; omega⟩) hS (fun H locs hP2 hS => ?_)
    have hP : va_P D vwCl ((xw qx cA n st sz bt so fc ofs tg ch ad) ++ (og qo cL fo :: mw qm cA cB n 1 st sz bt so fc ofs tg nw gr)) H := gP_swap (a := mw qm cA cB n 1 st sz bt so fc ofs tg nw gr) (b := (xw qx cA n st sz bt so fc ofs tg ch ad) ++ [og qo cL fo]) hP2
    refine lv_iload hx hb dL_law_181 (lv_at hl 1 rfl) ?_
    refine gi_icmp_eq (tgt := 188) hx hb (by omega) (by omega) dL_law_183 rfl (fun h183 => ?_) (fun h9 => absurd h9 (by omega))
    refine lv_iload hx hb dL_law_188 (lv_at hl 1 rfl) ?_
    refine gi_if_ne (tgt := 205) hx hb (by omega) dL_law_190 rfl (fun h190 => ?_) (fun h9 => absurd h9 (by omega))
    refine lv_goto (tgt := 492) hx hb dL_law_205 rfl ?_
    refine W.widen (k := 19 + i + 1) (n := 4103 + 6 * i + 6) (by omega) (by omega) ?_
    exact G9 n 1 st sz bt so fc ofs tg ch ad nw gr fo H locs ls (hI) hP hS (lv_sub hl [2, 3, 4, 5, 6] rfl)
  | true =>
    obtain ⟨x, y, z, ex, ey, ez, hx1, hx2, hy1, hy2, hz2⟩ := gf_isf_ex hv
    have hf : gf_isf (nI x) (nI y) (nI z) = true := by rw [← ex, ← ey, ← ez]; exact hv
    cases n with
    | zero =>
      refine lv_aload_n hx hb dL_law_128 rfl (lv_at hl 3 rfl) ?_
      refine lv_aload_n hx hb dL_law_129 rfl (lv_at hl 4 rfl) ?_
      refine lv_iload hx hb dL_law_130 (lv_at hl 0 rfl) ?_
      refine lv_iconst (v := nI (1)) hx hb dL_law_132 (by decide) ?_
      refine gi_iadd hx hb (i + 1) rfl dL_law_133 ?_
      refine gi_sld hx hb hXs hbl hbA hS (by omega) (by omega) dL_law_134 ?_
      refine gi_top (y := (nI (x))) (ex) ?_
      refine lv_aload_n hx hb dL_law_135 rfl (lv_at hl 4 rfl) ?_
      refine lv_iload hx hb dL_law_136 (lv_at hl 0 rfl) ?_
      refine lv_iconst (v := nI (2)) hx hb dL_law_138 (by decide) ?_
      refine gi_iadd hx hb (i + 2) rfl dL_law_139 ?_
      refine gi_sld hx hb hXs hbl hbA hS (by omega) (by omega) dL_law_140 ?_
      refine gi_top (y := (nI (y))) (ey) ?_
      refine lv_aload_n hx hb dL_law_141 rfl (lv_at hl 4 rfl) ?_
      refine lv_iload hx hb dL_law_142 (lv_at hl 0 rfl) ?_
      refine lv_iconst (v := nI (3)) hx hb dL_law_144 (by decide) ?_
      refine gi_iadd hx hb (i + 3) rfl dL_law_145 ?_
      refine gi_sld hx hb hXs hbl hbA hS (by omega) (by omega) dL_law_146 ?_
      refine gi_top (y := (nI (z))) (ez) ?_
      refine lv_aload_n hx hb dL_law_147 rfl (lv_at hl 1 rfl) ?_
      have hD : va_D A ((xw qx cA 0 st sz bt so fc ofs tg ch ad) ++ (og qo cL fo :: mw qm cA cB 0 th st sz bt so fc ofs tg nw gr)) := gD_same hDx rfl
      refine gi_goW (vx_runSW (hh := [(0, 12, 15, 19), (0, 12, 19, 13)]) (As := [.ref (qx 0), .int (nI (x)), .int (nI (y)), .int (nI (z)), .ref (qo)]) (rest := []) ⟨hx, hb, hml, hown, hts⟩ (wex2_L_form l hl9 D cA cB cL A (mw qm cA cB 0 th st sz bt so fc ofs tg nw gr) qo fo qx st sz bt so fc ofs tg ch ad (nI x) (nI y) (nI z) hf) (vx_cwSW 5 hts gL_law_L_form rfl rfl rfl (by decide +kernel) ⟨Nat.le_of_ble_eq_true rfl, Nat.le_of_ble_eq_true rfl⟩) (gi_preSX hK hP hD hX hS) rfl rfl hl.1 rfl (lv_room (Nat.le_of_ble_eq_true rfl)) dL_law_148 ⟨by show _ ≤ 601024; omega, by show _ ≤ 7293033; omega⟩) hS (fun H locs hP hS => ?_)
      have hP : va_P D vwCl ((xw qx cA 0 st sz bt so fc ofs tg ch ad) ++ (og qo cL fo :: mw qm cA cB 0 th st sz bt so fc ofs tg nw gr)) H := hP
      refine lv_istore (lv' := [(5, .int (nI (2))), (4, .int (nI (i))), (3, .ref (qo)), (2, .ref (qm 0)), (1, .ref (qx 0)), (0, .ref (b))]) hx hb dL_law_151 hl (by decide) rfl (fun ls hl => ?_)
      refine lv_aload_n hx hb dL_law_153 rfl (lv_at hl 3 rfl) ?_
      refine lv_aload_n hx hb dL_law_154 rfl (lv_at hl 5 rfl) ?_
      refine lv_iload hx hb dL_law_155 (lv_at hl 1 rfl) ?_
      refine lv_iconst (v := nI (1)) hx hb dL_law_157 (by decide) ?_
      refine gi_iadd hx hb (i + 1) rfl dL_law_158 ?_
      refine gi_sld hx hb hXs hbl hbA hS (by omega) (by omega) dL_law_159 ?_
      refine gi_top (y := (nI (x))) (ex) ?_
      refine lv_aload_n hx hb dL_law_160 rfl (lv_at hl 5 rfl) ?_
      refine lv_iload hx hb dL_law_161 (lv_at hl 1 rfl) ?_
      refine lv_iconst (v := nI (2)) hx hb dL_law_163 (by decide) ?_
      refine gi_iadd hx hb (i + 2) rfl dL_law_164 ?_
      refine gi_sld hx hb hXs hbl hbA hS (by omega) (by omega) dL_law_165 ?_
      refine gi_top (y := (nI (y))) (ey) ?_
      refine lv_aload_n hx hb dL_law_166 rfl (lv_at hl 5 rfl) ?_
      refine lv_iload hx hb dL_law_167 (lv_at hl 1 rfl) ?_
      refine lv_iconst (v := nI (3)) hx hb dL_law_169 (by decide) ?_
      refine gi_iadd hx hb (i + 3) rfl dL_law_170 ?_
      refine gi_sld hx hb hXs hbl hbA hS (by omega) (by omega) dL_law_171 ?_
      refine gi_top (y := (nI (z))) (ez) ?_
      have hP2 : va_P D vwCl ((mw qm cA cB 0 th st sz bt so fc ofs tg nw gr) ++ ((xw qx cA 0 st sz bt so fc ofs tg ch ad) ++ [og qo cL fo])) H := gP_swap (a := (xw qx cA 0 st sz bt so fc ofs tg ch ad) ++ [og qo cL fo]) (b := mw qm cA cB 0 th st sz bt so fc ofs tg nw gr) hP
      have hD2 : va_D A ((mw qm cA cB 0 th st sz bt so fc ofs tg nw gr) ++ ((xw qx cA 0 st sz bt so fc ofs tg ch ad) ++ [og qo cL fo])) := gD_same hDm rfl
      refine gi_goW (va_runV (As := [.int (nI (x)), .int (nI (y)), .int (nI (z))]) (rest := []) ⟨hx, hb, hml, hown, hts⟩ (ex2_X1_form l D cA cB cL A ((xw qx cA 0 st sz bt so fc ofs tg ch ad) ++ [og qo cL fo]) qm th st sz bt so fc ofs tg nw gr x y z hx1 hx2 hy1 hy2 hz2) (cwV 3 hts gL_law_X1_form rfl rfl rfl (by decide +kernel) ⟨Nat.le_of_ble_eq_true rfl, Nat.le_of_ble_eq_true rfl⟩) (gi_preV (q0 := 0) hK hP2 hD2 rfl rfl rfl) rfl rfl hl.1 rfl (lv_room (Nat.le_of_ble_eq_true rfl)) dL_law_172 ⟨by show _ ≤ 601024; omega, by show _ ≤ 7293033; omega⟩) hS (fun H locs hP2 hS => ?_)
      have hP : va_P D vwCl ((xw qx cA 0 st sz bt so fc ofs tg ch ad) ++ (og qo cL fo :: mw qm cA cB 0 2 st sz bt so fc ofs tg nw gr)) H := gP_swap (a := mw qm cA cB 0 2 st sz bt so fc ofs tg nw gr) (b := (xw qx cA 0 st sz bt so fc ofs tg ch ad) ++ [og qo cL fo]) hP2
      refine lv_istore (lv' := [(6, .int (nI (0))), (5, .int (nI (2))), (4, .int (nI (i))), (3, .ref (qo)), (2, .ref (qm 0)), (1, .ref (qx 0)), (0, .ref (b))]) hx hb dL_law_175 hl (by decide) rfl (fun ls hl => ?_)
      refine lv_aload_n hx hb dL_law_177 rfl (lv_at hl 4 rfl) ?_
      have hP2 : va_P D vwCl ((mw qm cA cB 0 2 st sz bt so fc ofs tg nw gr) ++ ((xw qx cA 0 st sz bt so fc ofs tg ch ad) ++ [og qo cL fo])) H := gP_swap (a := (xw qx cA 0 st sz bt so fc ofs tg ch ad) ++ [og qo cL fo]) (b := mw qm cA cB 0 2 st sz bt so fc ofs tg nw gr) hP
      have hD2 : va_D A ((mw qm cA cB 0 2 st sz bt so fc ofs tg nw gr) ++ ((xw qx cA 0 st sz bt so fc ofs tg ch ad) ++ [og qo cL fo])) := gD_same hDm rfl
      refine gi_goW (va_runV (As := []) (rest := []) ⟨hx, hb, hml, hown, hts⟩ (c_X1_thrown l D cA cB cL A ((xw qx cA 0 st sz bt so fc ofs tg ch ad) ++ [og qo cL fo]) qm 0 2 st sz bt so fc ofs tg nw gr) (cwV 0 hts gL_law_X1_thrown rfl rfl rfl (by decide +kernel) ⟨Nat.le_of_ble_eq_true rfl, Nat.le_of_ble_eq_true rfl⟩) (gi_preV (q0 := 0) hK hP2 hD2 rfl rfl rfl) rfl rfl hl.1 rfl (lv_room (Nat.le_of_ble_eq_true rfl)) dL_law_178 ⟨by show _ ≤ 601024; omega, by show _ ≤ 7293033; omega⟩) hS (fun H locs hP2 hS => ?_)
      have hP : va_P D vwCl ((xw qx cA 0 st sz bt so fc ofs tg ch ad) ++ (og qo cL fo :: mw qm cA cB 0 2 st sz bt so fc ofs tg nw gr)) H := gP_swap (a := mw qm cA cB 0 2 st sz bt so fc ofs tg nw gr) (b := (xw qx cA 0 st sz bt so fc ofs tg ch ad) ++ [og qo cL fo]) hP2
      refine lv_iload hx hb dL_law_181 (lv_at hl 1 rfl) ?_
      refine gi_icmp_eq (tgt := 188) hx hb (by omega) (by omega) dL_law_183 rfl (fun h183 => ?_) (fun h9 => absurd h9 (by omega))
      refine lv_iload hx hb dL_law_188 (lv_at hl 1 rfl) ?_
      refine gi_if_ne (tgt := 205) hx hb (by omega) dL_law_190 rfl (fun h190 => ?_) (fun h9 => absurd h9 (by omega))
      refine lv_goto (tgt := 492) hx hb dL_law_205 rfl ?_
      refine W.widen (k := 19 + i + 1) (n := 4103 + 6 * i + 6) (by omega) (by omega) ?_
      exact G9 0 2 st sz bt so fc ofs tg ch ad nw gr fo H locs ls (hI) hP hS (lv_sub hl [2, 3, 4, 5, 6] rfl)
    | succ k =>
      have hfc4 := (hw.2 k (by omega)).1
      by_cases hfc : fc k < 4
      · refine lv_aload_n hx hb dL_law_128 rfl (lv_at hl 3 rfl) ?_
        refine lv_aload_n hx hb dL_law_129 rfl (lv_at hl 4 rfl) ?_
        refine lv_iload hx hb dL_law_130 (lv_at hl 0 rfl) ?_
        refine lv_iconst (v := nI (1)) hx hb dL_law_132 (by decide) ?_
        refine gi_iadd hx hb (i + 1) rfl dL_law_133 ?_
        refine gi_sld hx hb hXs hbl hbA hS (by omega) (by omega) dL_law_134 ?_
        refine gi_top (y := (nI (x))) (ex) ?_
        refine lv_aload_n hx hb dL_law_135 rfl (lv_at hl 4 rfl) ?_
        refine lv_iload hx hb dL_law_136 (lv_at hl 0 rfl) ?_
        refine lv_iconst (v := nI (2)) hx hb dL_law_138 (by decide) ?_
        refine gi_iadd hx hb (i + 2) rfl dL_law_139 ?_
        refine gi_sld hx hb hXs hbl hbA hS (by omega) (by omega) dL_law_140 ?_
        refine gi_top (y := (nI (y))) (ey) ?_
        refine lv_aload_n hx hb dL_law_141 rfl (lv_at hl 4 rfl) ?_
        refine lv_iload hx hb dL_law_142 (lv_at hl 0 rfl) ?_
        refine lv_iconst (v := nI (3)) hx hb dL_law_144 (by decide) ?_
        refine gi_iadd hx hb (i + 3) rfl dL_law_145 ?_
        refine gi_sld hx hb hXs hbl hbA hS (by omega) (by omega) dL_law_146 ?_
        refine gi_top (y := (nI (z))) (ez) ?_
        refine lv_aload_n hx hb dL_law_147 rfl (lv_at hl 1 rfl) ?_
        have hD : va_D A ((xw qx cA (k + 1) st sz bt so fc ofs tg ch ad) ++ (og qo cL fo :: mw qm cA cB (k + 1) th st sz bt so fc ofs tg nw gr)) := gD_same hDx rfl
        refine gi_goW (vx_runSW (hh := [(0, 12, 15, 19), (0, 12, 19, 13)]) (As := [.ref (qx 0), .int (nI (x)), .int (nI (y)), .int (nI (z)), .ref (qo)]) (rest := []) ⟨hx, hb, hml, hown, hts⟩ (wok_L_form l D cA cB cL A (mw qm cA cB (k + 1) th st sz bt so fc ofs tg nw gr) qo fo qx st sz bt so fc ofs tg ch ad k x y z (show k < 120 by omega) hfc hf) (vx_cwSW 5 hts gL_law_L_form rfl rfl rfl (by decide +kernel) ⟨Nat.le_of_ble_eq_true rfl, Nat.le_of_ble_eq_true rfl⟩) (gi_preS hK hP hD) rfl rfl hl.1 rfl (lv_room (Nat.le_of_ble_eq_true rfl)) dL_law_148 ⟨by show _ ≤ 601024; omega, by show _ ≤ 7293033; omega⟩) hS (fun H locs hP hS => ?_)
        have hP : va_P D vwCl ((xw qx cA (k + 1) false (gU sz (4 * k + fc k) x) (gU bt (4 * k + fc k) y) (gU so (4 * k + fc k) z) (gU fc k (fc k + 1)) ofs tg ch ad) ++ (og qo cL (vp_updL fo 0 ((nI (fc k + 1)).toInt64)) :: mw qm cA cB (k + 1) th st sz bt so fc ofs tg nw gr)) H := hP
        refine lv_istore (lv' := [(5, .int (nI (0))), (4, .int (nI (i))), (3, .ref (qo)), (2, .ref (qm 0)), (1, .ref (qx 0)), (0, .ref (b))]) hx hb dL_law_151 hl (by decide) rfl (fun ls hl => ?_)
        refine lv_aload_n hx hb dL_law_153 rfl (lv_at hl 3 rfl) ?_
        refine lv_aload_n hx hb dL_law_154 rfl (lv_at hl 5 rfl) ?_
        refine lv_iload hx hb dL_law_155 (lv_at hl 1 rfl) ?_
        refine lv_iconst (v := nI (1)) hx hb dL_law_157 (by decide) ?_
        refine gi_iadd hx hb (i + 1) rfl dL_law_158 ?_
        refine gi_sld hx hb hXs hbl hbA hS (by omega) (by omega) dL_law_159 ?_
        refine gi_top (y := (nI (x))) (ex) ?_
        refine lv_aload_n hx hb dL_law_160 rfl (lv_at hl 5 rfl) ?_
        refine lv_iload hx hb dL_law_161 (lv_at hl 1 rfl) ?_
        refine lv_iconst (v := nI (2)) hx hb dL_law_163 (by decide) ?_
        refine gi_iadd hx hb (i + 2) rfl dL_law_164 ?_
        refine gi_sld hx hb hXs hbl hbA hS (by omega) (by omega) dL_law_165 ?_
        refine gi_top (y := (nI (y))) (ey) ?_
        refine lv_aload_n hx hb dL_law_166 rfl (lv_at hl 5 rfl) ?_
        refine lv_iload hx hb dL_law_167 (lv_at hl 1 rfl) ?_
        refine lv_iconst (v := nI (3)) hx hb dL_law_169 (by decide) ?_
        refine gi_iadd hx hb (i + 3) rfl dL_law_170 ?_
        refine gi_sld hx hb hXs hbl hbA hS (by omega) (by omega) dL_law_171 ?_
        refine gi_top (y := (nI (z))) (ez) ?_
        have hP2 : va_P D vwCl ((mw qm cA cB (k + 1) th st sz bt so fc ofs tg nw gr) ++ ((xw qx cA (k + 1) false (gU sz (4 * k + fc k) x) (gU bt (4 * k + fc k) y) (gU so (4 * k + fc k) z) (gU fc k (fc k + 1)) ofs tg ch ad) ++ [og qo cL (vp_updL fo 0 ((nI (fc k + 1)).toInt64))])) H := gP_swap (a := (xw qx cA (k + 1) false (gU sz (4 * k + fc k) x) (gU bt (4 * k + fc k) y) (gU so (4 * k + fc k) z) (gU fc k (fc k + 1)) ofs tg ch ad) ++ [og qo cL (vp_updL fo 0 ((nI (fc k + 1)).toInt64))]) (b := mw qm cA cB (k + 1) th st sz bt so fc ofs tg nw gr) hP
        have hD2 : va_D A ((mw qm cA cB (k + 1) th st sz bt so fc ofs tg nw gr) ++ ((xw qx cA (k + 1) false (gU sz (4 * k + fc k) x) (gU bt (4 * k + fc k) y) (gU so (4 * k + fc k) z) (gU fc k (fc k + 1)) ofs tg ch ad) ++ [og qo cL (vp_updL fo 0 ((nI (fc k + 1)).toInt64))])) := gD_same hDm rfl
        refine gi_goW (va_runV (As := [.int (nI (x)), .int (nI (y)), .int (nI (z))]) (rest := []) ⟨hx, hb, hml, hown, hts⟩ (ok_X1_form l D cA cB cL A ((xw qx cA (k + 1) false (gU sz (4 * k + fc k) x) (gU bt (4 * k + fc k) y) (gU so (4 * k + fc k) z) (gU fc k (fc k + 1)) ofs tg ch ad) ++ [og qo cL (vp_updL fo 0 ((nI (fc k + 1)).toInt64))]) qm th st sz bt so fc ofs tg nw gr k x y z (show k < 120 by omega) hfc hx1 hx2 hy1 hy2 hz2) (cwV 3 hts gL_law_X1_form rfl rfl rfl (by decide +kernel) ⟨Nat.le_of_ble_eq_true rfl, Nat.le_of_ble_eq_true rfl⟩) (gi_preV (q0 := 0) hK hP2 hD2 rfl rfl rfl) rfl rfl hl.1 rfl (lv_room (Nat.le_of_ble_eq_true rfl)) dL_law_172 ⟨by show _ ≤ 601024; omega, by show _ ≤ 7293033; omega⟩) hS (fun H locs hP2 hS => ?_)
        have hP : va_P D vwCl ((xw qx cA (k + 1) false (gU sz (4 * k + fc k) x) (gU bt (4 * k + fc k) y) (gU so (4 * k + fc k) z) (gU fc k (fc k + 1)) ofs tg ch ad) ++ (og qo cL (vp_updL fo 0 ((nI (fc k + 1)).toInt64)) :: mw qm cA cB (k + 1) 0 false (gU sz (4 * k + fc k) x) (gU bt (4 * k + fc k) y) (gU so (4 * k + fc k) z) (gU fc k (fc k + 1)) ofs tg nw gr)) H := gP_swap (a := mw qm cA cB (k + 1) 0 false (gU sz (4 * k + fc k) x) (gU bt (4 * k + fc k) y) (gU so (4 * k + fc k) z) (gU fc k (fc k + 1)) ofs tg nw gr) (b := (xw qx cA (k + 1) false (gU sz (4 * k + fc k) x) (gU bt (4 * k + fc k) y) (gU so (4 * k + fc k) z) (gU fc k (fc k + 1)) ofs tg ch ad) ++ [og qo cL (vp_updL fo 0 ((nI (fc k + 1)).toInt64))]) hP2
        refine lv_istore (lv' := [(6, .int (nI (fc k + 1))), (5, .int (nI (0))), (4, .int (nI (i))), (3, .ref (qo)), (2, .ref (qm 0)), (1, .ref (qx 0)), (0, .ref (b))]) hx hb dL_law_175 hl (by decide) rfl (fun ls hl => ?_)
        refine lv_aload_n hx hb dL_law_177 rfl (lv_at hl 4 rfl) ?_
        have hP2 : va_P D vwCl ((mw qm cA cB (k + 1) 0 false (gU sz (4 * k + fc k) x) (gU bt (4 * k + fc k) y) (gU so (4 * k + fc k) z) (gU fc k (fc k + 1)) ofs tg nw gr) ++ ((xw qx cA (k + 1) false (gU sz (4 * k + fc k) x) (gU bt (4 * k + fc k) y) (gU so (4 * k + fc k) z) (gU fc k (fc k + 1)) ofs tg ch ad) ++ [og qo cL (vp_updL fo 0 ((nI (fc k + 1)).toInt64))])) H := gP_swap (a := (xw qx cA (k + 1) false (gU sz (4 * k + fc k) x) (gU bt (4 * k + fc k) y) (gU so (4 * k + fc k) z) (gU fc k (fc k + 1)) ofs tg ch ad) ++ [og qo cL (vp_updL fo 0 ((nI (fc k + 1)).toInt64))]) (b := mw qm cA cB (k + 1) 0 false (gU sz (4 * k + fc k) x) (gU bt (4 * k + fc k) y) (gU so (4 * k + fc k) z) (gU fc k (fc k + 1)) ofs tg nw gr) hP
        have hD2 : va_D A ((mw qm cA cB (k + 1) 0 false (gU sz (4 * k + fc k) x) (gU bt (4 * k + fc k) y) (gU so (4 * k + fc k) z) (gU fc k (fc k + 1)) ofs tg nw gr) ++ ((xw qx cA (k + 1) false (gU sz (4 * k + fc k) x) (gU bt (4 * k + fc k) y) (gU so (4 * k + fc k) z) (gU fc k (fc k + 1)) ofs tg ch ad) ++ [og qo cL (vp_updL fo 0 ((nI (fc k + 1)).toInt64))])) := gD_same hDm rfl
        refine gi_goW (va_runV (As := []) (rest := []) ⟨hx, hb, hml, hown, hts⟩ (c_X1_thrown l D cA cB cL A ((xw qx cA (k + 1) false (gU sz (4 * k + fc k) x) (gU bt (4 * k + fc k) y) (gU so (4 * k + fc k) z) (gU fc k (fc k + 1)) ofs tg ch ad) ++ [og qo cL (vp_updL fo 0 ((nI (fc k + 1)).toInt64))]) qm (k + 1) 0 false (gU sz (4 * k + fc k) x) (gU bt (4 * k + fc k) y) (gU so (4 * k + fc k) z) (gU fc k (fc k + 1)) ofs tg nw gr) (cwV 0 hts gL_law_X1_thrown rfl rfl rfl (by decide +kernel) ⟨Nat.le_of_ble_eq_true rfl, Nat.le_of_ble_eq_true rfl⟩) (gi_preV (q0 := 0) hK hP2 hD2 rfl rfl rfl) rfl rfl hl.1 rfl (lv_room (Nat.le_of_ble_eq_true rfl)) dL_law_178 ⟨by show _ ≤ 601024; omega, by show _ ≤ 7293033; omega⟩) hS (fun H locs hP2 hS => ?_)
        have hP : va_P D vwCl ((xw qx cA (k + 1) false (gU sz (4 * k + fc k) x) (gU bt (4 * k + fc k) y) (gU so (4 * k + fc k) z) (gU fc k (fc k + 1)) ofs tg ch ad) ++ (og qo cL (vp_updL fo 0 ((nI (fc k + 1)).toInt64)) :: mw qm cA cB (k + 1) 0 false (gU sz (4 * k + fc k) x) (gU bt (4 * k + fc k) y) (gU so (4 * k + fc k) z) (gU fc k (fc k + 1)) ofs tg nw gr)) H := gP_swap (a := mw qm cA cB (k + 1) 0 false (gU sz (4 * k + fc k) x) (gU bt (4 * k + fc k) y) (gU so (4 * k + fc k) z) (gU fc k (fc k + 1)) ofs tg nw gr) (b := (xw qx cA (k + 1) false (gU sz (4 * k + fc k) x) (gU bt (4 * k + fc k) y) (gU so (4 * k + fc k) z) (gU fc k (fc k + 1)) ofs tg ch ad) ++ [og qo cL (vp_updL fo 0 ((nI (fc k + 1)).toInt64))]) hP2
        refine lv_iload hx hb dL_law_181 (lv_at hl 1 rfl) ?_
        refine gi_icmp_eq (tgt := 188) hx hb (by omega) (by omega) dL_law_183 rfl (fun h183 => ?_) (fun h9 => absurd h9 (by omega))
        refine lv_iload hx hb dL_law_188 (lv_at hl 1 rfl) ?_
        refine gi_if_ne (tgt := 205) hx hb (by omega) dL_law_190 rfl (fun h9 => absurd h9 (by omega)) (fun h190 => ?_)
        refine lv_aload_n hx hb dL_law_193 rfl (lv_at hl 3 rfl) ?_
        refine lv_iconst (v := nI (0)) hx hb dL_law_194 (by decide) ?_
        refine gi_lld hx hb hK hP 9 2 (vp_updL fo 0 ((nI (fc k + 1)).toInt64)) rfl rfl (by decide) (by decide) dL_law_195 ?_
        refine gi_topl (y := ((nI (fc k + 1)).toInt64)) (if_pos rfl) ?_
        refine lv_iload hx hb dL_law_196 (lv_at hl 0 rfl) ?_
        refine lv_i2l (v := ((nI (fc k + 1))).toInt64) hx hb dL_law_198 rfl ?_
        refine gi_lcmp hx hb dL_law_199 ?_
        refine gi_lif_eq (tgt := 205) hx hb dL_law_200 rfl (fun h200 => ?_) (fun h9 => absurd h9 (fun z9 => z9 rfl))
        refine lv_goto (tgt := 492) hx hb dL_law_205 rfl ?_
        refine W.widen (k := 19 + i + 1) (n := 4103 + 6 * i + 6) (by omega) (by omega) ?_
        exact G9 (k + 1) 0 false (gU sz (4 * k + fc k) x) (gU bt (4 * k + fc k) y) (gU so (4 * k + fc k) z) (gU fc k (fc k + 1)) ofs tg ch ad nw gr (vp_updL fo 0 ((nI (fc k + 1)).toInt64)) H locs ls (⟨gf_wf_form hw hfc hx1 hx2 hy1 hy2 hz2, fun h9 => absurd h9 (by decide)⟩) hP hS (lv_sub hl [2, 3, 4, 5, 6] rfl)
      · have hfc : fc k = 4 := by omega
        refine lv_aload_n hx hb dL_law_128 rfl (lv_at hl 3 rfl) ?_
        refine lv_aload_n hx hb dL_law_129 rfl (lv_at hl 4 rfl) ?_
        refine lv_iload hx hb dL_law_130 (lv_at hl 0 rfl) ?_
        refine lv_iconst (v := nI (1)) hx hb dL_law_132 (by decide) ?_
        refine gi_iadd hx hb (i + 1) rfl dL_law_133 ?_
        refine gi_sld hx hb hXs hbl hbA hS (by omega) (by omega) dL_law_134 ?_
        refine gi_top (y := (nI (x))) (ex) ?_
        refine lv_aload_n hx hb dL_law_135 rfl (lv_at hl 4 rfl) ?_
        refine lv_iload hx hb dL_law_136 (lv_at hl 0 rfl) ?_
        refine lv_iconst (v := nI (2)) hx hb dL_law_138 (by decide) ?_
        refine gi_iadd hx hb (i + 2) rfl dL_law_139 ?_
        refine gi_sld hx hb hXs hbl hbA hS (by omega) (by omega) dL_law_140 ?_
        refine gi_top (y := (nI (y))) (ey) ?_
        refine lv_aload_n hx hb dL_law_141 rfl (lv_at hl 4 rfl) ?_
        refine lv_iload hx hb dL_law_142 (lv_at hl 0 rfl) ?_
        refine lv_iconst (v := nI (3)) hx hb dL_law_144 (by decide) ?_
        refine gi_iadd hx hb (i + 3) rfl dL_law_145 ?_
        refine gi_sld hx hb hXs hbl hbA hS (by omega) (by omega) dL_law_146 ?_
        refine gi_top (y := (nI (z))) (ez) ?_
        refine lv_aload_n hx hb dL_law_147 rfl (lv_at hl 1 rfl) ?_
        have hD : va_D A ((xw qx cA (k + 1) st sz bt so fc ofs tg ch ad) ++ (og qo cL fo :: mw qm cA cB (k + 1) th st sz bt so fc ofs tg nw gr)) := gD_same hDx rfl
        refine gi_goW (vx_runSW (hh := [(0, 12, 15, 19), (0, 12, 19, 13)]) (As := [.ref (qx 0), .int (nI (x)), .int (nI (y)), .int (nI (z)), .ref (qo)]) (rest := []) ⟨hx, hb, hml, hown, hts⟩ (wex3_L_form l hl9 D cA cB cL A (mw qm cA cB (k + 1) th st sz bt so fc ofs tg nw gr) qo fo qx st sz bt so fc ofs tg ch ad k (nI x) (nI y) (nI z) (show k < 120 by omega) hfc hf) (vx_cwSW 5 hts gL_law_L_form rfl rfl rfl (by decide +kernel) ⟨Nat.le_of_ble_eq_true rfl, Nat.le_of_ble_eq_true rfl⟩) (gi_preSX hK hP hD hX hS) rfl rfl hl.1 rfl (lv_room (Nat.le_of_ble_eq_true rfl)) dL_law_148 ⟨by show _ ≤ 601024; omega, by show _ ≤ 7293033; omega⟩) hS (fun H locs hP hS => ?_)
        have hP : va_P D vwCl ((xw qx cA (k + 1) st sz bt so fc ofs tg ch ad) ++ (og qo cL fo :: mw qm cA cB (k + 1) th st sz bt so fc ofs tg nw gr)) H := hP
        refine lv_istore (lv' := [(5, .int (nI (2))), (4, .int (nI (i))), (3, .ref (qo)), (2, .ref (qm 0)), (1, .ref (qx 0)), (0, .ref (b))]) hx hb dL_law_151 hl (by decide) rfl (fun ls hl => ?_)
        refine lv_aload_n hx hb dL_law_153 rfl (lv_at hl 3 rfl) ?_
        refine lv_aload_n hx hb dL_law_154 rfl (lv_at hl 5 rfl) ?_
        refine lv_iload hx hb dL_law_155 (lv_at hl 1 rfl) ?_
        refine lv_iconst (v := nI (1)) hx hb dL_law_157 (by decide) ?_
        refine gi_iadd hx hb (i + 1) rfl dL_law_158 ?_
        refine gi_sld hx hb hXs hbl hbA hS (by omega) (by omega) dL_law_159 ?_
        refine gi_top (y := (nI (x))) (ex) ?_
        refine lv_aload_n hx hb dL_law_160 rfl (lv_at hl 5 rfl) ?_
        refine lv_iload hx hb dL_law_161 (lv_at hl 1 rfl) ?_
        refine lv_iconst (v := nI (2)) hx hb dL_law_163 (by decide) ?_
        refine gi_iadd hx hb (i + 2) rfl dL_law_164 ?_
        refine gi_sld hx hb hXs hbl hbA hS (by omega) (by omega) dL_law_165 ?_
        refine gi_top (y := (nI (y))) (ey) ?_
        refine lv_aload_n hx hb dL_law_166 rfl (lv_at hl 5 rfl) ?_
        refine lv_iload hx hb dL_law_167 (lv_at hl 1 rfl) ?_
        refine lv_iconst (v := nI (3)) hx hb dL_law_169 (by decide) ?_
        refine gi_iadd hx hb (i + 3) rfl dL_law_170 ?_
        refine gi_sld hx hb hXs hbl hbA hS (by omega) (by omega) dL_law_171 ?_
        refine gi_top (y := (nI (z))) (ez) ?_
        have hP2 : va_P D vwCl ((mw qm cA cB (k + 1) th st sz bt so fc ofs tg nw gr) ++ ((xw qx cA (k + 1) st sz bt so fc ofs tg ch ad) ++ [og qo cL fo])) H := gP_swap (a := (xw qx cA (k + 1) st sz bt so fc ofs tg ch ad) ++ [og qo cL fo]) (b := mw qm cA cB (k + 1) th st sz bt so fc ofs tg nw gr) hP
        have hD2 : va_D A ((mw qm cA cB (k + 1) th st sz bt so fc ofs tg nw gr) ++ ((xw qx cA (k + 1) st sz bt so fc ofs tg ch ad) ++ [og qo cL fo])) := gD_same hDm rfl
        refine gi_goW (va_runV (As := [.int (nI (x)), .int (nI (y)), .int (nI (z))]) (rest := []) ⟨hx, hb, hml, hown, hts⟩ (ex3_X1_form l D cA cB cL A ((xw qx cA (k + 1) st sz bt so fc ofs tg ch ad) ++ [og qo cL fo]) qm th st sz bt so fc ofs tg nw gr k x y z (show k < 120 by omega) hfc hx1 hx2 hy1 hy2 hz2) (cwV 3 hts gL_law_X1_form rfl rfl rfl (by decide +kernel) ⟨Nat.le_of_ble_eq_true rfl, Nat.le_of_ble_eq_true rfl⟩) (gi_preV (q0 := 0) hK hP2 hD2 rfl rfl rfl) rfl rfl hl.1 rfl (lv_room (Nat.le_of_ble_eq_true rfl)) dL_law_172 ⟨by show _ ≤ 601024; omega, by show _ ≤ 7293033; omega⟩) hS (fun H locs hP2 hS => ?_)
        have hP : va_P D vwCl ((xw qx cA (k + 1) st sz bt so fc ofs tg ch ad) ++ (og qo cL fo :: mw qm cA cB (k + 1) 2 st sz bt so fc ofs tg nw gr)) H := gP_swap (a := mw qm cA cB (k + 1) 2 st sz bt so fc ofs tg nw gr) (b := (xw qx cA (k + 1) st sz bt so fc ofs tg ch ad) ++ [og qo cL fo]) hP2
        refine lv_istore (lv' := [(6, .int (nI (0))), (5, .int (nI (2))), (4, .int (nI (i))), (3, .ref (qo)), (2, .ref (qm 0)), (1, .ref (qx 0)), (0, .ref (b))]) hx hb dL_law_175 hl (by decide) rfl (fun ls hl => ?_)
        refine lv_aload_n hx hb dL_law_177 rfl (lv_at hl 4 rfl) ?_
        have hP2 : va_P D vwCl ((mw qm cA cB (k + 1) 2 st sz bt so fc ofs tg nw gr) ++ ((xw qx cA (k + 1) st sz bt so fc ofs tg ch ad) ++ [og qo cL fo])) H := gP_swap (a := (xw qx cA (k + 1) st sz bt so fc ofs tg ch ad) ++ [og qo cL fo]) (b := mw qm cA cB (k + 1) 2 st sz bt so fc ofs tg nw gr) hP
        have hD2 : va_D A ((mw qm cA cB (k + 1) 2 st sz bt so fc ofs tg nw gr) ++ ((xw qx cA (k + 1) st sz bt so fc ofs tg ch ad) ++ [og qo cL fo])) := gD_same hDm rfl
        refine gi_goW (va_runV (As := []) (rest := []) ⟨hx, hb, hml, hown, hts⟩ (c_X1_thrown l D cA cB cL A ((xw qx cA (k + 1) st sz bt so fc ofs tg ch ad) ++ [og qo cL fo]) qm (k + 1) 2 st sz bt so fc ofs tg nw gr) (cwV 0 hts gL_law_X1_thrown rfl rfl rfl (by decide +kernel) ⟨Nat.le_of_ble_eq_true rfl, Nat.le_of_ble_eq_true rfl⟩) (gi_preV (q0 := 0) hK hP2 hD2 rfl rfl rfl) rfl rfl hl.1 rfl (lv_room (Nat.le_of_ble_eq_true rfl)) dL_law_178 ⟨by show _ ≤ 601024; omega, by show _ ≤ 7293033; omega⟩) hS (fun H locs hP2 hS => ?_)
        have hP : va_P D vwCl ((xw qx cA (k + 1) st sz bt so fc ofs tg ch ad) ++ (og qo cL fo :: mw qm cA cB (k + 1) 2 st sz bt so fc ofs tg nw gr)) H := gP_swap (a := mw qm cA cB (k + 1) 2 st sz bt so fc ofs tg nw gr) (b := (xw qx cA (k + 1) st sz bt so fc ofs tg ch ad) ++ [og qo cL fo]) hP2
        refine lv_iload hx hb dL_law_181 (lv_at hl 1 rfl) ?_
        refine gi_icmp_eq (tgt := 188) hx hb (by omega) (by omega) dL_law_183 rfl (fun h183 => ?_) (fun h9 => absurd h9 (by omega))
        refine lv_iload hx hb dL_law_188 (lv_at hl 1 rfl) ?_
        refine gi_if_ne (tgt := 205) hx hb (by omega) dL_law_190 rfl (fun h190 => ?_) (fun h9 => absurd h9 (by omega))
        refine lv_goto (tgt := 492) hx hb dL_law_205 rfl ?_
        refine W.widen (k := 19 + i + 1) (n := 4103 + 6 * i + 6) (by omega) (by omega) ?_
        exact G9 (k + 1) 2 st sz bt so fc ofs tg ch ad nw gr fo H locs ls (hI) hP hS (lv_sub hl [2, 3, 4, 5, 6] rfl)
