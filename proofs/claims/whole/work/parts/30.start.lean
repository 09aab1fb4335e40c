set_option maxHeartbeats 8000000 in
set_option maxRecDepth 100000 in
theorem whole_start {p : Program} {e : Env} {s : State} {m : MethodId} {below : List Frame} {meth : Method} {c : Code} (l : Launch) (hl9 : l.stackTraces = false) {b L : Nat} {xs : Nat → Int32} (hL : L ≤ 2048) (C0 : lw_At p s m meth c b L xs) : W p l e room_1 s m #[Value.ref b] below meth c s.heap [] 0 0 (lw_Z below #[Value.ref b] s) (entryFrame m ([Value.ref b] : List Value).toArray 8) := by
  obtain ⟨hx, hb, hr, hml, hown0, hts, hXs, hbl, hlk, hgv⟩ := C0
  have hown : s.vm.findClass RL = some m.cls := hown0
  obtain ⟨c0, i0, hk0⟩ := u_known (C := RX0) (T := TX0) (N := 10) (n := 10) hts (fun w h => gTT_tbl w (inTX0 w h)) (hts _ (gTT_tbl _ tn_GrowForms))
  obtain ⟨c1, i1, hk1⟩ := u_known (C := RX1) (T := TX1) (N := 11) (n := 11) hts (fun w h => gTT_tbl w (inTX1 w h)) (hts _ (gTT_tbl _ tn_GrowFormsModel))
  obtain ⟨cA, a1, a2⟩ := gi_arr (ty := .int) (fun _ => Iff.rfl) (hts _ (gTT_tbl _ ta_int))
  obtain ⟨cB, b1, b2⟩ := gi_arr (ty := .boolean) (fun _ => Iff.rfl) (hts _ (gTT_tbl _ ta_boolean))
  obtain ⟨cL, l1, l2⟩ := gi_arr (ty := .long) (fun _ => Iff.rfl) (hts _ (gTT_tbl _ ta_long))
  have hK : va_K (gD2 c0 c1 i0 i1) vwCl [(cA, .int), (cB, .boolean), (cL, .long)] s := by
    refine ⟨fun k q hq => ?_, fun k q hq => ?_⟩
    · match k, hq with
      | 0, hq => cases hq; exact hk0
      | 1, hq => cases hq; exact hk1
    · match k, hq with
      | 0, hq => cases hq; exact ⟨a1, a2⟩
      | 1, hq => cases hq; exact ⟨b1, b2⟩
      | 2, hq => cases hq; exact ⟨l1, l2⟩
  generalize gD2 c0 c1 i0 i1 = D at hK
  obtain ⟨A, hAe⟩ : ∃ A : Nat → Prop, A = fun q => s.heap.size ≤ q := ⟨_, rfl⟩
  have hA : ∀ q : Nat, s.heap.size ≤ q → A q := fun q h => by rw [hAe]; exact h
  have hA9 : ∀ q : Nat, A q → s.heap.size ≤ q := fun q h => by rw [hAe] at h; exact h
  have hbA : ¬ A b := fun h => absurd (hA9 b h) (by omega)
  have hX : gX A s s.heap := gi_gX (fun a ha h => absurd (hA9 a h) (by omega)) hts hgv
  have hP : va_P D vwCl [] s.heap := fun k q h => by simp at h
  have hD : va_D A [] := ⟨fun i j x y h => by simp at h, fun k q h => by simp at h⟩
  have hS : va_S A s.heap s.heap [] := va_S.rf
  have hl := lv_entry ([.ref b]) (n := 8) (Nat.le_of_ble_eq_true rfl)
  rw [lg_entry_eq]
  generalize (lg_sl ([.ref b]) ++ List.replicate (8 - (lg_sl ([.ref b])).length) Slot.unset).toArray = ls at hl ⊢
  have hl : lv_has ls 8 [(0, .ref b)] := hl
  refine va_new (ci := 0) (fs := [.null, .null, .null, .null, .null, .null, .null, .null, .int (nI (0)), .int (bI (false))]) (C := RX0) (T := TX0) (N := 10) hx hb hts (fun w h => gTT_tbl w (inTX0 w h)) tyX0 tyX0_ok hown (hts _ (gTT_tbl _ tkL_8)) (hts _ (gTT_tbl _ tn_GrowForms)) (hts _ (gTT_tbl _ ti_GrowForms)) hK hP hD hS hA rfl (fun j hj => by
    have h9 : j = 0 ∨ j = 1 ∨ j = 2 ∨ j = 3 ∨ j = 4 ∨ j = 5 ∨ j = 6 ∨ j = 7 ∨ j = 8 ∨ j = 9 := by omega
    rcases h9 with rfl | rfl | rfl | rfl | rfl | rfl | rfl | rfl | rfl | rfl <;> rfl) (Nat.le_of_ble_eq_true rfl) (Nat.le_of_ble_eq_true rfl) dL_law_0 (fun q0 H hP hD hS => ?_)
  have hP : va_P D vwCl (w0_X0 q0) H := hP
  have hD : va_D A (w0_X0 q0) := hD
  refine lv_dup hx hb dL_law_3 rfl ?_
  have hFc := va_free (wc := w0_X0 q0) hD hS hA [0] rfl
  refine va_callv (va_runI (As := []) (rest := [.ref q0]) ⟨hx, hb, hml, hown, hts⟩ (c_X0_init l D cA cB cL q0 H.size) (cwI 0 hts gL_law_X0_init rfl rfl rfl (hts _ (gTT_tbl _ ti_GrowForms)) (hts _ (gTT_tbl _ glL_law_X0_init)) (hts _ (gTT_tbl _ gm_X0_init)) rfl (by decide +kernel) ⟨Nat.le_of_ble_eq_true rfl, Nat.le_of_ble_eq_true rfl⟩) ⟨fun a U g mk q => by obtain ⟨z0, z1, zP, zK, zD⟩ := q; exact ⟨z0, z1, zP, va_K.moved (u := U) (U := U.calling g mk a) (Vm.Alike.refl U.vm) zK, zD⟩, fun U hU hW => ⟨rfl, by rw [hU], by rw [hU]; exact hP, va_K.moved hW.alike hK, hD.weaken (fun _ _ _ _ => trivial)⟩⟩ rfl rfl hl.1 rfl (lv_room (Nat.le_of_ble_eq_true rfl)) dL_law_4 ⟨Nat.le_of_ble_eq_true rfl, Nat.le_of_ble_eq_true rfl⟩) hS (fun q _ h => hFc q h) hFc (fun u t H1 locs ht hvm _ hB hz1 hk1 hS => ?_)
  obtain ⟨qx, hq0, hP1, hD1⟩ := hB
  rw [ht] at hP1
  obtain ⟨hP7, hD7⟩ := va_join (wr := []) (w1 := xw qx cA 0 false zN zN zN zN zI zN zI zN) hP hD [0] [] rfl rfl (by decide) (by decide) hk1 hFc hP1 hD1
  clear hP1 hD1 hFc hk1
  subst hq0
  have hP : va_P D vwCl (xw qx cA 0 false zN zN zN zN zI zN zI zN) H1 := hP7
  have hD : va_D A (xw qx cA 0 false zN zN zN zN zI zN zI zN) := hD7
  refine lv_astore_n (lv' := [(1, .ref (qx 0)), (0, .ref b)]) hx hb dL_law_7 rfl hl (by decide) rfl (fun ls hl => ?_)
  refine va_new (ci := 1) (fs := [.null, .null, .null, .null, .null, .null, .null, .int (nI (0)), .int (nI (0)), .int (bI (false)), .null]) (C := RX1) (T := TX1) (N := 11) hx hb hts (fun w h => gTT_tbl w (inTX1 w h)) tyX1 tyX1_ok hown (hts _ (gTT_tbl _ tkL_44)) (hts _ (gTT_tbl _ tn_GrowFormsModel)) (hts _ (gTT_tbl _ ti_GrowFormsModel)) hK hP hD hS hA rfl (fun j hj => by
    have h9 : j = 0 ∨ j = 1 ∨ j = 2 ∨ j = 3 ∨ j = 4 ∨ j = 5 ∨ j = 6 ∨ j = 7 ∨ j = 8 ∨ j = 9 ∨ j = 10 := by omega
    rcases h9 with rfl | rfl | rfl | rfl | rfl | rfl | rfl | rfl | rfl | rfl | rfl <;> rfl) (Nat.le_of_ble_eq_true rfl) (Nat.le_of_ble_eq_true rfl) dL_law_8 (fun q1 H hP hD hS => ?_)
  have hP : va_P D vwCl (xw qx cA 0 false zN zN zN zN zI zN zI zN ++ w0_X1 q1) H := hP
  have hD : va_D A (xw qx cA 0 false zN zN zN zN zI zN zI zN ++ w0_X1 q1) := hD
  refine lv_dup hx hb dL_law_11 rfl ?_
  have hPc := hP.sub (ws' := w0_X1 q1) [9] rfl
  have hDc := hD.sub (ws' := w0_X1 q1) [9] (by decide) rfl
  have hFc := va_free (wc := w0_X1 q1) hD hS hA [9] rfl
  refine va_callv (va_runI (As := []) (rest := [.ref q1]) ⟨hx, hb, hml, hown, hts⟩ (c_X1_init l D cA cB cL q1 H.size) (cwI 0 hts gL_law_X1_init rfl rfl rfl (hts _ (gTT_tbl _ ti_GrowFormsModel)) (hts _ (gTT_tbl _ glL_law_X1_init)) (hts _ (gTT_tbl _ gm_X1_init)) rfl (by decide +kernel) ⟨Nat.le_of_ble_eq_true rfl, Nat.le_of_ble_eq_true rfl⟩) ⟨fun a U g mk q => by obtain ⟨z0, z1, zP, zK, zD⟩ := q; exact ⟨z0, z1, zP, va_K.moved (u := U) (U := U.calling g mk a) (Vm.Alike.refl U.vm) zK, zD⟩, fun U hU hW => ⟨rfl, by rw [hU], by rw [hU]; exact hPc, va_K.moved hW.alike hK, hDc.weaken (fun _ _ _ _ => trivial)⟩⟩ rfl rfl hl.1 rfl (lv_room (Nat.le_of_ble_eq_true rfl)) dL_law_12 ⟨Nat.le_of_ble_eq_true rfl, Nat.le_of_ble_eq_true rfl⟩) hS (fun q _ h => hFc q h) hFc (fun u t H1 locs ht hvm _ hB hz1 hk1 hS => ?_)
  obtain ⟨qm, hq0, hP1, hD1⟩ := hB
  rw [ht] at hP1
  obtain ⟨hP8, hD8⟩ := va_join (wr := xw qx cA 0 false zN zN zN zN zI zN zI zN) (w1 := mw qm cA cB 0 0 false zN zN zN zN zI zN zN zI) hP hD [9] [0, 1, 2, 3, 4, 5, 6, 7, 8] rfl rfl (by decide) (by decide) hk1 hFc hP1 hD1
  clear hP1 hD1 hFc hk1 hPc hDc
  subst hq0
  have hP := hP8
  have hD := hD8
  refine lv_astore_n (lv' := [(2, .ref (qm 0)), (1, .ref (qx 0)), (0, .ref b)]) hx hb dL_law_15 rfl hl (by decide) rfl (fun ls hl => ?_)
  refine lv_iconst (v := nI 1) hx hb dL_law_16 (by decide) ?_
  refine gi_newa (ty := .long) (cA := cL) hx hb rfl (hts _ (gTT_tbl _ ta_long)) hK 2 rfl (fun _ _ h1 h2 => gi_raL h1 h2) hP hD hS hA (1, .inr (.inl (fun _ => 0))) (fun _ => rfl) (by decide) (by decide) (Nat.le_of_ble_eq_true rfl) (Nat.le_of_ble_eq_true rfl) dL_law_17 (fun qo H hP hD hS => ?_)
  have hP := hP.sub (ws' := lwWd qx qm qo cA cB cL 0 0 false zN zN zN zN zI zN zI zN zN zI (fun _ => 0)) [0, 1, 2, 3, 4, 5, 6, 7, 8, 18, 9, 10, 11, 12, 13, 14, 15, 16, 17] rfl
  have hD := hD.sub (ws' := lwWd qx qm qo cA cB cL 0 0 false zN zN zN zN zI zN zI zN zN zI (fun _ => 0)) [0, 1, 2, 3, 4, 5, 6, 7, 8, 18, 9, 10, 11, 12, 13, 14, 15, 16, 17] (by decide) rfl
  have hD2 : va_D A (mw qm cA cB 0 0 false zN zN zN zN zI zN zN zI ++ (xw qx cA 0 false zN zN zN zN zI zN zI zN ++ [og qo cL (fun _ => 0)])) := gD_swap (a := xw qx cA 0 false zN zN zN zN zI zN zI zN ++ [og qo cL (fun _ => 0)]) (b := mw qm cA cB 0 0 false zN zN zN zN zI zN zN zI) hD
  refine lv_astore_n (lv' := [(3, .ref qo), (2, .ref (qm 0)), (1, .ref (qx 0)), (0, .ref b)]) hx hb dL_law_19 rfl hl (by decide) rfl (fun ls hl => ?_)
  refine lv_iconst (v := nI 0) hx hb dL_law_20 (by decide) ?_
  refine lv_istore (lv' := [(4, .int (nI 0)), (3, .ref qo), (2, .ref (qm 0)), (1, .ref (qx 0)), (0, .ref b)]) hx hb dL_law_21 hl (by decide) rfl (fun ls hl => ?_)
  refine W.widen (k := 19 + 0) (n := 4103 + 6 * 0) (by decide) (by decide) ?_
  exact lw_loop (e := e) (below := below) ⟨hx, hb, hml, hown, hts, hXs, hbl, hbA, hL, hl9, hK, hD, hD2, hX⟩ hA9 hr hlk L 0 (by omega) (Nat.zero_le _) 0 0 false zN zN zN zN zI zN zI zN zN zI (fun _ => 0) _ _ _ ⟨⟨Nat.zero_le _, fun i hi => absurd hi (Nat.not_lt_zero i)⟩, fun h9 => absurd h9 (by decide)⟩ hP hS hl
