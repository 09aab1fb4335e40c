set_option maxHeartbeats 4000000 in
set_option maxRecDepth 100000 in
theorem ok_X1_settle (l : Launch) (D : va_G) (cA cB cL : ClassId) (A : Nat → Prop) (wr : va_W) (q : Nat → Nat) (n th : Nat) (st : Bool) (sz bt so fc : Nat → Nat) (ofs : Nat → Int32) (tg nw : Nat → Nat) (gr : Nat → Int32) (r : Nat) (hw : gf_wf n fc sz bt so tg) (hr : r ≤ 360) (hgo : ∀ q9, q9 < r → gf_go n fc sz bt so tg ofs (gf_now n fc sz bt so tg ofs nw q9)) (hend : gf_ad fc sz (gf_now n fc sz bt so tg ofs nw r) n ≤ 4096) (hall : gf_all n fc sz bt so tg ofs (gf_now n fc sz bt so tg ofs nw r)) : Met l yX1_settle wsX1_settle ({ frames := 3, cells := 0, slots := 0, locals := 72 }) (gPre D vwCl [(cA, .int), (cB, .boolean), (cL, .long)] ((mw q cA cB n th st sz bt so fc ofs tg nw gr) ++ wr) A [.ref (q 0)]) (gPost (some (.int (nI (r)))) D vwCl ((mw q cA cB n 0 true sz bt so fc ofs tg (gf_now n fc sz bt so tg ofs nw r) (gf_grr n fc sz bt so tg ofs nw gr (r + 1))) ++ wr) A) 0 0 A := by
  refine Met.ofW (cc := cX1_settle) (maxL := 4) (ret := (some .int)) (by decide) rfl ?_
  intro p e s m args below meth c s₁ B hml hv
  obtain ⟨rfl, hP, hK, hD⟩ := hv
  have hx := B.exec
  have hb := B.bytes
  have hr := B.returns
  have hlk := B.notSynchronized
  have hts := atoms_spec (ws := wsX1_settle) B.pre
  have hown : s.vm.findClass RX1 = some m.cls := findClass_of_methodNamed B.named
  have hS : va_S A s.heap s.heap [] := va_S.rf
  have hl := lv_entry ([.ref (q 0)]) (n := 4) (Nat.le_of_ble_eq_true rfl)
  rw [lg_entry_eq]
  generalize (lg_sl ([.ref (q 0)]) ++ List.replicate (4 - (lg_sl ([.ref (q 0)])).length) Slot.unset).toArray = ls at hl ⊢
  have hl : lv_has ls 4 [(0, .ref (q 0))] := hl
  have hin : ∀ w ∈ u_ws RX1 TX1 11, w ∈ wsX1_settle := fun w h => List.mem_cons_of_mem _ (inTX1 w h)
  have hf9 := hts _ (List.mem_cons_of_mem _ tfX1_9)
  have hf28 := hts _ (List.mem_cons_of_mem _ tfX1_28)
  have hf31 := hts _ (List.mem_cons_of_mem _ tfX1_31)
  have hf35 := hts _ (List.mem_cons_of_mem _ tfX1_35)
  have hf39 := hts _ (List.mem_cons_of_mem _ tfX1_39)
  have hf42 := hts _ (List.mem_cons_of_mem _ tfX1_42)
  have hn := hw.1
  refine lv_aload_n hx hb dX1_settle_0 rfl (lv_at hl 0 rfl) ?_
  refine lv_iconst (v := nI (0)) hx hb dX1_settle_1 (by decide) ?_
  refine va_put (D := D) (ci := 1) (v := .int (nI (0))) (ty := .int) (C := RX1) (T := TX1) (N := 11) hx hb hts hin tyX1 tyX1_ok nmX1 hown hK hP hD hS 0 rfl rfl 8 (by decide) hf35 (fun _ h9 => h9) rfl (by decide +kernel) rfl rfl (Nat.le_of_ble_eq_true rfl) dX1_settle_2 (fun H locs hP hD hS => ?_)
  have hP : va_P D vwCl ((mw q cA cB n 0 st sz bt so fc ofs tg nw gr) ++ wr) H := hP
  have hD : va_D A ((mw q cA cB n 0 st sz bt so fc ofs tg nw gr) ++ wr) := hD
  refine lv_aload_n hx hb dX1_settle_5 rfl (lv_at hl 0 rfl) ?_
  refine lv_iconst (v := nI (1)) hx hb dX1_settle_6 (by decide) ?_
  refine va_put (D := D) (ci := 1) (v := .int (bI (true))) (ty := .boolean) (C := RX1) (T := TX1) (N := 11) hx hb hts hin tyX1 tyX1_ok nmX1 hown hK hP hD hS 0 rfl rfl 9 (by decide) hf42 (fun _ h9 => h9) rfl (by decide +kernel) (bI_nar _) (bI_fits _) (Nat.le_of_ble_eq_true rfl) dX1_settle_7 (fun H locs hP hD hS => ?_)
  have hP : va_P D vwCl ((mw q cA cB n 0 true sz bt so fc ofs tg nw gr) ++ wr) H := hP
  have hD : va_D A ((mw q cA cB n 0 true sz bt so fc ofs tg nw gr) ++ wr) := hD
  refine lv_iconst (v := nI (0)) hx hb dX1_settle_10 (by decide) ?_
  refine lv_istore_n (lv' := [(1, .int (nI (0))), (0, .ref (q 0))]) hx hb dX1_settle_11 rfl hl (by decide) rfl (fun ls hl => ?_)
  have loop : ∀ (k i : Nat), i + k = n → ∀ (H : Heap) (locs : List Loc) (ls : Array Slot), va_P D vwCl ((mw q cA cB n 0 true sz bt so fc ofs tg (gf_now i fc sz bt so tg ofs nw 0) gr) ++ wr) H → va_S A s.heap H locs → lv_has ls 4 [(1, .int (nI (i))), (0, .ref (q 0))] → W p l e (headSpec wsX1_settle ({ frames := 3, cells := 0, slots := 0, locals := 72 })).room s m ([.ref (q 0)] : List Value).toArray below meth c H locs 0 0 (MQ below (gPost (some (.int (nI (r)))) D vwCl ((mw q cA cB n 0 true sz bt so fc ofs tg (gf_now n fc sz bt so tg ofs nw r) (gf_grr n fc sz bt so tg ofs nw gr (r + 1))) ++ wr) A) ([.ref (q 0)] : List Value).toArray s 0 0 A) (F0 m 12 ls []) := by
    intro k
    induction k with
    | zero =>
      intro i hik H locs ls hP hS hl
      have h9 : n = i := by omega
      subst h9
      have hD : va_D A ((mw q cA cB n 0 true sz bt so fc ofs tg (gf_now n fc sz bt so tg ofs nw 0) gr) ++ wr) := gD_same hD rfl
      refine lv_iload_n hx hb dX1_settle_12 rfl (lv_at hl 0 rfl) ?_
      refine lv_aload_n hx hb dX1_settle_13 rfl (lv_at hl 1 rfl) ?_
      refine va_get (D := D) (ci := 1) (v := .int (nI (n))) (C := RX1) (T := TX1) (N := 11) hx hb hts hin hown hK hP 0 rfl rfl 7 (by decide) hf39 (fun _ h9 => h9) rfl dX1_settle_14 ?_
      refine gi_icmp_ge (tgt := 33) hx hb (by omega) (by omega) dX1_settle_17 rfl (fun h17 => ?_) (fun h9 => absurd h9 (by omega))
      refine lv_iconst (v := nI (0)) hx hb dX1_settle_33 (by decide) ?_
      refine lv_istore_n (lv' := [(1, .int (nI (0))), (0, .ref (q 0))]) hx hb dX1_settle_34 rfl hl (by decide) rfl (fun ls hl => ?_)
      have loop : ∀ (k i : Nat), i + k = r → ∀ (H : Heap) (locs : List Loc) (ls : Array Slot), va_P D vwCl ((mw q cA cB n 0 true sz bt so fc ofs tg (gf_now n fc sz bt so tg ofs nw i) (gf_grr n fc sz bt so tg ofs nw gr i)) ++ wr) H → va_S A s.heap H locs → lv_has ls 4 [(1, .int (nI (i))), (0, .ref (q 0))] → W p l e (headSpec wsX1_settle ({ frames := 3, cells := 0, slots := 0, locals := 72 })).room s m ([.ref (q 0)] : List Value).toArray below meth c H locs 0 0 (MQ below (gPost (some (.int (nI (r)))) D vwCl ((mw q cA cB n 0 true sz bt so fc ofs tg (gf_now n fc sz bt so tg ofs nw r) (gf_grr n fc sz bt so tg ofs nw gr (r + 1))) ++ wr) A) ([.ref (q 0)] : List Value).toArray s 0 0 A) (F0 m 35 ls []) := by
        intro k
        induction k with
        | zero =>
          intro i hik H locs ls hP hS hl
          have h9 : r = i := by omega
          subst h9
          have hD : va_D A ((mw q cA cB n 0 true sz bt so fc ofs tg (gf_now n fc sz bt so tg ofs nw r) (gf_grr n fc sz bt so tg ofs nw gr r)) ++ wr) := gD_same hD rfl
          have hk9 := (gf_run r (fun q9 h9 => hgo q9 (by omega))).1
          have ha9 := gf_ad_le hw hk9 n (Nat.le_refl n)
          have htj : gf_tj (gf_fit fc sz bt so tg ofs (gf_now n fc sz bt so tg ofs nw r)) fc (gf_now n fc sz bt so tg ofs nw r) n = 0 := ((gf_tj_iff hk9 n (Nat.le_refl n)).2).mpr (fun z9 => by obtain ⟨j9, h1, h2, _⟩ := z9; exact absurd (hall j9 h1) (gf_ne_tf h2))
          refine lv_iconst (v := bI (false)) hx hb dX1_settle_35 (by decide) ?_
          refine lv_istore_n (lv' := [(2, .int (bI (false))), (1, .int (nI (r))), (0, .ref (q 0))]) hx hb dX1_settle_36 rfl hl (by decide) rfl (fun ls hl => ?_)
          refine lv_aload_n hx hb dX1_settle_37 rfl (lv_at hl 2 rfl) ?_
          refine lv_aload_n hx hb dX1_settle_38 rfl (lv_at hl 2 rfl) ?_
          refine va_get (D := D) (ci := 1) (v := .int (nI (n))) (C := RX1) (T := TX1) (N := 11) hx hb hts hin hown hK hP 0 rfl rfl 7 (by decide) hf39 (fun _ h9 => h9) rfl dX1_settle_39 ?_
          refine gi_goV (va_runV (As := [.int (nI (n))]) (rest := []) ⟨hx, hb, hml, hown, hts⟩ (c_X1_address l D cA cB cL A wr q n 0 true sz bt so fc ofs tg (gf_now n fc sz bt so tg ofs nw r) (gf_grr n fc sz bt so tg ofs nw gr r) n hw hk9 (Nat.le_refl n)) (cwV 1 hts gX1_settle_X1_address rfl rfl rfl (by decide +kernel) ⟨Nat.le_of_ble_eq_true rfl, Nat.le_of_ble_eq_true rfl⟩) (gi_preV (q0 := 0) hK hP hD rfl rfl rfl) rfl rfl hl.1 rfl (lv_room (Nat.le_of_ble_eq_true rfl)) dX1_settle_42 ⟨Nat.le_of_ble_eq_true rfl, Nat.le_of_ble_eq_true rfl⟩) hS (fun H locs hP hS => ?_)
          refine lv_sipush (v := nI (4096)) hx hb dX1_settle_45 (by decide) ?_
          refine gi_icmp_le (tgt := 58) hx hb (by omega) (by omega) dX1_settle_48 rfl (fun h48 => ?_) (fun h9 => absurd h9 (by omega))
          refine lv_iconst (v := nI (0)) hx hb dX1_settle_58 (by decide) ?_
          refine lv_istore_n (lv' := [(3, .int (nI (0))), (2, .int (bI (false))), (1, .int (nI (r))), (0, .ref (q 0))]) hx hb dX1_settle_59 rfl hl (by decide) rfl (fun ls hl => ?_)
          have loop : ∀ (k j : Nat), j + k = n → ∀ (H : Heap) (locs : List Loc) (ls : Array Slot), va_P D vwCl ((mw q cA cB n (gf_tj (gf_fit fc sz bt so tg ofs (gf_now n fc sz bt so tg ofs nw r)) fc (gf_now n fc sz bt so tg ofs nw r) j) true sz bt so fc ofs tg (gf_now n fc sz bt so tg ofs nw r) (gf_gr (gf_fit fc sz bt so tg ofs (gf_now n fc sz bt so tg ofs nw r)) (gf_grr n fc sz bt so tg ofs nw gr r) j)) ++ wr) H → va_S A s.heap H locs → lv_has ls 4 [(3, .int (nI (j))), (2, .int (bI (gf_so (gf_fit fc sz bt so tg ofs (gf_now n fc sz bt so tg ofs nw r)) j))), (1, .int (nI (r))), (0, .ref (q 0))] → W p l e (headSpec wsX1_settle ({ frames := 3, cells := 0, slots := 0, locals := 72 })).room s m ([.ref (q 0)] : List Value).toArray below meth c H locs 0 0 (MQ below (gPost (some (.int (nI (r)))) D vwCl ((mw q cA cB n 0 true sz bt so fc ofs tg (gf_now n fc sz bt so tg ofs nw r) (gf_grr n fc sz bt so tg ofs nw gr (r + 1))) ++ wr) A) ([.ref (q 0)] : List Value).toArray s 0 0 A) (F0 m 60 ls []) := by
            intro k
            induction k with
            | zero =>
              intro j hik H locs ls hP hS hl
              have h9 : n = j := by omega
              subst h9
              have hD : va_D A ((mw q cA cB n (gf_tj (gf_fit fc sz bt so tg ofs (gf_now n fc sz bt so tg ofs nw r)) fc (gf_now n fc sz bt so tg ofs nw r) n) true sz bt so fc ofs tg (gf_now n fc sz bt so tg ofs nw r) (gf_gr (gf_fit fc sz bt so tg ofs (gf_now n fc sz bt so tg ofs nw r)) (gf_grr n fc sz bt so tg ofs nw gr r) n)) ++ wr) := gD_same hD rfl
              refine lv_iload_n hx hb dX1_settle_60 rfl (lv_at hl 0 rfl) ?_
              refine lv_aload_n hx hb dX1_settle_61 rfl (lv_at hl 3 rfl) ?_
              refine va_get (D := D) (ci := 1) (v := .int (nI (n))) (C := RX1) (T := TX1) (N := 11) hx hb hts hin hown hK hP 0 rfl rfl 7 (by decide) hf39 (fun _ h9 => h9) rfl dX1_settle_62 ?_
              refine gi_icmp_ge (tgt := 133) hx hb (by omega) (by omega) dX1_settle_65 rfl (fun h65 => ?_) (fun h9 => absurd h9 (by omega))
              refine lv_aload_n hx hb dX1_settle_133 rfl (lv_at hl 3 rfl) ?_
              refine va_get (D := D) (ci := 1) (v := .int (nI (gf_tj (gf_fit fc sz bt so tg ofs (gf_now n fc sz bt so tg ofs nw r)) fc (gf_now n fc sz bt so tg ofs nw r) n))) (C := RX1) (T := TX1) (N := 11) hx hb hts hin hown hK hP 0 rfl rfl 8 (by decide) hf35 (fun _ h9 => h9) rfl dX1_settle_134 ?_
              refine gi_if_le (tgt := 142) hx hb (by have := gf_tj_le (gf_fit fc sz bt so tg ofs (gf_now n fc sz bt so tg ofs nw r)) fc (gf_now n fc sz bt so tg ofs nw r) n; omega) dX1_settle_137 rfl (fun h137 => ?_) (fun h9 => absurd h9 (fun z9 => z9 htj))
              rw [htj] at hP hD
              refine lv_iload_n hx hb dX1_settle_142 rfl (lv_at hl 1 rfl) ?_
              refine gi_if_neb (tgt := 148) hx hb dX1_settle_143 rfl (fun h9 => absurd h9 (gf_ne_tf (gf_so_f hall))) (fun h143 => ?_)
              refine lv_iload_n hx hb dX1_settle_146 rfl (lv_at hl 2 rfl) ?_
              exact gi_iret hx hb hlk hr dX1_settle_147 (rfl) hP hS
            | succ k ihj =>
              intro j hik H locs ls hP hS hl
              have hj : j < n := by omega
              have hD : va_D A ((mw q cA cB n (gf_tj (gf_fit fc sz bt so tg ofs (gf_now n fc sz bt so tg ofs nw r)) fc (gf_now n fc sz bt so tg ofs nw r) j) true sz bt so fc ofs tg (gf_now n fc sz bt so tg ofs nw r) (gf_gr (gf_fit fc sz bt so tg ofs (gf_now n fc sz bt so tg ofs nw r)) (gf_grr n fc sz bt so tg ofs nw gr r) j)) ++ wr) := gD_same hD rfl
              refine lv_iload_n hx hb dX1_settle_60 rfl (lv_at hl 0 rfl) ?_
              refine lv_aload_n hx hb dX1_settle_61 rfl (lv_at hl 3 rfl) ?_
              refine va_get (D := D) (ci := 1) (v := .int (nI (n))) (C := RX1) (T := TX1) (N := 11) hx hb hts hin hown hK hP 0 rfl rfl 7 (by decide) hf39 (fun _ h9 => h9) rfl dX1_settle_62 ?_
              refine gi_icmp_ge (tgt := 133) hx hb (by omega) (by omega) dX1_settle_65 rfl (fun h9 => absurd h9 (by omega)) (fun h65 => ?_)
              have hn3 := gf_nk_le hw hk9 hj
              have hfb := (hw.2 j hj).1
              refine lv_aload_n hx hb dX1_settle_68 rfl (lv_at hl 3 rfl) ?_
              refine va_get (D := D) (ci := 1) (v := .ref (q 8)) (C := RX1) (T := TX1) (N := 11) hx hb hts hin hown hK hP 0 rfl rfl 10 (by decide) hf31 (fun _ h9 => h9) rfl dX1_settle_69 ?_
              refine lv_iload_n hx hb dX1_settle_72 rfl (lv_at hl 0 rfl) ?_
              refine lv_aload_n hx hb dX1_settle_73 rfl (lv_at hl 3 rfl) ?_
              refine lv_iload_n hx hb dX1_settle_74 rfl (lv_at hl 0 rfl) ?_
              refine gi_goV (va_runV (As := [.int (nI (j))]) (rest := [.int (nI (j)), .ref (q 8)]) ⟨hx, hb, hml, hown, hts⟩ (c_X1_isFitting l D cA cB cL A wr q n (gf_tj (gf_fit fc sz bt so tg ofs (gf_now n fc sz bt so tg ofs nw r)) fc (gf_now n fc sz bt so tg ofs nw r) j) true sz bt so fc ofs tg (gf_now n fc sz bt so tg ofs nw r) (gf_gr (gf_fit fc sz bt so tg ofs (gf_now n fc sz bt so tg ofs nw r)) (gf_grr n fc sz bt so tg ofs nw gr r) j) j hw hk9 hj) (cwV 1 hts gX1_settle_X1_isFitting rfl rfl rfl (by decide +kernel) ⟨Nat.le_of_ble_eq_true rfl, Nat.le_of_ble_eq_true rfl⟩) (gi_preV (q0 := 0) hK hP hD rfl rfl rfl) rfl rfl hl.1 rfl (lv_room (Nat.le_of_ble_eq_true rfl)) dX1_settle_75 ⟨Nat.le_of_ble_eq_true rfl, Nat.le_of_ble_eq_true rfl⟩) hS (fun H locs hP hS => ?_)
              refine gi_if_neb (tgt := 85) hx hb dX1_settle_78 rfl (fun h78 => ?_) (fun h78 => ?_)
              · refine lv_iconst (v := nI (0)) hx hb dX1_settle_85 (by decide) ?_
                refine gi_top (y := (bI (!(gf_fit fc sz bt so tg ofs (gf_now n fc sz bt so tg ofs nw r) j)))) (bR_f (not_f h78)) ?_
                refine gi_zastI hx hb hK hP hD hS 8 1 (gf_gr (gf_fit fc sz bt so tg ofs (gf_now n fc sz bt so tg ofs nw r)) (gf_grr n fc sz bt so tg ofs nw gr r) j) rfl rfl (by omega) (by decide) dX1_settle_86 (fun H locs hP hD hS => ?_)
                have hP : va_P D vwCl ((mw q cA cB n (gf_tj (gf_fit fc sz bt so tg ofs (gf_now n fc sz bt so tg ofs nw r)) fc (gf_now n fc sz bt so tg ofs nw r) j) true sz bt so fc ofs tg (gf_now n fc sz bt so tg ofs nw r) (upd (gf_gr (gf_fit fc sz bt so tg ofs (gf_now n fc sz bt so tg ofs nw r)) (gf_grr n fc sz bt so tg ofs nw gr r) j) j ((bI (!(gf_fit fc sz bt so tg ofs (gf_now n fc sz bt so tg ofs nw r) j)))))) ++ wr) H := hP
                have hD : va_D A ((mw q cA cB n (gf_tj (gf_fit fc sz bt so tg ofs (gf_now n fc sz bt so tg ofs nw r)) fc (gf_now n fc sz bt so tg ofs nw r) j) true sz bt so fc ofs tg (gf_now n fc sz bt so tg ofs nw r) (upd (gf_gr (gf_fit fc sz bt so tg ofs (gf_now n fc sz bt so tg ofs nw r)) (gf_grr n fc sz bt so tg ofs nw gr r) j) j ((bI (!(gf_fit fc sz bt so tg ofs (gf_now n fc sz bt so tg ofs nw r) j)))))) ++ wr) := hD
                rw [gf_gr_s (gf_fit fc sz bt so tg ofs (gf_now n fc sz bt so tg ofs nw r)) (gf_grr n fc sz bt so tg ofs nw gr r) j] at hP hD
                refine lv_iload_n hx hb dX1_settle_87 rfl (lv_at hl 1 rfl) ?_
                refine lv_aload_n hx hb dX1_settle_88 rfl (lv_at hl 3 rfl) ?_
                refine va_get (D := D) (ci := 1) (v := .ref (q 8)) (C := RX1) (T := TX1) (N := 11) hx hb hts hin hown hK hP 0 rfl rfl 10 (by decide) hf31 (fun _ h9 => h9) rfl dX1_settle_89 ?_
                refine lv_iload_n hx hb dX1_settle_92 rfl (lv_at hl 0 rfl) ?_
                refine gi_zaldI hx hb hK hP 8 1 (gf_gr (gf_fit fc sz bt so tg ofs (gf_now n fc sz bt so tg ofs nw r)) (gf_grr n fc sz bt so tg ofs nw gr r) (j + 1)) rfl rfl (by omega) (by decide) dX1_settle_93 ?_
                refine gi_top (y := (bI (!(gf_fit fc sz bt so tg ofs (gf_now n fc sz bt so tg ofs nw r) j)))) (gf_gr_at (gf_fit fc sz bt so tg ofs (gf_now n fc sz bt so tg ofs nw r)) (gf_grr n fc sz bt so tg ofs nw gr r) (by omega)) ?_
                refine gi_iorb hx hb dX1_settle_94 ?_
                refine lv_istore_n (lv' := [(2, .int (bI (gf_so (gf_fit fc sz bt so tg ofs (gf_now n fc sz bt so tg ofs nw r)) (j + 1)))), (3, .int (nI (j))), (1, .int (nI (r))), (0, .ref (q 0))]) hx hb dX1_settle_95 rfl hl (by decide) rfl (fun ls hl => ?_)
                refine lv_aload_n hx hb dX1_settle_96 rfl (lv_at hl 3 rfl) ?_
                refine va_get (D := D) (ci := 1) (v := .ref (q 8)) (C := RX1) (T := TX1) (N := 11) hx hb hts hin hown hK hP 0 rfl rfl 10 (by decide) hf31 (fun _ h9 => h9) rfl dX1_settle_97 ?_
                refine lv_iload_n hx hb dX1_settle_100 rfl (lv_at hl 1 rfl) ?_
                refine gi_zaldI hx hb hK hP 8 1 (gf_gr (gf_fit fc sz bt so tg ofs (gf_now n fc sz bt so tg ofs nw r)) (gf_grr n fc sz bt so tg ofs nw gr r) (j + 1)) rfl rfl (by omega) (by decide) dX1_settle_101 ?_
                refine gi_top (y := (bI (!(gf_fit fc sz bt so tg ofs (gf_now n fc sz bt so tg ofs nw r) j)))) (gf_gr_at (gf_fit fc sz bt so tg ofs (gf_now n fc sz bt so tg ofs nw r)) (gf_grr n fc sz bt so tg ofs nw gr r) (by omega)) ?_
                refine gi_if_eqb (tgt := 127) hx hb dX1_settle_102 rfl (fun h102 => ?_) (fun h102 => ?_)
                · refine lv_iinc (k := 1) (lv' := [(3, .int (nI (j + 1))), (2, .int (bI (gf_so (gf_fit fc sz bt so tg ofs (gf_now n fc sz bt so tg ofs nw r)) (j + 1)))), (1, .int (nI (r))), (0, .ref (q 0))]) hx hb dX1_settle_127 hl rfl (gi_inc _) (by decide) rfl (fun ls hl => ?_)
                  refine lv_goto (tgt := 60) hx hb dX1_settle_130 rfl ?_
                  have hP : va_P D vwCl ((mw q cA cB n (gf_tj (gf_fit fc sz bt so tg ofs (gf_now n fc sz bt so tg ofs nw r)) fc (gf_now n fc sz bt so tg ofs nw r) (j + 1)) true sz bt so fc ofs tg (gf_now n fc sz bt so tg ofs nw r) (gf_gr (gf_fit fc sz bt so tg ofs (gf_now n fc sz bt so tg ofs nw r)) (gf_grr n fc sz bt so tg ofs nw gr r) (j + 1))) ++ wr) H := by rw [show gf_tj (gf_fit fc sz bt so tg ofs (gf_now n fc sz bt so tg ofs nw r)) fc (gf_now n fc sz bt so tg ofs nw r) (j + 1) = gf_tj (gf_fit fc sz bt so tg ofs (gf_now n fc sz bt so tg ofs nw r)) fc (gf_now n fc sz bt so tg ofs nw r) j from if_neg (fun z9 => gf_ne_tf z9.1 (not_ff h102))]; exact hP
                  exact ihj (j + 1) (by omega) H locs ls hP hS (lv_sub hl [0, 1, 2, 3] rfl)
                · have hpf := not_tt h102
                  have hne := gf_unfit_fc hpf
                  refine lv_aload_n hx hb dX1_settle_105 rfl (lv_at hl 3 rfl) ?_
                  refine va_get (D := D) (ci := 1) (v := .ref (q 7)) (C := RX1) (T := TX1) (N := 11) hx hb hts hin hown hK hP 0 rfl rfl 6 (by decide) hf28 (fun _ h9 => h9) rfl dX1_settle_106 ?_
                  refine lv_iload_n hx hb dX1_settle_109 rfl (lv_at hl 1 rfl) ?_
                  refine gi_ald hx hb hK hP 7 0 (gf_now n fc sz bt so tg ofs nw r) rfl rfl (by omega) (by decide) dX1_settle_110 ?_
                  refine lv_aload_n hx hb dX1_settle_111 rfl (lv_at hl 3 rfl) ?_
                  refine va_get (D := D) (ci := 1) (v := .ref (q 1)) (C := RX1) (T := TX1) (N := 11) hx hb hts hin hown hK hP 0 rfl rfl 0 (by decide) hf9 (fun _ h9 => h9) rfl dX1_settle_112 ?_
                  refine lv_iload_n hx hb dX1_settle_115 rfl (lv_at hl 1 rfl) ?_
                  refine gi_ald hx hb hK hP 1 0 fc rfl rfl (by omega) (by decide) dX1_settle_116 ?_
                  refine lv_iconst (v := nI (1)) hx hb dX1_settle_117 (by decide) ?_
                  refine gi_isub hx hb (fc j - 1) (by omega) dX1_settle_118 ?_
                  refine gi_icmp_ne (tgt := 127) hx hb (by omega) (by omega) dX1_settle_119 rfl (fun h119 => ?_) (fun h119 => ?_)
                  · refine lv_iinc (k := 1) (lv' := [(3, .int (nI (j + 1))), (2, .int (bI (gf_so (gf_fit fc sz bt so tg ofs (gf_now n fc sz bt so tg ofs nw r)) (j + 1)))), (1, .int (nI (r))), (0, .ref (q 0))]) hx hb dX1_settle_127 hl rfl (gi_inc _) (by decide) rfl (fun ls hl => ?_)
                    refine lv_goto (tgt := 60) hx hb dX1_settle_130 rfl ?_
                    have hP : va_P D vwCl ((mw q cA cB n (gf_tj (gf_fit fc sz bt so tg ofs (gf_now n fc sz bt so tg ofs nw r)) fc (gf_now n fc sz bt so tg ofs nw r) (j + 1)) true sz bt so fc ofs tg (gf_now n fc sz bt so tg ofs nw r) (gf_gr (gf_fit fc sz bt so tg ofs (gf_now n fc sz bt so tg ofs nw r)) (gf_grr n fc sz bt so tg ofs nw gr r) (j + 1))) ++ wr) H := by rw [show gf_tj (gf_fit fc sz bt so tg ofs (gf_now n fc sz bt so tg ofs nw r)) fc (gf_now n fc sz bt so tg ofs nw r) (j + 1) = gf_tj (gf_fit fc sz bt so tg ofs (gf_now n fc sz bt so tg ofs nw r)) fc (gf_now n fc sz bt so tg ofs nw r) j from if_neg (fun z9 => h119 z9.2)]; exact hP
                    exact ihj (j + 1) (by omega) H locs ls hP hS (lv_sub hl [0, 1, 2, 3] rfl)
                  · refine lv_aload_n hx hb dX1_settle_122 rfl (lv_at hl 3 rfl) ?_
                    refine lv_iconst (v := nI (2)) hx hb dX1_settle_123 (by decide) ?_
                    refine va_put (D := D) (ci := 1) (v := .int (nI (2))) (ty := .int) (C := RX1) (T := TX1) (N := 11) hx hb hts hin tyX1 tyX1_ok nmX1 hown hK hP hD hS 0 rfl rfl 8 (by decide) hf35 (fun _ h9 => h9) rfl (by decide +kernel) rfl rfl (Nat.le_of_ble_eq_true rfl) dX1_settle_124 (fun H locs hP hD hS => ?_)
                    have hP : va_P D vwCl ((mw q cA cB n 2 true sz bt so fc ofs tg (gf_now n fc sz bt so tg ofs nw r) (gf_gr (gf_fit fc sz bt so tg ofs (gf_now n fc sz bt so tg ofs nw r)) (gf_grr n fc sz bt so tg ofs nw gr r) (j + 1))) ++ wr) H := hP
                    have hD : va_D A ((mw q cA cB n 2 true sz bt so fc ofs tg (gf_now n fc sz bt so tg ofs nw r) (gf_gr (gf_fit fc sz bt so tg ofs (gf_now n fc sz bt so tg ofs nw r)) (gf_grr n fc sz bt so tg ofs nw gr r) (j + 1))) ++ wr) := hD
                    refine lv_iinc (k := 1) (lv' := [(3, .int (nI (j + 1))), (2, .int (bI (gf_so (gf_fit fc sz bt so tg ofs (gf_now n fc sz bt so tg ofs nw r)) (j + 1)))), (1, .int (nI (r))), (0, .ref (q 0))]) hx hb dX1_settle_127 hl rfl (gi_inc _) (by decide) rfl (fun ls hl => ?_)
                    refine lv_goto (tgt := 60) hx hb dX1_settle_130 rfl ?_
                    have hP : va_P D vwCl ((mw q cA cB n (gf_tj (gf_fit fc sz bt so tg ofs (gf_now n fc sz bt so tg ofs nw r)) fc (gf_now n fc sz bt so tg ofs nw r) (j + 1)) true sz bt so fc ofs tg (gf_now n fc sz bt so tg ofs nw r) (gf_gr (gf_fit fc sz bt so tg ofs (gf_now n fc sz bt so tg ofs nw r)) (gf_grr n fc sz bt so tg ofs nw gr r) (j + 1))) ++ wr) H := by rw [show gf_tj (gf_fit fc sz bt so tg ofs (gf_now n fc sz bt so tg ofs nw r)) fc (gf_now n fc sz bt so tg ofs nw r) (j + 1) = 2 from if_pos ⟨hpf, h119⟩]; exact hP
                    exact ihj (j + 1) (by omega) H locs ls hP hS (lv_sub hl [0, 1, 2, 3] rfl)
              · refine lv_iconst (v := nI (1)) hx hb dX1_settle_81 (by decide) ?_
                refine gi_top (y := (bI (!(gf_fit fc sz bt so tg ofs (gf_now n fc sz bt so tg ofs nw r) j)))) (bR_t (not_t h78)) ?_
                refine lv_goto (tgt := 86) hx hb dX1_settle_82 rfl ?_
                refine gi_zastI hx hb hK hP hD hS 8 1 (gf_gr (gf_fit fc sz bt so tg ofs (gf_now n fc sz bt so tg ofs nw r)) (gf_grr n fc sz bt so tg ofs nw gr r) j) rfl rfl (by omega) (by decide) dX1_settle_86 (fun H locs hP hD hS => ?_)
                have hP : va_P D vwCl ((mw q cA cB n (gf_tj (gf_fit fc sz bt so tg ofs (gf_now n fc sz bt so tg ofs nw r)) fc (gf_now n fc sz bt so tg ofs nw r) j) true sz bt so fc ofs tg (gf_now n fc sz bt so tg ofs nw r) (upd (gf_gr (gf_fit fc sz bt so tg ofs (gf_now n fc sz bt so tg ofs nw r)) (gf_grr n fc sz bt so tg ofs nw gr r) j) j ((bI (!(gf_fit fc sz bt so tg ofs (gf_now n fc sz bt so tg ofs nw r) j)))))) ++ wr) H := hP
                have hD : va_D A ((mw q cA cB n (gf_tj (gf_fit fc sz bt so tg ofs (gf_now n fc sz bt so tg ofs nw r)) fc (gf_now n fc sz bt so tg ofs nw r) j) true sz bt so fc ofs tg (gf_now n fc sz bt so tg ofs nw r) (upd (gf_gr (gf_fit fc sz bt so tg ofs (gf_now n fc sz bt so tg ofs nw r)) (gf_grr n fc sz bt so tg ofs nw gr r) j) j ((bI (!(gf_fit fc sz bt so tg ofs (gf_now n fc sz bt so tg ofs nw r) j)))))) ++ wr) := hD
                rw [gf_gr_s (gf_fit fc sz bt so tg ofs (gf_now n fc sz bt so tg ofs nw r)) (gf_grr n fc sz bt so tg ofs nw gr r) j] at hP hD
                refine lv_iload_n hx hb dX1_settle_87 rfl (lv_at hl 1 rfl) ?_
                refine lv_aload_n hx hb dX1_settle_88 rfl (lv_at hl 3 rfl) ?_
                refine va_get (D := D) (ci := 1) (v := .ref (q 8)) (C := RX1) (T := TX1) (N := 11) hx hb hts hin hown hK hP 0 rfl rfl 10 (by decide) hf31 (fun _ h9 => h9) rfl dX1_settle_89 ?_
                refine lv_iload_n hx hb dX1_settle_92 rfl (lv_at hl 0 rfl) ?_
                refine gi_zaldI hx hb hK hP 8 1 (gf_gr (gf_fit fc sz bt so tg ofs (gf_now n fc sz bt so tg ofs nw r)) (gf_grr n fc sz bt so tg ofs nw gr r) (j + 1)) rfl rfl (by omega) (by decide) dX1_settle_93 ?_
                refine gi_top (y := (bI (!(gf_fit fc sz bt so tg ofs (gf_now n fc sz bt so tg ofs nw r) j)))) (gf_gr_at (gf_fit fc sz bt so tg ofs (gf_now n fc sz bt so tg ofs nw r)) (gf_grr n fc sz bt so tg ofs nw gr r) (by omega)) ?_
                refine gi_iorb hx hb dX1_settle_94 ?_
                refine lv_istore_n (lv' := [(2, .int (bI (gf_so (gf_fit fc sz bt so tg ofs (gf_now n fc sz bt so tg ofs nw r)) (j + 1)))), (3, .int (nI (j))), (1, .int (nI (r))), (0, .ref (q 0))]) hx hb dX1_settle_95 rfl hl (by decide) rfl (fun ls hl => ?_)
                refine lv_aload_n hx hb dX1_settle_96 rfl (lv_at hl 3 rfl) ?_
                refine va_get (D := D) (ci := 1) (v := .ref (q 8)) (C := RX1) (T := TX1) (N := 11) hx hb hts hin hown hK hP 0 rfl rfl 10 (by decide) hf31 (fun _ h9 => h9) rfl dX1_settle_97 ?_
                refine lv_iload_n hx hb dX1_settle_100 rfl (lv_at hl 1 rfl) ?_
                refine gi_zaldI hx hb hK hP 8 1 (gf_gr (gf_fit fc sz bt so tg ofs (gf_now n fc sz bt so tg ofs nw r)) (gf_grr n fc sz bt so tg ofs nw gr r) (j + 1)) rfl rfl (by omega) (by decide) dX1_settle_101 ?_
                refine gi_top (y := (bI (!(gf_fit fc sz bt so tg ofs (gf_now n fc sz bt so tg ofs nw r) j)))) (gf_gr_at (gf_fit fc sz bt so tg ofs (gf_now n fc sz bt so tg ofs nw r)) (gf_grr n fc sz bt so tg ofs nw gr r) (by omega)) ?_
                refine gi_if_eqb (tgt := 127) hx hb dX1_settle_102 rfl (fun h102 => ?_) (fun h102 => ?_)
                · refine lv_iinc (k := 1) (lv' := [(3, .int (nI (j + 1))), (2, .int (bI (gf_so (gf_fit fc sz bt so tg ofs (gf_now n fc sz bt so tg ofs nw r)) (j + 1)))), (1, .int (nI (r))), (0, .ref (q 0))]) hx hb dX1_settle_127 hl rfl (gi_inc _) (by decide) rfl (fun ls hl => ?_)
                  refine lv_goto (tgt := 60) hx hb dX1_settle_130 rfl ?_
                  have hP : va_P D vwCl ((mw q cA cB n (gf_tj (gf_fit fc sz bt so tg ofs (gf_now n fc sz bt so tg ofs nw r)) fc (gf_now n fc sz bt so tg ofs nw r) (j + 1)) true sz bt so fc ofs tg (gf_now n fc sz bt so tg ofs nw r) (gf_gr (gf_fit fc sz bt so tg ofs (gf_now n fc sz bt so tg ofs nw r)) (gf_grr n fc sz bt so tg ofs nw gr r) (j + 1))) ++ wr) H := by rw [show gf_tj (gf_fit fc sz bt so tg ofs (gf_now n fc sz bt so tg ofs nw r)) fc (gf_now n fc sz bt so tg ofs nw r) (j + 1) = gf_tj (gf_fit fc sz bt so tg ofs (gf_now n fc sz bt so tg ofs nw r)) fc (gf_now n fc sz bt so tg ofs nw r) j from if_neg (fun z9 => gf_ne_tf z9.1 (not_ff h102))]; exact hP
                  exact ihj (j + 1) (by omega) H locs ls hP hS (lv_sub hl [0, 1, 2, 3] rfl)
                · have hpf := not_tt h102
                  have hne := gf_unfit_fc hpf
                  refine lv_aload_n hx hb dX1_settle_105 rfl (lv_at hl 3 rfl) ?_
                  refine va_get (D := D) (ci := 1) (v := .ref (q 7)) (C := RX1) (T := TX1) (N := 11) hx hb hts hin hown hK hP 0 rfl rfl 6 (by decide) hf28 (fun _ h9 => h9) rfl dX1_settle_106 ?_
                  refine lv_iload_n hx hb dX1_settle_109 rfl (lv_at hl 1 rfl) ?_
                  refine gi_ald hx hb hK hP 7 0 (gf_now n fc sz bt so tg ofs nw r) rfl rfl (by omega) (by decide) dX1_settle_110 ?_
                  refine lv_aload_n hx hb dX1_settle_111 rfl (lv_at hl 3 rfl) ?_
                  refine va_get (D := D) (ci := 1) (v := .ref (q 1)) (C := RX1) (T := TX1) (N := 11) hx hb hts hin hown hK hP 0 rfl rfl 0 (by decide) hf9 (fun _ h9 => h9) rfl dX1_settle_112 ?_
                  refine lv_iload_n hx hb dX1_settle_115 rfl (lv_at hl 1 rfl) ?_
                  refine gi_ald hx hb hK hP 1 0 fc rfl rfl (by omega) (by decide) dX1_settle_116 ?_
                  refine lv_iconst (v := nI (1)) hx hb dX1_settle_117 (by decide) ?_
                  refine gi_isub hx hb (fc j - 1) (by omega) dX1_settle_118 ?_
                  refine gi_icmp_ne (tgt := 127) hx hb (by omega) (by omega) dX1_settle_119 rfl (fun h119 => ?_) (fun h119 => ?_)
                  · refine lv_iinc (k := 1) (lv' := [(3, .int (nI (j + 1))), (2, .int (bI (gf_so (gf_fit fc sz bt so tg ofs (gf_now n fc sz bt so tg ofs nw r)) (j + 1)))), (1, .int (nI (r))), (0, .ref (q 0))]) hx hb dX1_settle_127 hl rfl (gi_inc _) (by decide) rfl (fun ls hl => ?_)
                    refine lv_goto (tgt := 60) hx hb dX1_settle_130 rfl ?_
                    have hP : va_P D vwCl ((mw q cA cB n (gf_tj (gf_fit fc sz bt so tg ofs (gf_now n fc sz bt so tg ofs nw r)) fc (gf_now n fc sz bt so tg ofs nw r) (j + 1)) true sz bt so fc ofs tg (gf_now n fc sz bt so tg ofs nw r) (gf_gr (gf_fit fc sz bt so tg ofs (gf_now n fc sz bt so tg ofs nw r)) (gf_grr n fc sz bt so tg ofs nw gr r) (j + 1))) ++ wr) H := by rw [show gf_tj (gf_fit fc sz bt so tg ofs (gf_now n fc sz bt so tg ofs nw r)) fc (gf_now n fc sz bt so tg ofs nw r) (j + 1) = gf_tj (gf_fit fc sz bt so tg ofs (gf_now n fc sz bt so tg ofs nw r)) fc (gf_now n fc sz bt so tg ofs nw r) j from if_neg (fun z9 => h119 z9.2)]; exact hP
                    exact ihj (j + 1) (by omega) H locs ls hP hS (lv_sub hl [0, 1, 2, 3] rfl)
                  · refine lv_aload_n hx hb dX1_settle_122 rfl (lv_at hl 3 rfl) ?_
                    refine lv_iconst (v := nI (2)) hx hb dX1_settle_123 (by decide) ?_
                    refine va_put (D := D) (ci := 1) (v := .int (nI (2))) (ty := .int) (C := RX1) (T := TX1) (N := 11) hx hb hts hin tyX1 tyX1_ok nmX1 hown hK hP hD hS 0 rfl rfl 8 (by decide) hf35 (fun _ h9 => h9) rfl (by decide +kernel) rfl rfl (Nat.le_of_ble_eq_true rfl) dX1_settle_124 (fun H locs hP hD hS => ?_)
                    have hP : va_P D vwCl ((mw q cA cB n 2 true sz bt so fc ofs tg (gf_now n fc sz bt so tg ofs nw r) (gf_gr (gf_fit fc sz bt so tg ofs (gf_now n fc sz bt so tg ofs nw r)) (gf_grr n fc sz bt so tg ofs nw gr r) (j + 1))) ++ wr) H := hP
                    have hD : va_D A ((mw q cA cB n 2 true sz bt so fc ofs tg (gf_now n fc sz bt so tg ofs nw r) (gf_gr (gf_fit fc sz bt so tg ofs (gf_now n fc sz bt so tg ofs nw r)) (gf_grr n fc sz bt so tg ofs nw gr r) (j + 1))) ++ wr) := hD
                    refine lv_iinc (k := 1) (lv' := [(3, .int (nI (j + 1))), (2, .int (bI (gf_so (gf_fit fc sz bt so tg ofs (gf_now n fc sz bt so tg ofs nw r)) (j + 1)))), (1, .int (nI (r))), (0, .ref (q 0))]) hx hb dX1_settle_127 hl rfl (gi_inc _) (by decide) rfl (fun ls hl => ?_)
                    refine lv_goto (tgt := 60) hx hb dX1_settle_130 rfl ?_
                    have hP : va_P D vwCl ((mw q cA cB n (gf_tj (gf_fit fc sz bt so tg ofs (gf_now n fc sz bt so tg ofs nw r)) fc (gf_now n fc sz bt so tg ofs nw r) (j + 1)) true sz bt so fc ofs tg (gf_now n fc sz bt so tg ofs nw r) (gf_gr (gf_fit fc sz bt so tg ofs (gf_now n fc sz bt so tg ofs nw r)) (gf_grr n fc sz bt so tg ofs nw gr r) (j + 1))) ++ wr) H := by rw [show gf_tj (gf_fit fc sz bt so tg ofs (gf_now n fc sz bt so tg ofs nw r)) fc (gf_now n fc sz bt so tg ofs nw r) (j + 1) = 2 from if_pos ⟨hpf, h119⟩]; exact hP
                    exact ihj (j + 1) (by omega) H locs ls hP hS (lv_sub hl [0, 1, 2, 3] rfl)
          rw [← gf_gr_0 (gf_fit fc sz bt so tg ofs (gf_now n fc sz bt so tg ofs nw r)) (gf_grr n fc sz bt so tg ofs nw gr r)] at hP
          exact loop n 0 (by omega) _ _ _ hP hS (lv_sub hl [0, 1, 2, 3] rfl)
        | succ k ihr =>
          intro i hik H locs ls hP hS hl
          have hi : i < r := by omega
          have hg9 := hgo i hi
          have hg1 := hg9.1
          have hD : va_D A ((mw q cA cB n 0 true sz bt so fc ofs tg (gf_now n fc sz bt so tg ofs nw i) (gf_grr n fc sz bt so tg ofs nw gr i)) ++ wr) := gD_same hD rfl
          have hk9 := (gf_run i (fun q9 h9 => hgo q9 (by omega))).1
          have ha9 := gf_ad_le hw hk9 n (Nat.le_refl n)
          have htj : gf_tj (gf_fit fc sz bt so tg ofs (gf_now n fc sz bt so tg ofs nw i)) fc (gf_now n fc sz bt so tg ofs nw i) n = 0 := ((gf_tj_iff hk9 n (Nat.le_refl n)).2).mpr hg9.2.2
          refine lv_iconst (v := bI (false)) hx hb dX1_settle_35 (by decide) ?_
          refine lv_istore_n (lv' := [(2, .int (bI (false))), (1, .int (nI (i))), (0, .ref (q 0))]) hx hb dX1_settle_36 rfl hl (by decide) rfl (fun ls hl => ?_)
          refine lv_aload_n hx hb dX1_settle_37 rfl (lv_at hl 2 rfl) ?_
          refine lv_aload_n hx hb dX1_settle_38 rfl (lv_at hl 2 rfl) ?_
          refine va_get (D := D) (ci := 1) (v := .int (nI (n))) (C := RX1) (T := TX1) (N := 11) hx hb hts hin hown hK hP 0 rfl rfl 7 (by decide) hf39 (fun _ h9 => h9) rfl dX1_settle_39 ?_
          refine gi_goV (va_runV (As := [.int (nI (n))]) (rest := []) ⟨hx, hb, hml, hown, hts⟩ (c_X1_address l D cA cB cL A wr q n 0 true sz bt so fc ofs tg (gf_now n fc sz bt so tg ofs nw i) (gf_grr n fc sz bt so tg ofs nw gr i) n hw hk9 (Nat.le_refl n)) (cwV 1 hts gX1_settle_X1_address rfl rfl rfl (by decide +kernel) ⟨Nat.le_of_ble_eq_true rfl, Nat.le_of_ble_eq_true rfl⟩) (gi_preV (q0 := 0) hK hP hD rfl rfl rfl) rfl rfl hl.1 rfl (lv_room (Nat.le_of_ble_eq_true rfl)) dX1_settle_42 ⟨Nat.le_of_ble_eq_true rfl, Nat.le_of_ble_eq_true rfl⟩) hS (fun H locs hP hS => ?_)
          refine lv_sipush (v := nI (4096)) hx hb dX1_settle_45 (by decide) ?_
          refine gi_icmp_le (tgt := 58) hx hb (by omega) (by omega) dX1_settle_48 rfl (fun h48 => ?_) (fun h9 => absurd h9 (by omega))
          refine lv_iconst (v := nI (0)) hx hb dX1_settle_58 (by decide) ?_
          refine lv_istore_n (lv' := [(3, .int (nI (0))), (2, .int (bI (false))), (1, .int (nI (i))), (0, .ref (q 0))]) hx hb dX1_settle_59 rfl hl (by decide) rfl (fun ls hl => ?_)
          have loop : ∀ (k j : Nat), j + k = n → ∀ (H : Heap) (locs : List Loc) (ls : Array Slot), va_P D vwCl ((mw q cA cB n (gf_tj (gf_fit fc sz bt so tg ofs (gf_now n fc sz bt so tg ofs nw i)) fc (gf_now n fc sz bt so tg ofs nw i) j) true sz bt so fc ofs tg (gf_now n fc sz bt so tg ofs nw i) (gf_gr (gf_fit fc sz bt so tg ofs (gf_now n fc sz bt so tg ofs nw i)) (gf_grr n fc sz bt so tg ofs nw gr i) j)) ++ wr) H → va_S A s.heap H locs → lv_has ls 4 [(3, .int (nI (j))), (2, .int (bI (gf_so (gf_fit fc sz bt so tg ofs (gf_now n fc sz bt so tg ofs nw i)) j))), (1, .int (nI (i))), (0, .ref (q 0))] → W p l e (headSpec wsX1_settle ({ frames := 3, cells := 0, slots := 0, locals := 72 })).room s m ([.ref (q 0)] : List Value).toArray below meth c H locs 0 0 (MQ below (gPost (some (.int (nI (r)))) D vwCl ((mw q cA cB n 0 true sz bt so fc ofs tg (gf_now n fc sz bt so tg ofs nw r) (gf_grr n fc sz bt so tg ofs nw gr (r + 1))) ++ wr) A) ([.ref (q 0)] : List Value).toArray s 0 0 A) (F0 m 60 ls []) := by
            intro k
            induction k with
            | zero =>
              intro j hik H locs ls hP hS hl
              have h9 : n = j := by omega
              subst h9
              have hD : va_D A ((mw q cA cB n (gf_tj (gf_fit fc sz bt so tg ofs (gf_now n fc sz bt so tg ofs nw i)) fc (gf_now n fc sz bt so tg ofs nw i) n) true sz bt so fc ofs tg (gf_now n fc sz bt so tg ofs nw i) (gf_gr (gf_fit fc sz bt so tg ofs (gf_now n fc sz bt so tg ofs nw i)) (gf_grr n fc sz bt so tg ofs nw gr i) n)) ++ wr) := gD_same hD rfl
              refine lv_iload_n hx hb dX1_settle_60 rfl (lv_at hl 0 rfl) ?_
              refine lv_aload_n hx hb dX1_settle_61 rfl (lv_at hl 3 rfl) ?_
              refine va_get (D := D) (ci := 1) (v := .int (nI (n))) (C := RX1) (T := TX1) (N := 11) hx hb hts hin hown hK hP 0 rfl rfl 7 (by decide) hf39 (fun _ h9 => h9) rfl dX1_settle_62 ?_
              refine gi_icmp_ge (tgt := 133) hx hb (by omega) (by omega) dX1_settle_65 rfl (fun h65 => ?_) (fun h9 => absurd h9 (by omega))
              refine lv_aload_n hx hb dX1_settle_133 rfl (lv_at hl 3 rfl) ?_
              refine va_get (D := D) (ci := 1) (v := .int (nI (gf_tj (gf_fit fc sz bt so tg ofs (gf_now n fc sz bt so tg ofs nw i)) fc (gf_now n fc sz bt so tg ofs nw i) n))) (C := RX1) (T := TX1) (N := 11) hx hb hts hin hown hK hP 0 rfl rfl 8 (by decide) hf35 (fun _ h9 => h9) rfl dX1_settle_134 ?_
              refine gi_if_le (tgt := 142) hx hb (by have := gf_tj_le (gf_fit fc sz bt so tg ofs (gf_now n fc sz bt so tg ofs nw i)) fc (gf_now n fc sz bt so tg ofs nw i) n; omega) dX1_settle_137 rfl (fun h137 => ?_) (fun h9 => absurd h9 (fun z9 => z9 htj))
              rw [htj] at hP hD
              refine lv_iload_n hx hb dX1_settle_142 rfl (lv_at hl 1 rfl) ?_
              refine gi_if_neb (tgt := 148) hx hb dX1_settle_143 rfl (fun h143 => ?_) (fun h9 => absurd h9 (gf_ne_ft (gf_so_t hg9.2.1)))
              refine lv_iconst (v := nI (0)) hx hb dX1_settle_148 (by decide) ?_
              refine lv_istore_n (lv' := [(3, .int (nI (0))), (2, .int (bI (gf_so (gf_fit fc sz bt so tg ofs (gf_now n fc sz bt so tg ofs nw i)) n))), (1, .int (nI (i))), (0, .ref (q 0))]) hx hb dX1_settle_149 rfl hl (by decide) rfl (fun ls hl => ?_)
              have loop : ∀ (k j : Nat), j + k = n → ∀ (H : Heap) (locs : List Loc) (ls : Array Slot), va_P D vwCl ((mw q cA cB n 0 true sz bt so fc ofs tg (gf_st j fc sz bt so tg ofs (gf_now n fc sz bt so tg ofs nw i)) (gf_gr (gf_fit fc sz bt so tg ofs (gf_now n fc sz bt so tg ofs nw i)) (gf_grr n fc sz bt so tg ofs nw gr i) n)) ++ wr) H → va_S A s.heap H locs → lv_has ls 4 [(3, .int (nI (j))), (1, .int (nI (i))), (0, .ref (q 0))] → W p l e (headSpec wsX1_settle ({ frames := 3, cells := 0, slots := 0, locals := 72 })).room s m ([.ref (q 0)] : List Value).toArray below meth c H locs 0 0 (MQ below (gPost (some (.int (nI (r)))) D vwCl ((mw q cA cB n 0 true sz bt so fc ofs tg (gf_now n fc sz bt so tg ofs nw r) (gf_grr n fc sz bt so tg ofs nw gr (r + 1))) ++ wr) A) ([.ref (q 0)] : List Value).toArray s 0 0 A) (F0 m 150 ls []) := by
                intro k
                induction k with
                | zero =>
                  intro j hik H locs ls hP hS hl
                  have h9 : n = j := by omega
                  subst h9
                  have hD : va_D A ((mw q cA cB n 0 true sz bt so fc ofs tg (gf_st n fc sz bt so tg ofs (gf_now n fc sz bt so tg ofs nw i)) (gf_gr (gf_fit fc sz bt so tg ofs (gf_now n fc sz bt so tg ofs nw i)) (gf_grr n fc sz bt so tg ofs nw gr i) n)) ++ wr) := gD_same hD rfl
                  refine lv_iload_n hx hb dX1_settle_150 rfl (lv_at hl 0 rfl) ?_
                  refine lv_aload_n hx hb dX1_settle_151 rfl (lv_at hl 2 rfl) ?_
                  refine va_get (D := D) (ci := 1) (v := .int (nI (n))) (C := RX1) (T := TX1) (N := 11) hx hb hts hin hown hK hP 0 rfl rfl 7 (by decide) hf39 (fun _ h9 => h9) rfl dX1_settle_152 ?_
                  refine gi_icmp_ge (tgt := 183) hx hb (by omega) (by omega) dX1_settle_155 rfl (fun h155 => ?_) (fun h9 => absurd h9 (by omega))
                  refine lv_iinc (k := 1) (lv' := [(1, .int (nI (i + 1))), (3, .int (nI (n))), (0, .ref (q 0))]) hx hb dX1_settle_183 hl rfl (gi_inc _) (by decide) rfl (fun ls hl => ?_)
                  refine lv_goto (tgt := 35) hx hb dX1_settle_186 rfl ?_
                  exact ihr (i + 1) (by omega) H locs ls hP hS (lv_sub hl [0, 2] rfl)
                | succ k ihj =>
                  intro j hik H locs ls hP hS hl
                  have hj : j < n := by omega
                  have hD : va_D A ((mw q cA cB n 0 true sz bt so fc ofs tg (gf_st j fc sz bt so tg ofs (gf_now n fc sz bt so tg ofs nw i)) (gf_gr (gf_fit fc sz bt so tg ofs (gf_now n fc sz bt so tg ofs nw i)) (gf_grr n fc sz bt so tg ofs nw gr i) n)) ++ wr) := gD_same hD rfl
                  refine lv_iload_n hx hb dX1_settle_150 rfl (lv_at hl 0 rfl) ?_
                  refine lv_aload_n hx hb dX1_settle_151 rfl (lv_at hl 2 rfl) ?_
                  refine va_get (D := D) (ci := 1) (v := .int (nI (n))) (C := RX1) (T := TX1) (N := 11) hx hb hts hin hown hK hP 0 rfl rfl 7 (by decide) hf39 (fun _ h9 => h9) rfl dX1_settle_152 ?_
                  refine gi_icmp_ge (tgt := 183) hx hb (by omega) (by omega) dX1_settle_155 rfl (fun h9 => absurd h9 (by omega)) (fun h155 => ?_)
                  refine lv_aload_n hx hb dX1_settle_158 rfl (lv_at hl 2 rfl) ?_
                  refine va_get (D := D) (ci := 1) (v := .ref (q 8)) (C := RX1) (T := TX1) (N := 11) hx hb hts hin hown hK hP 0 rfl rfl 10 (by decide) hf31 (fun _ h9 => h9) rfl dX1_settle_159 ?_
                  refine lv_iload_n hx hb dX1_settle_162 rfl (lv_at hl 0 rfl) ?_
                  refine gi_zaldI hx hb hK hP 8 1 (gf_gr (gf_fit fc sz bt so tg ofs (gf_now n fc sz bt so tg ofs nw i)) (gf_grr n fc sz bt so tg ofs nw gr i) n) rfl rfl (by omega) (by decide) dX1_settle_163 ?_
                  refine gi_top (y := (bI (!(gf_fit fc sz bt so tg ofs (gf_now n fc sz bt so tg ofs nw i) j)))) (gf_gr_at (gf_fit fc sz bt so tg ofs (gf_now n fc sz bt so tg ofs nw i)) (gf_grr n fc sz bt so tg ofs nw gr i) hj) ?_
                  refine gi_if_eqb (tgt := 177) hx hb dX1_settle_164 rfl (fun h164 => ?_) (fun h164 => ?_)
                  · refine lv_iinc (k := 0) (lv' := [(3, .int (nI (j + 1))), (1, .int (nI (i))), (0, .ref (q 0))]) hx hb dX1_settle_177 hl rfl (gi_inc _) (by decide) rfl (fun ls hl => ?_)
                    refine lv_goto (tgt := 150) hx hb dX1_settle_180 rfl ?_
                    rw [gf_st_k fc sz bt so tg ofs (gf_now n fc sz bt so tg ofs nw i) j (not_ff h164)] at hP
                    exact ihj (j + 1) (by omega) H locs ls hP hS (lv_sub hl [0, 1, 2] rfl)
                  · refine lv_aload_n hx hb dX1_settle_167 rfl (lv_at hl 2 rfl) ?_
                    refine va_get (D := D) (ci := 1) (v := .ref (q 7)) (C := RX1) (T := TX1) (N := 11) hx hb hts hin hown hK hP 0 rfl rfl 6 (by decide) hf28 (fun _ h9 => h9) rfl dX1_settle_168 ?_
                    refine lv_iload_n hx hb dX1_settle_171 rfl (lv_at hl 0 rfl) ?_
                    refine lv_dup2_11 hx hb dX1_settle_172 rfl rfl ?_
                    refine gi_ald hx hb hK hP 7 0 (gf_st j fc sz bt so tg ofs (gf_now n fc sz bt so tg ofs nw i)) rfl rfl (by omega) (by decide) dX1_settle_173 ?_
                    refine gi_top (y := (nI ((gf_now n fc sz bt so tg ofs nw i) j))) (congrArg nI (gf_st_at fc sz bt so tg ofs (gf_now n fc sz bt so tg ofs nw i) j)) ?_
                    refine lv_iconst (v := nI (1)) hx hb dX1_settle_174 (by decide) ?_
                    refine gi_iadd hx hb ((gf_now n fc sz bt so tg ofs nw i) j + 1) rfl dX1_settle_175 ?_
                    refine gi_ast hx hb hK hP hD hS 7 0 (gf_st j fc sz bt so tg ofs (gf_now n fc sz bt so tg ofs nw i)) rfl rfl (by omega) (by decide) dX1_settle_176 (fun H locs hP hD hS => ?_)
                    have hP : va_P D vwCl ((mw q cA cB n 0 true sz bt so fc ofs tg (gU (gf_st j fc sz bt so tg ofs (gf_now n fc sz bt so tg ofs nw i)) j ((gf_now n fc sz bt so tg ofs nw i) j + 1)) (gf_gr (gf_fit fc sz bt so tg ofs (gf_now n fc sz bt so tg ofs nw i)) (gf_grr n fc sz bt so tg ofs nw gr i) n)) ++ wr) H := hP
                    have hD : va_D A ((mw q cA cB n 0 true sz bt so fc ofs tg (gU (gf_st j fc sz bt so tg ofs (gf_now n fc sz bt so tg ofs nw i)) j ((gf_now n fc sz bt so tg ofs nw i) j + 1)) (gf_gr (gf_fit fc sz bt so tg ofs (gf_now n fc sz bt so tg ofs nw i)) (gf_grr n fc sz bt so tg ofs nw gr i) n)) ++ wr) := hD
                    refine lv_iinc (k := 0) (lv' := [(3, .int (nI (j + 1))), (1, .int (nI (i))), (0, .ref (q 0))]) hx hb dX1_settle_177 hl rfl (gi_inc _) (by decide) rfl (fun ls hl => ?_)
                    refine lv_goto (tgt := 150) hx hb dX1_settle_180 rfl ?_
                    rw [gf_st_s fc sz bt so tg ofs (gf_now n fc sz bt so tg ofs nw i) j (not_tt h164)] at hP
                    exact ihj (j + 1) (by omega) H locs ls hP hS (lv_sub hl [0, 1, 2] rfl)
              have hP : va_P D vwCl ((mw q cA cB n 0 true sz bt so fc ofs tg (gf_st 0 fc sz bt so tg ofs (gf_now n fc sz bt so tg ofs nw i)) (gf_gr (gf_fit fc sz bt so tg ofs (gf_now n fc sz bt so tg ofs nw i)) (gf_grr n fc sz bt so tg ofs nw gr i) n)) ++ wr) H := by rw [gf_st_0]; exact hP
              exact loop n 0 (by omega) _ _ _ hP hS (lv_sub hl [0, 2, 3] rfl)
            | succ k ihj =>
              intro j hik H locs ls hP hS hl
              have hj : j < n := by omega
              have hD : va_D A ((mw q cA cB n (gf_tj (gf_fit fc sz bt so tg ofs (gf_now n fc sz bt so tg ofs nw i)) fc (gf_now n fc sz bt so tg ofs nw i) j) true sz bt so fc ofs tg (gf_now n fc sz bt so tg ofs nw i) (gf_gr (gf_fit fc sz bt so tg ofs (gf_now n fc sz bt so tg ofs nw i)) (gf_grr n fc sz bt so tg ofs nw gr i) j)) ++ wr) := gD_same hD rfl
              refine lv_iload_n hx hb dX1_settle_60 rfl (lv_at hl 0 rfl) ?_
              refine lv_aload_n hx hb dX1_settle_61 rfl (lv_at hl 3 rfl) ?_
              refine va_get (D := D) (ci := 1) (v := .int (nI (n))) (C := RX1) (T := TX1) (N := 11) hx hb hts hin hown hK hP 0 rfl rfl 7 (by decide) hf39 (fun _ h9 => h9) rfl dX1_settle_62 ?_
              refine gi_icmp_ge (tgt := 133) hx hb (by omega) (by omega) dX1_settle_65 rfl (fun h9 => absurd h9 (by omega)) (fun h65 => ?_)
              have hn3 := gf_nk_le hw hk9 hj
              have hfb := (hw.2 j hj).1
              refine lv_aload_n hx hb dX1_settle_68 rfl (lv_at hl 3 rfl) ?_
              refine va_get (D := D) (ci := 1) (v := .ref (q 8)) (C := RX1) (T := TX1) (N := 11) hx hb hts hin hown hK hP 0 rfl rfl 10 (by decide) hf31 (fun _ h9 => h9) rfl dX1_settle_69 ?_
              refine lv_iload_n hx hb dX1_settle_72 rfl (lv_at hl 0 rfl) ?_
              refine lv_aload_n hx hb dX1_settle_73 rfl (lv_at hl 3 rfl) ?_
              refine lv_iload_n hx hb dX1_settle_74 rfl (lv_at hl 0 rfl) ?_
              refine gi_goV (va_runV (As := [.int (nI (j))]) (rest := [.int (nI (j)), .ref (q 8)]) ⟨hx, hb, hml, hown, hts⟩ (c_X1_isFitting l D cA cB cL A wr q n (gf_tj (gf_fit fc sz bt so tg ofs (gf_now n fc sz bt so tg ofs nw i)) fc (gf_now n fc sz bt so tg ofs nw i) j) true sz bt so fc ofs tg (gf_now n fc sz bt so tg ofs nw i) (gf_gr (gf_fit fc sz bt so tg ofs (gf_now n fc sz bt so tg ofs nw i)) (gf_grr n fc sz bt so tg ofs nw gr i) j) j hw hk9 hj) (cwV 1 hts gX1_settle_X1_isFitting rfl rfl rfl (by decide +kernel) ⟨Nat.le_of_ble_eq_true rfl, Nat.le_of_ble_eq_true rfl⟩) (gi_preV (q0 := 0) hK hP hD rfl rfl rfl) rfl rfl hl.1 rfl (lv_room (Nat.le_of_ble_eq_true rfl)) dX1_settle_75 ⟨Nat.le_of_ble_eq_true rfl, Nat.le_of_ble_eq_true rfl⟩) hS (fun H locs hP hS => ?_)
              refine gi_if_neb (tgt := 85) hx hb dX1_settle_78 rfl (fun h78 => ?_) (fun h78 => ?_)
              · refine lv_iconst (v := nI (0)) hx hb dX1_settle_85 (by decide) ?_
                refine gi_top (y := (bI (!(gf_fit fc sz bt so tg ofs (gf_now n fc sz bt so tg ofs nw i) j)))) (bR_f (not_f h78)) ?_
                refine gi_zastI hx hb hK hP hD hS 8 1 (gf_gr (gf_fit fc sz bt so tg ofs (gf_now n fc sz bt so tg ofs nw i)) (gf_grr n fc sz bt so tg ofs nw gr i) j) rfl rfl (by omega) (by decide) dX1_settle_86 (fun H locs hP hD hS => ?_)
                have hP : va_P D vwCl ((mw q cA cB n (gf_tj (gf_fit fc sz bt so tg ofs (gf_now n fc sz bt so tg ofs nw i)) fc (gf_now n fc sz bt so tg ofs nw i) j) true sz bt so fc ofs tg (gf_now n fc sz bt so tg ofs nw i) (upd (gf_gr (gf_fit fc sz bt so tg ofs (gf_now n fc sz bt so tg ofs nw i)) (gf_grr n fc sz bt so tg ofs nw gr i) j) j ((bI (!(gf_fit fc sz bt so tg ofs (gf_now n fc sz bt so tg ofs nw i) j)))))) ++ wr) H := hP
                have hD : va_D A ((mw q cA cB n (gf_tj (gf_fit fc sz bt so tg ofs (gf_now n fc sz bt so tg ofs nw i)) fc (gf_now n fc sz bt so tg ofs nw i) j) true sz bt so fc ofs tg (gf_now n fc sz bt so tg ofs nw i) (upd (gf_gr (gf_fit fc sz bt so tg ofs (gf_now n fc sz bt so tg ofs nw i)) (gf_grr n fc sz bt so tg ofs nw gr i) j) j ((bI (!(gf_fit fc sz bt so tg ofs (gf_now n fc sz bt so tg ofs nw i) j)))))) ++ wr) := hD
                rw [gf_gr_s (gf_fit fc sz bt so tg ofs (gf_now n fc sz bt so tg ofs nw i)) (gf_grr n fc sz bt so tg ofs nw gr i) j] at hP hD
                refine lv_iload_n hx hb dX1_settle_87 rfl (lv_at hl 1 rfl) ?_
                refine lv_aload_n hx hb dX1_settle_88 rfl (lv_at hl 3 rfl) ?_
                refine va_get (D := D) (ci := 1) (v := .ref (q 8)) (C := RX1) (T := TX1) (N := 11) hx hb hts hin hown hK hP 0 rfl rfl 10 (by decide) hf31 (fun _ h9 => h9) rfl dX1_settle_89 ?_
                refine lv_iload_n hx hb dX1_settle_92 rfl (lv_at hl 0 rfl) ?_
                refine gi_zaldI hx hb hK hP 8 1 (gf_gr (gf_fit fc sz bt so tg ofs (gf_now n fc sz bt so tg ofs nw i)) (gf_grr n fc sz bt so tg ofs nw gr i) (j + 1)) rfl rfl (by omega) (by decide) dX1_settle_93 ?_
                refine gi_top (y := (bI (!(gf_fit fc sz bt so tg ofs (gf_now n fc sz bt so tg ofs nw i) j)))) (gf_gr_at (gf_fit fc sz bt so tg ofs (gf_now n fc sz bt so tg ofs nw i)) (gf_grr n fc sz bt so tg ofs nw gr i) (by omega)) ?_
                refine gi_iorb hx hb dX1_settle_94 ?_
                refine lv_istore_n (lv' := [(2, .int (bI (gf_so (gf_fit fc sz bt so tg ofs (gf_now n fc sz bt so tg ofs nw i)) (j + 1)))), (3, .int (nI (j))), (1, .int (nI (i))), (0, .ref (q 0))]) hx hb dX1_settle_95 rfl hl (by decide) rfl (fun ls hl => ?_)
                refine lv_aload_n hx hb dX1_settle_96 rfl (lv_at hl 3 rfl) ?_
                refine va_get (D := D) (ci := 1) (v := .ref (q 8)) (C := RX1) (T := TX1) (N := 11) hx hb hts hin hown hK hP 0 rfl rfl 10 (by decide) hf31 (fun _ h9 => h9) rfl dX1_settle_97 ?_
                refine lv_iload_n hx hb dX1_settle_100 rfl (lv_at hl 1 rfl) ?_
                refine gi_zaldI hx hb hK hP 8 1 (gf_gr (gf_fit fc sz bt so tg ofs (gf_now n fc sz bt so tg ofs nw i)) (gf_grr n fc sz bt so tg ofs nw gr i) (j + 1)) rfl rfl (by omega) (by decide) dX1_settle_101 ?_
                refine gi_top (y := (bI (!(gf_fit fc sz bt so tg ofs (gf_now n fc sz bt so tg ofs nw i) j)))) (gf_gr_at (gf_fit fc sz bt so tg ofs (gf_now n fc sz bt so tg ofs nw i)) (gf_grr n fc sz bt so tg ofs nw gr i) (by omega)) ?_
                refine gi_if_eqb (tgt := 127) hx hb dX1_settle_102 rfl (fun h102 => ?_) (fun h102 => ?_)
                · refine lv_iinc (k := 1) (lv' := [(3, .int (nI (j + 1))), (2, .int (bI (gf_so (gf_fit fc sz bt so tg ofs (gf_now n fc sz bt so tg ofs nw i)) (j + 1)))), (1, .int (nI (i))), (0, .ref (q 0))]) hx hb dX1_settle_127 hl rfl (gi_inc _) (by decide) rfl (fun ls hl => ?_)
                  refine lv_goto (tgt := 60) hx hb dX1_settle_130 rfl ?_
                  have hP : va_P D vwCl ((mw q cA cB n (gf_tj (gf_fit fc sz bt so tg ofs (gf_now n fc sz bt so tg ofs nw i)) fc (gf_now n fc sz bt so tg ofs nw i) (j + 1)) true sz bt so fc ofs tg (gf_now n fc sz bt so tg ofs nw i) (gf_gr (gf_fit fc sz bt so tg ofs (gf_now n fc sz bt so tg ofs nw i)) (gf_grr n fc sz bt so tg ofs nw gr i) (j + 1))) ++ wr) H := by rw [show gf_tj (gf_fit fc sz bt so tg ofs (gf_now n fc sz bt so tg ofs nw i)) fc (gf_now n fc sz bt so tg ofs nw i) (j + 1) = gf_tj (gf_fit fc sz bt so tg ofs (gf_now n fc sz bt so tg ofs nw i)) fc (gf_now n fc sz bt so tg ofs nw i) j from if_neg (fun z9 => gf_ne_tf z9.1 (not_ff h102))]; exact hP
                  exact ihj (j + 1) (by omega) H locs ls hP hS (lv_sub hl [0, 1, 2, 3] rfl)
                · have hpf := not_tt h102
                  have hne := gf_unfit_fc hpf
                  refine lv_aload_n hx hb dX1_settle_105 rfl (lv_at hl 3 rfl) ?_
                  refine va_get (D := D) (ci := 1) (v := .ref (q 7)) (C := RX1) (T := TX1) (N := 11) hx hb hts hin hown hK hP 0 rfl rfl 6 (by decide) hf28 (fun _ h9 => h9) rfl dX1_settle_106 ?_
                  refine lv_iload_n hx hb dX1_settle_109 rfl (lv_at hl 1 rfl) ?_
                  refine gi_ald hx hb hK hP 7 0 (gf_now n fc sz bt so tg ofs nw i) rfl rfl (by omega) (by decide) dX1_settle_110 ?_
                  refine lv_aload_n hx hb dX1_settle_111 rfl (lv_at hl 3 rfl) ?_
                  refine va_get (D := D) (ci := 1) (v := .ref (q 1)) (C := RX1) (T := TX1) (N := 11) hx hb hts hin hown hK hP 0 rfl rfl 0 (by decide) hf9 (fun _ h9 => h9) rfl dX1_settle_112 ?_
                  refine lv_iload_n hx hb dX1_settle_115 rfl (lv_at hl 1 rfl) ?_
                  refine gi_ald hx hb hK hP 1 0 fc rfl rfl (by omega) (by decide) dX1_settle_116 ?_
                  refine lv_iconst (v := nI (1)) hx hb dX1_settle_117 (by decide) ?_
                  refine gi_isub hx hb (fc j - 1) (by omega) dX1_settle_118 ?_
                  refine gi_icmp_ne (tgt := 127) hx hb (by omega) (by omega) dX1_settle_119 rfl (fun h119 => ?_) (fun h119 => ?_)
                  · refine lv_iinc (k := 1) (lv' := [(3, .int (nI (j + 1))), (2, .int (bI (gf_so (gf_fit fc sz bt so tg ofs (gf_now n fc sz bt so tg ofs nw i)) (j + 1)))), (1, .int (nI (i))), (0, .ref (q 0))]) hx hb dX1_settle_127 hl rfl (gi_inc _) (by decide) rfl (fun ls hl => ?_)
                    refine lv_goto (tgt := 60) hx hb dX1_settle_130 rfl ?_
                    have hP : va_P D vwCl ((mw q cA cB n (gf_tj (gf_fit fc sz bt so tg ofs (gf_now n fc sz bt so tg ofs nw i)) fc (gf_now n fc sz bt so tg ofs nw i) (j + 1)) true sz bt so fc ofs tg (gf_now n fc sz bt so tg ofs nw i) (gf_gr (gf_fit fc sz bt so tg ofs (gf_now n fc sz bt so tg ofs nw i)) (gf_grr n fc sz bt so tg ofs nw gr i) (j + 1))) ++ wr) H := by rw [show gf_tj (gf_fit fc sz bt so tg ofs (gf_now n fc sz bt so tg ofs nw i)) fc (gf_now n fc sz bt so tg ofs nw i) (j + 1) = gf_tj (gf_fit fc sz bt so tg ofs (gf_now n fc sz bt so tg ofs nw i)) fc (gf_now n fc sz bt so tg ofs nw i) j from if_neg (fun z9 => h119 z9.2)]; exact hP
                    exact ihj (j + 1) (by omega) H locs ls hP hS (lv_sub hl [0, 1, 2, 3] rfl)
                  · refine lv_aload_n hx hb dX1_settle_122 rfl (lv_at hl 3 rfl) ?_
                    refine lv_iconst (v := nI (2)) hx hb dX1_settle_123 (by decide) ?_
                    refine va_put (D := D) (ci := 1) (v := .int (nI (2))) (ty := .int) (C := RX1) (T := TX1) (N := 11) hx hb hts hin tyX1 tyX1_ok nmX1 hown hK hP hD hS 0 rfl rfl 8 (by decide) hf35 (fun _ h9 => h9) rfl (by decide +kernel) rfl rfl (Nat.le_of_ble_eq_true rfl) dX1_settle_124 (fun H locs hP hD hS => ?_)
                    have hP : va_P D vwCl ((mw q cA cB n 2 true sz bt so fc ofs tg (gf_now n fc sz bt so tg ofs nw i) (gf_gr (gf_fit fc sz bt so tg ofs (gf_now n fc sz bt so tg ofs nw i)) (gf_grr n fc sz bt so tg ofs nw gr i) (j + 1))) ++ wr) H := hP
                    have hD : va_D A ((mw q cA cB n 2 true sz bt so fc ofs tg (gf_now n fc sz bt so tg ofs nw i) (gf_gr (gf_fit fc sz bt so tg ofs (gf_now n fc sz bt so tg ofs nw i)) (gf_grr n fc sz bt so tg ofs nw gr i) (j + 1))) ++ wr) := hD
                    refine lv_iinc (k := 1) (lv' := [(3, .int (nI (j + 1))), (2, .int (bI (gf_so (gf_fit fc sz bt so tg ofs (gf_now n fc sz bt so tg ofs nw i)) (j + 1)))), (1, .int (nI (i))), (0, .ref (q 0))]) hx hb dX1_settle_127 hl rfl (gi_inc _) (by decide) rfl (fun ls hl => ?_)
                    refine lv_goto (tgt := 60) hx hb dX1_settle_130 rfl ?_
                    have hP : va_P D vwCl ((mw q cA cB n (gf_tj (gf_fit fc sz bt so tg ofs (gf_now n fc sz bt so tg ofs nw i)) fc (gf_now n fc sz bt so tg ofs nw i) (j + 1)) true sz bt so fc ofs tg (gf_now n fc sz bt so tg ofs nw i) (gf_gr (gf_fit fc sz bt so tg ofs (gf_now n fc sz bt so tg ofs nw i)) (gf_grr n fc sz bt so tg ofs nw gr i) (j + 1))) ++ wr) H := by rw [show gf_tj (gf_fit fc sz bt so tg ofs (gf_now n fc sz bt so tg ofs nw i)) fc (gf_now n fc sz bt so tg ofs nw i) (j + 1) = 2 from if_pos ⟨hpf, h119⟩]; exact hP
                    exact ihj (j + 1) (by omega) H locs ls hP hS (lv_sub hl [0, 1, 2, 3] rfl)
              · refine lv_iconst (v := nI (1)) hx hb dX1_settle_81 (by decide) ?_
                refine gi_top (y := (bI (!(gf_fit fc sz bt so tg ofs (gf_now n fc sz bt so tg ofs nw i) j)))) (bR_t (not_t h78)) ?_
                refine lv_goto (tgt := 86) hx hb dX1_settle_82 rfl ?_
                refine gi_zastI hx hb hK hP hD hS 8 1 (gf_gr (gf_fit fc sz bt so tg ofs (gf_now n fc sz bt so tg ofs nw i)) (gf_grr n fc sz bt so tg ofs nw gr i) j) rfl rfl (by omega) (by decide) dX1_settle_86 (fun H locs hP hD hS => ?_)
                have hP : va_P D vwCl ((mw q cA cB n (gf_tj (gf_fit fc sz bt so tg ofs (gf_now n fc sz bt so tg ofs nw i)) fc (gf_now n fc sz bt so tg ofs nw i) j) true sz bt so fc ofs tg (gf_now n fc sz bt so tg ofs nw i) (upd (gf_gr (gf_fit fc sz bt so tg ofs (gf_now n fc sz bt so tg ofs nw i)) (gf_grr n fc sz bt so tg ofs nw gr i) j) j ((bI (!(gf_fit fc sz bt so tg ofs (gf_now n fc sz bt so tg ofs nw i) j)))))) ++ wr) H := hP
                have hD : va_D A ((mw q cA cB n (gf_tj (gf_fit fc sz bt so tg ofs (gf_now n fc sz bt so tg ofs nw i)) fc (gf_now n fc sz bt so tg ofs nw i) j) true sz bt so fc ofs tg (gf_now n fc sz bt so tg ofs nw i) (upd (gf_gr (gf_fit fc sz bt so tg ofs (gf_now n fc sz bt so tg ofs nw i)) (gf_grr n fc sz bt so tg ofs nw gr i) j) j ((bI (!(gf_fit fc sz bt so tg ofs (gf_now n fc sz bt so tg ofs nw i) j)))))) ++ wr) := hD
                rw [gf_gr_s (gf_fit fc sz bt so tg ofs (gf_now n fc sz bt so tg ofs nw i)) (gf_grr n fc sz bt so tg ofs nw gr i) j] at hP hD
                refine lv_iload_n hx hb dX1_settle_87 rfl (lv_at hl 1 rfl) ?_
                refine lv_aload_n hx hb dX1_settle_88 rfl (lv_at hl 3 rfl) ?_
                refine va_get (D := D) (ci := 1) (v := .ref (q 8)) (C := RX1) (T := TX1) (N := 11) hx hb hts hin hown hK hP 0 rfl rfl 10 (by decide) hf31 (fun _ h9 => h9) rfl dX1_settle_89 ?_
                refine lv_iload_n hx hb dX1_settle_92 rfl (lv_at hl 0 rfl) ?_
                refine gi_zaldI hx hb hK hP 8 1 (gf_gr (gf_fit fc sz bt so tg ofs (gf_now n fc sz bt so tg ofs nw i)) (gf_grr n fc sz bt so tg ofs nw gr i) (j + 1)) rfl rfl (by omega) (by decide) dX1_settle_93 ?_
                refine gi_top (y := (bI (!(gf_fit fc sz bt so tg ofs (gf_now n fc sz bt so tg ofs nw i) j)))) (gf_gr_at (gf_fit fc sz bt so tg ofs (gf_now n fc sz bt so tg ofs nw i)) (gf_grr n fc sz bt so tg ofs nw gr i) (by omega)) ?_
                refine gi_iorb hx hb dX1_settle_94 ?_
                refine lv_istore_n (lv' := [(2, .int (bI (gf_so (gf_fit fc sz bt so tg ofs (gf_now n fc sz bt so tg ofs nw i)) (j + 1)))), (3, .int (nI (j))), (1, .int (nI (i))), (0, .ref (q 0))]) hx hb dX1_settle_95 rfl hl (by decide) rfl (fun ls hl => ?_)
                refine lv_aload_n hx hb dX1_settle_96 rfl (lv_at hl 3 rfl) ?_
                refine va_get (D := D) (ci := 1) (v := .ref (q 8)) (C := RX1) (T := TX1) (N := 11) hx hb hts hin hown hK hP 0 rfl rfl 10 (by decide) hf31 (fun _ h9 => h9) rfl dX1_settle_97 ?_
                refine lv_iload_n hx hb dX1_settle_100 rfl (lv_at hl 1 rfl) ?_
                refine gi_zaldI hx hb hK hP 8 1 (gf_gr (gf_fit fc sz bt so tg ofs (gf_now n fc sz bt so tg ofs nw i)) (gf_grr n fc sz bt so tg ofs nw gr i) (j + 1)) rfl rfl (by omega) (by decide) dX1_settle_101 ?_
                refine gi_top (y := (bI (!(gf_fit fc sz bt so tg ofs (gf_now n fc sz bt so tg ofs nw i) j)))) (gf_gr_at (gf_fit fc sz bt so tg ofs (gf_now n fc sz bt so tg ofs nw i)) (gf_grr n fc sz bt so tg ofs nw gr i) (by omega)) ?_
                refine gi_if_eqb (tgt := 127) hx hb dX1_settle_102 rfl (fun h102 => ?_) (fun h102 => ?_)
                · refine lv_iinc (k := 1) (lv' := [(3, .int (nI (j + 1))), (2, .int (bI (gf_so (gf_fit fc sz bt so tg ofs (gf_now n fc sz bt so tg ofs nw i)) (j + 1)))), (1, .int (nI (i))), (0, .ref (q 0))]) hx hb dX1_settle_127 hl rfl (gi_inc _) (by decide) rfl (fun ls hl => ?_)
                  refine lv_goto (tgt := 60) hx hb dX1_settle_130 rfl ?_
                  have hP : va_P D vwCl ((mw q cA cB n (gf_tj (gf_fit fc sz bt so tg ofs (gf_now n fc sz bt so tg ofs nw i)) fc (gf_now n fc sz bt so tg ofs nw i) (j + 1)) true sz bt so fc ofs tg (gf_now n fc sz bt so tg ofs nw i) (gf_gr (gf_fit fc sz bt so tg ofs (gf_now n fc sz bt so tg ofs nw i)) (gf_grr n fc sz bt so tg ofs nw gr i) (j + 1))) ++ wr) H := by rw [show gf_tj (gf_fit fc sz bt so tg ofs (gf_now n fc sz bt so tg ofs nw i)) fc (gf_now n fc sz bt so tg ofs nw i) (j + 1) = gf_tj (gf_fit fc sz bt so tg ofs (gf_now n fc sz bt so tg ofs nw i)) fc (gf_now n fc sz bt so tg ofs nw i) j from if_neg (fun z9 => gf_ne_tf z9.1 (not_ff h102))]; exact hP
                  exact ihj (j + 1) (by omega) H locs ls hP hS (lv_sub hl [0, 1, 2, 3] rfl)
                · have hpf := not_tt h102
                  have hne := gf_unfit_fc hpf
                  refine lv_aload_n hx hb dX1_settle_105 rfl (lv_at hl 3 rfl) ?_
                  refine va_get (D := D) (ci := 1) (v := .ref (q 7)) (C := RX1) (T := TX1) (N := 11) hx hb hts hin hown hK hP 0 rfl rfl 6 (by decide) hf28 (fun _ h9 => h9) rfl dX1_settle_106 ?_
                  refine lv_iload_n hx hb dX1_settle_109 rfl (lv_at hl 1 rfl) ?_
                  refine gi_ald hx hb hK hP 7 0 (gf_now n fc sz bt so tg ofs nw i) rfl rfl (by omega) (by decide) dX1_settle_110 ?_
                  refine lv_aload_n hx hb dX1_settle_111 rfl (lv_at hl 3 rfl) ?_
                  refine va_get (D := D) (ci := 1) (v := .ref (q 1)) (C := RX1) (T := TX1) (N := 11) hx hb hts hin hown hK hP 0 rfl rfl 0 (by decide) hf9 (fun _ h9 => h9) rfl dX1_settle_112 ?_
                  refine lv_iload_n hx hb dX1_settle_115 rfl (lv_at hl 1 rfl) ?_
                  refine gi_ald hx hb hK hP 1 0 fc rfl rfl (by omega) (by decide) dX1_settle_116 ?_
                  refine lv_iconst (v := nI (1)) hx hb dX1_settle_117 (by decide) ?_
                  refine gi_isub hx hb (fc j - 1) (by omega) dX1_settle_118 ?_
                  refine gi_icmp_ne (tgt := 127) hx hb (by omega) (by omega) dX1_settle_119 rfl (fun h119 => ?_) (fun h119 => ?_)
                  · refine lv_iinc (k := 1) (lv' := [(3, .int (nI (j + 1))), (2, .int (bI (gf_so (gf_fit fc sz bt so tg ofs (gf_now n fc sz bt so tg ofs nw i)) (j + 1)))), (1, .int (nI (i))), (0, .ref (q 0))]) hx hb dX1_settle_127 hl rfl (gi_inc _) (by decide) rfl (fun ls hl => ?_)
                    refine lv_goto (tgt := 60) hx hb dX1_settle_130 rfl ?_
                    have hP : va_P D vwCl ((mw q cA cB n (gf_tj (gf_fit fc sz bt so tg ofs (gf_now n fc sz bt so tg ofs nw i)) fc (gf_now n fc sz bt so tg ofs nw i) (j + 1)) true sz bt so fc ofs tg (gf_now n fc sz bt so tg ofs nw i) (gf_gr (gf_fit fc sz bt so tg ofs (gf_now n fc sz bt so tg ofs nw i)) (gf_grr n fc sz bt so tg ofs nw gr i) (j + 1))) ++ wr) H := by rw [show gf_tj (gf_fit fc sz bt so tg ofs (gf_now n fc sz bt so tg ofs nw i)) fc (gf_now n fc sz bt so tg ofs nw i) (j + 1) = gf_tj (gf_fit fc sz bt so tg ofs (gf_now n fc sz bt so tg ofs nw i)) fc (gf_now n fc sz bt so tg ofs nw i) j from if_neg (fun z9 => h119 z9.2)]; exact hP
                    exact ihj (j + 1) (by omega) H locs ls hP hS (lv_sub hl [0, 1, 2, 3] rfl)
                  · refine lv_aload_n hx hb dX1_settle_122 rfl (lv_at hl 3 rfl) ?_
                    refine lv_iconst (v := nI (2)) hx hb dX1_settle_123 (by decide) ?_
                    refine va_put (D := D) (ci := 1) (v := .int (nI (2))) (ty := .int) (C := RX1) (T := TX1) (N := 11) hx hb hts hin tyX1 tyX1_ok nmX1 hown hK hP hD hS 0 rfl rfl 8 (by decide) hf35 (fun _ h9 => h9) rfl (by decide +kernel) rfl rfl (Nat.le_of_ble_eq_true rfl) dX1_settle_124 (fun H locs hP hD hS => ?_)
                    have hP : va_P D vwCl ((mw q cA cB n 2 true sz bt so fc ofs tg (gf_now n fc sz bt so tg ofs nw i) (gf_gr (gf_fit fc sz bt so tg ofs (gf_now n fc sz bt so tg ofs nw i)) (gf_grr n fc sz bt so tg ofs nw gr i) (j + 1))) ++ wr) H := hP
                    have hD : va_D A ((mw q cA cB n 2 true sz bt so fc ofs tg (gf_now n fc sz bt so tg ofs nw i) (gf_gr (gf_fit fc sz bt so tg ofs (gf_now n fc sz bt so tg ofs nw i)) (gf_grr n fc sz bt so tg ofs nw gr i) (j + 1))) ++ wr) := hD
                    refine lv_iinc (k := 1) (lv' := [(3, .int (nI (j + 1))), (2, .int (bI (gf_so (gf_fit fc sz bt so tg ofs (gf_now n fc sz bt so tg ofs nw i)) (j + 1)))), (1, .int (nI (i))), (0, .ref (q 0))]) hx hb dX1_settle_127 hl rfl (gi_inc _) (by decide) rfl (fun ls hl => ?_)
                    refine lv_goto (tgt := 60) hx hb dX1_settle_130 rfl ?_
                    have hP : va_P D vwCl ((mw q cA cB n (gf_tj (gf_fit fc sz bt so tg ofs (gf_now n fc sz bt so tg ofs nw i)) fc (gf_now n fc sz bt so tg ofs nw i) (j + 1)) true sz bt so fc ofs tg (gf_now n fc sz bt so tg ofs nw i) (gf_gr (gf_fit fc sz bt so tg ofs (gf_now n fc sz bt so tg ofs nw i)) (gf_grr n fc sz bt so tg ofs nw gr i) (j + 1))) ++ wr) H := by rw [show gf_tj (gf_fit fc sz bt so tg ofs (gf_now n fc sz bt so tg ofs nw i)) fc (gf_now n fc sz bt so tg ofs nw i) (j + 1) = 2 from if_pos ⟨hpf, h119⟩]; exact hP
                    exact ihj (j + 1) (by omega) H locs ls hP hS (lv_sub hl [0, 1, 2, 3] rfl)
          rw [← gf_gr_0 (gf_fit fc sz bt so tg ofs (gf_now n fc sz bt so tg ofs nw i)) (gf_grr n fc sz bt so tg ofs nw gr i)] at hP
          exact loop n 0 (by omega) _ _ _ hP hS (lv_sub hl [0, 1, 2, 3] rfl)
      exact loop r 0 (by omega) _ _ _ hP hS (lv_sub hl [0, 1] rfl)
    | succ k ih =>
      intro i hik H locs ls hP hS hl
      have hi : i < n := by omega
      have hD : va_D A ((mw q cA cB n 0 true sz bt so fc ofs tg (gf_now i fc sz bt so tg ofs nw 0) gr) ++ wr) := gD_same hD rfl
      refine lv_iload_n hx hb dX1_settle_12 rfl (lv_at hl 0 rfl) ?_
      refine lv_aload_n hx hb dX1_settle_13 rfl (lv_at hl 1 rfl) ?_
      refine va_get (D := D) (ci := 1) (v := .int (nI (n))) (C := RX1) (T := TX1) (N := 11) hx hb hts hin hown hK hP 0 rfl rfl 7 (by decide) hf39 (fun _ h9 => h9) rfl dX1_settle_14 ?_
      refine gi_icmp_ge (tgt := 33) hx hb (by omega) (by omega) dX1_settle_17 rfl (fun h9 => absurd h9 (by omega)) (fun h17 => ?_)
      refine lv_aload_n hx hb dX1_settle_20 rfl (lv_at hl 1 rfl) ?_
      refine va_get (D := D) (ci := 1) (v := .ref (q 7)) (C := RX1) (T := TX1) (N := 11) hx hb hts hin hown hK hP 0 rfl rfl 6 (by decide) hf28 (fun _ h9 => h9) rfl dX1_settle_21 ?_
      refine lv_iload_n hx hb dX1_settle_24 rfl (lv_at hl 0 rfl) ?_
      refine lv_iconst (v := nI (0)) hx hb dX1_settle_25 (by decide) ?_
      refine gi_ast hx hb hK hP hD hS 7 0 (gf_now i fc sz bt so tg ofs nw 0) rfl rfl (by omega) (by decide) dX1_settle_26 (fun H locs hP hD hS => ?_)
      have hP : va_P D vwCl ((mw q cA cB n 0 true sz bt so fc ofs tg (gU (gf_now i fc sz bt so tg ofs nw 0) i 0) gr) ++ wr) H := hP
      have hD : va_D A ((mw q cA cB n 0 true sz bt so fc ofs tg (gU (gf_now i fc sz bt so tg ofs nw 0) i 0) gr) ++ wr) := hD
      refine lv_iinc (k := 0) (lv' := [(1, .int (nI (i + 1))), (0, .ref (q 0))]) hx hb dX1_settle_27 hl rfl (gi_inc _) (by decide) rfl (fun ls hl => ?_)
      refine lv_goto (tgt := 12) hx hb dX1_settle_30 rfl ?_
      rw [gf_z_s fc sz bt so tg ofs nw i] at hP
      exact ih (i + 1) (by omega) H locs ls hP hS (lv_sub hl [0, 1] rfl)
  rw [← gf_z_0 fc sz bt so tg ofs nw] at hP
  exact loop n 0 (by omega) _ _ _ hP hS (lv_sub hl [0, 1] rfl)
set_option maxHeartbeats 4000000 in
set_option maxRecDepth 100000 in
theorem ex1_X1_settle (l : Launch) (D : va_G) (cA cB cL : ClassId) (A : Nat → Prop) (wr : va_W) (q : Nat → Nat) (n th : Nat) (st : Bool) (sz bt so fc : Nat → Nat) (ofs : Nat → Int32) (tg nw : Nat → Nat) (gr : Nat → Int32) (r : Nat) (hw : gf_wf n fc sz bt so tg) (hr : r ≤ 360) (hgo : ∀ q9, q9 < r → gf_go n fc sz bt so tg ofs (gf_now n fc sz bt so tg ofs nw q9)) (hend : 4096 < gf_ad fc sz (gf_now n fc sz bt so tg ofs nw r) n) : Met l yX1_settle wsX1_settle ({ frames := 3, cells := 0, slots := 0, locals := 72 }) (gPre D vwCl [(cA, .int), (cB, .boolean), (cL, .long)] ((mw q cA cB n th st sz bt so fc ofs tg nw gr) ++ wr) A [.ref (q 0)]) (gPost (some (.int (nI (0)))) D vwCl ((mw q cA cB n 1 true sz bt so fc ofs tg (gf_now n fc sz bt so tg ofs nw r) (gf_grr n fc sz bt so tg ofs nw gr r)) ++ wr) A) 0 0 A := by
  refine Met.ofW (cc := cX1_settle) (maxL := 4) (ret := (some .int)) (by decide) rfl ?_
  intro p e s m args below meth c s₁ B hml hv
  obtain ⟨rfl, hP, hK, hD⟩ := hv
  have hx := B.exec
  have hb := B.bytes
  have hr := B.returns
  have hlk := B.notSynchronized
  have hts := atoms_spec (ws := wsX1_settle) B.pre
  have hown : s.vm.findClass RX1 = some m.cls := findClass_of_methodNamed B.named
  have hS : va_S A s.heap s.heap [] := va_S.rf
  have hl := lv_entry ([.ref (q 0)]) (n := 4) (Nat.le_of_ble_eq_true rfl)
  rw [lg_entry_eq]
  generalize (lg_sl ([.ref (q 0)]) ++ List.replicate (4 - (lg_sl ([.ref (q 0)])).length) Slot.unset).toArray = ls at hl ⊢
  have hl : lv_has ls 4 [(0, .ref (q 0))] := hl
  have hin : ∀ w ∈ u_ws RX1 TX1 11, w ∈ wsX1_settle := fun w h => List.mem_cons_of_mem _ (inTX1 w h)
  have hf9 := hts _ (List.mem_cons_of_mem _ tfX1_9)
  have hf28 := hts _ (List.mem_cons_of_mem _ tfX1_28)
  have hf31 := hts _ (List.mem_cons_of_mem _ tfX1_31)
  have hf35 := hts _ (List.mem_cons_of_mem _ tfX1_35)
  have hf39 := hts _ (List.mem_cons_of_mem _ tfX1_39)
  have hf42 := hts _ (List.mem_cons_of_mem _ tfX1_42)
  have hn := hw.1
  refine lv_aload_n hx hb dX1_settle_0 rfl (lv_at hl 0 rfl) ?_
  refine lv_iconst (v := nI (0)) hx hb dX1_settle_1 (by decide) ?_
  refine va_put (D := D) (ci := 1) (v := .int (nI (0))) (ty := .int) (C := RX1) (T := TX1) (N := 11) hx hb hts hin tyX1 tyX1_ok nmX1 hown hK hP hD hS 0 rfl rfl 8 (by decide) hf35 (fun _ h9 => h9) rfl (by decide +kernel) rfl rfl (Nat.le_of_ble_eq_true rfl) dX1_settle_2 (fun H locs hP hD hS => ?_)
  have hP : va_P D vwCl ((mw q cA cB n 0 st sz bt so fc ofs tg nw gr) ++ wr) H := hP
  have hD : va_D A ((mw q cA cB n 0 st sz bt so fc ofs tg nw gr) ++ wr) := hD
  refine lv_aload_n hx hb dX1_settle_5 rfl (lv_at hl 0 rfl) ?_
  refine lv_iconst (v := nI (1)) hx hb dX1_settle_6 (by decide) ?_
  refine va_put (D := D) (ci := 1) (v := .int (bI (true))) (ty := .boolean) (C := RX1) (T := TX1) (N := 11) hx hb hts hin tyX1 tyX1_ok nmX1 hown hK hP hD hS 0 rfl rfl 9 (by decide) hf42 (fun _ h9 => h9) rfl (by decide +kernel) (bI_nar _) (bI_fits _) (Nat.le_of_ble_eq_true rfl) dX1_settle_7 (fun H locs hP hD hS => ?_)
  have hP : va_P D vwCl ((mw q cA cB n 0 true sz bt so fc ofs tg nw gr) ++ wr) H := hP
  have hD : va_D A ((mw q cA cB n 0 true sz bt so fc ofs tg nw gr) ++ wr) := hD
  refine lv_iconst (v := nI (0)) hx hb dX1_settle_10 (by decide) ?_
  refine lv_istore_n (lv' := [(1, .int (nI (0))), (0, .ref (q 0))]) hx hb dX1_settle_11 rfl hl (by decide) rfl (fun ls hl => ?_)
  have loop : ∀ (k i : Nat), i + k = n → ∀ (H : Heap) (locs : List Loc) (ls : Array Slot), va_P D vwCl ((mw q cA cB n 0 true sz bt so fc ofs tg (gf_now i fc sz bt so tg ofs nw 0) gr) ++ wr) H → va_S A s.heap H locs → lv_has ls 4 [(1, .int (nI (i))), (0, .ref (q 0))] → W p l e (headSpec wsX1_settle ({ frames := 3, cells := 0, slots := 0, locals := 72 })).room s m ([.ref (q 0)] : List Value).toArray below meth c H locs 0 0 (MQ below (gPost (some (.int (nI (0)))) D vwCl ((mw q cA cB n 1 true sz bt so fc ofs tg (gf_now n fc sz bt so tg ofs nw r) (gf_grr n fc sz bt so tg ofs nw gr r)) ++ wr) A) ([.ref (q 0)] : List Value).toArray s 0 0 A) (F0 m 12 ls []) := by
    intro k
    induction k with
    | zero =>
      intro i hik H locs ls hP hS hl
      have h9 : n = i := by omega
      subst h9
      have hD : va_D A ((mw q cA cB n 0 true sz bt so fc ofs tg (gf_now n fc sz bt so tg ofs nw 0) gr) ++ wr) := gD_same hD rfl
      refine lv_iload_n hx hb dX1_settle_12 rfl (lv_at hl 0 rfl) ?_
      refine lv_aload_n hx hb dX1_settle_13 rfl (lv_at hl 1 rfl) ?_
      refine va_get (D := D) (ci := 1) (v := .int (nI (n))) (C := RX1) (T := TX1) (N := 11) hx hb hts hin hown hK hP 0 rfl rfl 7 (by decide) hf39 (fun _ h9 => h9) rfl dX1_settle_14 ?_
      refine gi_icmp_ge (tgt := 33) hx hb (by omega) (by omega) dX1_settle_17 rfl (fun h17 => ?_) (fun h9 => absurd h9 (by omega))
      refine lv_iconst (v := nI (0)) hx hb dX1_settle_33 (by decide) ?_
      refine lv_istore_n (lv' := [(1, .int (nI (0))), (0, .ref (q 0))]) hx hb dX1_settle_34 rfl hl (by decide) rfl (fun ls hl => ?_)
      have loop : ∀ (k i : Nat), i + k = r → ∀ (H : Heap) (locs : List Loc) (ls : Array Slot), va_P D vwCl ((mw q cA cB n 0 true sz bt so fc ofs tg (gf_now n fc sz bt so tg ofs nw i) (gf_grr n fc sz bt so tg ofs nw gr i)) ++ wr) H → va_S A s.heap H locs → lv_has ls 4 [(1, .int (nI (i))), (0, .ref (q 0))] → W p l e (headSpec wsX1_settle ({ frames := 3, cells := 0, slots := 0, locals := 72 })).room s m ([.ref (q 0)] : List Value).toArray below meth c H locs 0 0 (MQ below (gPost (some (.int (nI (0)))) D vwCl ((mw q cA cB n 1 true sz bt so fc ofs tg (gf_now n fc sz bt so tg ofs nw r) (gf_grr n fc sz bt so tg ofs nw gr r)) ++ wr) A) ([.ref (q 0)] : List Value).toArray s 0 0 A) (F0 m 35 ls []) := by
        intro k
        induction k with
        | zero =>
          intro i hik H locs ls hP hS hl
          have h9 : r = i := by omega
          subst h9
          have hD : va_D A ((mw q cA cB n 0 true sz bt so fc ofs tg (gf_now n fc sz bt so tg ofs nw r) (gf_grr n fc sz bt so tg ofs nw gr r)) ++ wr) := gD_same hD rfl
          have hk9 := (gf_run r (fun q9 h9 => hgo q9 (by omega))).1
          have ha9 := gf_ad_le hw hk9 n (Nat.le_refl n)
          refine lv_iconst (v := bI (false)) hx hb dX1_settle_35 (by decide) ?_
          refine lv_istore_n (lv' := [(2, .int (bI (false))), (1, .int (nI (r))), (0, .ref (q 0))]) hx hb dX1_settle_36 rfl hl (by decide) rfl (fun ls hl => ?_)
          refine lv_aload_n hx hb dX1_settle_37 rfl (lv_at hl 2 rfl) ?_
          refine lv_aload_n hx hb dX1_settle_38 rfl (lv_at hl 2 rfl) ?_
          refine va_get (D := D) (ci := 1) (v := .int (nI (n))) (C := RX1) (T := TX1) (N := 11) hx hb hts hin hown hK hP 0 rfl rfl 7 (by decide) hf39 (fun _ h9 => h9) rfl dX1_settle_39 ?_
          refine gi_goV (va_runV (As := [.int (nI (n))]) (rest := []) ⟨hx, hb, hml, hown, hts⟩ (c_X1_address l D cA cB cL A wr q n 0 true sz bt so fc ofs tg (gf_now n fc sz bt so tg ofs nw r) (gf_grr n fc sz bt so tg ofs nw gr r) n hw hk9 (Nat.le_refl n)) (cwV 1 hts gX1_settle_X1_address rfl rfl rfl (by decide +kernel) ⟨Nat.le_of_ble_eq_true rfl, Nat.le_of_ble_eq_true rfl⟩) (gi_preV (q0 := 0) hK hP hD rfl rfl rfl) rfl rfl hl.1 rfl (lv_room (Nat.le_of_ble_eq_true rfl)) dX1_settle_42 ⟨Nat.le_of_ble_eq_true rfl, Nat.le_of_ble_eq_true rfl⟩) hS (fun H locs hP hS => ?_)
          refine lv_sipush (v := nI (4096)) hx hb dX1_settle_45 (by decide) ?_
          refine gi_icmp_le (tgt := 58) hx hb (by omega) (by omega) dX1_settle_48 rfl (fun h9 => absurd h9 (by omega)) (fun h48 => ?_)
          refine lv_aload_n hx hb dX1_settle_51 rfl (lv_at hl 2 rfl) ?_
          refine lv_iconst (v := nI (1)) hx hb dX1_settle_52 (by decide) ?_
          refine va_put (D := D) (ci := 1) (v := .int (nI (1))) (ty := .int) (C := RX1) (T := TX1) (N := 11) hx hb hts hin tyX1 tyX1_ok nmX1 hown hK hP hD hS 0 rfl rfl 8 (by decide) hf35 (fun _ h9 => h9) rfl (by decide +kernel) rfl rfl (Nat.le_of_ble_eq_true rfl) dX1_settle_53 (fun H locs hP hD hS => ?_)
          have hP : va_P D vwCl ((mw q cA cB n 1 true sz bt so fc ofs tg (gf_now n fc sz bt so tg ofs nw r) (gf_grr n fc sz bt so tg ofs nw gr r)) ++ wr) H := hP
          have hD : va_D A ((mw q cA cB n 1 true sz bt so fc ofs tg (gf_now n fc sz bt so tg ofs nw r) (gf_grr n fc sz bt so tg ofs nw gr r)) ++ wr) := hD
          refine lv_iconst (v := nI (0)) hx hb dX1_settle_56 (by decide) ?_
          exact gi_iret hx hb hlk hr dX1_settle_57 (rfl) hP hS
        | succ k ihr =>
          intro i hik H locs ls hP hS hl
          have hi : i < r := by omega
          have hg9 := hgo i hi
          have hg1 := hg9.1
          have hD : va_D A ((mw q cA cB n 0 true sz bt so fc ofs tg (gf_now n fc sz bt so tg ofs nw i) (gf_grr n fc sz bt so tg ofs nw gr i)) ++ wr) := gD_same hD rfl
          have hk9 := (gf_run i (fun q9 h9 => hgo q9 (by omega))).1
          have ha9 := gf_ad_le hw hk9 n (Nat.le_refl n)
          have htj : gf_tj (gf_fit fc sz bt so tg ofs (gf_now n fc sz bt so tg ofs nw i)) fc (gf_now n fc sz bt so tg ofs nw i) n = 0 := ((gf_tj_iff hk9 n (Nat.le_refl n)).2).mpr hg9.2.2
          refine lv_iconst (v := bI (false)) hx hb dX1_settle_35 (by decide) ?_
          refine lv_istore_n (lv' := [(2, .int (bI (false))), (1, .int (nI (i))), (0, .ref (q 0))]) hx hb dX1_settle_36 rfl hl (by decide) rfl (fun ls hl => ?_)
          refine lv_aload_n hx hb dX1_settle_37 rfl (lv_at hl 2 rfl) ?_
          refine lv_aload_n hx hb dX1_settle_38 rfl (lv_at hl 2 rfl) ?_
          refine va_get (D := D) (ci := 1) (v := .int (nI (n))) (C := RX1) (T := TX1) (N := 11) hx hb hts hin hown hK hP 0 rfl rfl 7 (by decide) hf39 (fun _ h9 => h9) rfl dX1_settle_39 ?_
          refine gi_goV (va_runV (As := [.int (nI (n))]) (rest := []) ⟨hx, hb, hml, hown, hts⟩ (c_X1_address l D cA cB cL A wr q n 0 true sz bt so fc ofs tg (gf_now n fc sz bt so tg ofs nw i) (gf_grr n fc sz bt so tg ofs nw gr i) n hw hk9 (Nat.le_refl n)) (cwV 1 hts gX1_settle_X1_address rfl rfl rfl (by decide +kernel) ⟨Nat.le_of_ble_eq_true rfl, Nat.le_of_ble_eq_true rfl⟩) (gi_preV (q0 := 0) hK hP hD rfl rfl rfl) rfl rfl hl.1 rfl (lv_room (Nat.le_of_ble_eq_true rfl)) dX1_settle_42 ⟨Nat.le_of_ble_eq_true rfl, Nat.le_of_ble_eq_true rfl⟩) hS (fun H locs hP hS => ?_)
          refine lv_sipush (v := nI (4096)) hx hb dX1_settle_45 (by decide) ?_
          refine gi_icmp_le (tgt := 58) hx hb (by omega) (by omega) dX1_settle_48 rfl (fun h48 => ?_) (fun h9 => absurd h9 (by omega))
          refine lv_iconst (v := nI (0)) hx hb dX1_settle_58 (by decide) ?_
          refine lv_istore_n (lv' := [(3, .int (nI (0))), (2, .int (bI (false))), (1, .int (nI (i))), (0, .ref (q 0))]) hx hb dX1_settle_59 rfl hl (by decide) rfl (fun ls hl => ?_)
          have loop : ∀ (k j : Nat), j + k = n → ∀ (H : Heap) (locs : List Loc) (ls : Array Slot), va_P D vwCl ((mw q cA cB n (gf_tj (gf_fit fc sz bt so tg ofs (gf_now n fc sz bt so tg ofs nw i)) fc (gf_now n fc sz bt so tg ofs nw i) j) true sz bt so fc ofs tg (gf_now n fc sz bt so tg ofs nw i) (gf_gr (gf_fit fc sz bt so tg ofs (gf_now n fc sz bt so tg ofs nw i)) (gf_grr n fc sz bt so tg ofs nw gr i) j)) ++ wr) H → va_S A s.heap H locs → lv_has ls 4 [(3, .int (nI (j))), (2, .int (bI (gf_so (gf_fit fc sz bt so tg ofs (gf_now n fc sz bt so tg ofs nw i)) j))), (1, .int (nI (i))), (0, .ref (q 0))] → W p l e (headSpec wsX1_settle ({ frames := 3, cells := 0, slots := 0, locals := 72 })).room s m ([.ref (q 0)] : List Value).toArray below meth c H locs 0 0 (MQ below (gPost (some (.int (nI (0)))) D vwCl ((mw q cA cB n 1 true sz bt so fc ofs tg (gf_now n fc sz bt so tg ofs nw r) (gf_grr n fc sz bt so tg ofs nw gr r)) ++ wr) A) ([.ref (q 0)] : List Value).toArray s 0 0 A) (F0 m 60 ls []) := by
            intro k
            induction k with
            | zero =>
              intro j hik H locs ls hP hS hl
              have h9 : n = j := by omega
              subst h9
              have hD : va_D A ((mw q cA cB n (gf_tj (gf_fit fc sz bt so tg ofs (gf_now n fc sz bt so tg ofs nw i)) fc (gf_now n fc sz bt so tg ofs nw i) n) true sz bt so fc ofs tg (gf_now n fc sz bt so tg ofs nw i) (gf_gr (gf_fit fc sz bt so tg ofs (gf_now n fc sz bt so tg ofs nw i)) (gf_grr n fc sz bt so tg ofs nw gr i) n)) ++ wr) := gD_same hD rfl
              refine lv_iload_n hx hb dX1_settle_60 rfl (lv_at hl 0 rfl) ?_
              refine lv_aload_n hx hb dX1_settle_61 rfl (lv_at hl 3 rfl) ?_
              refine va_get (D := D) (ci := 1) (v := .int (nI (n))) (C := RX1) (T := TX1) (N := 11) hx hb hts hin hown hK hP 0 rfl rfl 7 (by decide) hf39 (fun _ h9 => h9) rfl dX1_settle_62 ?_
              refine gi_icmp_ge (tgt := 133) hx hb (by omega) (by omega) dX1_settle_65 rfl (fun h65 => ?_) (fun h9 => absurd h9 (by omega))
              refine lv_aload_n hx hb dX1_settle_133 rfl (lv_at hl 3 rfl) ?_
              refine va_get (D := D) (ci := 1) (v := .int (nI (gf_tj (gf_fit fc sz bt so tg ofs (gf_now n fc sz bt so tg ofs nw i)) fc (gf_now n fc sz bt so tg ofs nw i) n))) (C := RX1) (T := TX1) (N := 11) hx hb hts hin hown hK hP 0 rfl rfl 8 (by decide) hf35 (fun _ h9 => h9) rfl dX1_settle_134 ?_
              refine gi_if_le (tgt := 142) hx hb (by have := gf_tj_le (gf_fit fc sz bt so tg ofs (gf_now n fc sz bt so tg ofs nw i)) fc (gf_now n fc sz bt so tg ofs nw i) n; omega) dX1_settle_137 rfl (fun h137 => ?_) (fun h9 => absurd h9 (fun z9 => z9 htj))
              rw [htj] at hP hD
              refine lv_iload_n hx hb dX1_settle_142 rfl (lv_at hl 1 rfl) ?_
              refine gi_if_neb (tgt := 148) hx hb dX1_settle_143 rfl (fun h143 => ?_) (fun h9 => absurd h9 (gf_ne_ft (gf_so_t hg9.2.1)))
              refine lv_iconst (v := nI (0)) hx hb dX1_settle_148 (by decide) ?_
              refine lv_istore_n (lv' := [(3, .int (nI (0))), (2, .int (bI (gf_so (gf_fit fc sz bt so tg ofs (gf_now n fc sz bt so tg ofs nw i)) n))), (1, .int (nI (i))), (0, .ref (q 0))]) hx hb dX1_settle_149 rfl hl (by decide) rfl (fun ls hl => ?_)
              have loop : ∀ (k j : Nat), j + k = n → ∀ (H : Heap) (locs : List Loc) (ls : Array Slot), va_P D vwCl ((mw q cA cB n 0 true sz bt so fc ofs tg (gf_st j fc sz bt so tg ofs (gf_now n fc sz bt so tg ofs nw i)) (gf_gr (gf_fit fc sz bt so tg ofs (gf_now n fc sz bt so tg ofs nw i)) (gf_grr n fc sz bt so tg ofs nw gr i) n)) ++ wr) H → va_S A s.heap H locs → lv_has ls 4 [(3, .int (nI (j))), (1, .int (nI (i))), (0, .ref (q 0))] → W p l e (headSpec wsX1_settle ({ frames := 3, cells := 0, slots := 0, locals := 72 })).room s m ([.ref (q 0)] : List Value).toArray below meth c H locs 0 0 (MQ below (gPost (some (.int (nI (0)))) D vwCl ((mw q cA cB n 1 true sz bt so fc ofs tg (gf_now n fc sz bt so tg ofs nw r) (gf_grr n fc sz bt so tg ofs nw gr r)) ++ wr) A) ([.ref (q 0)] : List Value).toArray s 0 0 A) (F0 m 150 ls []) := by
                intro k
                induction k with
                | zero =>
                  intro j hik H locs ls hP hS hl
                  have h9 : n = j := by omega
                  subst h9
                  have hD : va_D A ((mw q cA cB n 0 true sz bt so fc ofs tg (gf_st n fc sz bt so tg ofs (gf_now n fc sz bt so tg ofs nw i)) (gf_gr (gf_fit fc sz bt so tg ofs (gf_now n fc sz bt so tg ofs nw i)) (gf_grr n fc sz bt so tg ofs nw gr i) n)) ++ wr) := gD_same hD rfl
                  refine lv_iload_n hx hb dX1_settle_150 rfl (lv_at hl 0 rfl) ?_
                  refine lv_aload_n hx hb dX1_settle_151 rfl (lv_at hl 2 rfl) ?_
                  refine va_get (D := D) (ci := 1) (v := .int (nI (n))) (C := RX1) (T := TX1) (N := 11) hx hb hts hin hown hK hP 0 rfl rfl 7 (by decide) hf39 (fun _ h9 => h9) rfl dX1_settle_152 ?_
                  refine gi_icmp_ge (tgt := 183) hx hb (by omega) (by omega) dX1_settle_155 rfl (fun h155 => ?_) (fun h9 => absurd h9 (by omega))
                  refine lv_iinc (k := 1) (lv' := [(1, .int (nI (i + 1))), (3, .int (nI (n))), (0, .ref (q 0))]) hx hb dX1_settle_183 hl rfl (gi_inc _) (by decide) rfl (fun ls hl => ?_)
                  refine lv_goto (tgt := 35) hx hb dX1_settle_186 rfl ?_
                  exact ihr (i + 1) (by omega) H locs ls hP hS (lv_sub hl [0, 2] rfl)
                | succ k ihj =>
                  intro j hik H locs ls hP hS hl
                  have hj : j < n := by omega
                  have hD : va_D A ((mw q cA cB n 0 true sz bt so fc ofs tg (gf_st j fc sz bt so tg ofs (gf_now n fc sz bt so tg ofs nw i)) (gf_gr (gf_fit fc sz bt so tg ofs (gf_now n fc sz bt so tg ofs nw i)) (gf_grr n fc sz bt so tg ofs nw gr i) n)) ++ wr) := gD_same hD rfl
                  refine lv_iload_n hx hb dX1_settle_150 rfl (lv_at hl 0 rfl) ?_
                  refine lv_aload_n hx hb dX1_settle_151 rfl (lv_at hl 2 rfl) ?_
                  refine va_get (D := D) (ci := 1) (v := .int (nI (n))) (C := RX1) (T := TX1) (N := 11) hx hb hts hin hown hK hP 0 rfl rfl 7 (by decide) hf39 (fun _ h9 => h9) rfl dX1_settle_152 ?_
                  refine gi_icmp_ge (tgt := 183) hx hb (by omega) (by omega) dX1_settle_155 rfl (fun h9 => absurd h9 (by omega)) (fun h155 => ?_)
                  refine lv_aload_n hx hb dX1_settle_158 rfl (lv_at hl 2 rfl) ?_
                  refine va_get (D := D) (ci := 1) (v := .ref (q 8)) (C := RX1) (T := TX1) (N := 11) hx hb hts hin hown hK hP 0 rfl rfl 10 (by decide) hf31 (fun _ h9 => h9) rfl dX1_settle_159 ?_
                  refine lv_iload_n hx hb dX1_settle_162 rfl (lv_at hl 0 rfl) ?_
                  refine gi_zaldI hx hb hK hP 8 1 (gf_gr (gf_fit fc sz bt so tg ofs (gf_now n fc sz bt so tg ofs nw i)) (gf_grr n fc sz bt so tg ofs nw gr i) n) rfl rfl (by omega) (by decide) dX1_settle_163 ?_
                  refine gi_top (y := (bI (!(gf_fit fc sz bt so tg ofs (gf_now n fc sz bt so tg ofs nw i) j)))) (gf_gr_at (gf_fit fc sz bt so tg ofs (gf_now n fc sz bt so tg ofs nw i)) (gf_grr n fc sz bt so tg ofs nw gr i) hj) ?_
                  refine gi_if_eqb (tgt := 177) hx hb dX1_settle_164 rfl (fun h164 => ?_) (fun h164 => ?_)
                  · refine lv_iinc (k := 0) (lv' := [(3, .int (nI (j + 1))), (1, .int (nI (i))), (0, .ref (q 0))]) hx hb dX1_settle_177 hl rfl (gi_inc _) (by decide) rfl (fun ls hl => ?_)
                    refine lv_goto (tgt := 150) hx hb dX1_settle_180 rfl ?_
                    rw [gf_st_k fc sz bt so tg ofs (gf_now n fc sz bt so tg ofs nw i) j (not_ff h164)] at hP
                    exact ihj (j + 1) (by omega) H locs ls hP hS (lv_sub hl [0, 1, 2] rfl)
                  · refine lv_aload_n hx hb dX1_settle_167 rfl (lv_at hl 2 rfl) ?_
                    refine va_get (D := D) (ci := 1) (v := .ref (q 7)) (C := RX1) (T := TX1) (N := 11) hx hb hts hin hown hK hP 0 rfl rfl 6 (by decide) hf28 (fun _ h9 => h9) rfl dX1_settle_168 ?_
                    refine lv_iload_n hx hb dX1_settle_171 rfl (lv_at hl 0 rfl) ?_
                    refine lv_dup2_11 hx hb dX1_settle_172 rfl rfl ?_
                    refine gi_ald hx hb hK hP 7 0 (gf_st j fc sz bt so tg ofs (gf_now n fc sz bt so tg ofs nw i)) rfl rfl (by omega) (by decide) dX1_settle_173 ?_
                    refine gi_top (y := (nI ((gf_now n fc sz bt so tg ofs nw i) j))) (congrArg nI (gf_st_at fc sz bt so tg ofs (gf_now n fc sz bt so tg ofs nw i) j)) ?_
                    refine lv_iconst (v := nI (1)) hx hb dX1_settle_174 (by decide) ?_
                    refine gi_iadd hx hb ((gf_now n fc sz bt so tg ofs nw i) j + 1) rfl dX1_settle_175 ?_
                    refine gi_ast hx hb hK hP hD hS 7 0 (gf_st j fc sz bt so tg ofs (gf_now n fc sz bt so tg ofs nw i)) rfl rfl (by omega) (by decide) dX1_settle_176 (fun H locs hP hD hS => ?_)
                    have hP : va_P D vwCl ((mw q cA cB n 0 true sz bt so fc ofs tg (gU (gf_st j fc sz bt so tg ofs (gf_now n fc sz bt so tg ofs nw i)) j ((gf_now n fc sz bt so tg ofs nw i) j + 1)) (gf_gr (gf_fit fc sz bt so tg ofs (gf_now n fc sz bt so tg ofs nw i)) (gf_grr n fc sz bt so tg ofs nw gr i) n)) ++ wr) H := hP
                    have hD : va_D A ((mw q cA cB n 0 true sz bt so fc ofs tg (gU (gf_st j fc sz bt so tg ofs (gf_now n fc sz bt so tg ofs nw i)) j ((gf_now n fc sz bt so tg ofs nw i) j + 1)) (gf_gr (gf_fit fc sz bt so tg ofs (gf_now n fc sz bt so tg ofs nw i)) (gf_grr n fc sz bt so tg ofs nw gr i) n)) ++ wr) := hD
                    refine lv_iinc (k := 0) (lv' := [(3, .int (nI (j + 1))), (1, .int (nI (i))), (0, .ref (q 0))]) hx hb dX1_settle_177 hl rfl (gi_inc _) (by decide) rfl (fun ls hl => ?_)
                    refine lv_goto (tgt := 150) hx hb dX1_settle_180 rfl ?_
                    rw [gf_st_s fc sz bt so tg ofs (gf_now n fc sz bt so tg ofs nw i) j (not_tt h164)] at hP
                    exact ihj (j + 1) (by omega) H locs ls hP hS (lv_sub hl [0, 1, 2] rfl)
              have hP : va_P D vwCl ((mw q cA cB n 0 true sz bt so fc ofs tg (gf_st 0 fc sz bt so tg ofs (gf_now n fc sz bt so tg ofs nw i)) (gf_gr (gf_fit fc sz bt so tg ofs (gf_now n fc sz bt so tg ofs nw i)) (gf_grr n fc sz bt so tg ofs nw gr i) n)) ++ wr) H := by rw [gf_st_0]; exact hP
              exact loop n 0 (by omega) _ _ _ hP hS (lv_sub hl [0, 2, 3] rfl)
            | succ k ihj =>
              intro j hik H locs ls hP hS hl
              have hj : j < n := by omega
              have hD : va_D A ((mw q cA cB n (gf_tj (gf_fit fc sz bt so tg ofs (gf_now n fc sz bt so tg ofs nw i)) fc (gf_now n fc sz bt so tg ofs nw i) j) true sz bt so fc ofs tg (gf_now n fc sz bt so tg ofs nw i) (gf_gr (gf_fit fc sz bt so tg ofs (gf_now n fc sz bt so tg ofs nw i)) (gf_grr n fc sz bt so tg ofs nw gr i) j)) ++ wr) := gD_same hD rfl
              refine lv_iload_n hx hb dX1_settle_60 rfl (lv_at hl 0 rfl) ?_
              refine lv_aload_n hx hb dX1_settle_61 rfl (lv_at hl 3 rfl) ?_
              refine va_get (D := D) (ci := 1) (v := .int (nI (n))) (C := RX1) (T := TX1) (N := 11) hx hb hts hin hown hK hP 0 rfl rfl 7 (by decide) hf39 (fun _ h9 => h9) rfl dX1_settle_62 ?_
              refine gi_icmp_ge (tgt := 133) hx hb (by omega) (by omega) dX1_settle_65 rfl (fun h9 => absurd h9 (by omega)) (fun h65 => ?_)
              have hn3 := gf_nk_le hw hk9 hj
              have hfb := (hw.2 j hj).1
              refine lv_aload_n hx hb dX1_settle_68 rfl (lv_at hl 3 rfl) ?_
              refine va_get (D := D) (ci := 1) (v := .ref (q 8)) (C := RX1) (T := TX1) (N := 11) hx hb hts hin hown hK hP 0 rfl rfl 10 (by decide) hf31 (fun _ h9 => h9) rfl dX1_settle_69 ?_
              refine lv_iload_n hx hb dX1_settle_72 rfl (lv_at hl 0 rfl) ?_
              refine lv_aload_n hx hb dX1_settle_73 rfl (lv_at hl 3 rfl) ?_
              refine lv_iload_n hx hb dX1_settle_74 rfl (lv_at hl 0 rfl) ?_
              refine gi_goV (va_runV (As := [.int (nI (j))]) (rest := [.int (nI (j)), .ref (q 8)]) ⟨hx, hb, hml, hown, hts⟩ (c_X1_isFitting l D cA cB cL A wr q n (gf_tj (gf_fit fc sz bt so tg ofs (gf_now n fc sz bt so tg ofs nw i)) fc (gf_now n fc sz bt so tg ofs nw i) j) true sz bt so fc ofs tg (gf_now n fc sz bt so tg ofs nw i) (gf_gr (gf_fit fc sz bt so tg ofs (gf_now n fc sz bt so tg ofs nw i)) (gf_grr n fc sz bt so tg ofs nw gr i) j) j hw hk9 hj) (cwV 1 hts gX1_settle_X1_isFitting rfl rfl rfl (by decide +kernel) ⟨Nat.le_of_ble_eq_true rfl, Nat.le_of_ble_eq_true rfl⟩) (gi_preV (q0 := 0) hK hP hD rfl rfl rfl) rfl rfl hl.1 rfl (lv_room (Nat.le_of_ble_eq_true rfl)) dX1_settle_75 ⟨Nat.le_of_ble_eq_true rfl, Nat.le_of_ble_eq_true rfl⟩) hS (fun H locs hP hS => ?_)
              refine gi_if_neb (tgt := 85) hx hb dX1_settle_78 rfl (fun h78 => ?_) (fun h78 => ?_)
              · refine lv_iconst (v := nI (0)) hx hb dX1_settle_85 (by decide) ?_
                refine gi_top (y := (bI (!(gf_fit fc sz bt so tg ofs (gf_now n fc sz bt so tg ofs nw i) j)))) (bR_f (not_f h78)) ?_
                refine gi_zastI hx hb hK hP hD hS 8 1 (gf_gr (gf_fit fc sz bt so tg ofs (gf_now n fc sz bt so tg ofs nw i)) (gf_grr n fc sz bt so tg ofs nw gr i) j) rfl rfl (by omega) (by decide) dX1_settle_86 (fun H locs hP hD hS => ?_)
                have hP : va_P D vwCl ((mw q cA cB n (gf_tj (gf_fit fc sz bt so tg ofs (gf_now n fc sz bt so tg ofs nw i)) fc (gf_now n fc sz bt so tg ofs nw i) j) true sz bt so fc ofs tg (gf_now n fc sz bt so tg ofs nw i) (upd (gf_gr (gf_fit fc sz bt so tg ofs (gf_now n fc sz bt so tg ofs nw i)) (gf_grr n fc sz bt so tg ofs nw gr i) j) j ((bI (!(gf_fit fc sz bt so tg ofs (gf_now n fc sz bt so tg ofs nw i) j)))))) ++ wr) H := hP
                have hD : va_D A ((mw q cA cB n (gf_tj (gf_fit fc sz bt so tg ofs (gf_now n fc sz bt so tg ofs nw i)) fc (gf_now n fc sz bt so tg ofs nw i) j) true sz bt so fc ofs tg (gf_now n fc sz bt so tg ofs nw i) (upd (gf_gr (gf_fit fc sz bt so tg ofs (gf_now n fc sz bt so tg ofs nw i)) (gf_grr n fc sz bt so tg ofs nw gr i) j) j ((bI (!(gf_fit fc sz bt so tg ofs (gf_now n fc sz bt so tg ofs nw i) j)))))) ++ wr) := hD
                rw [gf_gr_s (gf_fit fc sz bt so tg ofs (gf_now n fc sz bt so tg ofs nw i)) (gf_grr n fc sz bt so tg ofs nw gr i) j] at hP hD
                refine lv_iload_n hx hb dX1_settle_87 rfl (lv_at hl 1 rfl) ?_
                refine lv_aload_n hx hb dX1_settle_88 rfl (lv_at hl 3 rfl) ?_
                refine va_get (D := D) (ci := 1) (v := .ref (q 8)) (C := RX1) (T := TX1) (N := 11) hx hb hts hin hown hK hP 0 rfl rfl 10 (by decide) hf31 (fun _ h9 => h9) rfl dX1_settle_89 ?_
                refine lv_iload_n hx hb dX1_settle_92 rfl (lv_at hl 0 rfl) ?_
                refine gi_zaldI hx hb hK hP 8 1 (gf_gr (gf_fit fc sz bt so tg ofs (gf_now n fc sz bt so tg ofs nw i)) (gf_grr n fc sz bt so tg ofs nw gr i) (j + 1)) rfl rfl (by omega) (by decide) dX1_settle_93 ?_
                refine gi_top (y := (bI (!(gf_fit fc sz bt so tg ofs (gf_now n fc sz bt so tg ofs nw i) j)))) (gf_gr_at (gf_fit fc sz bt so tg ofs (gf_now n fc sz bt so tg ofs nw i)) (gf_grr n fc sz bt so tg ofs nw gr i) (by omega)) ?_
                refine gi_iorb hx hb dX1_settle_94 ?_
                refine lv_istore_n (lv' := [(2, .int (bI (gf_so (gf_fit fc sz bt so tg ofs (gf_now n fc sz bt so tg ofs nw i)) (j + 1)))), (3, .int (nI (j))), (1, .int (nI (i))), (0, .ref (q 0))]) hx hb dX1_settle_95 rfl hl (by decide) rfl (fun ls hl => ?_)
                refine lv_aload_n hx hb dX1_settle_96 rfl (lv_at hl 3 rfl) ?_
                refine va_get (D := D) (ci := 1) (v := .ref (q 8)) (C := RX1) (T := TX1) (N := 11) hx hb hts hin hown hK hP 0 rfl rfl 10 (by decide) hf31 (fun _ h9 => h9) rfl dX1_settle_97 ?_
                refine lv_iload_n hx hb dX1_settle_100 rfl (lv_at hl 1 rfl) ?_
                refine gi_zaldI hx hb hK hP 8 1 (gf_gr (gf_fit fc sz bt so tg ofs (gf_now n fc sz bt so tg ofs nw i)) (gf_grr n fc sz bt so tg ofs nw gr i) (j + 1)) rfl rfl (by omega) (by decide) dX1_settle_101 ?_
                refine gi_top (y := (bI (!(gf_fit fc sz bt so tg ofs (gf_now n fc sz bt so tg ofs nw i) j)))) (gf_gr_at (gf_fit fc sz bt so tg ofs (gf_now n fc sz bt so tg ofs nw i)) (gf_grr n fc sz bt so tg ofs nw gr i) (by omega)) ?_
                refine gi_if_eqb (tgt := 127) hx hb dX1_settle_102 rfl (fun h102 => ?_) (fun h102 => ?_)
                · refine lv_iinc (k := 1) (lv' := [(3, .int (nI (j + 1))), (2, .int (bI (gf_so (gf_fit fc sz bt so tg ofs (gf_now n fc sz bt so tg ofs nw i)) (j + 1)))), (1, .int (nI (i))), (0, .ref (q 0))]) hx hb dX1_settle_127 hl rfl (gi_inc _) (by decide) rfl (fun ls hl => ?_)
                  refine lv_goto (tgt := 60) hx hb dX1_settle_130 rfl ?_
                  have hP : va_P D vwCl ((mw q cA cB n (gf_tj (gf_fit fc sz bt so tg ofs (gf_now n fc sz bt so tg ofs nw i)) fc (gf_now n fc sz bt so tg ofs nw i) (j + 1)) true sz bt so fc ofs tg (gf_now n fc sz bt so tg ofs nw i) (gf_gr (gf_fit fc sz bt so tg ofs (gf_now n fc sz bt so tg ofs nw i)) (gf_grr n fc sz bt so tg ofs nw gr i) (j + 1))) ++ wr) H := by rw [show gf_tj (gf_fit fc sz bt so tg ofs (gf_now n fc sz bt so tg ofs nw i)) fc (gf_now n fc sz bt so tg ofs nw i) (j + 1) = gf_tj (gf_fit fc sz bt so tg ofs (gf_now n fc sz bt so tg ofs nw i)) fc (gf_now n fc sz bt so tg ofs nw i) j from if_neg (fun z9 => gf_ne_tf z9.1 (not_ff h102))]; exact hP
                  exact ihj (j + 1) (by omega) H locs ls hP hS (lv_sub hl [0, 1, 2, 3] rfl)
                · have hpf := not_tt h102
                  have hne := gf_unfit_fc hpf
                  refine lv_aload_n hx hb dX1_settle_105 rfl (lv_at hl 3 rfl) ?_
                  refine va_get (D := D) (ci := 1) (v := .ref (q 7)) (C := RX1) (T := TX1) (N := 11) hx hb hts hin hown hK hP 0 rfl rfl 6 (by decide) hf28 (fun _ h9 => h9) rfl dX1_settle_106 ?_
                  refine lv_iload_n hx hb dX1_settle_109 rfl (lv_at hl 1 rfl) ?_
                  refine gi_ald hx hb hK hP 7 0 (gf_now n fc sz bt so tg ofs nw i) rfl rfl (by omega) (by decide) dX1_settle_110 ?_
                  refine lv_aload_n hx hb dX1_settle_111 rfl (lv_at hl 3 rfl) ?_
                  refine va_get (D := D) (ci := 1) (v := .ref (q 1)) (C := RX1) (T := TX1) (N := 11) hx hb hts hin hown hK hP 0 rfl rfl 0 (by decide) hf9 (fun _ h9 => h9) rfl dX1_settle_112 ?_
                  refine lv_iload_n hx hb dX1_settle_115 rfl (lv_at hl 1 rfl) ?_
                  refine gi_ald hx hb hK hP 1 0 fc rfl rfl (by omega) (by decide) dX1_settle_116 ?_
                  refine lv_iconst (v := nI (1)) hx hb dX1_settle_117 (by decide) ?_
                  refine gi_isub hx hb (fc j - 1) (by omega) dX1_settle_118 ?_
                  refine gi_icmp_ne (tgt := 127) hx hb (by omega) (by omega) dX1_settle_119 rfl (fun h119 => ?_) (fun h119 => ?_)
                  · refine lv_iinc (k := 1) (lv' := [(3, .int (nI (j + 1))), (2, .int (bI (gf_so (gf_fit fc sz bt so tg ofs (gf_now n fc sz bt so tg ofs nw i)) (j + 1)))), (1, .int (nI (i))), (0, .ref (q 0))]) hx hb dX1_settle_127 hl rfl (gi_inc _) (by decide) rfl (fun ls hl => ?_)
                    refine lv_goto (tgt := 60) hx hb dX1_settle_130 rfl ?_
                    have hP : va_P D vwCl ((mw q cA cB n (gf_tj (gf_fit fc sz bt so tg ofs (gf_now n fc sz bt so tg ofs nw i)) fc (gf_now n fc sz bt so tg ofs nw i) (j + 1)) true sz bt so fc ofs tg (gf_now n fc sz bt so tg ofs nw i) (gf_gr (gf_fit fc sz bt so tg ofs (gf_now n fc sz bt so tg ofs nw i)) (gf_grr n fc sz bt so tg ofs nw gr i) (j + 1))) ++ wr) H := by rw [show gf_tj (gf_fit fc sz bt so tg ofs (gf_now n fc sz bt so tg ofs nw i)) fc (gf_now n fc sz bt so tg ofs nw i) (j + 1) = gf_tj (gf_fit fc sz bt so tg ofs (gf_now n fc sz bt so tg ofs nw i)) fc (gf_now n fc sz bt so tg ofs nw i) j from if_neg (fun z9 => h119 z9.2)]; exact hP
                    exact ihj (j + 1) (by omega) H locs ls hP hS (lv_sub hl [0, 1, 2, 3] rfl)
                  · refine lv_aload_n hx hb dX1_settle_122 rfl (lv_at hl 3 rfl) ?_
                    refine lv_iconst (v := nI (2)) hx hb dX1_settle_123 (by decide) ?_
                    refine va_put (D := D) (ci := 1) (v := .int (nI (2))) (ty := .int) (C := RX1) (T := TX1) (N := 11) hx hb hts hin tyX1 tyX1_ok nmX1 hown hK hP hD hS 0 rfl rfl 8 (by decide) hf35 (fun _ h9 => h9) rfl (by decide +kernel) rfl rfl (Nat.le_of_ble_eq_true rfl) dX1_settle_124 (fun H locs hP hD hS => ?_)
                    have hP : va_P D vwCl ((mw q cA cB n 2 true sz bt so fc ofs tg (gf_now n fc sz bt so tg ofs nw i) (gf_gr (gf_fit fc sz bt so tg ofs (gf_now n fc sz bt so tg ofs nw i)) (gf_grr n fc sz bt so tg ofs nw gr i) (j + 1))) ++ wr) H := hP
                    have hD : va_D A ((mw q cA cB n 2 true sz bt so fc ofs tg (gf_now n fc sz bt so tg ofs nw i) (gf_gr (gf_fit fc sz bt so tg ofs (gf_now n fc sz bt so tg ofs nw i)) (gf_grr n fc sz bt so tg ofs nw gr i) (j + 1))) ++ wr) := hD
                    refine lv_iinc (k := 1) (lv' := [(3, .int (nI (j + 1))), (2, .int (bI (gf_so (gf_fit fc sz bt so tg ofs (gf_now n fc sz bt so tg ofs nw i)) (j + 1)))), (1, .int (nI (i))), (0, .ref (q 0))]) hx hb dX1_settle_127 hl rfl (gi_inc _) (by decide) rfl (fun ls hl => ?_)
                    refine lv_goto (tgt := 60) hx hb dX1_settle_130 rfl ?_
                    have hP : va_P D vwCl ((mw q cA cB n (gf_tj (gf_fit fc sz bt so tg ofs (gf_now n fc sz bt so tg ofs nw i)) fc (gf_now n fc sz bt so tg ofs nw i) (j + 1)) true sz bt so fc ofs tg (gf_now n fc sz bt so tg ofs nw i) (gf_gr (gf_fit fc sz bt so tg ofs (gf_now n fc sz bt so tg ofs nw i)) (gf_grr n fc sz bt so tg ofs nw gr i) (j + 1))) ++ wr) H := by rw [show gf_tj (gf_fit fc sz bt so tg ofs (gf_now n fc sz bt so tg ofs nw i)) fc (gf_now n fc sz bt so tg ofs nw i) (j + 1) = 2 from if_pos ⟨hpf, h119⟩]; exact hP
                    exact ihj (j + 1) (by omega) H locs ls hP hS (lv_sub hl [0, 1, 2, 3] rfl)
              · refine lv_iconst (v := nI (1)) hx hb dX1_settle_81 (by decide) ?_
                refine gi_top (y := (bI (!(gf_fit fc sz bt so tg ofs (gf_now n fc sz bt so tg ofs nw i) j)))) (bR_t (not_t h78)) ?_
                refine lv_goto (tgt := 86) hx hb dX1_settle_82 rfl ?_
                refine gi_zastI hx hb hK hP hD hS 8 1 (gf_gr (gf_fit fc sz bt so tg ofs (gf_now n fc sz bt so tg ofs nw i)) (gf_grr n fc sz bt so tg ofs nw gr i) j) rfl rfl (by omega) (by decide) dX1_settle_86 (fun H locs hP hD hS => ?_)
                have hP : va_P D vwCl ((mw q cA cB n (gf_tj (gf_fit fc sz bt so tg ofs (gf_now n fc sz bt so tg ofs nw i)) fc (gf_now n fc sz bt so tg ofs nw i) j) true sz bt so fc ofs tg (gf_now n fc sz bt so tg ofs nw i) (upd (gf_gr (gf_fit fc sz bt so tg ofs (gf_now n fc sz bt so tg ofs nw i)) (gf_grr n fc sz bt so tg ofs nw gr i) j) j ((bI (!(gf_fit fc sz bt so tg ofs (gf_now n fc sz bt so tg ofs nw i) j)))))) ++ wr) H := hP
                have hD : va_D A ((mw q cA cB n (gf_tj (gf_fit fc sz bt so tg ofs (gf_now n fc sz bt so tg ofs nw i)) fc (gf_now n fc sz bt so tg ofs nw i) j) true sz bt so fc ofs tg (gf_now n fc sz bt so tg ofs nw i) (upd (gf_gr (gf_fit fc sz bt so tg ofs (gf_now n fc sz bt so tg ofs nw i)) (gf_grr n fc sz bt so tg ofs nw gr i) j) j ((bI (!(gf_fit fc sz bt so tg ofs (gf_now n fc sz bt so tg ofs nw i) j)))))) ++ wr) := hD
                rw [gf_gr_s (gf_fit fc sz bt so tg ofs (gf_now n fc sz bt so tg ofs nw i)) (gf_grr n fc sz bt so tg ofs nw gr i) j] at hP hD
                refine lv_iload_n hx hb dX1_settle_87 rfl (lv_at hl 1 rfl) ?_
                refine lv_aload_n hx hb dX1_settle_88 rfl (lv_at hl 3 rfl) ?_
                refine va_get (D := D) (ci := 1) (v := .ref (q 8)) (C := RX1) (T := TX1) (N := 11) hx hb hts hin hown hK hP 0 rfl rfl 10 (by decide) hf31 (fun _ h9 => h9) rfl dX1_settle_89 ?_
                refine lv_iload_n hx hb dX1_settle_92 rfl (lv_at hl 0 rfl) ?_
                refine gi_zaldI hx hb hK hP 8 1 (gf_gr (gf_fit fc sz bt so tg ofs (gf_now n fc sz bt so tg ofs nw i)) (gf_grr n fc sz bt so tg ofs nw gr i) (j + 1)) rfl rfl (by omega) (by decide) dX1_settle_93 ?_
                refine gi_top (y := (bI (!(gf_fit fc sz bt so tg ofs (gf_now n fc sz bt so tg ofs nw i) j)))) (gf_gr_at (gf_fit fc sz bt so tg ofs (gf_now n fc sz bt so tg ofs nw i)) (gf_grr n fc sz bt so tg ofs nw gr i) (by omega)) ?_
                refine gi_iorb hx hb dX1_settle_94 ?_
                refine lv_istore_n (lv' := [(2, .int (bI (gf_so (gf_fit fc sz bt so tg ofs (gf_now n fc sz bt so tg ofs nw i)) (j + 1)))), (3, .int (nI (j))), (1, .int (nI (i))), (0, .ref (q 0))]) hx hb dX1_settle_95 rfl hl (by decide) rfl (fun ls hl => ?_)
                refine lv_aload_n hx hb dX1_settle_96 rfl (lv_at hl 3 rfl) ?_
                refine va_get (D := D) (ci := 1) (v := .ref (q 8)) (C := RX1) (T := TX1) (N := 11) hx hb hts hin hown hK hP 0 rfl rfl 10 (by decide) hf31 (fun _ h9 => h9) rfl dX1_settle_97 ?_
                refine lv_iload_n hx hb dX1_settle_100 rfl (lv_at hl 1 rfl) ?_
                refine gi_zaldI hx hb hK hP 8 1 (gf_gr (gf_fit fc sz bt so tg ofs (gf_now n fc sz bt so tg ofs nw i)) (gf_grr n fc sz bt so tg ofs nw gr i) (j + 1)) rfl rfl (by omega) (by decide) dX1_settle_101 ?_
                refine gi_top (y := (bI (!(gf_fit fc sz bt so tg ofs (gf_now n fc sz bt so tg ofs nw i) j)))) (gf_gr_at (gf_fit fc sz bt so tg ofs (gf_now n fc sz bt so tg ofs nw i)) (gf_grr n fc sz bt so tg ofs nw gr i) (by omega)) ?_
                refine gi_if_eqb (tgt := 127) hx hb dX1_settle_102 rfl (fun h102 => ?_) (fun h102 => ?_)
                · refine lv_iinc (k := 1) (lv' := [(3, .int (nI (j + 1))), (2, .int (bI (gf_so (gf_fit fc sz bt so tg ofs (gf_now n fc sz bt so tg ofs nw i)) (j + 1)))), (1, .int (nI (i))), (0, .ref (q 0))]) hx hb dX1_settle_127 hl rfl (gi_inc _) (by decide) rfl (fun ls hl => ?_)
                  refine lv_goto (tgt := 60) hx hb dX1_settle_130 rfl ?_
                  have hP : va_P D vwCl ((mw q cA cB n (gf_tj (gf_fit fc sz bt so tg ofs (gf_now n fc sz bt so tg ofs nw i)) fc (gf_now n fc sz bt so tg ofs nw i) (j + 1)) true sz bt so fc ofs tg (gf_now n fc sz bt so tg ofs nw i) (gf_gr (gf_fit fc sz bt so tg ofs (gf_now n fc sz bt so tg ofs nw i)) (gf_grr n fc sz bt so tg ofs nw gr i) (j + 1))) ++ wr) H := by rw [show gf_tj (gf_fit fc sz bt so tg ofs (gf_now n fc sz bt so tg ofs nw i)) fc (gf_now n fc sz bt so tg ofs nw i) (j + 1) = gf_tj (gf_fit fc sz bt so tg ofs (gf_now n fc sz bt so tg ofs nw i)) fc (gf_now n fc sz bt so tg ofs nw i) j from if_neg (fun z9 => gf_ne_tf z9.1 (not_ff h102))]; exact hP
                  exact ihj (j + 1) (by omega) H locs ls hP hS (lv_sub hl [0, 1, 2, 3] rfl)
                · have hpf := not_tt h102
                  have hne := gf_unfit_fc hpf
                  refine lv_aload_n hx hb dX1_settle_105 rfl (lv_at hl 3 rfl) ?_
                  refine va_get (D := D) (ci := 1) (v := .ref (q 7)) (C := RX1) (T := TX1) (N := 11) hx hb hts hin hown hK hP 0 rfl rfl 6 (by decide) hf28 (fun _ h9 => h9) rfl dX1_settle_106 ?_
                  refine lv_iload_n hx hb dX1_settle_109 rfl (lv_at hl 1 rfl) ?_
                  refine gi_ald hx hb hK hP 7 0 (gf_now n fc sz bt so tg ofs nw i) rfl rfl (by omega) (by decide) dX1_settle_110 ?_
                  refine lv_aload_n hx hb dX1_settle_111 rfl (lv_at hl 3 rfl) ?_
                  refine va_get (D := D) (ci := 1) (v := .ref (q 1)) (C := RX1) (T := TX1) (N := 11) hx hb hts hin hown hK hP 0 rfl rfl 0 (by decide) hf9 (fun _ h9 => h9) rfl dX1_settle_112 ?_
                  refine lv_iload_n hx hb dX1_settle_115 rfl (lv_at hl 1 rfl) ?_
                  refine gi_ald hx hb hK hP 1 0 fc rfl rfl (by omega) (by decide) dX1_settle_116 ?_
                  refine lv_iconst (v := nI (1)) hx hb dX1_settle_117 (by decide) ?_
                  refine gi_isub hx hb (fc j - 1) (by omega) dX1_settle_118 ?_
                  refine gi_icmp_ne (tgt := 127) hx hb (by omega) (by omega) dX1_settle_119 rfl (fun h119 => ?_) (fun h119 => ?_)
                  · refine lv_iinc (k := 1) (lv' := [(3, .int (nI (j + 1))), (2, .int (bI (gf_so (gf_fit fc sz bt so tg ofs (gf_now n fc sz bt so tg ofs nw i)) (j + 1)))), (1, .int (nI (i))), (0, .ref (q 0))]) hx hb dX1_settle_127 hl rfl (gi_inc _) (by decide) rfl (fun ls hl => ?_)
                    refine lv_goto (tgt := 60) hx hb dX1_settle_130 rfl ?_
                    have hP : va_P D vwCl ((mw q cA cB n (gf_tj (gf_fit fc sz bt so tg ofs (gf_now n fc sz bt so tg ofs nw i)) fc (gf_now n fc sz bt so tg ofs nw i) (j + 1)) true sz bt so fc ofs tg (gf_now n fc sz bt so tg ofs nw i) (gf_gr (gf_fit fc sz bt so tg ofs (gf_now n fc sz bt so tg ofs nw i)) (gf_grr n fc sz bt so tg ofs nw gr i) (j + 1))) ++ wr) H := by rw [show gf_tj (gf_fit fc sz bt so tg ofs (gf_now n fc sz bt so tg ofs nw i)) fc (gf_now n fc sz bt so tg ofs nw i) (j + 1) = gf_tj (gf_fit fc sz bt so tg ofs (gf_now n fc sz bt so tg ofs nw i)) fc (gf_now n fc sz bt so tg ofs nw i) j from if_neg (fun z9 => h119 z9.2)]; exact hP
                    exact ihj (j + 1) (by omega) H locs ls hP hS (lv_sub hl [0, 1, 2, 3] rfl)
                  · refine lv_aload_n hx hb dX1_settle_122 rfl (lv_at hl 3 rfl) ?_
                    refine lv_iconst (v := nI (2)) hx hb dX1_settle_123 (by decide) ?_
                    refine va_put (D := D) (ci := 1) (v := .int (nI (2))) (ty := .int) (C := RX1) (T := TX1) (N := 11) hx hb hts hin tyX1 tyX1_ok nmX1 hown hK hP hD hS 0 rfl rfl 8 (by decide) hf35 (fun _ h9 => h9) rfl (by decide +kernel) rfl rfl (Nat.le_of_ble_eq_true rfl) dX1_settle_124 (fun H locs hP hD hS => ?_)
                    have hP : va_P D vwCl ((mw q cA cB n 2 true sz bt so fc ofs tg (gf_now n fc sz bt so tg ofs nw i) (gf_gr (gf_fit fc sz bt so tg ofs (gf_now n fc sz bt so tg ofs nw i)) (gf_grr n fc sz bt so tg ofs nw gr i) (j + 1))) ++ wr) H := hP
                    have hD : va_D A ((mw q cA cB n 2 true sz bt so fc ofs tg (gf_now n fc sz bt so tg ofs nw i) (gf_gr (gf_fit fc sz bt so tg ofs (gf_now n fc sz bt so tg ofs nw i)) (gf_grr n fc sz bt so tg ofs nw gr i) (j + 1))) ++ wr) := hD
                    refine lv_iinc (k := 1) (lv' := [(3, .int (nI (j + 1))), (2, .int (bI (gf_so (gf_fit fc sz bt so tg ofs (gf_now n fc sz bt so tg ofs nw i)) (j + 1)))), (1, .int (nI (i))), (0, .ref (q 0))]) hx hb dX1_settle_127 hl rfl (gi_inc _) (by decide) rfl (fun ls hl => ?_)
                    refine lv_goto (tgt := 60) hx hb dX1_settle_130 rfl ?_
                    have hP : va_P D vwCl ((mw q cA cB n (gf_tj (gf_fit fc sz bt so tg ofs (gf_now n fc sz bt so tg ofs nw i)) fc (gf_now n fc sz bt so tg ofs nw i) (j + 1)) true sz bt so fc ofs tg (gf_now n fc sz bt so tg ofs nw i) (gf_gr (gf_fit fc sz bt so tg ofs (gf_now n fc sz bt so tg ofs nw i)) (gf_grr n fc sz bt so tg ofs nw gr i) (j + 1))) ++ wr) H := by rw [show gf_tj (gf_fit fc sz bt so tg ofs (gf_now n fc sz bt so tg ofs nw i)) fc (gf_now n fc sz bt so tg ofs nw i) (j + 1) = 2 from if_pos ⟨hpf, h119⟩]; exact hP
                    exact ihj (j + 1) (by omega) H locs ls hP hS (lv_sub hl [0, 1, 2, 3] rfl)
          rw [← gf_gr_0 (gf_fit fc sz bt so tg ofs (gf_now n fc sz bt so tg ofs nw i)) (gf_grr n fc sz bt so tg ofs nw gr i)] at hP
          exact loop n 0 (by omega) _ _ _ hP hS (lv_sub hl [0, 1, 2, 3] rfl)
      exact loop r 0 (by omega) _ _ _ hP hS (lv_sub hl [0, 1] rfl)
    | succ k ih =>
      intro i hik H locs ls hP hS hl
      have hi : i < n := by omega
      have hD : va_D A ((mw q cA cB n 0 true sz bt so fc ofs tg (gf_now i fc sz bt so tg ofs nw 0) gr) ++ wr) := gD_same hD rfl
      refine lv_iload_n hx hb dX1_settle_12 rfl (lv_at hl 0 rfl) ?_
      refine lv_aload_n hx hb dX1_settle_13 rfl (lv_at hl 1 rfl) ?_
      refine va_get (D := D) (ci := 1) (v := .int (nI (n))) (C := RX1) (T := TX1) (N := 11) hx hb hts hin hown hK hP 0 rfl rfl 7 (by decide) hf39 (fun _ h9 => h9) rfl dX1_settle_14 ?_
      refine gi_icmp_ge (tgt := 33) hx hb (by omega) (by omega) dX1_settle_17 rfl (fun h9 => absurd h9 (by omega)) (fun h17 => ?_)
      refine lv_aload_n hx hb dX1_settle_20 rfl (lv_at hl 1 rfl) ?_
      refine va_get (D := D) (ci := 1) (v := .ref (q 7)) (C := RX1) (T := TX1) (N := 11) hx hb hts hin hown hK hP 0 rfl rfl 6 (by decide) hf28 (fun _ h9 => h9) rfl dX1_settle_21 ?_
      refine lv_iload_n hx hb dX1_settle_24 rfl (lv_at hl 0 rfl) ?_
      refine lv_iconst (v := nI (0)) hx hb dX1_settle_25 (by decide) ?_
      refine gi_ast hx hb hK hP hD hS 7 0 (gf_now i fc sz bt so tg ofs nw 0) rfl rfl (by omega) (by decide) dX1_settle_26 (fun H locs hP hD hS => ?_)
      have hP : va_P D vwCl ((mw q cA cB n 0 true sz bt so fc ofs tg (gU (gf_now i fc sz bt so tg ofs nw 0) i 0) gr) ++ wr) H := hP
      have hD : va_D A ((mw q cA cB n 0 true sz bt so fc ofs tg (gU (gf_now i fc sz bt so tg ofs nw 0) i 0) gr) ++ wr) := hD
      refine lv_iinc (k := 0) (lv' := [(1, .int (nI (i + 1))), (0, .ref (q 0))]) hx hb dX1_settle_27 hl rfl (gi_inc _) (by decide) rfl (fun ls hl => ?_)
      refine lv_goto (tgt := 12) hx hb dX1_settle_30 rfl ?_
      rw [gf_z_s fc sz bt so tg ofs nw i] at hP
      exact ih (i + 1) (by omega) H locs ls hP hS (lv_sub hl [0, 1] rfl)
  rw [← gf_z_0 fc sz bt so tg ofs nw] at hP
  exact loop n 0 (by omega) _ _ _ hP hS (lv_sub hl [0, 1] rfl)
set_option maxHeartbeats 4000000 in
set_option maxRecDepth 100000 in
theorem ex2_X1_settle (l : Launch) (D : va_G) (cA cB cL : ClassId) (A : Nat → Prop) (wr : va_W) (q : Nat → Nat) (n th : Nat) (st : Bool) (sz bt so fc : Nat → Nat) (ofs : Nat → Int32) (tg nw : Nat → Nat) (gr : Nat → Int32) (r : Nat) (hw : gf_wf n fc sz bt so tg) (hr : r ≤ 360) (hgo : ∀ q9, q9 < r → gf_go n fc sz bt so tg ofs (gf_now n fc sz bt so tg ofs nw q9)) (hend : gf_ad fc sz (gf_now n fc sz bt so tg ofs nw r) n ≤ 4096) (hlast : gf_last n fc sz bt so tg ofs (gf_now n fc sz bt so tg ofs nw r)) : Met l yX1_settle wsX1_settle ({ frames := 3, cells := 0, slots := 0, locals := 72 }) (gPre D vwCl [(cA, .int), (cB, .boolean), (cL, .long)] ((mw q cA cB n th st sz bt so fc ofs tg nw gr) ++ wr) A [.ref (q 0)]) (gPost (some (.int (nI (0)))) D vwCl ((mw q cA cB n 2 true sz bt so fc ofs tg (gf_now n fc sz bt so tg ofs nw r) (gf_grr n fc sz bt so tg ofs nw gr (r + 1))) ++ wr) A) 0 0 A := by
  refine Met.ofW (cc := cX1_settle) (maxL := 4) (ret := (some .int)) (by decide) rfl ?_
  intro p e s m args below meth c s₁ B hml hv
  obtain ⟨rfl, hP, hK, hD⟩ := hv
  have hx := B.exec
  have hb := B.bytes
  have hr := B.returns
  have hlk := B.notSynchronized
  have hts := atoms_spec (ws := wsX1_settle) B.pre
  have hown : s.vm.findClass RX1 = some m.cls := findClass_of_methodNamed B.named
  have hS : va_S A s.heap s.heap [] := va_S.rf
  have hl := lv_entry ([.ref (q 0)]) (n := 4) (Nat.le_of_ble_eq_true rfl)
  rw [lg_entry_eq]
  generalize (lg_sl ([.ref (q 0)]) ++ List.replicate (4 - (lg_sl ([.ref (q 0)])).length) Slot.unset).toArray = ls at hl ⊢
  have hl : lv_has ls 4 [(0, .ref (q 0))] := hl
  have hin : ∀ w ∈ u_ws RX1 TX1 11, w ∈ wsX1_settle := fun w h => List.mem_cons_of_mem _ (inTX1 w h)
  have hf9 := hts _ (List.mem_cons_of_mem _ tfX1_9)
  have hf28 := hts _ (List.mem_cons_of_mem _ tfX1_28)
  have hf31 := hts _ (List.mem_cons_of_mem _ tfX1_31)
  have hf35 := hts _ (List.mem_cons_of_mem _ tfX1_35)
  have hf39 := hts _ (List.mem_cons_of_mem _ tfX1_39)
  have hf42 := hts _ (List.mem_cons_of_mem _ tfX1_42)
  have hn := hw.1
  refine lv_aload_n hx hb dX1_settle_0 rfl (lv_at hl 0 rfl) ?_
  refine lv_iconst (v := nI (0)) hx hb dX1_settle_1 (by decide) ?_
  refine va_put (D := D) (ci := 1) (v := .int (nI (0))) (ty := .int) (C := RX1) (T := TX1) (N := 11) hx hb hts hin tyX1 tyX1_ok nmX1 hown hK hP hD hS 0 rfl rfl 8 (by decide) hf35 (fun _ h9 => h9) rfl (by decide +kernel) rfl rfl (Nat.le_of_ble_eq_true rfl) dX1_settle_2 (fun H locs hP hD hS => ?_)
  have hP : va_P D vwCl ((mw q cA cB n 0 st sz bt so fc ofs tg nw gr) ++ wr) H := hP
  have hD : va_D A ((mw q cA cB n 0 st sz bt so fc ofs tg nw gr) ++ wr) := hD
  refine lv_aload_n hx hb dX1_settle_5 rfl (lv_at hl 0 rfl) ?_
  refine lv_iconst (v := nI (1)) hx hb dX1_settle_6 (by decide) ?_
  refine va_put (D := D) (ci := 1) (v := .int (bI (true))) (ty := .boolean) (C := RX1) (T := TX1) (N := 11) hx hb hts hin tyX1 tyX1_ok nmX1 hown hK hP hD hS 0 rfl rfl 9 (by decide) hf42 (fun _ h9 => h9) rfl (by decide +kernel) (bI_nar _) (bI_fits _) (Nat.le_of_ble_eq_true rfl) dX1_settle_7 (fun H locs hP hD hS => ?_)
  have hP : va_P D vwCl ((mw q cA cB n 0 true sz bt so fc ofs tg nw gr) ++ wr) H := hP
  have hD : va_D A ((mw q cA cB n 0 true sz bt so fc ofs tg nw gr) ++ wr) := hD
  refine lv_iconst (v := nI (0)) hx hb dX1_settle_10 (by decide) ?_
  refine lv_istore_n (lv' := [(1, .int (nI (0))), (0, .ref (q 0))]) hx hb dX1_settle_11 rfl hl (by decide) rfl (fun ls hl => ?_)
  have loop : ∀ (k i : Nat), i + k = n → ∀ (H : Heap) (locs : List Loc) (ls : Array Slot), va_P D vwCl ((mw q cA cB n 0 true sz bt so fc ofs tg (gf_now i fc sz bt so tg ofs nw 0) gr) ++ wr) H → va_S A s.heap H locs → lv_has ls 4 [(1, .int (nI (i))), (0, .ref (q 0))] → W p l e (headSpec wsX1_settle ({ frames := 3, cells := 0, slots := 0, locals := 72 })).room s m ([.ref (q 0)] : List Value).toArray below meth c H locs 0 0 (MQ below (gPost (some (.int (nI (0)))) D vwCl ((mw q cA cB n 2 true sz bt so fc ofs tg (gf_now n fc sz bt so tg ofs nw r) (gf_grr n fc sz bt so tg ofs nw gr (r + 1))) ++ wr) A) ([.ref (q 0)] : List Value).toArray s 0 0 A) (F0 m 12 ls []) := by
    intro k
    induction k with
    | zero =>
      intro i hik H locs ls hP hS hl
      have h9 : n = i := by omega
      subst h9
      have hD : va_D A ((mw q cA cB n 0 true sz bt so fc ofs tg (gf_now n fc sz bt so tg ofs nw 0) gr) ++ wr) := gD_same hD rfl
      refine lv_iload_n hx hb dX1_settle_12 rfl (lv_at hl 0 rfl) ?_
      refine lv_aload_n hx hb dX1_settle_13 rfl (lv_at hl 1 rfl) ?_
      refine va_get (D := D) (ci := 1) (v := .int (nI (n))) (C := RX1) (T := TX1) (N := 11) hx hb hts hin hown hK hP 0 rfl rfl 7 (by decide) hf39 (fun _ h9 => h9) rfl dX1_settle_14 ?_
      refine gi_icmp_ge (tgt := 33) hx hb (by omega) (by omega) dX1_settle_17 rfl (fun h17 => ?_) (fun h9 => absurd h9 (by omega))
      refine lv_iconst (v := nI (0)) hx hb dX1_settle_33 (by decide) ?_
      refine lv_istore_n (lv' := [(1, .int (nI (0))), (0, .ref (q 0))]) hx hb dX1_settle_34 rfl hl (by decide) rfl (fun ls hl => ?_)
      have loop : ∀ (k i : Nat), i + k = r → ∀ (H : Heap) (locs : List Loc) (ls : Array Slot), va_P D vwCl ((mw q cA cB n 0 true sz bt so fc ofs tg (gf_now n fc sz bt so tg ofs nw i) (gf_grr n fc sz bt so tg ofs nw gr i)) ++ wr) H → va_S A s.heap H locs → lv_has ls 4 [(1, .int (nI (i))), (0, .ref (q 0))] → W p l e (headSpec wsX1_settle ({ frames := 3, cells := 0, slots := 0, locals := 72 })).room s m ([.ref (q 0)] : List Value).toArray below meth c H locs 0 0 (MQ below (gPost (some (.int (nI (0)))) D vwCl ((mw q cA cB n 2 true sz bt so fc ofs tg (gf_now n fc sz bt so tg ofs nw r) (gf_grr n fc sz bt so tg ofs nw gr (r + 1))) ++ wr) A) ([.ref (q 0)] : List Value).toArray s 0 0 A) (F0 m 35 ls []) := by
        intro k
        induction k with
        | zero =>
          intro i hik H locs ls hP hS hl
          have h9 : r = i := by omega
          subst h9
          have hD : va_D A ((mw q cA cB n 0 true sz bt so fc ofs tg (gf_now n fc sz bt so tg ofs nw r) (gf_grr n fc sz bt so tg ofs nw gr r)) ++ wr) := gD_same hD rfl
          have hk9 := (gf_run r (fun q9 h9 => hgo q9 (by omega))).1
          have ha9 := gf_ad_le hw hk9 n (Nat.le_refl n)
          have htj : gf_tj (gf_fit fc sz bt so tg ofs (gf_now n fc sz bt so tg ofs nw r)) fc (gf_now n fc sz bt so tg ofs nw r) n = 2 := ((gf_tj_iff hk9 n (Nat.le_refl n)).1).mpr hlast
          refine lv_iconst (v := bI (false)) hx hb dX1_settle_35 (by decide) ?_
          refine lv_istore_n (lv' := [(2, .int (bI (false))), (1, .int (nI (r))), (0, .ref (q 0))]) hx hb dX1_settle_36 rfl hl (by decide) rfl (fun ls hl => ?_)
          refine lv_aload_n hx hb dX1_settle_37 rfl (lv_at hl 2 rfl) ?_
          refine lv_aload_n hx hb dX1_settle_38 rfl (lv_at hl 2 rfl) ?_
          refine va_get (D := D) (ci := 1) (v := .int (nI (n))) (C := RX1) (T := TX1) (N := 11) hx hb hts hin hown hK hP 0 rfl rfl 7 (by decide) hf39 (fun _ h9 => h9) rfl dX1_settle_39 ?_
          refine gi_goV (va_runV (As := [.int (nI (n))]) (rest := []) ⟨hx, hb, hml, hown, hts⟩ (c_X1_address l D cA cB cL A wr q n 0 true sz bt so fc ofs tg (gf_now n fc sz bt so tg ofs nw r) (gf_grr n fc sz bt so tg ofs nw gr r) n hw hk9 (Nat.le_refl n)) (cwV 1 hts gX1_settle_X1_address rfl rfl rfl (by decide +kernel) ⟨Nat.le_of_ble_eq_true rfl, Nat.le_of_ble_eq_true rfl⟩) (gi_preV (q0 := 0) hK hP hD rfl rfl rfl) rfl rfl hl.1 rfl (lv_room (Nat.le_of_ble_eq_true rfl)) dX1_settle_42 ⟨Nat.le_of_ble_eq_true rfl, Nat.le_of_ble_eq_true rfl⟩) hS (fun H locs hP hS => ?_)
          refine lv_sipush (v := nI (4096)) hx hb dX1_settle_45 (by decide) ?_
          refine gi_icmp_le (tgt := 58) hx hb (by omega) (by omega) dX1_settle_48 rfl (fun h48 => ?_) (fun h9 => absurd h9 (by omega))
          refine lv_iconst (v := nI (0)) hx hb dX1_settle_58 (by decide) ?_
          refine lv_istore_n (lv' := [(3, .int (nI (0))), (2, .int (bI (false))), (1, .int (nI (r))), (0, .ref (q 0))]) hx hb dX1_settle_59 rfl hl (by decide) rfl (fun ls hl => ?_)
          have loop : ∀ (k j : Nat), j + k = n → ∀ (H : Heap) (locs : List Loc) (ls : Array Slot), va_P D vwCl ((mw q cA cB n (gf_tj (gf_fit fc sz bt so tg ofs (gf_now n fc sz bt so tg ofs nw r)) fc (gf_now n fc sz bt so tg ofs nw r) j) true sz bt so fc ofs tg (gf_now n fc sz bt so tg ofs nw r) (gf_gr (gf_fit fc sz bt so tg ofs (gf_now n fc sz bt so tg ofs nw r)) (gf_grr n fc sz bt so tg ofs nw gr r) j)) ++ wr) H → va_S A s.heap H locs → lv_has ls 4 [(3, .int (nI (j))), (2, .int (bI (gf_so (gf_fit fc sz bt so tg ofs (gf_now n fc sz bt so tg ofs nw r)) j))), (1, .int (nI (r))), (0, .ref (q 0))] → W p l e (headSpec wsX1_settle ({ frames := 3, cells := 0, slots := 0, locals := 72 })).room s m ([.ref (q 0)] : List Value).toArray below meth c H locs 0 0 (MQ below (gPost (some (.int (nI (0)))) D vwCl ((mw q cA cB n 2 true sz bt so fc ofs tg (gf_now n fc sz bt so tg ofs nw r) (gf_grr n fc sz bt so tg ofs nw gr (r + 1))) ++ wr) A) ([.ref (q 0)] : List Value).toArray s 0 0 A) (F0 m 60 ls []) := by
            intro k
            induction k with
            | zero =>
              intro j hik H locs ls hP hS hl
              have h9 : n = j := by omega
              subst h9
              have hD : va_D A ((mw q cA cB n (gf_tj (gf_fit fc sz bt so tg ofs (gf_now n fc sz bt so tg ofs nw r)) fc (gf_now n fc sz bt so tg ofs nw r) n) true sz bt so fc ofs tg (gf_now n fc sz bt so tg ofs nw r) (gf_gr (gf_fit fc sz bt so tg ofs (gf_now n fc sz bt so tg ofs nw r)) (gf_grr n fc sz bt so tg ofs nw gr r) n)) ++ wr) := gD_same hD rfl
              refine lv_iload_n hx hb dX1_settle_60 rfl (lv_at hl 0 rfl) ?_
              refine lv_aload_n hx hb dX1_settle_61 rfl (lv_at hl 3 rfl) ?_
              refine va_get (D := D) (ci := 1) (v := .int (nI (n))) (C := RX1) (T := TX1) (N := 11) hx hb hts hin hown hK hP 0 rfl rfl 7 (by decide) hf39 (fun _ h9 => h9) rfl dX1_settle_62 ?_
              refine gi_icmp_ge (tgt := 133) hx hb (by omega) (by omega) dX1_settle_65 rfl (fun h65 => ?_) (fun h9 => absurd h9 (by omega))
              refine lv_aload_n hx hb dX1_settle_133 rfl (lv_at hl 3 rfl) ?_
              refine va_get (D := D) (ci := 1) (v := .int (nI (gf_tj (gf_fit fc sz bt so tg ofs (gf_now n fc sz bt so tg ofs nw r)) fc (gf_now n fc sz bt so tg ofs nw r) n))) (C := RX1) (T := TX1) (N := 11) hx hb hts hin hown hK hP 0 rfl rfl 8 (by decide) hf35 (fun _ h9 => h9) rfl dX1_settle_134 ?_
              refine gi_if_le (tgt := 142) hx hb (by have := gf_tj_le (gf_fit fc sz bt so tg ofs (gf_now n fc sz bt so tg ofs nw r)) fc (gf_now n fc sz bt so tg ofs nw r) n; omega) dX1_settle_137 rfl (fun h9 => absurd h9 (by rw [htj]; decide)) (fun h137 => ?_)
              rw [htj] at hP hD
              refine lv_iconst (v := nI (0)) hx hb dX1_settle_140 (by decide) ?_
              exact gi_iret hx hb hlk hr dX1_settle_141 (rfl) hP hS
            | succ k ihj =>
              intro j hik H locs ls hP hS hl
              have hj : j < n := by omega
              have hD : va_D A ((mw q cA cB n (gf_tj (gf_fit fc sz bt so tg ofs (gf_now n fc sz bt so tg ofs nw r)) fc (gf_now n fc sz bt so tg ofs nw r) j) true sz bt so fc ofs tg (gf_now n fc sz bt so tg ofs nw r) (gf_gr (gf_fit fc sz bt so tg ofs (gf_now n fc sz bt so tg ofs nw r)) (gf_grr n fc sz bt so tg ofs nw gr r) j)) ++ wr) := gD_same hD rfl
              refine lv_iload_n hx hb dX1_settle_60 rfl (lv_at hl 0 rfl) ?_
              refine lv_aload_n hx hb dX1_settle_61 rfl (lv_at hl 3 rfl) ?_
              refine va_get (D := D) (ci := 1) (v := .int (nI (n))) (C := RX1) (T := TX1) (N := 11) hx hb hts hin hown hK hP 0 rfl rfl 7 (by decide) hf39 (fun _ h9 => h9) rfl dX1_settle_62 ?_
              refine gi_icmp_ge (tgt := 133) hx hb (by omega) (by omega) dX1_settle_65 rfl (fun h9 => absurd h9 (by omega)) (fun h65 => ?_)
              have hn3 := gf_nk_le hw hk9 hj
              have hfb := (hw.2 j hj).1
              refine lv_aload_n hx hb dX1_settle_68 rfl (lv_at hl 3 rfl) ?_
              refine va_get (D := D) (ci := 1) (v := .ref (q 8)) (C := RX1) (T := TX1) (N := 11) hx hb hts hin hown hK hP 0 rfl rfl 10 (by decide) hf31 (fun _ h9 => h9) rfl dX1_settle_69 ?_
              refine lv_iload_n hx hb dX1_settle_72 rfl (lv_at hl 0 rfl) ?_
              refine lv_aload_n hx hb dX1_settle_73 rfl (lv_at hl 3 rfl) ?_
              refine lv_iload_n hx hb dX1_settle_74 rfl (lv_at hl 0 rfl) ?_
              refine gi_goV (va_runV (As := [.int (nI (j))]) (rest := [.int (nI (j)), .ref (q 8)]) ⟨hx, hb, hml, hown, hts⟩ (c_X1_isFitting l D cA cB cL A wr q n (gf_tj (gf_fit fc sz bt so tg ofs (gf_now n fc sz bt so tg ofs nw r)) fc (gf_now n fc sz bt so tg ofs nw r) j) true sz bt so fc ofs tg (gf_now n fc sz bt so tg ofs nw r) (gf_gr (gf_fit fc sz bt so tg ofs (gf_now n fc sz bt so tg ofs nw r)) (gf_grr n fc sz bt so tg ofs nw gr r) j) j hw hk9 hj) (cwV 1 hts gX1_settle_X1_isFitting rfl rfl rfl (by decide +kernel) ⟨Nat.le_of_ble_eq_true rfl, Nat.le_of_ble_eq_true rfl⟩) (gi_preV (q0 := 0) hK hP hD rfl rfl rfl) rfl rfl hl.1 rfl (lv_room (Nat.le_of_ble_eq_true rfl)) dX1_settle_75 ⟨Nat.le_of_ble_eq_true rfl, Nat.le_of_ble_eq_true rfl⟩) hS (fun H locs hP hS => ?_)
              refine gi_if_neb (tgt := 85) hx hb dX1_settle_78 rfl (fun h78 => ?_) (fun h78 => ?_)
              · refine lv_iconst (v := nI (0)) hx hb dX1_settle_85 (by decide) ?_
                refine gi_top (y := (bI (!(gf_fit fc sz bt so tg ofs (gf_now n fc sz bt so tg ofs nw r) j)))) (bR_f (not_f h78)) ?_
                refine gi_zastI hx hb hK hP hD hS 8 1 (gf_gr (gf_fit fc sz bt so tg ofs (gf_now n fc sz bt so tg ofs nw r)) (gf_grr n fc sz bt so tg ofs nw gr r) j) rfl rfl (by omega) (by decide) dX1_settle_86 (fun H locs hP hD hS => ?_)
                have hP : va_P D vwCl ((mw q cA cB n (gf_tj (gf_fit fc sz bt so tg ofs (gf_now n fc sz bt so tg ofs nw r)) fc (gf_now n fc sz bt so tg ofs nw r) j) true sz bt so fc ofs tg (gf_now n fc sz bt so tg ofs nw r) (upd (gf_gr (gf_fit fc sz bt so tg ofs (gf_now n fc sz bt so tg ofs nw r)) (gf_grr n fc sz bt so tg ofs nw gr r) j) j ((bI (!(gf_fit fc sz bt so tg ofs (gf_now n fc sz bt so tg ofs nw r) j)))))) ++ wr) H := hP
                have hD : va_D A ((mw q cA cB n (gf_tj (gf_fit fc sz bt so tg ofs (gf_now n fc sz bt so tg ofs nw r)) fc (gf_now n fc sz bt so tg ofs nw r) j) true sz bt so fc ofs tg (gf_now n fc sz bt so tg ofs nw r) (upd (gf_gr (gf_fit fc sz bt so tg ofs (gf_now n fc sz bt so tg ofs nw r)) (gf_grr n fc sz bt so tg ofs nw gr r) j) j ((bI (!(gf_fit fc sz bt so tg ofs (gf_now n fc sz bt so tg ofs nw r) j)))))) ++ wr) := hD
                rw [gf_gr_s (gf_fit fc sz bt so tg ofs (gf_now n fc sz bt so tg ofs nw r)) (gf_grr n fc sz bt so tg ofs nw gr r) j] at hP hD
                refine lv_iload_n hx hb dX1_settle_87 rfl (lv_at hl 1 rfl) ?_
                refine lv_aload_n hx hb dX1_settle_88 rfl (lv_at hl 3 rfl) ?_
                refine va_get (D := D) (ci := 1) (v := .ref (q 8)) (C := RX1) (T := TX1) (N := 11) hx hb hts hin hown hK hP 0 rfl rfl 10 (by decide) hf31 (fun _ h9 => h9) rfl dX1_settle_89 ?_
                refine lv_iload_n hx hb dX1_settle_92 rfl (lv_at hl 0 rfl) ?_
                refine gi_zaldI hx hb hK hP 8 1 (gf_gr (gf_fit fc sz bt so tg ofs (gf_now n fc sz bt so tg ofs nw r)) (gf_grr n fc sz bt so tg ofs nw gr r) (j + 1)) rfl rfl (by omega) (by decide) dX1_settle_93 ?_
                refine gi_top (y := (bI (!(gf_fit fc sz bt so tg ofs (gf_now n fc sz bt so tg ofs nw r) j)))) (gf_gr_at (gf_fit fc sz bt so tg ofs (gf_now n fc sz bt so tg ofs nw r)) (gf_grr n fc sz bt so tg ofs nw gr r) (by omega)) ?_
                refine gi_iorb hx hb dX1_settle_94 ?_
                refine lv_istore_n (lv' := [(2, .int (bI (gf_so (gf_fit fc sz bt so tg ofs (gf_now n fc sz bt so tg ofs nw r)) (j + 1)))), (3, .int (nI (j))), (1, .int (nI (r))), (0, .ref (q 0))]) hx hb dX1_settle_95 rfl hl (by decide) rfl (fun ls hl => ?_)
                refine lv_aload_n hx hb dX1_settle_96 rfl (lv_at hl 3 rfl) ?_
                refine va_get (D := D) (ci := 1) (v := .ref (q 8)) (C := RX1) (T := TX1) (N := 11) hx hb hts hin hown hK hP 0 rfl rfl 10 (by decide) hf31 (fun _ h9 => h9) rfl dX1_settle_97 ?_
                refine lv_iload_n hx hb dX1_settle_100 rfl (lv_at hl 1 rfl) ?_
                refine gi_zaldI hx hb hK hP 8 1 (gf_gr (gf_fit fc sz bt so tg ofs (gf_now n fc sz bt so tg ofs nw r)) (gf_grr n fc sz bt so tg ofs nw gr r) (j + 1)) rfl rfl (by omega) (by decide) dX1_settle_101 ?_
                refine gi_top (y := (bI (!(gf_fit fc sz bt so tg ofs (gf_now n fc sz bt so tg ofs nw r) j)))) (gf_gr_at (gf_fit fc sz bt so tg ofs (gf_now n fc sz bt so tg ofs nw r)) (gf_grr n fc sz bt so tg ofs nw gr r) (by omega)) ?_
                refine gi_if_eqb (tgt := 127) hx hb dX1_settle_102 rfl (fun h102 => ?_) (fun h102 => ?_)
                · refine lv_iinc (k := 1) (lv' := [(3, .int (nI (j + 1))), (2, .int (bI (gf_so (gf_fit fc sz bt so tg ofs (gf_now n fc sz bt so tg ofs nw r)) (j + 1)))), (1, .int (nI (r))), (0, .ref (q 0))]) hx hb dX1_settle_127 hl rfl (gi_inc _) (by decide) rfl (fun ls hl => ?_)
                  refine lv_goto (tgt := 60) hx hb dX1_settle_130 rfl ?_
                  have hP : va_P D vwCl ((mw q cA cB n (gf_tj (gf_fit fc sz bt so tg ofs (gf_now n fc sz bt so tg ofs nw r)) fc (gf_now n fc sz bt so tg ofs nw r) (j + 1)) true sz bt so fc ofs tg (gf_now n fc sz bt so tg ofs nw r) (gf_gr (gf_fit fc sz bt so tg ofs (gf_now n fc sz bt so tg ofs nw r)) (gf_grr n fc sz bt so tg ofs nw gr r) (j + 1))) ++ wr) H := by rw [show gf_tj (gf_fit fc sz bt so tg ofs (gf_now n fc sz bt so tg ofs nw r)) fc (gf_now n fc sz bt so tg ofs nw r) (j + 1) = gf_tj (gf_fit fc sz bt so tg ofs (gf_now n fc sz bt so tg ofs nw r)) fc (gf_now n fc sz bt so tg ofs nw r) j from if_neg (fun z9 => gf_ne_tf z9.1 (not_ff h102))]; exact hP
                  exact ihj (j + 1) (by omega) H locs ls hP hS (lv_sub hl [0, 1, 2, 3] rfl)
                · have hpf := not_tt h102
                  have hne := gf_unfit_fc hpf
                  refine lv_aload_n hx hb dX1_settle_105 rfl (lv_at hl 3 rfl) ?_
                  refine va_get (D := D) (ci := 1) (v := .ref (q 7)) (C := RX1) (T := TX1) (N := 11) hx hb hts hin hown hK hP 0 rfl rfl 6 (by decide) hf28 (fun _ h9 => h9) rfl dX1_settle_106 ?_
                  refine lv_iload_n hx hb dX1_settle_109 rfl (lv_at hl 1 rfl) ?_
                  refine gi_ald hx hb hK hP 7 0 (gf_now n fc sz bt so tg ofs nw r) rfl rfl (by omega) (by decide) dX1_settle_110 ?_
                  refine lv_aload_n hx hb dX1_settle_111 rfl (lv_at hl 3 rfl) ?_
                  refine va_get (D := D) (ci := 1) (v := .ref (q 1)) (C := RX1) (T := TX1) (N := 11) hx hb hts hin hown hK hP 0 rfl rfl 0 (by decide) hf9 (fun _ h9 => h9) rfl dX1_settle_112 ?_
                  refine lv_iload_n hx hb dX1_settle_115 rfl (lv_at hl 1 rfl) ?_
                  refine gi_ald hx hb hK hP 1 0 fc rfl rfl (by omega) (by decide) dX1_settle_116 ?_
                  refine lv_iconst (v := nI (1)) hx hb dX1_settle_117 (by decide) ?_
                  refine gi_isub hx hb (fc j - 1) (by omega) dX1_settle_118 ?_
                  refine gi_icmp_ne (tgt := 127) hx hb (by omega) (by omega) dX1_settle_119 rfl (fun h119 => ?_) (fun h119 => ?_)
                  · refine lv_iinc (k := 1) (lv' := [(3, .int (nI (j + 1))), (2, .int (bI (gf_so (gf_fit fc sz bt so tg ofs (gf_now n fc sz bt so tg ofs nw r)) (j + 1)))), (1, .int (nI (r))), (0, .ref (q 0))]) hx hb dX1_settle_127 hl rfl (gi_inc _) (by decide) rfl (fun ls hl => ?_)
                    refine lv_goto (tgt := 60) hx hb dX1_settle_130 rfl ?_
                    have hP : va_P D vwCl ((mw q cA cB n (gf_tj (gf_fit fc sz bt so tg ofs (gf_now n fc sz bt so tg ofs nw r)) fc (gf_now n fc sz bt so tg ofs nw r) (j + 1)) true sz bt so fc ofs tg (gf_now n fc sz bt so tg ofs nw r) (gf_gr (gf_fit fc sz bt so tg ofs (gf_now n fc sz bt so tg ofs nw r)) (gf_grr n fc sz bt so tg ofs nw gr r) (j + 1))) ++ wr) H := by rw [show gf_tj (gf_fit fc sz bt so tg ofs (gf_now n fc sz bt so tg ofs nw r)) fc (gf_now n fc sz bt so tg ofs nw r) (j + 1) = gf_tj (gf_fit fc sz bt so tg ofs (gf_now n fc sz bt so tg ofs nw r)) fc (gf_now n fc sz bt so tg ofs nw r) j from if_neg (fun z9 => h119 z9.2)]; exact hP
                    exact ihj (j + 1) (by omega) H locs ls hP hS (lv_sub hl [0, 1, 2, 3] rfl)
                  · refine lv_aload_n hx hb dX1_settle_122 rfl (lv_at hl 3 rfl) ?_
                    refine lv_iconst (v := nI (2)) hx hb dX1_settle_123 (by decide) ?_
                    refine va_put (D := D) (ci := 1) (v := .int (nI (2))) (ty := .int) (C := RX1) (T := TX1) (N := 11) hx hb hts hin tyX1 tyX1_ok nmX1 hown hK hP hD hS 0 rfl rfl 8 (by decide) hf35 (fun _ h9 => h9) rfl (by decide +kernel) rfl rfl (Nat.le_of_ble_eq_true rfl) dX1_settle_124 (fun H locs hP hD hS => ?_)
                    have hP : va_P D vwCl ((mw q cA cB n 2 true sz bt so fc ofs tg (gf_now n fc sz bt so tg ofs nw r) (gf_gr (gf_fit fc sz bt so tg ofs (gf_now n fc sz bt so tg ofs nw r)) (gf_grr n fc sz bt so tg ofs nw gr r) (j + 1))) ++ wr) H := hP
                    have hD : va_D A ((mw q cA cB n 2 true sz bt so fc ofs tg (gf_now n fc sz bt so tg ofs nw r) (gf_gr (gf_fit fc sz bt so tg ofs (gf_now n fc sz bt so tg ofs nw r)) (gf_grr n fc sz bt so tg ofs nw gr r) (j + 1))) ++ wr) := hD
                    refine lv_iinc (k := 1) (lv' := [(3, .int (nI (j + 1))), (2, .int (bI (gf_so (gf_fit fc sz bt so tg ofs (gf_now n fc sz bt so tg ofs nw r)) (j + 1)))), (1, .int (nI (r))), (0, .ref (q 0))]) hx hb dX1_settle_127 hl rfl (gi_inc _) (by decide) rfl (fun ls hl => ?_)
                    refine lv_goto (tgt := 60) hx hb dX1_settle_130 rfl ?_
                    have hP : va_P D vwCl ((mw q cA cB n (gf_tj (gf_fit fc sz bt so tg ofs (gf_now n fc sz bt so tg ofs nw r)) fc (gf_now n fc sz bt so tg ofs nw r) (j + 1)) true sz bt so fc ofs tg (gf_now n fc sz bt so tg ofs nw r) (gf_gr (gf_fit fc sz bt so tg ofs (gf_now n fc sz bt so tg ofs nw r)) (gf_grr n fc sz bt so tg ofs nw gr r) (j + 1))) ++ wr) H := by rw [show gf_tj (gf_fit fc sz bt so tg ofs (gf_now n fc sz bt so tg ofs nw r)) fc (gf_now n fc sz bt so tg ofs nw r) (j + 1) = 2 from if_pos ⟨hpf, h119⟩]; exact hP
                    exact ihj (j + 1) (by omega) H locs ls hP hS (lv_sub hl [0, 1, 2, 3] rfl)
              · refine lv_iconst (v := nI (1)) hx hb dX1_settle_81 (by decide) ?_
                refine gi_top (y := (bI (!(gf_fit fc sz bt so tg ofs (gf_now n fc sz bt so tg ofs nw r) j)))) (bR_t (not_t h78)) ?_
                refine lv_goto (tgt := 86) hx hb dX1_settle_82 rfl ?_
                refine gi_zastI hx hb hK hP hD hS 8 1 (gf_gr (gf_fit fc sz bt so tg ofs (gf_now n fc sz bt so tg ofs nw r)) (gf_grr n fc sz bt so tg ofs nw gr r) j) rfl rfl (by omega) (by decide) dX1_settle_86 (fun H locs hP hD hS => ?_)
                have hP : va_P D vwCl ((mw q cA cB n (gf_tj (gf_fit fc sz bt so tg ofs (gf_now n fc sz bt so tg ofs nw r)) fc (gf_now n fc sz bt so tg ofs nw r) j) true sz bt so fc ofs tg (gf_now n fc sz bt so tg ofs nw r) (upd (gf_gr (gf_fit fc sz bt so tg ofs (gf_now n fc sz bt so tg ofs nw r)) (gf_grr n fc sz bt so tg ofs nw gr r) j) j ((bI (!(gf_fit fc sz bt so tg ofs (gf_now n fc sz bt so tg ofs nw r) j)))))) ++ wr) H := hP
                have hD : va_D A ((mw q cA cB n (gf_tj (gf_fit fc sz bt so tg ofs (gf_now n fc sz bt so tg ofs nw r)) fc (gf_now n fc sz bt so tg ofs nw r) j) true sz bt so fc ofs tg (gf_now n fc sz bt so tg ofs nw r) (upd (gf_gr (gf_fit fc sz bt so tg ofs (gf_now n fc sz bt so tg ofs nw r)) (gf_grr n fc sz bt so tg ofs nw gr r) j) j ((bI (!(gf_fit fc sz bt so tg ofs (gf_now n fc sz bt so tg ofs nw r) j)))))) ++ wr) := hD
                rw [gf_gr_s (gf_fit fc sz bt so tg ofs (gf_now n fc sz bt so tg ofs nw r)) (gf_grr n fc sz bt so tg ofs nw gr r) j] at hP hD
                refine lv_iload_n hx hb dX1_settle_87 rfl (lv_at hl 1 rfl) ?_
                refine lv_aload_n hx hb dX1_settle_88 rfl (lv_at hl 3 rfl) ?_
                refine va_get (D := D) (ci := 1) (v := .ref (q 8)) (C := RX1) (T := TX1) (N := 11) hx hb hts hin hown hK hP 0 rfl rfl 10 (by decide) hf31 (fun _ h9 => h9) rfl dX1_settle_89 ?_
                refine lv_iload_n hx hb dX1_settle_92 rfl (lv_at hl 0 rfl) ?_
                refine gi_zaldI hx hb hK hP 8 1 (gf_gr (gf_fit fc sz bt so tg ofs (gf_now n fc sz bt so tg ofs nw r)) (gf_grr n fc sz bt so tg ofs nw gr r) (j + 1)) rfl rfl (by omega) (by decide) dX1_settle_93 ?_
                refine gi_top (y := (bI (!(gf_fit fc sz bt so tg ofs (gf_now n fc sz bt so tg ofs nw r) j)))) (gf_gr_at (gf_fit fc sz bt so tg ofs (gf_now n fc sz bt so tg ofs nw r)) (gf_grr n fc sz bt so tg ofs nw gr r) (by omega)) ?_
                refine gi_iorb hx hb dX1_settle_94 ?_
                refine lv_istore_n (lv' := [(2, .int (bI (gf_so (gf_fit fc sz bt so tg ofs (gf_now n fc sz bt so tg ofs nw r)) (j + 1)))), (3, .int (nI (j))), (1, .int (nI (r))), (0, .ref (q 0))]) hx hb dX1_settle_95 rfl hl (by decide) rfl (fun ls hl => ?_)
                refine lv_aload_n hx hb dX1_settle_96 rfl (lv_at hl 3 rfl) ?_
                refine va_get (D := D) (ci := 1) (v := .ref (q 8)) (C := RX1) (T := TX1) (N := 11) hx hb hts hin hown hK hP 0 rfl rfl 10 (by decide) hf31 (fun _ h9 => h9) rfl dX1_settle_97 ?_
                refine lv_iload_n hx hb dX1_settle_100 rfl (lv_at hl 1 rfl) ?_
                refine gi_zaldI hx hb hK hP 8 1 (gf_gr (gf_fit fc sz bt so tg ofs (gf_now n fc sz bt so tg ofs nw r)) (gf_grr n fc sz bt so tg ofs nw gr r) (j + 1)) rfl rfl (by omega) (by decide) dX1_settle_101 ?_
                refine gi_top (y := (bI (!(gf_fit fc sz bt so tg ofs (gf_now n fc sz bt so tg ofs nw r) j)))) (gf_gr_at (gf_fit fc sz bt so tg ofs (gf_now n fc sz bt so tg ofs nw r)) (gf_grr n fc sz bt so tg ofs nw gr r) (by omega)) ?_
                refine gi_if_eqb (tgt := 127) hx hb dX1_settle_102 rfl (fun h102 => ?_) (fun h102 => ?_)
                · refine lv_iinc (k := 1) (lv' := [(3, .int (nI (j + 1))), (2, .int (bI (gf_so (gf_fit fc sz bt so tg ofs (gf_now n fc sz bt so tg ofs nw r)) (j + 1)))), (1, .int (nI (r))), (0, .ref (q 0))]) hx hb dX1_settle_127 hl rfl (gi_inc _) (by decide) rfl (fun ls hl => ?_)
                  refine lv_goto (tgt := 60) hx hb dX1_settle_130 rfl ?_
                  have hP : va_P D vwCl ((mw q cA cB n (gf_tj (gf_fit fc sz bt so tg ofs (gf_now n fc sz bt so tg ofs nw r)) fc (gf_now n fc sz bt so tg ofs nw r) (j + 1)) true sz bt so fc ofs tg (gf_now n fc sz bt so tg ofs nw r) (gf_gr (gf_fit fc sz bt so tg ofs (gf_now n fc sz bt so tg ofs nw r)) (gf_grr n fc sz bt so tg ofs nw gr r) (j + 1))) ++ wr) H := by rw [show gf_tj (gf_fit fc sz bt so tg ofs (gf_now n fc sz bt so tg ofs nw r)) fc (gf_now n fc sz bt so tg ofs nw r) (j + 1) = gf_tj (gf_fit fc sz bt so tg ofs (gf_now n fc sz bt so tg ofs nw r)) fc (gf_now n fc sz bt so tg ofs nw r) j from if_neg (fun z9 => gf_ne_tf z9.1 (not_ff h102))]; exact hP
                  exact ihj (j + 1) (by omega) H locs ls hP hS (lv_sub hl [0, 1, 2, 3] rfl)
                · have hpf := not_tt h102
                  have hne := gf_unfit_fc hpf
                  refine lv_aload_n hx hb dX1_settle_105 rfl (lv_at hl 3 rfl) ?_
                  refine va_get (D := D) (ci := 1) (v := .ref (q 7)) (C := RX1) (T := TX1) (N := 11) hx hb hts hin hown hK hP 0 rfl rfl 6 (by decide) hf28 (fun _ h9 => h9) rfl dX1_settle_106 ?_
                  refine lv_iload_n hx hb dX1_settle_109 rfl (lv_at hl 1 rfl) ?_
                  refine gi_ald hx hb hK hP 7 0 (gf_now n fc sz bt so tg ofs nw r) rfl rfl (by omega) (by decide) dX1_settle_110 ?_
                  refine lv_aload_n hx hb dX1_settle_111 rfl (lv_at hl 3 rfl) ?_
                  refine va_get (D := D) (ci := 1) (v := .ref (q 1)) (C := RX1) (T := TX1) (N := 11) hx hb hts hin hown hK hP 0 rfl rfl 0 (by decide) hf9 (fun _ h9 => h9) rfl dX1_settle_112 ?_
                  refine lv_iload_n hx hb dX1_settle_115 rfl (lv_at hl 1 rfl) ?_
                  refine gi_ald hx hb hK hP 1 0 fc rfl rfl (by omega) (by decide) dX1_settle_116 ?_
                  refine lv_iconst (v := nI (1)) hx hb dX1_settle_117 (by decide) ?_
                  refine gi_isub hx hb (fc j - 1) (by omega) dX1_settle_118 ?_
                  refine gi_icmp_ne (tgt := 127) hx hb (by omega) (by omega) dX1_settle_119 rfl (fun h119 => ?_) (fun h119 => ?_)
                  · refine lv_iinc (k := 1) (lv' := [(3, .int (nI (j + 1))), (2, .int (bI (gf_so (gf_fit fc sz bt so tg ofs (gf_now n fc sz bt so tg ofs nw r)) (j + 1)))), (1, .int (nI (r))), (0, .ref (q 0))]) hx hb dX1_settle_127 hl rfl (gi_inc _) (by decide) rfl (fun ls hl => ?_)
                    refine lv_goto (tgt := 60) hx hb dX1_settle_130 rfl ?_
                    have hP : va_P D vwCl ((mw q cA cB n (gf_tj (gf_fit fc sz bt so tg ofs (gf_now n fc sz bt so tg ofs nw r)) fc (gf_now n fc sz bt so tg ofs nw r) (j + 1)) true sz bt so fc ofs tg (gf_now n fc sz bt so tg ofs nw r) (gf_gr (gf_fit fc sz bt so tg ofs (gf_now n fc sz bt so tg ofs nw r)) (gf_grr n fc sz bt so tg ofs nw gr r) (j + 1))) ++ wr) H := by rw [show gf_tj (gf_fit fc sz bt so tg ofs (gf_now n fc sz bt so tg ofs nw r)) fc (gf_now n fc sz bt so tg ofs nw r) (j + 1) = gf_tj (gf_fit fc sz bt so tg ofs (gf_now n fc sz bt so tg ofs nw r)) fc (gf_now n fc sz bt so tg ofs nw r) j from if_neg (fun z9 => h119 z9.2)]; exact hP
                    exact ihj (j + 1) (by omega) H locs ls hP hS (lv_sub hl [0, 1, 2, 3] rfl)
                  · refine lv_aload_n hx hb dX1_settle_122 rfl (lv_at hl 3 rfl) ?_
                    refine lv_iconst (v := nI (2)) hx hb dX1_settle_123 (by decide) ?_
                    refine va_put (D := D) (ci := 1) (v := .int (nI (2))) (ty := .int) (C := RX1) (T := TX1) (N := 11) hx hb hts hin tyX1 tyX1_ok nmX1 hown hK hP hD hS 0 rfl rfl 8 (by decide) hf35 (fun _ h9 => h9) rfl (by decide +kernel) rfl rfl (Nat.le_of_ble_eq_true rfl) dX1_settle_124 (fun H locs hP hD hS => ?_)
                    have hP : va_P D vwCl ((mw q cA cB n 2 true sz bt so fc ofs tg (gf_now n fc sz bt so tg ofs nw r) (gf_gr (gf_fit fc sz bt so tg ofs (gf_now n fc sz bt so tg ofs nw r)) (gf_grr n fc sz bt so tg ofs nw gr r) (j + 1))) ++ wr) H := hP
                    have hD : va_D A ((mw q cA cB n 2 true sz bt so fc ofs tg (gf_now n fc sz bt so tg ofs nw r) (gf_gr (gf_fit fc sz bt so tg ofs (gf_now n fc sz bt so tg ofs nw r)) (gf_grr n fc sz bt so tg ofs nw gr r) (j + 1))) ++ wr) := hD
                    refine lv_iinc (k := 1) (lv' := [(3, .int (nI (j + 1))), (2, .int (bI (gf_so (gf_fit fc sz bt so tg ofs (gf_now n fc sz bt so tg ofs nw r)) (j + 1)))), (1, .int (nI (r))), (0, .ref (q 0))]) hx hb dX1_settle_127 hl rfl (gi_inc _) (by decide) rfl (fun ls hl => ?_)
                    refine lv_goto (tgt := 60) hx hb dX1_settle_130 rfl ?_
                    have hP : va_P D vwCl ((mw q cA cB n (gf_tj (gf_fit fc sz bt so tg ofs (gf_now n fc sz bt so tg ofs nw r)) fc (gf_now n fc sz bt so tg ofs nw r) (j + 1)) true sz bt so fc ofs tg (gf_now n fc sz bt so tg ofs nw r) (gf_gr (gf_fit fc sz bt so tg ofs (gf_now n fc sz bt so tg ofs nw r)) (gf_grr n fc sz bt so tg ofs nw gr r) (j + 1))) ++ wr) H := by rw [show gf_tj (gf_fit fc sz bt so tg ofs (gf_now n fc sz bt so tg ofs nw r)) fc (gf_now n fc sz bt so tg ofs nw r) (j + 1) = 2 from if_pos ⟨hpf, h119⟩]; exact hP
                    exact ihj (j + 1) (by omega) H locs ls hP hS (lv_sub hl [0, 1, 2, 3] rfl)
          rw [← gf_gr_0 (gf_fit fc sz bt so tg ofs (gf_now n fc sz bt so tg ofs nw r)) (gf_grr n fc sz bt so tg ofs nw gr r)] at hP
          exact loop n 0 (by omega) _ _ _ hP hS (lv_sub hl [0, 1, 2, 3] rfl)
        | succ k ihr =>
          intro i hik H locs ls hP hS hl
          have hi : i < r := by omega
          have hg9 := hgo i hi
          have hg1 := hg9.1
          have hD : va_D A ((mw q cA cB n 0 true sz bt so fc ofs tg (gf_now n fc sz bt so tg ofs nw i) (gf_grr n fc sz bt so tg ofs nw gr i)) ++ wr) := gD_same hD rfl
          have hk9 := (gf_run i (fun q9 h9 => hgo q9 (by omega))).1
          have ha9 := gf_ad_le hw hk9 n (Nat.le_refl n)
          have htj : gf_tj (gf_fit fc sz bt so tg ofs (gf_now n fc sz bt so tg ofs nw i)) fc (gf_now n fc sz bt so tg ofs nw i) n = 0 := ((gf_tj_iff hk9 n (Nat.le_refl n)).2).mpr hg9.2.2
          refine lv_iconst (v := bI (false)) hx hb dX1_settle_35 (by decide) ?_
          refine lv_istore_n (lv' := [(2, .int (bI (false))), (1, .int (nI (i))), (0, .ref (q 0))]) hx hb dX1_settle_36 rfl hl (by decide) rfl (fun ls hl => ?_)
          refine lv_aload_n hx hb dX1_settle_37 rfl (lv_at hl 2 rfl) ?_
          refine lv_aload_n hx hb dX1_settle_38 rfl (lv_at hl 2 rfl) ?_
          refine va_get (D := D) (ci := 1) (v := .int (nI (n))) (C := RX1) (T := TX1) (N := 11) hx hb hts hin hown hK hP 0 rfl rfl 7 (by decide) hf39 (fun _ h9 => h9) rfl dX1_settle_39 ?_
          refine gi_goV (va_runV (As := [.int (nI (n))]) (rest := []) ⟨hx, hb, hml, hown, hts⟩ (c_X1_address l D cA cB cL A wr q n 0 true sz bt so fc ofs tg (gf_now n fc sz bt so tg ofs nw i) (gf_grr n fc sz bt so tg ofs nw gr i) n hw hk9 (Nat.le_refl n)) (cwV 1 hts gX1_settle_X1_address rfl rfl rfl (by decide +kernel) ⟨Nat.le_of_ble_eq_true rfl, Nat.le_of_ble_eq_true rfl⟩) (gi_preV (q0 := 0) hK hP hD rfl rfl rfl) rfl rfl hl.1 rfl (lv_room (Nat.le_of_ble_eq_true rfl)) dX1_settle_42 ⟨Nat.le_of_ble_eq_true rfl, Nat.le_of_ble_eq_true rfl⟩) hS (fun H locs hP hS => ?_)
          refine lv_sipush (v := nI (4096)) hx hb dX1_settle_45 (by decide) ?_
          refine gi_icmp_le (tgt := 58) hx hb (by omega) (by omega) dX1_settle_48 rfl (fun h48 => ?_) (fun h9 => absurd h9 (by omega))
          refine lv_iconst (v := nI (0)) hx hb dX1_settle_58 (by decide) ?_
          refine lv_istore_n (lv' := [(3, .int (nI (0))), (2, .int (bI (false))), (1, .int (nI (i))), (0, .ref (q 0))]) hx hb dX1_settle_59 rfl hl (by decide) rfl (fun ls hl => ?_)
          have loop : ∀ (k j : Nat), j + k = n → ∀ (H : Heap) (locs : List Loc) (ls : Array Slot), va_P D vwCl ((mw q cA cB n (gf_tj (gf_fit fc sz bt so tg ofs (gf_now n fc sz bt so tg ofs nw i)) fc (gf_now n fc sz bt so tg ofs nw i) j) true sz bt so fc ofs tg (gf_now n fc sz bt so tg ofs nw i) (gf_gr (gf_fit fc sz bt so tg ofs (gf_now n fc sz bt so tg ofs nw i)) (gf_grr n fc sz bt so tg ofs nw gr i) j)) ++ wr) H → va_S A s.heap H locs → lv_has ls 4 [(3, .int (nI (j))), (2, .int (bI (gf_so (gf_fit fc sz bt so tg ofs (gf_now n fc sz bt so tg ofs nw i)) j))), (1, .int (nI (i))), (0, .ref (q 0))] → W p l e (headSpec wsX1_settle ({ frames := 3, cells := 0, slots := 0, locals := 72 })).room s m ([.ref (q 0)] : List Value).toArray below meth c H locs 0 0 (MQ below (gPost (some (.int (nI (0)))) D vwCl ((mw q cA cB n 2 true sz bt so fc ofs tg (gf_now n fc sz bt so tg ofs nw r) (gf_grr n fc sz bt so tg ofs nw gr (r + 1))) ++ wr) A) ([.ref (q 0)] : List Value).toArray s 0 0 A) (F0 m 60 ls []) := by
            intro k
            induction k with
            | zero =>
              intro j hik H locs ls hP hS hl
              have h9 : n = j := by omega
              subst h9
              have hD : va_D A ((mw q cA cB n (gf_tj (gf_fit fc sz bt so tg ofs (gf_now n fc sz bt so tg ofs nw i)) fc (gf_now n fc sz bt so tg ofs nw i) n) true sz bt so fc ofs tg (gf_now n fc sz bt so tg ofs nw i) (gf_gr (gf_fit fc sz bt so tg ofs (gf_now n fc sz bt so tg ofs nw i)) (gf_grr n fc sz bt so tg ofs nw gr i) n)) ++ wr) := gD_same hD rfl
              refine lv_iload_n hx hb dX1_settle_60 rfl (lv_at hl 0 rfl) ?_
              refine lv_aload_n hx hb dX1_settle_61 rfl (lv_at hl 3 rfl) ?_
              refine va_get (D := D) (ci := 1) (v := .int (nI (n))) (C := RX1) (T := TX1) (N := 11) hx hb hts hin hown hK hP 0 rfl rfl 7 (by decide) hf39 (fun _ h9 => h9) rfl dX1_settle_62 ?_
              refine gi_icmp_ge (tgt := 133) hx hb (by omega) (by omega) dX1_settle_65 rfl (fun h65 => ?_) (fun h9 => absurd h9 (by omega))
              refine lv_aload_n hx hb dX1_settle_133 rfl (lv_at hl 3 rfl) ?_
              refine va_get (D := D) (ci := 1) (v := .int (nI (gf_tj (gf_fit fc sz bt so tg ofs (gf_now n fc sz bt so tg ofs nw i)) fc (gf_now n fc sz bt so tg ofs nw i) n))) (C := RX1) (T := TX1) (N := 11) hx hb hts hin hown hK hP 0 rfl rfl 8 (by decide) hf35 (fun _ h9 => h9) rfl dX1_settle_134 ?_
              refine gi_if_le (tgt := 142) hx hb (by have := gf_tj_le (gf_fit fc sz bt so tg ofs (gf_now n fc sz bt so tg ofs nw i)) fc (gf_now n fc sz bt so tg ofs nw i) n; omega) dX1_settle_137 rfl (fun h137 => ?_) (fun h9 => absurd h9 (fun z9 => z9 htj))
              rw [htj] at hP hD
              refine lv_iload_n hx hb dX1_settle_142 rfl (lv_at hl 1 rfl) ?_
              refine gi_if_neb (tgt := 148) hx hb dX1_settle_143 rfl (fun h143 => ?_) (fun h9 => absurd h9 (gf_ne_ft (gf_so_t hg9.2.1)))
              refine lv_iconst (v := nI (0)) hx hb dX1_settle_148 (by decide) ?_
              refine lv_istore_n (lv' := [(3, .int (nI (0))), (2, .int (bI (gf_so (gf_fit fc sz bt so tg ofs (gf_now n fc sz bt so tg ofs nw i)) n))), (1, .int (nI (i))), (0, .ref (q 0))]) hx hb dX1_settle_149 rfl hl (by decide) rfl (fun ls hl => ?_)
              have loop : ∀ (k j : Nat), j + k = n → ∀ (H : Heap) (locs : List Loc) (ls : Array Slot), va_P D vwCl ((mw q cA cB n 0 true sz bt so fc ofs tg (gf_st j fc sz bt so tg ofs (gf_now n fc sz bt so tg ofs nw i)) (gf_gr (gf_fit fc sz bt so tg ofs (gf_now n fc sz bt so tg ofs nw i)) (gf_grr n fc sz bt so tg ofs nw gr i) n)) ++ wr) H → va_S A s.heap H locs → lv_has ls 4 [(3, .int (nI (j))), (1, .int (nI (i))), (0, .ref (q 0))] → W p l e (headSpec wsX1_settle ({ frames := 3, cells := 0, slots := 0, locals := 72 })).room s m ([.ref (q 0)] : List Value).toArray below meth c H locs 0 0 (MQ below (gPost (some (.int (nI (0)))) D vwCl ((mw q cA cB n 2 true sz bt so fc ofs tg (gf_now n fc sz bt so tg ofs nw r) (gf_grr n fc sz bt so tg ofs nw gr (r + 1))) ++ wr) A) ([.ref (q 0)] : List Value).toArray s 0 0 A) (F0 m 150 ls []) := by
                intro k
                induction k with
                | zero =>
                  intro j hik H locs ls hP hS hl
                  have h9 : n = j := by omega
                  subst h9
                  have hD : va_D A ((mw q cA cB n 0 true sz bt so fc ofs tg (gf_st n fc sz bt so tg ofs (gf_now n fc sz bt so tg ofs nw i)) (gf_gr (gf_fit fc sz bt so tg ofs (gf_now n fc sz bt so tg ofs nw i)) (gf_grr n fc sz bt so tg ofs nw gr i) n)) ++ wr) := gD_same hD rfl
                  refine lv_iload_n hx hb dX1_settle_150 rfl (lv_at hl 0 rfl) ?_
                  refine lv_aload_n hx hb dX1_settle_151 rfl (lv_at hl 2 rfl) ?_
                  refine va_get (D := D) (ci := 1) (v := .int (nI (n))) (C := RX1) (T := TX1) (N := 11) hx hb hts hin hown hK hP 0 rfl rfl 7 (by decide) hf39 (fun _ h9 => h9) rfl dX1_settle_152 ?_
                  refine gi_icmp_ge (tgt := 183) hx hb (by omega) (by omega) dX1_settle_155 rfl (fun h155 => ?_) (fun h9 => absurd h9 (by omega))
                  refine lv_iinc (k := 1) (lv' := [(1, .int (nI (i + 1))), (3, .int (nI (n))), (0, .ref (q 0))]) hx hb dX1_settle_183 hl rfl (gi_inc _) (by decide) rfl (fun ls hl => ?_)
                  refine lv_goto (tgt := 35) hx hb dX1_settle_186 rfl ?_
                  exact ihr (i + 1) (by omega) H locs ls hP hS (lv_sub hl [0, 2] rfl)
                | succ k ihj =>
                  intro j hik H locs ls hP hS hl
                  have hj : j < n := by omega
                  have hD : va_D A ((mw q cA cB n 0 true sz bt so fc ofs tg (gf_st j fc sz bt so tg ofs (gf_now n fc sz bt so tg ofs nw i)) (gf_gr (gf_fit fc sz bt so tg ofs (gf_now n fc sz bt so tg ofs nw i)) (gf_grr n fc sz bt so tg ofs nw gr i) n)) ++ wr) := gD_same hD rfl
                  refine lv_iload_n hx hb dX1_settle_150 rfl (lv_at hl 0 rfl) ?_
                  refine lv_aload_n hx hb dX1_settle_151 rfl (lv_at hl 2 rfl) ?_
                  refine va_get (D := D) (ci := 1) (v := .int (nI (n))) (C := RX1) (T := TX1) (N := 11) hx hb hts hin hown hK hP 0 rfl rfl 7 (by decide) hf39 (fun _ h9 => h9) rfl dX1_settle_152 ?_
                  refine gi_icmp_ge (tgt := 183) hx hb (by omega) (by omega) dX1_settle_155 rfl (fun h9 => absurd h9 (by omega)) (fun h155 => ?_)
                  refine lv_aload_n hx hb dX1_settle_158 rfl (lv_at hl 2 rfl) ?_
                  refine va_get (D := D) (ci := 1) (v := .ref (q 8)) (C := RX1) (T := TX1) (N := 11) hx hb hts hin hown hK hP 0 rfl rfl 10 (by decide) hf31 (fun _ h9 => h9) rfl dX1_settle_159 ?_
                  refine lv_iload_n hx hb dX1_settle_162 rfl (lv_at hl 0 rfl) ?_
                  refine gi_zaldI hx hb hK hP 8 1 (gf_gr (gf_fit fc sz bt so tg ofs (gf_now n fc sz bt so tg ofs nw i)) (gf_grr n fc sz bt so tg ofs nw gr i) n) rfl rfl (by omega) (by decide) dX1_settle_163 ?_
                  refine gi_top (y := (bI (!(gf_fit fc sz bt so tg ofs (gf_now n fc sz bt so tg ofs nw i) j)))) (gf_gr_at (gf_fit fc sz bt so tg ofs (gf_now n fc sz bt so tg ofs nw i)) (gf_grr n fc sz bt so tg ofs nw gr i) hj) ?_
                  refine gi_if_eqb (tgt := 177) hx hb dX1_settle_164 rfl (fun h164 => ?_) (fun h164 => ?_)
                  · refine lv_iinc (k := 0) (lv' := [(3, .int (nI (j + 1))), (1, .int (nI (i))), (0, .ref (q 0))]) hx hb dX1_settle_177 hl rfl (gi_inc _) (by decide) rfl (fun ls hl => ?_)
                    refine lv_goto (tgt := 150) hx hb dX1_settle_180 rfl ?_
                    rw [gf_st_k fc sz bt so tg ofs (gf_now n fc sz bt so tg ofs nw i) j (not_ff h164)] at hP
                    exact ihj (j + 1) (by omega) H locs ls hP hS (lv_sub hl [0, 1, 2] rfl)
                  · refine lv_aload_n hx hb dX1_settle_167 rfl (lv_at hl 2 rfl) ?_
                    refine va_get (D := D) (ci := 1) (v := .ref (q 7)) (C := RX1) (T := TX1) (N := 11) hx hb hts hin hown hK hP 0 rfl rfl 6 (by decide) hf28 (fun _ h9 => h9) rfl dX1_settle_168 ?_
                    refine lv_iload_n hx hb dX1_settle_171 rfl (lv_at hl 0 rfl) ?_
                    refine lv_dup2_11 hx hb dX1_settle_172 rfl rfl ?_
                    refine gi_ald hx hb hK hP 7 0 (gf_st j fc sz bt so tg ofs (gf_now n fc sz bt so tg ofs nw i)) rfl rfl (by omega) (by decide) dX1_settle_173 ?_
                    refine gi_top (y := (nI ((gf_now n fc sz bt so tg ofs nw i) j))) (congrArg nI (gf_st_at fc sz bt so tg ofs (gf_now n fc sz bt so tg ofs nw i) j)) ?_
                    refine lv_iconst (v := nI (1)) hx hb dX1_settle_174 (by decide) ?_
                    refine gi_iadd hx hb ((gf_now n fc sz bt so tg ofs nw i) j + 1) rfl dX1_settle_175 ?_
                    refine gi_ast hx hb hK hP hD hS 7 0 (gf_st j fc sz bt so tg ofs (gf_now n fc sz bt so tg ofs nw i)) rfl rfl (by omega) (by decide) dX1_settle_176 (fun H locs hP hD hS => ?_)
                    have hP : va_P D vwCl ((mw q cA cB n 0 true sz bt so fc ofs tg (gU (gf_st j fc sz bt so tg ofs (gf_now n fc sz bt so tg ofs nw i)) j ((gf_now n fc sz bt so tg ofs nw i) j + 1)) (gf_gr (gf_fit fc sz bt so tg ofs (gf_now n fc sz bt so tg ofs nw i)) (gf_grr n fc sz bt so tg ofs nw gr i) n)) ++ wr) H := hP
                    have hD : va_D A ((mw q cA cB n 0 true sz bt so fc ofs tg (gU (gf_st j fc sz bt so tg ofs (gf_now n fc sz bt so tg ofs nw i)) j ((gf_now n fc sz bt so tg ofs nw i) j + 1)) (gf_gr (gf_fit fc sz bt so tg ofs (gf_now n fc sz bt so tg ofs nw i)) (gf_grr n fc sz bt so tg ofs nw gr i) n)) ++ wr) := hD
                    refine lv_iinc (k := 0) (lv' := [(3, .int (nI (j + 1))), (1, .int (nI (i))), (0, .ref (q 0))]) hx hb dX1_settle_177 hl rfl (gi_inc _) (by decide) rfl (fun ls hl => ?_)
                    refine lv_goto (tgt := 150) hx hb dX1_settle_180 rfl ?_
                    rw [gf_st_s fc sz bt so tg ofs (gf_now n fc sz bt so tg ofs nw i) j (not_tt h164)] at hP
                    exact ihj (j + 1) (by omega) H locs ls hP hS (lv_sub hl [0, 1, 2] rfl)
              have hP : va_P D vwCl ((mw q cA cB n 0 true sz bt so fc ofs tg (gf_st 0 fc sz bt so tg ofs (gf_now n fc sz bt so tg ofs nw i)) (gf_gr (gf_fit fc sz bt so tg ofs (gf_now n fc sz bt so tg ofs nw i)) (gf_grr n fc sz bt so tg ofs nw gr i) n)) ++ wr) H := by rw [gf_st_0]; exact hP
              exact loop n 0 (by omega) _ _ _ hP hS (lv_sub hl [0, 2, 3] rfl)
            | succ k ihj =>
              intro j hik H locs ls hP hS hl
              have hj : j < n := by omega
              have hD : va_D A ((mw q cA cB n (gf_tj (gf_fit fc sz bt so tg ofs (gf_now n fc sz bt so tg ofs nw i)) fc (gf_now n fc sz bt so tg ofs nw i) j) true sz bt so fc ofs tg (gf_now n fc sz bt so tg ofs nw i) (gf_gr (gf_fit fc sz bt so tg ofs (gf_now n fc sz bt so tg ofs nw i)) (gf_grr n fc sz bt so tg ofs nw gr i) j)) ++ wr) := gD_same hD rfl
              refine lv_iload_n hx hb dX1_settle_60 rfl (lv_at hl 0 rfl) ?_
              refine lv_aload_n hx hb dX1_settle_61 rfl (lv_at hl 3 rfl) ?_
              refine va_get (D := D) (ci := 1) (v := .int (nI (n))) (C := RX1) (T := TX1) (N := 11) hx hb hts hin hown hK hP 0 rfl rfl 7 (by decide) hf39 (fun _ h9 => h9) rfl dX1_settle_62 ?_
              refine gi_icmp_ge (tgt := 133) hx hb (by omega) (by omega) dX1_settle_65 rfl (fun h9 => absurd h9 (by omega)) (fun h65 => ?_)
              have hn3 := gf_nk_le hw hk9 hj
              have hfb := (hw.2 j hj).1
              refine lv_aload_n hx hb dX1_settle_68 rfl (lv_at hl 3 rfl) ?_
              refine va_get (D := D) (ci := 1) (v := .ref (q 8)) (C := RX1) (T := TX1) (N := 11) hx hb hts hin hown hK hP 0 rfl rfl 10 (by decide) hf31 (fun _ h9 => h9) rfl dX1_settle_69 ?_
              refine lv_iload_n hx hb dX1_settle_72 rfl (lv_at hl 0 rfl) ?_
              refine lv_aload_n hx hb dX1_settle_73 rfl (lv_at hl 3 rfl) ?_
              refine lv_iload_n hx hb dX1_settle_74 rfl (lv_at hl 0 rfl) ?_
              refine gi_goV (va_runV (As := [.int (nI (j))]) (rest := [.int (nI (j)), .ref (q 8)]) ⟨hx, hb, hml, hown, hts⟩ (c_X1_isFitting l D cA cB cL A wr q n (gf_tj (gf_fit fc sz bt so tg ofs (gf_now n fc sz bt so tg ofs nw i)) fc (gf_now n fc sz bt so tg ofs nw i) j) true sz bt so fc ofs tg (gf_now n fc sz bt so tg ofs nw i) (gf_gr (gf_fit fc sz bt so tg ofs (gf_now n fc sz bt so tg ofs nw i)) (gf_grr n fc sz bt so tg ofs nw gr i) j) j hw hk9 hj) (cwV 1 hts gX1_settle_X1_isFitting rfl rfl rfl (by decide +kernel) ⟨Nat.le_of_ble_eq_true rfl, Nat.le_of_ble_eq_true rfl⟩) (gi_preV (q0 := 0) hK hP hD rfl rfl rfl) rfl rfl hl.1 rfl (lv_room (Nat.le_of_ble_eq_true rfl)) dX1_settle_75 ⟨Nat.le_of_ble_eq_true rfl, Nat.le_of_ble_eq_true rfl⟩) hS (fun H locs hP hS => ?_)
              refine gi_if_neb (tgt := 85) hx hb dX1_settle_78 rfl (fun h78 => ?_) (fun h78 => ?_)
              · refine lv_iconst (v := nI (0)) hx hb dX1_settle_85 (by decide) ?_
                refine gi_top (y := (bI (!(gf_fit fc sz bt so tg ofs (gf_now n fc sz bt so tg ofs nw i) j)))) (bR_f (not_f h78)) ?_
                refine gi_zastI hx hb hK hP hD hS 8 1 (gf_gr (gf_fit fc sz bt so tg ofs (gf_now n fc sz bt so tg ofs nw i)) (gf_grr n fc sz bt so tg ofs nw gr i) j) rfl rfl (by omega) (by decide) dX1_settle_86 (fun H locs hP hD hS => ?_)
                have hP : va_P D vwCl ((mw q cA cB n (gf_tj (gf_fit fc sz bt so tg ofs (gf_now n fc sz bt so tg ofs nw i)) fc (gf_now n fc sz bt so tg ofs nw i) j) true sz bt so fc ofs tg (gf_now n fc sz bt so tg ofs nw i) (upd (gf_gr (gf_fit fc sz bt so tg ofs (gf_now n fc sz bt so tg ofs nw i)) (gf_grr n fc sz bt so tg ofs nw gr i) j) j ((bI (!(gf_fit fc sz bt so tg ofs (gf_now n fc sz bt so tg ofs nw i) j)))))) ++ wr) H := hP
                have hD : va_D A ((mw q cA cB n (gf_tj (gf_fit fc sz bt so tg ofs (gf_now n fc sz bt so tg ofs nw i)) fc (gf_now n fc sz bt so tg ofs nw i) j) true sz bt so fc ofs tg (gf_now n fc sz bt so tg ofs nw i) (upd (gf_gr (gf_fit fc sz bt so tg ofs (gf_now n fc sz bt so tg ofs nw i)) (gf_grr n fc sz bt so tg ofs nw gr i) j) j ((bI (!(gf_fit fc sz bt so tg ofs (gf_now n fc sz bt so tg ofs nw i) j)))))) ++ wr) := hD
                rw [gf_gr_s (gf_fit fc sz bt so tg ofs (gf_now n fc sz bt so tg ofs nw i)) (gf_grr n fc sz bt so tg ofs nw gr i) j] at hP hD
                refine lv_iload_n hx hb dX1_settle_87 rfl (lv_at hl 1 rfl) ?_
                refine lv_aload_n hx hb dX1_settle_88 rfl (lv_at hl 3 rfl) ?_
                refine va_get (D := D) (ci := 1) (v := .ref (q 8)) (C := RX1) (T := TX1) (N := 11) hx hb hts hin hown hK hP 0 rfl rfl 10 (by decide) hf31 (fun _ h9 => h9) rfl dX1_settle_89 ?_
                refine lv_iload_n hx hb dX1_settle_92 rfl (lv_at hl 0 rfl) ?_
                refine gi_zaldI hx hb hK hP 8 1 (gf_gr (gf_fit fc sz bt so tg ofs (gf_now n fc sz bt so tg ofs nw i)) (gf_grr n fc sz bt so tg ofs nw gr i) (j + 1)) rfl rfl (by omega) (by decide) dX1_settle_93 ?_
                refine gi_top (y := (bI (!(gf_fit fc sz bt so tg ofs (gf_now n fc sz bt so tg ofs nw i) j)))) (gf_gr_at (gf_fit fc sz bt so tg ofs (gf_now n fc sz bt so tg ofs nw i)) (gf_grr n fc sz bt so tg ofs nw gr i) (by omega)) ?_
                refine gi_iorb hx hb dX1_settle_94 ?_
                refine lv_istore_n (lv' := [(2, .int (bI (gf_so (gf_fit fc sz bt so tg ofs (gf_now n fc sz bt so tg ofs nw i)) (j + 1)))), (3, .int (nI (j))), (1, .int (nI (i))), (0, .ref (q 0))]) hx hb dX1_settle_95 rfl hl (by decide) rfl (fun ls hl => ?_)
                refine lv_aload_n hx hb dX1_settle_96 rfl (lv_at hl 3 rfl) ?_
                refine va_get (D := D) (ci := 1) (v := .ref (q 8)) (C := RX1) (T := TX1) (N := 11) hx hb hts hin hown hK hP 0 rfl rfl 10 (by decide) hf31 (fun _ h9 => h9) rfl dX1_settle_97 ?_
                refine lv_iload_n hx hb dX1_settle_100 rfl (lv_at hl 1 rfl) ?_
                refine gi_zaldI hx hb hK hP 8 1 (gf_gr (gf_fit fc sz bt so tg ofs (gf_now n fc sz bt so tg ofs nw i)) (gf_grr n fc sz bt so tg ofs nw gr i) (j + 1)) rfl rfl (by omega) (by decide) dX1_settle_101 ?_
                refine gi_top (y := (bI (!(gf_fit fc sz bt so tg ofs (gf_now n fc sz bt so tg ofs nw i) j)))) (gf_gr_at (gf_fit fc sz bt so tg ofs (gf_now n fc sz bt so tg ofs nw i)) (gf_grr n fc sz bt so tg ofs nw gr i) (by omega)) ?_
                refine gi_if_eqb (tgt := 127) hx hb dX1_settle_102 rfl (fun h102 => ?_) (fun h102 => ?_)
                · refine lv_iinc (k := 1) (lv' := [(3, .int (nI (j + 1))), (2, .int (bI (gf_so (gf_fit fc sz bt so tg ofs (gf_now n fc sz bt so tg ofs nw i)) (j + 1)))), (1, .int (nI (i))), (0, .ref (q 0))]) hx hb dX1_settle_127 hl rfl (gi_inc _) (by decide) rfl (fun ls hl => ?_)
                  refine lv_goto (tgt := 60) hx hb dX1_settle_130 rfl ?_
                  have hP : va_P D vwCl ((mw q cA cB n (gf_tj (gf_fit fc sz bt so tg ofs (gf_now n fc sz bt so tg ofs nw i)) fc (gf_now n fc sz bt so tg ofs nw i) (j + 1)) true sz bt so fc ofs tg (gf_now n fc sz bt so tg ofs nw i) (gf_gr (gf_fit fc sz bt so tg ofs (gf_now n fc sz bt so tg ofs nw i)) (gf_grr n fc sz bt so tg ofs nw gr i) (j + 1))) ++ wr) H := by rw [show gf_tj (gf_fit fc sz bt so tg ofs (gf_now n fc sz bt so tg ofs nw i)) fc (gf_now n fc sz bt so tg ofs nw i) (j + 1) = gf_tj (gf_fit fc sz bt so tg ofs (gf_now n fc sz bt so tg ofs nw i)) fc (gf_now n fc sz bt so tg ofs nw i) j from if_neg (fun z9 => gf_ne_tf z9.1 (not_ff h102))]; exact hP
                  exact ihj (j + 1) (by omega) H locs ls hP hS (lv_sub hl [0, 1, 2, 3] rfl)
                · have hpf := not_tt h102
                  have hne := gf_unfit_fc hpf
                  refine lv_aload_n hx hb dX1_settle_105 rfl (lv_at hl 3 rfl) ?_
                  refine va_get (D := D) (ci := 1) (v := .ref (q 7)) (C := RX1) (T := TX1) (N := 11) hx hb hts hin hown hK hP 0 rfl rfl 6 (by decide) hf28 (fun _ h9 => h9) rfl dX1_settle_106 ?_
                  refine lv_iload_n hx hb dX1_settle_109 rfl (lv_at hl 1 rfl) ?_
                  refine gi_ald hx hb hK hP 7 0 (gf_now n fc sz bt so tg ofs nw i) rfl rfl (by omega) (by decide) dX1_settle_110 ?_
                  refine lv_aload_n hx hb dX1_settle_111 rfl (lv_at hl 3 rfl) ?_
                  refine va_get (D := D) (ci := 1) (v := .ref (q 1)) (C := RX1) (T := TX1) (N := 11) hx hb hts hin hown hK hP 0 rfl rfl 0 (by decide) hf9 (fun _ h9 => h9) rfl dX1_settle_112 ?_
                  refine lv_iload_n hx hb dX1_settle_115 rfl (lv_at hl 1 rfl) ?_
                  refine gi_ald hx hb hK hP 1 0 fc rfl rfl (by omega) (by decide) dX1_settle_116 ?_
                  refine lv_iconst (v := nI (1)) hx hb dX1_settle_117 (by decide) ?_
                  refine gi_isub hx hb (fc j - 1) (by omega) dX1_settle_118 ?_
                  refine gi_icmp_ne (tgt := 127) hx hb (by omega) (by omega) dX1_settle_119 rfl (fun h119 => ?_) (fun h119 => ?_)
                  · refine lv_iinc (k := 1) (lv' := [(3, .int (nI (j + 1))), (2, .int (bI (gf_so (gf_fit fc sz bt so tg ofs (gf_now n fc sz bt so tg ofs nw i)) (j + 1)))), (1, .int (nI (i))), (0, .ref (q 0))]) hx hb dX1_settle_127 hl rfl (gi_inc _) (by decide) rfl (fun ls hl => ?_)
                    refine lv_goto (tgt := 60) hx hb dX1_settle_130 rfl ?_
                    have hP : va_P D vwCl ((mw q cA cB n (gf_tj (gf_fit fc sz bt so tg ofs (gf_now n fc sz bt so tg ofs nw i)) fc (gf_now n fc sz bt so tg ofs nw i) (j + 1)) true sz bt so fc ofs tg (gf_now n fc sz bt so tg ofs nw i) (gf_gr (gf_fit fc sz bt so tg ofs (gf_now n fc sz bt so tg ofs nw i)) (gf_grr n fc sz bt so tg ofs nw gr i) (j + 1))) ++ wr) H := by rw [show gf_tj (gf_fit fc sz bt so tg ofs (gf_now n fc sz bt so tg ofs nw i)) fc (gf_now n fc sz bt so tg ofs nw i) (j + 1) = gf_tj (gf_fit fc sz bt so tg ofs (gf_now n fc sz bt so tg ofs nw i)) fc (gf_now n fc sz bt so tg ofs nw i) j from if_neg (fun z9 => h119 z9.2)]; exact hP
                    exact ihj (j + 1) (by omega) H locs ls hP hS (lv_sub hl [0, 1, 2, 3] rfl)
                  · refine lv_aload_n hx hb dX1_settle_122 rfl (lv_at hl 3 rfl) ?_
                    refine lv_iconst (v := nI (2)) hx hb dX1_settle_123 (by decide) ?_
                    refine va_put (D := D) (ci := 1) (v := .int (nI (2))) (ty := .int) (C := RX1) (T := TX1) (N := 11) hx hb hts hin tyX1 tyX1_ok nmX1 hown hK hP hD hS 0 rfl rfl 8 (by decide) hf35 (fun _ h9 => h9) rfl (by decide +kernel) rfl rfl (Nat.le_of_ble_eq_true rfl) dX1_settle_124 (fun H locs hP hD hS => ?_)
                    have hP : va_P D vwCl ((mw q cA cB n 2 true sz bt so fc ofs tg (gf_now n fc sz bt so tg ofs nw i) (gf_gr (gf_fit fc sz bt so tg ofs (gf_now n fc sz bt so tg ofs nw i)) (gf_grr n fc sz bt so tg ofs nw gr i) (j + 1))) ++ wr) H := hP
                    have hD : va_D A ((mw q cA cB n 2 true sz bt so fc ofs tg (gf_now n fc sz bt so tg ofs nw i) (gf_gr (gf_fit fc sz bt so tg ofs (gf_now n fc sz bt so tg ofs nw i)) (gf_grr n fc sz bt so tg ofs nw gr i) (j + 1))) ++ wr) := hD
                    refine lv_iinc (k := 1) (lv' := [(3, .int (nI (j + 1))), (2, .int (bI (gf_so (gf_fit fc sz bt so tg ofs (gf_now n fc sz bt so tg ofs nw i)) (j + 1)))), (1, .int (nI (i))), (0, .ref (q 0))]) hx hb dX1_settle_127 hl rfl (gi_inc _) (by decide) rfl (fun ls hl => ?_)
                    refine lv_goto (tgt := 60) hx hb dX1_settle_130 rfl ?_
                    have hP : va_P D vwCl ((mw q cA cB n (gf_tj (gf_fit fc sz bt so tg ofs (gf_now n fc sz bt so tg ofs nw i)) fc (gf_now n fc sz bt so tg ofs nw i) (j + 1)) true sz bt so fc ofs tg (gf_now n fc sz bt so tg ofs nw i) (gf_gr (gf_fit fc sz bt so tg ofs (gf_now n fc sz bt so tg ofs nw i)) (gf_grr n fc sz bt so tg ofs nw gr i) (j + 1))) ++ wr) H := by rw [show gf_tj (gf_fit fc sz bt so tg ofs (gf_now n fc sz bt so tg ofs nw i)) fc (gf_now n fc sz bt so tg ofs nw i) (j + 1) = 2 from if_pos ⟨hpf, h119⟩]; exact hP
                    exact ihj (j + 1) (by omega) H locs ls hP hS (lv_sub hl [0, 1, 2, 3] rfl)
              · refine lv_iconst (v := nI (1)) hx hb dX1_settle_81 (by decide) ?_
                refine gi_top (y := (bI (!(gf_fit fc sz bt so tg ofs (gf_now n fc sz bt so tg ofs nw i) j)))) (bR_t (not_t h78)) ?_
                refine lv_goto (tgt := 86) hx hb dX1_settle_82 rfl ?_
                refine gi_zastI hx hb hK hP hD hS 8 1 (gf_gr (gf_fit fc sz bt so tg ofs (gf_now n fc sz bt so tg ofs nw i)) (gf_grr n fc sz bt so tg ofs nw gr i) j) rfl rfl (by omega) (by decide) dX1_settle_86 (fun H locs hP hD hS => ?_)
                have hP : va_P D vwCl ((mw q cA cB n (gf_tj (gf_fit fc sz bt so tg ofs (gf_now n fc sz bt so tg ofs nw i)) fc (gf_now n fc sz bt so tg ofs nw i) j) true sz bt so fc ofs tg (gf_now n fc sz bt so tg ofs nw i) (upd (gf_gr (gf_fit fc sz bt so tg ofs (gf_now n fc sz bt so tg ofs nw i)) (gf_grr n fc sz bt so tg ofs nw gr i) j) j ((bI (!(gf_fit fc sz bt so tg ofs (gf_now n fc sz bt so tg ofs nw i) j)))))) ++ wr) H := hP
                have hD : va_D A ((mw q cA cB n (gf_tj (gf_fit fc sz bt so tg ofs (gf_now n fc sz bt so tg ofs nw i)) fc (gf_now n fc sz bt so tg ofs nw i) j) true sz bt so fc ofs tg (gf_now n fc sz bt so tg ofs nw i) (upd (gf_gr (gf_fit fc sz bt so tg ofs (gf_now n fc sz bt so tg ofs nw i)) (gf_grr n fc sz bt so tg ofs nw gr i) j) j ((bI (!(gf_fit fc sz bt so tg ofs (gf_now n fc sz bt so tg ofs nw i) j)))))) ++ wr) := hD
                rw [gf_gr_s (gf_fit fc sz bt so tg ofs (gf_now n fc sz bt so tg ofs nw i)) (gf_grr n fc sz bt so tg ofs nw gr i) j] at hP hD
                refine lv_iload_n hx hb dX1_settle_87 rfl (lv_at hl 1 rfl) ?_
                refine lv_aload_n hx hb dX1_settle_88 rfl (lv_at hl 3 rfl) ?_
                refine va_get (D := D) (ci := 1) (v := .ref (q 8)) (C := RX1) (T := TX1) (N := 11) hx hb hts hin hown hK hP 0 rfl rfl 10 (by decide) hf31 (fun _ h9 => h9) rfl dX1_settle_89 ?_
                refine lv_iload_n hx hb dX1_settle_92 rfl (lv_at hl 0 rfl) ?_
                refine gi_zaldI hx hb hK hP 8 1 (gf_gr (gf_fit fc sz bt so tg ofs (gf_now n fc sz bt so tg ofs nw i)) (gf_grr n fc sz bt so tg ofs nw gr i) (j + 1)) rfl rfl (by omega) (by decide) dX1_settle_93 ?_
                refine gi_top (y := (bI (!(gf_fit fc sz bt so tg ofs (gf_now n fc sz bt so tg ofs nw i) j)))) (gf_gr_at (gf_fit fc sz bt so tg ofs (gf_now n fc sz bt so tg ofs nw i)) (gf_grr n fc sz bt so tg ofs nw gr i) (by omega)) ?_
                refine gi_iorb hx hb dX1_settle_94 ?_
                refine lv_istore_n (lv' := [(2, .int (bI (gf_so (gf_fit fc sz bt so tg ofs (gf_now n fc sz bt so tg ofs nw i)) (j + 1)))), (3, .int (nI (j))), (1, .int (nI (i))), (0, .ref (q 0))]) hx hb dX1_settle_95 rfl hl (by decide) rfl (fun ls hl => ?_)
                refine lv_aload_n hx hb dX1_settle_96 rfl (lv_at hl 3 rfl) ?_
                refine va_get (D := D) (ci := 1) (v := .ref (q 8)) (C := RX1) (T := TX1) (N := 11) hx hb hts hin hown hK hP 0 rfl rfl 10 (by decide) hf31 (fun _ h9 => h9) rfl dX1_settle_97 ?_
                refine lv_iload_n hx hb dX1_settle_100 rfl (lv_at hl 1 rfl) ?_
                refine gi_zaldI hx hb hK hP 8 1 (gf_gr (gf_fit fc sz bt so tg ofs (gf_now n fc sz bt so tg ofs nw i)) (gf_grr n fc sz bt so tg ofs nw gr i) (j + 1)) rfl rfl (by omega) (by decide) dX1_settle_101 ?_
                refine gi_top (y := (bI (!(gf_fit fc sz bt so tg ofs (gf_now n fc sz bt so tg ofs nw i) j)))) (gf_gr_at (gf_fit fc sz bt so tg ofs (gf_now n fc sz bt so tg ofs nw i)) (gf_grr n fc sz bt so tg ofs nw gr i) (by omega)) ?_
                refine gi_if_eqb (tgt := 127) hx hb dX1_settle_102 rfl (fun h102 => ?_) (fun h102 => ?_)
                · refine lv_iinc (k := 1) (lv' := [(3, .int (nI (j + 1))), (2, .int (bI (gf_so (gf_fit fc sz bt so tg ofs (gf_now n fc sz bt so tg ofs nw i)) (j + 1)))), (1, .int (nI (i))), (0, .ref (q 0))]) hx hb dX1_settle_127 hl rfl (gi_inc _) (by decide) rfl (fun ls hl => ?_)
                  refine lv_goto (tgt := 60) hx hb dX1_settle_130 rfl ?_
                  have hP : va_P D vwCl ((mw q cA cB n (gf_tj (gf_fit fc sz bt so tg ofs (gf_now n fc sz bt so tg ofs nw i)) fc (gf_now n fc sz bt so tg ofs nw i) (j + 1)) true sz bt so fc ofs tg (gf_now n fc sz bt so tg ofs nw i) (gf_gr (gf_fit fc sz bt so tg ofs (gf_now n fc sz bt so tg ofs nw i)) (gf_grr n fc sz bt so tg ofs nw gr i) (j + 1))) ++ wr) H := by rw [show gf_tj (gf_fit fc sz bt so tg ofs (gf_now n fc sz bt so tg ofs nw i)) fc (gf_now n fc sz bt so tg ofs nw i) (j + 1) = gf_tj (gf_fit fc sz bt so tg ofs (gf_now n fc sz bt so tg ofs nw i)) fc (gf_now n fc sz bt so tg ofs nw i) j from if_neg (fun z9 => gf_ne_tf z9.1 (not_ff h102))]; exact hP
                  exact ihj (j + 1) (by omega) H locs ls hP hS (lv_sub hl [0, 1, 2, 3] rfl)
                · have hpf := not_tt h102
                  have hne := gf_unfit_fc hpf
                  refine lv_aload_n hx hb dX1_settle_105 rfl (lv_at hl 3 rfl) ?_
                  refine va_get (D := D) (ci := 1) (v := .ref (q 7)) (C := RX1) (T := TX1) (N := 11) hx hb hts hin hown hK hP 0 rfl rfl 6 (by decide) hf28 (fun _ h9 => h9) rfl dX1_settle_106 ?_
                  refine lv_iload_n hx hb dX1_settle_109 rfl (lv_at hl 1 rfl) ?_
                  refine gi_ald hx hb hK hP 7 0 (gf_now n fc sz bt so tg ofs nw i) rfl rfl (by omega) (by decide) dX1_settle_110 ?_
                  refine lv_aload_n hx hb dX1_settle_111 rfl (lv_at hl 3 rfl) ?_
                  refine va_get (D := D) (ci := 1) (v := .ref (q 1)) (C := RX1) (T := TX1) (N := 11) hx hb hts hin hown hK hP 0 rfl rfl 0 (by decide) hf9 (fun _ h9 => h9) rfl dX1_settle_112 ?_
                  refine lv_iload_n hx hb dX1_settle_115 rfl (lv_at hl 1 rfl) ?_
                  refine gi_ald hx hb hK hP 1 0 fc rfl rfl (by omega) (by decide) dX1_settle_116 ?_
                  refine lv_iconst (v := nI (1)) hx hb dX1_settle_117 (by decide) ?_
                  refine gi_isub hx hb (fc j - 1) (by omega) dX1_settle_118 ?_
                  refine gi_icmp_ne (tgt := 127) hx hb (by omega) (by omega) dX1_settle_119 rfl (fun h119 => ?_) (fun h119 => ?_)
                  · refine lv_iinc (k := 1) (lv' := [(3, .int (nI (j + 1))), (2, .int (bI (gf_so (gf_fit fc sz bt so tg ofs (gf_now n fc sz bt so tg ofs nw i)) (j + 1)))), (1, .int (nI (i))), (0, .ref (q 0))]) hx hb dX1_settle_127 hl rfl (gi_inc _) (by decide) rfl (fun ls hl => ?_)
                    refine lv_goto (tgt := 60) hx hb dX1_settle_130 rfl ?_
                    have hP : va_P D vwCl ((mw q cA cB n (gf_tj (gf_fit fc sz bt so tg ofs (gf_now n fc sz bt so tg ofs nw i)) fc (gf_now n fc sz bt so tg ofs nw i) (j + 1)) true sz bt so fc ofs tg (gf_now n fc sz bt so tg ofs nw i) (gf_gr (gf_fit fc sz bt so tg ofs (gf_now n fc sz bt so tg ofs nw i)) (gf_grr n fc sz bt so tg ofs nw gr i) (j + 1))) ++ wr) H := by rw [show gf_tj (gf_fit fc sz bt so tg ofs (gf_now n fc sz bt so tg ofs nw i)) fc (gf_now n fc sz bt so tg ofs nw i) (j + 1) = gf_tj (gf_fit fc sz bt so tg ofs (gf_now n fc sz bt so tg ofs nw i)) fc (gf_now n fc sz bt so tg ofs nw i) j from if_neg (fun z9 => h119 z9.2)]; exact hP
                    exact ihj (j + 1) (by omega) H locs ls hP hS (lv_sub hl [0, 1, 2, 3] rfl)
                  · refine lv_aload_n hx hb dX1_settle_122 rfl (lv_at hl 3 rfl) ?_
                    refine lv_iconst (v := nI (2)) hx hb dX1_settle_123 (by decide) ?_
                    refine va_put (D := D) (ci := 1) (v := .int (nI (2))) (ty := .int) (C := RX1) (T := TX1) (N := 11) hx hb hts hin tyX1 tyX1_ok nmX1 hown hK hP hD hS 0 rfl rfl 8 (by decide) hf35 (fun _ h9 => h9) rfl (by decide +kernel) rfl rfl (Nat.le_of_ble_eq_true rfl) dX1_settle_124 (fun H locs hP hD hS => ?_)
                    have hP : va_P D vwCl ((mw q cA cB n 2 true sz bt so fc ofs tg (gf_now n fc sz bt so tg ofs nw i) (gf_gr (gf_fit fc sz bt so tg ofs (gf_now n fc sz bt so tg ofs nw i)) (gf_grr n fc sz bt so tg ofs nw gr i) (j + 1))) ++ wr) H := hP
                    have hD : va_D A ((mw q cA cB n 2 true sz bt so fc ofs tg (gf_now n fc sz bt so tg ofs nw i) (gf_gr (gf_fit fc sz bt so tg ofs (gf_now n fc sz bt so tg ofs nw i)) (gf_grr n fc sz bt so tg ofs nw gr i) (j + 1))) ++ wr) := hD
                    refine lv_iinc (k := 1) (lv' := [(3, .int (nI (j + 1))), (2, .int (bI (gf_so (gf_fit fc sz bt so tg ofs (gf_now n fc sz bt so tg ofs nw i)) (j + 1)))), (1, .int (nI (i))), (0, .ref (q 0))]) hx hb dX1_settle_127 hl rfl (gi_inc _) (by decide) rfl (fun ls hl => ?_)
                    refine lv_goto (tgt := 60) hx hb dX1_settle_130 rfl ?_
                    have hP : va_P D vwCl ((mw q cA cB n (gf_tj (gf_fit fc sz bt so tg ofs (gf_now n fc sz bt so tg ofs nw i)) fc (gf_now n fc sz bt so tg ofs nw i) (j + 1)) true sz bt so fc ofs tg (gf_now n fc sz bt so tg ofs nw i) (gf_gr (gf_fit fc sz bt so tg ofs (gf_now n fc sz bt so tg ofs nw i)) (gf_grr n fc sz bt so tg ofs nw gr i) (j + 1))) ++ wr) H := by rw [show gf_tj (gf_fit fc sz bt so tg ofs (gf_now n fc sz bt so tg ofs nw i)) fc (gf_now n fc sz bt so tg ofs nw i) (j + 1) = 2 from if_pos ⟨hpf, h119⟩]; exact hP
                    exact ihj (j + 1) (by omega) H locs ls hP hS (lv_sub hl [0, 1, 2, 3] rfl)
          rw [← gf_gr_0 (gf_fit fc sz bt so tg ofs (gf_now n fc sz bt so tg ofs nw i)) (gf_grr n fc sz bt so tg ofs nw gr i)] at hP
          exact loop n 0 (by omega) _ _ _ hP hS (lv_sub hl [0, 1, 2, 3] rfl)
      exact loop r 0 (by omega) _ _ _ hP hS (lv_sub hl [0, 1] rfl)
    | succ k ih =>
      intro i hik H locs ls hP hS hl
      have hi : i < n := by omega
      have hD : va_D A ((mw q cA cB n 0 true sz bt so fc ofs tg (gf_now i fc sz bt so tg ofs nw 0) gr) ++ wr) := gD_same hD rfl
      refine lv_iload_n hx hb dX1_settle_12 rfl (lv_at hl 0 rfl) ?_
      refine lv_aload_n hx hb dX1_settle_13 rfl (lv_at hl 1 rfl) ?_
      refine va_get (D := D) (ci := 1) (v := .int (nI (n))) (C := RX1) (T := TX1) (N := 11) hx hb hts hin hown hK hP 0 rfl rfl 7 (by decide) hf39 (fun _ h9 => h9) rfl dX1_settle_14 ?_
      refine gi_icmp_ge (tgt := 33) hx hb (by omega) (by omega) dX1_settle_17 rfl (fun h9 => absurd h9 (by omega)) (fun h17 => ?_)
      refine lv_aload_n hx hb dX1_settle_20 rfl (lv_at hl 1 rfl) ?_
      refine va_get (D := D) (ci := 1) (v := .ref (q 7)) (C := RX1) (T := TX1) (N := 11) hx hb hts hin hown hK hP 0 rfl rfl 6 (by decide) hf28 (fun _ h9 => h9) rfl dX1_settle_21 ?_
      refine lv_iload_n hx hb dX1_settle_24 rfl (lv_at hl 0 rfl) ?_
      refine lv_iconst (v := nI (0)) hx hb dX1_settle_25 (by decide) ?_
      refine gi_ast hx hb hK hP hD hS 7 0 (gf_now i fc sz bt so tg ofs nw 0) rfl rfl (by omega) (by decide) dX1_settle_26 (fun H locs hP hD hS => ?_)
      have hP : va_P D vwCl ((mw q cA cB n 0 true sz bt so fc ofs tg (gU (gf_now i fc sz bt so tg ofs nw 0) i 0) gr) ++ wr) H := hP
      have hD : va_D A ((mw q cA cB n 0 true sz bt so fc ofs tg (gU (gf_now i fc sz bt so tg ofs nw 0) i 0) gr) ++ wr) := hD
      refine lv_iinc (k := 0) (lv' := [(1, .int (nI (i + 1))), (0, .ref (q 0))]) hx hb dX1_settle_27 hl rfl (gi_inc _) (by decide) rfl (fun ls hl => ?_)
      refine lv_goto (tgt := 12) hx hb dX1_settle_30 rfl ?_
      rw [gf_z_s fc sz bt so tg ofs nw i] at hP
      exact ih (i + 1) (by omega) H locs ls hP hS (lv_sub hl [0, 1] rfl)
  rw [← gf_z_0 fc sz bt so tg ofs nw] at hP
  exact loop n 0 (by omega) _ _ _ hP hS (lv_sub hl [0, 1] rfl)
