theorem gNB_in : ∀ w ∈ gNB, w ∈ lw_tbl := by decide +kernel
theorem gSTR_in1 : ∀ q ∈ gSTR, Cond.stringRef RX0 q.1 q.2 ∈ lw_tbl := by decide +kernel
set_option maxRecDepth 100000 in
theorem gSTR_in2 : ∀ q ∈ gSTR, Cond.exactly (.string RX0 q.1) "java/lang/String" ∈ flatC (Jvm.Cond.and given_1 narrow_1) := by decide +kernel
set_option maxRecDepth 100000 in
theorem gNC_in : ∀ q ∈ gNC, Cond.not (.castable q.1 q.2) ∈ flatC (Jvm.Cond.and given_1 narrow_1) := by decide +kernel
/-! the start of the law: classes, arrays, what a throw needs; then its own loop -/
theorem gi_arr {args : Array Value} {s : State} {ty : FieldType} (hp : ∀ c : ClassId, va_RA s c ty ↔ s.vm.findClass ("[" ++ ty.toString) = some c) (h : (Cond.arrayClass ty).before args s = true) : ∃ cA : ClassId, ArrOfT s cA ty ∧ va_RA s cA ty := by
  obtain ⟨cA, kA, comp, h1, h2, h3⟩ := Cond.arrayClass_spec (args := args) (first := s) (o := none) (s := s) (idx := []) h
  exact ⟨cA, fun n z => ⟨fun k h => (by cases h), kA, h2, comp, h3⟩, (hp cA).mpr h1⟩
theorem gi_inc4 (n : Nat) : nI n + Int32.ofInt 4 = nI (n + 4) := by
  rw [show Int32.ofInt 4 = nI 4 from by decide]
  exact nI_add n 4
def gD2 (c0 c1 : ClassId) (i0 i1 : Nat → Nat) : va_G := (fun k => match k with
  | 0 => c0
  | _ => c1, fun k => match k with
  | 0 => i0
  | _ => i1)
set_option maxRecDepth 100000 in
theorem gi_gX {s : State} {b : Nat} {A : Nat → Prop} (hA : ∀ a : Nat, a < s.heap.size → ¬ A a) (hts : ∀ w ∈ lw_tbl, w.before #[Value.ref b] s = true) (hgv : (Jvm.Cond.and given_1 narrow_1).before #[Value.ref b] s = true) : gX A s s.heap := by
  have hf := flat_of_before _ hgv
  refine ⟨vx_Zqof (hts (.laysStatic Bundle.tN "UNASSIGNED_STACK" Bundle.steD) (by decide +kernel)) (hts (.initialized Bundle.tN) (by decide +kernel)) (hf (.isRef (.static Bundle.tN "UNASSIGNED_STACK" Bundle.steD)) (by decide +kernel)) hA, vx_Zqof (hts (.laysStatic Bundle.tN "SUPPRESSED_SENTINEL" Bundle.listD) (by decide +kernel)) (hts (.initialized Bundle.tN) (by decide +kernel)) (hf (.isRef (.static Bundle.tN "SUPPRESSED_SENTINEL" Bundle.listD)) (by decide +kernel)) hA, fun w hw => va_Nw.of (gNB_ot w hw) (hts w (gNB_in w hw)), fun q hq => ?_, fun q hq => va_Nc.of (hf _ (gNC_in q hq))⟩
  obtain ⟨a, c, cA, kA, q1, -⟩ := Cond.exactly_spec (args := #[Value.ref b]) (first := s) (o := none) (s := s) (idx := []) (hf _ (gSTR_in2 q hq))
  exact ⟨a, vk_R.of (hts _ (gSTR_in1 q hq)) q1⟩
set_option maxHeartbeats 8000000 in
set_option maxRecDepth 100000 in
theorem lw_loop {p : Program} {l : Launch} {e : Env} {s : State} {m : MethodId} {below : List Frame} {meth : Method} {c : Code} {b L : Nat} {xs : Nat → Int32} {D : va_G} {cA cB cL : ClassId} {A : Nat → Prop} {qx qm : Nat → Nat} {qo : Nat} (E9 : lwE p l s m meth c b L xs D cA cB cL A qx qm qo) (hA9 : ∀ q, A q → s.heap.size ≤ q) (hr : meth.sig.returnType = ret) (hlk : meth.locks = false) :
    ∀ (k i : Nat), L ≤ i + k → i ≤ L → ∀ (n th : Nat) (st : Bool) (sz bt so fc : Nat → Nat) (ofs : Nat → Int32) (tg : Nat → Nat) (ch : Nat → Int32) (ad nw : Nat → Nat) (gr : Nat → Int32) (fo : Nat → Int64) (H : Heap) (locs : List Loc) (ls : Array Slot), gInv n st sz bt so fc tg ch ad nw → va_P D vwCl (lwWd qx qm qo cA cB cL n th st sz bt so fc ofs tg ch ad nw gr fo) H → va_S A s.heap H locs → lv_has ls 8 [(4, .int (nI (i))), (3, .ref (qo)), (2, .ref (qm 0)), (1, .ref (qx 0)), (0, .ref (b))] →
      W p l e room_1 s m #[Value.ref b] below meth c H locs (19 + i) (4103 + 6 * i) (lw_Z below #[Value.ref b] s) (F0 m 23 ls []) := by
  have E0 := E9
  obtain ⟨hx, hb, hml, hown, hts, hXs, hbl, hbA, hL, hl9, hK, hDx, hDm, hX⟩ := E9
  have out : ∀ (i : Nat) (H : Heap) (locs : List Loc) (ls : Array Slot), i ≤ L → va_S A s.heap H locs → W p l e room_1 s m #[Value.ref b] below meth c H locs (19 + i) (4103 + 6 * i) (lw_Z below #[Value.ref b] s) (F0 m 498 ls []) := by
    intro i H locs ls hi hS
    refine lv_iconst (v := 1) hx hb dL_law_498 (by decide) ?_
    refine va_forget (fun q hq => hA9 _ (hS.2.2 q hq)) ?_
    refine W.widen (k := 601024) (n := 7293033) (by omega) (by omega) ?_
    exact lw_ret hx hb hr hlk dL_law_499
  intro k
  induction k with
  | zero =>
    intro i hk hi n th st sz bt so fc ofs tg ch ad nw gr fo H locs ls hI hP hS hl
    refine lv_iload hx hb dL_law_23 (lv_at hl 0 rfl) ?_
    refine lv_aload_n hx hb dL_law_25 rfl (lv_at hl 4 rfl) ?_
    refine va_slen hx hb hXs hbl hbA hS dL_law_26 ?_
    refine lv_iconst (v := nI 4) hx hb dL_law_27 (by decide) ?_
    refine lv_isub hx hb dL_law_28 ?_
    refine lv_icmp_gt (tgt := 498) hx hb dL_law_29 rfl (fun _ => out i H locs ls hi hS) (fun h29 => ?_)
    have h := gf_cond hL (by omega) h29
    omega
  | succ k ih =>
    intro i hk hi n th st sz bt so fc ofs tg ch ad nw gr fo H locs ls hI hP hS hl
    refine lv_iload hx hb dL_law_23 (lv_at hl 0 rfl) ?_
    refine lv_aload_n hx hb dL_law_25 rfl (lv_at hl 4 rfl) ?_
    refine va_slen hx hb hXs hbl hbA hS dL_law_26 ?_
    refine lv_iconst (v := nI 4) hx hb dL_law_27 (by decide) ?_
    refine lv_isub hx hb dL_law_28 ?_
    refine lv_icmp_gt (tgt := 498) hx hb dL_law_29 rfl (fun _ => out i H locs ls hi hS) (fun h29 => ?_)
    have hiL := gf_cond hL (by omega) h29
    have G9 : lwGo p l e s m below meth c b D cA cB cL A qx qm qo i := by
      intro n th st sz bt so fc ofs tg ch ad nw gr fo H locs ls hI hP hS hl
      refine lv_iinc (k := 0) (lv' := [(4, .int (nI (i + 4))), (3, .ref (qo)), (2, .ref (qm 0)), (1, .ref (qx 0)), (0, .ref (b))]) hx hb dL_law_492 hl rfl (gi_inc4 _) (by decide) rfl (fun ls hl => ?_)
      refine lv_goto (tgt := 23) hx hb dL_law_495 rfl ?_
      refine W.widen (k := 19 + (i + 4)) (n := 4103 + 6 * (i + 4)) (by omega) (by omega) ?_
      exact ih (i + 4) (by omega) hiL n th st sz bt so fc ofs tg ch ad nw gr fo H locs ls hI hP hS hl
    refine lv_aload_n hx hb dL_law_32 rfl (lv_at hl 4 rfl) ?_
    refine lv_iload hx hb dL_law_33 (lv_at hl 0 rfl) ?_
    refine gi_sld hx hb hXs hbl hbA hS (by omega) (by omega) dL_law_35 ?_
    refine lv_bipush (v := nI 7) hx hb dL_law_36 (by decide) ?_
    refine lv_iand hx hb dL_law_38 ?_
    obtain ⟨j, hj, ej⟩ := pk_andE (xs i) (m := nI 7) 3 (by decide)
    refine gi_top (y := nI j) ej ?_
    have hj8 : j < 8 := hj
    have hjs : j = 0 ∨ j = 1 ∨ j = 2 ∨ j = 3 ∨ j = 4 ∨ j = 5 ∨ j = 6 ∨ j = 7 := by omega
    rcases hjs with rfl | rfl | rfl | rfl | rfl | rfl | rfl | rfl
    · refine lv_tableIn (tgt := 84) (off := 45) hx hb dL_law_39 (by decide) (by decide) (by decide) (by decide) ?_
      exact lc_line E0 hiL G9 hI hP hS hl
    · refine lv_tableIn (tgt := 128) (off := 89) hx hb dL_law_39 (by decide) (by decide) (by decide) (by decide) ?_
      exact lc_form E0 hiL G9 hI hP hS hl
    · refine lv_tableIn (tgt := 208) (off := 169) hx hb dL_law_39 (by decide) (by decide) (by decide) (by decide) ?_
      exact lc_aim E0 hiL G9 hI hP hS hl
    · refine lv_tableIn (tgt := 268) (off := 229) hx hb dL_law_39 (by decide) (by decide) (by decide) (by decide) ?_
      exact lc_clear E0 hiL G9 hI hP hS hl
    · refine lv_tableIn (tgt := 281) (off := 242) hx hb dL_law_39 (by decide) (by decide) (by decide) (by decide) ?_
      exact lc_settle E0 hiL G9 hI hP hS hl
    · refine lv_tableIn (tgt := 325) (off := 286) hx hb dL_law_39 (by decide) (by decide) (by decide) (by decide) ?_
      exact lc_told E0 hiL G9 hI hP hS hl
    · refine lv_tableIn (tgt := 393) (off := 354) hx hb dL_law_39 (by decide) (by decide) (by decide) (by decide) ?_
      exact lc_value E0 hiL G9 hI hP hS hl
    · refine lv_tableIn (tgt := 448) (off := 409) hx hb dL_law_39 (by decide) (by decide) (by decide) (by decide) ?_
      exact lc_wrong E0 hiL G9 hI hP hS hl
