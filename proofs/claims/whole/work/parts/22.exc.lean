/-! what a throw needs of the machine beside the tables' words, and a throw as one row -/
abbrev sISE : String := "java/lang/IllegalStateException"
abbrev sIAE : String := "java/lang/IllegalArgumentException"
abbrev sIOB : String := "java/lang/IndexOutOfBoundsException"
abbrev sUOE : String := "java/lang/UnsupportedOperationException"
abbrev sCH : List String := ["java/lang/RuntimeException", "java/lang/Exception"]
def gNB : List Cond := [.declares (Bundle.initS "java/lang/RuntimeException"), .declares (Bundle.initS "java/lang/Exception"), .declares (Bundle.initS "java/lang/Throwable"), .castable sISE sISE, .castable sIAE sIAE, .castable sIOB sIOB, .castable sUOE sUOE]
def gSTR : List (Nat × String) := [(44, "there are 120 lines"), (55, "no form has such numbers"), (58, "there is no line"), (60, "the last line has 4 forms"), (75, "no such line or target"), (84, "the end is above 4096"), (96, "a line has no form that fits"), (102, "what is 0, 1 or 2"), (104, "not settled"), (106, "no such line")]
def gNC : List (String × String) := [(sISE, sIAE), (sUOE, sISE), (sIOB, sISE), (sIAE, sISE), (sIAE, sIOB)]
def gX (A : Nat → Prop) (U : State) (H : Heap) : Prop :=
  vx_Zq Bundle.tN "UNASSIGNED_STACK" Bundle.steD A U H ∧ vx_Zq Bundle.tN "SUPPRESSED_SENTINEL" Bundle.listD A U H ∧ (∀ w ∈ gNB, va_Nw w U) ∧ (∀ q ∈ gSTR, ∃ sa : Nat, vk_R RX0 q.1 q.2 sa U) ∧ ∀ q ∈ gNC, va_Nc q.1 q.2 U
theorem gNB_warm {s U : State} (hW : s.WarmedH U.vm) (h : ∀ w ∈ gNB, va_Nw w s) : ∀ w ∈ gNB, va_Nw w U := by
  intro w hw
  have h0 := h w hw
  simp only [gNB, List.mem_cons, List.not_mem_nil, or_false] at hw
  rcases hw with rfl | rfl | rfl | rfl | rfl | rfl | rfl
  · exact va_Nw.warmD hW h0
  · exact va_Nw.warmD hW h0
  · exact va_Nw.warmD hW h0
  · exact va_Nw.warmC hW h0
  · exact va_Nw.warmC hW h0
  · exact va_Nw.warmC hW h0
  · exact va_Nw.warmC hW h0
theorem gNB_ot : ∀ w ∈ gNB, w.onTables = true := by decide +kernel
theorem gX_warm {A : Nat → Prop} {s U : State} {H H1 : Heap} (h : gX A s H) (hW : s.WarmedH U.vm) (hq : ∀ a : Nat, a < H.size → ¬ A a → H1[a]? = H[a]?) : gX A U H1 :=
  ⟨(h.1.kept hq).moved hW.alike, (h.2.1.kept hq).moved hW.alike, gNB_warm hW h.2.2.1, fun q hq9 => (h.2.2.2.1 q hq9).elim fun sa h9 => ⟨sa, h9.warm hW⟩, fun q hq9 => va_Nc.moved hW.alike (h.2.2.2.2 q hq9)⟩
theorem gX_blind {A : Nat → Prop} {U : State} {g : JFrame} {mk : MethodId} {a : Array Value} (h : gX A U U.heap) : gX A (U.calling g mk a) (U.calling g mk a).heap :=
  ⟨vx_Zq.moved (u := U) (U := U.calling g mk a) (Vm.Alike.refl U.vm) h.1, vx_Zq.moved (u := U) (U := U.calling g mk a) (Vm.Alike.refl U.vm) h.2.1, fun w hw => va_Nw.same (u := U) (U := U.calling g mk a) (gNB_ot w hw) rfl (h.2.2.1 w hw), fun q hq => (h.2.2.2.1 q hq).elim fun sa h9 => ⟨sa, vk_R.same (u := U) (U := U.calling g mk a) rfl h9⟩, fun q hq => va_Nc.moved (u := U) (U := U.calling g mk a) (Vm.Alike.refl U.vm) (h.2.2.2.2 q hq)⟩
def gPreX (D : va_G) (cl : List vw_C) (tys : List (ClassId × FieldType)) (ws : va_W) (A : Nat → Prop) (av : List Value) : Array Value → State → Prop :=
  va_Pc av (fun U => va_P D cl ws U.heap ∧ va_K D cl tys U ∧ va_D A ws ∧ gX A U U.heap)
theorem gPreX_blind {D : va_G} {cl : List vw_C} {tys : List (ClassId × FieldType)} {ws : va_W} {A : Nat → Prop} {av : List Value} : FrameBlind (gPreX D cl tys ws A av) := by
  intro a U g mk q
  obtain ⟨q0, qP, qK, qD, qX⟩ := q
  exact ⟨q0, qP, va_K.moved (u := U) (U := U.calling g mk a) (Vm.Alike.refl U.vm) qK, qD, gX_blind qX⟩
def gXC (E9 : String) (D : va_G) (cl : List vw_C) (ws : va_W) (A : Nat → Prop) : String → State → State → Prop := fun E st t => E = E9 ∧ va_P D cl ws t.heap ∧ va_F A st t
def gNo : Array Value → State → Outcome → State → Prop := fun _ _ _ _ => False
section GX
variable {p : Program} {l : Launch} {e : Env} {R : Room} {s : State} {m : MethodId} {args : Array Value} {below : List Frame} {meth : Method} {c : Code} {H : Heap} {locs : List Loc} {cc : ByteArray} {pc : Nat} {ls : Array Slot} {D : va_G} {cl : List vw_C} {A : Nat → Prop} {ws : va_W}
theorem gi_throw (hexec : p.tables.exec = Jvm.exec) (hb : c.code = cc) (hl : l.stackTraces = false) {cls text : String} {ik is ic : Nat} {Ts : List Cond} (hts : ∀ w ∈ Ts, w.before args s = true) (hTT : ∀ w ∈ gTT, w ∈ Ts)
    (hown : s.vm.findClass RX0 = some m.cls) (hcls : Bundle.fit cls = true) (hk : Cond.classLink RX0 ik cls ∈ gTT) (hini : Cond.initialized cls ∈ gTT) (hstr : (is, text) ∈ gSTR)
    (ha1 : ∀ w ∈ (vx_atS RX0 ic cls sCH).filter goodWord, w ∈ gTT) (ha2 : ∀ w ∈ (vx_atS RX0 ic cls sCH).filter (fun w => !goodWord w), w ∈ gNB) (hgood : ∀ w ∈ Cond.classLink RX0 ik cls :: Cond.initialized cls :: vx_atS RX0 ic cls sCH, vx_ot w = true)
    (hX : gX A s s.heap) (hP : va_P D cl ws H) (hS : va_S A s.heap H locs) (hsize : ls.size = c.maxLocals) (hnt : ∀ x ∈ c.exceptionTable.toList, False) (hlk : meth.locks = false)
    (hR : 5 < R.frames ∧ 82 ≤ R.locals ∧ 1 ≤ R.cells ∧ 6 ≤ R.slots)
    (d0 : decode cc pc = .ok (.new ik, 3)) (d3 : decode cc (pc + 3) = .ok (.dup, 1)) (d4 : decode cc (pc + 4) = .ok (.ldc is, 2)) (d6 : decode cc (pc + 6) = .ok (.invokespecial ic, 3)) (d9 : decode cc (pc + 9) = .ok (.athrow, 1)) :
    W p l e R s m args below meth c H locs 0 0 (vx_MQ below gNo (gXC cls D cl ws A) args s 1 6 A) (F0 m pc ls []) := by
  obtain ⟨sa, hsa⟩ := hX.2.2.2.1 _ hstr
  have hat : ∀ w ∈ vx_atS RX0 ic cls sCH, w.before args s = true := vx_hat (fun w hw => hts w (hTT w (ha1 w hw))) ha2 (fun w hw => va_Nw.use (gNB_ot w hw) (hX.2.2.1 w hw))
  refine vx_throwS (text := text) (sa := sa) (names := sCH) (A := A) hexec hb hl hown hcls (by decide +kernel) (hts _ (hTT _ hk)) (hts _ (hTT _ hini)) hsa hat hgood hX.1 hX.2.1 hS hsize d0 d3 d4 d6 d9 (fun x hx => (hnt x hx).elim) hR.1 hR.2.1 (by omega) (by omega) hlk ?_ hS.2.2 (Nat.le_refl _) (Nat.le_refl _)
  intro t ha hz hq
  refine ⟨rfl, hP.kept (fun k q hk9 => hq q.1 (hP k q hk9).lt), Nat.le_trans hS.1 hz, fun q h1 h2 => ?_⟩
  rw [hq q (Nat.lt_of_lt_of_le h1 hS.1)]
  exact hS.2.1 q h1 h2
end GX
theorem x1_46 : ∀ w ∈ (vx_atS RX0 46 sISE sCH).filter goodWord, w ∈ gTT := by decide +kernel
theorem x2_46 : ∀ w ∈ (vx_atS RX0 46 sISE sCH).filter (fun w => !goodWord w), w ∈ gNB := by decide +kernel
theorem x3_46 : ∀ w ∈ Cond.classLink RX0 42 sISE :: Cond.initialized sISE :: vx_atS RX0 46 sISE sCH, vx_ot w = true := by decide +kernel
theorem x1_57 : ∀ w ∈ (vx_atS RX0 57 sIAE sCH).filter goodWord, w ∈ gTT := by decide +kernel
theorem x2_57 : ∀ w ∈ (vx_atS RX0 57 sIAE sCH).filter (fun w => !goodWord w), w ∈ gNB := by decide +kernel
theorem x3_57 : ∀ w ∈ Cond.classLink RX0 53 sIAE :: Cond.initialized sIAE :: vx_atS RX0 57 sIAE sCH, vx_ot w = true := by decide +kernel
theorem x1_77 : ∀ w ∈ (vx_atS RX0 77 sIOB sCH).filter goodWord, w ∈ gTT := by decide +kernel
theorem x2_77 : ∀ w ∈ (vx_atS RX0 77 sIOB sCH).filter (fun w => !goodWord w), w ∈ gNB := by decide +kernel
theorem x3_77 : ∀ w ∈ Cond.classLink RX0 73 sIOB :: Cond.initialized sIOB :: vx_atS RX0 77 sIOB sCH, vx_ot w = true := by decide +kernel
theorem x1_98 : ∀ w ∈ (vx_atS RX0 98 sUOE sCH).filter goodWord, w ∈ gTT := by decide +kernel
theorem x2_98 : ∀ w ∈ (vx_atS RX0 98 sUOE sCH).filter (fun w => !goodWord w), w ∈ gNB := by decide +kernel
theorem x3_98 : ∀ w ∈ Cond.classLink RX0 94 sUOE :: Cond.initialized sUOE :: vx_atS RX0 98 sUOE sCH, vx_ot w = true := by decide +kernel
