/-! ### throws of TrapMachine -/
abbrev IAE : String := "java/lang/IllegalArgumentException"
abbrev nmX : List String := ["java/lang/RuntimeException", "java/lang/Exception"]
def stL : List (Nat × String) := [(40, "no word of memory has this address"), (45, "the lines are 0 to 3"), (70, "the registers are 0 to 7, 8 is PLACE, 9 LINK"), (75, "the control registers are 0 to 17"), (81, "the entries are 0 to 3, their parts 0 to 5")]
def dcL : List MethodName := [Bundle.initS "java/lang/RuntimeException", Bundle.initS "java/lang/Exception", Bundle.initS Bundle.tN]
/-- what a throw needs of the start -/
def XP (A : Nat → Prop) (U : State) (H : Heap) : Prop := vx_Zq Bundle.tN "UNASSIGNED_STACK" Bundle.steD A U H ∧ vx_Zq Bundle.tN "SUPPRESSED_SENTINEL" Bundle.listD A U H ∧ va_Nw (.castable IAE IAE) U ∧ (∀ q ∈ stL, ∃ sa, vk_R RX3 q.1 q.2 sa U) ∧ ∀ y ∈ dcL, va_Nw (.declares y) U
theorem XP.warm {A : Nat → Prop} {s U : State} {H : Heap} (hW : s.WarmedH U.vm) (h : XP A s H) : XP A U H := ⟨h.1.moved hW.alike, h.2.1.moved hW.alike, va_Nw.warmC hW h.2.2.1, fun q hq => by obtain ⟨sa, r⟩ := h.2.2.2.1 q hq; exact ⟨sa, r.warm hW⟩, fun y hy => va_Nw.warmD hW (h.2.2.2.2 y hy)⟩
theorem XP.kept {A : Nat → Prop} {U : State} {H H1 : Heap} (h : XP A U H) (hq : ∀ a : Nat, a < H.size → ¬ A a → H1[a]? = H[a]?) : XP A U H1 := ⟨h.1.kept hq, h.2.1.kept hq, h.2.2⟩
theorem XP.narrow {A B : Nat → Prop} {U : State} {H : Heap} (h : XP A U H) (hAB : ∀ q, B q → A q) : XP B U H := ⟨h.1.narrow hAB, h.2.1.narrow hAB, h.2.2⟩
theorem bl_XP {A : Nat → Prop} : bl_X (fun U => XP A U U.heap) := fun U g mk a h => ⟨vx_Zq.moved (u := U) (U := U.calling g mk a) (Vm.Alike.refl U.vm) h.1, vx_Zq.moved (u := U) (U := U.calling g mk a) (Vm.Alike.refl U.vm) h.2.1, va_Nw.same rfl rfl h.2.2.1, fun q hq => by obtain ⟨sa, r⟩ := h.2.2.2.1 q hq; exact ⟨sa, vk_R.same rfl r⟩, fun y hy => va_Nw.same rfl rfl (h.2.2.2.2 y hy)⟩
theorem pr_XP {A : Nat → Prop} {s : State} {H : Heap} {locs : List Loc} {wc : va_W} (h : XP A s s.heap) (hS : va_S A s.heap H locs) (hs : ∀ q, in_W wc q → A q) : ∀ U : State, U.heap = H → s.WarmedH U.vm → (fun U : State => XP (in_W wc) U U.heap) U := fun U hU hW => by
  show XP (in_W wc) U U.heap
  rw [hU]
  exact ((h.kept (fun a h1 h2 => hS.2.1 a h1 h2)).narrow hs).warm hW
def xQv : Array Value → State → Outcome → State → Prop := va_Qv (S := Unit) (fun _ => False) (fun _ _ => True) (fun _ => False)
def xQi : Array Value → State → Outcome → State → Prop := va_Qi (S := Unit) (fun _ _ => False) (fun _ _ => True) (fun _ => False)
def xXC : String → State → State → Prop := vx_X (S := Unit) (fun _ => True) (fun E _ _ => E = IAE) (fun _ => False)
theorem at_bad : ∀ w ∈ (vx_atS RX3 42 IAE nmX).filter (fun w => !goodWord w), w ∈ [Cond.castable IAE IAE, Cond.declares (Bundle.initS "java/lang/RuntimeException"), Cond.declares (Bundle.initS "java/lang/Exception"), Cond.declares (Bundle.initS Bundle.tN)] := by decide +kernel
theorem at_ot : ∀ w ∈ Cond.classLink RX3 38 IAE :: Cond.initialized IAE :: vx_atS RX3 42 IAE nmX, vx_ot w = true := by decide +kernel
theorem xt_throw {p : Program} {l : Launch} {e : Env} {R : Room} {s : State} {m : MethodId} {args : Array Value} {below : List Frame} {meth : Method} {c : Code} {Qc : Array Value → State → Outcome → State → Prop} {ls : Array Slot} {cc : ByteArray} {pc is n : Nat} {text : String} {A : Nat → Prop} {wsM : List Cond}
    (hx : p.tables.exec = Jvm.exec) (hb : c.code = cc) (hst : l.stackTraces = false) (hown : s.vm.findClass RX3 = some m.cls) (hts : ∀ w ∈ wsM, w.before args s = true) (hw : ∀ w ∈ (vx_atS RX3 42 IAE nmX).filter goodWord, w ∈ wsM)
    (hk : (Cond.classLink RX3 38 IAE).before args s = true) (hini : (Cond.initialized IAE).before args s = true) (hXP : XP A s s.heap) (hin : (is, text) ∈ stL) (hml : c.maxLocals = n) (hsz : ls.size = n)
    (d0 : decode cc pc = .ok (.new 38, 3)) (d3 : decode cc (pc + 3) = .ok (.dup, 1)) (d4 : decode cc (pc + 4) = .ok (.ldc is, 2)) (d6 : decode cc (pc + 6) = .ok (.invokespecial 42, 3)) (d9 : decode cc (pc + 9) = .ok (.athrow, 1))
    (ht : ∀ x ∈ c.exceptionTable.toList, False) (hf : 5 < R.frames) (hlo : 82 ≤ R.locals) (hc1 : 1 ≤ R.cells) (hs1 : 6 ≤ R.slots) (hlocks : meth.locks = false) :
    W p l e R s m args below meth c s.heap [] 0 0 (vx_MQ below Qc xXC args s 1 6 (fun _ => False)) (F0 m pc ls []) := by
  obtain ⟨sa, hR⟩ := hXP.2.2.2.1 (is, text) hin
  refine vx_throwS (A := A) (own := RX3) (cls := IAE) (text := text) (names := nmX) (ik := 38) (is := is) (ic := 42) (sa := sa) hx hb hst hown (by decide +kernel) (by decide +kernel) hk hini hR (vx_hat (fun w h => hts w (hw w h)) at_bad (vx_c (va_Nw.use rfl hXP.2.2.1) (vx_c (va_Nw.use rfl (hXP.2.2.2.2 _ (List.mem_of_getElem? (i := 0) rfl))) (vx_c (va_Nw.use rfl (hXP.2.2.2.2 _ (List.mem_of_getElem? (i := 1) rfl))) (vx_c (va_Nw.use rfl (hXP.2.2.2.2 _ (List.mem_of_getElem? (i := 2) rfl))) vx_n))))) at_ot hXP.1 hXP.2.1 va_S.rf (hsz.trans hml.symm) d0 d3 d4 d6 d9 (fun x h => (ht x h).elim) hf hlo (by omega) (by omega) hlocks (fun t _ h1 h2 => ⟨(), trivial, rfl, h1, fun q h _ => h2 q h⟩) (fun z h => by cases h) (by omega) (by omega)
set_option maxHeartbeats 4000000 in
set_option maxRecDepth 100000 in
theorem kX3_load_x (l : Launch) (hst : l.stackTraces = false) (D : va_G) (k : Nat → ClassId) (q : Nat → Nat) (u : TM) (a1 : Int32) (a2 : Int32) (h9 : fX3_isInMemory a1 = (0 : Int32)) : vx_Met l yX3_load wsX3_load { frames := 6, cells := 1, slots := 6, locals := 82 } (rd_P D vwCl (tyL k) (wT k q u) (fun U => XP (in_W (wT k q u)) U U.heap) [.ref (q 0), .int a1, .int a2]) xQv xXC 1 6 (fun _ => False) := by
  refine vx_ofW (cc := cX3_load) (maxL := 3) (ret := none) (by decide) rfl ?_
  intro p e s m args below meth c s₁ B hml ht hv0
  obtain ⟨rfl, hP, hK, hX⟩ := hv0
  have hx := B.exec
  have hb := B.bytes
  have hts := atoms_spec (ws := wsX3_load) B.pre
  have hown : s.vm.findClass RX3 = some m.cls := findClass_of_methodNamed B.named
  have hlocks := B.notSynchronized
  have hl := lv_entry ([.ref (q 0), .int a1, .int a2]) (n := 3) (Nat.le_of_ble_eq_true rfl)
  rw [lg_entry_eq]
  generalize (lg_sl ([.ref (q 0), .int a1, .int a2]) ++ List.replicate (3 - (lg_sl ([.ref (q 0), .int a1, .int a2])).length) Slot.unset).toArray = ls at hl ⊢
  have hl : lv_has ls 3 [(0, .ref (q 0)), (1, .int a1), (2, .int a2)] := hl
  have T : W p l e (headSpec wsX3_load { frames := 6, cells := 1, slots := 6, locals := 82 }).room s m ([.ref (q 0), .int a1, .int a2] : List Value).toArray below meth c s.heap [] 0 0 (vx_MQ below xQv xXC ([.ref (q 0), .int a1, .int a2] : List Value).toArray s 1 6 (fun _ => False)) (F0 m 7 ls []) := xt_throw (is := 40) (text := "no word of memory has this address") (wsM := wsX3_load) hx hb hst hown hts (fun w h => List.mem_cons_of_mem _ (List.mem_append_right _ h)) (hts _ (by decide +kernel)) (hts _ (by decide +kernel)) hX (by decide) hml hl.1 dX3_load_7 dX3_load_10 dX3_load_11 dX3_load_13 dX3_load_16 ht (by decide) (by decide) (by decide) (by decide) hlocks
  refine lv_iload_n hx hb dX3_load_0 rfl (lv_at hl 1 rfl) ?_
  refine rd_call (r := (fX3_isInMemory a1)) (W.runS (As := [.int a1]) (rest := []) ⟨hx, hb, hml, hown, hts⟩ (kX3_isInMemory l a1) (va_cwS 1 hts gX3_load_X3_isInMemory rfl rfl rfl (by decide +kernel) ⟨Nat.le_of_ble_eq_true rfl, Nat.le_of_ble_eq_true rfl⟩) preEq rfl rfl hl.1 rfl (lv_room (Nat.le_of_ble_eq_true rfl)) dX3_load_1 ⟨Nat.zero_le _, Nat.zero_le _⟩) ?_
  exact lv_if_ne (tgt := 17) hx hb dX3_load_4 (by decide) (fun c9 => absurd h9 c9) (fun _ => T)
set_option maxHeartbeats 4000000 in
set_option maxRecDepth 100000 in
theorem kX3_word_x (l : Launch) (hst : l.stackTraces = false) (D : va_G) (k : Nat → ClassId) (q : Nat → Nat) (u : TM) (a1 : Int32) (h9 : fX3_isInMemory a1 = (0 : Int32)) : vx_Met l yX3_word wsX3_word { frames := 6, cells := 1, slots := 6, locals := 82 } (rd_P D vwCl (tyL k) (wT k q u) (fun U => XP (in_W (wT k q u)) U U.heap) [.ref (q 0), .int a1]) xQi xXC 1 6 (fun _ => False) := by
  refine vx_ofW (cc := cX3_word) (maxL := 2) (ret := (some .int)) (by decide) rfl ?_
  intro p e s m args below meth c s₁ B hml ht hv0
  obtain ⟨rfl, hP, hK, hX⟩ := hv0
  have hx := B.exec
  have hb := B.bytes
  have hts := atoms_spec (ws := wsX3_word) B.pre
  have hown : s.vm.findClass RX3 = some m.cls := findClass_of_methodNamed B.named
  have hlocks := B.notSynchronized
  have hl := lv_entry ([.ref (q 0), .int a1]) (n := 2) (Nat.le_of_ble_eq_true rfl)
  rw [lg_entry_eq]
  generalize (lg_sl ([.ref (q 0), .int a1]) ++ List.replicate (2 - (lg_sl ([.ref (q 0), .int a1])).length) Slot.unset).toArray = ls at hl ⊢
  have hl : lv_has ls 2 [(0, .ref (q 0)), (1, .int a1)] := hl
  have T : W p l e (headSpec wsX3_word { frames := 6, cells := 1, slots := 6, locals := 82 }).room s m ([.ref (q 0), .int a1] : List Value).toArray below meth c s.heap [] 0 0 (vx_MQ below xQi xXC ([.ref (q 0), .int a1] : List Value).toArray s 1 6 (fun _ => False)) (F0 m 7 ls []) := xt_throw (is := 40) (text := "no word of memory has this address") (wsM := wsX3_word) hx hb hst hown hts (fun w h => List.mem_cons_of_mem _ (List.mem_append_right _ h)) (hts _ (by decide +kernel)) (hts _ (by decide +kernel)) hX (by decide) hml hl.1 dX3_word_7 dX3_word_10 dX3_word_11 dX3_word_13 dX3_word_16 ht (by decide) (by decide) (by decide) (by decide) hlocks
  refine lv_iload_n hx hb dX3_word_0 rfl (lv_at hl 1 rfl) ?_
  refine rd_call (r := (fX3_isInMemory a1)) (W.runS (As := [.int a1]) (rest := []) ⟨hx, hb, hml, hown, hts⟩ (kX3_isInMemory l a1) (va_cwS 1 hts gX3_word_X3_isInMemory rfl rfl rfl (by decide +kernel) ⟨Nat.le_of_ble_eq_true rfl, Nat.le_of_ble_eq_true rfl⟩) preEq rfl rfl hl.1 rfl (lv_room (Nat.le_of_ble_eq_true rfl)) dX3_word_1 ⟨Nat.zero_le _, Nat.zero_le _⟩) ?_
  exact lv_if_ne (tgt := 17) hx hb dX3_word_4 (by decide) (fun c9 => absurd h9 c9) (fun _ => T)
set_option maxHeartbeats 4000000 in
set_option maxRecDepth 100000 in
theorem kX3_line_x (l : Launch) (hst : l.stackTraces = false) (D : va_G) (k : Nat → ClassId) (q : Nat → Nat) (u : TM) (a1 : Int32) (a2 : Int32) (h9 : ¬ (¬ a1 < (0 : Int32) ∧ a1 ≤ (3 : Int32))) : vx_Met l yX3_line wsX3_line { frames := 6, cells := 1, slots := 6, locals := 82 } (rd_P D vwCl (tyL k) (wT k q u) (fun U => XP (in_W (wT k q u)) U U.heap) [.ref (q 0), .int a1, .int a2]) xQv xXC 1 6 (fun _ => False) := by
  refine vx_ofW (cc := cX3_line) (maxL := 3) (ret := none) (by decide) rfl ?_
  intro p e s m args below meth c s₁ B hml ht hv0
  obtain ⟨rfl, hP, hK, hX⟩ := hv0
  have hx := B.exec
  have hb := B.bytes
  have hts := atoms_spec (ws := wsX3_line) B.pre
  have hown : s.vm.findClass RX3 = some m.cls := findClass_of_methodNamed B.named
  have hlocks := B.notSynchronized
  have hl := lv_entry ([.ref (q 0), .int a1, .int a2]) (n := 3) (Nat.le_of_ble_eq_true rfl)
  rw [lg_entry_eq]
  generalize (lg_sl ([.ref (q 0), .int a1, .int a2]) ++ List.replicate (3 - (lg_sl ([.ref (q 0), .int a1, .int a2])).length) Slot.unset).toArray = ls at hl ⊢
  have hl : lv_has ls 3 [(0, .ref (q 0)), (1, .int a1), (2, .int a2)] := hl
  have T : W p l e (headSpec wsX3_line { frames := 6, cells := 1, slots := 6, locals := 82 }).room s m ([.ref (q 0), .int a1, .int a2] : List Value).toArray below meth c s.heap [] 0 0 (vx_MQ below xQv xXC ([.ref (q 0), .int a1, .int a2] : List Value).toArray s 1 6 (fun _ => False)) (F0 m 9 ls []) := xt_throw (is := 45) (text := "the lines are 0 to 3") (wsM := wsX3_line) hx hb hst hown hts (fun w h => List.mem_cons_of_mem _ (List.mem_append_right _ h)) (hts _ (by decide +kernel)) (hts _ (by decide +kernel)) hX (by decide) hml hl.1 dX3_line_9 dX3_line_12 dX3_line_13 dX3_line_15 dX3_line_18 ht (by decide) (by decide) (by decide) (by decide) hlocks
  refine lv_iload_n hx hb dX3_line_0 rfl (lv_at hl 1 rfl) ?_
  refine lv_if_lt (tgt := 9) hx hb dX3_line_1 (by decide) (fun _ => T) (fun c1 => ?_)
  refine lv_iload_n hx hb dX3_line_4 rfl (lv_at hl 1 rfl) ?_
  refine lv_iconst (v := (3 : Int32)) hx hb dX3_line_5 (by decide) ?_
  exact lv_icmp_le (tgt := 19) hx hb dX3_line_6 (by decide) (fun c2 => absurd ⟨c1, c2⟩ h9) (fun _ => T)
set_option maxHeartbeats 4000000 in
set_option maxRecDepth 100000 in
theorem kX3_register_x (l : Launch) (hst : l.stackTraces = false) (D : va_G) (k : Nat → ClassId) (q : Nat → Nat) (u : TM) (a1 : Int32) (h9 : ¬ (¬ a1 < (0 : Int32) ∧ a1 ≤ (9 : Int32))) : vx_Met l yX3_register wsX3_register { frames := 6, cells := 1, slots := 6, locals := 82 } (rd_P D vwCl (tyL k) (wT k q u) (fun U => XP (in_W (wT k q u)) U U.heap) [.ref (q 0), .int a1]) xQi xXC 1 6 (fun _ => False) := by
  refine vx_ofW (cc := cX3_register) (maxL := 2) (ret := (some .int)) (by decide) rfl ?_
  intro p e s m args below meth c s₁ B hml ht hv0
  obtain ⟨rfl, hP, hK, hX⟩ := hv0
  have hx := B.exec
  have hb := B.bytes
  have hts := atoms_spec (ws := wsX3_register) B.pre
  have hown : s.vm.findClass RX3 = some m.cls := findClass_of_methodNamed B.named
  have hlocks := B.notSynchronized
  have hl := lv_entry ([.ref (q 0), .int a1]) (n := 2) (Nat.le_of_ble_eq_true rfl)
  rw [lg_entry_eq]
  generalize (lg_sl ([.ref (q 0), .int a1]) ++ List.replicate (2 - (lg_sl ([.ref (q 0), .int a1])).length) Slot.unset).toArray = ls at hl ⊢
  have hl : lv_has ls 2 [(0, .ref (q 0)), (1, .int a1)] := hl
  have T : W p l e (headSpec wsX3_register { frames := 6, cells := 1, slots := 6, locals := 82 }).room s m ([.ref (q 0), .int a1] : List Value).toArray below meth c s.heap [] 0 0 (vx_MQ below xQi xXC ([.ref (q 0), .int a1] : List Value).toArray s 1 6 (fun _ => False)) (F0 m 10 ls []) := xt_throw (is := 70) (text := "the registers are 0 to 7, 8 is PLACE, 9 LINK") (wsM := wsX3_register) hx hb hst hown hts (fun w h => List.mem_cons_of_mem _ (List.mem_append_right _ h)) (hts _ (by decide +kernel)) (hts _ (by decide +kernel)) hX (by decide) hml hl.1 dX3_register_10 dX3_register_13 dX3_register_14 dX3_register_16 dX3_register_19 ht (by decide) (by decide) (by decide) (by decide) hlocks
  refine lv_iload_n hx hb dX3_register_0 rfl (lv_at hl 1 rfl) ?_
  refine lv_if_lt (tgt := 10) hx hb dX3_register_1 (by decide) (fun _ => T) (fun c1 => ?_)
  refine lv_iload_n hx hb dX3_register_4 rfl (lv_at hl 1 rfl) ?_
  refine lv_bipush (v := (9 : Int32)) hx hb dX3_register_5 (by decide) ?_
  exact lv_icmp_le (tgt := 20) hx hb dX3_register_7 (by decide) (fun c2 => absurd ⟨c1, c2⟩ h9) (fun _ => T)
set_option maxHeartbeats 4000000 in
set_option maxRecDepth 100000 in
theorem kX3_control_x (l : Launch) (hst : l.stackTraces = false) (D : va_G) (k : Nat → ClassId) (q : Nat → Nat) (u : TM) (a1 : Int32) (h9 : ¬ (¬ a1 < (0 : Int32) ∧ a1 ≤ (17 : Int32))) : vx_Met l yX3_control wsX3_control { frames := 6, cells := 1, slots := 6, locals := 82 } (rd_P D vwCl (tyL k) (wT k q u) (fun U => XP (in_W (wT k q u)) U U.heap) [.ref (q 0), .int a1]) xQi xXC 1 6 (fun _ => False) := by
  refine vx_ofW (cc := cX3_control) (maxL := 2) (ret := (some .int)) (by decide) rfl ?_
  intro p e s m args below meth c s₁ B hml ht hv0
  obtain ⟨rfl, hP, hK, hX⟩ := hv0
  have hx := B.exec
  have hb := B.bytes
  have hts := atoms_spec (ws := wsX3_control) B.pre
  have hown : s.vm.findClass RX3 = some m.cls := findClass_of_methodNamed B.named
  have hlocks := B.notSynchronized
  have hl := lv_entry ([.ref (q 0), .int a1]) (n := 2) (Nat.le_of_ble_eq_true rfl)
  rw [lg_entry_eq]
  generalize (lg_sl ([.ref (q 0), .int a1]) ++ List.replicate (2 - (lg_sl ([.ref (q 0), .int a1])).length) Slot.unset).toArray = ls at hl ⊢
  have hl : lv_has ls 2 [(0, .ref (q 0)), (1, .int a1)] := hl
  have T : W p l e (headSpec wsX3_control { frames := 6, cells := 1, slots := 6, locals := 82 }).room s m ([.ref (q 0), .int a1] : List Value).toArray below meth c s.heap [] 0 0 (vx_MQ below xQi xXC ([.ref (q 0), .int a1] : List Value).toArray s 1 6 (fun _ => False)) (F0 m 10 ls []) := xt_throw (is := 75) (text := "the control registers are 0 to 17") (wsM := wsX3_control) hx hb hst hown hts (fun w h => List.mem_cons_of_mem _ (List.mem_append_right _ h)) (hts _ (by decide +kernel)) (hts _ (by decide +kernel)) hX (by decide) hml hl.1 dX3_control_10 dX3_control_13 dX3_control_14 dX3_control_16 dX3_control_19 ht (by decide) (by decide) (by decide) (by decide) hlocks
  refine lv_iload_n hx hb dX3_control_0 rfl (lv_at hl 1 rfl) ?_
  refine lv_if_lt (tgt := 10) hx hb dX3_control_1 (by decide) (fun _ => T) (fun c1 => ?_)
  refine lv_iload_n hx hb dX3_control_4 rfl (lv_at hl 1 rfl) ?_
  refine lv_bipush (v := (17 : Int32)) hx hb dX3_control_5 (by decide) ?_
  exact lv_icmp_le (tgt := 20) hx hb dX3_control_7 (by decide) (fun c2 => absurd ⟨c1, c2⟩ h9) (fun _ => T)
set_option maxHeartbeats 4000000 in
set_option maxRecDepth 100000 in
theorem kX3_entry_x (l : Launch) (hst : l.stackTraces = false) (D : va_G) (k : Nat → ClassId) (q : Nat → Nat) (u : TM) (a1 : Int32) (a2 : Int32) (h9 : ¬ ((¬ a1 < (0 : Int32) ∧ a1 ≤ (3 : Int32)) ∧ (¬ a2 < (0 : Int32) ∧ a2 ≤ (5 : Int32)))) : vx_Met l yX3_entry wsX3_entry { frames := 6, cells := 1, slots := 6, locals := 82 } (rd_P D vwCl (tyL k) (wT k q u) (fun U => XP (in_W (wT k q u)) U U.heap) [.ref (q 0), .int a1, .int a2]) xQi xXC 1 6 (fun _ => False) := by
  refine vx_ofW (cc := cX3_entry) (maxL := 3) (ret := (some .int)) (by decide) rfl ?_
  intro p e s m args below meth c s₁ B hml ht hv0
  obtain ⟨rfl, hP, hK, hX⟩ := hv0
  have hx := B.exec
  have hb := B.bytes
  have hts := atoms_spec (ws := wsX3_entry) B.pre
  have hown : s.vm.findClass RX3 = some m.cls := findClass_of_methodNamed B.named
  have hlocks := B.notSynchronized
  have hl := lv_entry ([.ref (q 0), .int a1, .int a2]) (n := 3) (Nat.le_of_ble_eq_true rfl)
  rw [lg_entry_eq]
  generalize (lg_sl ([.ref (q 0), .int a1, .int a2]) ++ List.replicate (3 - (lg_sl ([.ref (q 0), .int a1, .int a2])).length) Slot.unset).toArray = ls at hl ⊢
  have hl : lv_has ls 3 [(0, .ref (q 0)), (1, .int a1), (2, .int a2)] := hl
  have T : W p l e (headSpec wsX3_entry { frames := 6, cells := 1, slots := 6, locals := 82 }).room s m ([.ref (q 0), .int a1, .int a2] : List Value).toArray below meth c s.heap [] 0 0 (vx_MQ below xQi xXC ([.ref (q 0), .int a1, .int a2] : List Value).toArray s 1 6 (fun _ => False)) (F0 m 18 ls []) := xt_throw (is := 81) (text := "the entries are 0 to 3, their parts 0 to 5") (wsM := wsX3_entry) hx hb hst hown hts (fun w h => List.mem_cons_of_mem _ (List.mem_append_right _ h)) (hts _ (by decide +kernel)) (hts _ (by decide +kernel)) hX (by decide) hml hl.1 dX3_entry_18 dX3_entry_21 dX3_entry_22 dX3_entry_24 dX3_entry_27 ht (by decide) (by decide) (by decide) (by decide) hlocks
  refine lv_iload_n hx hb dX3_entry_0 rfl (lv_at hl 1 rfl) ?_
  refine lv_if_lt (tgt := 18) hx hb dX3_entry_1 (by decide) (fun _ => T) (fun c1 => ?_)
  refine lv_iload_n hx hb dX3_entry_4 rfl (lv_at hl 1 rfl) ?_
  refine lv_iconst (v := (3 : Int32)) hx hb dX3_entry_5 (by decide) ?_
  refine lv_icmp_gt (tgt := 18) hx hb dX3_entry_6 (by decide) (fun _ => T) (fun c2 => ?_)
  refine lv_iload_n hx hb dX3_entry_9 rfl (lv_at hl 2 rfl) ?_
  refine lv_if_lt (tgt := 18) hx hb dX3_entry_10 (by decide) (fun _ => T) (fun c3 => ?_)
  refine lv_iload_n hx hb dX3_entry_13 rfl (lv_at hl 2 rfl) ?_
  refine lv_iconst (v := (5 : Int32)) hx hb dX3_entry_14 (by decide) ?_
  exact lv_icmp_le (tgt := 28) hx hb dX3_entry_15 (by decide) (fun c4 => absurd ⟨⟨c1, Int32.not_lt.mp c2⟩, ⟨c3, c4⟩⟩ h9) (fun _ => T)
