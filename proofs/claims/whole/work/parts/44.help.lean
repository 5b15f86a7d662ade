/-! ### the law's own helpers -/
theorem met_ofWH {l : Launch} {y : MethodName} {ws ws' : List Cond} {rm : Room} {Pc : Array Value → State → Prop} {Qc : Array Value → State → Outcome → State → Prop} {mc ms : Nat} {free : Addr → Prop} {cc : ByteArray} {maxL : Nat} {ret : Option FieldType} {hh : List (Nat × Nat × Nat × Nat)}
    (hy : plainName y.cls = true) (hw : ws = Cond.codeWith y cc maxL ret hh :: ws')
    (body : ∀ p e s m args below meth c s₁, BodyLoose p l y (headSpec ws rm) cc maxL ret e s m args below meth c s₁ → c.maxLocals = maxL → Pc args s →
      W p l e (headSpec ws rm).room s m args below meth c s.heap [] 0 0 (MQ below Qc args s mc ms free) (entryFrame m args maxL)) : Met l y ws rm Pc Qc mc ms free := by
  refine MetFree.of_bodyS (code := cc) (maxLocals := maxL) (ret := ret) hy ?_ ?_
  · intro args s m h hn
    obtain ⟨m9, meth, c, hn9, h1, h2, h3, h4, -, h5, h6, -⟩ := Cond.codeWith_spec (atoms_spec (ws := ws) h _ (by rw [hw]; exact List.mem_cons_self))
    cases hn.symm.trans hn9
    exact ⟨meth, c, h1, h2, h3, h4, h5, h6⟩
  · intro p e s m args below meth c s₁ B hml hP _
    have hh0 : s₁.heap = s.heap := by rw [B.state]; rfl
    obtain ⟨t, a1, o, b1, b2, b3⟩ := body p e s m args below meth c s₁ B hml hP s₁ hh0 (Stand.of_body B)
    exact ⟨t, o, a1, b1, b2, b3⟩
def xR1 : Array Value → State → Outcome → State → Prop := va_Qi (S := Unit) (fun r _ => r = (1 : Int32)) (fun _ _ => True) (fun _ => False)
/-- the out array -/
def wO (k : Nat → ClassId) (oa : Nat) (f : Nat → Int64) : va_W := [(oa, .inl (k 3, 1, .inr (.inl f)))]
def wTO (k : Nat → ClassId) (q : Nat → Nat) (u : TM) (oa : Nat) (f : Nat → Int64) : va_W := wT k q u ++ wO k oa f

set_option maxHeartbeats 4000000 in
set_option maxRecDepth 100000 in
theorem kL_load (l : Launch) (D : va_G) (k : Nat → ClassId) (q : Nat → Nat) (u : TM) (a1 : Int32) (a2 : Int32) (h9 : ¬ fX3_isInMemory a1 = (0 : Int32)) (o : TM) (ho : fX3_load u a1 a2 = o) : Met l yL_load wsL_load { frames := 2, cells := 0, slots := 0, locals := 42 } (wr_P D vwCl (tyL k) (wT k q u) (fun _ => True) [.ref (q 0), .int a1, .int a2]) (wr_Q D vwCl (some (.int (0 : Int32))) (wT k q u) (wT k q o)) 0 0 (in_W (wT k q u)) := by
  refine met_ofWH (cc := cL_load) (maxL := 4) (ret := (some .int)) (hh := [(0, 6, 9, 13)]) (by decide) rfl ?_
  intro p e s m args below meth c s₁ B hml hv0
  obtain ⟨rfl, hP, hK, hX, hD0⟩ := hv0
  have hx := B.exec
  have hb := B.bytes
  have hr := B.returns
  have hts := atoms_spec (ws := wsL_load) B.pre
  have hown : s.vm.findClass RL = some m.cls := findClass_of_methodNamed B.named
  have hlocks := B.notSynchronized
  have hD : va_D (in_W (wT k q u)) (wT k q u) := wD_self hD0
  have hS : va_S (in_W (wT k q u)) s.heap s.heap [] := va_S.rf
  have hl := lv_entry ([.ref (q 0), .int a1, .int a2]) (n := 4) (Nat.le_of_ble_eq_true rfl)
  rw [lg_entry_eq]
  generalize (lg_sl ([.ref (q 0), .int a1, .int a2]) ++ List.replicate (4 - (lg_sl ([.ref (q 0), .int a1, .int a2])).length) Slot.unset).toArray = ls at hl ⊢
  have hl : lv_has ls 4 [(0, .ref (q 0)), (1, .int a1), (2, .int a2)] := hl
  refine lv_aload_n hx hb dL_load_0 rfl (lv_at hl 0 rfl) ?_
  refine lv_iload_n hx hb dL_load_1 rfl (lv_at hl 1 rfl) ?_
  refine lv_iload_n hx hb dL_load_2 rfl (lv_at hl 2 rfl) ?_
  refine wr_call (r := none) (ws' := wT k q o) (W.runV (C := RX3) (b := (q 0)) (As := [.int a1, .int a2]) (rest := []) ⟨hx, hb, hml, hown, hts⟩ (kX3_load l D k q u a1 a2 h9 o ho) (cwV 2 hts gL_load_X3_load rfl rfl rfl (by decide +kernel) ⟨Nat.le_of_ble_eq_true rfl, Nat.le_of_ble_eq_true rfl⟩) (wr_preV bl_T pr_T hK hP hD (va_recv hK hP (ci := 2) (q0 := 0) rfl rfl)) rfl rfl hl.1 rfl (lv_room (Nat.le_of_ble_eq_true rfl)) dL_load_3 ⟨Nat.zero_le _, Nat.zero_le _⟩) hP hD hS [0, 1, 2, 3, 4, 5, 6, 7, 8, 9, 10] [] [0, 1, 2, 3, 4, 5, 6, 7, 8, 9, 10] allT (by decide) prmT adrT (fun H locs hP hD hS => ?_)
  refine lv_goto (tgt := 12) hx hb dL_load_6 (by decide) ?_
  refine lv_iconst (v := (0 : Int32)) hx hb dL_load_12 (by decide) ?_
  exact W.iret (v := (0 : Int32)) hx hb hr (wr_end rfl rfl hP hS) hS.2.2 dL_load_13

set_option maxHeartbeats 4000000 in
set_option maxRecDepth 100000 in
theorem kL_load_x (l : Launch) (hst : l.stackTraces = false) (D : va_G) (k : Nat → ClassId) (q : Nat → Nat) (u : TM) (a1 : Int32) (a2 : Int32) (h9 : fX3_isInMemory a1 = (0 : Int32)) : Met l yL_load wsL_load { frames := 7, cells := 1, slots := 6, locals := 104 } (rd_P D vwCl (tyL k) (wT k q u) (fun U => XP (in_W (wT k q u)) U U.heap) [.ref (q 0), .int a1, .int a2]) xR1 1 6 (fun _ => False) := by
  refine met_ofWH (cc := cL_load) (maxL := 4) (ret := (some .int)) (hh := [(0, 6, 9, 13)]) (by decide) rfl ?_
  intro p e s m args below meth c s₁ B hml hv0
  obtain ⟨rfl, hP, hK, hX⟩ := hv0
  have hx := B.exec
  have hb := B.bytes
  have hr := B.returns
  have hts := atoms_spec (ws := wsL_load) B.pre
  have hown : s.vm.findClass RL = some m.cls := findClass_of_methodNamed B.named
  have hlocks := B.notSynchronized
  have htab : c.exceptionTable.toList = [] ++ (⟨0, 6, 9, 13⟩ : ExceptionTableEntry) :: [] := vx_table (x := yL_load) B (hts _ List.mem_cons_self)
  have hS : va_S (fun _ => False) s.heap s.heap [] := va_S.rf
  have hl := lv_entry ([.ref (q 0), .int a1, .int a2]) (n := 4) (Nat.le_of_ble_eq_true rfl)
  rw [lg_entry_eq]
  generalize (lg_sl ([.ref (q 0), .int a1, .int a2]) ++ List.replicate (4 - (lg_sl ([.ref (q 0), .int a1, .int a2])).length) Slot.unset).toArray = ls at hl ⊢
  have hl : lv_has ls 4 [(0, .ref (q 0)), (1, .int a1), (2, .int a2)] := hl
  refine lv_aload_n hx hb dL_load_0 rfl (lv_at hl 0 rfl) ?_
  refine lv_iload_n hx hb dL_load_1 rfl (lv_at hl 1 rfl) ?_
  refine lv_iload_n hx hb dL_load_2 rfl (lv_at hl 2 rfl) ?_
  refine vx_callv (A0 := fun _ => False) (H0 := s.heap) (vx_runV (C := RX3) (b := (q 0)) (As := [.int a1, .int a2]) (rest := []) ⟨hx, hb, hml, hown, hts⟩ (kX3_load_x l hst D k q u a1 a2 h9) (cwV 2 hts gL_load_X3_load rfl rfl rfl (by decide +kernel) ⟨Nat.le_of_ble_eq_true rfl, Nat.le_of_ble_eq_true rfl⟩) (rd_preV bl_XP (pr_XP hX va_S.rf (fun _ h => h)) hK hP (va_recv hK hP (ci := 2) (q0 := 0) rfl rfl)) rfl rfl hl.1 rfl (lv_room (Nat.le_of_ble_eq_true rfl)) dL_load_3 ⟨Nat.le_of_ble_eq_true rfl, Nat.le_of_ble_eq_true rfl⟩) hS (fun _ _ h => h) (fun _ h => h) (fun _ _ h => h) (fun E ce q9 u9 t H1 locs ht hvm _ hE _ _ hS hce hcv hcl => ?_) (fun u9 t H1 locs ht hvm hw _ _ _ _ => hw.elim)
  have hE : E = IAE := hE
  subst hE
  refine vx_catch (own := RL) (name := IAE) hown [] ⟨0, 6, 9, 13⟩ [] htab (fun z h => by cases h) (by decide) (by decide) (hts (.classLink RL 13 IAE) (by decide +kernel)) (va_Nw.use rfl hX.2.2.1) hce hcv hcl ?_
  refine lv_astore_n (lv' := [(3, .ref q9), (0, .ref (q 0)), (1, .int a1), (2, .int a2)]) hx hb dL_load_9 rfl hl (by decide) rfl (fun ls hl => ?_)
  refine lv_iconst (v := (1 : Int32)) hx hb dL_load_10 (by decide) ?_
  exact W.iret (v := (1 : Int32)) hx hb hr (fun t ht hW => ⟨⟨(1 : Int32), (), rfl, rfl, trivial⟩, hS.F ht⟩) hS.2.2 dL_load_11

set_option maxHeartbeats 4000000 in
set_option maxRecDepth 100000 in
theorem kL_line (l : Launch) (D : va_G) (k : Nat → ClassId) (q : Nat → Nat) (u : TM) (a1 : Int32) (a2 : Int32) (h8 : ¬ a1 < (0 : Int32)) (h9 : a1 ≤ (3 : Int32)) (o : TM) (ho : fX3_line u a1 a2 = o) : Met l yL_line wsL_line { frames := 2, cells := 0, slots := 0, locals := 45 } (wr_P D vwCl (tyL k) (wT k q u) NL [.ref (q 0), .int a1, .int a2]) (wr_Q D vwCl (some (.int (0 : Int32))) (wT k q u) (wT k q o)) 0 0 (in_W (wT k q u)) := by
  refine met_ofWH (cc := cL_line) (maxL := 4) (ret := (some .int)) (hh := [(0, 6, 9, 13)]) (by decide) rfl ?_
  intro p e s m args below meth c s₁ B hml hv0
  obtain ⟨rfl, hP, hK, hX, hD0⟩ := hv0
  have hx := B.exec
  have hb := B.bytes
  have hr := B.returns
  have hts := atoms_spec (ws := wsL_line) B.pre
  have hown : s.vm.findClass RL = some m.cls := findClass_of_methodNamed B.named
  have hlocks := B.notSynchronized
  have hD : va_D (in_W (wT k q u)) (wT k q u) := wD_self hD0
  have hS : va_S (in_W (wT k q u)) s.heap s.heap [] := va_S.rf
  have hl := lv_entry ([.ref (q 0), .int a1, .int a2]) (n := 4) (Nat.le_of_ble_eq_true rfl)
  rw [lg_entry_eq]
  generalize (lg_sl ([.ref (q 0), .int a1, .int a2]) ++ List.replicate (4 - (lg_sl ([.ref (q 0), .int a1, .int a2])).length) Slot.unset).toArray = ls at hl ⊢
  have hl : lv_has ls 4 [(0, .ref (q 0)), (1, .int a1), (2, .int a2)] := hl
  refine lv_aload_n hx hb dL_line_0 rfl (lv_at hl 0 rfl) ?_
  refine lv_iload_n hx hb dL_line_1 rfl (lv_at hl 1 rfl) ?_
  refine lv_iload_n hx hb dL_line_2 rfl (lv_at hl 2 rfl) ?_
  refine wr_call (r := none) (ws' := wT k q o) (W.runV (C := RX3) (b := (q 0)) (As := [.int a1, .int a2]) (rest := []) ⟨hx, hb, hml, hown, hts⟩ (kX3_line l D k q u a1 a2 h8 h9 o ho) (cwV 2 hts gL_line_X3_line rfl rfl rfl (by decide +kernel) ⟨Nat.le_of_ble_eq_true rfl, Nat.le_of_ble_eq_true rfl⟩) (wr_preV bl_N (pr_N hX) hK hP hD (va_recv hK hP (ci := 2) (q0 := 0) rfl rfl)) rfl rfl hl.1 rfl (lv_room (Nat.le_of_ble_eq_true rfl)) dL_line_3 ⟨Nat.zero_le _, Nat.zero_le _⟩) hP hD hS [0, 1, 2, 3, 4, 5, 6, 7, 8, 9, 10] [] [0, 1, 2, 3, 4, 5, 6, 7, 8, 9, 10] allT (by decide) prmT adrT (fun H locs hP hD hS => ?_)
  refine lv_goto (tgt := 12) hx hb dL_line_6 (by decide) ?_
  refine lv_iconst (v := (0 : Int32)) hx hb dL_line_12 (by decide) ?_
  exact W.iret (v := (0 : Int32)) hx hb hr (wr_end rfl rfl hP hS) hS.2.2 dL_line_13

set_option maxHeartbeats 4000000 in
set_option maxRecDepth 100000 in
theorem kL_line_x (l : Launch) (hst : l.stackTraces = false) (D : va_G) (k : Nat → ClassId) (q : Nat → Nat) (u : TM) (a1 : Int32) (a2 : Int32) (h9 : ¬ (¬ a1 < (0 : Int32) ∧ a1 ≤ (3 : Int32))) : Met l yL_line wsL_line { frames := 7, cells := 1, slots := 6, locals := 104 } (rd_P D vwCl (tyL k) (wT k q u) (fun U => XP (in_W (wT k q u)) U U.heap) [.ref (q 0), .int a1, .int a2]) xR1 1 6 (fun _ => False) := by
  refine met_ofWH (cc := cL_line) (maxL := 4) (ret := (some .int)) (hh := [(0, 6, 9, 13)]) (by decide) rfl ?_
  intro p e s m args below meth c s₁ B hml hv0
  obtain ⟨rfl, hP, hK, hX⟩ := hv0
  have hx := B.exec
  have hb := B.bytes
  have hr := B.returns
  have hts := atoms_spec (ws := wsL_line) B.pre
  have hown : s.vm.findClass RL = some m.cls := findClass_of_methodNamed B.named
  have hlocks := B.notSynchronized
  have htab : c.exceptionTable.toList = [] ++ (⟨0, 6, 9, 13⟩ : ExceptionTableEntry) :: [] := vx_table (x := yL_load) B (hts _ List.mem_cons_self)
  have hS : va_S (fun _ => False) s.heap s.heap [] := va_S.rf
  have hl := lv_entry ([.ref (q 0), .int a1, .int a2]) (n := 4) (Nat.le_of_ble_eq_true rfl)
  rw [lg_entry_eq]
  generalize (lg_sl ([.ref (q 0), .int a1, .int a2]) ++ List.replicate (4 - (lg_sl ([.ref (q 0), .int a1, .int a2])).length) Slot.unset).toArray = ls at hl ⊢
  have hl : lv_has ls 4 [(0, .ref (q 0)), (1, .int a1), (2, .int a2)] := hl
  refine lv_aload_n hx hb dL_line_0 rfl (lv_at hl 0 rfl) ?_
  refine lv_iload_n hx hb dL_line_1 rfl (lv_at hl 1 rfl) ?_
  refine lv_iload_n hx hb dL_line_2 rfl (lv_at hl 2 rfl) ?_
  refine vx_callv (A0 := fun _ => False) (H0 := s.heap) (vx_runV (C := RX3) (b := (q 0)) (As := [.int a1, .int a2]) (rest := []) ⟨hx, hb, hml, hown, hts⟩ (kX3_line_x l hst D k q u a1 a2 h9) (cwV 2 hts gL_line_X3_line rfl rfl rfl (by decide +kernel) ⟨Nat.le_of_ble_eq_true rfl, Nat.le_of_ble_eq_true rfl⟩) (rd_preV bl_XP (pr_XP hX va_S.rf (fun _ h => h)) hK hP (va_recv hK hP (ci := 2) (q0 := 0) rfl rfl)) rfl rfl hl.1 rfl (lv_room (Nat.le_of_ble_eq_true rfl)) dL_line_3 ⟨Nat.le_of_ble_eq_true rfl, Nat.le_of_ble_eq_true rfl⟩) hS (fun _ _ h => h) (fun _ h => h) (fun _ _ h => h) (fun E ce q9 u9 t H1 locs ht hvm _ hE _ _ hS hce hcv hcl => ?_) (fun u9 t H1 locs ht hvm hw _ _ _ _ => hw.elim)
  have hE : E = IAE := hE
  subst hE
  refine vx_catch (own := RL) (name := IAE) hown [] ⟨0, 6, 9, 13⟩ [] htab (fun z h => by cases h) (by decide) (by decide) (hts (.classLink RL 13 IAE) (by decide +kernel)) (va_Nw.use rfl hX.2.2.1) hce hcv hcl ?_
  refine lv_astore_n (lv' := [(3, .ref q9), (0, .ref (q 0)), (1, .int a1), (2, .int a2)]) hx hb dL_line_9 rfl hl (by decide) rfl (fun ls hl => ?_)
  refine lv_iconst (v := (1 : Int32)) hx hb dL_line_10 (by decide) ?_
  exact W.iret (v := (1 : Int32)) hx hb hr (fun t ht hW => ⟨⟨(1 : Int32), (), rfl, rfl, trivial⟩, hS.F ht⟩) hS.2.2 dL_line_11

set_option maxHeartbeats 4000000 in
set_option maxRecDepth 100000 in
theorem kL_word (l : Launch) (D : va_G) (k : Nat → ClassId) (q : Nat → Nat) (u : TM) (oa : Nat) (f : Nat → Int64) (a1 : Int32) (h9 : ¬ fX3_isInMemory a1 = (0 : Int32)) : Met l yL_word wsL_word { frames := 2, cells := 0, slots := 0, locals := 41 } (wr_P D vwCl (tyL k) (wTO k q u oa f) (fun _ => True) [.ref (q 0), .int a1, .ref oa]) (wr_Q D vwCl (some (.int (0 : Int32))) (wTO k q u oa f) (wTO k q u oa (vp_updL f 0 (fX3_word u a1).toInt64))) 0 0 (in_W (wTO k q u oa f)) := by
  refine met_ofWH (cc := cL_word) (maxL := 4) (ret := (some .int)) (hh := [(0, 9, 12, 13)]) (by decide) rfl ?_
  intro p e s m args below meth c s₁ B hml hv0
  obtain ⟨rfl, hP, hK, hX, hD0⟩ := hv0
  have hx := B.exec
  have hb := B.bytes
  have hr := B.returns
  have hts := atoms_spec (ws := wsL_word) B.pre
  have hown : s.vm.findClass RL = some m.cls := findClass_of_methodNamed B.named
  have hlocks := B.notSynchronized
  have hD : va_D (in_W (wTO k q u oa f)) (wTO k q u oa f) := wD_self hD0
  have hS : va_S (in_W (wTO k q u oa f)) s.heap s.heap [] := va_S.rf
  have hPc : va_P D vwCl (wT k q u) s.heap := hP.sub [0, 1, 2, 3, 4, 5, 6, 7, 8, 9, 10] rfl
  have hl := lv_entry ([.ref (q 0), .int a1, .ref oa]) (n := 4) (Nat.le_of_ble_eq_true rfl)
  rw [lg_entry_eq]
  generalize (lg_sl ([.ref (q 0), .int a1, .ref oa]) ++ List.replicate (4 - (lg_sl ([.ref (q 0), .int a1, .ref oa])).length) Slot.unset).toArray = ls at hl ⊢
  have hl : lv_has ls 4 [(0, .ref (q 0)), (1, .int a1), (2, .ref oa)] := hl
  refine lv_aload_n hx hb dL_word_0 rfl (lv_at hl 2 rfl) ?_
  refine lv_iconst (v := (0 : Int32)) hx hb dL_word_1 (by decide) ?_
  refine lv_aload_n hx hb dL_word_2 rfl (lv_at hl 0 rfl) ?_
  refine lv_iload_n hx hb dL_word_3 rfl (lv_at hl 1 rfl) ?_
  refine rd_call (r := (fX3_word u a1)) (W.runV (C := RX3) (b := (q 0)) (As := [.int a1]) (rest := [.int (0 : Int32), .ref oa]) ⟨hx, hb, hml, hown, hts⟩ (kX3_word l D k q u a1 h9) (cwV 1 hts gL_word_X3_word rfl rfl rfl (by decide +kernel) ⟨Nat.le_of_ble_eq_true rfl, Nat.le_of_ble_eq_true rfl⟩) (rd_preV bl_T pr_T hK hPc (va_recv hK hPc (ci := 2) (q0 := 0) rfl rfl)) rfl rfl hl.1 rfl (lv_room (Nat.le_of_ble_eq_true rfl)) dL_word_4 ⟨Nat.zero_le _, Nat.zero_le _⟩) ?_
  refine lv_i2l (v := (fX3_word u a1).toInt64) hx hb dL_word_7 rfl ?_
  refine va_last (a := oa) hx hb hK hP hD hS 11 3 rfl rfl (by unfold vp_in; decide) dL_word_8 (fun H locs hP hD hS => ?_)
  refine lv_goto (tgt := 15) hx hb dL_word_9 (by decide) ?_
  refine lv_iconst (v := (0 : Int32)) hx hb dL_word_15 (by decide) ?_
  exact W.iret (v := (0 : Int32)) hx hb hr (wr_end (ws2 := wTO k q u oa (vp_updL f 0 (fX3_word u a1).toInt64)) rfl rfl hP hS) hS.2.2 dL_word_16

set_option maxHeartbeats 4000000 in
set_option maxRecDepth 100000 in
theorem kL_word_x (l : Launch) (hst : l.stackTraces = false) (D : va_G) (k : Nat → ClassId) (q : Nat → Nat) (u : TM) (oa : Nat) (a1 : Int32) (h9 : fX3_isInMemory a1 = (0 : Int32)) : Met l yL_word wsL_word { frames := 7, cells := 1, slots := 6, locals := 103 } (rd_P D vwCl (tyL k) (wT k q u) (fun U => XP (in_W (wT k q u)) U U.heap) [.ref (q 0), .int a1, .ref oa]) xR1 1 6 (fun _ => False) := by
  refine met_ofWH (cc := cL_word) (maxL := 4) (ret := (some .int)) (hh := [(0, 9, 12, 13)]) (by decide) rfl ?_
  intro p e s m args below meth c s₁ B hml hv0
  obtain ⟨rfl, hP, hK, hX⟩ := hv0
  have hx := B.exec
  have hb := B.bytes
  have hr := B.returns
  have hts := atoms_spec (ws := wsL_word) B.pre
  have hown : s.vm.findClass RL = some m.cls := findClass_of_methodNamed B.named
  have hlocks := B.notSynchronized
  have htab : c.exceptionTable.toList = [] ++ (⟨0, 9, 12, 13⟩ : ExceptionTableEntry) :: [] := vx_table (x := yL_load) B (hts _ List.mem_cons_self)
  have hS : va_S (fun _ => False) s.heap s.heap [] := va_S.rf
  have hl := lv_entry ([.ref (q 0), .int a1, .ref oa]) (n := 4) (Nat.le_of_ble_eq_true rfl)
  rw [lg_entry_eq]
  generalize (lg_sl ([.ref (q 0), .int a1, .ref oa]) ++ List.replicate (4 - (lg_sl ([.ref (q 0), .int a1, .ref oa])).length) Slot.unset).toArray = ls at hl ⊢
  have hl : lv_has ls 4 [(0, .ref (q 0)), (1, .int a1), (2, .ref oa)] := hl
  refine lv_aload_n hx hb dL_word_0 rfl (lv_at hl 2 rfl) ?_
  refine lv_iconst (v := (0 : Int32)) hx hb dL_word_1 (by decide) ?_
  refine lv_aload_n hx hb dL_word_2 rfl (lv_at hl 0 rfl) ?_
  refine lv_iload_n hx hb dL_word_3 rfl (lv_at hl 1 rfl) ?_
  refine vx_calli (A0 := fun _ => False) (H0 := s.heap) (vx_runV (C := RX3) (b := (q 0)) (As := [.int a1]) (rest := [.int (0 : Int32), .ref oa]) ⟨hx, hb, hml, hown, hts⟩ (kX3_word_x l hst D k q u a1 h9) (cwV 1 hts gL_word_X3_word rfl rfl rfl (by decide +kernel) ⟨Nat.le_of_ble_eq_true rfl, Nat.le_of_ble_eq_true rfl⟩) (rd_preV bl_XP (pr_XP hX va_S.rf (fun _ h => h)) hK hP (va_recv hK hP (ci := 2) (q0 := 0) rfl rfl)) rfl rfl hl.1 rfl (lv_room (Nat.le_of_ble_eq_true rfl)) dL_word_4 ⟨Nat.le_of_ble_eq_true rfl, Nat.le_of_ble_eq_true rfl⟩) hS (fun _ _ h => h) (fun _ h => h) (fun _ _ h => h) (fun E ce q9 u9 t H1 locs ht hvm _ hE _ _ hS hce hcv hcl => ?_) (fun r9 u9 t H1 locs ht hvm hw _ _ _ _ => hw.elim)
  have hE : E = IAE := hE
  subst hE
  refine vx_catch (own := RL) (name := IAE) hown [] ⟨0, 9, 12, 13⟩ [] htab (fun z h => by cases h) (by decide) (by decide) (hts (.classLink RL 13 IAE) (by decide +kernel)) (va_Nw.use rfl hX.2.2.1) hce hcv hcl ?_
  refine lv_astore_n (lv' := [(3, .ref q9), (0, .ref (q 0)), (1, .int a1), (2, .ref oa)]) hx hb dL_word_12 rfl hl (by decide) rfl (fun ls hl => ?_)
  refine lv_iconst (v := (1 : Int32)) hx hb dL_word_13 (by decide) ?_
  exact W.iret (v := (1 : Int32)) hx hb hr (fun t ht hW => ⟨⟨(1 : Int32), (), rfl, rfl, trivial⟩, hS.F ht⟩) hS.2.2 dL_word_14

set_option maxHeartbeats 4000000 in
set_option maxRecDepth 100000 in
theorem kL_register (l : Launch) (D : va_G) (k : Nat → ClassId) (q : Nat → Nat) (u : TM) (oa : Nat) (f : Nat → Int64) (a1 : Int32) (h8 : ¬ a1 < (0 : Int32)) (h9 : a1 ≤ (9 : Int32)) : Met l yL_register wsL_register { frames := 1, cells := 0, slots := 0, locals := 21 } (wr_P D vwCl (tyL k) (wTO k q u oa f) (fun _ => True) [.ref (q 0), .int a1, .ref oa]) (wr_Q D vwCl (some (.int (0 : Int32))) (wTO k q u oa f) (wTO k q u oa (vp_updL f 0 (fX3_register u a1).toInt64))) 0 0 (in_W (wTO k q u oa f)) := by
  refine met_ofWH (cc := cL_register) (maxL := 4) (ret := (some .int)) (hh := [(0, 9, 12, 13)]) (by decide) rfl ?_
  intro p e s m args below meth c s₁ B hml hv0
  obtain ⟨rfl, hP, hK, hX, hD0⟩ := hv0
  have hx := B.exec
  have hb := B.bytes
  have hr := B.returns
  have hts := atoms_spec (ws := wsL_register) B.pre
  have hown : s.vm.findClass RL = some m.cls := findClass_of_methodNamed B.named
  have hlocks := B.notSynchronized
  have hD : va_D (in_W (wTO k q u oa f)) (wTO k q u oa f) := wD_self hD0
  have hS : va_S (in_W (wTO k q u oa f)) s.heap s.heap [] := va_S.rf
  have hPc : va_P D vwCl (wT k q u) s.heap := hP.sub [0, 1, 2, 3, 4, 5, 6, 7, 8, 9, 10] rfl
  have hl := lv_entry ([.ref (q 0), .int a1, .ref oa]) (n := 4) (Nat.le_of_ble_eq_true rfl)
  rw [lg_entry_eq]
  generalize (lg_sl ([.ref (q 0), .int a1, .ref oa]) ++ List.replicate (4 - (lg_sl ([.ref (q 0), .int a1, .ref oa])).length) Slot.unset).toArray = ls at hl ⊢
  have hl : lv_has ls 4 [(0, .ref (q 0)), (1, .int a1), (2, .ref oa)] := hl
  refine lv_aload_n hx hb dL_register_0 rfl (lv_at hl 2 rfl) ?_
  refine lv_iconst (v := (0 : Int32)) hx hb dL_register_1 (by decide) ?_
  refine lv_aload_n hx hb dL_register_2 rfl (lv_at hl 0 rfl) ?_
  refine lv_iload_n hx hb dL_register_3 rfl (lv_at hl 1 rfl) ?_
  refine rd_call (r := (fX3_register u a1)) (W.runV (C := RX3) (b := (q 0)) (As := [.int a1]) (rest := [.int (0 : Int32), .ref oa]) ⟨hx, hb, hml, hown, hts⟩ (kX3_register l D k q u a1 h8 h9) (cwV 1 hts gL_register_X3_register rfl rfl rfl (by decide +kernel) ⟨Nat.le_of_ble_eq_true rfl, Nat.le_of_ble_eq_true rfl⟩) (rd_preV bl_T pr_T hK hPc (va_recv hK hPc (ci := 2) (q0 := 0) rfl rfl)) rfl rfl hl.1 rfl (lv_room (Nat.le_of_ble_eq_true rfl)) dL_register_4 ⟨Nat.zero_le _, Nat.zero_le _⟩) ?_
  refine lv_i2l (v := (fX3_register u a1).toInt64) hx hb dL_register_7 rfl ?_
  refine va_last (a := oa) hx hb hK hP hD hS 11 3 rfl rfl (by unfold vp_in; decide) dL_register_8 (fun H locs hP hD hS => ?_)
  refine lv_goto (tgt := 15) hx hb dL_register_9 (by decide) ?_
  refine lv_iconst (v := (0 : Int32)) hx hb dL_register_15 (by decide) ?_
  exact W.iret (v := (0 : Int32)) hx hb hr (wr_end (ws2 := wTO k q u oa (vp_updL f 0 (fX3_register u a1).toInt64)) rfl rfl hP hS) hS.2.2 dL_register_16

set_option maxHeartbeats 4000000 in
set_option maxRecDepth 100000 in
theorem kL_register_x (l : Launch) (hst : l.stackTraces = false) (D : va_G) (k : Nat → ClassId) (q : Nat → Nat) (u : TM) (oa : Nat) (a1 : Int32) (h9 : ¬ (¬ a1 < (0 : Int32) ∧ a1 ≤ (9 : Int32))) : Met l yL_register wsL_register { frames := 7, cells := 1, slots := 6, locals := 103 } (rd_P D vwCl (tyL k) (wT k q u) (fun U => XP (in_W (wT k q u)) U U.heap) [.ref (q 0), .int a1, .ref oa]) xR1 1 6 (fun _ => False) := by
  refine met_ofWH (cc := cL_register) (maxL := 4) (ret := (some .int)) (hh := [(0, 9, 12, 13)]) (by decide) rfl ?_
  intro p e s m args below meth c s₁ B hml hv0
  obtain ⟨rfl, hP, hK, hX⟩ := hv0
  have hx := B.exec
  have hb := B.bytes
  have hr := B.returns
  have hts := atoms_spec (ws := wsL_register) B.pre
  have hown : s.vm.findClass RL = some m.cls := findClass_of_methodNamed B.named
  have hlocks := B.notSynchronized
  have htab : c.exceptionTable.toList = [] ++ (⟨0, 9, 12, 13⟩ : ExceptionTableEntry) :: [] := vx_table (x := yL_load) B (hts _ List.mem_cons_self)
  have hS : va_S (fun _ => False) s.heap s.heap [] := va_S.rf
  have hl := lv_entry ([.ref (q 0), .int a1, .ref oa]) (n := 4) (Nat.le_of_ble_eq_true rfl)
  rw [lg_entry_eq]
  generalize (lg_sl ([.ref (q 0), .int a1, .ref oa]) ++ List.replicate (4 - (lg_sl ([.ref (q 0), .int a1, .ref oa])).length) Slot.unset).toArray = ls at hl ⊢
  have hl : lv_has ls 4 [(0, .ref (q 0)), (1, .int a1), (2, .ref oa)] := hl
  refine lv_aload_n hx hb dL_register_0 rfl (lv_at hl 2 rfl) ?_
  refine lv_iconst (v := (0 : Int32)) hx hb dL_register_1 (by decide) ?_
  refine lv_aload_n hx hb dL_register_2 rfl (lv_at hl 0 rfl) ?_
  refine lv_iload_n hx hb dL_register_3 rfl (lv_at hl 1 rfl) ?_
  refine vx_calli (A0 := fun _ => False) (H0 := s.heap) (vx_runV (C := RX3) (b := (q 0)) (As := [.int a1]) (rest := [.int (0 : Int32), .ref oa]) ⟨hx, hb, hml, hown, hts⟩ (kX3_register_x l hst D k q u a1 h9) (cwV 1 hts gL_register_X3_register rfl rfl rfl (by decide +kernel) ⟨Nat.le_of_ble_eq_true rfl, Nat.le_of_ble_eq_true rfl⟩) (rd_preV bl_XP (pr_XP hX va_S.rf (fun _ h => h)) hK hP (va_recv hK hP (ci := 2) (q0 := 0) rfl rfl)) rfl rfl hl.1 rfl (lv_room (Nat.le_of_ble_eq_true rfl)) dL_register_4 ⟨Nat.le_of_ble_eq_true rfl, Nat.le_of_ble_eq_true rfl⟩) hS (fun _ _ h => h) (fun _ h => h) (fun _ _ h => h) (fun E ce q9 u9 t H1 locs ht hvm _ hE _ _ hS hce hcv hcl => ?_) (fun r9 u9 t H1 locs ht hvm hw _ _ _ _ => hw.elim)
  have hE : E = IAE := hE
  subst hE
  refine vx_catch (own := RL) (name := IAE) hown [] ⟨0, 9, 12, 13⟩ [] htab (fun z h => by cases h) (by decide) (by decide) (hts (.classLink RL 13 IAE) (by decide +kernel)) (va_Nw.use rfl hX.2.2.1) hce hcv hcl ?_
  refine lv_astore_n (lv' := [(3, .ref q9), (0, .ref (q 0)), (1, .int a1), (2, .ref oa)]) hx hb dL_register_12 rfl hl (by decide) rfl (fun ls hl => ?_)
  refine lv_iconst (v := (1 : Int32)) hx hb dL_register_13 (by decide) ?_
  exact W.iret (v := (1 : Int32)) hx hb hr (fun t ht hW => ⟨⟨(1 : Int32), (), rfl, rfl, trivial⟩, hS.F ht⟩) hS.2.2 dL_register_14

set_option maxHeartbeats 4000000 in
set_option maxRecDepth 100000 in
theorem kL_control (l : Launch) (D : va_G) (k : Nat → ClassId) (q : Nat → Nat) (u : TM) (oa : Nat) (f : Nat → Int64) (a1 : Int32) (h8 : ¬ a1 < (0 : Int32)) (h9 : a1 ≤ (17 : Int32)) : Met l yL_control wsL_control { frames := 2, cells := 0, slots := 0, locals := 42 } (wr_P D vwCl (tyL k) (wTO k q u oa f) NL [.ref (q 0), .int a1, .ref oa]) (wr_Q D vwCl (some (.int (0 : Int32))) (wTO k q u oa f) (wTO k q u oa (vp_updL f 0 (fX3_control u a1).toInt64))) 0 0 (in_W (wTO k q u oa f)) := by
  refine met_ofWH (cc := cL_control) (maxL := 4) (ret := (some .int)) (hh := [(0, 9, 12, 13)]) (by decide) rfl ?_
  intro p e s m args below meth c s₁ B hml hv0
  obtain ⟨rfl, hP, hK, hX, hD0⟩ := hv0
  have hx := B.exec
  have hb := B.bytes
  have hr := B.returns
  have hts := atoms_spec (ws := wsL_control) B.pre
  have hown : s.vm.findClass RL = some m.cls := findClass_of_methodNamed B.named
  have hlocks := B.notSynchronized
  have hD : va_D (in_W (wTO k q u oa f)) (wTO k q u oa f) := wD_self hD0
  have hS : va_S (in_W (wTO k q u oa f)) s.heap s.heap [] := va_S.rf
  have hPc : va_P D vwCl (wT k q u) s.heap := hP.sub [0, 1, 2, 3, 4, 5, 6, 7, 8, 9, 10] rfl
  have hl := lv_entry ([.ref (q 0), .int a1, .ref oa]) (n := 4) (Nat.le_of_ble_eq_true rfl)
  rw [lg_entry_eq]
  generalize (lg_sl ([.ref (q 0), .int a1, .ref oa]) ++ List.replicate (4 - (lg_sl ([.ref (q 0), .int a1, .ref oa])).length) Slot.unset).toArray = ls at hl ⊢
  have hl : lv_has ls 4 [(0, .ref (q 0)), (1, .int a1), (2, .ref oa)] := hl
  refine lv_aload_n hx hb dL_control_0 rfl (lv_at hl 2 rfl) ?_
  refine lv_iconst (v := (0 : Int32)) hx hb dL_control_1 (by decide) ?_
  refine lv_aload_n hx hb dL_control_2 rfl (lv_at hl 0 rfl) ?_
  refine lv_iload_n hx hb dL_control_3 rfl (lv_at hl 1 rfl) ?_
  refine rd_call (r := (fX3_control u a1)) (W.runV (C := RX3) (b := (q 0)) (As := [.int a1]) (rest := [.int (0 : Int32), .ref oa]) ⟨hx, hb, hml, hown, hts⟩ (kX3_control l D k q u a1 h8 h9) (cwV 1 hts gL_control_X3_control rfl rfl rfl (by decide +kernel) ⟨Nat.le_of_ble_eq_true rfl, Nat.le_of_ble_eq_true rfl⟩) (rd_preV bl_N (pr_N hX) hK hPc (va_recv hK hPc (ci := 2) (q0 := 0) rfl rfl)) rfl rfl hl.1 rfl (lv_room (Nat.le_of_ble_eq_true rfl)) dL_control_4 ⟨Nat.zero_le _, Nat.zero_le _⟩) ?_
  refine lv_i2l (v := (fX3_control u a1).toInt64) hx hb dL_control_7 rfl ?_
  refine va_last (a := oa) hx hb hK hP hD hS 11 3 rfl rfl (by unfold vp_in; decide) dL_control_8 (fun H locs hP hD hS => ?_)
  refine lv_goto (tgt := 15) hx hb dL_control_9 (by decide) ?_
  refine lv_iconst (v := (0 : Int32)) hx hb dL_control_15 (by decide) ?_
  exact W.iret (v := (0 : Int32)) hx hb hr (wr_end (ws2 := wTO k q u oa (vp_updL f 0 (fX3_control u a1).toInt64)) rfl rfl hP hS) hS.2.2 dL_control_16

set_option maxHeartbeats 4000000 in
set_option maxRecDepth 100000 in
theorem kL_control_x (l : Launch) (hst : l.stackTraces = false) (D : va_G) (k : Nat → ClassId) (q : Nat → Nat) (u : TM) (oa : Nat) (a1 : Int32) (h9 : ¬ (¬ a1 < (0 : Int32) ∧ a1 ≤ (17 : Int32))) : Met l yL_control wsL_control { frames := 7, cells := 1, slots := 6, locals := 103 } (rd_P D vwCl (tyL k) (wT k q u) (fun U => XP (in_W (wT k q u)) U U.heap) [.ref (q 0), .int a1, .ref oa]) xR1 1 6 (fun _ => False) := by
  refine met_ofWH (cc := cL_control) (maxL := 4) (ret := (some .int)) (hh := [(0, 9, 12, 13)]) (by decide) rfl ?_
  intro p e s m args below meth c s₁ B hml hv0
  obtain ⟨rfl, hP, hK, hX⟩ := hv0
  have hx := B.exec
  have hb := B.bytes
  have hr := B.returns
  have hts := atoms_spec (ws := wsL_control) B.pre
  have hown : s.vm.findClass RL = some m.cls := findClass_of_methodNamed B.named
  have hlocks := B.notSynchronized
  have htab : c.exceptionTable.toList = [] ++ (⟨0, 9, 12, 13⟩ : ExceptionTableEntry) :: [] := vx_table (x := yL_load) B (hts _ List.mem_cons_self)
  have hS : va_S (fun _ => False) s.heap s.heap [] := va_S.rf
  have hl := lv_entry ([.ref (q 0), .int a1, .ref oa]) (n := 4) (Nat.le_of_ble_eq_true rfl)
  rw [lg_entry_eq]
  generalize (lg_sl ([.ref (q 0), .int a1, .ref oa]) ++ List.replicate (4 - (lg_sl ([.ref (q 0), .int a1, .ref oa])).length) Slot.unset).toArray = ls at hl ⊢
  have hl : lv_has ls 4 [(0, .ref (q 0)), (1, .int a1), (2, .ref oa)] := hl
  refine lv_aload_n hx hb dL_control_0 rfl (lv_at hl 2 rfl) ?_
  refine lv_iconst (v := (0 : Int32)) hx hb dL_control_1 (by decide) ?_
  refine lv_aload_n hx hb dL_control_2 rfl (lv_at hl 0 rfl) ?_
  refine lv_iload_n hx hb dL_control_3 rfl (lv_at hl 1 rfl) ?_
  refine vx_calli (A0 := fun _ => False) (H0 := s.heap) (vx_runV (C := RX3) (b := (q 0)) (As := [.int a1]) (rest := [.int (0 : Int32), .ref oa]) ⟨hx, hb, hml, hown, hts⟩ (kX3_control_x l hst D k q u a1 h9) (cwV 1 hts gL_control_X3_control rfl rfl rfl (by decide +kernel) ⟨Nat.le_of_ble_eq_true rfl, Nat.le_of_ble_eq_true rfl⟩) (rd_preV bl_XP (pr_XP hX va_S.rf (fun _ h => h)) hK hP (va_recv hK hP (ci := 2) (q0 := 0) rfl rfl)) rfl rfl hl.1 rfl (lv_room (Nat.le_of_ble_eq_true rfl)) dL_control_4 ⟨Nat.le_of_ble_eq_true rfl, Nat.le_of_ble_eq_true rfl⟩) hS (fun _ _ h => h) (fun _ h => h) (fun _ _ h => h) (fun E ce q9 u9 t H1 locs ht hvm _ hE _ _ hS hce hcv hcl => ?_) (fun r9 u9 t H1 locs ht hvm hw _ _ _ _ => hw.elim)
  have hE : E = IAE := hE
  subst hE
  refine vx_catch (own := RL) (name := IAE) hown [] ⟨0, 9, 12, 13⟩ [] htab (fun z h => by cases h) (by decide) (by decide) (hts (.classLink RL 13 IAE) (by decide +kernel)) (va_Nw.use rfl hX.2.2.1) hce hcv hcl ?_
  refine lv_astore_n (lv' := [(3, .ref q9), (0, .ref (q 0)), (1, .int a1), (2, .ref oa)]) hx hb dL_control_12 rfl hl (by decide) rfl (fun ls hl => ?_)
  refine lv_iconst (v := (1 : Int32)) hx hb dL_control_13 (by decide) ?_
  exact W.iret (v := (1 : Int32)) hx hb hr (fun t ht hW => ⟨⟨(1 : Int32), (), rfl, rfl, trivial⟩, hS.F ht⟩) hS.2.2 dL_control_14

set_option maxHeartbeats 4000000 in
set_option maxRecDepth 100000 in
theorem kL_entry (l : Launch) (D : va_G) (k : Nat → ClassId) (q : Nat → Nat) (u : TM) (oa : Nat) (f : Nat → Int64) (a1 : Int32) (a2 : Int32) (h6 : ¬ a1 < (0 : Int32)) (h7 : ¬ (3 : Int32) < a1) (h8 : ¬ a2 < (0 : Int32)) (h9 : a2 ≤ (5 : Int32)) : Met l yL_entry wsL_entry { frames := 2, cells := 0, slots := 0, locals := 44 } (wr_P D vwCl (tyL k) (wTO k q u oa f) NL [.ref (q 0), .int a1, .int a2, .ref oa]) (wr_Q D vwCl (some (.int (0 : Int32))) (wTO k q u oa f) (wTO k q u oa (vp_updL f 0 (fX3_entry u a1 a2).toInt64))) 0 0 (in_W (wTO k q u oa f)) := by
  refine met_ofWH (cc := cL_entry) (maxL := 5) (ret := (some .int)) (hh := [(0, 10, 13, 13)]) (by decide) rfl ?_
  intro p e s m args below meth c s₁ B hml hv0
  obtain ⟨rfl, hP, hK, hX, hD0⟩ := hv0
  have hx := B.exec
  have hb := B.bytes
  have hr := B.returns
  have hts := atoms_spec (ws := wsL_entry) B.pre
  have hown : s.vm.findClass RL = some m.cls := findClass_of_methodNamed B.named
  have hlocks := B.notSynchronized
  have hD : va_D (in_W (wTO k q u oa f)) (wTO k q u oa f) := wD_self hD0
  have hS : va_S (in_W (wTO k q u oa f)) s.heap s.heap [] := va_S.rf
  have hPc : va_P D vwCl (wT k q u) s.heap := hP.sub [0, 1, 2, 3, 4, 5, 6, 7, 8, 9, 10] rfl
  have hl := lv_entry ([.ref (q 0), .int a1, .int a2, .ref oa]) (n := 5) (Nat.le_of_ble_eq_true rfl)
  rw [lg_entry_eq]
  generalize (lg_sl ([.ref (q 0), .int a1, .int a2, .ref oa]) ++ List.replicate (5 - (lg_sl ([.ref (q 0), .int a1, .int a2, .ref oa])).length) Slot.unset).toArray = ls at hl ⊢
  have hl : lv_has ls 5 [(0, .ref (q 0)), (1, .int a1), (2, .int a2), (3, .ref oa)] := hl
  refine lv_aload_n hx hb dL_entry_0 rfl (lv_at hl 3 rfl) ?_
  refine lv_iconst (v := (0 : Int32)) hx hb dL_entry_1 (by decide) ?_
  refine lv_aload_n hx hb dL_entry_2 rfl (lv_at hl 0 rfl) ?_
  refine lv_iload_n hx hb dL_entry_3 rfl (lv_at hl 1 rfl) ?_
  refine lv_iload_n hx hb dL_entry_4 rfl (lv_at hl 2 rfl) ?_
  refine rd_call (r := (fX3_entry u a1 a2)) (W.runV (C := RX3) (b := (q 0)) (As := [.int a1, .int a2]) (rest := [.int (0 : Int32), .ref oa]) ⟨hx, hb, hml, hown, hts⟩ (kX3_entry l D k q u a1 a2 h6 h7 h8 h9) (cwV 2 hts gL_entry_X3_entry rfl rfl rfl (by decide +kernel) ⟨Nat.le_of_ble_eq_true rfl, Nat.le_of_ble_eq_true rfl⟩) (rd_preV bl_N (pr_N hX) hK hPc (va_recv hK hPc (ci := 2) (q0 := 0) rfl rfl)) rfl rfl hl.1 rfl (lv_room (Nat.le_of_ble_eq_true rfl)) dL_entry_5 ⟨Nat.zero_le _, Nat.zero_le _⟩) ?_
  refine lv_i2l (v := (fX3_entry u a1 a2).toInt64) hx hb dL_entry_8 rfl ?_
  refine va_last (a := oa) hx hb hK hP hD hS 11 3 rfl rfl (by unfold vp_in; decide) dL_entry_9 (fun H locs hP hD hS => ?_)
  refine lv_goto (tgt := 17) hx hb dL_entry_10 (by decide) ?_
  refine lv_iconst (v := (0 : Int32)) hx hb dL_entry_17 (by decide) ?_
  exact W.iret (v := (0 : Int32)) hx hb hr (wr_end (ws2 := wTO k q u oa (vp_updL f 0 (fX3_entry u a1 a2).toInt64)) rfl rfl hP hS) hS.2.2 dL_entry_18

set_option maxHeartbeats 4000000 in
set_option maxRecDepth 100000 in
theorem kL_entry_x (l : Launch) (hst : l.stackTraces = false) (D : va_G) (k : Nat → ClassId) (q : Nat → Nat) (u : TM) (oa : Nat) (a1 : Int32) (a2 : Int32) (h9 : ¬ ((¬ a1 < (0 : Int32) ∧ a1 ≤ (3 : Int32)) ∧ (¬ a2 < (0 : Int32) ∧ a2 ≤ (5 : Int32)))) : Met l yL_entry wsL_entry { frames := 7, cells := 1, slots := 6, locals := 104 } (rd_P D vwCl (tyL k) (wT k q u) (fun U => XP (in_W (wT k q u)) U U.heap) [.ref (q 0), .int a1, .int a2, .ref oa]) xR1 1 6 (fun _ => False) := by
  refine met_ofWH (cc := cL_entry) (maxL := 5) (ret := (some .int)) (hh := [(0, 10, 13, 13)]) (by decide) rfl ?_
  intro p e s m args below meth c s₁ B hml hv0
  obtain ⟨rfl, hP, hK, hX⟩ := hv0
  have hx := B.exec
  have hb := B.bytes
  have hr := B.returns
  have hts := atoms_spec (ws := wsL_entry) B.pre
  have hown : s.vm.findClass RL = some m.cls := findClass_of_methodNamed B.named
  have hlocks := B.notSynchronized
  have htab : c.exceptionTable.toList = [] ++ (⟨0, 10, 13, 13⟩ : ExceptionTableEntry) :: [] := vx_table (x := yL_load) B (hts _ List.mem_cons_self)
  have hS : va_S (fun _ => False) s.heap s.heap [] := va_S.rf
  have hl := lv_entry ([.ref (q 0), .int a1, .int a2, .ref oa]) (n := 5) (Nat.le_of_ble_eq_true rfl)
  rw [lg_entry_eq]
  generalize (lg_sl ([.ref (q 0), .int a1, .int a2, .ref oa]) ++ List.replicate (5 - (lg_sl ([.ref (q 0), .int a1, .int a2, .ref oa])).length) Slot.unset).toArray = ls at hl ⊢
  have hl : lv_has ls 5 [(0, .ref (q 0)), (1, .int a1), (2, .int a2), (3, .ref oa)] := hl
  refine lv_aload_n hx hb dL_entry_0 rfl (lv_at hl 3 rfl) ?_
  refine lv_iconst (v := (0 : Int32)) hx hb dL_entry_1 (by decide) ?_
  refine lv_aload_n hx hb dL_entry_2 rfl (lv_at hl 0 rfl) ?_
  refine lv_iload_n hx hb dL_entry_3 rfl (lv_at hl 1 rfl) ?_
  refine lv_iload_n hx hb dL_entry_4 rfl (lv_at hl 2 rfl) ?_
  refine vx_calli (A0 := fun _ => False) (H0 := s.heap) (vx_runV (C := RX3) (b := (q 0)) (As := [.int a1, .int a2]) (rest := [.int (0 : Int32), .ref oa]) ⟨hx, hb, hml, hown, hts⟩ (kX3_entry_x l hst D k q u a1 a2 h9) (cwV 2 hts gL_entry_X3_entry rfl rfl rfl (by decide +kernel) ⟨Nat.le_of_ble_eq_true rfl, Nat.le_of_ble_eq_true rfl⟩) (rd_preV bl_XP (pr_XP hX va_S.rf (fun _ h => h)) hK hP (va_recv hK hP (ci := 2) (q0 := 0) rfl rfl)) rfl rfl hl.1 rfl (lv_room (Nat.le_of_ble_eq_true rfl)) dL_entry_5 ⟨Nat.le_of_ble_eq_true rfl, Nat.le_of_ble_eq_true rfl⟩) hS (fun _ _ h => h) (fun _ h => h) (fun _ _ h => h) (fun E ce q9 u9 t H1 locs ht hvm _ hE _ _ hS hce hcv hcl => ?_) (fun r9 u9 t H1 locs ht hvm hw _ _ _ _ => hw.elim)
  have hE : E = IAE := hE
  subst hE
  refine vx_catch (own := RL) (name := IAE) hown [] ⟨0, 10, 13, 13⟩ [] htab (fun z h => by cases h) (by decide) (by decide) (hts (.classLink RL 13 IAE) (by decide +kernel)) (va_Nw.use rfl hX.2.2.1) hce hcv hcl ?_
  refine lv_astore (lv' := [(4, .ref q9), (0, .ref (q 0)), (1, .int a1), (2, .int a2), (3, .ref oa)]) hx hb dL_entry_13 hl (by decide) rfl (fun ls hl => ?_)
  refine lv_iconst (v := (1 : Int32)) hx hb dL_entry_15 (by decide) ?_
  exact W.iret (v := (1 : Int32)) hx hb hr (fun t ht hW => ⟨⟨(1 : Int32), (), rfl, rfl, trivial⟩, hS.F ht⟩) hS.2.2 dL_entry_16
