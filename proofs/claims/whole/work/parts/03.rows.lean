/-! Own rows: contracts of readers and of writers over a world whose addresses stay; their calls; rows of arrays of int arrays; the worlds of the classes. -/
def ix (i : Int32) : Nat := i.toNatClampNeg
def iu (x y : Int32) : Int32 := (x.toUInt32 >>> (y.toUInt32 &&& Int32.toUInt32 31)).toInt32
/-- the links between nest mates that TrapMachine uses -/
def nlL : List (Nat × MethodName) := [(18, yX2_init), (25, yX0_init), (47, yX2_setLine), (77, yX2_get), (83, yX0_get), (85, yX2_isAsked), (89, yX2_isEnabled), (99, yX2_tick), (126, yX2_level), (171, yX2_write), (175, yX2_leave), (187, yX0_find), (190, yX2_setEmpty), (194, yX2_set), (197, yX2_isEmpty), (200, yX2_code), (203, yX0_set), (206, yX0_setHalves), (209, yX0_empty), (212, yX2_isDirect), (215, yX2_isInWindow), (222, yX2_enter), (225, yX2_setDirect)]
def NL (U : State) : Prop := ∀ q ∈ nlL, va_Nw (.methodLinkNest RX3 q.1 q.2 "TrapMachine") U
theorem NL.warm {s U : State} (hW : s.WarmedH U.vm) (h : NL s) : NL U := fun q hq => va_Nw.warmM hW (h q hq)
theorem NL.same {s U : State} (e : s.vm = U.vm) (h : NL s) : NL U := fun q hq => va_Nw.same rfl e (h q hq)
theorem NL.at {U : State} (h : NL U) (i : Nat) {q : Nat × MethodName} (hq : nlL[i]? = some q) : va_Nw (.methodLinkNest RX3 q.1 q.2 "TrapMachine") U := h q (List.mem_of_getElem? hq)
/-- the two static tables -/
def cnt (j : Nat) : Int32 := ([15, 7, 31, 16, -1, -1, -4, -2147483645, -128, 2015, 2015, 15, -1, -1, 65535, 0, -4, -268435447] : List Int32).getD j 0
def lvb (j : Nat) : Int32 := ([3, 3, 0, 0, 0, 0, 0, 0, 0, 12, 12, 0, 0, 0, 0, 0, 0, 0] : List Int32).getD j 0
def ST (tC tL : Nat) (A : Nat → Prop) (U : State) (H : Heap) : Prop := (va_Z RX2 "COUNTING" "[I" (.ref tC) A U H ∧ va_T .int tC 18 (fun j => .int (cnt j)) A U H) ∧ (va_Z RX2 "LEVEL_BITS" "[I" (.ref tL) A U H ∧ va_T .int tL 18 (fun j => .int (lvb j)) A U H)
theorem ST.moved {tC tL : Nat} {A : Nat → Prop} {u U : State} {H : Heap} (hvm : u.vm.Alike U.vm) (h : ST tC tL A u H) : ST tC tL A U H := ⟨⟨h.1.1.moved hvm, h.1.2.moved hvm⟩, ⟨h.2.1.moved hvm, h.2.2.moved hvm⟩⟩
theorem ST.kept {tC tL : Nat} {A : Nat → Prop} {U : State} {H H1 : Heap} (h : ST tC tL A U H) (hq : ∀ a : Nat, a < H.size → ¬ A a → H1[a]? = H[a]?) : ST tC tL A U H1 := ⟨⟨h.1.1.kept hq, h.1.2.kept hq⟩, ⟨h.2.1.kept hq, h.2.2.kept hq⟩⟩
theorem ST.narrow {tC tL : Nat} {A B : Nat → Prop} {U : State} {H : Heap} (h : ST tC tL A U H) (hAB : ∀ q, B q → A q) : ST tC tL B U H := ⟨⟨h.1.1.narrow hAB, h.1.2.narrow hAB⟩, ⟨h.2.1.narrow hAB, h.2.2.narrow hAB⟩⟩
section TRows
variable {p : Program} {l : Launch} {e : Env} {R : Room} {s : State} {m : MethodId} {args : Array Value} {below : List Frame} {meth : Method} {c : Code} {H : Heap} {locs : List Loc} {cells slots : Nat} {Q : State → Prop}
variable {cc : ByteArray} {pc : Nat} {ls : Array Slot} {rest st0 : List Value} {D : va_G} {cl : List vw_C} {A : Nat → Prop} {tys : List (ClassId × FieldType)} {ws : va_W} {H0 : Heap} {As : List Value} {X : State → Prop}
/-- the cells of a world -/
def in_W (ws : va_W) : Nat → Prop := fun q => ∃ (k : Nat) (e : va_E), ws[k]? = some (q, e)
/-- a premise that only the tables and the heap decide -/
def bl_X (X : State → Prop) : Prop := ∀ (U : State) (g : JFrame) (mk : MethodId) (a : Array Value), X U → X (U.calling g mk a)
theorem bl_T : bl_X (fun _ => True) := fun _ _ _ _ _ => trivial
theorem bl_N : bl_X NL := fun _ _ _ _ h => h.same rfl
theorem bl_S {tC tL : Nat} {A : Nat → Prop} : bl_X (fun U => ST tC tL A U U.heap) := fun U g mk a h => ST.moved (u := U) (U := U.calling g mk a) (Vm.Alike.refl U.vm) h
theorem bl_NS {tC tL : Nat} {A : Nat → Prop} : bl_X (fun U => NL U ∧ ST tC tL A U U.heap) := fun U g mk a h => ⟨bl_N U g mk a h.1, bl_S U g mk a h.2⟩
/-- a reader's start -/
def rd_P (D : va_G) (cl : List vw_C) (tys : List (ClassId × FieldType)) (ws : va_W) (X : State → Prop) (As : List Value) : Array Value → State → Prop := fun v U => v = As.toArray ∧ va_P D cl ws U.heap ∧ va_K D cl tys U ∧ X U
/-- a writer's start -/
def wr_P (D : va_G) (cl : List vw_C) (tys : List (ClassId × FieldType)) (ws : va_W) (X : State → Prop) (As : List Value) : Array Value → State → Prop := fun v U => v = As.toArray ∧ va_P D cl ws U.heap ∧ va_K D cl tys U ∧ X U ∧ va_D (fun _ => True) ws
/-- a writer's end: the new world at the old addresses, all else as it was -/
def wr_Q (D : va_G) (cl : List vw_C) (r : Option Value) (ws ws' : va_W) : Array Value → State → Outcome → State → Prop := fun _ st o t => o = .returned r ∧ va_P D cl ws' t.heap ∧ va_F (in_W ws) st t
theorem rd_blind (b : bl_X X) : FrameBlind (rd_P D cl tys ws X As) := fun a U g mk q => ⟨q.1, q.2.1, va_K.moved (u := U) (U := U.calling g mk a) (Vm.Alike.refl U.vm) q.2.2.1, b U g mk a q.2.2.2⟩
theorem wr_blind (b : bl_X X) : FrameBlind (wr_P D cl tys ws X As) := fun a U g mk q => ⟨q.1, q.2.1, va_K.moved (u := U) (U := U.calling g mk a) (Vm.Alike.refl U.vm) q.2.2.1, b U g mk a q.2.2.2.1, q.2.2.2.2⟩
theorem rd_preV {C : String} {b : Nat} (bx : bl_X X) (hX : ∀ U : State, U.heap = H → s.WarmedH U.vm → X U) (hK : va_K D cl tys s) (hP : va_P D cl ws H) (hr : ∃ cellB : Cell, H[b]? = some cellB ∧ cellB.vm.isStatics = false ∧ s.vm.findClass C = some cellB.cls) : PreV s H C b (rd_P D cl tys ws X (.ref b :: As)) As := ⟨rd_blind bx, hr, fun U hU hW => ⟨rfl, by rw [hU]; exact hP, va_K.moved hW.alike hK, hX U hU hW⟩⟩
theorem wr_preV {C : String} {b : Nat} (bx : bl_X X) (hX : ∀ U : State, U.heap = H → s.WarmedH U.vm → X U) (hK : va_K D cl tys s) (hP : va_P D cl ws H) (hD : va_D A ws) (hr : ∃ cellB : Cell, H[b]? = some cellB ∧ cellB.vm.isStatics = false ∧ s.vm.findClass C = some cellB.cls) : PreV s H C b (wr_P D cl tys ws X (.ref b :: As)) As := ⟨wr_blind bx, hr, fun U hU hW => ⟨rfl, by rw [hU]; exact hP, va_K.moved hW.alike hK, hX U hU hW, hD.weaken (fun _ _ _ _ => trivial)⟩⟩
theorem pr_T : ∀ U : State, U.heap = H → s.WarmedH U.vm → (fun _ : State => True) U := fun _ _ _ => trivial
theorem pr_N (h : NL s) : ∀ U : State, U.heap = H → s.WarmedH U.vm → NL U := fun _ _ hW => h.warm hW
theorem pr_S {tC tL : Nat} {wc : va_W} (h : ST tC tL (in_W ws) s s.heap) (hS : va_S (in_W ws) s.heap H locs) (hs : ∀ q, in_W wc q → in_W ws q) : ∀ U : State, U.heap = H → s.WarmedH U.vm → (fun U : State => ST tC tL (in_W wc) U U.heap) U := fun U hU hW => by
  show ST tC tL (in_W wc) U U.heap
  rw [hU]
  exact ((h.kept (fun a h1 h2 => hS.2.1 a h1 h2)).narrow hs).moved hW.alike
theorem pr_NS {tC tL : Nat} {wc : va_W} (hn : NL s) (h : ST tC tL (in_W ws) s s.heap) (hS : va_S (in_W ws) s.heap H locs) (hs : ∀ q, in_W wc q → in_W ws q) : ∀ U : State, U.heap = H → s.WarmedH U.vm → (fun U : State => NL U ∧ ST tC tL (in_W wc) U U.heap) U := fun U hU hW => ⟨hn.warm hW, pr_S h hS hs U hU hW⟩
/-- the cells of a world by the addresses alone -/
theorem in_adr {ws' : va_W} (e : ws'.map (fun q => q.1) = ws.map (fun q => q.1)) : ∀ q, in_W ws' q → in_W ws q := by
  intro q ⟨i, x, hx⟩
  have h1 : (ws.map (fun q => q.1))[i]? = some q := by rw [← e, List.getElem?_map, hx]; rfl
  rw [List.getElem?_map] at h1
  cases hy : ws[i]? with
  | none => rw [hy] at h1; cases h1
  | some y => rw [hy] at h1; exact ⟨i, y.2, by rw [hy, ← Option.some.inj h1]⟩
theorem wD_self {A : Nat → Prop} (h : va_D A ws) : va_D (in_W ws) ws := ⟨h.1, fun k q hk => ⟨k, q.2, hk⟩⟩
/-- only the addresses count -/
theorem wD_adr {ws' : va_W} (h : va_D A ws) (e : ws'.map (fun q => q.1) = ws.map (fun q => q.1)) : va_D A ws' := by
  have key : ∀ (i : Nat) (x : Nat × va_E), ws'[i]? = some x → ∃ y : Nat × va_E, ws[i]? = some y ∧ y.1 = x.1 := by
    intro i x hx
    have h1 : (ws.map (fun q => q.1))[i]? = some x.1 := by rw [← e, List.getElem?_map, hx]; rfl
    rw [List.getElem?_map] at h1
    cases hy : ws[i]? with
    | none => rw [hy] at h1; cases h1
    | some y => rw [hy] at h1; exact ⟨y, rfl, Option.some.inj h1⟩
  refine ⟨fun i j x y hx hy hxy => ?_, fun k x hx => ?_⟩
  · obtain ⟨x', h1, e1⟩ := key i x hx
    obtain ⟨y', h2, e2⟩ := key j y hy
    exact h.1 i j x' y' h1 h2 (by rw [e1, e2, hxy])
  · obtain ⟨x', h1, e1⟩ := key k x hx
    rw [← e1]; exact h.2 k x' h1
theorem w_at {is : List Nat} {w : va_W} (hs : is.map (fun i => ws[i]?) = w.map some) (k : Nat) (q : Nat × va_E) (hq : w[k]? = some q) : ∃ i, is[k]? = some i ∧ ws[i]? = some q := by
  have h1 : (is.map (fun i => ws[i]?))[k]? = some (some q) := by rw [hs, List.getElem?_map, hq]; rfl
  rw [List.getElem?_map] at h1
  cases hi : is[k]? with
  | none => rw [hi] at h1; cases h1
  | some i => rw [hi] at h1; exact ⟨i, rfl, Option.some.inj h1⟩
theorem in_sub {wc w0 : va_W} (is : List Nat) (hs : is.map (fun i => ws[i]?) = wc.map some) (e : ws.map (fun q => q.1) = w0.map (fun q => q.1)) : ∀ q, in_W wc q → in_W w0 q := by
  intro q ⟨i, x, hx⟩
  obtain ⟨j, -, h2⟩ := w_at hs i (q, x) hx
  exact in_adr e q ⟨j, x, h2⟩
/-- a reader's call -/
theorem rd_call {r : Int32} {a : Array Value} (hr : CallRun p l e R s m args below meth c H locs cells slots 0 0 (F0 m pc ls st0) rest (QcRead r a) (fun _ => False)) (kk : W p l e R s m args below meth c H locs cells slots Q (F0 m (pc + 3) ls (.int r :: rest))) : W p l e R s m args below meth c H locs cells slots Q (F0 m pc ls st0) := W.callR hr kk
/-- a writer's call: its cells change, the others stay; the order of the world's cells is kept -/
theorem wr_call {r : Option Value} {wc wc' ws' : va_W} {a : Array Value}
    (hr : CallRun p l e R s m args below meth c H locs cells slots 0 0 (F0 m pc ls st0) rest (wr_Q D cl r wc wc' a) (in_W wc))
    (hP : va_P D cl ws H) (hD : va_D A ws) (hS : va_S A H0 H locs) (isC isR perm : List Nat)
    (hC : isC.map (fun i => ws[i]?) = wc.map some) (hdis : ∀ i ∈ isR, i ∉ isC)
    (hw : perm.filterMap (fun i => (isR.filterMap (fun j => ws[j]?) ++ wc')[i]?) = ws') (hadr : ws'.map (fun q => q.1) = ws.map (fun q => q.1))
    (kk : ∀ (H1 : Heap) (locs1 : List Loc), va_P D cl ws' H1 → va_D A ws' → va_S A H0 H1 locs1 → W p l e R s m args below meth c H1 locs1 cells slots Q (F0 m (pc + 3) ls (r.toList ++ rest))) :
    W p l e R s m args below meth c H locs cells slots Q (F0 m pc ls st0) := by
  intro T hT X
  obtain ⟨v, st₀, t, T', L, h0, X', hL, e1, ⟨hv, hP1, hF⟩, st⟩ := hr T hT X
  cases hv
  subst h0
  have hin : ∀ q, in_W wc q → A q := by
    intro q ⟨k, e9, hk⟩
    obtain ⟨i, -, h2⟩ := w_at hC k (q, e9) hk
    exact hD.2 i (q, e9) h2
  have hPr : va_P D cl (isR.filterMap (fun j => ws[j]?) ++ wc') t.heap := by
    refine va_P.app (fun k q hq => ?_) hP1
    obtain ⟨i, h1, h2⟩ := List.mem_filterMap.mp (List.mem_of_getElem? hq)
    refine (hP i q h2).kept (hF.2 q.1 (hP i q h2).lt ?_)
    intro ⟨k2, e9, hk2⟩
    obtain ⟨j, h3, h4⟩ := w_at hC k2 (q.1, e9) hk2
    have hij := hD.1 i j q (q.1, e9) h2 h4 rfl
    subst hij
    exact hdis i h1 (List.mem_of_getElem? h3)
  have hS' : va_S A H0 t.heap (locs ++ L) := by
    refine ⟨Nat.le_trans hS.1 hF.1, fun q h1 h2 => ?_, fun q hq => ?_⟩
    · exact (hF.2 q (Nat.lt_of_lt_of_le h1 hS.1) (fun h => h2 (hin q h))).trans (hS.2.1 q h1 h2)
    · rcases List.mem_append.mp hq with h | h
      · exact hS.2.2 q h
      · exact hin _ (hL q h)
  obtain ⟨t2, a1, b1⟩ := kk t.heap (locs ++ L) (hPr.sub perm hw) (wD_adr hD hadr) hS' T' e1 X'
  exact ⟨t2, st t2 a1, b1⟩
/-- a reader's end -/
theorem rd_end {r v : Int32} (h : r = v) : ∀ t : State, t.heap = s.heap → s.WarmedH t.vm → QcRead r args s (.returned (some (.int v))) t := fun t ht _ => ⟨by rw [h], ht⟩
/-- a writer's end -/
theorem wr_end {r v : Option Value} {w0 ws' ws2 : va_W} (hv : v = r) (hw : ws2 = ws') (hP : va_P D cl ws2 H) (hS : va_S (in_W w0) s.heap H locs) : ∀ t : State, t.heap = H → s.WarmedH t.vm → wr_Q D cl r w0 ws' args s (.returned v) t := fun t ht _ => ⟨by rw [hv], by rw [← hw, ht]; exact hP, hS.F ht⟩
/-- a row of an array of int arrays -/
theorem gd_aald {a : Nat} (hexec : p.tables.exec = Jvm.exec) (hb : c.code = cc) (hK : va_K D cl tys s) (hP : va_P D cl ws H) (q0 t0 : Nat) {cA : ClassId} {n : Nat} {f : Nat → Option Nat} (ha : ws[q0]? = some (a, .inl (cA, n, .inr (.inr (.inr (.inr f)))))) (ht : tys[t0]? = some (cA, .array .int)) {i : Int32} (hin : vp_in i n) {j y : Nat} (hj : ix i = j) (hy : f j = some y) (hdg : decode cc pc = .ok (.aaload, 1))
    (kk : W p l e R s m args below meth c H locs cells slots Q (F0 m (pc + 1) ls (.ref y :: rest))) : W p l e R s m args below meth c H locs cells slots Q (F0 m pc ls (.int i :: .ref a :: rest)) := by
  have hlt : i.toNatClampNeg < n := Nat.not_le.mp fun q => hin (Or.inr q)
  have e9 : va_rf (f i.toNatClampNeg) = .ref y := by rw [show i.toNatClampNeg = j from hj, hy]; rfl
  exact W.aald (v := .ref y) (ty := .array .int) hexec hb (hP q0 _ ha) ((hK.2 t0 _ ht).1 n (fun j => va_rf (f j))) rfl (fun q => by cases q) (by show ¬ (i < 0 ∨ (arrV _ _ _).slots.size ≤ _); rw [arrV_size]; exact hin) (by show (arrV _ _ _).slots[_]? = _; rw [arrV_read _ _ hlt, e9]) rfl rfl hdg kk
theorem q_iald {a : Nat} (hexec : p.tables.exec = Jvm.exec) (hb : c.code = cc) (hK : va_K D cl tys s) (hP : va_P D cl ws H) (q0 t0 : Nat) {cA : ClassId} {n : Nat} {f : Nat → Int32} (ha : ws[q0]? = some (a, .inl (cA, n, .inl f))) (ht : tys[t0]? = some (cA, .int)) {i : Int32} (hin : vp_in i n) {j : Nat} (hj : ix i = j) {x9 : Int32} (hv : f j = x9) (hdg : decode cc pc = .ok (.iaload, 1))
    (kk : W p l e R s m args below meth c H locs cells slots Q (F0 m (pc + 1) ls (.int x9 :: rest))) : W p l e R s m args below meth c H locs cells slots Q (F0 m pc ls (.int i :: .ref a :: rest)) := by
  subst hv
  subst hj
  exact va_iald hexec hb hK hP q0 t0 ha ht hin hdg kk
theorem q_iast {a : Nat} (hexec : p.tables.exec = Jvm.exec) (hb : c.code = cc) (hK : va_K D cl tys s) (hP : va_P D cl ws H) (hD : va_D A ws) (hS : va_S A H0 H locs) (q0 t0 : Nat) {cA : ClassId} {n : Nat} {f : Nat → Int32} (ha : ws[q0]? = some (a, .inl (cA, n, .inl f))) (ht : tys[t0]? = some (cA, .int)) {i x : Int32} (hin : vp_in i n) {j : Nat} (hj : ix i = j) {ws' : va_W} (hw : ws.set q0 (a, .inl (cA, n, .inl (upd f j x))) = ws') (hdg : decode cc pc = .ok (.iastore, 1))
    (kk : ∀ (H1 : Heap) (locs1 : List Loc), va_P D cl ws' H1 → va_D A ws' → va_S A H0 H1 locs1 → W p l e R s m args below meth c H1 locs1 cells slots Q (F0 m (pc + 1) ls rest)) : W p l e R s m args below meth c H locs cells slots Q (F0 m pc ls (.int x :: .int i :: .ref a :: rest)) := by
  subst hj
  subst hw
  exact va_iast hexec hb hK hP hD hS q0 t0 ha ht hin hdg kk
theorem q_zald {a : Nat} (hexec : p.tables.exec = Jvm.exec) (hb : c.code = cc) (hK : va_K D cl tys s) (hP : va_P D cl ws H) (q0 t0 : Nat) {cA : ClassId} {n : Nat} {f : Nat → Int32} (ha : ws[q0]? = some (a, .inl (cA, n, .inl f))) (ht : tys[t0]? = some (cA, .boolean)) {i : Int32} (hin : vp_in i n) {j : Nat} (hj : ix i = j) {x9 : Int32} (hv : f j = x9) (hdg : decode cc pc = .ok (.baload, 1))
    (kk : W p l e R s m args below meth c H locs cells slots Q (F0 m (pc + 1) ls (.int x9 :: rest))) : W p l e R s m args below meth c H locs cells slots Q (F0 m pc ls (.int i :: .ref a :: rest)) := by
  subst hv
  subst hj
  exact va_zald hexec hb hK hP q0 t0 ha ht hin hdg kk
theorem q_zast {a : Nat} (hexec : p.tables.exec = Jvm.exec) (hb : c.code = cc) (hK : va_K D cl tys s) (hP : va_P D cl ws H) (hD : va_D A ws) (hS : va_S A H0 H locs) (q0 t0 : Nat) {cA : ClassId} {n : Nat} {f : Nat → Int32} (ha : ws[q0]? = some (a, .inl (cA, n, .inl f))) (ht : tys[t0]? = some (cA, .boolean)) {i x : Int32} (hx9 : vp_nar .boolean x = x) (hin : vp_in i n) {j : Nat} (hj : ix i = j) {ws' : va_W} (hw : ws.set q0 (a, .inl (cA, n, .inl (upd f j x))) = ws') (hdg : decode cc pc = .ok (.bastore, 1))
    (kk : ∀ (H1 : Heap) (locs1 : List Loc), va_P D cl ws' H1 → va_D A ws' → va_S A H0 H1 locs1 → W p l e R s m args below meth c H1 locs1 cells slots Q (F0 m (pc + 1) ls rest)) : W p l e R s m args below meth c H locs cells slots Q (F0 m pc ls (.int x :: .int i :: .ref a :: rest)) := by
  subst hj
  subst hw
  refine va_zast hexec hb hK hP hD hS q0 t0 ha ht hin hdg (fun H1 locs1 h1 h2 h3 => ?_)
  rw [hx9] at h1 h2
  exact kk H1 locs1 h1 h2 h3
end TRows
/-! ### the worlds -/
abbrev tyL (k : Nat → ClassId) : List (ClassId × FieldType) := [(k 0, .int), (k 1, .array .int), (k 2, .boolean), (k 3, .long)]
/-- Controls: the object, its values -/
def wC (k : Nat → ClassId) (hc hv : Nat) (v : Nat → Int32) : va_W := [(hc, .inr (1, [.ref hv])), (hv, .inl (k 0, 18, .inl v))]
/-- Buffer: the object, the outer array, the four rows -/
def wB (k : Nat → ClassId) (hb ho : Nat) (r : Nat → Nat) (M : Nat → Nat → Int32) : va_W := [(hb, .inr (0, [.ref ho])), (ho, .inl (k 1, 4, .inr (.inr (.inr (.inr (fun j => some (r j))))))), (r 0, .inl (k 0, 6, .inl (M 0))), (r 1, .inl (k 0, 6, .inl (M 1))), (r 2, .inl (k 0, 6, .inl (M 2))), (r 3, .inl (k 0, 6, .inl (M 3)))]
/-- memory, registers, control values, buffer rows, place, linked, nextFilled, condition, trapped -/
abbrev TM : Type := (Nat → Int32) × (Nat → Int32) × (Nat → Int32) × (Nat → Nat → Int32) × Int32 × Int32 × Int32 × Int32 × Int32
def wT (k : Nat → ClassId) (q : Nat → Nat) (u : TM) : va_W := [(q 0, .inr (2, [.ref (q 1), .ref (q 2), .ref (q 3), .ref (q 5), .int u.2.2.2.2.1, .int u.2.2.2.2.2.1, .int u.2.2.2.2.2.2.1, .int u.2.2.2.2.2.2.2.1, .int u.2.2.2.2.2.2.2.2])), (q 1, .inl (k 0, 512, .inl u.1)), (q 2, .inl (k 0, 8, .inl u.2.1)), (q 3, .inr (1, [.ref (q 4)])), (q 4, .inl (k 0, 18, .inl u.2.2.1)), (q 5, .inr (0, [.ref (q 6)])), (q 6, .inl (k 1, 4, .inr (.inr (.inr (.inr (fun j => some (q (7 + j)))))))), (q (7 + 0), .inl (k 0, 6, .inl (u.2.2.2.1 0))), (q (7 + 1), .inl (k 0, 6, .inl (u.2.2.2.1 1))), (q (7 + 2), .inl (k 0, 6, .inl (u.2.2.2.1 2))), (q (7 + 3), .inl (k 0, 6, .inl (u.2.2.2.1 3)))]
/-- the reference: thrown, memory, register, control, there, global, pair, space, half, place, next, filled, link, rests, stopped, brings, broughtAt, found, raised -/
abbrev MD : Type := Int32 × (Nat → Int32) × (Nat → Int32) × (Nat → Int32) × (Nat → Int32) × (Nat → Int32) × (Nat → Int32) × (Nat → Int32) × (Nat → Int32) × Int32 × Int32 × Int32 × Int32 × Int32 × Int32 × Int32 × Int32 × Int32 × Int32
def wr0 (j : Nat) : Int32 := ([15, 7, 31, 0, -1, -1, -4, -2147483645, -128, 2015, 2015, 15, -1, -1, 65535, 0, -4, -268435447] : List Int32).getD j 0
def wM (k : Nat → ClassId) (z : Nat → Nat) (w : MD) : va_W := [(z 0, .inr (3, [.int w.1, .ref (z 1), .ref (z 2), .ref (z 3), .ref (z 4), .ref (z 5), .ref (z 6), .ref (z 7), .ref (z 8), .ref (z 9), .int w.2.2.2.2.2.2.2.2.2.1, .int w.2.2.2.2.2.2.2.2.2.2.1, .int w.2.2.2.2.2.2.2.2.2.2.2.1, .int w.2.2.2.2.2.2.2.2.2.2.2.2.1, .int w.2.2.2.2.2.2.2.2.2.2.2.2.2.1, .int w.2.2.2.2.2.2.2.2.2.2.2.2.2.2.1, .int w.2.2.2.2.2.2.2.2.2.2.2.2.2.2.2.1, .int w.2.2.2.2.2.2.2.2.2.2.2.2.2.2.2.2.1, .int w.2.2.2.2.2.2.2.2.2.2.2.2.2.2.2.2.2.1, .int w.2.2.2.2.2.2.2.2.2.2.2.2.2.2.2.2.2.2])), (z 1, .inl (k 0, 512, .inl w.2.1)), (z 2, .inl (k 0, 8, .inl w.2.2.1)), (z 3, .inl (k 0, 18, .inl w.2.2.2.1)), (z 4, .inl (k 0, 18, .inl wr0)), (z 5, .inl (k 2, 4, .inl w.2.2.2.2.1)), (z 6, .inl (k 2, 4, .inl w.2.2.2.2.2.1)), (z 7, .inl (k 0, 4, .inl w.2.2.2.2.2.2.1)), (z 8, .inl (k 0, 4, .inl w.2.2.2.2.2.2.2.1)), (z 9, .inl (k 0, 8, .inl w.2.2.2.2.2.2.2.2.1))]
/-! setters -/
def ts0 (w : TM) (x : Nat → Int32) : TM := (x, w.2.1, w.2.2.1, w.2.2.2.1, w.2.2.2.2.1, w.2.2.2.2.2.1, w.2.2.2.2.2.2.1, w.2.2.2.2.2.2.2.1, w.2.2.2.2.2.2.2.2)
def ts1 (w : TM) (x : Nat → Int32) : TM := (w.1, x, w.2.2.1, w.2.2.2.1, w.2.2.2.2.1, w.2.2.2.2.2.1, w.2.2.2.2.2.2.1, w.2.2.2.2.2.2.2.1, w.2.2.2.2.2.2.2.2)
def ts2 (w : TM) (x : Nat → Int32) : TM := (w.1, w.2.1, x, w.2.2.2.1, w.2.2.2.2.1, w.2.2.2.2.2.1, w.2.2.2.2.2.2.1, w.2.2.2.2.2.2.2.1, w.2.2.2.2.2.2.2.2)
def ts3 (w : TM) (x : Nat → Nat → Int32) : TM := (w.1, w.2.1, w.2.2.1, x, w.2.2.2.2.1, w.2.2.2.2.2.1, w.2.2.2.2.2.2.1, w.2.2.2.2.2.2.2.1, w.2.2.2.2.2.2.2.2)
def ts4 (w : TM) (x : Int32) : TM := (w.1, w.2.1, w.2.2.1, w.2.2.2.1, x, w.2.2.2.2.2.1, w.2.2.2.2.2.2.1, w.2.2.2.2.2.2.2.1, w.2.2.2.2.2.2.2.2)
def ts5 (w : TM) (x : Int32) : TM := (w.1, w.2.1, w.2.2.1, w.2.2.2.1, w.2.2.2.2.1, x, w.2.2.2.2.2.2.1, w.2.2.2.2.2.2.2.1, w.2.2.2.2.2.2.2.2)
def ts6 (w : TM) (x : Int32) : TM := (w.1, w.2.1, w.2.2.1, w.2.2.2.1, w.2.2.2.2.1, w.2.2.2.2.2.1, x, w.2.2.2.2.2.2.2.1, w.2.2.2.2.2.2.2.2)
def ts7 (w : TM) (x : Int32) : TM := (w.1, w.2.1, w.2.2.1, w.2.2.2.1, w.2.2.2.2.1, w.2.2.2.2.2.1, w.2.2.2.2.2.2.1, x, w.2.2.2.2.2.2.2.2)
def ts8 (w : TM) (x : Int32) : TM := (w.1, w.2.1, w.2.2.1, w.2.2.2.1, w.2.2.2.2.1, w.2.2.2.2.2.1, w.2.2.2.2.2.2.1, w.2.2.2.2.2.2.2.1, x)
def ms0 (w : MD) (x : Int32) : MD := (x, w.2.1, w.2.2.1, w.2.2.2.1, w.2.2.2.2.1, w.2.2.2.2.2.1, w.2.2.2.2.2.2.1, w.2.2.2.2.2.2.2.1, w.2.2.2.2.2.2.2.2.1, w.2.2.2.2.2.2.2.2.2.1, w.2.2.2.2.2.2.2.2.2.2.1, w.2.2.2.2.2.2.2.2.2.2.2.1, w.2.2.2.2.2.2.2.2.2.2.2.2.1, w.2.2.2.2.2.2.2.2.2.2.2.2.2.1, w.2.2.2.2.2.2.2.2.2.2.2.2.2.2.1, w.2.2.2.2.2.2.2.2.2.2.2.2.2.2.2.1, w.2.2.2.2.2.2.2.2.2.2.2.2.2.2.2.2.1, w.2.2.2.2.2.2.2.2.2.2.2.2.2.2.2.2.2.1, w.2.2.2.2.2.2.2.2.2.2.2.2.2.2.2.2.2.2)
def ms1 (w : MD) (x : Nat → Int32) : MD := (w.1, x, w.2.2.1, w.2.2.2.1, w.2.2.2.2.1, w.2.2.2.2.2.1, w.2.2.2.2.2.2.1, w.2.2.2.2.2.2.2.1, w.2.2.2.2.2.2.2.2.1, w.2.2.2.2.2.2.2.2.2.1, w.2.2.2.2.2.2.2.2.2.2.1, w.2.2.2.2.2.2.2.2.2.2.2.1, w.2.2.2.2.2.2.2.2.2.2.2.2.1, w.2.2.2.2.2.2.2.2.2.2.2.2.2.1, w.2.2.2.2.2.2.2.2.2.2.2.2.2.2.1, w.2.2.2.2.2.2.2.2.2.2.2.2.2.2.2.1, w.2.2.2.2.2.2.2.2.2.2.2.2.2.2.2.2.1, w.2.2.2.2.2.2.2.2.2.2.2.2.2.2.2.2.2.1, w.2.2.2.2.2.2.2.2.2.2.2.2.2.2.2.2.2.2)
def ms2 (w : MD) (x : Nat → Int32) : MD := (w.1, w.2.1, x, w.2.2.2.1, w.2.2.2.2.1, w.2.2.2.2.2.1, w.2.2.2.2.2.2.1, w.2.2.2.2.2.2.2.1, w.2.2.2.2.2.2.2.2.1, w.2.2.2.2.2.2.2.2.2.1, w.2.2.2.2.2.2.2.2.2.2.1, w.2.2.2.2.2.2.2.2.2.2.2.1, w.2.2.2.2.2.2.2.2.2.2.2.2.1, w.2.2.2.2.2.2.2.2.2.2.2.2.2.1, w.2.2.2.2.2.2.2.2.2.2.2.2.2.2.1, w.2.2.2.2.2.2.2.2.2.2.2.2.2.2.2.1, w.2.2.2.2.2.2.2.2.2.2.2.2.2.2.2.2.1, w.2.2.2.2.2.2.2.2.2.2.2.2.2.2.2.2.2.1, w.2.2.2.2.2.2.2.2.2.2.2.2.2.2.2.2.2.2)
def ms3 (w : MD) (x : Nat → Int32) : MD := (w.1, w.2.1, w.2.2.1, x, w.2.2.2.2.1, w.2.2.2.2.2.1, w.2.2.2.2.2.2.1, w.2.2.2.2.2.2.2.1, w.2.2.2.2.2.2.2.2.1, w.2.2.2.2.2.2.2.2.2.1, w.2.2.2.2.2.2.2.2.2.2.1, w.2.2.2.2.2.2.2.2.2.2.2.1, w.2.2.2.2.2.2.2.2.2.2.2.2.1, w.2.2.2.2.2.2.2.2.2.2.2.2.2.1, w.2.2.2.2.2.2.2.2.2.2.2.2.2.2.1, w.2.2.2.2.2.2.2.2.2.2.2.2.2.2.2.1, w.2.2.2.2.2.2.2.2.2.2.2.2.2.2.2.2.1, w.2.2.2.2.2.2.2.2.2.2.2.2.2.2.2.2.2.1, w.2.2.2.2.2.2.2.2.2.2.2.2.2.2.2.2.2.2)
def ms4 (w : MD) (x : Nat → Int32) : MD := (w.1, w.2.1, w.2.2.1, w.2.2.2.1, x, w.2.2.2.2.2.1, w.2.2.2.2.2.2.1, w.2.2.2.2.2.2.2.1, w.2.2.2.2.2.2.2.2.1, w.2.2.2.2.2.2.2.2.2.1, w.2.2.2.2.2.2.2.2.2.2.1, w.2.2.2.2.2.2.2.2.2.2.2.1, w.2.2.2.2.2.2.2.2.2.2.2.2.1, w.2.2.2.2.2.2.2.2.2.2.2.2.2.1, w.2.2.2.2.2.2.2.2.2.2.2.2.2.2.1, w.2.2.2.2.2.2.2.2.2.2.2.2.2.2.2.1, w.2.2.2.2.2.2.2.2.2.2.2.2.2.2.2.2.1, w.2.2.2.2.2.2.2.2.2.2.2.2.2.2.2.2.2.1, w.2.2.2.2.2.2.2.2.2.2.2.2.2.2.2.2.2.2)
def ms5 (w : MD) (x : Nat → Int32) : MD := (w.1, w.2.1, w.2.2.1, w.2.2.2.1, w.2.2.2.2.1, x, w.2.2.2.2.2.2.1, w.2.2.2.2.2.2.2.1, w.2.2.2.2.2.2.2.2.1, w.2.2.2.2.2.2.2.2.2.1, w.2.2.2.2.2.2.2.2.2.2.1, w.2.2.2.2.2.2.2.2.2.2.2.1, w.2.2.2.2.2.2.2.2.2.2.2.2.1, w.2.2.2.2.2.2.2.2.2.2.2.2.2.1, w.2.2.2.2.2.2.2.2.2.2.2.2.2.2.1, w.2.2.2.2.2.2.2.2.2.2.2.2.2.2.2.1, w.2.2.2.2.2.2.2.2.2.2.2.2.2.2.2.2.1, w.2.2.2.2.2.2.2.2.2.2.2.2.2.2.2.2.2.1, w.2.2.2.2.2.2.2.2.2.2.2.2.2.2.2.2.2.2)
def ms6 (w : MD) (x : Nat → Int32) : MD := (w.1, w.2.1, w.2.2.1, w.2.2.2.1, w.2.2.2.2.1, w.2.2.2.2.2.1, x, w.2.2.2.2.2.2.2.1, w.2.2.2.2.2.2.2.2.1, w.2.2.2.2.2.2.2.2.2.1, w.2.2.2.2.2.2.2.2.2.2.1, w.2.2.2.2.2.2.2.2.2.2.2.1, w.2.2.2.2.2.2.2.2.2.2.2.2.1, w.2.2.2.2.2.2.2.2.2.2.2.2.2.1, w.2.2.2.2.2.2.2.2.2.2.2.2.2.2.1, w.2.2.2.2.2.2.2.2.2.2.2.2.2.2.2.1, w.2.2.2.2.2.2.2.2.2.2.2.2.2.2.2.2.1, w.2.2.2.2.2.2.2.2.2.2.2.2.2.2.2.2.2.1, w.2.2.2.2.2.2.2.2.2.2.2.2.2.2.2.2.2.2)
def ms7 (w : MD) (x : Nat → Int32) : MD := (w.1, w.2.1, w.2.2.1, w.2.2.2.1, w.2.2.2.2.1, w.2.2.2.2.2.1, w.2.2.2.2.2.2.1, x, w.2.2.2.2.2.2.2.2.1, w.2.2.2.2.2.2.2.2.2.1, w.2.2.2.2.2.2.2.2.2.2.1, w.2.2.2.2.2.2.2.2.2.2.2.1, w.2.2.2.2.2.2.2.2.2.2.2.2.1, w.2.2.2.2.2.2.2.2.2.2.2.2.2.1, w.2.2.2.2.2.2.2.2.2.2.2.2.2.2.1, w.2.2.2.2.2.2.2.2.2.2.2.2.2.2.2.1, w.2.2.2.2.2.2.2.2.2.2.2.2.2.2.2.2.1, w.2.2.2.2.2.2.2.2.2.2.2.2.2.2.2.2.2.1, w.2.2.2.2.2.2.2.2.2.2.2.2.2.2.2.2.2.2)
def ms8 (w : MD) (x : Nat → Int32) : MD := (w.1, w.2.1, w.2.2.1, w.2.2.2.1, w.2.2.2.2.1, w.2.2.2.2.2.1, w.2.2.2.2.2.2.1, w.2.2.2.2.2.2.2.1, x, w.2.2.2.2.2.2.2.2.2.1, w.2.2.2.2.2.2.2.2.2.2.1, w.2.2.2.2.2.2.2.2.2.2.2.1, w.2.2.2.2.2.2.2.2.2.2.2.2.1, w.2.2.2.2.2.2.2.2.2.2.2.2.2.1, w.2.2.2.2.2.2.2.2.2.2.2.2.2.2.1, w.2.2.2.2.2.2.2.2.2.2.2.2.2.2.2.1, w.2.2.2.2.2.2.2.2.2.2.2.2.2.2.2.2.1, w.2.2.2.2.2.2.2.2.2.2.2.2.2.2.2.2.2.1, w.2.2.2.2.2.2.2.2.2.2.2.2.2.2.2.2.2.2)
def ms9 (w : MD) (x : Int32) : MD := (w.1, w.2.1, w.2.2.1, w.2.2.2.1, w.2.2.2.2.1, w.2.2.2.2.2.1, w.2.2.2.2.2.2.1, w.2.2.2.2.2.2.2.1, w.2.2.2.2.2.2.2.2.1, x, w.2.2.2.2.2.2.2.2.2.2.1, w.2.2.2.2.2.2.2.2.2.2.2.1, w.2.2.2.2.2.2.2.2.2.2.2.2.1, w.2.2.2.2.2.2.2.2.2.2.2.2.2.1, w.2.2.2.2.2.2.2.2.2.2.2.2.2.2.1, w.2.2.2.2.2.2.2.2.2.2.2.2.2.2.2.1, w.2.2.2.2.2.2.2.2.2.2.2.2.2.2.2.2.1, w.2.2.2.2.2.2.2.2.2.2.2.2.2.2.2.2.2.1, w.2.2.2.2.2.2.2.2.2.2.2.2.2.2.2.2.2.2)
def ms10 (w : MD) (x : Int32) : MD := (w.1, w.2.1, w.2.2.1, w.2.2.2.1, w.2.2.2.2.1, w.2.2.2.2.2.1, w.2.2.2.2.2.2.1, w.2.2.2.2.2.2.2.1, w.2.2.2.2.2.2.2.2.1, w.2.2.2.2.2.2.2.2.2.1, x, w.2.2.2.2.2.2.2.2.2.2.2.1, w.2.2.2.2.2.2.2.2.2.2.2.2.1, w.2.2.2.2.2.2.2.2.2.2.2.2.2.1, w.2.2.2.2.2.2.2.2.2.2.2.2.2.2.1, w.2.2.2.2.2.2.2.2.2.2.2.2.2.2.2.1, w.2.2.2.2.2.2.2.2.2.2.2.2.2.2.2.2.1, w.2.2.2.2.2.2.2.2.2.2.2.2.2.2.2.2.2.1, w.2.2.2.2.2.2.2.2.2.2.2.2.2.2.2.2.2.2)
def ms11 (w : MD) (x : Int32) : MD := (w.1, w.2.1, w.2.2.1, w.2.2.2.1, w.2.2.2.2.1, w.2.2.2.2.2.1, w.2.2.2.2.2.2.1, w.2.2.2.2.2.2.2.1, w.2.2.2.2.2.2.2.2.1, w.2.2.2.2.2.2.2.2.2.1, w.2.2.2.2.2.2.2.2.2.2.1, x, w.2.2.2.2.2.2.2.2.2.2.2.2.1, w.2.2.2.2.2.2.2.2.2.2.2.2.2.1, w.2.2.2.2.2.2.2.2.2.2.2.2.2.2.1, w.2.2.2.2.2.2.2.2.2.2.2.2.2.2.2.1, w.2.2.2.2.2.2.2.2.2.2.2.2.2.2.2.2.1, w.2.2.2.2.2.2.2.2.2.2.2.2.2.2.2.2.2.1, w.2.2.2.2.2.2.2.2.2.2.2.2.2.2.2.2.2.2)
def ms12 (w : MD) (x : Int32) : MD := (w.1, w.2.1, w.2.2.1, w.2.2.2.1, w.2.2.2.2.1, w.2.2.2.2.2.1, w.2.2.2.2.2.2.1, w.2.2.2.2.2.2.2.1, w.2.2.2.2.2.2.2.2.1, w.2.2.2.2.2.2.2.2.2.1, w.2.2.2.2.2.2.2.2.2.2.1, w.2.2.2.2.2.2.2.2.2.2.2.1, x, w.2.2.2.2.2.2.2.2.2.2.2.2.2.1, w.2.2.2.2.2.2.2.2.2.2.2.2.2.2.1, w.2.2.2.2.2.2.2.2.2.2.2.2.2.2.2.1, w.2.2.2.2.2.2.2.2.2.2.2.2.2.2.2.2.1, w.2.2.2.2.2.2.2.2.2.2.2.2.2.2.2.2.2.1, w.2.2.2.2.2.2.2.2.2.2.2.2.2.2.2.2.2.2)
def ms13 (w : MD) (x : Int32) : MD := (w.1, w.2.1, w.2.2.1, w.2.2.2.1, w.2.2.2.2.1, w.2.2.2.2.2.1, w.2.2.2.2.2.2.1, w.2.2.2.2.2.2.2.1, w.2.2.2.2.2.2.2.2.1, w.2.2.2.2.2.2.2.2.2.1, w.2.2.2.2.2.2.2.2.2.2.1, w.2.2.2.2.2.2.2.2.2.2.2.1, w.2.2.2.2.2.2.2.2.2.2.2.2.1, x, w.2.2.2.2.2.2.2.2.2.2.2.2.2.2.1, w.2.2.2.2.2.2.2.2.2.2.2.2.2.2.2.1, w.2.2.2.2.2.2.2.2.2.2.2.2.2.2.2.2.1, w.2.2.2.2.2.2.2.2.2.2.2.2.2.2.2.2.2.1, w.2.2.2.2.2.2.2.2.2.2.2.2.2.2.2.2.2.2)
def ms14 (w : MD) (x : Int32) : MD := (w.1, w.2.1, w.2.2.1, w.2.2.2.1, w.2.2.2.2.1, w.2.2.2.2.2.1, w.2.2.2.2.2.2.1, w.2.2.2.2.2.2.2.1, w.2.2.2.2.2.2.2.2.1, w.2.2.2.2.2.2.2.2.2.1, w.2.2.2.2.2.2.2.2.2.2.1, w.2.2.2.2.2.2.2.2.2.2.2.1, w.2.2.2.2.2.2.2.2.2.2.2.2.1, w.2.2.2.2.2.2.2.2.2.2.2.2.2.1, x, w.2.2.2.2.2.2.2.2.2.2.2.2.2.2.2.1, w.2.2.2.2.2.2.2.2.2.2.2.2.2.2.2.2.1, w.2.2.2.2.2.2.2.2.2.2.2.2.2.2.2.2.2.1, w.2.2.2.2.2.2.2.2.2.2.2.2.2.2.2.2.2.2)
def ms15 (w : MD) (x : Int32) : MD := (w.1, w.2.1, w.2.2.1, w.2.2.2.1, w.2.2.2.2.1, w.2.2.2.2.2.1, w.2.2.2.2.2.2.1, w.2.2.2.2.2.2.2.1, w.2.2.2.2.2.2.2.2.1, w.2.2.2.2.2.2.2.2.2.1, w.2.2.2.2.2.2.2.2.2.2.1, w.2.2.2.2.2.2.2.2.2.2.2.1, w.2.2.2.2.2.2.2.2.2.2.2.2.1, w.2.2.2.2.2.2.2.2.2.2.2.2.2.1, w.2.2.2.2.2.2.2.2.2.2.2.2.2.2.1, x, w.2.2.2.2.2.2.2.2.2.2.2.2.2.2.2.2.1, w.2.2.2.2.2.2.2.2.2.2.2.2.2.2.2.2.2.1, w.2.2.2.2.2.2.2.2.2.2.2.2.2.2.2.2.2.2)
def ms16 (w : MD) (x : Int32) : MD := (w.1, w.2.1, w.2.2.1, w.2.2.2.1, w.2.2.2.2.1, w.2.2.2.2.2.1, w.2.2.2.2.2.2.1, w.2.2.2.2.2.2.2.1, w.2.2.2.2.2.2.2.2.1, w.2.2.2.2.2.2.2.2.2.1, w.2.2.2.2.2.2.2.2.2.2.1, w.2.2.2.2.2.2.2.2.2.2.2.1, w.2.2.2.2.2.2.2.2.2.2.2.2.1, w.2.2.2.2.2.2.2.2.2.2.2.2.2.1, w.2.2.2.2.2.2.2.2.2.2.2.2.2.2.1, w.2.2.2.2.2.2.2.2.2.2.2.2.2.2.2.1, x, w.2.2.2.2.2.2.2.2.2.2.2.2.2.2.2.2.2.1, w.2.2.2.2.2.2.2.2.2.2.2.2.2.2.2.2.2.2)
def ms17 (w : MD) (x : Int32) : MD := (w.1, w.2.1, w.2.2.1, w.2.2.2.1, w.2.2.2.2.1, w.2.2.2.2.2.1, w.2.2.2.2.2.2.1, w.2.2.2.2.2.2.2.1, w.2.2.2.2.2.2.2.2.1, w.2.2.2.2.2.2.2.2.2.1, w.2.2.2.2.2.2.2.2.2.2.1, w.2.2.2.2.2.2.2.2.2.2.2.1, w.2.2.2.2.2.2.2.2.2.2.2.2.1, w.2.2.2.2.2.2.2.2.2.2.2.2.2.1, w.2.2.2.2.2.2.2.2.2.2.2.2.2.2.1, w.2.2.2.2.2.2.2.2.2.2.2.2.2.2.2.1, w.2.2.2.2.2.2.2.2.2.2.2.2.2.2.2.2.1, x, w.2.2.2.2.2.2.2.2.2.2.2.2.2.2.2.2.2.2)
def ms18 (w : MD) (x : Int32) : MD := (w.1, w.2.1, w.2.2.1, w.2.2.2.1, w.2.2.2.2.1, w.2.2.2.2.2.1, w.2.2.2.2.2.2.1, w.2.2.2.2.2.2.2.1, w.2.2.2.2.2.2.2.2.1, w.2.2.2.2.2.2.2.2.2.1, w.2.2.2.2.2.2.2.2.2.2.1, w.2.2.2.2.2.2.2.2.2.2.2.1, w.2.2.2.2.2.2.2.2.2.2.2.2.1, w.2.2.2.2.2.2.2.2.2.2.2.2.2.1, w.2.2.2.2.2.2.2.2.2.2.2.2.2.2.1, w.2.2.2.2.2.2.2.2.2.2.2.2.2.2.2.1, w.2.2.2.2.2.2.2.2.2.2.2.2.2.2.2.2.1, w.2.2.2.2.2.2.2.2.2.2.2.2.2.2.2.2.2.1, x)
/-- a row's place changed -/
def gu (M : Nat → Nat → Int32) (j i : Nat) (x : Int32) : Nat → Nat → Int32 := va_up M j (upd (M j) i x)
/-! places of the worlds, once and for all -/
theorem adrC {k : Nat → ClassId} {c0 c1 : Nat} {a b : Nat → Int32} : (wC k c0 c1 a).map (fun q => q.1) = (wC k c0 c1 b).map (fun q => q.1) := rfl
theorem adrB {k : Nat → ClassId} {b0 b1 : Nat} {r : Nat → Nat} {a b : Nat → Nat → Int32} : (wB k b0 b1 r a).map (fun q => q.1) = (wB k b0 b1 r b).map (fun q => q.1) := rfl
theorem adrT {k : Nat → ClassId} {q : Nat → Nat} {a b : TM} : (wT k q a).map (fun q => q.1) = (wT k q b).map (fun q => q.1) := rfl
theorem adrM {k : Nat → ClassId} {z : Nat → Nat} {a b : MD} : (wM k z a).map (fun q => q.1) = (wM k z b).map (fun q => q.1) := rfl
theorem allC {k : Nat → ClassId} {c0 c1 : Nat} {a : Nat → Int32} : [0, 1].map (fun i => (wC k c0 c1 a)[i]?) = (wC k c0 c1 a).map some := rfl
theorem allB {k : Nat → ClassId} {b0 b1 : Nat} {r : Nat → Nat} {a : Nat → Nat → Int32} : [0, 1, 2, 3, 4, 5].map (fun i => (wB k b0 b1 r a)[i]?) = (wB k b0 b1 r a).map some := rfl
theorem allT {k : Nat → ClassId} {q : Nat → Nat} {a : TM} : [0, 1, 2, 3, 4, 5, 6, 7, 8, 9, 10].map (fun i => (wT k q a)[i]?) = (wT k q a).map some := rfl
theorem allM {k : Nat → ClassId} {z : Nat → Nat} {a : MD} : [0, 1, 2, 3, 4, 5, 6, 7, 8, 9].map (fun i => (wM k z a)[i]?) = (wM k z a).map some := rfl
theorem prmC {k : Nat → ClassId} {c0 c1 : Nat} {a b : Nat → Int32} : [0, 1].filterMap (fun i => (([] : List Nat).filterMap (fun j => (wC k c0 c1 a)[j]?) ++ wC k c0 c1 b)[i]?) = wC k c0 c1 b := rfl
theorem prmB {k : Nat → ClassId} {b0 b1 : Nat} {r : Nat → Nat} {a b : Nat → Nat → Int32} : [0, 1, 2, 3, 4, 5].filterMap (fun i => (([] : List Nat).filterMap (fun j => (wB k b0 b1 r a)[j]?) ++ wB k b0 b1 r b)[i]?) = wB k b0 b1 r b := rfl
theorem prmT {k : Nat → ClassId} {q : Nat → Nat} {a b : TM} : [0, 1, 2, 3, 4, 5, 6, 7, 8, 9, 10].filterMap (fun i => (([] : List Nat).filterMap (fun j => (wT k q a)[j]?) ++ wT k q b)[i]?) = wT k q b := rfl
theorem prmM {k : Nat → ClassId} {z : Nat → Nat} {a b : MD} : [0, 1, 2, 3, 4, 5, 6, 7, 8, 9].filterMap (fun i => (([] : List Nat).filterMap (fun j => (wM k z a)[j]?) ++ wM k z b)[i]?) = wM k z b := rfl
theorem fmTC {k : Nat → ClassId} {q : Nat → Nat} {a : TM} : [3, 4].filterMap (fun i => (wT k q a)[i]?) = wC k (q 3) (q 4) a.2.2.1 := rfl
theorem fmTB {k : Nat → ClassId} {q : Nat → Nat} {a : TM} : [5, 6, 7, 8, 9, 10].filterMap (fun i => (wT k q a)[i]?) = wB k (q 5) (q 6) (fun j => q (7 + j)) a.2.2.2.1 := rfl
theorem subTC {k : Nat → ClassId} {q : Nat → Nat} {a : TM} : [3, 4].map (fun i => (wT k q a)[i]?) = (wC k (q 3) (q 4) a.2.2.1).map some := rfl
theorem subTB {k : Nat → ClassId} {q : Nat → Nat} {a : TM} : [5, 6, 7, 8, 9, 10].map (fun i => (wT k q a)[i]?) = (wB k (q 5) (q 6) (fun j => q (7 + j)) a.2.2.2.1).map some := rfl
theorem putTC {k : Nat → ClassId} {q : Nat → Nat} {a : TM} {v : Nat → Int32} : [0, 1, 2, 9, 10, 3, 4, 5, 6, 7, 8].filterMap (fun i => ([0, 1, 2, 5, 6, 7, 8, 9, 10].filterMap (fun j => (wT k q a)[j]?) ++ wC k (q 3) (q 4) v)[i]?) = wT k q (ts2 a v) := rfl
theorem putTB {k : Nat → ClassId} {q : Nat → Nat} {a : TM} {v : Nat → Nat → Int32} : [0, 1, 2, 3, 4, 5, 6, 7, 8, 9, 10].filterMap (fun i => ([0, 1, 2, 3, 4].filterMap (fun j => (wT k q a)[j]?) ++ wB k (q 5) (q 6) (fun j => q (7 + j)) v)[i]?) = wT k q (ts3 a v) := rfl
theorem gd_at {k : Nat → ClassId} {hb ho : Nat} {r : Nat → Nat} {M : Nat → Nat → Int32} : ∀ {j : Nat}, j < 4 → (wB k hb ho r M)[2 + j]? = some (r j, .inl (k 0, 6, .inl (M j)))
  | 0, _ => rfl
  | 1, _ => rfl
  | 2, _ => rfl
  | 3, _ => rfl
  | n + 4, h => absurd h (by omega)
theorem gd_set {k : Nat → ClassId} {hb ho : Nat} {r : Nat → Nat} {M : Nat → Nat → Int32} {i : Nat} {x : Int32} : ∀ {j : Nat}, j < 4 → (wB k hb ho r M).set (2 + j) (r j, .inl (k 0, 6, .inl (upd (M j) i x))) = wB k hb ho r (gu M j i x)
  | 0, _ => rfl
  | 1, _ => rfl
  | 2, _ => rfl
  | 3, _ => rfl
  | n + 4, h => absurd h (by omega)
theorem ix_lt {i : Int32} {n : Nat} (h : vp_in i n) : ix i < n := Nat.not_le.mp fun q => h (Or.inr q)
theorem ix_ltj {i : Int32} {n j : Nat} (h : vp_in i n) (hj : ix i = j) : j < n := hj ▸ ix_lt h
theorem ix_nI {i : Nat} (h : i < 2 ^ 31) : ix (nI i) = i := nI_clamp h
theorem vi_and (x : Int32) {m : Int32} (k : Nat) (hm : m.toBitVec.toNat = 2 ^ k - 1) (hk : k ≤ 30) : vp_in (x &&& m) (2 ^ k) := pk_andIn x k hm hk
theorem vi_rng {x a : Int32} {n : Nat} (ha : a.toInt + 1 = n) (h0 : ¬ x < 0) (h1 : ¬ a < x) : vp_in x n := by
  rw [vp_in_iff]
  rw [Int32.lt_iff_toInt_lt] at h0 h1
  have : (0 : Int32).toInt = 0 := by decide
  omega
