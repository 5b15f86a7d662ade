/-! ### the law's walk: its world and its calls -/
/-- the world of the law: the machine, the model, the out array -/
def wL (k : Nat → ClassId) (q z : Nat → Nat) (u : TM) (w : MD) (oa : Nat) (f : Nat → Int64) : va_W := wT k q u ++ (wM k z w ++ wO k oa f)
theorem adL {k : Nat → ClassId} {q z : Nat → Nat} {u u' : TM} {w w' : MD} {oa : Nat} {f f' : Nat → Int64} : (wL k q z u w oa f).map (fun q => q.1) = (wL k q z u' w' oa f').map (fun q => q.1) := rfl
theorem alT {k : Nat → ClassId} {q z : Nat → Nat} {u : TM} {w : MD} {oa : Nat} {f : Nat → Int64} : [0, 1, 2, 3, 4, 5, 6, 7, 8, 9, 10].map (fun i => (wL k q z u w oa f)[i]?) = (wT k q u).map some := rfl
theorem alM {k : Nat → ClassId} {q z : Nat → Nat} {u : TM} {w : MD} {oa : Nat} {f : Nat → Int64} : [11, 12, 13, 14, 15, 16, 17, 18, 19, 20].map (fun i => (wL k q z u w oa f)[i]?) = (wM k z w).map some := rfl
theorem alO {k : Nat → ClassId} {q z : Nat → Nat} {u : TM} {w : MD} {oa : Nat} {f : Nat → Int64} : [0, 1, 2, 3, 4, 5, 6, 7, 8, 9, 10, 21].map (fun i => (wL k q z u w oa f)[i]?) = (wTO k q u oa f).map some := rfl
theorem pmT {k : Nat → ClassId} {q z : Nat → Nat} {u u' : TM} {w : MD} {oa : Nat} {f : Nat → Int64} : [11, 12, 13, 14, 15, 16, 17, 18, 19, 20, 21, 0, 1, 2, 3, 4, 5, 6, 7, 8, 9, 10].filterMap (fun i => (([11, 12, 13, 14, 15, 16, 17, 18, 19, 20, 21] : List Nat).filterMap (fun j => (wL k q z u w oa f)[j]?) ++ wT k q u')[i]?) = wL k q z u' w oa f := rfl
theorem pmM {k : Nat → ClassId} {q z : Nat → Nat} {u : TM} {w w' : MD} {oa : Nat} {f : Nat → Int64} : [0, 1, 2, 3, 4, 5, 6, 7, 8, 9, 10, 12, 13, 14, 15, 16, 17, 18, 19, 20, 21, 11].filterMap (fun i => (([0, 1, 2, 3, 4, 5, 6, 7, 8, 9, 10, 21] : List Nat).filterMap (fun j => (wL k q z u w oa f)[j]?) ++ wM k z w')[i]?) = wL k q z u w' oa f := rfl
theorem pmO {k : Nat → ClassId} {q z : Nat → Nat} {u u' : TM} {w : MD} {oa : Nat} {f f' : Nat → Int64} : [10, 11, 12, 13, 14, 15, 16, 17, 18, 19, 20, 0, 1, 2, 3, 4, 5, 6, 7, 8, 9, 21].filterMap (fun i => (([11, 12, 13, 14, 15, 16, 17, 18, 19, 20] : List Nat).filterMap (fun j => (wL k q z u w oa f)[j]?) ++ wTO k q u' oa f')[i]?) = wL k q z u' w oa f' := rfl
theorem ndT : va_nd [0, 1, 2, 3, 4, 5, 6, 7, 8, 9, 10] = true := by decide
theorem ndM : va_nd [11, 12, 13, 14, 15, 16, 17, 18, 19, 20] = true := by decide
theorem ndO : va_nd [0, 1, 2, 3, 4, 5, 6, 7, 8, 9, 10, 21] = true := by decide
theorem fmT {k : Nat → ClassId} {q z : Nat → Nat} {u : TM} {w : MD} {oa : Nat} {f : Nat → Int64} : [0, 1, 2, 3, 4, 5, 6, 7, 8, 9, 10].filterMap (fun i => (wL k q z u w oa f)[i]?) = wT k q u := rfl
theorem fmM {k : Nat → ClassId} {q z : Nat → Nat} {u : TM} {w : MD} {oa : Nat} {f : Nat → Int64} : [11, 12, 13, 14, 15, 16, 17, 18, 19, 20].filterMap (fun i => (wL k q z u w oa f)[i]?) = wM k z w := rfl
theorem fmO {k : Nat → ClassId} {q z : Nat → Nat} {u : TM} {w : MD} {oa : Nat} {f : Nat → Int64} : [0, 1, 2, 3, 4, 5, 6, 7, 8, 9, 10, 21].filterMap (fun i => (wL k q z u w oa f)[i]?) = wTO k q u oa f := rfl
theorem dsT : ∀ i ∈ ([11, 12, 13, 14, 15, 16, 17, 18, 19, 20, 21] : List Nat), i ∉ ([0, 1, 2, 3, 4, 5, 6, 7, 8, 9, 10] : List Nat) := by decide
theorem dsM : ∀ i ∈ ([0, 1, 2, 3, 4, 5, 6, 7, 8, 9, 10, 21] : List Nat), i ∉ ([11, 12, 13, 14, 15, 16, 17, 18, 19, 20] : List Nat) := by decide
theorem dsO : ∀ i ∈ ([11, 12, 13, 14, 15, 16, 17, 18, 19, 20] : List Nat), i ∉ ([0, 1, 2, 3, 4, 5, 6, 7, 8, 9, 10, 21] : List Nat) := by decide
theorem rcM {k : Nat → ClassId} {z : Nat → Nat} {w : MD} : ∃ fs : List Value, (wM k z w)[0]? = some (z 0, .inr (3, fs)) := ⟨_, rfl⟩
theorem rcT {k : Nat → ClassId} {q : Nat → Nat} {u : TM} : ∃ fs : List Value, (wT k q u)[0]? = some (q 0, .inr (2, fs)) := ⟨_, rfl⟩
theorem th_mk {u : TM} {th nx br ba fo ra : Int32} : fX4_thrown (mk u th nx br ba fo ra) = th := rfl
theorem nI_sub3 {i L : Nat} (hi : i < 2 ^ 30) (hL : L < 2 ^ 30) : nI i ≤ Int32.ofNat L - (3 : Int32) ↔ i + 3 ≤ L := by
  have h1 : (nI i).toInt = (i : Int) := nI_toInt (by omega)
  have h2 : (Int32.ofNat L).toInt = (L : Int) := nI_toInt (by omega)
  have h3 : (3 : Int32).toInt = 3 := by decide
  rw [Int32.le_iff_toInt_le, Int32.toInt_sub, h1, h2, h3, Int.bmod_eq_of_le (by omega) (by omega)]
  omega
theorem lv_tl {ls : Array Slot} {n : Nat} {a : Nat × Value} {lv : List (Nat × Value)} (h : lv_has ls n (a :: lv)) : lv_has ls n lv := ⟨h.1, h.2.1, fun q hq => h.2.2 q (List.mem_cons_of_mem _ hq)⟩
section LawRows
variable {p : Program} {l : Launch} {e : Env} {R : Room} {s : State} {m : MethodId} {args : Array Value} {below : List Frame} {meth : Method} {c : Code} {H : Heap} {locs : List Loc} {cells slots : Nat} {Q : State → Prop}
variable {pc : Nat} {ls : Array Slot} {rest st0 : List Value} {D : va_G} {cl : List vw_C} {A : Nat → Prop} {tys : List (ClassId × FieldType)} {ws : va_W} {As : List Value} {X : State → Prop} {a : Array Value} {mc ms : Nat}
theorem run_of {g : JFrame} {Qa : State → Outcome → State → Prop} {free : Addr → Prop} (h : va_Run p l e R s m args below meth c H locs cells slots mc ms g rest Qa free) : CallRun p l e R s m args below meth c H locs cells slots mc ms g rest Qa free := by
  intro T hT X
  obtain ⟨v, st₀, t, T', L, h0, X', hL, e1, -, hq, st⟩ := h T hT X
  exact ⟨v, st₀, t, T', L, h0, X', hL, e1, hq, st⟩
theorem rd_preS (bx : bl_X X) (hX : ∀ U : State, U.heap = H → s.WarmedH U.vm → X U) (hK : va_K D cl tys s) (hP : va_P D cl ws H) : PreS s H (rd_P D cl tys ws X As) As := ⟨rd_blind bx, fun U hU hW => ⟨rfl, by rw [hU]; exact hP, va_K.moved hW.alike hK, hX U hU hW⟩⟩
theorem wr_preS (bx : bl_X X) (hX : ∀ U : State, U.heap = H → s.WarmedH U.vm → X U) (hK : va_K D cl tys s) (hP : va_P D cl ws H) (hD : va_D A ws) : PreS s H (wr_P D cl tys ws X As) As := ⟨wr_blind bx, fun U hU hW => ⟨rfl, by rw [hU]; exact hP, va_K.moved hW.alike hK, hX U hU hW, hD.weaken (fun _ _ _ _ => trivial)⟩⟩
theorem prA_NS {tC tL : Nat} {wc : va_W} (hn : NL s) (h : ST tC tL A s s.heap) (hS : va_S A s.heap H locs) (hs : ∀ q, in_W wc q → A q) : ∀ U : State, U.heap = H → s.WarmedH U.vm → (fun U : State => NL U ∧ ST tC tL (in_W wc) U U.heap) U := fun U hU hW => by
  refine ⟨hn.warm hW, ?_⟩
  show ST tC tL (in_W wc) U U.heap
  rw [hU]
  exact ((h.kept (fun a h1 h2 => hS.2.1 a h1 h2)).narrow hs).moved hW.alike
theorem in_D (h : va_D A ws) : ∀ q, in_W ws q → A q := fun q ⟨k, x, hx⟩ => h.2 k (q, x) hx
/-- what stays through the law -/
def LF (p : Program) (l : Launch) (s : State) (m : MethodId) (c : Code) (b L : Nat) (xs : Nat → Int32) (D : va_G) (k : Nat → ClassId) (tC tL : Nat) : Prop :=
  CallFix p m c cL_law 7 s #[Value.ref b] wsL_law RL ∧ (va_X b L xs s s.heap ∧ b < s.heap.size ∧ L < 2 ^ 30) ∧ va_K D vwCl (tyL k) s ∧ (NL s ∧ ST tC tL (AL s) s s.heap ∧ XP (AL s) s s.heap) ∧ l.stackTraces = false
/-- the law's world in the heap -/
def LW (s : State) (D : va_G) (k : Nat → ClassId) (q z : Nat → Nat) (oa : Nat) (H : Heap) (locs : List Loc) (u : TM) (w : MD) (f : Nat → Int64) : Prop :=
  va_P D vwCl (wL k q z u w oa f) H ∧ va_D (AL s) (wL k q z u w oa f) ∧ va_S (AL s) s.heap H locs
def lvL (b : Nat) (q z : Nat → Nat) (oa i : Nat) : List (Nat × Value) := [(0, .ref b), (1, .ref (q 0)), (2, .ref (z 0)), (3, .ref oa), (4, .int (nI i))]
variable {b L tC tL oa : Nat} {xs : Nat → Int32} {k : Nat → ClassId} {q z : Nat → Nat} {u u' : TM} {w w' : MD} {f f' : Nat → Int64}
theorem LW.PT (h : LW s D k q z oa H locs u w f) : va_P D vwCl (wT k q u) H := h.1.sub _ fmT
theorem LW.PM (h : LW s D k q z oa H locs u w f) : va_P D vwCl (wM k z w) H := h.1.sub _ fmM
theorem LW.PO (h : LW s D k q z oa H locs u w f) : va_P D vwCl (wTO k q u oa f) H := h.1.sub _ fmO
theorem LW.DT (h : LW s D k q z oa H locs u w f) : va_D (AL s) (wT k q u) := h.2.1.sub _ ndT alT
theorem LW.DM (h : LW s D k q z oa H locs u w f) : va_D (AL s) (wM k z w) := h.2.1.sub _ ndM alM
theorem LW.DO (h : LW s D k q z oa H locs u w f) : va_D (AL s) (wTO k q u oa f) := h.2.1.sub _ ndO alO
/-- a call that writes the machine -/
theorem lc_T {r : Option Value} (hW : LW s D k q z oa H locs u w f) (hr : CallRun p l e R s m args below meth c H locs cells slots 0 0 (F0 m pc ls st0) rest (wr_Q D vwCl r (wT k q u) (wT k q u') a) (in_W (wT k q u)))
    (kk : ∀ (H : Heap) (locs : List Loc), LW s D k q z oa H locs u' w f → W p l e R s m args below meth c H locs cells slots Q (F0 m (pc + 3) ls (r.toList ++ rest))) : W p l e R s m args below meth c H locs cells slots Q (F0 m pc ls st0) :=
  wr_call hr hW.1 hW.2.1 hW.2.2 _ _ _ alT dsT pmT adL (fun H locs h1 h2 h3 => kk H locs ⟨h1, h2, h3⟩)
/-- a call that writes the model -/
theorem lc_M {r : Option Value} (hW : LW s D k q z oa H locs u w f) (hr : CallRun p l e R s m args below meth c H locs cells slots 0 0 (F0 m pc ls st0) rest (wr_Q D vwCl r (wM k z w) (wM k z w') a) (in_W (wM k z w)))
    (kk : ∀ (H : Heap) (locs : List Loc), LW s D k q z oa H locs u w' f → W p l e R s m args below meth c H locs cells slots Q (F0 m (pc + 3) ls (r.toList ++ rest))) : W p l e R s m args below meth c H locs cells slots Q (F0 m pc ls st0) :=
  wr_call hr hW.1 hW.2.1 hW.2.2 _ _ _ alM dsM pmM adL (fun H locs h1 h2 h3 => kk H locs ⟨h1, h2, h3⟩)
/-- a call that writes the machine and the out array -/
theorem lc_O {r : Option Value} (hW : LW s D k q z oa H locs u w f) (hr : CallRun p l e R s m args below meth c H locs cells slots 0 0 (F0 m pc ls st0) rest (wr_Q D vwCl r (wTO k q u oa f) (wTO k q u' oa f') a) (in_W (wTO k q u oa f)))
    (kk : ∀ (H : Heap) (locs : List Loc), LW s D k q z oa H locs u' w f' → W p l e R s m args below meth c H locs cells slots Q (F0 m (pc + 3) ls (r.toList ++ rest))) : W p l e R s m args below meth c H locs cells slots Q (F0 m pc ls st0) :=
  wr_call hr hW.1 hW.2.1 hW.2.2 _ _ _ alO dsO pmO adL (fun H locs h1 h2 h3 => kk H locs ⟨h1, h2, h3⟩)
/-- a helper that catches -/
theorem lc_x (hW : LW s D k q z oa H locs u w f) (hr : va_Run p l e R s m args below meth c H locs cells slots mc ms (F0 m pc ls st0) rest (xR1 a) (fun _ => False))
    (kk : ∀ (H : Heap) (locs : List Loc), LW s D k q z oa H locs u w f → W p l e R s m args below meth c H locs (cells + mc) (slots + ms) Q (F0 m (pc + 3) ls (.int (1 : Int32) :: rest))) : W p l e R s m args below meth c H locs cells slots Q (F0 m pc ls st0) := by
  refine va_calli (S := Unit) (post := fun r _ => r = (1 : Int32)) (B := fun _ _ => True) (A1 := fun _ => False) (A0 := AL s) (H0 := s.heap) hr hW.2.2 (fun _ _ h => h.elim) (fun _ h => h.elim) (fun r _ t H1 locs1 _ _ hp _ _ hk hS => ?_)
  have hp : r = (1 : Int32) := hp
  subst hp
  exact kk H1 locs1 ⟨hW.1.kept (fun j x hx => hk x.1 ((hW.1 j x hx).lt) (fun h => h)), hW.2.1, hS⟩
/-- a word of the script -/
theorem sc_rd (hF : LF p l s m c b L xs D k tC tL) (hS : va_S (AL s) s.heap H locs) {i j : Nat} {n : Int} (e0 : ls[0]? = some (.val (.ref b))) (e4 : ls[4]? = some (.val (.int (nI i)))) (hn : Int32.ofInt n = nI j) (hij : i + j < L)
    (d0 : decode cL_law pc = .ok (.aload_n 0, 1)) (d1 : decode cL_law (pc + 1) = .ok (.iload 4, 2)) (d2 : decode cL_law (pc + 3) = .ok (.iconst n, 1)) (d3 : decode cL_law (pc + 4) = .ok (.iadd, 1)) (d4 : decode cL_law (pc + 5) = .ok (.iaload, 1))
    (kk : W p l e R s m args below meth c H locs cells slots Q (F0 m (pc + 6) ls (.int (xs (i + j)) :: rest))) : W p l e R s m args below meth c H locs cells slots Q (F0 m pc ls rest) := by
  have hx := hF.1.1
  have hb := hF.1.2.1
  obtain ⟨hX, hbl, hL⟩ := hF.2.1
  refine lv_aload_n hx hb d0 rfl e0 ?_
  refine lv_iload hx hb d1 e4 ?_
  refine lv_iconst (v := nI j) hx hb d2 hn ?_
  refine lv_iadd hx hb d3 ?_
  rw [nI_add]
  refine va_sld (A := AL s) hx hb hX hbl (Nat.not_le.mpr hbl) hS (nI_in hij (by omega)) d4 ?_
  rw [nI_clamp (by omega)]
  exact kk
/-- a word that is a boolean -/
theorem sc_bool (hx : p.tables.exec = Jvm.exec) (hb : c.code = cL_law) {x : Int32} (d0 : decode cL_law pc = .ok (.ifCond .eq 7, 3)) (d1 : decode cL_law (pc + 3) = .ok (.iconst 1, 1)) (d2 : decode cL_law (pc + 4) = .ok (.goto 4, 3)) (d3 : decode cL_law (pc + 7) = .ok (.iconst 0, 1))
    (kk : W p l e R s m args below meth c H locs cells slots Q (F0 m (pc + 8) ls (.int (if x = (0 : Int32) then (0 : Int32) else (1 : Int32)) :: rest))) : W p l e R s m args below meth c H locs cells slots Q (F0 m pc ls (.int x :: rest)) := by
  refine lv_if_eq (tgt := pc + 7) hx hb d0 (by omega) (fun h => ?_) (fun h => ?_)
  · rw [if_pos h] at kk
    exact lv_iconst (v := (0 : Int32)) hx hb d3 (by decide) kk
  · rw [if_neg h] at kk
    refine lv_iconst (v := (1 : Int32)) hx hb d1 (by decide) ?_
    exact lv_goto (tgt := pc + 8) hx hb d2 (by omega) kk
/-- the model's thrown() -/
theorem lc_th (hF : LF p l s m c b L xs D k tC tL) (hW : LW s D k q z oa H locs u w f) {r : Int32} (hr : fX4_thrown w = r) (hn : ls.size = 7) (e2 : ls[2]? = some (.val (.ref (z 0)))) (hc : cells ≤ room_1.cells) (hs : slots ≤ room_1.slots)
    (d0 : decode cL_law pc = .ok (.aload_n 2, 1)) (d1 : decode cL_law (pc + 1) = .ok (.invokevirtual 43, 3))
    (kk : W p l e room_1 s m #[Value.ref b] below meth c H locs cells slots Q (F0 m (pc + 4) ls [.int r])) : W p l e room_1 s m #[Value.ref b] below meth c H locs cells slots Q (F0 m pc ls []) := by
  subst hr
  obtain ⟨fs, hfs⟩ := rcM (k := k) (z := z) (w := w)
  have hts := hF.1.2.2.2.2
  refine lv_aload_n hF.1.1 hF.1.2.1 d0 rfl e2 ?_
  exact rd_call (W.runV (C := RX4) (b := z 0) (As := []) (rest := []) hF.1 (kX4_thrown l D k z w) (cwV 0 hts gL_law_X4_thrown rfl rfl rfl (by decide +kernel) ⟨Nat.le_of_ble_eq_true rfl, Nat.le_of_ble_eq_true rfl⟩) (rd_preV bl_T pr_T hF.2.2.1 hW.PM (va_recv hF.2.2.1 hW.PM (ci := 3) (q0 := 0) rfl hfs)) rfl rfl hn rfl (lv_room (Nat.le_of_ble_eq_true rfl)) d1 ⟨hc, hs⟩) kk
/-- k and thrown() are the same -/
theorem lc_eq (hF : LF p l s m c b L xs D k tC tL) (hW : LW s D k q z oa H locs u w f) {r : Int32} {tgt : Nat} (hr : fX4_thrown w = r) (hn : ls.size = 7) (e2 : ls[2]? = some (.val (.ref (z 0)))) (e5 : ls[5]? = some (.val (.int r))) (hc : cells ≤ room_1.cells) (hs : slots ≤ room_1.slots)
    (d0 : decode cL_law pc = .ok (.aload_n 2, 1)) (d1 : decode cL_law (pc + 1) = .ok (.invokevirtual 43, 3)) (d2 : decode cL_law (pc + 4) = .ok (.iload 5, 2)) (d3 : decode cL_law (pc + 6) = .ok (.if_icmp .eq 5, 3)) (ht : pc + 11 = tgt)
    (kk : W p l e room_1 s m #[Value.ref b] below meth c H locs cells slots Q (F0 m tgt ls [])) : W p l e room_1 s m #[Value.ref b] below meth c H locs cells slots Q (F0 m pc ls []) := by
  refine lc_th hF hW hr hn e2 hc hs d0 d1 ?_
  refine lv_iload hF.1.1 hF.1.2.1 d2 e5 ?_
  exact lv_icmp_eq (tgt := tgt) hF.1.1 hF.1.2.1 d3 (by omega) (fun _ => kk) (fun h => absurd rfl h)
/-- the end of a read: thrown or the same value -/
theorem lc_tail (hF : LF p l s m c b L xs D k tC tL) (hW : LW s D k q z oa H locs u w f) {r v : Int32} {i : Nat} {off : Int} (hr : fX4_thrown w = r) (hv : r = (0 : Int32) → f 0 = v.toInt64) (hl : lv_has ls 7 ((5, .int r) :: lvL b q z oa i)) (hc : cells ≤ room_1.cells) (hs : slots ≤ room_1.slots)
    (d : decode cL_law pc = .ok (.istore 6, 2)) (d0 : decode cL_law (pc + 2) = .ok (.aload_n 2, 1)) (d1 : decode cL_law (pc + 3) = .ok (.invokevirtual 43, 3)) (d2 : decode cL_law (pc + 6) = .ok (.iload 5, 2)) (d3 : decode cL_law (pc + 8) = .ok (.if_icmp .eq 5, 3))
    (d4 : decode cL_law (pc + 13) = .ok (.iload 5, 2)) (d5 : decode cL_law (pc + 15) = .ok (.ifCond .ne 15, 3)) (d6 : decode cL_law (pc + 18) = .ok (.aload_n 3, 1)) (d7 : decode cL_law (pc + 19) = .ok (.iconst 0, 1)) (d8 : decode cL_law (pc + 20) = .ok (.laload, 1)) (d9 : decode cL_law (pc + 21) = .ok (.iload 6, 2)) (d10 : decode cL_law (pc + 23) = .ok (.i2l, 1)) (d11 : decode cL_law (pc + 24) = .ok (.lcmp, 1)) (d12 : decode cL_law (pc + 25) = .ok (.ifCond .eq 5, 3)) (d13 : decode cL_law (pc + 30) = .ok (.goto off, 3)) (hg : ((pc + 30 : Nat) : Int) + off = (524 : Nat))
    (kk : ∀ ls : Array Slot, lv_has ls 7 (lvL b q z oa i) → W p l e room_1 s m #[Value.ref b] below meth c H locs cells slots Q (F0 m 524 ls [])) : W p l e room_1 s m #[Value.ref b] below meth c H locs cells slots Q (F0 m pc ls [.int v]) := by
  have hx := hF.1.1
  have hb := hF.1.2.1
  refine lv_istore (lv' := (6, .int v) :: (5, .int r) :: lvL b q z oa i) hx hb d hl (by decide) rfl (fun ls hl => ?_)
  refine lc_eq (tgt := pc + 13) hF hW hr hl.1 (lv_at hl 4 rfl) (lv_at hl 1 rfl) hc hs d0 d1 d2 d3 (by omega) ?_
  refine lv_iload hx hb d4 (lv_at hl 1 rfl) ?_
  have hend : W p l e room_1 s m #[Value.ref b] below meth c H locs cells slots Q (F0 m (pc + 30) ls []) := lv_goto (tgt := 524) hx hb d13 hg (kk ls (lv_tl (lv_tl hl)))
  refine lv_if_ne (tgt := pc + 30) hx hb d5 (by omega) (fun _ => hend) (fun h => ?_)
  have h0 : f 0 = v.toInt64 := hv h
  refine lv_aload_n hx hb d6 rfl (lv_at hl 5 rfl) ?_
  refine lv_iconst (v := (0 : Int32)) hx hb d7 (by decide) ?_
  refine va_lald hx hb hF.2.2.1 hW.1 21 3 rfl rfl (by unfold vp_in; decide) d8 ?_
  refine lv_iload hx hb d9 (lv_at hl 0 rfl) ?_
  refine lv_i2l (v := v.toInt64) hx hb d10 rfl ?_
  refine W.lcmp hx hb d11 ?_
  exact lv_if_eq (tgt := pc + 30) hx hb d12 (by omega) (fun _ => hend) (fun h9 => absurd ((lg_cmp_eq _ _).mpr h0) h9)
end LawRows
