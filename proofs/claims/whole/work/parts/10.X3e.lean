theorem mm_t {i : Nat} {a1 : Int32} (h : i = 2000) : (if (2000 : Int32) < a1 then (2000 : Int32) else a1) ≤ nI i := by
  subst h
  split
  · decide
  · rename_i q; exact Int32.not_lt.mp q
theorem reg_in {x : Int32} (h0 : ¬ x < (0 : Int32)) (h1 : x ≤ (9 : Int32)) (h2 : ¬ x = (8 : Int32)) (h3 : ¬ x = (9 : Int32)) : vp_in x 8 := by
  rw [vp_in_iff]
  rw [Int32.lt_iff_toInt_lt] at h0
  rw [Int32.le_iff_toInt_le] at h1
  have n8 := lv_neT h2 (show (8 : Int32).toInt = 8 by decide)
  have n9 := lv_neT h3 (show (9 : Int32).toInt = 9 by decide)
  have : (0 : Int32).toInt = 0 := by decide
  have : (9 : Int32).toInt = 9 := by decide
  omega
def itT : Nat → TM → TM
  | 0, u => u
  | n + 1, u => itT n (fX3_step u)
/-- nextFilled stays in its bounds as long as the machine runs on -/
def itTn (u : TM) : Prop := ∀ j : Nat, (∀ i, i < j → ¬ (itT i u).2.2.2.2.2.2.2.1 = (2 : Int32) ∧ (itT i u).2.2.2.2.2.2.2.2 = (0 : Int32)) → vp_in (itT j u).2.2.2.2.2.2.1 4
theorem itTn_s {u o : TM} (ho : fX3_step u = o) (h1 : ¬ u.2.2.2.2.2.2.2.1 = (2 : Int32)) (h2 : u.2.2.2.2.2.2.2.2 = (0 : Int32)) (h : itTn u) : itTn o := by
  subst ho
  intro j hj
  refine h (j + 1) (fun i hi => ?_)
  cases i with
  | zero => exact ⟨h1, h2⟩
  | succ i => exact hj i (by omega)
theorem vi_le {x a : Int32} {n : Nat} (ha : a.toInt + 1 = n) (h0 : ¬ x < (0 : Int32)) (h1 : x ≤ a) : vp_in x n := vi_rng ha h0 (Int32.not_lt.mpr h1)
def fX3_run_lp (a1 : Int32) : Nat → Nat → (TM) → Int32 × TM
  | 0, i, m9 => ((nI i), m9)
  | n + 1, i, m9 =>
    if (if (2000 : Int32) < a1 then (2000 : Int32) else a1) ≤ (nI i) then
      ((nI i), m9)
    else
      if m9.2.2.2.2.2.2.2.1 = (2 : Int32) then
        ((nI i), m9)
      else
        if m9.2.2.2.2.2.2.2.2 = (0 : Int32) then
          fX3_run_lp a1 n (i + 1) (fX3_step m9)
        else
          ((nI i), m9)
def fX3_run (u : TM) (a1 : Int32) : Int32 × TM :=
  fX3_run_lp a1 2000 0 (ts8 u (0 : Int32))
set_option maxHeartbeats 4000000 in
set_option maxRecDepth 100000 in
theorem kX3_run (l : Launch) (D : va_G) (k : Nat → ClassId) (q : Nat → Nat) (u : TM) (tC tL : Nat) (a1 : Int32) (hn : itTn (ts8 u (0 : Int32))) (o : Int32 × (TM)) (ho : fX3_run u a1 = o) : Met l yX3_run wsX3_run { frames := 6, cells := 0, slots := 0, locals := 143 } (wr_P D vwCl (tyL k) (wT k q u) (fun U => NL U ∧ ST tC tL (in_W (wT k q u)) U U.heap) [.ref (q 0), .int a1]) (wr_Q D vwCl (some (.int o.1)) (wT k q u) (wT k q o.2)) 0 0 (in_W (wT k q u)) := by
  refine Met.ofW (cc := cX3_run) (maxL := 4) (ret := (some .int)) (by decide) rfl ?_
  intro p e s m args below meth c s₁ B hml hv0
  obtain ⟨rfl, hP, hK, hX, hD0⟩ := hv0
  have hx := B.exec
  have hb := B.bytes
  have hr := B.returns
  have hts := atoms_spec (ws := wsX3_run) B.pre
  have hown : s.vm.findClass RX3 = some m.cls := findClass_of_methodNamed B.named
  have hlocks := B.notSynchronized
  have hD : va_D (in_W (wT k q u)) (wT k q u) := wD_self hD0
  have hS : va_S (in_W (wT k q u)) s.heap s.heap [] := va_S.rf
  have hT := hX.2
  have hl := lv_entry ([.ref (q 0), .int a1]) (n := 4) (Nat.le_of_ble_eq_true rfl)
  rw [lg_entry_eq]
  generalize (lg_sl ([.ref (q 0), .int a1]) ++ List.replicate (4 - (lg_sl ([.ref (q 0), .int a1])).length) Slot.unset).toArray = ls at hl ⊢
  have hl : lv_has ls 4 [(0, .ref (q 0)), (1, .int a1)] := hl
  have lp : ∀ (n i : Nat) (m9 : TM) (H : Heap) (locs : List Loc), i + n = 2000 → fX3_run_lp a1 n i m9 = fX3_run u a1 → va_P D vwCl (wT k q m9) H → va_D (in_W (wT k q u)) (wT k q m9) → va_S (in_W (wT k q u)) s.heap H locs → (itTn m9) → ∀ ls : Array Slot, lv_has ls 4 [(0, .ref (q 0)), (2, .int (if (2000 : Int32) < a1 then (2000 : Int32) else a1)), (3, .int (nI i))] → W p l e (headSpec wsX3_run { frames := 6, cells := 0, slots := 0, locals := 143 }).room s m ([.ref (q 0), .int a1] : List Value).toArray below meth c H locs 0 0 (MQ below (wr_Q D vwCl (some (.int o.1)) (wT k q u) (wT k q o.2)) ([.ref (q 0), .int a1] : List Value).toArray s 0 0 (in_W (wT k q u))) (F0 m 15 ls []) := by
    intro n
    induction n with
    | zero =>
      intro i m9  H locs hin heq hP hD hS hn ls hl
      refine lv_iload_n hx hb dX3_run_15 rfl (lv_at hl 2 rfl) ?_
      refine lv_iload_n hx hb dX3_run_16 rfl (lv_at hl 1 rfl) ?_
      refine lv_icmp_ge (tgt := 45) hx hb dX3_run_17 (by decide) (fun _ => ?_) (fun c9 => absurd (mm_t (by omega)) c9)
      refine lv_iload_n hx hb dX3_run_45 rfl (lv_at hl 2 rfl) ?_
      exact W.iret (v := (nI i)) hx hb hr (wr_end (congrArg (fun t9 : Int32 × TM => some (Value.int t9.1)) ((show fX3_run u a1 = ((nI i), m9) from heq.symm.trans (show fX3_run_lp a1 0 i m9 = ((nI i), m9) from rfl)).symm.trans ho)) (congrArg (fun t9 : Int32 × TM => wT k q t9.2) ((show fX3_run u a1 = ((nI i), m9) from heq.symm.trans (show fX3_run_lp a1 0 i m9 = ((nI i), m9) from rfl)).symm.trans ho)) hP hS) hS.2.2 dX3_run_46
    | succ n ih =>
      intro i m9  H locs hin heq hP hD hS hn ls hl
      refine lv_iload_n hx hb dX3_run_15 rfl (lv_at hl 2 rfl) ?_
      refine lv_iload_n hx hb dX3_run_16 rfl (lv_at hl 1 rfl) ?_
      refine lv_icmp_ge (tgt := 45) hx hb dX3_run_17 (by decide) (fun c_17 => ?_) (fun c_17 => ?_)
      · refine lv_iload_n hx hb dX3_run_45 rfl (lv_at hl 2 rfl) ?_
        exact W.iret (v := (nI i)) hx hb hr (wr_end (congrArg (fun t9 : Int32 × TM => some (Value.int t9.1)) ((show fX3_run u a1 = ((nI i), m9) from heq.symm.trans (show fX3_run_lp a1 (n + 1) i m9 = ((nI i), m9) from (if_pos c_17).trans rfl)).symm.trans ho)) (congrArg (fun t9 : Int32 × TM => wT k q t9.2) ((show fX3_run u a1 = ((nI i), m9) from heq.symm.trans (show fX3_run_lp a1 (n + 1) i m9 = ((nI i), m9) from (if_pos c_17).trans rfl)).symm.trans ho)) hP hS) hS.2.2 dX3_run_46
      · refine lv_aload_n hx hb dX3_run_20 rfl (lv_at hl 0 rfl) ?_
        refine va_get (D := D) (ci := 2) (v := .int m9.2.2.2.2.2.2.2.1) (C := RX3) (T := TX3) (N := 9) hx hb hts (by decide +kernel) hown hK hP 0 rfl rfl 7 (by decide) (hts (.fieldLink RX3 30 "TrapMachine" "condition" "I") (by decide +kernel)) (fun _ h9 => h9) rfl dX3_run_21 ?_
        refine lv_iconst (v := (2 : Int32)) hx hb dX3_run_24 (by decide) ?_
        refine lv_icmp_eq (tgt := 45) hx hb dX3_run_25 (by decide) (fun c_25 => ?_) (fun c_25 => ?_)
        · refine lv_iload_n hx hb dX3_run_45 rfl (lv_at hl 2 rfl) ?_
          exact W.iret (v := (nI i)) hx hb hr (wr_end (congrArg (fun t9 : Int32 × TM => some (Value.int t9.1)) ((show fX3_run u a1 = ((nI i), m9) from heq.symm.trans (show fX3_run_lp a1 (n + 1) i m9 = ((nI i), m9) from (if_neg c_17).trans ((if_pos c_25).trans rfl))).symm.trans ho)) (congrArg (fun t9 : Int32 × TM => wT k q t9.2) ((show fX3_run u a1 = ((nI i), m9) from heq.symm.trans (show fX3_run_lp a1 (n + 1) i m9 = ((nI i), m9) from (if_neg c_17).trans ((if_pos c_25).trans rfl))).symm.trans ho)) hP hS) hS.2.2 dX3_run_46
        · refine lv_aload_n hx hb dX3_run_28 rfl (lv_at hl 0 rfl) ?_
          refine va_get (D := D) (ci := 2) (v := .int m9.2.2.2.2.2.2.2.2) (C := RX3) (T := TX3) (N := 9) hx hb hts (by decide +kernel) hown hK hP 0 rfl rfl 8 (by decide) (hts (.fieldLink RX3 63 "TrapMachine" "trapped" "Z") (by decide +kernel)) (fun _ h9 => h9) rfl dX3_run_29 ?_
          refine lv_if_ne (tgt := 45) hx hb dX3_run_32 (by decide) (fun c_32 => ?_) (fun c_32 => ?_)
          · refine lv_iload_n hx hb dX3_run_45 rfl (lv_at hl 2 rfl) ?_
            exact W.iret (v := (nI i)) hx hb hr (wr_end (congrArg (fun t9 : Int32 × TM => some (Value.int t9.1)) ((show fX3_run u a1 = ((nI i), m9) from heq.symm.trans (show fX3_run_lp a1 (n + 1) i m9 = ((nI i), m9) from (if_neg c_17).trans ((if_neg c_25).trans ((if_neg c_32).trans rfl)))).symm.trans ho)) (congrArg (fun t9 : Int32 × TM => wT k q t9.2) ((show fX3_run u a1 = ((nI i), m9) from heq.symm.trans (show fX3_run_lp a1 (n + 1) i m9 = ((nI i), m9) from (if_neg c_17).trans ((if_neg c_25).trans ((if_neg c_32).trans rfl)))).symm.trans ho)) hP hS) hS.2.2 dX3_run_46
          · refine lv_aload_n hx hb dX3_run_35 rfl (lv_at hl 0 rfl) ?_
            obtain ⟨o1, h_o1⟩ : ∃ o9, (fX3_step m9) = o9 := ⟨_, rfl⟩
            refine wr_call (r := none) (ws' := wT k q o1) (W.runV (C := RX3) (b := (q 0)) (As := []) (rest := []) ⟨hx, hb, hml, hown, hts⟩ (kX3_step l D k q m9 tC tL (hn 0 (fun _ h9 => absurd h9 (Nat.not_lt_zero _))) o1 h_o1) (cwV 0 hts gX3_run_X3_step rfl rfl rfl (by decide +kernel) ⟨Nat.le_of_ble_eq_true rfl, Nat.le_of_ble_eq_true rfl⟩) (wr_preV bl_NS (pr_NS (ws := wT k q u) hX.1 hX.2 hS (in_adr adrT)) hK hP hD (va_recv hK hP (ci := 2) (q0 := 0) rfl rfl)) rfl rfl hl.1 rfl (lv_room (Nat.le_of_ble_eq_true rfl)) dX3_run_36 ⟨Nat.zero_le _, Nat.zero_le _⟩) hP hD hS [0, 1, 2, 3, 4, 5, 6, 7, 8, 9, 10] [] [0, 1, 2, 3, 4, 5, 6, 7, 8, 9, 10] allT (by decide) prmT adrT (fun H locs hP hD hS => ?_)
            refine lv_iinc (v := ((nI i) + (1 : Int32))) (lv' := [(3, .int ((nI i) + (1 : Int32))), (0, .ref (q 0)), (2, .int (if (2000 : Int32) < a1 then (2000 : Int32) else a1))]) hx hb dX3_run_39 hl (k := 2) rfl rfl (by decide) rfl (fun ls hl => ?_)
            refine lv_goto (tgt := 15) hx hb dX3_run_42 (by decide) ?_
            exact ih (i + 1) o1  H locs (by omega) ((show fX3_run_lp a1 (n + 1) i m9 = fX3_run_lp a1 n (i + 1) o1 from (by subst h_o1; exact (if_neg c_17).trans ((if_neg c_25).trans ((if_pos c_32).trans rfl)))).symm.trans heq) hP hD hS (itTn_s h_o1 c_25 c_32 hn) ls (by rw [← nI_1 i]; exact lv_sub hl [1, 2, 0] rfl)
  refine lv_iload_n hx hb dX3_run_0 rfl (lv_at hl 1 rfl) ?_
  refine lv_sipush (v := (2000 : Int32)) hx hb dX3_run_1 (by decide) ?_
  refine va_mmin hx hb (hml.trans hl.1.symm) hown (hts (.methodLink RX3 57 Lib.Math.min.name) (by decide +kernel)) (hts (.static Lib.Math.min.name) (by decide +kernel)) (hts (.initialized "java/lang/Math") (by decide +kernel)) (hts (.code Lib.Math.min.name Lib.Math.min.code 2 (some .int)) (by decide +kernel)) (Nat.le_of_ble_eq_true rfl) (Nat.le_of_ble_eq_true rfl) (Nat.zero_le _) (Nat.zero_le _) dX3_run_4 ?_
  refine lv_istore_n (lv' := [(2, .int (if (2000 : Int32) < a1 then (2000 : Int32) else a1)), (0, .ref (q 0)), (1, .int a1)]) hx hb dX3_run_7 rfl hl (by decide) rfl (fun ls hl => ?_)
  refine lv_iconst (v := (0 : Int32)) hx hb dX3_run_8 (by decide) ?_
  refine lv_istore_n (lv' := [(3, .int (0 : Int32)), (2, .int (if (2000 : Int32) < a1 then (2000 : Int32) else a1)), (0, .ref (q 0)), (1, .int a1)]) hx hb dX3_run_9 rfl hl (by decide) rfl (fun ls hl => ?_)
  refine lv_aload_n hx hb dX3_run_10 rfl (lv_at hl 2 rfl) ?_
  refine lv_iconst (v := (0 : Int32)) hx hb dX3_run_11 (by decide) ?_
  refine va_put (D := D) (ci := 2) (v := .int (0 : Int32)) (ty := .boolean) (C := RX3) (T := TX3) (N := 9) hx hb hts (by decide +kernel) tyX3 tyX3_ok nmX3 hown hK hP hD hS 0 rfl rfl 8 (by decide) (hts (.fieldLink RX3 63 "TrapMachine" "trapped" "Z") (by decide +kernel)) (fun _ h9 => h9) rfl (by decide +kernel) rfl rfl (Nat.le_of_ble_eq_true rfl) dX3_run_12 (fun H locs hP hD hS => ?_)
  have hP : va_P D vwCl (wT k q (ts8 u (0 : Int32))) H := hP
  have hD : va_D (in_W (wT k q u)) (wT k q (ts8 u (0 : Int32))) := hD
  exact lp 2000 0 (ts8 u (0 : Int32)) _ _ (by omega) rfl hP hD hS hn ls (by rw [nI_0]; exact lv_sub hl [2, 1, 0] rfl)
def fX3_state (u : TM)  : Int32 :=
  u.2.2.2.2.2.2.2.1
set_option maxHeartbeats 4000000 in
set_option maxRecDepth 100000 in
theorem kX3_state (l : Launch) (D : va_G) (k : Nat → ClassId) (q : Nat → Nat) (u : TM)   : Met l yX3_state wsX3_state { frames := 0, cells := 0, slots := 0, locals := 0 } (rd_P D vwCl (tyL k) (wT k q u) (fun _ => True) [.ref (q 0)]) (QcRead (fX3_state u)) 0 0 (fun _ => False) := by
  refine Met.ofW (cc := cX3_state) (maxL := 1) (ret := (some .int)) (by decide) rfl ?_
  intro p e s m args below meth c s₁ B hml hv0
  obtain ⟨rfl, hP, hK, hX⟩ := hv0
  have hx := B.exec
  have hb := B.bytes
  have hr := B.returns
  have hts := atoms_spec (ws := wsX3_state) B.pre
  have hown : s.vm.findClass RX3 = some m.cls := findClass_of_methodNamed B.named
  have hlocks := B.notSynchronized
  have hl := lv_entry ([.ref (q 0)]) (n := 1) (Nat.le_of_ble_eq_true rfl)
  rw [lg_entry_eq]
  generalize (lg_sl ([.ref (q 0)]) ++ List.replicate (1 - (lg_sl ([.ref (q 0)])).length) Slot.unset).toArray = ls at hl ⊢
  have hl : lv_has ls 1 [(0, .ref (q 0))] := hl
  refine lv_aload_n hx hb dX3_state_0 rfl (lv_at hl 0 rfl) ?_
  refine va_get (D := D) (ci := 2) (v := .int u.2.2.2.2.2.2.2.1) (C := RX3) (T := TX3) (N := 9) hx hb hts (by decide +kernel) hown hK hP 0 rfl rfl 7 (by decide) (hts (.fieldLink RX3 30 "TrapMachine" "condition" "I") (by decide +kernel)) (fun _ h9 => h9) rfl dX3_state_1 ?_
  exact W.iret (v := u.2.2.2.2.2.2.2.1) hx hb hr (rd_end (show fX3_state u = u.2.2.2.2.2.2.2.1 from rfl)) (fun q h => by cases h) dX3_state_4
def fX3_jump (u : TM) (a1 : Int32) : TM :=
  (ts7 (ts4 u a1) (0 : Int32))
set_option maxHeartbeats 4000000 in
set_option maxRecDepth 100000 in
theorem kX3_jump (l : Launch) (D : va_G) (k : Nat → ClassId) (q : Nat → Nat) (u : TM) (a1 : Int32)  (o : TM) (ho : fX3_jump u a1 = o) : Met l yX3_jump wsX3_jump { frames := 0, cells := 0, slots := 0, locals := 0 } (wr_P D vwCl (tyL k) (wT k q u) (fun _ => True) [.ref (q 0), .int a1]) (wr_Q D vwCl none (wT k q u) (wT k q o)) 0 0 (in_W (wT k q u)) := by
  refine Met.ofW (cc := cX3_jump) (maxL := 2) (ret := none) (by decide) rfl ?_
  intro p e s m args below meth c s₁ B hml hv0
  obtain ⟨rfl, hP, hK, hX, hD0⟩ := hv0
  have hx := B.exec
  have hb := B.bytes
  have hr := B.returns
  have hts := atoms_spec (ws := wsX3_jump) B.pre
  have hown : s.vm.findClass RX3 = some m.cls := findClass_of_methodNamed B.named
  have hlocks := B.notSynchronized
  have hD : va_D (in_W (wT k q u)) (wT k q u) := wD_self hD0
  have hS : va_S (in_W (wT k q u)) s.heap s.heap [] := va_S.rf
  have hl := lv_entry ([.ref (q 0), .int a1]) (n := 2) (Nat.le_of_ble_eq_true rfl)
  rw [lg_entry_eq]
  generalize (lg_sl ([.ref (q 0), .int a1]) ++ List.replicate (2 - (lg_sl ([.ref (q 0), .int a1])).length) Slot.unset).toArray = ls at hl ⊢
  have hl : lv_has ls 2 [(0, .ref (q 0)), (1, .int a1)] := hl
  refine lv_aload_n hx hb dX3_jump_0 rfl (lv_at hl 0 rfl) ?_
  refine lv_iload_n hx hb dX3_jump_1 rfl (lv_at hl 1 rfl) ?_
  refine va_put (D := D) (ci := 2) (v := .int a1) (ty := .int) (C := RX3) (T := TX3) (N := 9) hx hb hts (by decide +kernel) tyX3 tyX3_ok nmX3 hown hK hP hD hS 0 rfl rfl 4 (by decide) (hts (.fieldLink RX3 54 "TrapMachine" "place" "I") (by decide +kernel)) (fun _ h9 => h9) rfl (by decide +kernel) rfl rfl (Nat.le_of_ble_eq_true rfl) dX3_jump_2 (fun H locs hP hD hS => ?_)
  have hP : va_P D vwCl (wT k q (ts4 u a1)) H := hP
  have hD : va_D (in_W (wT k q u)) (wT k q (ts4 u a1)) := hD
  refine lv_aload_n hx hb dX3_jump_5 rfl (lv_at hl 0 rfl) ?_
  refine lv_iconst (v := (0 : Int32)) hx hb dX3_jump_6 (by decide) ?_
  refine va_put (D := D) (ci := 2) (v := .int (0 : Int32)) (ty := .int) (C := RX3) (T := TX3) (N := 9) hx hb hts (by decide +kernel) tyX3 tyX3_ok nmX3 hown hK hP hD hS 0 rfl rfl 7 (by decide) (hts (.fieldLink RX3 30 "TrapMachine" "condition" "I") (by decide +kernel)) (fun _ h9 => h9) rfl (by decide +kernel) rfl rfl (Nat.le_of_ble_eq_true rfl) dX3_jump_7 (fun H locs hP hD hS => ?_)
  have hP : va_P D vwCl (wT k q (ts7 (ts4 u a1) (0 : Int32))) H := hP
  have hD : va_D (in_W (wT k q u)) (wT k q (ts7 (ts4 u a1) (0 : Int32))) := hD
  exact W.vret hx hb hr (wr_end rfl (congrArg (wT k q) ((show fX3_jump u a1 = (ts7 (ts4 u a1) (0 : Int32)) from rfl).symm.trans ho)) hP hS) hS.2.2 dX3_jump_10
def fX3_filled (u : TM) (a1 : Int32) : TM :=
  (ts6 u (a1 &&& (3 : Int32)))
set_option maxHeartbeats 4000000 in
set_option maxRecDepth 100000 in
theorem kX3_filled (l : Launch) (D : va_G) (k : Nat → ClassId) (q : Nat → Nat) (u : TM) (a1 : Int32)  (o : TM) (ho : fX3_filled u a1 = o) : Met l yX3_filled wsX3_filled { frames := 0, cells := 0, slots := 0, locals := 0 } (wr_P D vwCl (tyL k) (wT k q u) (fun _ => True) [.ref (q 0), .int a1]) (wr_Q D vwCl none (wT k q u) (wT k q o)) 0 0 (in_W (wT k q u)) := by
  refine Met.ofW (cc := cX3_filled) (maxL := 2) (ret := none) (by decide) rfl ?_
  intro p e s m args below meth c s₁ B hml hv0
  obtain ⟨rfl, hP, hK, hX, hD0⟩ := hv0
  have hx := B.exec
  have hb := B.bytes
  have hr := B.returns
  have hts := atoms_spec (ws := wsX3_filled) B.pre
  have hown : s.vm.findClass RX3 = some m.cls := findClass_of_methodNamed B.named
  have hlocks := B.notSynchronized
  have hD : va_D (in_W (wT k q u)) (wT k q u) := wD_self hD0
  have hS : va_S (in_W (wT k q u)) s.heap s.heap [] := va_S.rf
  have hl := lv_entry ([.ref (q 0), .int a1]) (n := 2) (Nat.le_of_ble_eq_true rfl)
  rw [lg_entry_eq]
  generalize (lg_sl ([.ref (q 0), .int a1]) ++ List.replicate (2 - (lg_sl ([.ref (q 0), .int a1])).length) Slot.unset).toArray = ls at hl ⊢
  have hl : lv_has ls 2 [(0, .ref (q 0)), (1, .int a1)] := hl
  refine lv_aload_n hx hb dX3_filled_0 rfl (lv_at hl 0 rfl) ?_
  refine lv_iload_n hx hb dX3_filled_1 rfl (lv_at hl 1 rfl) ?_
  refine lv_iconst (v := (3 : Int32)) hx hb dX3_filled_2 (by decide) ?_
  refine lv_iand hx hb dX3_filled_3 ?_
  refine va_put (D := D) (ci := 2) (v := .int (a1 &&& (3 : Int32))) (ty := .int) (C := RX3) (T := TX3) (N := 9) hx hb hts (by decide +kernel) tyX3 tyX3_ok nmX3 hown hK hP hD hS 0 rfl rfl 6 (by decide) (hts (.fieldLink RX3 51 "TrapMachine" "nextFilled" "I") (by decide +kernel)) (fun _ h9 => h9) rfl (by decide +kernel) rfl rfl (Nat.le_of_ble_eq_true rfl) dX3_filled_4 (fun H locs hP hD hS => ?_)
  have hP : va_P D vwCl (wT k q (ts6 u (a1 &&& (3 : Int32)))) H := hP
  have hD : va_D (in_W (wT k q u)) (wT k q (ts6 u (a1 &&& (3 : Int32)))) := hD
  exact W.vret hx hb hr (wr_end rfl (congrArg (wT k q) ((show fX3_filled u a1 = (ts6 u (a1 &&& (3 : Int32))) from rfl).symm.trans ho)) hP hS) hS.2.2 dX3_filled_7
def fX3_load (u : TM) (a1 : Int32) (a2 : Int32) : TM :=
  (ts0 u (upd u.1 (ix (iu a1 (2 : Int32))) a2))
set_option maxHeartbeats 4000000 in
set_option maxRecDepth 100000 in
theorem kX3_load (l : Launch) (D : va_G) (k : Nat → ClassId) (q : Nat → Nat) (u : TM) (a1 : Int32) (a2 : Int32) (h9 : ¬ fX3_isInMemory a1 = (0 : Int32)) (o : TM) (ho : fX3_load u a1 a2 = o) : Met l yX3_load wsX3_load { frames := 1, cells := 0, slots := 0, locals := 20 } (wr_P D vwCl (tyL k) (wT k q u) (fun _ => True) [.ref (q 0), .int a1, .int a2]) (wr_Q D vwCl none (wT k q u) (wT k q o)) 0 0 (in_W (wT k q u)) := by
  refine Met.ofW (cc := cX3_load) (maxL := 3) (ret := none) (by decide) rfl ?_
  intro p e s m args below meth c s₁ B hml hv0
  obtain ⟨rfl, hP, hK, hX, hD0⟩ := hv0
  have hx := B.exec
  have hb := B.bytes
  have hr := B.returns
  have hts := atoms_spec (ws := wsX3_load) B.pre
  have hown : s.vm.findClass RX3 = some m.cls := findClass_of_methodNamed B.named
  have hlocks := B.notSynchronized
  have hD : va_D (in_W (wT k q u)) (wT k q u) := wD_self hD0
  have hS : va_S (in_W (wT k q u)) s.heap s.heap [] := va_S.rf
  have hl := lv_entry ([.ref (q 0), .int a1, .int a2]) (n := 3) (Nat.le_of_ble_eq_true rfl)
  rw [lg_entry_eq]
  generalize (lg_sl ([.ref (q 0), .int a1, .int a2]) ++ List.replicate (3 - (lg_sl ([.ref (q 0), .int a1, .int a2])).length) Slot.unset).toArray = ls at hl ⊢
  have hl : lv_has ls 3 [(0, .ref (q 0)), (1, .int a1), (2, .int a2)] := hl
  refine lv_iload_n hx hb dX3_load_0 rfl (lv_at hl 1 rfl) ?_
  refine rd_call (r := (fX3_isInMemory a1)) (W.runS (As := [.int a1]) (rest := []) ⟨hx, hb, hml, hown, hts⟩ (kX3_isInMemory l a1) (va_cwS 1 hts gX3_load_X3_isInMemory rfl rfl rfl (by decide +kernel) ⟨Nat.le_of_ble_eq_true rfl, Nat.le_of_ble_eq_true rfl⟩) preEq rfl rfl hl.1 rfl (lv_room (Nat.le_of_ble_eq_true rfl)) dX3_load_1 ⟨Nat.zero_le _, Nat.zero_le _⟩) ?_
  refine lv_if_ne (tgt := 17) hx hb dX3_load_4 (by decide) (fun _ => ?_) (fun c9 => absurd c9 h9)
  refine lv_aload_n hx hb dX3_load_17 rfl (lv_at hl 0 rfl) ?_
  refine va_get (D := D) (ci := 2) (v := .ref (q 1)) (C := RX3) (T := TX3) (N := 9) hx hb hts (by decide +kernel) hown hK hP 0 rfl rfl 0 (by decide) (hts (.fieldLink RX3 9 "TrapMachine" "memory" "[I") (by decide +kernel)) (fun _ h9 => h9) rfl dX3_load_18 ?_
  refine lv_iload_n hx hb dX3_load_21 rfl (lv_at hl 1 rfl) ?_
  refine lv_iconst (v := (2 : Int32)) hx hb dX3_load_22 (by decide) ?_
  refine lv_iushr (v := (iu a1 (2 : Int32))) hx hb dX3_load_23 rfl ?_
  refine lv_iload_n hx hb dX3_load_24 rfl (lv_at hl 2 rfl) ?_
  refine q_iast (j := (ix (iu a1 (2 : Int32)))) (ws' := wT k q (ts0 u (upd u.1 (ix (iu a1 (2 : Int32))) a2))) hx hb hK hP hD hS 1 0 rfl rfl (mem_in h9) rfl rfl dX3_load_25 (fun H locs hP hD hS => ?_)
  exact W.vret hx hb hr (wr_end rfl (congrArg (wT k q) ((show fX3_load u a1 a2 = (ts0 u (upd u.1 (ix (iu a1 (2 : Int32))) a2)) from rfl).symm.trans ho)) hP hS) hS.2.2 dX3_load_26
def fX3_word (u : TM) (a1 : Int32) : Int32 :=
  (u.1 (ix (iu a1 (2 : Int32))))
set_option maxHeartbeats 4000000 in
set_option maxRecDepth 100000 in
theorem kX3_word (l : Launch) (D : va_G) (k : Nat → ClassId) (q : Nat → Nat) (u : TM) (a1 : Int32) (h9 : ¬ fX3_isInMemory a1 = (0 : Int32)) : Met l yX3_word wsX3_word { frames := 1, cells := 0, slots := 0, locals := 20 } (rd_P D vwCl (tyL k) (wT k q u) (fun _ => True) [.ref (q 0), .int a1]) (QcRead (fX3_word u a1)) 0 0 (fun _ => False) := by
  refine Met.ofW (cc := cX3_word) (maxL := 2) (ret := (some .int)) (by decide) rfl ?_
  intro p e s m args below meth c s₁ B hml hv0
  obtain ⟨rfl, hP, hK, hX⟩ := hv0
  have hx := B.exec
  have hb := B.bytes
  have hr := B.returns
  have hts := atoms_spec (ws := wsX3_word) B.pre
  have hown : s.vm.findClass RX3 = some m.cls := findClass_of_methodNamed B.named
  have hlocks := B.notSynchronized
  have hl := lv_entry ([.ref (q 0), .int a1]) (n := 2) (Nat.le_of_ble_eq_true rfl)
  rw [lg_entry_eq]
  generalize (lg_sl ([.ref (q 0), .int a1]) ++ List.replicate (2 - (lg_sl ([.ref (q 0), .int a1])).length) Slot.unset).toArray = ls at hl ⊢
  have hl : lv_has ls 2 [(0, .ref (q 0)), (1, .int a1)] := hl
  refine lv_iload_n hx hb dX3_word_0 rfl (lv_at hl 1 rfl) ?_
  refine rd_call (r := (fX3_isInMemory a1)) (W.runS (As := [.int a1]) (rest := []) ⟨hx, hb, hml, hown, hts⟩ (kX3_isInMemory l a1) (va_cwS 1 hts gX3_word_X3_isInMemory rfl rfl rfl (by decide +kernel) ⟨Nat.le_of_ble_eq_true rfl, Nat.le_of_ble_eq_true rfl⟩) preEq rfl rfl hl.1 rfl (lv_room (Nat.le_of_ble_eq_true rfl)) dX3_word_1 ⟨Nat.zero_le _, Nat.zero_le _⟩) ?_
  refine lv_if_ne (tgt := 17) hx hb dX3_word_4 (by decide) (fun _ => ?_) (fun c9 => absurd c9 h9)
  refine lv_aload_n hx hb dX3_word_17 rfl (lv_at hl 0 rfl) ?_
  refine va_get (D := D) (ci := 2) (v := .ref (q 1)) (C := RX3) (T := TX3) (N := 9) hx hb hts (by decide +kernel) hown hK hP 0 rfl rfl 0 (by decide) (hts (.fieldLink RX3 9 "TrapMachine" "memory" "[I") (by decide +kernel)) (fun _ h9 => h9) rfl dX3_word_18 ?_
  refine lv_iload_n hx hb dX3_word_21 rfl (lv_at hl 1 rfl) ?_
  refine lv_iconst (v := (2 : Int32)) hx hb dX3_word_22 (by decide) ?_
  refine lv_iushr (v := (iu a1 (2 : Int32))) hx hb dX3_word_23 rfl ?_
  refine q_iald (j := (ix (iu a1 (2 : Int32)))) (x9 := (u.1 (ix (iu a1 (2 : Int32))))) hx hb hK hP 1 0 rfl rfl (mem_in h9) rfl rfl dX3_word_24 ?_
  exact W.iret (v := (u.1 (ix (iu a1 (2 : Int32))))) hx hb hr (rd_end (show fX3_word u a1 = (u.1 (ix (iu a1 (2 : Int32)))) from rfl)) (fun q h => by cases h) dX3_word_25
def fX3_line (u : TM) (a1 : Int32) (a2 : Int32) : TM :=
  (ts2 u (fX2_setLine u.2.2.1 a1 a2))
set_option maxHeartbeats 4000000 in
set_option maxRecDepth 100000 in
theorem kX3_line (l : Launch) (D : va_G) (k : Nat → ClassId) (q : Nat → Nat) (u : TM) (a1 : Int32) (a2 : Int32) (h8 : ¬ a1 < (0 : Int32)) (h9 : a1 ≤ (3 : Int32)) (o : TM) (ho : fX3_line u a1 a2 = o) : Met l yX3_line wsX3_line { frames := 1, cells := 0, slots := 0, locals := 23 } (wr_P D vwCl (tyL k) (wT k q u) NL [.ref (q 0), .int a1, .int a2]) (wr_Q D vwCl none (wT k q u) (wT k q o)) 0 0 (in_W (wT k q u)) := by
  refine Met.ofW (cc := cX3_line) (maxL := 3) (ret := none) (by decide) rfl ?_
  intro p e s m args below meth c s₁ B hml hv0
  obtain ⟨rfl, hP, hK, hX, hD0⟩ := hv0
  have hx := B.exec
  have hb := B.bytes
  have hr := B.returns
  have hts := atoms_spec (ws := wsX3_line) B.pre
  have hown : s.vm.findClass RX3 = some m.cls := findClass_of_methodNamed B.named
  have hlocks := B.notSynchronized
  have hD : va_D (in_W (wT k q u)) (wT k q u) := wD_self hD0
  have hS : va_S (in_W (wT k q u)) s.heap s.heap [] := va_S.rf
  have hl := lv_entry ([.ref (q 0), .int a1, .int a2]) (n := 3) (Nat.le_of_ble_eq_true rfl)
  rw [lg_entry_eq]
  generalize (lg_sl ([.ref (q 0), .int a1, .int a2]) ++ List.replicate (3 - (lg_sl ([.ref (q 0), .int a1, .int a2])).length) Slot.unset).toArray = ls at hl ⊢
  have hl : lv_has ls 3 [(0, .ref (q 0)), (1, .int a1), (2, .int a2)] := hl
  refine lv_iload_n hx hb dX3_line_0 rfl (lv_at hl 1 rfl) ?_
  refine lv_if_lt (tgt := 9) hx hb dX3_line_1 (by decide) (fun c9 => absurd c9 h8) (fun _ => ?_)
  refine lv_iload_n hx hb dX3_line_4 rfl (lv_at hl 1 rfl) ?_
  refine lv_iconst (v := (3 : Int32)) hx hb dX3_line_5 (by decide) ?_
  refine lv_icmp_le (tgt := 19) hx hb dX3_line_6 (by decide) (fun _ => ?_) (fun c9 => absurd h9 c9)
  refine lv_aload_n hx hb dX3_line_19 rfl (lv_at hl 0 rfl) ?_
  refine va_get (D := D) (ci := 2) (v := .ref (q 3)) (C := RX3) (T := TX3) (N := 9) hx hb hts (by decide +kernel) hown hK hP 0 rfl rfl 2 (by decide) (hts (.fieldLink RX3 19 "TrapMachine" "controls" "LTrapMachine$Controls;") (by decide +kernel)) (fun _ h9 => h9) rfl dX3_line_20 ?_
  refine lv_iload_n hx hb dX3_line_23 rfl (lv_at hl 1 rfl) ?_
  refine lv_iload_n hx hb dX3_line_24 rfl (lv_at hl 2 rfl) ?_
  obtain ⟨o1, h_o1⟩ : ∃ o9, (fX2_setLine u.2.2.1 a1 a2) = o9 := ⟨_, rfl⟩
  refine wr_call (r := none) (ws' := wT k q (ts2 u o1)) (va_runVN (C := RX2) (b := (q 3)) (As := [.int a1, .int a2]) (rest := []) ⟨hx, hb, hml, hown, hts⟩ (kX2_setLine l D k (q 3) (q 4) u.2.2.1 a1 a2 o1 h_o1) ⟨va_cnB 2 hts gX3_line_X2_setLine_n47 rfl rfl rfl (hX.at 2 (q := (47, yX2_setLine)) rfl) (hts (.initialized RX2) (by decide +kernel)) (by decide +kernel) ⟨Nat.le_of_ble_eq_true rfl, Nat.le_of_ble_eq_true rfl⟩, (hts (.instanceMethod yX2_setLine) (by decide +kernel)), (hts (.selects RX2 yX2_setLine yX2_setLine) (by decide +kernel))⟩ (wr_preV bl_T pr_T hK (show va_P D vwCl (wC k (q 3) (q 4) u.2.2.1) _ from hP.sub [3, 4] fmTC) (show va_D (in_W (wT k q u)) (wC k (q 3) (q 4) u.2.2.1) from hD.sub [3, 4] (by decide) subTC) (va_recv hK (show va_P D vwCl (wC k (q 3) (q 4) u.2.2.1) _ from hP.sub [3, 4] fmTC) (ci := 1) (q0 := 0) rfl rfl)) rfl rfl hl.1 rfl (lv_room (Nat.le_of_ble_eq_true rfl)) dX3_line_25 ⟨Nat.zero_le _, Nat.zero_le _⟩).run hP hD hS [3, 4] [0, 1, 2, 5, 6, 7, 8, 9, 10] [0, 1, 2, 9, 10, 3, 4, 5, 6, 7, 8] subTC (by decide) putTC adrT (fun H locs hP hD hS => ?_)
  exact W.vret hx hb hr (wr_end rfl (congrArg (wT k q) ((show fX3_line u a1 a2 = (ts2 u o1) from (by subst h_o1; exact rfl)).symm.trans ho)) hP hS) hS.2.2 dX3_line_28
def fX3_register (u : TM) (a1 : Int32) : Int32 :=
  if a1 = (8 : Int32) then
    u.2.2.2.2.1
  else
    if a1 = (9 : Int32) then
      if u.2.2.2.2.2.1 = (0 : Int32) then
        (0 : Int32)
      else
        (1 : Int32)
    else
      (u.2.1 (ix a1))
set_option maxHeartbeats 4000000 in
set_option maxRecDepth 100000 in
theorem kX3_register (l : Launch) (D : va_G) (k : Nat → ClassId) (q : Nat → Nat) (u : TM) (a1 : Int32) (h8 : ¬ a1 < (0 : Int32)) (h9 : a1 ≤ (9 : Int32)) : Met l yX3_register wsX3_register { frames := 0, cells := 0, slots := 0, locals := 0 } (rd_P D vwCl (tyL k) (wT k q u) (fun _ => True) [.ref (q 0), .int a1]) (QcRead (fX3_register u a1)) 0 0 (fun _ => False) := by
  refine Met.ofW (cc := cX3_register) (maxL := 2) (ret := (some .int)) (by decide) rfl ?_
  intro p e s m args below meth c s₁ B hml hv0
  obtain ⟨rfl, hP, hK, hX⟩ := hv0
  have hx := B.exec
  have hb := B.bytes
  have hr := B.returns
  have hts := atoms_spec (ws := wsX3_register) B.pre
  have hown : s.vm.findClass RX3 = some m.cls := findClass_of_methodNamed B.named
  have hlocks := B.notSynchronized
  have hl := lv_entry ([.ref (q 0), .int a1]) (n := 2) (Nat.le_of_ble_eq_true rfl)
  rw [lg_entry_eq]
  generalize (lg_sl ([.ref (q 0), .int a1]) ++ List.replicate (2 - (lg_sl ([.ref (q 0), .int a1])).length) Slot.unset).toArray = ls at hl ⊢
  have hl : lv_has ls 2 [(0, .ref (q 0)), (1, .int a1)] := hl
  refine lv_iload_n hx hb dX3_register_0 rfl (lv_at hl 1 rfl) ?_
  refine lv_if_lt (tgt := 10) hx hb dX3_register_1 (by decide) (fun c9 => absurd c9 h8) (fun _ => ?_)
  refine lv_iload_n hx hb dX3_register_4 rfl (lv_at hl 1 rfl) ?_
  refine lv_bipush (v := (9 : Int32)) hx hb dX3_register_5 (by decide) ?_
  refine lv_icmp_le (tgt := 20) hx hb dX3_register_7 (by decide) (fun _ => ?_) (fun c9 => absurd h9 c9)
  refine lv_iload_n hx hb dX3_register_20 rfl (lv_at hl 1 rfl) ?_
  refine lv_bipush (v := (8 : Int32)) hx hb dX3_register_21 (by decide) ?_
  refine lv_icmp_ne (tgt := 31) hx hb dX3_register_23 (by decide) (fun c_23 => ?_) (fun c_23 => ?_)
  · refine lv_iload_n hx hb dX3_register_31 rfl (lv_at hl 1 rfl) ?_
    refine lv_bipush (v := (9 : Int32)) hx hb dX3_register_32 (by decide) ?_
    refine lv_icmp_ne (tgt := 50) hx hb dX3_register_34 (by decide) (fun c_34 => ?_) (fun c_34 => ?_)
    · refine lv_aload_n hx hb dX3_register_50 rfl (lv_at hl 0 rfl) ?_
      refine va_get (D := D) (ci := 2) (v := .ref (q 2)) (C := RX3) (T := TX3) (N := 9) hx hb hts (by decide +kernel) hown hK hP 0 rfl rfl 1 (by decide) (hts (.fieldLink RX3 13 "TrapMachine" "registers" "[I") (by decide +kernel)) (fun _ h9 => h9) rfl dX3_register_51 ?_
      refine lv_iload_n hx hb dX3_register_54 rfl (lv_at hl 1 rfl) ?_
      refine q_iald (j := (ix a1)) (x9 := (u.2.1 (ix a1))) hx hb hK hP 2 0 rfl rfl (reg_in h8 h9 c_23 c_34) rfl rfl dX3_register_55 ?_
      exact W.iret (v := (u.2.1 (ix a1))) hx hb hr (rd_end (show fX3_register u a1 = (u.2.1 (ix a1)) from (if_neg c_23).trans ((if_neg c_34).trans rfl))) (fun q h => by cases h) dX3_register_56
    · refine lv_aload_n hx hb dX3_register_37 rfl (lv_at hl 0 rfl) ?_
      refine va_get (D := D) (ci := 2) (v := .int u.2.2.2.2.2.1) (C := RX3) (T := TX3) (N := 9) hx hb hts (by decide +kernel) hown hK hP 0 rfl rfl 5 (by decide) (hts (.fieldLink RX3 72 "TrapMachine" "linked" "Z") (by decide +kernel)) (fun _ h9 => h9) rfl dX3_register_38 ?_
      refine lv_if_eq (tgt := 48) hx hb dX3_register_41 (by decide) (fun c_41 => ?_) (fun c_41 => ?_)
      · refine lv_iconst (v := (0 : Int32)) hx hb dX3_register_48 (by decide) ?_
        exact W.iret (v := (0 : Int32)) hx hb hr (rd_end (show fX3_register u a1 = (0 : Int32) from (if_neg c_23).trans ((if_pos c_34).trans ((if_pos c_41).trans rfl)))) (fun q h => by cases h) dX3_register_49
      · refine lv_iconst (v := (1 : Int32)) hx hb dX3_register_44 (by decide) ?_
        refine lv_goto (tgt := 49) hx hb dX3_register_45 (by decide) ?_
        exact W.iret (v := (1 : Int32)) hx hb hr (rd_end (show fX3_register u a1 = (1 : Int32) from (if_neg c_23).trans ((if_pos c_34).trans ((if_neg c_41).trans rfl)))) (fun q h => by cases h) dX3_register_49
  · refine lv_aload_n hx hb dX3_register_26 rfl (lv_at hl 0 rfl) ?_
    refine va_get (D := D) (ci := 2) (v := .int u.2.2.2.2.1) (C := RX3) (T := TX3) (N := 9) hx hb hts (by decide +kernel) hown hK hP 0 rfl rfl 4 (by decide) (hts (.fieldLink RX3 54 "TrapMachine" "place" "I") (by decide +kernel)) (fun _ h9 => h9) rfl dX3_register_27 ?_
    exact W.iret (v := u.2.2.2.2.1) hx hb hr (rd_end (show fX3_register u a1 = u.2.2.2.2.1 from (if_pos c_23).trans rfl)) (fun q h => by cases h) dX3_register_30
def fX3_control (u : TM) (a1 : Int32) : Int32 :=
  (fX2_get u.2.2.1 a1)
set_option maxHeartbeats 4000000 in
set_option maxRecDepth 100000 in
theorem kX3_control (l : Launch) (D : va_G) (k : Nat → ClassId) (q : Nat → Nat) (u : TM) (a1 : Int32) (h8 : ¬ a1 < (0 : Int32)) (h9 : a1 ≤ (17 : Int32)) : Met l yX3_control wsX3_control { frames := 1, cells := 0, slots := 0, locals := 21 } (rd_P D vwCl (tyL k) (wT k q u) NL [.ref (q 0), .int a1]) (QcRead (fX3_control u a1)) 0 0 (fun _ => False) := by
  refine Met.ofW (cc := cX3_control) (maxL := 2) (ret := (some .int)) (by decide) rfl ?_
  intro p e s m args below meth c s₁ B hml hv0
  obtain ⟨rfl, hP, hK, hX⟩ := hv0
  have hx := B.exec
  have hb := B.bytes
  have hr := B.returns
  have hts := atoms_spec (ws := wsX3_control) B.pre
  have hown : s.vm.findClass RX3 = some m.cls := findClass_of_methodNamed B.named
  have hlocks := B.notSynchronized
  have hl := lv_entry ([.ref (q 0), .int a1]) (n := 2) (Nat.le_of_ble_eq_true rfl)
  rw [lg_entry_eq]
  generalize (lg_sl ([.ref (q 0), .int a1]) ++ List.replicate (2 - (lg_sl ([.ref (q 0), .int a1])).length) Slot.unset).toArray = ls at hl ⊢
  have hl : lv_has ls 2 [(0, .ref (q 0)), (1, .int a1)] := hl
  refine lv_iload_n hx hb dX3_control_0 rfl (lv_at hl 1 rfl) ?_
  refine lv_if_lt (tgt := 10) hx hb dX3_control_1 (by decide) (fun c9 => absurd c9 h8) (fun _ => ?_)
  refine lv_iload_n hx hb dX3_control_4 rfl (lv_at hl 1 rfl) ?_
  refine lv_bipush (v := (17 : Int32)) hx hb dX3_control_5 (by decide) ?_
  refine lv_icmp_le (tgt := 20) hx hb dX3_control_7 (by decide) (fun _ => ?_) (fun c9 => absurd h9 c9)
  refine lv_aload_n hx hb dX3_control_20 rfl (lv_at hl 0 rfl) ?_
  refine va_get (D := D) (ci := 2) (v := .ref (q 3)) (C := RX3) (T := TX3) (N := 9) hx hb hts (by decide +kernel) hown hK hP 0 rfl rfl 2 (by decide) (hts (.fieldLink RX3 19 "TrapMachine" "controls" "LTrapMachine$Controls;") (by decide +kernel)) (fun _ h9 => h9) rfl dX3_control_21 ?_
  refine lv_iload_n hx hb dX3_control_24 rfl (lv_at hl 1 rfl) ?_
  refine rd_call (r := (fX2_get u.2.2.1 a1)) (va_runVN (C := RX2) (b := (q 3)) (As := [.int a1]) (rest := []) ⟨hx, hb, hml, hown, hts⟩ (kX2_get l D k (q 3) (q 4) u.2.2.1 a1 (vi_le (by decide) h8 h9)) ⟨va_cnB 1 hts gX3_control_X2_get_n77 rfl rfl rfl (hX.at 3 (q := (77, yX2_get)) rfl) (hts (.initialized RX2) (by decide +kernel)) (by decide +kernel) ⟨Nat.le_of_ble_eq_true rfl, Nat.le_of_ble_eq_true rfl⟩, (hts (.instanceMethod yX2_get) (by decide +kernel)), (hts (.selects RX2 yX2_get yX2_get) (by decide +kernel))⟩ (rd_preV bl_T pr_T hK (show va_P D vwCl (wC k (q 3) (q 4) u.2.2.1) _ from hP.sub [3, 4] fmTC) (va_recv hK (show va_P D vwCl (wC k (q 3) (q 4) u.2.2.1) _ from hP.sub [3, 4] fmTC) (ci := 1) (q0 := 0) rfl rfl)) rfl rfl hl.1 rfl (lv_room (Nat.le_of_ble_eq_true rfl)) dX3_control_25 ⟨Nat.zero_le _, Nat.zero_le _⟩).run ?_
  exact W.iret (v := (fX2_get u.2.2.1 a1)) hx hb hr (rd_end (show fX3_control u a1 = (fX2_get u.2.2.1 a1) from rfl)) (fun q h => by cases h) dX3_control_28
def fX3_entry (u : TM) (a1 : Int32) (a2 : Int32) : Int32 :=
  (fX0_get u.2.2.2.1 a1 a2)
set_option maxHeartbeats 4000000 in
set_option maxRecDepth 100000 in
theorem kX3_entry (l : Launch) (D : va_G) (k : Nat → ClassId) (q : Nat → Nat) (u : TM) (a1 : Int32) (a2 : Int32) (h6 : ¬ a1 < (0 : Int32)) (h7 : ¬ (3 : Int32) < a1) (h8 : ¬ a2 < (0 : Int32)) (h9 : a2 ≤ (5 : Int32)) : Met l yX3_entry wsX3_entry { frames := 1, cells := 0, slots := 0, locals := 22 } (rd_P D vwCl (tyL k) (wT k q u) NL [.ref (q 0), .int a1, .int a2]) (QcRead (fX3_entry u a1 a2)) 0 0 (fun _ => False) := by
  refine Met.ofW (cc := cX3_entry) (maxL := 3) (ret := (some .int)) (by decide) rfl ?_
  intro p e s m args below meth c s₁ B hml hv0
  obtain ⟨rfl, hP, hK, hX⟩ := hv0
  have hx := B.exec
  have hb := B.bytes
  have hr := B.returns
  have hts := atoms_spec (ws := wsX3_entry) B.pre
  have hown : s.vm.findClass RX3 = some m.cls := findClass_of_methodNamed B.named
  have hlocks := B.notSynchronized
  have hl := lv_entry ([.ref (q 0), .int a1, .int a2]) (n := 3) (Nat.le_of_ble_eq_true rfl)
  rw [lg_entry_eq]
  generalize (lg_sl ([.ref (q 0), .int a1, .int a2]) ++ List.replicate (3 - (lg_sl ([.ref (q 0), .int a1, .int a2])).length) Slot.unset).toArray = ls at hl ⊢
  have hl : lv_has ls 3 [(0, .ref (q 0)), (1, .int a1), (2, .int a2)] := hl
  refine lv_iload_n hx hb dX3_entry_0 rfl (lv_at hl 1 rfl) ?_
  refine lv_if_lt (tgt := 18) hx hb dX3_entry_1 (by decide) (fun c9 => absurd c9 h6) (fun _ => ?_)
  refine lv_iload_n hx hb dX3_entry_4 rfl (lv_at hl 1 rfl) ?_
  refine lv_iconst (v := (3 : Int32)) hx hb dX3_entry_5 (by decide) ?_
  refine lv_icmp_gt (tgt := 18) hx hb dX3_entry_6 (by decide) (fun c9 => absurd c9 h7) (fun _ => ?_)
  refine lv_iload_n hx hb dX3_entry_9 rfl (lv_at hl 2 rfl) ?_
  refine lv_if_lt (tgt := 18) hx hb dX3_entry_10 (by decide) (fun c9 => absurd c9 h8) (fun _ => ?_)
  refine lv_iload_n hx hb dX3_entry_13 rfl (lv_at hl 2 rfl) ?_
  refine lv_iconst (v := (5 : Int32)) hx hb dX3_entry_14 (by decide) ?_
  refine lv_icmp_le (tgt := 28) hx hb dX3_entry_15 (by decide) (fun _ => ?_) (fun c9 => absurd h9 c9)
  refine lv_aload_n hx hb dX3_entry_28 rfl (lv_at hl 0 rfl) ?_
  refine va_get (D := D) (ci := 2) (v := .ref (q 5)) (C := RX3) (T := TX3) (N := 9) hx hb hts (by decide +kernel) hown hK hP 0 rfl rfl 3 (by decide) (hts (.fieldLink RX3 26 "TrapMachine" "buffer" "LTrapMachine$Buffer;") (by decide +kernel)) (fun _ h9 => h9) rfl dX3_entry_29 ?_
  refine lv_iload_n hx hb dX3_entry_32 rfl (lv_at hl 1 rfl) ?_
  refine lv_iload_n hx hb dX3_entry_33 rfl (lv_at hl 2 rfl) ?_
  refine rd_call (r := (fX0_get u.2.2.2.1 a1 a2)) (va_runVN (C := RX0) (b := (q 5)) (As := [.int a1, .int a2]) (rest := []) ⟨hx, hb, hml, hown, hts⟩ (kX0_get l D k (q 5) (q 6) (fun j => q (7 + j)) u.2.2.2.1 a1 a2 (vi_rng (by decide) h6 h7) (vi_le (by decide) h8 h9)) ⟨va_cnB 2 hts gX3_entry_X0_get_n83 rfl rfl rfl (hX.at 4 (q := (83, yX0_get)) rfl) (hts (.initialized RX0) (by decide +kernel)) (by decide +kernel) ⟨Nat.le_of_ble_eq_true rfl, Nat.le_of_ble_eq_true rfl⟩, (hts (.instanceMethod yX0_get) (by decide +kernel)), (hts (.selects RX0 yX0_get yX0_get) (by decide +kernel))⟩ (rd_preV bl_T pr_T hK (show va_P D vwCl (wB k (q 5) (q 6) (fun j => q (7 + j)) u.2.2.2.1) _ from hP.sub [5, 6, 7, 8, 9, 10] fmTB) (va_recv hK (show va_P D vwCl (wB k (q 5) (q 6) (fun j => q (7 + j)) u.2.2.2.1) _ from hP.sub [5, 6, 7, 8, 9, 10] fmTB) (ci := 0) (q0 := 0) rfl rfl)) rfl rfl hl.1 rfl (lv_room (Nat.le_of_ble_eq_true rfl)) dX3_entry_34 ⟨Nat.zero_le _, Nat.zero_le _⟩).run ?_
  exact W.iret (v := (fX0_get u.2.2.2.1 a1 a2)) hx hb hr (rd_end (show fX3_entry u a1 a2 = (fX0_get u.2.2.2.1 a1 a2) from rfl)) (fun q h => by cases h) dX3_entry_37
