theorem m2_t {i : Nat} (h : i = 2000) : (2000 : Int32) ≤ nI i := by subst h; decide
theorem m2_f {i : Nat} (h : i < 2000) : ¬ (2000 : Int32) ≤ nI i := nI_ge (b := 2000) h (by omega)
def itM : Nat → MD → MD
  | 0, w => w
  | n + 1, w => itM n (fX4_step w)
def itMn (w : MD) : Prop := ∀ j : Nat, (∀ i, i < j → (itM i w).2.2.2.2.2.2.2.2.2.2.2.2.2.2.1 = (0 : Int32) ∧ (itM i w).2.2.2.2.2.2.2.2.2.2.2.2.2.2.2.2.2.2 = (0 : Int32)) → vp_in (itM j w).2.2.2.2.2.2.2.2.2.2.2.1 4
theorem itMn_s {w o : MD} (ho : fX4_step w = o) (h1 : w.2.2.2.2.2.2.2.2.2.2.2.2.2.2.1 = (0 : Int32)) (h2 : w.2.2.2.2.2.2.2.2.2.2.2.2.2.2.2.2.2.2 = (0 : Int32)) (h : itMn w) : itMn o := by
  subst ho
  intro j hj
  refine h (j + 1) (fun i hi => ?_)
  cases i with
  | zero => exact ⟨h1, h2⟩
  | succ i => exact hj i (by omega)
theorem out_in {a b : Int32} {n : Nat} (hb : b.toInt + 1 = n) (h : fX4_outside a (0 : Int32) b = (0 : Int32)) : vp_in a n := by
  unfold fX4_outside at h
  split at h
  · exact absurd h (by decide)
  · rename_i h0
    split at h
    · rename_i h1; exact vi_le hb h0 h1
    · exact absurd h (by decide)
theorem out_reg {a : Int32} (h : fX4_outside a (0 : Int32) (9 : Int32) = (0 : Int32)) (h1 : ¬ (8 : Int32) ≤ a) : vp_in a 8 := by
  have h0 := out_in (n := 10) (by decide) h
  rw [vp_in_iff] at *
  rw [Int32.le_iff_toInt_le] at h1
  have : (8 : Int32).toInt = 8 := by decide
  omega
theorem half_e {a b : Int32} (h1 : fX4_outside a (0 : Int32) (3 : Int32) = (0 : Int32)) (h2 : fX4_outside b (0 : Int32) (5 : Int32) = (0 : Int32)) (h3 : ¬ b ≤ (3 : Int32)) : vp_in ((((2 : Int32) * a) + b) - (4 : Int32)) 8 := by
  obtain ⟨i, hi, rfl⟩ := vp_in_of (out_in (n := 4) (by decide) h1) (by omega)
  obtain ⟨j, hj, rfl⟩ := vp_in_of (out_in (n := 6) (by decide) h2) (by omega)
  have h4 : 4 ≤ j := by
    rcases Nat.lt_or_ge j 4 with q | q
    · exact absurd (nI_le (a := j) (b := 3) (by omega) (by omega)) h3
    · exact q
  rw [show (2 : Int32) = nI 2 from rfl, show (4 : Int32) = nI 4 from rfl, pk_mul, nI_add, pk_sub (by omega)]
  exact vp_in_nI (by omega) (by omega)
theorem word_in {a : Int32} (h : ¬ fX4_isWord a = (0 : Int32)) : vp_in (a / (4 : Int32)) 512 := by
  unfold fX4_isWord at h
  split at h
  · rename_i q
    exact out_div q
  · exact absurd rfl h
def fX4_load (w : MD) (a1 : Int32) (a2 : Int32) : MD :=
  if (fX4_isWord a1) = (0 : Int32) then
    (ms0 w (1 : Int32))
  else
    (ms1 (ms0 w (0 : Int32)) (upd w.2.1 (ix (a1 / (4 : Int32))) a2))
set_option maxHeartbeats 4000000 in
set_option maxRecDepth 100000 in
theorem kX4_load (l : Launch) (D : va_G) (k : Nat → ClassId) (z : Nat → Nat) (w : MD) (a1 : Int32) (a2 : Int32)  (o : MD) (ho : fX4_load w a1 a2 = o) : Met l yX4_load wsX4_load { frames := 2, cells := 0, slots := 0, locals := 42 } (wr_P D vwCl (tyL k) (wM k z w) (fun _ => True) [.ref (z 0), .int a1, .int a2]) (wr_Q D vwCl none (wM k z w) (wM k z o)) 0 0 (in_W (wM k z w)) := by
  refine Met.ofW (cc := cX4_load) (maxL := 3) (ret := none) (by decide) rfl ?_
  intro p e s m args below meth c s₁ B hml hv0
  obtain ⟨rfl, hP, hK, hX, hD0⟩ := hv0
  have hx := B.exec
  have hb := B.bytes
  have hr := B.returns
  have hts := atoms_spec (ws := wsX4_load) B.pre
  have hown : s.vm.findClass RX4 = some m.cls := findClass_of_methodNamed B.named
  have hlocks := B.notSynchronized
  have hD : va_D (in_W (wM k z w)) (wM k z w) := wD_self hD0
  have hS : va_S (in_W (wM k z w)) s.heap s.heap [] := va_S.rf
  have hl := lv_entry ([.ref (z 0), .int a1, .int a2]) (n := 3) (Nat.le_of_ble_eq_true rfl)
  rw [lg_entry_eq]
  generalize (lg_sl ([.ref (z 0), .int a1, .int a2]) ++ List.replicate (3 - (lg_sl ([.ref (z 0), .int a1, .int a2])).length) Slot.unset).toArray = ls at hl ⊢
  have hl : lv_has ls 3 [(0, .ref (z 0)), (1, .int a1), (2, .int a2)] := hl
  refine lv_aload_n hx hb dX4_load_0 rfl (lv_at hl 0 rfl) ?_
  refine lv_iload_n hx hb dX4_load_1 rfl (lv_at hl 1 rfl) ?_
  refine rd_call (r := (fX4_isWord a1)) (W.runS (As := [.int a1]) (rest := [.ref (z 0)]) ⟨hx, hb, hml, hown, hts⟩ (kX4_isWord l a1) (va_cwS 1 hts gX4_load_X4_isWord rfl rfl rfl (by decide +kernel) ⟨Nat.le_of_ble_eq_true rfl, Nat.le_of_ble_eq_true rfl⟩) preEq rfl rfl hl.1 rfl (lv_room (Nat.le_of_ble_eq_true rfl)) dX4_load_2 ⟨Nat.zero_le _, Nat.zero_le _⟩) ?_
  refine lv_if_eq (tgt := 12) hx hb dX4_load_5 (by decide) (fun c_5 => ?_) (fun c_5 => ?_)
  · refine lv_iconst (v := (1 : Int32)) hx hb dX4_load_12 (by decide) ?_
    refine va_put (D := D) (ci := 3) (v := .int (1 : Int32)) (ty := .int) (C := RX4) (T := TX4) (N := 20) hx hb hts (by decide +kernel) tyX4 tyX4_ok nmX4 hown hK hP hD hS 0 rfl rfl 0 (by decide) (hts (.fieldLink RX4 41 "TrapMachineModel" "thrown" "I") (by decide +kernel)) (fun _ h9 => h9) rfl (by decide +kernel) rfl rfl (Nat.le_of_ble_eq_true rfl) dX4_load_13 (fun H locs hP hD hS => ?_)
    have hP : va_P D vwCl (wM k z (ms0 w (1 : Int32))) H := hP
    have hD : va_D (in_W (wM k z w)) (wM k z (ms0 w (1 : Int32))) := hD
    refine lv_aload_n hx hb dX4_load_16 rfl (lv_at hl 0 rfl) ?_
    refine va_get (D := D) (ci := 3) (v := .int (1 : Int32)) (C := RX4) (T := TX4) (N := 20) hx hb hts (by decide +kernel) hown hK hP 0 rfl rfl 0 (by decide) (hts (.fieldLink RX4 41 "TrapMachineModel" "thrown" "I") (by decide +kernel)) (fun _ h9 => h9) rfl dX4_load_17 ?_
    refine lv_if_ne (tgt := 32) hx hb dX4_load_20 (by decide) (fun _ => ?_) (fun c9 => absurd c9 (by decide))
    exact W.vret hx hb hr (wr_end rfl (congrArg (wM k z) ((show fX4_load w a1 a2 = (ms0 w (1 : Int32)) from (if_pos c_5).trans rfl).symm.trans ho)) hP hS) hS.2.2 dX4_load_32
  · refine lv_iconst (v := (0 : Int32)) hx hb dX4_load_8 (by decide) ?_
    refine lv_goto (tgt := 13) hx hb dX4_load_9 (by decide) ?_
    refine va_put (D := D) (ci := 3) (v := .int (0 : Int32)) (ty := .int) (C := RX4) (T := TX4) (N := 20) hx hb hts (by decide +kernel) tyX4 tyX4_ok nmX4 hown hK hP hD hS 0 rfl rfl 0 (by decide) (hts (.fieldLink RX4 41 "TrapMachineModel" "thrown" "I") (by decide +kernel)) (fun _ h9 => h9) rfl (by decide +kernel) rfl rfl (Nat.le_of_ble_eq_true rfl) dX4_load_13 (fun H locs hP hD hS => ?_)
    have hP : va_P D vwCl (wM k z (ms0 w (0 : Int32))) H := hP
    have hD : va_D (in_W (wM k z w)) (wM k z (ms0 w (0 : Int32))) := hD
    refine lv_aload_n hx hb dX4_load_16 rfl (lv_at hl 0 rfl) ?_
    refine va_get (D := D) (ci := 3) (v := .int (0 : Int32)) (C := RX4) (T := TX4) (N := 20) hx hb hts (by decide +kernel) hown hK hP 0 rfl rfl 0 (by decide) (hts (.fieldLink RX4 41 "TrapMachineModel" "thrown" "I") (by decide +kernel)) (fun _ h9 => h9) rfl dX4_load_17 ?_
    refine lv_if_ne (tgt := 32) hx hb dX4_load_20 (by decide) (fun c9 => absurd (by decide) c9) (fun _ => ?_)
    refine lv_aload_n hx hb dX4_load_23 rfl (lv_at hl 0 rfl) ?_
    refine va_get (D := D) (ci := 3) (v := .ref (z 1)) (C := RX4) (T := TX4) (N := 20) hx hb hts (by decide +kernel) hown hK hP 0 rfl rfl 1 (by decide) (hts (.fieldLink RX4 7 "TrapMachineModel" "memory" "[I") (by decide +kernel)) (fun _ h9 => h9) rfl dX4_load_24 ?_
    refine lv_iload_n hx hb dX4_load_27 rfl (lv_at hl 1 rfl) ?_
    refine lv_iconst (v := (4 : Int32)) hx hb dX4_load_28 (by decide) ?_
    refine lv_idiv hx hb dX4_load_29 (by decide) ?_
    refine lv_iload_n hx hb dX4_load_30 rfl (lv_at hl 2 rfl) ?_
    refine q_iast (j := (ix (a1 / (4 : Int32)))) (ws' := wM k z (ms1 (ms0 w (0 : Int32)) (upd w.2.1 (ix (a1 / (4 : Int32))) a2))) hx hb hK hP hD hS 1 0 rfl rfl (word_in c_5) rfl rfl dX4_load_31 (fun H locs hP hD hS => ?_)
    exact W.vret hx hb hr (wr_end rfl (congrArg (wM k z) ((show fX4_load w a1 a2 = (ms1 (ms0 w (0 : Int32)) (upd w.2.1 (ix (a1 / (4 : Int32))) a2)) from (if_neg c_5).trans rfl).symm.trans ho)) hP hS) hS.2.2 dX4_load_32
def fX4_word (w : MD) (a1 : Int32) : Int32 × MD :=
  if (fX4_isWord a1) = (0 : Int32) then
    ((fX4_refuse w (1 : Int32)).1, (fX4_refuse w (1 : Int32)).2)
  else
    ((w.2.1 (ix (a1 / (4 : Int32)))), (ms0 w (0 : Int32)))
set_option maxHeartbeats 4000000 in
set_option maxRecDepth 100000 in
theorem kX4_word (l : Launch) (D : va_G) (k : Nat → ClassId) (z : Nat → Nat) (w : MD) (a1 : Int32)  (o : Int32 × (MD)) (ho : fX4_word w a1 = o) : Met l yX4_word wsX4_word { frames := 2, cells := 0, slots := 0, locals := 42 } (wr_P D vwCl (tyL k) (wM k z w) (fun _ => True) [.ref (z 0), .int a1]) (wr_Q D vwCl (some (.int o.1)) (wM k z w) (wM k z o.2)) 0 0 (in_W (wM k z w)) := by
  refine Met.ofW (cc := cX4_word) (maxL := 2) (ret := (some .int)) (by decide) rfl ?_
  intro p e s m args below meth c s₁ B hml hv0
  obtain ⟨rfl, hP, hK, hX, hD0⟩ := hv0
  have hx := B.exec
  have hb := B.bytes
  have hr := B.returns
  have hts := atoms_spec (ws := wsX4_word) B.pre
  have hown : s.vm.findClass RX4 = some m.cls := findClass_of_methodNamed B.named
  have hlocks := B.notSynchronized
  have hD : va_D (in_W (wM k z w)) (wM k z w) := wD_self hD0
  have hS : va_S (in_W (wM k z w)) s.heap s.heap [] := va_S.rf
  have hl := lv_entry ([.ref (z 0), .int a1]) (n := 2) (Nat.le_of_ble_eq_true rfl)
  rw [lg_entry_eq]
  generalize (lg_sl ([.ref (z 0), .int a1]) ++ List.replicate (2 - (lg_sl ([.ref (z 0), .int a1])).length) Slot.unset).toArray = ls at hl ⊢
  have hl : lv_has ls 2 [(0, .ref (z 0)), (1, .int a1)] := hl
  refine lv_iload_n hx hb dX4_word_0 rfl (lv_at hl 1 rfl) ?_
  refine rd_call (r := (fX4_isWord a1)) (W.runS (As := [.int a1]) (rest := []) ⟨hx, hb, hml, hown, hts⟩ (kX4_isWord l a1) (va_cwS 1 hts gX4_word_X4_isWord rfl rfl rfl (by decide +kernel) ⟨Nat.le_of_ble_eq_true rfl, Nat.le_of_ble_eq_true rfl⟩) preEq rfl rfl hl.1 rfl (lv_room (Nat.le_of_ble_eq_true rfl)) dX4_word_1 ⟨Nat.zero_le _, Nat.zero_le _⟩) ?_
  refine lv_if_ne (tgt := 13) hx hb dX4_word_4 (by decide) (fun c_4 => ?_) (fun c_4 => ?_)
  · refine lv_aload_n hx hb dX4_word_13 rfl (lv_at hl 0 rfl) ?_
    refine lv_iconst (v := (0 : Int32)) hx hb dX4_word_14 (by decide) ?_
    refine va_put (D := D) (ci := 3) (v := .int (0 : Int32)) (ty := .int) (C := RX4) (T := TX4) (N := 20) hx hb hts (by decide +kernel) tyX4 tyX4_ok nmX4 hown hK hP hD hS 0 rfl rfl 0 (by decide) (hts (.fieldLink RX4 41 "TrapMachineModel" "thrown" "I") (by decide +kernel)) (fun _ h9 => h9) rfl (by decide +kernel) rfl rfl (Nat.le_of_ble_eq_true rfl) dX4_word_15 (fun H locs hP hD hS => ?_)
    have hP : va_P D vwCl (wM k z (ms0 w (0 : Int32))) H := hP
    have hD : va_D (in_W (wM k z w)) (wM k z (ms0 w (0 : Int32))) := hD
    refine lv_aload_n hx hb dX4_word_18 rfl (lv_at hl 0 rfl) ?_
    refine va_get (D := D) (ci := 3) (v := .ref (z 1)) (C := RX4) (T := TX4) (N := 20) hx hb hts (by decide +kernel) hown hK hP 0 rfl rfl 1 (by decide) (hts (.fieldLink RX4 7 "TrapMachineModel" "memory" "[I") (by decide +kernel)) (fun _ h9 => h9) rfl dX4_word_19 ?_
    refine lv_iload_n hx hb dX4_word_22 rfl (lv_at hl 1 rfl) ?_
    refine lv_iconst (v := (4 : Int32)) hx hb dX4_word_23 (by decide) ?_
    refine lv_idiv hx hb dX4_word_24 (by decide) ?_
    refine q_iald (j := (ix (a1 / (4 : Int32)))) (x9 := (w.2.1 (ix (a1 / (4 : Int32))))) hx hb hK hP 1 0 rfl rfl (word_in c_4) rfl rfl dX4_word_25 ?_
    exact W.iret (v := (w.2.1 (ix (a1 / (4 : Int32))))) hx hb hr (wr_end (congrArg (fun t9 : Int32 × MD => some (Value.int t9.1)) ((show fX4_word w a1 = ((w.2.1 (ix (a1 / (4 : Int32)))), (ms0 w (0 : Int32))) from (if_neg c_4).trans rfl).symm.trans ho)) (congrArg (fun t9 : Int32 × MD => wM k z t9.2) ((show fX4_word w a1 = ((w.2.1 (ix (a1 / (4 : Int32)))), (ms0 w (0 : Int32))) from (if_neg c_4).trans rfl).symm.trans ho)) hP hS) hS.2.2 dX4_word_26
  · refine lv_aload_n hx hb dX4_word_7 rfl (lv_at hl 0 rfl) ?_
    refine lv_iconst (v := (1 : Int32)) hx hb dX4_word_8 (by decide) ?_
    obtain ⟨o1, h_o1⟩ : ∃ o9, (fX4_refuse w (1 : Int32)) = o9 := ⟨_, rfl⟩
    refine wr_call (r := (some (.int o1.1))) (ws' := wM k z o1.2) (W.runV (C := RX4) (b := (z 0)) (As := [.int (1 : Int32)]) (rest := []) ⟨hx, hb, hml, hown, hts⟩ (kX4_refuse l D k z w (1 : Int32) o1 h_o1) (cwV 1 hts gX4_word_X4_refuse rfl rfl rfl (by decide +kernel) ⟨Nat.le_of_ble_eq_true rfl, Nat.le_of_ble_eq_true rfl⟩) (wr_preV bl_T pr_T hK hP hD (va_recv hK hP (ci := 3) (q0 := 0) rfl rfl)) rfl rfl hl.1 rfl (lv_room (Nat.le_of_ble_eq_true rfl)) dX4_word_9 ⟨Nat.zero_le _, Nat.zero_le _⟩) hP hD hS [0, 1, 2, 3, 4, 5, 6, 7, 8, 9] [] [0, 1, 2, 3, 4, 5, 6, 7, 8, 9] allM (by decide) prmM adrM (fun H locs hP hD hS => ?_)
    exact W.iret (v := o1.1) hx hb hr (wr_end (congrArg (fun t9 : Int32 × MD => some (Value.int t9.1)) ((show fX4_word w a1 = (o1.1, o1.2) from (by subst h_o1; exact (if_pos c_4).trans rfl)).symm.trans ho)) (congrArg (fun t9 : Int32 × MD => wM k z t9.2) ((show fX4_word w a1 = (o1.1, o1.2) from (by subst h_o1; exact (if_pos c_4).trans rfl)).symm.trans ho)) hP hS) hS.2.2 dX4_word_12
def fX4_line (w : MD) (a1 : Int32) (a2 : Int32) : MD :=
  if (fX4_outside a1 (0 : Int32) (3 : Int32)) = (0 : Int32) then
    if a2 = (0 : Int32) then
      (ms3 (ms0 w (0 : Int32)) (upd w.2.2.2.1 3 ((w.2.2.2.1 3) &&& (((1 : Int32) <<< (a1 &&& 31)) ^^^ (-1 : Int32)))))
    else
      (ms3 (ms0 w (0 : Int32)) (upd w.2.2.2.1 3 ((w.2.2.2.1 3) ||| ((1 : Int32) <<< (a1 &&& 31)))))
  else
    (ms0 w (1 : Int32))
set_option maxHeartbeats 4000000 in
set_option maxRecDepth 100000 in
theorem kX4_line (l : Launch) (D : va_G) (k : Nat → ClassId) (z : Nat → Nat) (w : MD) (a1 : Int32) (a2 : Int32)  (o : MD) (ho : fX4_line w a1 a2 = o) : Met l yX4_line wsX4_line { frames := 1, cells := 0, slots := 0, locals := 22 } (wr_P D vwCl (tyL k) (wM k z w) (fun _ => True) [.ref (z 0), .int a1, .int a2]) (wr_Q D vwCl none (wM k z w) (wM k z o)) 0 0 (in_W (wM k z w)) := by
  refine Met.ofW (cc := cX4_line) (maxL := 3) (ret := none) (by decide) rfl ?_
  intro p e s m args below meth c s₁ B hml hv0
  obtain ⟨rfl, hP, hK, hX, hD0⟩ := hv0
  have hx := B.exec
  have hb := B.bytes
  have hr := B.returns
  have hts := atoms_spec (ws := wsX4_line) B.pre
  have hown : s.vm.findClass RX4 = some m.cls := findClass_of_methodNamed B.named
  have hlocks := B.notSynchronized
  have hD : va_D (in_W (wM k z w)) (wM k z w) := wD_self hD0
  have hS : va_S (in_W (wM k z w)) s.heap s.heap [] := va_S.rf
  have hl := lv_entry ([.ref (z 0), .int a1, .int a2]) (n := 3) (Nat.le_of_ble_eq_true rfl)
  rw [lg_entry_eq]
  generalize (lg_sl ([.ref (z 0), .int a1, .int a2]) ++ List.replicate (3 - (lg_sl ([.ref (z 0), .int a1, .int a2])).length) Slot.unset).toArray = ls at hl ⊢
  have hl : lv_has ls 3 [(0, .ref (z 0)), (1, .int a1), (2, .int a2)] := hl
  refine lv_aload_n hx hb dX4_line_0 rfl (lv_at hl 0 rfl) ?_
  refine lv_iload_n hx hb dX4_line_1 rfl (lv_at hl 1 rfl) ?_
  refine lv_iconst (v := (0 : Int32)) hx hb dX4_line_2 (by decide) ?_
  refine lv_iconst (v := (3 : Int32)) hx hb dX4_line_3 (by decide) ?_
  refine rd_call (r := (fX4_outside a1 (0 : Int32) (3 : Int32))) (W.runS (As := [.int a1, .int (0 : Int32), .int (3 : Int32)]) (rest := [.ref (z 0)]) ⟨hx, hb, hml, hown, hts⟩ (kX4_outside l a1 (0 : Int32) (3 : Int32)) (va_cwS 3 hts gX4_line_X4_outside rfl rfl rfl (by decide +kernel) ⟨Nat.le_of_ble_eq_true rfl, Nat.le_of_ble_eq_true rfl⟩) preEq rfl rfl hl.1 rfl (lv_room (Nat.le_of_ble_eq_true rfl)) dX4_line_4 ⟨Nat.zero_le _, Nat.zero_le _⟩) ?_
  refine lv_if_eq (tgt := 14) hx hb dX4_line_7 (by decide) (fun c_7 => ?_) (fun c_7 => ?_)
  · refine lv_iconst (v := (0 : Int32)) hx hb dX4_line_14 (by decide) ?_
    refine va_put (D := D) (ci := 3) (v := .int (0 : Int32)) (ty := .int) (C := RX4) (T := TX4) (N := 20) hx hb hts (by decide +kernel) tyX4 tyX4_ok nmX4 hown hK hP hD hS 0 rfl rfl 0 (by decide) (hts (.fieldLink RX4 41 "TrapMachineModel" "thrown" "I") (by decide +kernel)) (fun _ h9 => h9) rfl (by decide +kernel) rfl rfl (Nat.le_of_ble_eq_true rfl) dX4_line_15 (fun H locs hP hD hS => ?_)
    have hP : va_P D vwCl (wM k z (ms0 w (0 : Int32))) H := hP
    have hD : va_D (in_W (wM k z w)) (wM k z (ms0 w (0 : Int32))) := hD
    refine lv_aload_n hx hb dX4_line_18 rfl (lv_at hl 0 rfl) ?_
    refine va_get (D := D) (ci := 3) (v := .int (0 : Int32)) (C := RX4) (T := TX4) (N := 20) hx hb hts (by decide +kernel) hown hK hP 0 rfl rfl 0 (by decide) (hts (.fieldLink RX4 41 "TrapMachineModel" "thrown" "I") (by decide +kernel)) (fun _ h9 => h9) rfl dX4_line_19 ?_
    refine lv_if_ne (tgt := 60) hx hb dX4_line_22 (by decide) (fun c9 => absurd (by decide) c9) (fun _ => ?_)
    refine lv_aload_n hx hb dX4_line_25 rfl (lv_at hl 0 rfl) ?_
    refine va_get (D := D) (ci := 3) (v := .ref (z 3)) (C := RX4) (T := TX4) (N := 20) hx hb hts (by decide +kernel) hown hK hP 0 rfl rfl 3 (by decide) (hts (.fieldLink RX4 16 "TrapMachineModel" "control" "[I") (by decide +kernel)) (fun _ h9 => h9) rfl dX4_line_26 ?_
    refine lv_iconst (v := (3 : Int32)) hx hb dX4_line_29 (by decide) ?_
    refine lv_iload_n hx hb dX4_line_30 rfl (lv_at hl 2 rfl) ?_
    refine lv_if_eq (tgt := 47) hx hb dX4_line_31 (by decide) (fun c_31 => ?_) (fun c_31 => ?_)
    · refine lv_aload_n hx hb dX4_line_47 rfl (lv_at hl 0 rfl) ?_
      refine va_get (D := D) (ci := 3) (v := .ref (z 3)) (C := RX4) (T := TX4) (N := 20) hx hb hts (by decide +kernel) hown hK hP 0 rfl rfl 3 (by decide) (hts (.fieldLink RX4 16 "TrapMachineModel" "control" "[I") (by decide +kernel)) (fun _ h9 => h9) rfl dX4_line_48 ?_
      refine lv_iconst (v := (3 : Int32)) hx hb dX4_line_51 (by decide) ?_
      refine q_iald (j := 3) (x9 := (w.2.2.2.1 3)) hx hb hK hP 3 0 rfl rfl (vi_k (by decide)) rfl rfl dX4_line_52 ?_
      refine lv_iconst (v := (1 : Int32)) hx hb dX4_line_53 (by decide) ?_
      refine lv_iload_n hx hb dX4_line_54 rfl (lv_at hl 1 rfl) ?_
      refine lv_ishl hx hb dX4_line_55 ?_
      refine lv_iconst (v := (-1 : Int32)) hx hb dX4_line_56 (by decide) ?_
      refine lv_ixor hx hb dX4_line_57 ?_
      refine lv_iand hx hb dX4_line_58 ?_
      refine q_iast (j := 3) (ws' := wM k z (ms3 (ms0 w (0 : Int32)) (upd w.2.2.2.1 3 ((w.2.2.2.1 3) &&& (((1 : Int32) <<< (a1 &&& 31)) ^^^ (-1 : Int32)))))) hx hb hK hP hD hS 3 0 rfl rfl (vi_k (by decide)) rfl rfl dX4_line_59 (fun H locs hP hD hS => ?_)
      exact W.vret hx hb hr (wr_end rfl (congrArg (wM k z) ((show fX4_line w a1 a2 = (ms3 (ms0 w (0 : Int32)) (upd w.2.2.2.1 3 ((w.2.2.2.1 3) &&& (((1 : Int32) <<< (a1 &&& 31)) ^^^ (-1 : Int32))))) from (if_pos c_7).trans ((if_pos c_31).trans rfl)).symm.trans ho)) hP hS) hS.2.2 dX4_line_60
    · refine lv_aload_n hx hb dX4_line_34 rfl (lv_at hl 0 rfl) ?_
      refine va_get (D := D) (ci := 3) (v := .ref (z 3)) (C := RX4) (T := TX4) (N := 20) hx hb hts (by decide +kernel) hown hK hP 0 rfl rfl 3 (by decide) (hts (.fieldLink RX4 16 "TrapMachineModel" "control" "[I") (by decide +kernel)) (fun _ h9 => h9) rfl dX4_line_35 ?_
      refine lv_iconst (v := (3 : Int32)) hx hb dX4_line_38 (by decide) ?_
      refine q_iald (j := 3) (x9 := (w.2.2.2.1 3)) hx hb hK hP 3 0 rfl rfl (vi_k (by decide)) rfl rfl dX4_line_39 ?_
      refine lv_iconst (v := (1 : Int32)) hx hb dX4_line_40 (by decide) ?_
      refine lv_iload_n hx hb dX4_line_41 rfl (lv_at hl 1 rfl) ?_
      refine lv_ishl hx hb dX4_line_42 ?_
      refine lv_ior hx hb dX4_line_43 ?_
      refine lv_goto (tgt := 59) hx hb dX4_line_44 (by decide) ?_
      refine q_iast (j := 3) (ws' := wM k z (ms3 (ms0 w (0 : Int32)) (upd w.2.2.2.1 3 ((w.2.2.2.1 3) ||| ((1 : Int32) <<< (a1 &&& 31)))))) hx hb hK hP hD hS 3 0 rfl rfl (vi_k (by decide)) rfl rfl dX4_line_59 (fun H locs hP hD hS => ?_)
      exact W.vret hx hb hr (wr_end rfl (congrArg (wM k z) ((show fX4_line w a1 a2 = (ms3 (ms0 w (0 : Int32)) (upd w.2.2.2.1 3 ((w.2.2.2.1 3) ||| ((1 : Int32) <<< (a1 &&& 31))))) from (if_pos c_7).trans ((if_neg c_31).trans rfl)).symm.trans ho)) hP hS) hS.2.2 dX4_line_60
  · refine lv_iconst (v := (1 : Int32)) hx hb dX4_line_10 (by decide) ?_
    refine lv_goto (tgt := 15) hx hb dX4_line_11 (by decide) ?_
    refine va_put (D := D) (ci := 3) (v := .int (1 : Int32)) (ty := .int) (C := RX4) (T := TX4) (N := 20) hx hb hts (by decide +kernel) tyX4 tyX4_ok nmX4 hown hK hP hD hS 0 rfl rfl 0 (by decide) (hts (.fieldLink RX4 41 "TrapMachineModel" "thrown" "I") (by decide +kernel)) (fun _ h9 => h9) rfl (by decide +kernel) rfl rfl (Nat.le_of_ble_eq_true rfl) dX4_line_15 (fun H locs hP hD hS => ?_)
    have hP : va_P D vwCl (wM k z (ms0 w (1 : Int32))) H := hP
    have hD : va_D (in_W (wM k z w)) (wM k z (ms0 w (1 : Int32))) := hD
    refine lv_aload_n hx hb dX4_line_18 rfl (lv_at hl 0 rfl) ?_
    refine va_get (D := D) (ci := 3) (v := .int (1 : Int32)) (C := RX4) (T := TX4) (N := 20) hx hb hts (by decide +kernel) hown hK hP 0 rfl rfl 0 (by decide) (hts (.fieldLink RX4 41 "TrapMachineModel" "thrown" "I") (by decide +kernel)) (fun _ h9 => h9) rfl dX4_line_19 ?_
    refine lv_if_ne (tgt := 60) hx hb dX4_line_22 (by decide) (fun _ => ?_) (fun c9 => absurd c9 (by decide))
    exact W.vret hx hb hr (wr_end rfl (congrArg (wM k z) ((show fX4_line w a1 a2 = (ms0 w (1 : Int32)) from (if_neg c_7).trans rfl).symm.trans ho)) hP hS) hS.2.2 dX4_line_60
def fX4_filled (w : MD) (a1 : Int32) : MD :=
  (ms11 (ms0 w (0 : Int32)) (a1 &&& (3 : Int32)))
set_option maxHeartbeats 4000000 in
set_option maxRecDepth 100000 in
theorem kX4_filled (l : Launch) (D : va_G) (k : Nat → ClassId) (z : Nat → Nat) (w : MD) (a1 : Int32)  (o : MD) (ho : fX4_filled w a1 = o) : Met l yX4_filled wsX4_filled { frames := 0, cells := 0, slots := 0, locals := 0 } (wr_P D vwCl (tyL k) (wM k z w) (fun _ => True) [.ref (z 0), .int a1]) (wr_Q D vwCl none (wM k z w) (wM k z o)) 0 0 (in_W (wM k z w)) := by
  refine Met.ofW (cc := cX4_filled) (maxL := 2) (ret := none) (by decide) rfl ?_
  intro p e s m args below meth c s₁ B hml hv0
  obtain ⟨rfl, hP, hK, hX, hD0⟩ := hv0
  have hx := B.exec
  have hb := B.bytes
  have hr := B.returns
  have hts := atoms_spec (ws := wsX4_filled) B.pre
  have hown : s.vm.findClass RX4 = some m.cls := findClass_of_methodNamed B.named
  have hlocks := B.notSynchronized
  have hD : va_D (in_W (wM k z w)) (wM k z w) := wD_self hD0
  have hS : va_S (in_W (wM k z w)) s.heap s.heap [] := va_S.rf
  have hl := lv_entry ([.ref (z 0), .int a1]) (n := 2) (Nat.le_of_ble_eq_true rfl)
  rw [lg_entry_eq]
  generalize (lg_sl ([.ref (z 0), .int a1]) ++ List.replicate (2 - (lg_sl ([.ref (z 0), .int a1])).length) Slot.unset).toArray = ls at hl ⊢
  have hl : lv_has ls 2 [(0, .ref (z 0)), (1, .int a1)] := hl
  refine lv_aload_n hx hb dX4_filled_0 rfl (lv_at hl 0 rfl) ?_
  refine lv_iconst (v := (0 : Int32)) hx hb dX4_filled_1 (by decide) ?_
  refine va_put (D := D) (ci := 3) (v := .int (0 : Int32)) (ty := .int) (C := RX4) (T := TX4) (N := 20) hx hb hts (by decide +kernel) tyX4 tyX4_ok nmX4 hown hK hP hD hS 0 rfl rfl 0 (by decide) (hts (.fieldLink RX4 41 "TrapMachineModel" "thrown" "I") (by decide +kernel)) (fun _ h9 => h9) rfl (by decide +kernel) rfl rfl (Nat.le_of_ble_eq_true rfl) dX4_filled_2 (fun H locs hP hD hS => ?_)
  have hP : va_P D vwCl (wM k z (ms0 w (0 : Int32))) H := hP
  have hD : va_D (in_W (wM k z w)) (wM k z (ms0 w (0 : Int32))) := hD
  refine lv_aload_n hx hb dX4_filled_5 rfl (lv_at hl 0 rfl) ?_
  refine lv_iload_n hx hb dX4_filled_6 rfl (lv_at hl 1 rfl) ?_
  refine lv_iconst (v := (3 : Int32)) hx hb dX4_filled_7 (by decide) ?_
  refine lv_iand hx hb dX4_filled_8 ?_
  refine va_put (D := D) (ci := 3) (v := .int (a1 &&& (3 : Int32))) (ty := .int) (C := RX4) (T := TX4) (N := 20) hx hb hts (by decide +kernel) tyX4 tyX4_ok nmX4 hown hK hP hD hS 0 rfl rfl 12 (by decide) (hts (.fieldLink RX4 124 "TrapMachineModel" "filled" "I") (by decide +kernel)) (fun _ h9 => h9) rfl (by decide +kernel) rfl rfl (Nat.le_of_ble_eq_true rfl) dX4_filled_9 (fun H locs hP hD hS => ?_)
  have hP : va_P D vwCl (wM k z (ms11 (ms0 w (0 : Int32)) (a1 &&& (3 : Int32)))) H := hP
  have hD : va_D (in_W (wM k z w)) (wM k z (ms11 (ms0 w (0 : Int32)) (a1 &&& (3 : Int32)))) := hD
  exact W.vret hx hb hr (wr_end rfl (congrArg (wM k z) ((show fX4_filled w a1 = (ms11 (ms0 w (0 : Int32)) (a1 &&& (3 : Int32))) from rfl).symm.trans ho)) hP hS) hS.2.2 dX4_filled_12
def fX4_jump (w : MD) (a1 : Int32) : MD :=
  (ms13 (ms14 (ms9 (ms0 w (0 : Int32)) a1) (0 : Int32)) (0 : Int32))
set_option maxHeartbeats 4000000 in
set_option maxRecDepth 100000 in
theorem kX4_jump (l : Launch) (D : va_G) (k : Nat → ClassId) (z : Nat → Nat) (w : MD) (a1 : Int32)  (o : MD) (ho : fX4_jump w a1 = o) : Met l yX4_jump wsX4_jump { frames := 0, cells := 0, slots := 0, locals := 0 } (wr_P D vwCl (tyL k) (wM k z w) (fun _ => True) [.ref (z 0), .int a1]) (wr_Q D vwCl none (wM k z w) (wM k z o)) 0 0 (in_W (wM k z w)) := by
  refine Met.ofW (cc := cX4_jump) (maxL := 2) (ret := none) (by decide) rfl ?_
  intro p e s m args below meth c s₁ B hml hv0
  obtain ⟨rfl, hP, hK, hX, hD0⟩ := hv0
  have hx := B.exec
  have hb := B.bytes
  have hr := B.returns
  have hts := atoms_spec (ws := wsX4_jump) B.pre
  have hown : s.vm.findClass RX4 = some m.cls := findClass_of_methodNamed B.named
  have hlocks := B.notSynchronized
  have hD : va_D (in_W (wM k z w)) (wM k z w) := wD_self hD0
  have hS : va_S (in_W (wM k z w)) s.heap s.heap [] := va_S.rf
  have hl := lv_entry ([.ref (z 0), .int a1]) (n := 2) (Nat.le_of_ble_eq_true rfl)
  rw [lg_entry_eq]
  generalize (lg_sl ([.ref (z 0), .int a1]) ++ List.replicate (2 - (lg_sl ([.ref (z 0), .int a1])).length) Slot.unset).toArray = ls at hl ⊢
  have hl : lv_has ls 2 [(0, .ref (z 0)), (1, .int a1)] := hl
  refine lv_aload_n hx hb dX4_jump_0 rfl (lv_at hl 0 rfl) ?_
  refine lv_iconst (v := (0 : Int32)) hx hb dX4_jump_1 (by decide) ?_
  refine va_put (D := D) (ci := 3) (v := .int (0 : Int32)) (ty := .int) (C := RX4) (T := TX4) (N := 20) hx hb hts (by decide +kernel) tyX4 tyX4_ok nmX4 hown hK hP hD hS 0 rfl rfl 0 (by decide) (hts (.fieldLink RX4 41 "TrapMachineModel" "thrown" "I") (by decide +kernel)) (fun _ h9 => h9) rfl (by decide +kernel) rfl rfl (Nat.le_of_ble_eq_true rfl) dX4_jump_2 (fun H locs hP hD hS => ?_)
  have hP : va_P D vwCl (wM k z (ms0 w (0 : Int32))) H := hP
  have hD : va_D (in_W (wM k z w)) (wM k z (ms0 w (0 : Int32))) := hD
  refine lv_aload_n hx hb dX4_jump_5 rfl (lv_at hl 0 rfl) ?_
  refine lv_iload_n hx hb dX4_jump_6 rfl (lv_at hl 1 rfl) ?_
  refine va_put (D := D) (ci := 3) (v := .int a1) (ty := .int) (C := RX4) (T := TX4) (N := 20) hx hb hts (by decide +kernel) tyX4 tyX4_ok nmX4 hown hK hP hD hS 0 rfl rfl 10 (by decide) (hts (.fieldLink RX4 51 "TrapMachineModel" "place" "I") (by decide +kernel)) (fun _ h9 => h9) rfl (by decide +kernel) rfl rfl (Nat.le_of_ble_eq_true rfl) dX4_jump_7 (fun H locs hP hD hS => ?_)
  have hP : va_P D vwCl (wM k z (ms9 (ms0 w (0 : Int32)) a1)) H := hP
  have hD : va_D (in_W (wM k z w)) (wM k z (ms9 (ms0 w (0 : Int32)) a1)) := hD
  refine lv_aload_n hx hb dX4_jump_10 rfl (lv_at hl 0 rfl) ?_
  refine lv_iconst (v := (0 : Int32)) hx hb dX4_jump_11 (by decide) ?_
  refine va_put (D := D) (ci := 3) (v := .int (0 : Int32)) (ty := .boolean) (C := RX4) (T := TX4) (N := 20) hx hb hts (by decide +kernel) tyX4 tyX4_ok nmX4 hown hK hP hD hS 0 rfl rfl 15 (by decide) (hts (.fieldLink RX4 148 "TrapMachineModel" "stopped" "Z") (by decide +kernel)) (fun _ h9 => h9) rfl (by decide +kernel) rfl rfl (Nat.le_of_ble_eq_true rfl) dX4_jump_12 (fun H locs hP hD hS => ?_)
  have hP : va_P D vwCl (wM k z (ms14 (ms9 (ms0 w (0 : Int32)) a1) (0 : Int32))) H := hP
  have hD : va_D (in_W (wM k z w)) (wM k z (ms14 (ms9 (ms0 w (0 : Int32)) a1) (0 : Int32))) := hD
  refine lv_aload_n hx hb dX4_jump_15 rfl (lv_at hl 0 rfl) ?_
  refine lv_iconst (v := (0 : Int32)) hx hb dX4_jump_16 (by decide) ?_
  refine va_put (D := D) (ci := 3) (v := .int (0 : Int32)) (ty := .boolean) (C := RX4) (T := TX4) (N := 20) hx hb hts (by decide +kernel) tyX4 tyX4_ok nmX4 hown hK hP hD hS 0 rfl rfl 14 (by decide) (hts (.fieldLink RX4 127 "TrapMachineModel" "rests" "Z") (by decide +kernel)) (fun _ h9 => h9) rfl (by decide +kernel) rfl rfl (Nat.le_of_ble_eq_true rfl) dX4_jump_17 (fun H locs hP hD hS => ?_)
  have hP : va_P D vwCl (wM k z (ms13 (ms14 (ms9 (ms0 w (0 : Int32)) a1) (0 : Int32)) (0 : Int32))) H := hP
  have hD : va_D (in_W (wM k z w)) (wM k z (ms13 (ms14 (ms9 (ms0 w (0 : Int32)) a1) (0 : Int32)) (0 : Int32))) := hD
  exact W.vret hx hb hr (wr_end rfl (congrArg (wM k z) ((show fX4_jump w a1 = (ms13 (ms14 (ms9 (ms0 w (0 : Int32)) a1) (0 : Int32)) (0 : Int32)) from rfl).symm.trans ho)) hP hS) hS.2.2 dX4_jump_20
def fX4_state (w : MD)  : Int32 × MD :=
  if w.2.2.2.2.2.2.2.2.2.2.2.2.2.2.1 = (0 : Int32) then
    if w.2.2.2.2.2.2.2.2.2.2.2.2.2.1 = (0 : Int32) then
      ((0 : Int32), (ms0 w (0 : Int32)))
    else
      ((1 : Int32), (ms0 w (0 : Int32)))
  else
    ((2 : Int32), (ms0 w (0 : Int32)))
set_option maxHeartbeats 4000000 in
set_option maxRecDepth 100000 in
theorem kX4_state (l : Launch) (D : va_G) (k : Nat → ClassId) (z : Nat → Nat) (w : MD)   (o : Int32 × (MD)) (ho : fX4_state w = o) : Met l yX4_state wsX4_state { frames := 0, cells := 0, slots := 0, locals := 0 } (wr_P D vwCl (tyL k) (wM k z w) (fun _ => True) [.ref (z 0)]) (wr_Q D vwCl (some (.int o.1)) (wM k z w) (wM k z o.2)) 0 0 (in_W (wM k z w)) := by
  refine Met.ofW (cc := cX4_state) (maxL := 1) (ret := (some .int)) (by decide) rfl ?_
  intro p e s m args below meth c s₁ B hml hv0
  obtain ⟨rfl, hP, hK, hX, hD0⟩ := hv0
  have hx := B.exec
  have hb := B.bytes
  have hr := B.returns
  have hts := atoms_spec (ws := wsX4_state) B.pre
  have hown : s.vm.findClass RX4 = some m.cls := findClass_of_methodNamed B.named
  have hlocks := B.notSynchronized
  have hD : va_D (in_W (wM k z w)) (wM k z w) := wD_self hD0
  have hS : va_S (in_W (wM k z w)) s.heap s.heap [] := va_S.rf
  have hl := lv_entry ([.ref (z 0)]) (n := 1) (Nat.le_of_ble_eq_true rfl)
  rw [lg_entry_eq]
  generalize (lg_sl ([.ref (z 0)]) ++ List.replicate (1 - (lg_sl ([.ref (z 0)])).length) Slot.unset).toArray = ls at hl ⊢
  have hl : lv_has ls 1 [(0, .ref (z 0))] := hl
  refine lv_aload_n hx hb dX4_state_0 rfl (lv_at hl 0 rfl) ?_
  refine lv_iconst (v := (0 : Int32)) hx hb dX4_state_1 (by decide) ?_
  refine va_put (D := D) (ci := 3) (v := .int (0 : Int32)) (ty := .int) (C := RX4) (T := TX4) (N := 20) hx hb hts (by decide +kernel) tyX4 tyX4_ok nmX4 hown hK hP hD hS 0 rfl rfl 0 (by decide) (hts (.fieldLink RX4 41 "TrapMachineModel" "thrown" "I") (by decide +kernel)) (fun _ h9 => h9) rfl (by decide +kernel) rfl rfl (Nat.le_of_ble_eq_true rfl) dX4_state_2 (fun H locs hP hD hS => ?_)
  have hP : va_P D vwCl (wM k z (ms0 w (0 : Int32))) H := hP
  have hD : va_D (in_W (wM k z w)) (wM k z (ms0 w (0 : Int32))) := hD
  refine lv_aload_n hx hb dX4_state_5 rfl (lv_at hl 0 rfl) ?_
  refine va_get (D := D) (ci := 3) (v := .int w.2.2.2.2.2.2.2.2.2.2.2.2.2.2.1) (C := RX4) (T := TX4) (N := 20) hx hb hts (by decide +kernel) hown hK hP 0 rfl rfl 15 (by decide) (hts (.fieldLink RX4 148 "TrapMachineModel" "stopped" "Z") (by decide +kernel)) (fun _ h9 => h9) rfl dX4_state_6 ?_
  refine lv_if_eq (tgt := 16) hx hb dX4_state_9 (by decide) (fun c_9 => ?_) (fun c_9 => ?_)
  · refine lv_aload_n hx hb dX4_state_16 rfl (lv_at hl 0 rfl) ?_
    refine va_get (D := D) (ci := 3) (v := .int w.2.2.2.2.2.2.2.2.2.2.2.2.2.1) (C := RX4) (T := TX4) (N := 20) hx hb hts (by decide +kernel) hown hK hP 0 rfl rfl 14 (by decide) (hts (.fieldLink RX4 127 "TrapMachineModel" "rests" "Z") (by decide +kernel)) (fun _ h9 => h9) rfl dX4_state_17 ?_
    refine lv_if_eq (tgt := 27) hx hb dX4_state_20 (by decide) (fun c_20 => ?_) (fun c_20 => ?_)
    · refine lv_iconst (v := (0 : Int32)) hx hb dX4_state_27 (by decide) ?_
      exact W.iret (v := (0 : Int32)) hx hb hr (wr_end (congrArg (fun t9 : Int32 × MD => some (Value.int t9.1)) ((show fX4_state w = ((0 : Int32), (ms0 w (0 : Int32))) from (if_pos c_9).trans ((if_pos c_20).trans rfl)).symm.trans ho)) (congrArg (fun t9 : Int32 × MD => wM k z t9.2) ((show fX4_state w = ((0 : Int32), (ms0 w (0 : Int32))) from (if_pos c_9).trans ((if_pos c_20).trans rfl)).symm.trans ho)) hP hS) hS.2.2 dX4_state_28
    · refine lv_iconst (v := (1 : Int32)) hx hb dX4_state_23 (by decide) ?_
      refine lv_goto (tgt := 28) hx hb dX4_state_24 (by decide) ?_
      exact W.iret (v := (1 : Int32)) hx hb hr (wr_end (congrArg (fun t9 : Int32 × MD => some (Value.int t9.1)) ((show fX4_state w = ((1 : Int32), (ms0 w (0 : Int32))) from (if_pos c_9).trans ((if_neg c_20).trans rfl)).symm.trans ho)) (congrArg (fun t9 : Int32 × MD => wM k z t9.2) ((show fX4_state w = ((1 : Int32), (ms0 w (0 : Int32))) from (if_pos c_9).trans ((if_neg c_20).trans rfl)).symm.trans ho)) hP hS) hS.2.2 dX4_state_28
  · refine lv_iconst (v := (2 : Int32)) hx hb dX4_state_12 (by decide) ?_
    refine lv_goto (tgt := 28) hx hb dX4_state_13 (by decide) ?_
    exact W.iret (v := (2 : Int32)) hx hb hr (wr_end (congrArg (fun t9 : Int32 × MD => some (Value.int t9.1)) ((show fX4_state w = ((2 : Int32), (ms0 w (0 : Int32))) from (if_neg c_9).trans rfl).symm.trans ho)) (congrArg (fun t9 : Int32 × MD => wM k z t9.2) ((show fX4_state w = ((2 : Int32), (ms0 w (0 : Int32))) from (if_neg c_9).trans rfl).symm.trans ho)) hP hS) hS.2.2 dX4_state_28
def fX4_register (w : MD) (a1 : Int32) : Int32 × MD :=
  if (fX4_outside a1 (0 : Int32) (9 : Int32)) = (0 : Int32) then
    if (8 : Int32) ≤ a1 then
      if a1 = (8 : Int32) then
        (w.2.2.2.2.2.2.2.2.2.1, (ms0 w (0 : Int32)))
      else
        if w.2.2.2.2.2.2.2.2.2.2.2.2.1 = (0 : Int32) then
          ((0 : Int32), (ms0 w (0 : Int32)))
        else
          ((1 : Int32), (ms0 w (0 : Int32)))
    else
      ((w.2.2.1 (ix a1)), (ms0 w (0 : Int32)))
  else
    ((fX4_refuse w (1 : Int32)).1, (fX4_refuse w (1 : Int32)).2)
set_option maxHeartbeats 4000000 in
set_option maxRecDepth 100000 in
theorem kX4_register (l : Launch) (D : va_G) (k : Nat → ClassId) (z : Nat → Nat) (w : MD) (a1 : Int32)  (o : Int32 × (MD)) (ho : fX4_register w a1 = o) : Met l yX4_register wsX4_register { frames := 1, cells := 0, slots := 0, locals := 22 } (wr_P D vwCl (tyL k) (wM k z w) (fun _ => True) [.ref (z 0), .int a1]) (wr_Q D vwCl (some (.int o.1)) (wM k z w) (wM k z o.2)) 0 0 (in_W (wM k z w)) := by
  refine Met.ofW (cc := cX4_register) (maxL := 2) (ret := (some .int)) (by decide) rfl ?_
  intro p e s m args below meth c s₁ B hml hv0
  obtain ⟨rfl, hP, hK, hX, hD0⟩ := hv0
  have hx := B.exec
  have hb := B.bytes
  have hr := B.returns
  have hts := atoms_spec (ws := wsX4_register) B.pre
  have hown : s.vm.findClass RX4 = some m.cls := findClass_of_methodNamed B.named
  have hlocks := B.notSynchronized
  have hD : va_D (in_W (wM k z w)) (wM k z w) := wD_self hD0
  have hS : va_S (in_W (wM k z w)) s.heap s.heap [] := va_S.rf
  have hl := lv_entry ([.ref (z 0), .int a1]) (n := 2) (Nat.le_of_ble_eq_true rfl)
  rw [lg_entry_eq]
  generalize (lg_sl ([.ref (z 0), .int a1]) ++ List.replicate (2 - (lg_sl ([.ref (z 0), .int a1])).length) Slot.unset).toArray = ls at hl ⊢
  have hl : lv_has ls 2 [(0, .ref (z 0)), (1, .int a1)] := hl
  refine lv_iload_n hx hb dX4_register_0 rfl (lv_at hl 1 rfl) ?_
  refine lv_iconst (v := (0 : Int32)) hx hb dX4_register_1 (by decide) ?_
  refine lv_bipush (v := (9 : Int32)) hx hb dX4_register_2 (by decide) ?_
  refine rd_call (r := (fX4_outside a1 (0 : Int32) (9 : Int32))) (W.runS (As := [.int a1, .int (0 : Int32), .int (9 : Int32)]) (rest := []) ⟨hx, hb, hml, hown, hts⟩ (kX4_outside l a1 (0 : Int32) (9 : Int32)) (va_cwS 3 hts gX4_register_X4_outside rfl rfl rfl (by decide +kernel) ⟨Nat.le_of_ble_eq_true rfl, Nat.le_of_ble_eq_true rfl⟩) preEq rfl rfl hl.1 rfl (lv_room (Nat.le_of_ble_eq_true rfl)) dX4_register_4 ⟨Nat.zero_le _, Nat.zero_le _⟩) ?_
  refine lv_if_eq (tgt := 16) hx hb dX4_register_7 (by decide) (fun c_7 => ?_) (fun c_7 => ?_)
  · refine lv_aload_n hx hb dX4_register_16 rfl (lv_at hl 0 rfl) ?_
    refine lv_iconst (v := (0 : Int32)) hx hb dX4_register_17 (by decide) ?_
    refine va_put (D := D) (ci := 3) (v := .int (0 : Int32)) (ty := .int) (C := RX4) (T := TX4) (N := 20) hx hb hts (by decide +kernel) tyX4 tyX4_ok nmX4 hown hK hP hD hS 0 rfl rfl 0 (by decide) (hts (.fieldLink RX4 41 "TrapMachineModel" "thrown" "I") (by decide +kernel)) (fun _ h9 => h9) rfl (by decide +kernel) rfl rfl (Nat.le_of_ble_eq_true rfl) dX4_register_18 (fun H locs hP hD hS => ?_)
    have hP : va_P D vwCl (wM k z (ms0 w (0 : Int32))) H := hP
    have hD : va_D (in_W (wM k z w)) (wM k z (ms0 w (0 : Int32))) := hD
    refine lv_iload_n hx hb dX4_register_21 rfl (lv_at hl 1 rfl) ?_
    refine lv_bipush (v := (8 : Int32)) hx hb dX4_register_22 (by decide) ?_
    refine lv_icmp_ge (tgt := 36) hx hb dX4_register_24 (by decide) (fun c_24 => ?_) (fun c_24 => ?_)
    · refine lv_iload_n hx hb dX4_register_36 rfl (lv_at hl 1 rfl) ?_
      refine lv_bipush (v := (8 : Int32)) hx hb dX4_register_37 (by decide) ?_
      refine lv_icmp_ne (tgt := 49) hx hb dX4_register_39 (by decide) (fun c_39 => ?_) (fun c_39 => ?_)
      · refine lv_aload_n hx hb dX4_register_49 rfl (lv_at hl 0 rfl) ?_
        refine va_get (D := D) (ci := 3) (v := .int w.2.2.2.2.2.2.2.2.2.2.2.2.1) (C := RX4) (T := TX4) (N := 20) hx hb hts (by decide +kernel) hown hK hP 0 rfl rfl 13 (by decide) (hts (.fieldLink RX4 89 "TrapMachineModel" "link" "Z") (by decide +kernel)) (fun _ h9 => h9) rfl dX4_register_50 ?_
        refine lv_if_eq (tgt := 60) hx hb dX4_register_53 (by decide) (fun c_53 => ?_) (fun c_53 => ?_)
        · refine lv_iconst (v := (0 : Int32)) hx hb dX4_register_60 (by decide) ?_
          exact W.iret (v := (0 : Int32)) hx hb hr (wr_end (congrArg (fun t9 : Int32 × MD => some (Value.int t9.1)) ((show fX4_register w a1 = ((0 : Int32), (ms0 w (0 : Int32))) from (if_pos c_7).trans ((if_pos c_24).trans ((if_neg c_39).trans ((if_pos c_53).trans rfl)))).symm.trans ho)) (congrArg (fun t9 : Int32 × MD => wM k z t9.2) ((show fX4_register w a1 = ((0 : Int32), (ms0 w (0 : Int32))) from (if_pos c_7).trans ((if_pos c_24).trans ((if_neg c_39).trans ((if_pos c_53).trans rfl)))).symm.trans ho)) hP hS) hS.2.2 dX4_register_61
        · refine lv_iconst (v := (1 : Int32)) hx hb dX4_register_56 (by decide) ?_
          refine lv_goto (tgt := 61) hx hb dX4_register_57 (by decide) ?_
          exact W.iret (v := (1 : Int32)) hx hb hr (wr_end (congrArg (fun t9 : Int32 × MD => some (Value.int t9.1)) ((show fX4_register w a1 = ((1 : Int32), (ms0 w (0 : Int32))) from (if_pos c_7).trans ((if_pos c_24).trans ((if_neg c_39).trans ((if_neg c_53).trans rfl)))).symm.trans ho)) (congrArg (fun t9 : Int32 × MD => wM k z t9.2) ((show fX4_register w a1 = ((1 : Int32), (ms0 w (0 : Int32))) from (if_pos c_7).trans ((if_pos c_24).trans ((if_neg c_39).trans ((if_neg c_53).trans rfl)))).symm.trans ho)) hP hS) hS.2.2 dX4_register_61
      · refine lv_aload_n hx hb dX4_register_42 rfl (lv_at hl 0 rfl) ?_
        refine va_get (D := D) (ci := 3) (v := .int w.2.2.2.2.2.2.2.2.2.1) (C := RX4) (T := TX4) (N := 20) hx hb hts (by decide +kernel) hown hK hP 0 rfl rfl 10 (by decide) (hts (.fieldLink RX4 51 "TrapMachineModel" "place" "I") (by decide +kernel)) (fun _ h9 => h9) rfl dX4_register_43 ?_
        refine lv_goto (tgt := 61) hx hb dX4_register_46 (by decide) ?_
        exact W.iret (v := w.2.2.2.2.2.2.2.2.2.1) hx hb hr (wr_end (congrArg (fun t9 : Int32 × MD => some (Value.int t9.1)) ((show fX4_register w a1 = (w.2.2.2.2.2.2.2.2.2.1, (ms0 w (0 : Int32))) from (if_pos c_7).trans ((if_pos c_24).trans ((if_pos c_39).trans rfl))).symm.trans ho)) (congrArg (fun t9 : Int32 × MD => wM k z t9.2) ((show fX4_register w a1 = (w.2.2.2.2.2.2.2.2.2.1, (ms0 w (0 : Int32))) from (if_pos c_7).trans ((if_pos c_24).trans ((if_pos c_39).trans rfl))).symm.trans ho)) hP hS) hS.2.2 dX4_register_61
    · refine lv_aload_n hx hb dX4_register_27 rfl (lv_at hl 0 rfl) ?_
      refine va_get (D := D) (ci := 3) (v := .ref (z 2)) (C := RX4) (T := TX4) (N := 20) hx hb hts (by decide +kernel) hown hK hP 0 rfl rfl 2 (by decide) (hts (.fieldLink RX4 13 "TrapMachineModel" "register" "[I") (by decide +kernel)) (fun _ h9 => h9) rfl dX4_register_28 ?_
      refine lv_iload_n hx hb dX4_register_31 rfl (lv_at hl 1 rfl) ?_
      refine q_iald (j := (ix a1)) (x9 := (w.2.2.1 (ix a1))) hx hb hK hP 2 0 rfl rfl (out_reg c_7 c_24) rfl rfl dX4_register_32 ?_
      refine lv_goto (tgt := 61) hx hb dX4_register_33 (by decide) ?_
      exact W.iret (v := (w.2.2.1 (ix a1))) hx hb hr (wr_end (congrArg (fun t9 : Int32 × MD => some (Value.int t9.1)) ((show fX4_register w a1 = ((w.2.2.1 (ix a1)), (ms0 w (0 : Int32))) from (if_pos c_7).trans ((if_neg c_24).trans rfl)).symm.trans ho)) (congrArg (fun t9 : Int32 × MD => wM k z t9.2) ((show fX4_register w a1 = ((w.2.2.1 (ix a1)), (ms0 w (0 : Int32))) from (if_pos c_7).trans ((if_neg c_24).trans rfl)).symm.trans ho)) hP hS) hS.2.2 dX4_register_61
  · refine lv_aload_n hx hb dX4_register_10 rfl (lv_at hl 0 rfl) ?_
    refine lv_iconst (v := (1 : Int32)) hx hb dX4_register_11 (by decide) ?_
    obtain ⟨o1, h_o1⟩ : ∃ o9, (fX4_refuse w (1 : Int32)) = o9 := ⟨_, rfl⟩
    refine wr_call (r := (some (.int o1.1))) (ws' := wM k z o1.2) (W.runV (C := RX4) (b := (z 0)) (As := [.int (1 : Int32)]) (rest := []) ⟨hx, hb, hml, hown, hts⟩ (kX4_refuse l D k z w (1 : Int32) o1 h_o1) (cwV 1 hts gX4_register_X4_refuse rfl rfl rfl (by decide +kernel) ⟨Nat.le_of_ble_eq_true rfl, Nat.le_of_ble_eq_true rfl⟩) (wr_preV bl_T pr_T hK hP hD (va_recv hK hP (ci := 3) (q0 := 0) rfl rfl)) rfl rfl hl.1 rfl (lv_room (Nat.le_of_ble_eq_true rfl)) dX4_register_12 ⟨Nat.zero_le _, Nat.zero_le _⟩) hP hD hS [0, 1, 2, 3, 4, 5, 6, 7, 8, 9] [] [0, 1, 2, 3, 4, 5, 6, 7, 8, 9] allM (by decide) prmM adrM (fun H locs hP hD hS => ?_)
    exact W.iret (v := o1.1) hx hb hr (wr_end (congrArg (fun t9 : Int32 × MD => some (Value.int t9.1)) ((show fX4_register w a1 = (o1.1, o1.2) from (by subst h_o1; exact (if_neg c_7).trans rfl)).symm.trans ho)) (congrArg (fun t9 : Int32 × MD => wM k z t9.2) ((show fX4_register w a1 = (o1.1, o1.2) from (by subst h_o1; exact (if_neg c_7).trans rfl)).symm.trans ho)) hP hS) hS.2.2 dX4_register_15
def fX4_control (w : MD) (a1 : Int32) : Int32 × MD :=
  if (fX4_outside a1 (0 : Int32) (17 : Int32)) = (0 : Int32) then
    ((w.2.2.2.1 (ix a1)), (ms0 w (0 : Int32)))
  else
    ((fX4_refuse w (1 : Int32)).1, (fX4_refuse w (1 : Int32)).2)
set_option maxHeartbeats 4000000 in
set_option maxRecDepth 100000 in
theorem kX4_control (l : Launch) (D : va_G) (k : Nat → ClassId) (z : Nat → Nat) (w : MD) (a1 : Int32)  (o : Int32 × (MD)) (ho : fX4_control w a1 = o) : Met l yX4_control wsX4_control { frames := 1, cells := 0, slots := 0, locals := 22 } (wr_P D vwCl (tyL k) (wM k z w) (fun _ => True) [.ref (z 0), .int a1]) (wr_Q D vwCl (some (.int o.1)) (wM k z w) (wM k z o.2)) 0 0 (in_W (wM k z w)) := by
  refine Met.ofW (cc := cX4_control) (maxL := 2) (ret := (some .int)) (by decide) rfl ?_
  intro p e s m args below meth c s₁ B hml hv0
  obtain ⟨rfl, hP, hK, hX, hD0⟩ := hv0
  have hx := B.exec
  have hb := B.bytes
  have hr := B.returns
  have hts := atoms_spec (ws := wsX4_control) B.pre
  have hown : s.vm.findClass RX4 = some m.cls := findClass_of_methodNamed B.named
  have hlocks := B.notSynchronized
  have hD : va_D (in_W (wM k z w)) (wM k z w) := wD_self hD0
  have hS : va_S (in_W (wM k z w)) s.heap s.heap [] := va_S.rf
  have hl := lv_entry ([.ref (z 0), .int a1]) (n := 2) (Nat.le_of_ble_eq_true rfl)
  rw [lg_entry_eq]
  generalize (lg_sl ([.ref (z 0), .int a1]) ++ List.replicate (2 - (lg_sl ([.ref (z 0), .int a1])).length) Slot.unset).toArray = ls at hl ⊢
  have hl : lv_has ls 2 [(0, .ref (z 0)), (1, .int a1)] := hl
  refine lv_iload_n hx hb dX4_control_0 rfl (lv_at hl 1 rfl) ?_
  refine lv_iconst (v := (0 : Int32)) hx hb dX4_control_1 (by decide) ?_
  refine lv_bipush (v := (17 : Int32)) hx hb dX4_control_2 (by decide) ?_
  refine rd_call (r := (fX4_outside a1 (0 : Int32) (17 : Int32))) (W.runS (As := [.int a1, .int (0 : Int32), .int (17 : Int32)]) (rest := []) ⟨hx, hb, hml, hown, hts⟩ (kX4_outside l a1 (0 : Int32) (17 : Int32)) (va_cwS 3 hts gX4_control_X4_outside rfl rfl rfl (by decide +kernel) ⟨Nat.le_of_ble_eq_true rfl, Nat.le_of_ble_eq_true rfl⟩) preEq rfl rfl hl.1 rfl (lv_room (Nat.le_of_ble_eq_true rfl)) dX4_control_4 ⟨Nat.zero_le _, Nat.zero_le _⟩) ?_
  refine lv_if_eq (tgt := 16) hx hb dX4_control_7 (by decide) (fun c_7 => ?_) (fun c_7 => ?_)
  · refine lv_aload_n hx hb dX4_control_16 rfl (lv_at hl 0 rfl) ?_
    refine lv_iconst (v := (0 : Int32)) hx hb dX4_control_17 (by decide) ?_
    refine va_put (D := D) (ci := 3) (v := .int (0 : Int32)) (ty := .int) (C := RX4) (T := TX4) (N := 20) hx hb hts (by decide +kernel) tyX4 tyX4_ok nmX4 hown hK hP hD hS 0 rfl rfl 0 (by decide) (hts (.fieldLink RX4 41 "TrapMachineModel" "thrown" "I") (by decide +kernel)) (fun _ h9 => h9) rfl (by decide +kernel) rfl rfl (Nat.le_of_ble_eq_true rfl) dX4_control_18 (fun H locs hP hD hS => ?_)
    have hP : va_P D vwCl (wM k z (ms0 w (0 : Int32))) H := hP
    have hD : va_D (in_W (wM k z w)) (wM k z (ms0 w (0 : Int32))) := hD
    refine lv_aload_n hx hb dX4_control_21 rfl (lv_at hl 0 rfl) ?_
    refine va_get (D := D) (ci := 3) (v := .ref (z 3)) (C := RX4) (T := TX4) (N := 20) hx hb hts (by decide +kernel) hown hK hP 0 rfl rfl 3 (by decide) (hts (.fieldLink RX4 16 "TrapMachineModel" "control" "[I") (by decide +kernel)) (fun _ h9 => h9) rfl dX4_control_22 ?_
    refine lv_iload_n hx hb dX4_control_25 rfl (lv_at hl 1 rfl) ?_
    refine q_iald (j := (ix a1)) (x9 := (w.2.2.2.1 (ix a1))) hx hb hK hP 3 0 rfl rfl (out_in (by decide) c_7) rfl rfl dX4_control_26 ?_
    exact W.iret (v := (w.2.2.2.1 (ix a1))) hx hb hr (wr_end (congrArg (fun t9 : Int32 × MD => some (Value.int t9.1)) ((show fX4_control w a1 = ((w.2.2.2.1 (ix a1)), (ms0 w (0 : Int32))) from (if_pos c_7).trans rfl).symm.trans ho)) (congrArg (fun t9 : Int32 × MD => wM k z t9.2) ((show fX4_control w a1 = ((w.2.2.2.1 (ix a1)), (ms0 w (0 : Int32))) from (if_pos c_7).trans rfl).symm.trans ho)) hP hS) hS.2.2 dX4_control_27
  · refine lv_aload_n hx hb dX4_control_10 rfl (lv_at hl 0 rfl) ?_
    refine lv_iconst (v := (1 : Int32)) hx hb dX4_control_11 (by decide) ?_
    obtain ⟨o1, h_o1⟩ : ∃ o9, (fX4_refuse w (1 : Int32)) = o9 := ⟨_, rfl⟩
    refine wr_call (r := (some (.int o1.1))) (ws' := wM k z o1.2) (W.runV (C := RX4) (b := (z 0)) (As := [.int (1 : Int32)]) (rest := []) ⟨hx, hb, hml, hown, hts⟩ (kX4_refuse l D k z w (1 : Int32) o1 h_o1) (cwV 1 hts gX4_control_X4_refuse rfl rfl rfl (by decide +kernel) ⟨Nat.le_of_ble_eq_true rfl, Nat.le_of_ble_eq_true rfl⟩) (wr_preV bl_T pr_T hK hP hD (va_recv hK hP (ci := 3) (q0 := 0) rfl rfl)) rfl rfl hl.1 rfl (lv_room (Nat.le_of_ble_eq_true rfl)) dX4_control_12 ⟨Nat.zero_le _, Nat.zero_le _⟩) hP hD hS [0, 1, 2, 3, 4, 5, 6, 7, 8, 9] [] [0, 1, 2, 3, 4, 5, 6, 7, 8, 9] allM (by decide) prmM adrM (fun H locs hP hD hS => ?_)
    exact W.iret (v := o1.1) hx hb hr (wr_end (congrArg (fun t9 : Int32 × MD => some (Value.int t9.1)) ((show fX4_control w a1 = (o1.1, o1.2) from (by subst h_o1; exact (if_neg c_7).trans rfl)).symm.trans ho)) (congrArg (fun t9 : Int32 × MD => wM k z t9.2) ((show fX4_control w a1 = (o1.1, o1.2) from (by subst h_o1; exact (if_neg c_7).trans rfl)).symm.trans ho)) hP hS) hS.2.2 dX4_control_15
def fX4_entry (w : MD) (a1 : Int32) (a2 : Int32) : Int32 × MD :=
  if (fX4_outside a1 (0 : Int32) (3 : Int32)) = (0 : Int32) then
    if (fX4_outside a2 (0 : Int32) (5 : Int32)) = (0 : Int32) then
      if a2 ≤ (3 : Int32) then
        if a2 = (0 : Int32) then
          if (w.2.2.2.2.1 (ix a1)) = (0 : Int32) then
            ((0 : Int32), (ms0 w (0 : Int32)))
          else
            ((1 : Int32), (ms0 w (0 : Int32)))
        else
          if a2 = (1 : Int32) then
            ((w.2.2.2.2.2.2.1 (ix a1)), (ms0 w (0 : Int32)))
          else
            if a2 = (2 : Int32) then
              ((w.2.2.2.2.2.2.2.1 (ix a1)), (ms0 w (0 : Int32)))
            else
              if (w.2.2.2.2.2.1 (ix a1)) = (0 : Int32) then
                ((0 : Int32), (ms0 w (0 : Int32)))
              else
                ((1 : Int32), (ms0 w (0 : Int32)))
      else
        ((w.2.2.2.2.2.2.2.2.1 (ix ((((2 : Int32) * a1) + a2) - (4 : Int32)))), (ms0 w (0 : Int32)))
    else
      ((fX4_refuse w (1 : Int32)).1, (fX4_refuse w (1 : Int32)).2)
  else
    ((fX4_refuse w (1 : Int32)).1, (fX4_refuse w (1 : Int32)).2)
set_option maxHeartbeats 4000000 in
set_option maxRecDepth 100000 in
theorem kX4_entry (l : Launch) (D : va_G) (k : Nat → ClassId) (z : Nat → Nat) (w : MD) (a1 : Int32) (a2 : Int32)  (o : Int32 × (MD)) (ho : fX4_entry w a1 a2 = o) : Met l yX4_entry wsX4_entry { frames := 1, cells := 0, slots := 0, locals := 22 } (wr_P D vwCl (tyL k) (wM k z w) (fun _ => True) [.ref (z 0), .int a1, .int a2]) (wr_Q D vwCl (some (.int o.1)) (wM k z w) (wM k z o.2)) 0 0 (in_W (wM k z w)) := by
  refine Met.ofW (cc := cX4_entry) (maxL := 3) (ret := (some .int)) (by decide) rfl ?_
  intro p e s m args below meth c s₁ B hml hv0
  obtain ⟨rfl, hP, hK, hX, hD0⟩ := hv0
  have hx := B.exec
  have hb := B.bytes
  have hr := B.returns
  have hts := atoms_spec (ws := wsX4_entry) B.pre
  have hown : s.vm.findClass RX4 = some m.cls := findClass_of_methodNamed B.named
  have hlocks := B.notSynchronized
  have hD : va_D (in_W (wM k z w)) (wM k z w) := wD_self hD0
  have hS : va_S (in_W (wM k z w)) s.heap s.heap [] := va_S.rf
  have hl := lv_entry ([.ref (z 0), .int a1, .int a2]) (n := 3) (Nat.le_of_ble_eq_true rfl)
  rw [lg_entry_eq]
  generalize (lg_sl ([.ref (z 0), .int a1, .int a2]) ++ List.replicate (3 - (lg_sl ([.ref (z 0), .int a1, .int a2])).length) Slot.unset).toArray = ls at hl ⊢
  have hl : lv_has ls 3 [(0, .ref (z 0)), (1, .int a1), (2, .int a2)] := hl
  refine lv_iload_n hx hb dX4_entry_0 rfl (lv_at hl 1 rfl) ?_
  refine lv_iconst (v := (0 : Int32)) hx hb dX4_entry_1 (by decide) ?_
  refine lv_iconst (v := (3 : Int32)) hx hb dX4_entry_2 (by decide) ?_
  refine rd_call (r := (fX4_outside a1 (0 : Int32) (3 : Int32))) (W.runS (As := [.int a1, .int (0 : Int32), .int (3 : Int32)]) (rest := []) ⟨hx, hb, hml, hown, hts⟩ (kX4_outside l a1 (0 : Int32) (3 : Int32)) (va_cwS 3 hts gX4_entry_X4_outside rfl rfl rfl (by decide +kernel) ⟨Nat.le_of_ble_eq_true rfl, Nat.le_of_ble_eq_true rfl⟩) preEq rfl rfl hl.1 rfl (lv_room (Nat.le_of_ble_eq_true rfl)) dX4_entry_3 ⟨Nat.zero_le _, Nat.zero_le _⟩) ?_
  refine lv_if_ne (tgt := 18) hx hb dX4_entry_6 (by decide) (fun c_6 => ?_) (fun c_6 => ?_)
  · refine lv_aload_n hx hb dX4_entry_18 rfl (lv_at hl 0 rfl) ?_
    refine lv_iconst (v := (1 : Int32)) hx hb dX4_entry_19 (by decide) ?_
    obtain ⟨o1, h_o1⟩ : ∃ o9, (fX4_refuse w (1 : Int32)) = o9 := ⟨_, rfl⟩
    refine wr_call (r := (some (.int o1.1))) (ws' := wM k z o1.2) (W.runV (C := RX4) (b := (z 0)) (As := [.int (1 : Int32)]) (rest := []) ⟨hx, hb, hml, hown, hts⟩ (kX4_refuse l D k z w (1 : Int32) o1 h_o1) (cwV 1 hts gX4_entry_X4_refuse rfl rfl rfl (by decide +kernel) ⟨Nat.le_of_ble_eq_true rfl, Nat.le_of_ble_eq_true rfl⟩) (wr_preV bl_T pr_T hK hP hD (va_recv hK hP (ci := 3) (q0 := 0) rfl rfl)) rfl rfl hl.1 rfl (lv_room (Nat.le_of_ble_eq_true rfl)) dX4_entry_20 ⟨Nat.zero_le _, Nat.zero_le _⟩) hP hD hS [0, 1, 2, 3, 4, 5, 6, 7, 8, 9] [] [0, 1, 2, 3, 4, 5, 6, 7, 8, 9] allM (by decide) prmM adrM (fun H locs hP hD hS => ?_)
    exact W.iret (v := o1.1) hx hb hr (wr_end (congrArg (fun t9 : Int32 × MD => some (Value.int t9.1)) ((show fX4_entry w a1 a2 = (o1.1, o1.2) from (by subst h_o1; exact (if_neg c_6).trans rfl)).symm.trans ho)) (congrArg (fun t9 : Int32 × MD => wM k z t9.2) ((show fX4_entry w a1 a2 = (o1.1, o1.2) from (by subst h_o1; exact (if_neg c_6).trans rfl)).symm.trans ho)) hP hS) hS.2.2 dX4_entry_23
  · refine lv_iload_n hx hb dX4_entry_9 rfl (lv_at hl 2 rfl) ?_
    refine lv_iconst (v := (0 : Int32)) hx hb dX4_entry_10 (by decide) ?_
    refine lv_iconst (v := (5 : Int32)) hx hb dX4_entry_11 (by decide) ?_
    refine rd_call (r := (fX4_outside a2 (0 : Int32) (5 : Int32))) (W.runS (As := [.int a2, .int (0 : Int32), .int (5 : Int32)]) (rest := []) ⟨hx, hb, hml, hown, hts⟩ (kX4_outside l a2 (0 : Int32) (5 : Int32)) (va_cwS 3 hts gX4_entry_X4_outside rfl rfl rfl (by decide +kernel) ⟨Nat.le_of_ble_eq_true rfl, Nat.le_of_ble_eq_true rfl⟩) preEq rfl rfl hl.1 rfl (lv_room (Nat.le_of_ble_eq_true rfl)) dX4_entry_12 ⟨Nat.zero_le _, Nat.zero_le _⟩) ?_
    refine lv_if_eq (tgt := 24) hx hb dX4_entry_15 (by decide) (fun c_15 => ?_) (fun c_15 => ?_)
    · refine lv_aload_n hx hb dX4_entry_24 rfl (lv_at hl 0 rfl) ?_
      refine lv_iconst (v := (0 : Int32)) hx hb dX4_entry_25 (by decide) ?_
      refine va_put (D := D) (ci := 3) (v := .int (0 : Int32)) (ty := .int) (C := RX4) (T := TX4) (N := 20) hx hb hts (by decide +kernel) tyX4 tyX4_ok nmX4 hown hK hP hD hS 0 rfl rfl 0 (by decide) (hts (.fieldLink RX4 41 "TrapMachineModel" "thrown" "I") (by decide +kernel)) (fun _ h9 => h9) rfl (by decide +kernel) rfl rfl (Nat.le_of_ble_eq_true rfl) dX4_entry_26 (fun H locs hP hD hS => ?_)
      have hP : va_P D vwCl (wM k z (ms0 w (0 : Int32))) H := hP
      have hD : va_D (in_W (wM k z w)) (wM k z (ms0 w (0 : Int32))) := hD
      refine lv_iload_n hx hb dX4_entry_29 rfl (lv_at hl 2 rfl) ?_
      refine lv_iconst (v := (3 : Int32)) hx hb dX4_entry_30 (by decide) ?_
      refine lv_icmp_le (tgt := 47) hx hb dX4_entry_31 (by decide) (fun c_31 => ?_) (fun c_31 => ?_)
      · refine lv_iload_n hx hb dX4_entry_47 rfl (lv_at hl 2 rfl) ?_
        refine lv_if_ne (tgt := 68) hx hb dX4_entry_48 (by decide) (fun c_48 => ?_) (fun c_48 => ?_)
        · refine lv_iload_n hx hb dX4_entry_68 rfl (lv_at hl 2 rfl) ?_
          refine lv_iconst (v := (1 : Int32)) hx hb dX4_entry_69 (by decide) ?_
          refine lv_icmp_ne (tgt := 82) hx hb dX4_entry_70 (by decide) (fun c_70 => ?_) (fun c_70 => ?_)
          · refine lv_iload_n hx hb dX4_entry_82 rfl (lv_at hl 2 rfl) ?_
            refine lv_iconst (v := (2 : Int32)) hx hb dX4_entry_83 (by decide) ?_
            refine lv_icmp_ne (tgt := 96) hx hb dX4_entry_84 (by decide) (fun c_84 => ?_) (fun c_84 => ?_)
            · refine lv_aload_n hx hb dX4_entry_96 rfl (lv_at hl 0 rfl) ?_
              refine va_get (D := D) (ci := 3) (v := .ref (z 6)) (C := RX4) (T := TX4) (N := 20) hx hb hts (by decide +kernel) hown hK hP 0 rfl rfl 6 (by decide) (hts (.fieldLink RX4 29 "TrapMachineModel" "global" "[Z") (by decide +kernel)) (fun _ h9 => h9) rfl dX4_entry_97 ?_
              refine lv_iload_n hx hb dX4_entry_100 rfl (lv_at hl 1 rfl) ?_
              refine q_zald (j := (ix a1)) (x9 := (w.2.2.2.2.2.1 (ix a1))) hx hb hK hP 6 2 rfl rfl (out_in (by decide) c_6) rfl rfl dX4_entry_101 ?_
              refine lv_if_eq (tgt := 109) hx hb dX4_entry_102 (by decide) (fun c_102 => ?_) (fun c_102 => ?_)
              · refine lv_iconst (v := (0 : Int32)) hx hb dX4_entry_109 (by decide) ?_
                exact W.iret (v := (0 : Int32)) hx hb hr (wr_end (congrArg (fun t9 : Int32 × MD => some (Value.int t9.1)) ((show fX4_entry w a1 a2 = ((0 : Int32), (ms0 w (0 : Int32))) from (if_pos c_6).trans ((if_pos c_15).trans ((if_pos c_31).trans ((if_neg c_48).trans ((if_neg c_70).trans ((if_neg c_84).trans ((if_pos c_102).trans rfl))))))).symm.trans ho)) (congrArg (fun t9 : Int32 × MD => wM k z t9.2) ((show fX4_entry w a1 a2 = ((0 : Int32), (ms0 w (0 : Int32))) from (if_pos c_6).trans ((if_pos c_15).trans ((if_pos c_31).trans ((if_neg c_48).trans ((if_neg c_70).trans ((if_neg c_84).trans ((if_pos c_102).trans rfl))))))).symm.trans ho)) hP hS) hS.2.2 dX4_entry_110
              · refine lv_iconst (v := (1 : Int32)) hx hb dX4_entry_105 (by decide) ?_
                refine lv_goto (tgt := 110) hx hb dX4_entry_106 (by decide) ?_
                exact W.iret (v := (1 : Int32)) hx hb hr (wr_end (congrArg (fun t9 : Int32 × MD => some (Value.int t9.1)) ((show fX4_entry w a1 a2 = ((1 : Int32), (ms0 w (0 : Int32))) from (if_pos c_6).trans ((if_pos c_15).trans ((if_pos c_31).trans ((if_neg c_48).trans ((if_neg c_70).trans ((if_neg c_84).trans ((if_neg c_102).trans rfl))))))).symm.trans ho)) (congrArg (fun t9 : Int32 × MD => wM k z t9.2) ((show fX4_entry w a1 a2 = ((1 : Int32), (ms0 w (0 : Int32))) from (if_pos c_6).trans ((if_pos c_15).trans ((if_pos c_31).trans ((if_neg c_48).trans ((if_neg c_70).trans ((if_neg c_84).trans ((if_neg c_102).trans rfl))))))).symm.trans ho)) hP hS) hS.2.2 dX4_entry_110
            · refine lv_aload_n hx hb dX4_entry_87 rfl (lv_at hl 0 rfl) ?_
              refine va_get (D := D) (ci := 3) (v := .ref (z 8)) (C := RX4) (T := TX4) (N := 20) hx hb hts (by decide +kernel) hown hK hP 0 rfl rfl 8 (by decide) (hts (.fieldLink RX4 35 "TrapMachineModel" "space" "[I") (by decide +kernel)) (fun _ h9 => h9) rfl dX4_entry_88 ?_
              refine lv_iload_n hx hb dX4_entry_91 rfl (lv_at hl 1 rfl) ?_
              refine q_iald (j := (ix a1)) (x9 := (w.2.2.2.2.2.2.2.1 (ix a1))) hx hb hK hP 8 0 rfl rfl (out_in (by decide) c_6) rfl rfl dX4_entry_92 ?_
              refine lv_goto (tgt := 110) hx hb dX4_entry_93 (by decide) ?_
              exact W.iret (v := (w.2.2.2.2.2.2.2.1 (ix a1))) hx hb hr (wr_end (congrArg (fun t9 : Int32 × MD => some (Value.int t9.1)) ((show fX4_entry w a1 a2 = ((w.2.2.2.2.2.2.2.1 (ix a1)), (ms0 w (0 : Int32))) from (if_pos c_6).trans ((if_pos c_15).trans ((if_pos c_31).trans ((if_neg c_48).trans ((if_neg c_70).trans ((if_pos c_84).trans rfl)))))).symm.trans ho)) (congrArg (fun t9 : Int32 × MD => wM k z t9.2) ((show fX4_entry w a1 a2 = ((w.2.2.2.2.2.2.2.1 (ix a1)), (ms0 w (0 : Int32))) from (if_pos c_6).trans ((if_pos c_15).trans ((if_pos c_31).trans ((if_neg c_48).trans ((if_neg c_70).trans ((if_pos c_84).trans rfl)))))).symm.trans ho)) hP hS) hS.2.2 dX4_entry_110
          · refine lv_aload_n hx hb dX4_entry_73 rfl (lv_at hl 0 rfl) ?_
            refine va_get (D := D) (ci := 3) (v := .ref (z 7)) (C := RX4) (T := TX4) (N := 20) hx hb hts (by decide +kernel) hown hK hP 0 rfl rfl 7 (by decide) (hts (.fieldLink RX4 32 "TrapMachineModel" "pair" "[I") (by decide +kernel)) (fun _ h9 => h9) rfl dX4_entry_74 ?_
            refine lv_iload_n hx hb dX4_entry_77 rfl (lv_at hl 1 rfl) ?_
            refine q_iald (j := (ix a1)) (x9 := (w.2.2.2.2.2.2.1 (ix a1))) hx hb hK hP 7 0 rfl rfl (out_in (by decide) c_6) rfl rfl dX4_entry_78 ?_
            refine lv_goto (tgt := 110) hx hb dX4_entry_79 (by decide) ?_
            exact W.iret (v := (w.2.2.2.2.2.2.1 (ix a1))) hx hb hr (wr_end (congrArg (fun t9 : Int32 × MD => some (Value.int t9.1)) ((show fX4_entry w a1 a2 = ((w.2.2.2.2.2.2.1 (ix a1)), (ms0 w (0 : Int32))) from (if_pos c_6).trans ((if_pos c_15).trans ((if_pos c_31).trans ((if_neg c_48).trans ((if_pos c_70).trans rfl))))).symm.trans ho)) (congrArg (fun t9 : Int32 × MD => wM k z t9.2) ((show fX4_entry w a1 a2 = ((w.2.2.2.2.2.2.1 (ix a1)), (ms0 w (0 : Int32))) from (if_pos c_6).trans ((if_pos c_15).trans ((if_pos c_31).trans ((if_neg c_48).trans ((if_pos c_70).trans rfl))))).symm.trans ho)) hP hS) hS.2.2 dX4_entry_110
        · refine lv_aload_n hx hb dX4_entry_51 rfl (lv_at hl 0 rfl) ?_
          refine va_get (D := D) (ci := 3) (v := .ref (z 5)) (C := RX4) (T := TX4) (N := 20) hx hb hts (by decide +kernel) hown hK hP 0 rfl rfl 5 (by decide) (hts (.fieldLink RX4 25 "TrapMachineModel" "there" "[Z") (by decide +kernel)) (fun _ h9 => h9) rfl dX4_entry_52 ?_
          refine lv_iload_n hx hb dX4_entry_55 rfl (lv_at hl 1 rfl) ?_
          refine q_zald (j := (ix a1)) (x9 := (w.2.2.2.2.1 (ix a1))) hx hb hK hP 5 2 rfl rfl (out_in (by decide) c_6) rfl rfl dX4_entry_56 ?_
          refine lv_if_eq (tgt := 64) hx hb dX4_entry_57 (by decide) (fun c_57 => ?_) (fun c_57 => ?_)
          · refine lv_iconst (v := (0 : Int32)) hx hb dX4_entry_64 (by decide) ?_
            refine lv_goto (tgt := 110) hx hb dX4_entry_65 (by decide) ?_
            exact W.iret (v := (0 : Int32)) hx hb hr (wr_end (congrArg (fun t9 : Int32 × MD => some (Value.int t9.1)) ((show fX4_entry w a1 a2 = ((0 : Int32), (ms0 w (0 : Int32))) from (if_pos c_6).trans ((if_pos c_15).trans ((if_pos c_31).trans ((if_pos c_48).trans ((if_pos c_57).trans rfl))))).symm.trans ho)) (congrArg (fun t9 : Int32 × MD => wM k z t9.2) ((show fX4_entry w a1 a2 = ((0 : Int32), (ms0 w (0 : Int32))) from (if_pos c_6).trans ((if_pos c_15).trans ((if_pos c_31).trans ((if_pos c_48).trans ((if_pos c_57).trans rfl))))).symm.trans ho)) hP hS) hS.2.2 dX4_entry_110
          · refine lv_iconst (v := (1 : Int32)) hx hb dX4_entry_60 (by decide) ?_
            refine lv_goto (tgt := 110) hx hb dX4_entry_61 (by decide) ?_
            exact W.iret (v := (1 : Int32)) hx hb hr (wr_end (congrArg (fun t9 : Int32 × MD => some (Value.int t9.1)) ((show fX4_entry w a1 a2 = ((1 : Int32), (ms0 w (0 : Int32))) from (if_pos c_6).trans ((if_pos c_15).trans ((if_pos c_31).trans ((if_pos c_48).trans ((if_neg c_57).trans rfl))))).symm.trans ho)) (congrArg (fun t9 : Int32 × MD => wM k z t9.2) ((show fX4_entry w a1 a2 = ((1 : Int32), (ms0 w (0 : Int32))) from (if_pos c_6).trans ((if_pos c_15).trans ((if_pos c_31).trans ((if_pos c_48).trans ((if_neg c_57).trans rfl))))).symm.trans ho)) hP hS) hS.2.2 dX4_entry_110
      · refine lv_aload_n hx hb dX4_entry_34 rfl (lv_at hl 0 rfl) ?_
        refine va_get (D := D) (ci := 3) (v := .ref (z 9)) (C := RX4) (T := TX4) (N := 20) hx hb hts (by decide +kernel) hown hK hP 0 rfl rfl 9 (by decide) (hts (.fieldLink RX4 38 "TrapMachineModel" "half" "[I") (by decide +kernel)) (fun _ h9 => h9) rfl dX4_entry_35 ?_
        refine lv_iconst (v := (2 : Int32)) hx hb dX4_entry_38 (by decide) ?_
        refine lv_iload_n hx hb dX4_entry_39 rfl (lv_at hl 1 rfl) ?_
        refine lv_imul hx hb dX4_entry_40 ?_
        refine lv_iload_n hx hb dX4_entry_41 rfl (lv_at hl 2 rfl) ?_
        refine lv_iadd hx hb dX4_entry_42 ?_
        refine lv_iconst (v := (4 : Int32)) hx hb dX4_entry_43 (by decide) ?_
        refine lv_isub hx hb dX4_entry_44 ?_
        refine q_iald (j := (ix ((((2 : Int32) * a1) + a2) - (4 : Int32)))) (x9 := (w.2.2.2.2.2.2.2.2.1 (ix ((((2 : Int32) * a1) + a2) - (4 : Int32))))) hx hb hK hP 9 0 rfl rfl (half_e c_6 c_15 c_31) rfl rfl dX4_entry_45 ?_
        exact W.iret (v := (w.2.2.2.2.2.2.2.2.1 (ix ((((2 : Int32) * a1) + a2) - (4 : Int32))))) hx hb hr (wr_end (congrArg (fun t9 : Int32 × MD => some (Value.int t9.1)) ((show fX4_entry w a1 a2 = ((w.2.2.2.2.2.2.2.2.1 (ix ((((2 : Int32) * a1) + a2) - (4 : Int32)))), (ms0 w (0 : Int32))) from (if_pos c_6).trans ((if_pos c_15).trans ((if_neg c_31).trans rfl))).symm.trans ho)) (congrArg (fun t9 : Int32 × MD => wM k z t9.2) ((show fX4_entry w a1 a2 = ((w.2.2.2.2.2.2.2.2.1 (ix ((((2 : Int32) * a1) + a2) - (4 : Int32)))), (ms0 w (0 : Int32))) from (if_pos c_6).trans ((if_pos c_15).trans ((if_neg c_31).trans rfl))).symm.trans ho)) hP hS) hS.2.2 dX4_entry_46
    · refine lv_aload_n hx hb dX4_entry_18 rfl (lv_at hl 0 rfl) ?_
      refine lv_iconst (v := (1 : Int32)) hx hb dX4_entry_19 (by decide) ?_
      obtain ⟨o2, h_o2⟩ : ∃ o9, (fX4_refuse w (1 : Int32)) = o9 := ⟨_, rfl⟩
      refine wr_call (r := (some (.int o2.1))) (ws' := wM k z o2.2) (W.runV (C := RX4) (b := (z 0)) (As := [.int (1 : Int32)]) (rest := []) ⟨hx, hb, hml, hown, hts⟩ (kX4_refuse l D k z w (1 : Int32) o2 h_o2) (cwV 1 hts gX4_entry_X4_refuse rfl rfl rfl (by decide +kernel) ⟨Nat.le_of_ble_eq_true rfl, Nat.le_of_ble_eq_true rfl⟩) (wr_preV bl_T pr_T hK hP hD (va_recv hK hP (ci := 3) (q0 := 0) rfl rfl)) rfl rfl hl.1 rfl (lv_room (Nat.le_of_ble_eq_true rfl)) dX4_entry_20 ⟨Nat.zero_le _, Nat.zero_le _⟩) hP hD hS [0, 1, 2, 3, 4, 5, 6, 7, 8, 9] [] [0, 1, 2, 3, 4, 5, 6, 7, 8, 9] allM (by decide) prmM adrM (fun H locs hP hD hS => ?_)
      exact W.iret (v := o2.1) hx hb hr (wr_end (congrArg (fun t9 : Int32 × MD => some (Value.int t9.1)) ((show fX4_entry w a1 a2 = (o2.1, o2.2) from (by subst h_o2; exact (if_pos c_6).trans ((if_neg c_15).trans rfl))).symm.trans ho)) (congrArg (fun t9 : Int32 × MD => wM k z t9.2) ((show fX4_entry w a1 a2 = (o2.1, o2.2) from (by subst h_o2; exact (if_pos c_6).trans ((if_neg c_15).trans rfl))).symm.trans ho)) hP hS) hS.2.2 dX4_entry_23
