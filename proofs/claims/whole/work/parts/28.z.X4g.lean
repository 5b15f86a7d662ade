def fX4_run_lp (a1 : Int32) : Nat → Nat → (MD) → Int32 × MD
  | 0, i, m9 => if a1 ≤ (nI i) then
      ((nI i), m9)
    else
      ((nI i), m9)
  | n + 1, i, m9 =>
    if a1 ≤ (nI i) then
      ((nI i), m9)
    else
      if m9.2.2.2.2.2.2.2.2.2.2.2.2.2.2.1 = (0 : Int32) then
        if m9.2.2.2.2.2.2.2.2.2.2.2.2.2.2.2.2.2.2 = (0 : Int32) then
          fX4_run_lp a1 n (i + 1) (fX4_step m9)
        else
          ((nI i), m9)
      else
        ((nI i), m9)
def fX4_run (w : MD) (a1 : Int32) : Int32 × MD :=
  fX4_run_lp a1 2000 0 (ms18 (ms0 w (0 : Int32)) (0 : Int32))
set_option maxHeartbeats 4000000 in
set_option maxRecDepth 100000 in
theorem kX4_run (l : Launch) (D : va_G) (k : Nat → ClassId) (z : Nat → Nat) (w : MD) (a1 : Int32) (hf : itMn (ms18 (ms0 w (0 : Int32)) (0 : Int32))) (o : Int32 × (MD)) (ho : fX4_run w a1 = o) : Met l yX4_run wsX4_run { frames := 6, cells := 0, slots := 0, locals := 148 } (wr_P D vwCl (tyL k) (wM k z w) (fun _ => True) [.ref (z 0), .int a1]) (wr_Q D vwCl (some (.int o.1)) (wM k z w) (wM k z o.2)) 0 0 (in_W (wM k z w)) := by
  refine Met.ofW (cc := cX4_run) (maxL := 4) (ret := (some .int)) (by decide) rfl ?_
  intro p e s m args below meth c s₁ B hml hv0
  obtain ⟨rfl, hP, hK, hX, hD0⟩ := hv0
  have hx := B.exec
  have hb := B.bytes
  have hr := B.returns
  have hts := atoms_spec (ws := wsX4_run) B.pre
  have hown : s.vm.findClass RX4 = some m.cls := findClass_of_methodNamed B.named
  have hlocks := B.notSynchronized
  have hD : va_D (in_W (wM k z w)) (wM k z w) := wD_self hD0
  have hS : va_S (in_W (wM k z w)) s.heap s.heap [] := va_S.rf
  have hl := lv_entry ([.ref (z 0), .int a1]) (n := 4) (Nat.le_of_ble_eq_true rfl)
  rw [lg_entry_eq]
  generalize (lg_sl ([.ref (z 0), .int a1]) ++ List.replicate (4 - (lg_sl ([.ref (z 0), .int a1])).length) Slot.unset).toArray = ls at hl ⊢
  have hl : lv_has ls 4 [(0, .ref (z 0)), (1, .int a1)] := hl
  have lp : ∀ (n i : Nat) (m9 : MD) (H : Heap) (locs : List Loc), i + n = 2000 → fX4_run_lp a1 n i m9 = fX4_run w a1 → va_P D vwCl (wM k z m9) H → va_D (in_W (wM k z w)) (wM k z m9) → va_S (in_W (wM k z w)) s.heap H locs → (itMn m9) → ∀ ls : Array Slot, lv_has ls 4 [(0, .ref (z 0)), (1, .int a1), (2, .int (nI i)), (3, .int (nI i))] → W p l e (headSpec wsX4_run { frames := 6, cells := 0, slots := 0, locals := 148 }).room s m ([.ref (z 0), .int a1] : List Value).toArray below meth c H locs 0 0 (MQ below (wr_Q D vwCl (some (.int o.1)) (wM k z w) (wM k z o.2)) ([.ref (z 0), .int a1] : List Value).toArray s 0 0 (in_W (wM k z w))) (F0 m 14 ls []) := by
    intro n
    induction n with
    | zero =>
      intro i m9  H locs hin heq hP hD hS hf ls hl
      refine lv_iload_n hx hb dX4_run_14 rfl (lv_at hl 3 rfl) ?_
      refine lv_iload_n hx hb dX4_run_15 rfl (lv_at hl 1 rfl) ?_
      refine lv_icmp_ge (tgt := 53) hx hb dX4_run_16 (by decide) (fun c_16 => ?_) (fun c_16 => ?_)
      · refine lv_iload_n hx hb dX4_run_53 rfl (lv_at hl 2 rfl) ?_
        exact W.iret (v := (nI i)) hx hb hr (wr_end (congrArg (fun t9 : Int32 × MD => some (Value.int t9.1)) ((show fX4_run w a1 = ((nI i), m9) from heq.symm.trans (show fX4_run_lp a1 0 i m9 = ((nI i), m9) from (if_pos c_16).trans rfl)).symm.trans ho)) (congrArg (fun t9 : Int32 × MD => wM k z t9.2) ((show fX4_run w a1 = ((nI i), m9) from heq.symm.trans (show fX4_run_lp a1 0 i m9 = ((nI i), m9) from (if_pos c_16).trans rfl)).symm.trans ho)) hP hS) hS.2.2 dX4_run_54
      · refine lv_iload_n hx hb dX4_run_19 rfl (lv_at hl 3 rfl) ?_
        refine lv_sipush (v := (2000 : Int32)) hx hb dX4_run_20 (by decide) ?_
        refine lv_icmp_ge (tgt := 53) hx hb dX4_run_23 (by decide) (fun _ => ?_) (fun c9 => absurd (m2_t (by omega)) c9)
        refine lv_iload_n hx hb dX4_run_53 rfl (lv_at hl 2 rfl) ?_
        exact W.iret (v := (nI i)) hx hb hr (wr_end (congrArg (fun t9 : Int32 × MD => some (Value.int t9.1)) ((show fX4_run w a1 = ((nI i), m9) from heq.symm.trans (show fX4_run_lp a1 0 i m9 = ((nI i), m9) from (if_neg c_16).trans rfl)).symm.trans ho)) (congrArg (fun t9 : Int32 × MD => wM k z t9.2) ((show fX4_run w a1 = ((nI i), m9) from heq.symm.trans (show fX4_run_lp a1 0 i m9 = ((nI i), m9) from (if_neg c_16).trans rfl)).symm.trans ho)) hP hS) hS.2.2 dX4_run_54
    | succ n ih =>
      intro i m9  H locs hin heq hP hD hS hf ls hl
      refine lv_iload_n hx hb dX4_run_14 rfl (lv_at hl 3 rfl) ?_
      refine lv_iload_n hx hb dX4_run_15 rfl (lv_at hl 1 rfl) ?_
      refine lv_icmp_ge (tgt := 53) hx hb dX4_run_16 (by decide) (fun c_16 => ?_) (fun c_16 => ?_)
      · refine lv_iload_n hx hb dX4_run_53 rfl (lv_at hl 2 rfl) ?_
        exact W.iret (v := (nI i)) hx hb hr (wr_end (congrArg (fun t9 : Int32 × MD => some (Value.int t9.1)) ((show fX4_run w a1 = ((nI i), m9) from heq.symm.trans (show fX4_run_lp a1 (n + 1) i m9 = ((nI i), m9) from (if_pos c_16).trans rfl)).symm.trans ho)) (congrArg (fun t9 : Int32 × MD => wM k z t9.2) ((show fX4_run w a1 = ((nI i), m9) from heq.symm.trans (show fX4_run_lp a1 (n + 1) i m9 = ((nI i), m9) from (if_pos c_16).trans rfl)).symm.trans ho)) hP hS) hS.2.2 dX4_run_54
      · refine lv_iload_n hx hb dX4_run_19 rfl (lv_at hl 3 rfl) ?_
        refine lv_sipush (v := (2000 : Int32)) hx hb dX4_run_20 (by decide) ?_
        refine lv_icmp_ge (tgt := 53) hx hb dX4_run_23 (by decide) (fun c9 => absurd c9 (m2_f (by omega))) (fun _ => ?_)
        refine lv_aload_n hx hb dX4_run_26 rfl (lv_at hl 0 rfl) ?_
        refine va_get (D := D) (ci := 3) (v := .int m9.2.2.2.2.2.2.2.2.2.2.2.2.2.2.1) (C := RX4) (T := TX4) (N := 20) hx hb hts (by decide +kernel) hown hK hP 0 rfl rfl 15 (by decide) (hts (.fieldLink RX4 148 "TrapMachineModel" "stopped" "Z") (by decide +kernel)) (fun _ h9 => h9) rfl dX4_run_27 ?_
        refine lv_if_ne (tgt := 53) hx hb dX4_run_30 (by decide) (fun c_30 => ?_) (fun c_30 => ?_)
        · refine lv_iload_n hx hb dX4_run_53 rfl (lv_at hl 2 rfl) ?_
          exact W.iret (v := (nI i)) hx hb hr (wr_end (congrArg (fun t9 : Int32 × MD => some (Value.int t9.1)) ((show fX4_run w a1 = ((nI i), m9) from heq.symm.trans (show fX4_run_lp a1 (n + 1) i m9 = ((nI i), m9) from (if_neg c_16).trans ((if_neg c_30).trans rfl))).symm.trans ho)) (congrArg (fun t9 : Int32 × MD => wM k z t9.2) ((show fX4_run w a1 = ((nI i), m9) from heq.symm.trans (show fX4_run_lp a1 (n + 1) i m9 = ((nI i), m9) from (if_neg c_16).trans ((if_neg c_30).trans rfl))).symm.trans ho)) hP hS) hS.2.2 dX4_run_54
        · refine lv_aload_n hx hb dX4_run_33 rfl (lv_at hl 0 rfl) ?_
          refine va_get (D := D) (ci := 3) (v := .int m9.2.2.2.2.2.2.2.2.2.2.2.2.2.2.2.2.2.2) (C := RX4) (T := TX4) (N := 20) hx hb hts (by decide +kernel) hown hK hP 0 rfl rfl 19 (by decide) (hts (.fieldLink RX4 151 "TrapMachineModel" "raised" "Z") (by decide +kernel)) (fun _ h9 => h9) rfl dX4_run_34 ?_
          refine lv_if_ne (tgt := 53) hx hb dX4_run_37 (by decide) (fun c_37 => ?_) (fun c_37 => ?_)
          · refine lv_iload_n hx hb dX4_run_53 rfl (lv_at hl 2 rfl) ?_
            exact W.iret (v := (nI i)) hx hb hr (wr_end (congrArg (fun t9 : Int32 × MD => some (Value.int t9.1)) ((show fX4_run w a1 = ((nI i), m9) from heq.symm.trans (show fX4_run_lp a1 (n + 1) i m9 = ((nI i), m9) from (if_neg c_16).trans ((if_pos c_30).trans ((if_neg c_37).trans rfl)))).symm.trans ho)) (congrArg (fun t9 : Int32 × MD => wM k z t9.2) ((show fX4_run w a1 = ((nI i), m9) from heq.symm.trans (show fX4_run_lp a1 (n + 1) i m9 = ((nI i), m9) from (if_neg c_16).trans ((if_pos c_30).trans ((if_neg c_37).trans rfl)))).symm.trans ho)) hP hS) hS.2.2 dX4_run_54
          · refine lv_aload_n hx hb dX4_run_40 rfl (lv_at hl 0 rfl) ?_
            obtain ⟨o1, h_o1⟩ : ∃ o9, (fX4_step m9) = o9 := ⟨_, rfl⟩
            refine wr_call (r := none) (ws' := wM k z o1) (W.runV (C := RX4) (b := (z 0)) (As := []) (rest := []) ⟨hx, hb, hml, hown, hts⟩ (kX4_step l D k z m9 (hf 0 (fun _ h9 => absurd h9 (Nat.not_lt_zero _))) o1 h_o1) (cwV 0 hts gX4_run_X4_step rfl rfl rfl (by decide +kernel) ⟨Nat.le_of_ble_eq_true rfl, Nat.le_of_ble_eq_true rfl⟩) (wr_preV bl_T pr_T hK hP hD (va_recv hK hP (ci := 3) (q0 := 0) rfl rfl)) rfl rfl hl.1 rfl (lv_room (Nat.le_of_ble_eq_true rfl)) dX4_run_41 ⟨Nat.zero_le _, Nat.zero_le _⟩) hP hD hS [0, 1, 2, 3, 4, 5, 6, 7, 8, 9] [] [0, 1, 2, 3, 4, 5, 6, 7, 8, 9] allM (by decide) prmM adrM (fun H locs hP hD hS => ?_)
            refine lv_iinc (v := ((nI i) + (1 : Int32))) (lv' := [(2, .int ((nI i) + (1 : Int32))), (0, .ref (z 0)), (1, .int a1), (3, .int (nI i))]) hx hb dX4_run_44 hl (k := 2) rfl rfl (by decide) rfl (fun ls hl => ?_)
            refine lv_iinc (v := ((nI i) + (1 : Int32))) (lv' := [(3, .int ((nI i) + (1 : Int32))), (2, .int ((nI i) + (1 : Int32))), (0, .ref (z 0)), (1, .int a1)]) hx hb dX4_run_47 hl (k := 3) rfl rfl (by decide) rfl (fun ls hl => ?_)
            refine lv_goto (tgt := 14) hx hb dX4_run_50 (by decide) ?_
            exact ih (i + 1) o1  H locs (by omega) ((show fX4_run_lp a1 (n + 1) i m9 = fX4_run_lp a1 n (i + 1) o1 from (by subst h_o1; exact (if_neg c_16).trans ((if_pos c_30).trans ((if_pos c_37).trans rfl)))).symm.trans heq) hP hD hS (itMn_s h_o1 c_30 c_37 hf) ls (by rw [← nI_1 i]; exact lv_sub hl [2, 3, 1, 0] rfl)
  refine lv_aload_n hx hb dX4_run_0 rfl (lv_at hl 0 rfl) ?_
  refine lv_iconst (v := (0 : Int32)) hx hb dX4_run_1 (by decide) ?_
  refine va_put (D := D) (ci := 3) (v := .int (0 : Int32)) (ty := .int) (C := RX4) (T := TX4) (N := 20) hx hb hts (by decide +kernel) tyX4 tyX4_ok nmX4 hown hK hP hD hS 0 rfl rfl 0 (by decide) (hts (.fieldLink RX4 41 "TrapMachineModel" "thrown" "I") (by decide +kernel)) (fun _ h9 => h9) rfl (by decide +kernel) rfl rfl (Nat.le_of_ble_eq_true rfl) dX4_run_2 (fun H locs hP hD hS => ?_)
  have hP : va_P D vwCl (wM k z (ms0 w (0 : Int32))) H := hP
  have hD : va_D (in_W (wM k z w)) (wM k z (ms0 w (0 : Int32))) := hD
  obtain ⟨w1, hw1⟩ : ∃ w1 : MD, ms0 w (0 : Int32) = w1 := ⟨_, rfl⟩
  rw [hw1] at hP hD
  refine lv_iconst (v := (0 : Int32)) hx hb dX4_run_5 (by decide) ?_
  refine lv_istore_n (lv' := [(2, .int (0 : Int32)), (0, .ref (z 0)), (1, .int a1)]) hx hb dX4_run_6 rfl hl (by decide) rfl (fun ls hl => ?_)
  refine lv_aload_n hx hb dX4_run_7 rfl (lv_at hl 1 rfl) ?_
  refine lv_iconst (v := (0 : Int32)) hx hb dX4_run_8 (by decide) ?_
  refine va_put (D := D) (ci := 3) (v := .int (0 : Int32)) (ty := .boolean) (C := RX4) (T := TX4) (N := 20) hx hb hts (by decide +kernel) tyX4 tyX4_ok nmX4 hown hK hP hD hS 0 rfl rfl 19 (by decide) (hts (.fieldLink RX4 151 "TrapMachineModel" "raised" "Z") (by decide +kernel)) (fun _ h9 => h9) rfl (by decide +kernel) rfl rfl (Nat.le_of_ble_eq_true rfl) dX4_run_9 (fun H locs hP hD hS => ?_)
  have hP : va_P D vwCl (wM k z (ms18 w1 (0 : Int32))) H := hP
  have hD : va_D (in_W (wM k z w)) (wM k z (ms18 w1 (0 : Int32))) := hD
  subst hw1
  refine lv_iconst (v := (0 : Int32)) hx hb dX4_run_12 (by decide) ?_
  refine lv_istore_n (lv' := [(3, .int (0 : Int32)), (2, .int (0 : Int32)), (0, .ref (z 0)), (1, .int a1)]) hx hb dX4_run_13 rfl hl (by decide) rfl (fun ls hl => ?_)
  exact lp 2000 0 (ms18 (ms0 w (0 : Int32)) (0 : Int32)) _ _ (by omega) rfl hP hD hS hf ls (by rw [nI_0]; exact lv_sub hl [2, 3, 1, 0] rfl)
