def fX0_get (M : Nat → Nat → Int32) (a1 : Int32) (a2 : Int32) : Int32 :=
  (M (ix a1) (ix a2))
set_option maxHeartbeats 4000000 in
set_option maxRecDepth 100000 in
theorem kX0_get (l : Launch) (D : va_G) (k : Nat → ClassId) (b0 b1 : Nat) (r : Nat → Nat) (M : Nat → Nat → Int32) (a1 : Int32) (a2 : Int32) (h1 : vp_in a1 4) (h2 : vp_in a2 6) : Met l yX0_get wsX0_get { frames := 0, cells := 0, slots := 0, locals := 0 } (rd_P D vwCl (tyL k) (wB k b0 b1 r M) (fun _ => True) [.ref b0, .int a1, .int a2]) (QcRead (fX0_get M a1 a2)) 0 0 (fun _ => False) := by
  refine Met.ofW (cc := cX0_get) (maxL := 3) (ret := (some .int)) (by decide) rfl ?_
  intro p e s m args below meth c s₁ B hml hv0
  obtain ⟨rfl, hP, hK, hX⟩ := hv0
  have hx := B.exec
  have hb := B.bytes
  have hr := B.returns
  have hts := atoms_spec (ws := wsX0_get) B.pre
  have hown : s.vm.findClass RX0 = some m.cls := findClass_of_methodNamed B.named
  have hlocks := B.notSynchronized
  have hl := lv_entry ([.ref b0, .int a1, .int a2]) (n := 3) (Nat.le_of_ble_eq_true rfl)
  rw [lg_entry_eq]
  generalize (lg_sl ([.ref b0, .int a1, .int a2]) ++ List.replicate (3 - (lg_sl ([.ref b0, .int a1, .int a2])).length) Slot.unset).toArray = ls at hl ⊢
  have hl : lv_has ls 3 [(0, .ref b0), (1, .int a1), (2, .int a2)] := hl
  refine lv_aload_n hx hb dX0_get_0 rfl (lv_at hl 0 rfl) ?_
  refine va_get (D := D) (ci := 0) (v := .ref b1) (C := RX0) (T := TX0) (N := 1) hx hb hts (by decide +kernel) hown hK hP 0 rfl rfl 0 (by decide) (hts (.fieldLink RX0 11 "TrapMachine$Buffer" "parts" "[[I") (by decide +kernel)) (fun _ h9 => h9) rfl dX0_get_1 ?_
  refine lv_iload_n hx hb dX0_get_4 rfl (lv_at hl 1 rfl) ?_
  refine gd_aald (j := (ix a1)) (y := r (ix a1)) hx hb hK hP 1 1 rfl rfl h1 rfl rfl dX0_get_5 ?_
  refine lv_iload_n hx hb dX0_get_6 rfl (lv_at hl 2 rfl) ?_
  refine q_iald (j := (ix a2)) (x9 := (M (ix a1) (ix a2))) hx hb hK hP (2 + (ix a1)) 0 (gd_at (ix_ltj h1 rfl)) rfl h2 rfl rfl dX0_get_7 ?_
  exact W.iret (v := (M (ix a1) (ix a2))) hx hb hr (rd_end (show fX0_get M a1 a2 = (M (ix a1) (ix a2)) from rfl)) (fun q h => by cases h) dX0_get_8
def fX0_set (M : Nat → Nat → Int32) (a1 : Int32) (a2 : Int32) (a3 : Int32) (a4 : Int32) : Nat → Nat → Int32 :=
  if a2 = (0 : Int32) then
    (gu (gu (gu M (ix a1) 0 (0 : Int32)) (ix a1) 1 a3) (ix a1) 2 a4)
  else
    (gu (gu (gu M (ix a1) 0 (1 : Int32)) (ix a1) 1 a3) (ix a1) 2 a4)
set_option maxHeartbeats 4000000 in
set_option maxRecDepth 100000 in
theorem kX0_set (l : Launch) (D : va_G) (k : Nat → ClassId) (b0 b1 : Nat) (r : Nat → Nat) (M : Nat → Nat → Int32) (a1 : Int32) (a2 : Int32) (a3 : Int32) (a4 : Int32) (h1 : vp_in a1 4) (o : Nat → Nat → Int32) (ho : fX0_set M a1 a2 a3 a4 = o) : Met l yX0_set wsX0_set { frames := 0, cells := 0, slots := 0, locals := 0 } (wr_P D vwCl (tyL k) (wB k b0 b1 r M) (fun _ => True) [.ref b0, .int a1, .int a2, .int a3, .int a4]) (wr_Q D vwCl none (wB k b0 b1 r M) (wB k b0 b1 r o)) 0 0 (in_W (wB k b0 b1 r M)) := by
  refine Met.ofW (cc := cX0_set) (maxL := 5) (ret := none) (by decide) rfl ?_
  intro p e s m args below meth c s₁ B hml hv0
  obtain ⟨rfl, hP, hK, hX, hD0⟩ := hv0
  have hx := B.exec
  have hb := B.bytes
  have hr := B.returns
  have hts := atoms_spec (ws := wsX0_set) B.pre
  have hown : s.vm.findClass RX0 = some m.cls := findClass_of_methodNamed B.named
  have hlocks := B.notSynchronized
  have hD : va_D (in_W (wB k b0 b1 r M)) (wB k b0 b1 r M) := wD_self hD0
  have hS : va_S (in_W (wB k b0 b1 r M)) s.heap s.heap [] := va_S.rf
  have hl := lv_entry ([.ref b0, .int a1, .int a2, .int a3, .int a4]) (n := 5) (Nat.le_of_ble_eq_true rfl)
  rw [lg_entry_eq]
  generalize (lg_sl ([.ref b0, .int a1, .int a2, .int a3, .int a4]) ++ List.replicate (5 - (lg_sl ([.ref b0, .int a1, .int a2, .int a3, .int a4])).length) Slot.unset).toArray = ls at hl ⊢
  have hl : lv_has ls 5 [(0, .ref b0), (1, .int a1), (2, .int a2), (3, .int a3), (4, .int a4)] := hl
  refine lv_aload_n hx hb dX0_set_0 rfl (lv_at hl 0 rfl) ?_
  refine va_get (D := D) (ci := 0) (v := .ref b1) (C := RX0) (T := TX0) (N := 1) hx hb hts (by decide +kernel) hown hK hP 0 rfl rfl 0 (by decide) (hts (.fieldLink RX0 11 "TrapMachine$Buffer" "parts" "[[I") (by decide +kernel)) (fun _ h9 => h9) rfl dX0_set_1 ?_
  refine lv_iload_n hx hb dX0_set_4 rfl (lv_at hl 1 rfl) ?_
  refine gd_aald (j := (ix a1)) (y := r (ix a1)) hx hb hK hP 1 1 rfl rfl h1 rfl rfl dX0_set_5 ?_
  refine lv_iconst (v := (0 : Int32)) hx hb dX0_set_6 (by decide) ?_
  refine lv_iload_n hx hb dX0_set_7 rfl (lv_at hl 2 rfl) ?_
  refine lv_if_eq (tgt := 15) hx hb dX0_set_8 (by decide) (fun c_8 => ?_) (fun c_8 => ?_)
  · refine lv_iconst (v := (0 : Int32)) hx hb dX0_set_15 (by decide) ?_
    refine q_iast (j := 0) (ws' := wB k b0 b1 r (gu M (ix a1) 0 (0 : Int32))) hx hb hK hP hD hS (2 + (ix a1)) 0 (gd_at (ix_ltj h1 rfl)) rfl (vi_k (by decide)) rfl (gd_set (ix_ltj h1 rfl)) dX0_set_16 (fun H locs hP hD hS => ?_)
    refine lv_aload_n hx hb dX0_set_17 rfl (lv_at hl 0 rfl) ?_
    refine va_get (D := D) (ci := 0) (v := .ref b1) (C := RX0) (T := TX0) (N := 1) hx hb hts (by decide +kernel) hown hK hP 0 rfl rfl 0 (by decide) (hts (.fieldLink RX0 11 "TrapMachine$Buffer" "parts" "[[I") (by decide +kernel)) (fun _ h9 => h9) rfl dX0_set_18 ?_
    refine lv_iload_n hx hb dX0_set_21 rfl (lv_at hl 1 rfl) ?_
    refine gd_aald (j := (ix a1)) (y := r (ix a1)) hx hb hK hP 1 1 rfl rfl h1 rfl rfl dX0_set_22 ?_
    refine lv_iconst (v := (1 : Int32)) hx hb dX0_set_23 (by decide) ?_
    refine lv_iload_n hx hb dX0_set_24 rfl (lv_at hl 3 rfl) ?_
    refine q_iast (j := 1) (ws' := wB k b0 b1 r (gu (gu M (ix a1) 0 (0 : Int32)) (ix a1) 1 a3)) hx hb hK hP hD hS (2 + (ix a1)) 0 (gd_at (ix_ltj h1 rfl)) rfl (vi_k (by decide)) rfl (gd_set (ix_ltj h1 rfl)) dX0_set_25 (fun H locs hP hD hS => ?_)
    refine lv_aload_n hx hb dX0_set_26 rfl (lv_at hl 0 rfl) ?_
    refine va_get (D := D) (ci := 0) (v := .ref b1) (C := RX0) (T := TX0) (N := 1) hx hb hts (by decide +kernel) hown hK hP 0 rfl rfl 0 (by decide) (hts (.fieldLink RX0 11 "TrapMachine$Buffer" "parts" "[[I") (by decide +kernel)) (fun _ h9 => h9) rfl dX0_set_27 ?_
    refine lv_iload_n hx hb dX0_set_30 rfl (lv_at hl 1 rfl) ?_
    refine gd_aald (j := (ix a1)) (y := r (ix a1)) hx hb hK hP 1 1 rfl rfl h1 rfl rfl dX0_set_31 ?_
    refine lv_iconst (v := (2 : Int32)) hx hb dX0_set_32 (by decide) ?_
    refine lv_iload hx hb dX0_set_33 (lv_at hl 4 rfl) ?_
    refine q_iast (j := 2) (ws' := wB k b0 b1 r (gu (gu (gu M (ix a1) 0 (0 : Int32)) (ix a1) 1 a3) (ix a1) 2 a4)) hx hb hK hP hD hS (2 + (ix a1)) 0 (gd_at (ix_ltj h1 rfl)) rfl (vi_k (by decide)) rfl (gd_set (ix_ltj h1 rfl)) dX0_set_35 (fun H locs hP hD hS => ?_)
    exact W.vret hx hb hr (wr_end rfl (congrArg (wB k b0 b1 r) ((show fX0_set M a1 a2 a3 a4 = (gu (gu (gu M (ix a1) 0 (0 : Int32)) (ix a1) 1 a3) (ix a1) 2 a4) from (if_pos c_8).trans rfl).symm.trans ho)) hP hS) hS.2.2 dX0_set_36
  · refine lv_iconst (v := (1 : Int32)) hx hb dX0_set_11 (by decide) ?_
    refine lv_goto (tgt := 16) hx hb dX0_set_12 (by decide) ?_
    refine q_iast (j := 0) (ws' := wB k b0 b1 r (gu M (ix a1) 0 (1 : Int32))) hx hb hK hP hD hS (2 + (ix a1)) 0 (gd_at (ix_ltj h1 rfl)) rfl (vi_k (by decide)) rfl (gd_set (ix_ltj h1 rfl)) dX0_set_16 (fun H locs hP hD hS => ?_)
    refine lv_aload_n hx hb dX0_set_17 rfl (lv_at hl 0 rfl) ?_
    refine va_get (D := D) (ci := 0) (v := .ref b1) (C := RX0) (T := TX0) (N := 1) hx hb hts (by decide +kernel) hown hK hP 0 rfl rfl 0 (by decide) (hts (.fieldLink RX0 11 "TrapMachine$Buffer" "parts" "[[I") (by decide +kernel)) (fun _ h9 => h9) rfl dX0_set_18 ?_
    refine lv_iload_n hx hb dX0_set_21 rfl (lv_at hl 1 rfl) ?_
    refine gd_aald (j := (ix a1)) (y := r (ix a1)) hx hb hK hP 1 1 rfl rfl h1 rfl rfl dX0_set_22 ?_
    refine lv_iconst (v := (1 : Int32)) hx hb dX0_set_23 (by decide) ?_
    refine lv_iload_n hx hb dX0_set_24 rfl (lv_at hl 3 rfl) ?_
    refine q_iast (j := 1) (ws' := wB k b0 b1 r (gu (gu M (ix a1) 0 (1 : Int32)) (ix a1) 1 a3)) hx hb hK hP hD hS (2 + (ix a1)) 0 (gd_at (ix_ltj h1 rfl)) rfl (vi_k (by decide)) rfl (gd_set (ix_ltj h1 rfl)) dX0_set_25 (fun H locs hP hD hS => ?_)
    refine lv_aload_n hx hb dX0_set_26 rfl (lv_at hl 0 rfl) ?_
    refine va_get (D := D) (ci := 0) (v := .ref b1) (C := RX0) (T := TX0) (N := 1) hx hb hts (by decide +kernel) hown hK hP 0 rfl rfl 0 (by decide) (hts (.fieldLink RX0 11 "TrapMachine$Buffer" "parts" "[[I") (by decide +kernel)) (fun _ h9 => h9) rfl dX0_set_27 ?_
    refine lv_iload_n hx hb dX0_set_30 rfl (lv_at hl 1 rfl) ?_
    refine gd_aald (j := (ix a1)) (y := r (ix a1)) hx hb hK hP 1 1 rfl rfl h1 rfl rfl dX0_set_31 ?_
    refine lv_iconst (v := (2 : Int32)) hx hb dX0_set_32 (by decide) ?_
    refine lv_iload hx hb dX0_set_33 (lv_at hl 4 rfl) ?_
    refine q_iast (j := 2) (ws' := wB k b0 b1 r (gu (gu (gu M (ix a1) 0 (1 : Int32)) (ix a1) 1 a3) (ix a1) 2 a4)) hx hb hK hP hD hS (2 + (ix a1)) 0 (gd_at (ix_ltj h1 rfl)) rfl (vi_k (by decide)) rfl (gd_set (ix_ltj h1 rfl)) dX0_set_35 (fun H locs hP hD hS => ?_)
    exact W.vret hx hb hr (wr_end rfl (congrArg (wB k b0 b1 r) ((show fX0_set M a1 a2 a3 a4 = (gu (gu (gu M (ix a1) 0 (1 : Int32)) (ix a1) 1 a3) (ix a1) 2 a4) from (if_neg c_8).trans rfl).symm.trans ho)) hP hS) hS.2.2 dX0_set_36
def fX0_setHalves (M : Nat → Nat → Int32) (a1 : Int32) (a2 : Int32) (a3 : Int32) : Nat → Nat → Int32 :=
  if ((a2 &&& a3) &&& (16 : Int32)) = (0 : Int32) then
    (gu (gu (gu M (ix a1) 3 (0 : Int32)) (ix a1) 4 (a2 &&& (-17 : Int32))) (ix a1) 5 (a3 &&& (-17 : Int32)))
  else
    (gu (gu (gu M (ix a1) 3 (1 : Int32)) (ix a1) 4 (a2 &&& (-17 : Int32))) (ix a1) 5 (a3 &&& (-17 : Int32)))
set_option maxHeartbeats 4000000 in
set_option maxRecDepth 100000 in
theorem kX0_setHalves (l : Launch) (D : va_G) (k : Nat → ClassId) (b0 b1 : Nat) (r : Nat → Nat) (M : Nat → Nat → Int32) (a1 : Int32) (a2 : Int32) (a3 : Int32) (h1 : vp_in a1 4) (o : Nat → Nat → Int32) (ho : fX0_setHalves M a1 a2 a3 = o) : Met l yX0_setHalves wsX0_setHalves { frames := 0, cells := 0, slots := 0, locals := 0 } (wr_P D vwCl (tyL k) (wB k b0 b1 r M) (fun _ => True) [.ref b0, .int a1, .int a2, .int a3]) (wr_Q D vwCl none (wB k b0 b1 r M) (wB k b0 b1 r o)) 0 0 (in_W (wB k b0 b1 r M)) := by
  refine Met.ofW (cc := cX0_setHalves) (maxL := 4) (ret := none) (by decide) rfl ?_
  intro p e s m args below meth c s₁ B hml hv0
  obtain ⟨rfl, hP, hK, hX, hD0⟩ := hv0
  have hx := B.exec
  have hb := B.bytes
  have hr := B.returns
  have hts := atoms_spec (ws := wsX0_setHalves) B.pre
  have hown : s.vm.findClass RX0 = some m.cls := findClass_of_methodNamed B.named
  have hlocks := B.notSynchronized
  have hD : va_D (in_W (wB k b0 b1 r M)) (wB k b0 b1 r M) := wD_self hD0
  have hS : va_S (in_W (wB k b0 b1 r M)) s.heap s.heap [] := va_S.rf
  have hl := lv_entry ([.ref b0, .int a1, .int a2, .int a3]) (n := 4) (Nat.le_of_ble_eq_true rfl)
  rw [lg_entry_eq]
  generalize (lg_sl ([.ref b0, .int a1, .int a2, .int a3]) ++ List.replicate (4 - (lg_sl ([.ref b0, .int a1, .int a2, .int a3])).length) Slot.unset).toArray = ls at hl ⊢
  have hl : lv_has ls 4 [(0, .ref b0), (1, .int a1), (2, .int a2), (3, .int a3)] := hl
  refine lv_aload_n hx hb dX0_setHalves_0 rfl (lv_at hl 0 rfl) ?_
  refine va_get (D := D) (ci := 0) (v := .ref b1) (C := RX0) (T := TX0) (N := 1) hx hb hts (by decide +kernel) hown hK hP 0 rfl rfl 0 (by decide) (hts (.fieldLink RX0 11 "TrapMachine$Buffer" "parts" "[[I") (by decide +kernel)) (fun _ h9 => h9) rfl dX0_setHalves_1 ?_
  refine lv_iload_n hx hb dX0_setHalves_4 rfl (lv_at hl 1 rfl) ?_
  refine gd_aald (j := (ix a1)) (y := r (ix a1)) hx hb hK hP 1 1 rfl rfl h1 rfl rfl dX0_setHalves_5 ?_
  refine lv_iconst (v := (3 : Int32)) hx hb dX0_setHalves_6 (by decide) ?_
  refine lv_iload_n hx hb dX0_setHalves_7 rfl (lv_at hl 2 rfl) ?_
  refine lv_iload_n hx hb dX0_setHalves_8 rfl (lv_at hl 3 rfl) ?_
  refine lv_iand hx hb dX0_setHalves_9 ?_
  refine lv_bipush (v := (16 : Int32)) hx hb dX0_setHalves_10 (by decide) ?_
  refine lv_iand hx hb dX0_setHalves_12 ?_
  refine lv_if_eq (tgt := 20) hx hb dX0_setHalves_13 (by decide) (fun c_13 => ?_) (fun c_13 => ?_)
  · refine lv_iconst (v := (0 : Int32)) hx hb dX0_setHalves_20 (by decide) ?_
    refine q_iast (j := 3) (ws' := wB k b0 b1 r (gu M (ix a1) 3 (0 : Int32))) hx hb hK hP hD hS (2 + (ix a1)) 0 (gd_at (ix_ltj h1 rfl)) rfl (vi_k (by decide)) rfl (gd_set (ix_ltj h1 rfl)) dX0_setHalves_21 (fun H locs hP hD hS => ?_)
    refine lv_aload_n hx hb dX0_setHalves_22 rfl (lv_at hl 0 rfl) ?_
    refine va_get (D := D) (ci := 0) (v := .ref b1) (C := RX0) (T := TX0) (N := 1) hx hb hts (by decide +kernel) hown hK hP 0 rfl rfl 0 (by decide) (hts (.fieldLink RX0 11 "TrapMachine$Buffer" "parts" "[[I") (by decide +kernel)) (fun _ h9 => h9) rfl dX0_setHalves_23 ?_
    refine lv_iload_n hx hb dX0_setHalves_26 rfl (lv_at hl 1 rfl) ?_
    refine gd_aald (j := (ix a1)) (y := r (ix a1)) hx hb hK hP 1 1 rfl rfl h1 rfl rfl dX0_setHalves_27 ?_
    refine lv_iconst (v := (4 : Int32)) hx hb dX0_setHalves_28 (by decide) ?_
    refine lv_iload_n hx hb dX0_setHalves_29 rfl (lv_at hl 2 rfl) ?_
    refine lv_bipush (v := (-17 : Int32)) hx hb dX0_setHalves_30 (by decide) ?_
    refine lv_iand hx hb dX0_setHalves_32 ?_
    refine q_iast (j := 4) (ws' := wB k b0 b1 r (gu (gu M (ix a1) 3 (0 : Int32)) (ix a1) 4 (a2 &&& (-17 : Int32)))) hx hb hK hP hD hS (2 + (ix a1)) 0 (gd_at (ix_ltj h1 rfl)) rfl (vi_k (by decide)) rfl (gd_set (ix_ltj h1 rfl)) dX0_setHalves_33 (fun H locs hP hD hS => ?_)
    refine lv_aload_n hx hb dX0_setHalves_34 rfl (lv_at hl 0 rfl) ?_
    refine va_get (D := D) (ci := 0) (v := .ref b1) (C := RX0) (T := TX0) (N := 1) hx hb hts (by decide +kernel) hown hK hP 0 rfl rfl 0 (by decide) (hts (.fieldLink RX0 11 "TrapMachine$Buffer" "parts" "[[I") (by decide +kernel)) (fun _ h9 => h9) rfl dX0_setHalves_35 ?_
    refine lv_iload_n hx hb dX0_setHalves_38 rfl (lv_at hl 1 rfl) ?_
    refine gd_aald (j := (ix a1)) (y := r (ix a1)) hx hb hK hP 1 1 rfl rfl h1 rfl rfl dX0_setHalves_39 ?_
    refine lv_iconst (v := (5 : Int32)) hx hb dX0_setHalves_40 (by decide) ?_
    refine lv_iload_n hx hb dX0_setHalves_41 rfl (lv_at hl 3 rfl) ?_
    refine lv_bipush (v := (-17 : Int32)) hx hb dX0_setHalves_42 (by decide) ?_
    refine lv_iand hx hb dX0_setHalves_44 ?_
    refine q_iast (j := 5) (ws' := wB k b0 b1 r (gu (gu (gu M (ix a1) 3 (0 : Int32)) (ix a1) 4 (a2 &&& (-17 : Int32))) (ix a1) 5 (a3 &&& (-17 : Int32)))) hx hb hK hP hD hS (2 + (ix a1)) 0 (gd_at (ix_ltj h1 rfl)) rfl (vi_k (by decide)) rfl (gd_set (ix_ltj h1 rfl)) dX0_setHalves_45 (fun H locs hP hD hS => ?_)
    exact W.vret hx hb hr (wr_end rfl (congrArg (wB k b0 b1 r) ((show fX0_setHalves M a1 a2 a3 = (gu (gu (gu M (ix a1) 3 (0 : Int32)) (ix a1) 4 (a2 &&& (-17 : Int32))) (ix a1) 5 (a3 &&& (-17 : Int32))) from (if_pos c_13).trans rfl).symm.trans ho)) hP hS) hS.2.2 dX0_setHalves_46
  · refine lv_iconst (v := (1 : Int32)) hx hb dX0_setHalves_16 (by decide) ?_
    refine lv_goto (tgt := 21) hx hb dX0_setHalves_17 (by decide) ?_
    refine q_iast (j := 3) (ws' := wB k b0 b1 r (gu M (ix a1) 3 (1 : Int32))) hx hb hK hP hD hS (2 + (ix a1)) 0 (gd_at (ix_ltj h1 rfl)) rfl (vi_k (by decide)) rfl (gd_set (ix_ltj h1 rfl)) dX0_setHalves_21 (fun H locs hP hD hS => ?_)
    refine lv_aload_n hx hb dX0_setHalves_22 rfl (lv_at hl 0 rfl) ?_
    refine va_get (D := D) (ci := 0) (v := .ref b1) (C := RX0) (T := TX0) (N := 1) hx hb hts (by decide +kernel) hown hK hP 0 rfl rfl 0 (by decide) (hts (.fieldLink RX0 11 "TrapMachine$Buffer" "parts" "[[I") (by decide +kernel)) (fun _ h9 => h9) rfl dX0_setHalves_23 ?_
    refine lv_iload_n hx hb dX0_setHalves_26 rfl (lv_at hl 1 rfl) ?_
    refine gd_aald (j := (ix a1)) (y := r (ix a1)) hx hb hK hP 1 1 rfl rfl h1 rfl rfl dX0_setHalves_27 ?_
    refine lv_iconst (v := (4 : Int32)) hx hb dX0_setHalves_28 (by decide) ?_
    refine lv_iload_n hx hb dX0_setHalves_29 rfl (lv_at hl 2 rfl) ?_
    refine lv_bipush (v := (-17 : Int32)) hx hb dX0_setHalves_30 (by decide) ?_
    refine lv_iand hx hb dX0_setHalves_32 ?_
    refine q_iast (j := 4) (ws' := wB k b0 b1 r (gu (gu M (ix a1) 3 (1 : Int32)) (ix a1) 4 (a2 &&& (-17 : Int32)))) hx hb hK hP hD hS (2 + (ix a1)) 0 (gd_at (ix_ltj h1 rfl)) rfl (vi_k (by decide)) rfl (gd_set (ix_ltj h1 rfl)) dX0_setHalves_33 (fun H locs hP hD hS => ?_)
    refine lv_aload_n hx hb dX0_setHalves_34 rfl (lv_at hl 0 rfl) ?_
    refine va_get (D := D) (ci := 0) (v := .ref b1) (C := RX0) (T := TX0) (N := 1) hx hb hts (by decide +kernel) hown hK hP 0 rfl rfl 0 (by decide) (hts (.fieldLink RX0 11 "TrapMachine$Buffer" "parts" "[[I") (by decide +kernel)) (fun _ h9 => h9) rfl dX0_setHalves_35 ?_
    refine lv_iload_n hx hb dX0_setHalves_38 rfl (lv_at hl 1 rfl) ?_
    refine gd_aald (j := (ix a1)) (y := r (ix a1)) hx hb hK hP 1 1 rfl rfl h1 rfl rfl dX0_setHalves_39 ?_
    refine lv_iconst (v := (5 : Int32)) hx hb dX0_setHalves_40 (by decide) ?_
    refine lv_iload_n hx hb dX0_setHalves_41 rfl (lv_at hl 3 rfl) ?_
    refine lv_bipush (v := (-17 : Int32)) hx hb dX0_setHalves_42 (by decide) ?_
    refine lv_iand hx hb dX0_setHalves_44 ?_
    refine q_iast (j := 5) (ws' := wB k b0 b1 r (gu (gu (gu M (ix a1) 3 (1 : Int32)) (ix a1) 4 (a2 &&& (-17 : Int32))) (ix a1) 5 (a3 &&& (-17 : Int32)))) hx hb hK hP hD hS (2 + (ix a1)) 0 (gd_at (ix_ltj h1 rfl)) rfl (vi_k (by decide)) rfl (gd_set (ix_ltj h1 rfl)) dX0_setHalves_45 (fun H locs hP hD hS => ?_)
    exact W.vret hx hb hr (wr_end rfl (congrArg (wB k b0 b1 r) ((show fX0_setHalves M a1 a2 a3 = (gu (gu (gu M (ix a1) 3 (1 : Int32)) (ix a1) 4 (a2 &&& (-17 : Int32))) (ix a1) 5 (a3 &&& (-17 : Int32))) from (if_neg c_13).trans rfl).symm.trans ho)) hP hS) hS.2.2 dX0_setHalves_46
def fX0_isOfKind (M : Nat → Nat → Int32) (a1 : Int32) (a2 : Int32) (a3 : Int32) (a4 : Int32) : Int32 :=
  if (M (ix a1) 3) = (1 : Int32) then
    if (M (ix a1) 2) = a3 then
      if a2 = (0 : Int32) then
        (1 : Int32)
      else
        if a2 = (1 : Int32) then
          (1 : Int32)
        else
          if a2 = (2 : Int32) then
            (0 : Int32)
          else
            if a2 = (3 : Int32) then
              (0 : Int32)
            else
              (0 : Int32)
    else
      if a2 = (0 : Int32) then
        (1 : Int32)
      else
        if a2 = (1 : Int32) then
          (1 : Int32)
        else
          if a2 = (2 : Int32) then
            (0 : Int32)
          else
            if a2 = (3 : Int32) then
              (0 : Int32)
            else
              (0 : Int32)
  else
    if (M (ix a1) 2) = a3 then
      if a2 = (0 : Int32) then
        (1 : Int32)
      else
        if a2 = (1 : Int32) then
          (0 : Int32)
        else
          if a2 = (2 : Int32) then
            (1 : Int32)
          else
            if a2 = (3 : Int32) then
              (1 : Int32)
            else
              if (M (ix a1) 1) = a4 then
                (1 : Int32)
              else
                (0 : Int32)
    else
      if a2 = (0 : Int32) then
        (1 : Int32)
      else
        if a2 = (1 : Int32) then
          (0 : Int32)
        else
          if a2 = (2 : Int32) then
            (1 : Int32)
          else
            if a2 = (3 : Int32) then
              (0 : Int32)
            else
              (0 : Int32)
set_option maxHeartbeats 4000000 in
set_option maxRecDepth 100000 in
theorem kX0_isOfKind (l : Launch) (D : va_G) (k : Nat → ClassId) (b0 b1 : Nat) (r : Nat → Nat) (M : Nat → Nat → Int32) (a1 : Int32) (a2 : Int32) (a3 : Int32) (a4 : Int32) (h1 : vp_in a1 4) : Met l yX0_isOfKind wsX0_isOfKind { frames := 0, cells := 0, slots := 0, locals := 0 } (rd_P D vwCl (tyL k) (wB k b0 b1 r M) (fun _ => True) [.ref b0, .int a1, .int a2, .int a3, .int a4]) (QcRead (fX0_isOfKind M a1 a2 a3 a4)) 0 0 (fun _ => False) := by
  refine Met.ofW (cc := cX0_isOfKind) (maxL := 7) (ret := (some .boolean)) (by decide) rfl ?_
  intro p e s m args below meth c s₁ B hml hv0
  obtain ⟨rfl, hP, hK, hX⟩ := hv0
  have hx := B.exec
  have hb := B.bytes
  have hr := B.returns
  have hts := atoms_spec (ws := wsX0_isOfKind) B.pre
  have hown : s.vm.findClass RX0 = some m.cls := findClass_of_methodNamed B.named
  have hlocks := B.notSynchronized
  have hl := lv_entry ([.ref b0, .int a1, .int a2, .int a3, .int a4]) (n := 7) (Nat.le_of_ble_eq_true rfl)
  rw [lg_entry_eq]
  generalize (lg_sl ([.ref b0, .int a1, .int a2, .int a3, .int a4]) ++ List.replicate (7 - (lg_sl ([.ref b0, .int a1, .int a2, .int a3, .int a4])).length) Slot.unset).toArray = ls at hl ⊢
  have hl : lv_has ls 7 [(0, .ref b0), (1, .int a1), (2, .int a2), (3, .int a3), (4, .int a4)] := hl
  refine lv_aload_n hx hb dX0_isOfKind_0 rfl (lv_at hl 0 rfl) ?_
  refine va_get (D := D) (ci := 0) (v := .ref b1) (C := RX0) (T := TX0) (N := 1) hx hb hts (by decide +kernel) hown hK hP 0 rfl rfl 0 (by decide) (hts (.fieldLink RX0 11 "TrapMachine$Buffer" "parts" "[[I") (by decide +kernel)) (fun _ h9 => h9) rfl dX0_isOfKind_1 ?_
  refine lv_iload_n hx hb dX0_isOfKind_4 rfl (lv_at hl 1 rfl) ?_
  refine gd_aald (j := (ix a1)) (y := r (ix a1)) hx hb hK hP 1 1 rfl rfl h1 rfl rfl dX0_isOfKind_5 ?_
  refine lv_iconst (v := (3 : Int32)) hx hb dX0_isOfKind_6 (by decide) ?_
  refine q_iald (j := 3) (x9 := (M (ix a1) 3)) hx hb hK hP (2 + (ix a1)) 0 (gd_at (ix_ltj h1 rfl)) rfl (vi_k (by decide)) rfl rfl dX0_isOfKind_7 ?_
  refine lv_iconst (v := (1 : Int32)) hx hb dX0_isOfKind_8 (by decide) ?_
  refine lv_icmp_ne (tgt := 16) hx hb dX0_isOfKind_9 (by decide) (fun c_9 => ?_) (fun c_9 => ?_)
  · refine lv_iconst (v := (0 : Int32)) hx hb dX0_isOfKind_16 (by decide) ?_
    refine lv_istore (lv' := [(5, .int (0 : Int32)), (0, .ref b0), (1, .int a1), (2, .int a2), (3, .int a3), (4, .int a4)]) hx hb dX0_isOfKind_17 hl (by decide) rfl (fun ls hl => ?_)
    refine lv_aload_n hx hb dX0_isOfKind_19 rfl (lv_at hl 1 rfl) ?_
    refine va_get (D := D) (ci := 0) (v := .ref b1) (C := RX0) (T := TX0) (N := 1) hx hb hts (by decide +kernel) hown hK hP 0 rfl rfl 0 (by decide) (hts (.fieldLink RX0 11 "TrapMachine$Buffer" "parts" "[[I") (by decide +kernel)) (fun _ h9 => h9) rfl dX0_isOfKind_20 ?_
    refine lv_iload_n hx hb dX0_isOfKind_23 rfl (lv_at hl 2 rfl) ?_
    refine gd_aald (j := (ix a1)) (y := r (ix a1)) hx hb hK hP 1 1 rfl rfl h1 rfl rfl dX0_isOfKind_24 ?_
    refine lv_iconst (v := (2 : Int32)) hx hb dX0_isOfKind_25 (by decide) ?_
    refine q_iald (j := 2) (x9 := (M (ix a1) 2)) hx hb hK hP (2 + (ix a1)) 0 (gd_at (ix_ltj h1 rfl)) rfl (vi_k (by decide)) rfl rfl dX0_isOfKind_26 ?_
    refine lv_iload_n hx hb dX0_isOfKind_27 rfl (lv_at hl 4 rfl) ?_
    refine lv_icmp_ne (tgt := 35) hx hb dX0_isOfKind_28 (by decide) (fun c_28 => ?_) (fun c_28 => ?_)
    · refine lv_iconst (v := (0 : Int32)) hx hb dX0_isOfKind_35 (by decide) ?_
      refine lv_istore (lv' := [(6, .int (0 : Int32)), (5, .int (0 : Int32)), (0, .ref b0), (1, .int a1), (2, .int a2), (3, .int a3), (4, .int a4)]) hx hb dX0_isOfKind_36 hl (by decide) rfl (fun ls hl => ?_)
      refine lv_iload_n hx hb dX0_isOfKind_38 rfl (lv_at hl 4 rfl) ?_
      by_cases c_39_0 : a2 = (0 : Int32)
      · refine lv_tableIn (off := (29 : Int)) (tgt := 68) hx hb dX0_isOfKind_39 (by rw [c_39_0]; decide) (by rw [c_39_0]; decide) (by rw [c_39_0]; rfl) (by decide) ?_
        refine lv_iconst (v := (1 : Int32)) hx hb dX0_isOfKind_68 (by decide) ?_
        exact W.zret (v := (1 : Int32)) hx hb hr rfl (rd_end (show fX0_isOfKind M a1 a2 a3 a4 = (1 : Int32) from (if_neg c_9).trans ((if_neg c_28).trans ((if_pos c_39_0).trans rfl)))) (fun q h => by cases h) dX0_isOfKind_69
      · by_cases c_39_1 : a2 = (1 : Int32)
        · refine lv_tableIn (off := (31 : Int)) (tgt := 70) hx hb dX0_isOfKind_39 (by rw [c_39_1]; decide) (by rw [c_39_1]; decide) (by rw [c_39_1]; rfl) (by decide) ?_
          refine lv_iload hx hb dX0_isOfKind_70 (lv_at hl 1 rfl) ?_
          exact W.zret (v := (0 : Int32)) hx hb hr rfl (rd_end (show fX0_isOfKind M a1 a2 a3 a4 = (0 : Int32) from (if_neg c_9).trans ((if_neg c_28).trans ((if_neg c_39_0).trans ((if_pos c_39_1).trans rfl))))) (fun q h => by cases h) dX0_isOfKind_72
        · by_cases c_39_2 : a2 = (2 : Int32)
          · refine lv_tableIn (off := (34 : Int)) (tgt := 73) hx hb dX0_isOfKind_39 (by rw [c_39_2]; decide) (by rw [c_39_2]; decide) (by rw [c_39_2]; rfl) (by decide) ?_
            refine lv_iload hx hb dX0_isOfKind_73 (lv_at hl 1 rfl) ?_
            refine lv_if_ne (tgt := 82) hx hb dX0_isOfKind_75 (by decide) (fun c9 => absurd (by decide) c9) (fun _ => ?_)
            refine lv_iconst (v := (1 : Int32)) hx hb dX0_isOfKind_78 (by decide) ?_
            refine lv_goto (tgt := 83) hx hb dX0_isOfKind_79 (by decide) ?_
            exact W.zret (v := (1 : Int32)) hx hb hr rfl (rd_end (show fX0_isOfKind M a1 a2 a3 a4 = (1 : Int32) from (if_neg c_9).trans ((if_neg c_28).trans ((if_neg c_39_0).trans ((if_neg c_39_1).trans ((if_pos c_39_2).trans rfl)))))) (fun q h => by cases h) dX0_isOfKind_83
          · by_cases c_39_3 : a2 = (3 : Int32)
            · refine lv_tableIn (off := (45 : Int)) (tgt := 84) hx hb dX0_isOfKind_39 (by rw [c_39_3]; decide) (by rw [c_39_3]; decide) (by rw [c_39_3]; rfl) (by decide) ?_
              refine lv_iload hx hb dX0_isOfKind_84 (lv_at hl 1 rfl) ?_
              refine lv_if_ne (tgt := 98) hx hb dX0_isOfKind_86 (by decide) (fun c9 => absurd (by decide) c9) (fun _ => ?_)
              refine lv_iload hx hb dX0_isOfKind_89 (lv_at hl 0 rfl) ?_
              refine lv_if_eq (tgt := 98) hx hb dX0_isOfKind_91 (by decide) (fun _ => ?_) (fun c9 => absurd (by decide) c9)
              refine lv_iconst (v := (0 : Int32)) hx hb dX0_isOfKind_98 (by decide) ?_
              exact W.zret (v := (0 : Int32)) hx hb hr rfl (rd_end (show fX0_isOfKind M a1 a2 a3 a4 = (0 : Int32) from (if_neg c_9).trans ((if_neg c_28).trans ((if_neg c_39_0).trans ((if_neg c_39_1).trans ((if_neg c_39_2).trans ((if_pos c_39_3).trans rfl))))))) (fun q h => by cases h) dX0_isOfKind_99
            · refine lv_tableOut (tgt := 100) hx hb dX0_isOfKind_39 (by have n0 := lv_neT c_39_0 (show (0 : Int32).toInt = 0 by decide); have n1 := lv_neT c_39_1 (show (1 : Int32).toInt = 1 by decide); have n2 := lv_neT c_39_2 (show (2 : Int32).toInt = 2 by decide); have n3 := lv_neT c_39_3 (show (3 : Int32).toInt = 3 by decide); omega) (by decide) ?_
              refine lv_iload hx hb dX0_isOfKind_100 (lv_at hl 1 rfl) ?_
              refine lv_if_ne (tgt := 127) hx hb dX0_isOfKind_102 (by decide) (fun c9 => absurd (by decide) c9) (fun _ => ?_)
              refine lv_iload hx hb dX0_isOfKind_105 (lv_at hl 0 rfl) ?_
              refine lv_if_eq (tgt := 127) hx hb dX0_isOfKind_107 (by decide) (fun _ => ?_) (fun c9 => absurd (by decide) c9)
              refine lv_iconst (v := (0 : Int32)) hx hb dX0_isOfKind_127 (by decide) ?_
              exact W.zret (v := (0 : Int32)) hx hb hr rfl (rd_end (show fX0_isOfKind M a1 a2 a3 a4 = (0 : Int32) from (if_neg c_9).trans ((if_neg c_28).trans ((if_neg c_39_0).trans ((if_neg c_39_1).trans ((if_neg c_39_2).trans ((if_neg c_39_3).trans rfl))))))) (fun q h => by cases h) dX0_isOfKind_128
    · refine lv_iconst (v := (1 : Int32)) hx hb dX0_isOfKind_31 (by decide) ?_
      refine lv_goto (tgt := 36) hx hb dX0_isOfKind_32 (by decide) ?_
      refine lv_istore (lv' := [(6, .int (1 : Int32)), (5, .int (0 : Int32)), (0, .ref b0), (1, .int a1), (2, .int a2), (3, .int a3), (4, .int a4)]) hx hb dX0_isOfKind_36 hl (by decide) rfl (fun ls hl => ?_)
      refine lv_iload_n hx hb dX0_isOfKind_38 rfl (lv_at hl 4 rfl) ?_
      by_cases c_39_0 : a2 = (0 : Int32)
      · refine lv_tableIn (off := (29 : Int)) (tgt := 68) hx hb dX0_isOfKind_39 (by rw [c_39_0]; decide) (by rw [c_39_0]; decide) (by rw [c_39_0]; rfl) (by decide) ?_
        refine lv_iconst (v := (1 : Int32)) hx hb dX0_isOfKind_68 (by decide) ?_
        exact W.zret (v := (1 : Int32)) hx hb hr rfl (rd_end (show fX0_isOfKind M a1 a2 a3 a4 = (1 : Int32) from (if_neg c_9).trans ((if_pos c_28).trans ((if_pos c_39_0).trans rfl)))) (fun q h => by cases h) dX0_isOfKind_69
      · by_cases c_39_1 : a2 = (1 : Int32)
        · refine lv_tableIn (off := (31 : Int)) (tgt := 70) hx hb dX0_isOfKind_39 (by rw [c_39_1]; decide) (by rw [c_39_1]; decide) (by rw [c_39_1]; rfl) (by decide) ?_
          refine lv_iload hx hb dX0_isOfKind_70 (lv_at hl 1 rfl) ?_
          exact W.zret (v := (0 : Int32)) hx hb hr rfl (rd_end (show fX0_isOfKind M a1 a2 a3 a4 = (0 : Int32) from (if_neg c_9).trans ((if_pos c_28).trans ((if_neg c_39_0).trans ((if_pos c_39_1).trans rfl))))) (fun q h => by cases h) dX0_isOfKind_72
        · by_cases c_39_2 : a2 = (2 : Int32)
          · refine lv_tableIn (off := (34 : Int)) (tgt := 73) hx hb dX0_isOfKind_39 (by rw [c_39_2]; decide) (by rw [c_39_2]; decide) (by rw [c_39_2]; rfl) (by decide) ?_
            refine lv_iload hx hb dX0_isOfKind_73 (lv_at hl 1 rfl) ?_
            refine lv_if_ne (tgt := 82) hx hb dX0_isOfKind_75 (by decide) (fun c9 => absurd (by decide) c9) (fun _ => ?_)
            refine lv_iconst (v := (1 : Int32)) hx hb dX0_isOfKind_78 (by decide) ?_
            refine lv_goto (tgt := 83) hx hb dX0_isOfKind_79 (by decide) ?_
            exact W.zret (v := (1 : Int32)) hx hb hr rfl (rd_end (show fX0_isOfKind M a1 a2 a3 a4 = (1 : Int32) from (if_neg c_9).trans ((if_pos c_28).trans ((if_neg c_39_0).trans ((if_neg c_39_1).trans ((if_pos c_39_2).trans rfl)))))) (fun q h => by cases h) dX0_isOfKind_83
          · by_cases c_39_3 : a2 = (3 : Int32)
            · refine lv_tableIn (off := (45 : Int)) (tgt := 84) hx hb dX0_isOfKind_39 (by rw [c_39_3]; decide) (by rw [c_39_3]; decide) (by rw [c_39_3]; rfl) (by decide) ?_
              refine lv_iload hx hb dX0_isOfKind_84 (lv_at hl 1 rfl) ?_
              refine lv_if_ne (tgt := 98) hx hb dX0_isOfKind_86 (by decide) (fun c9 => absurd (by decide) c9) (fun _ => ?_)
              refine lv_iload hx hb dX0_isOfKind_89 (lv_at hl 0 rfl) ?_
              refine lv_if_eq (tgt := 98) hx hb dX0_isOfKind_91 (by decide) (fun c9 => absurd c9 (by decide)) (fun _ => ?_)
              refine lv_iconst (v := (1 : Int32)) hx hb dX0_isOfKind_94 (by decide) ?_
              refine lv_goto (tgt := 99) hx hb dX0_isOfKind_95 (by decide) ?_
              exact W.zret (v := (1 : Int32)) hx hb hr rfl (rd_end (show fX0_isOfKind M a1 a2 a3 a4 = (1 : Int32) from (if_neg c_9).trans ((if_pos c_28).trans ((if_neg c_39_0).trans ((if_neg c_39_1).trans ((if_neg c_39_2).trans ((if_pos c_39_3).trans rfl))))))) (fun q h => by cases h) dX0_isOfKind_99
            · refine lv_tableOut (tgt := 100) hx hb dX0_isOfKind_39 (by have n0 := lv_neT c_39_0 (show (0 : Int32).toInt = 0 by decide); have n1 := lv_neT c_39_1 (show (1 : Int32).toInt = 1 by decide); have n2 := lv_neT c_39_2 (show (2 : Int32).toInt = 2 by decide); have n3 := lv_neT c_39_3 (show (3 : Int32).toInt = 3 by decide); omega) (by decide) ?_
              refine lv_iload hx hb dX0_isOfKind_100 (lv_at hl 1 rfl) ?_
              refine lv_if_ne (tgt := 127) hx hb dX0_isOfKind_102 (by decide) (fun c9 => absurd (by decide) c9) (fun _ => ?_)
              refine lv_iload hx hb dX0_isOfKind_105 (lv_at hl 0 rfl) ?_
              refine lv_if_eq (tgt := 127) hx hb dX0_isOfKind_107 (by decide) (fun c9 => absurd c9 (by decide)) (fun _ => ?_)
              refine lv_aload_n hx hb dX0_isOfKind_110 rfl (lv_at hl 2 rfl) ?_
              refine va_get (D := D) (ci := 0) (v := .ref b1) (C := RX0) (T := TX0) (N := 1) hx hb hts (by decide +kernel) hown hK hP 0 rfl rfl 0 (by decide) (hts (.fieldLink RX0 11 "TrapMachine$Buffer" "parts" "[[I") (by decide +kernel)) (fun _ h9 => h9) rfl dX0_isOfKind_111 ?_
              refine lv_iload_n hx hb dX0_isOfKind_114 rfl (lv_at hl 3 rfl) ?_
              refine gd_aald (j := (ix a1)) (y := r (ix a1)) hx hb hK hP 1 1 rfl rfl h1 rfl rfl dX0_isOfKind_115 ?_
              refine lv_iconst (v := (1 : Int32)) hx hb dX0_isOfKind_116 (by decide) ?_
              refine q_iald (j := 1) (x9 := (M (ix a1) 1)) hx hb hK hP (2 + (ix a1)) 0 (gd_at (ix_ltj h1 rfl)) rfl (vi_k (by decide)) rfl rfl dX0_isOfKind_117 ?_
              refine lv_iload hx hb dX0_isOfKind_118 (lv_at hl 6 rfl) ?_
              refine lv_icmp_ne (tgt := 127) hx hb dX0_isOfKind_120 (by decide) (fun c_120 => ?_) (fun c_120 => ?_)
              · refine lv_iconst (v := (0 : Int32)) hx hb dX0_isOfKind_127 (by decide) ?_
                exact W.zret (v := (0 : Int32)) hx hb hr rfl (rd_end (show fX0_isOfKind M a1 a2 a3 a4 = (0 : Int32) from (if_neg c_9).trans ((if_pos c_28).trans ((if_neg c_39_0).trans ((if_neg c_39_1).trans ((if_neg c_39_2).trans ((if_neg c_39_3).trans ((if_neg c_120).trans rfl)))))))) (fun q h => by cases h) dX0_isOfKind_128
              · refine lv_iconst (v := (1 : Int32)) hx hb dX0_isOfKind_123 (by decide) ?_
                refine lv_goto (tgt := 128) hx hb dX0_isOfKind_124 (by decide) ?_
                exact W.zret (v := (1 : Int32)) hx hb hr rfl (rd_end (show fX0_isOfKind M a1 a2 a3 a4 = (1 : Int32) from (if_neg c_9).trans ((if_pos c_28).trans ((if_neg c_39_0).trans ((if_neg c_39_1).trans ((if_neg c_39_2).trans ((if_neg c_39_3).trans ((if_pos c_120).trans rfl)))))))) (fun q h => by cases h) dX0_isOfKind_128
  · refine lv_iconst (v := (1 : Int32)) hx hb dX0_isOfKind_12 (by decide) ?_
    refine lv_goto (tgt := 17) hx hb dX0_isOfKind_13 (by decide) ?_
    refine lv_istore (lv' := [(5, .int (1 : Int32)), (0, .ref b0), (1, .int a1), (2, .int a2), (3, .int a3), (4, .int a4)]) hx hb dX0_isOfKind_17 hl (by decide) rfl (fun ls hl => ?_)
    refine lv_aload_n hx hb dX0_isOfKind_19 rfl (lv_at hl 1 rfl) ?_
    refine va_get (D := D) (ci := 0) (v := .ref b1) (C := RX0) (T := TX0) (N := 1) hx hb hts (by decide +kernel) hown hK hP 0 rfl rfl 0 (by decide) (hts (.fieldLink RX0 11 "TrapMachine$Buffer" "parts" "[[I") (by decide +kernel)) (fun _ h9 => h9) rfl dX0_isOfKind_20 ?_
    refine lv_iload_n hx hb dX0_isOfKind_23 rfl (lv_at hl 2 rfl) ?_
    refine gd_aald (j := (ix a1)) (y := r (ix a1)) hx hb hK hP 1 1 rfl rfl h1 rfl rfl dX0_isOfKind_24 ?_
    refine lv_iconst (v := (2 : Int32)) hx hb dX0_isOfKind_25 (by decide) ?_
    refine q_iald (j := 2) (x9 := (M (ix a1) 2)) hx hb hK hP (2 + (ix a1)) 0 (gd_at (ix_ltj h1 rfl)) rfl (vi_k (by decide)) rfl rfl dX0_isOfKind_26 ?_
    refine lv_iload_n hx hb dX0_isOfKind_27 rfl (lv_at hl 4 rfl) ?_
    refine lv_icmp_ne (tgt := 35) hx hb dX0_isOfKind_28 (by decide) (fun c_28 => ?_) (fun c_28 => ?_)
    · refine lv_iconst (v := (0 : Int32)) hx hb dX0_isOfKind_35 (by decide) ?_
      refine lv_istore (lv' := [(6, .int (0 : Int32)), (5, .int (1 : Int32)), (0, .ref b0), (1, .int a1), (2, .int a2), (3, .int a3), (4, .int a4)]) hx hb dX0_isOfKind_36 hl (by decide) rfl (fun ls hl => ?_)
      refine lv_iload_n hx hb dX0_isOfKind_38 rfl (lv_at hl 4 rfl) ?_
      by_cases c_39_0 : a2 = (0 : Int32)
      · refine lv_tableIn (off := (29 : Int)) (tgt := 68) hx hb dX0_isOfKind_39 (by rw [c_39_0]; decide) (by rw [c_39_0]; decide) (by rw [c_39_0]; rfl) (by decide) ?_
        refine lv_iconst (v := (1 : Int32)) hx hb dX0_isOfKind_68 (by decide) ?_
        exact W.zret (v := (1 : Int32)) hx hb hr rfl (rd_end (show fX0_isOfKind M a1 a2 a3 a4 = (1 : Int32) from (if_pos c_9).trans ((if_neg c_28).trans ((if_pos c_39_0).trans rfl)))) (fun q h => by cases h) dX0_isOfKind_69
      · by_cases c_39_1 : a2 = (1 : Int32)
        · refine lv_tableIn (off := (31 : Int)) (tgt := 70) hx hb dX0_isOfKind_39 (by rw [c_39_1]; decide) (by rw [c_39_1]; decide) (by rw [c_39_1]; rfl) (by decide) ?_
          refine lv_iload hx hb dX0_isOfKind_70 (lv_at hl 1 rfl) ?_
          exact W.zret (v := (1 : Int32)) hx hb hr rfl (rd_end (show fX0_isOfKind M a1 a2 a3 a4 = (1 : Int32) from (if_pos c_9).trans ((if_neg c_28).trans ((if_neg c_39_0).trans ((if_pos c_39_1).trans rfl))))) (fun q h => by cases h) dX0_isOfKind_72
        · by_cases c_39_2 : a2 = (2 : Int32)
          · refine lv_tableIn (off := (34 : Int)) (tgt := 73) hx hb dX0_isOfKind_39 (by rw [c_39_2]; decide) (by rw [c_39_2]; decide) (by rw [c_39_2]; rfl) (by decide) ?_
            refine lv_iload hx hb dX0_isOfKind_73 (lv_at hl 1 rfl) ?_
            refine lv_if_ne (tgt := 82) hx hb dX0_isOfKind_75 (by decide) (fun _ => ?_) (fun c9 => absurd c9 (by decide))
            refine lv_iconst (v := (0 : Int32)) hx hb dX0_isOfKind_82 (by decide) ?_
            exact W.zret (v := (0 : Int32)) hx hb hr rfl (rd_end (show fX0_isOfKind M a1 a2 a3 a4 = (0 : Int32) from (if_pos c_9).trans ((if_neg c_28).trans ((if_neg c_39_0).trans ((if_neg c_39_1).trans ((if_pos c_39_2).trans rfl)))))) (fun q h => by cases h) dX0_isOfKind_83
          · by_cases c_39_3 : a2 = (3 : Int32)
            · refine lv_tableIn (off := (45 : Int)) (tgt := 84) hx hb dX0_isOfKind_39 (by rw [c_39_3]; decide) (by rw [c_39_3]; decide) (by rw [c_39_3]; rfl) (by decide) ?_
              refine lv_iload hx hb dX0_isOfKind_84 (lv_at hl 1 rfl) ?_
              refine lv_if_ne (tgt := 98) hx hb dX0_isOfKind_86 (by decide) (fun _ => ?_) (fun c9 => absurd c9 (by decide))
              refine lv_iconst (v := (0 : Int32)) hx hb dX0_isOfKind_98 (by decide) ?_
              exact W.zret (v := (0 : Int32)) hx hb hr rfl (rd_end (show fX0_isOfKind M a1 a2 a3 a4 = (0 : Int32) from (if_pos c_9).trans ((if_neg c_28).trans ((if_neg c_39_0).trans ((if_neg c_39_1).trans ((if_neg c_39_2).trans ((if_pos c_39_3).trans rfl))))))) (fun q h => by cases h) dX0_isOfKind_99
            · refine lv_tableOut (tgt := 100) hx hb dX0_isOfKind_39 (by have n0 := lv_neT c_39_0 (show (0 : Int32).toInt = 0 by decide); have n1 := lv_neT c_39_1 (show (1 : Int32).toInt = 1 by decide); have n2 := lv_neT c_39_2 (show (2 : Int32).toInt = 2 by decide); have n3 := lv_neT c_39_3 (show (3 : Int32).toInt = 3 by decide); omega) (by decide) ?_
              refine lv_iload hx hb dX0_isOfKind_100 (lv_at hl 1 rfl) ?_
              refine lv_if_ne (tgt := 127) hx hb dX0_isOfKind_102 (by decide) (fun _ => ?_) (fun c9 => absurd c9 (by decide))
              refine lv_iconst (v := (0 : Int32)) hx hb dX0_isOfKind_127 (by decide) ?_
              exact W.zret (v := (0 : Int32)) hx hb hr rfl (rd_end (show fX0_isOfKind M a1 a2 a3 a4 = (0 : Int32) from (if_pos c_9).trans ((if_neg c_28).trans ((if_neg c_39_0).trans ((if_neg c_39_1).trans ((if_neg c_39_2).trans ((if_neg c_39_3).trans rfl))))))) (fun q h => by cases h) dX0_isOfKind_128
    · refine lv_iconst (v := (1 : Int32)) hx hb dX0_isOfKind_31 (by decide) ?_
      refine lv_goto (tgt := 36) hx hb dX0_isOfKind_32 (by decide) ?_
      refine lv_istore (lv' := [(6, .int (1 : Int32)), (5, .int (1 : Int32)), (0, .ref b0), (1, .int a1), (2, .int a2), (3, .int a3), (4, .int a4)]) hx hb dX0_isOfKind_36 hl (by decide) rfl (fun ls hl => ?_)
      refine lv_iload_n hx hb dX0_isOfKind_38 rfl (lv_at hl 4 rfl) ?_
      by_cases c_39_0 : a2 = (0 : Int32)
      · refine lv_tableIn (off := (29 : Int)) (tgt := 68) hx hb dX0_isOfKind_39 (by rw [c_39_0]; decide) (by rw [c_39_0]; decide) (by rw [c_39_0]; rfl) (by decide) ?_
        refine lv_iconst (v := (1 : Int32)) hx hb dX0_isOfKind_68 (by decide) ?_
        exact W.zret (v := (1 : Int32)) hx hb hr rfl (rd_end (show fX0_isOfKind M a1 a2 a3 a4 = (1 : Int32) from (if_pos c_9).trans ((if_pos c_28).trans ((if_pos c_39_0).trans rfl)))) (fun q h => by cases h) dX0_isOfKind_69
      · by_cases c_39_1 : a2 = (1 : Int32)
        · refine lv_tableIn (off := (31 : Int)) (tgt := 70) hx hb dX0_isOfKind_39 (by rw [c_39_1]; decide) (by rw [c_39_1]; decide) (by rw [c_39_1]; rfl) (by decide) ?_
          refine lv_iload hx hb dX0_isOfKind_70 (lv_at hl 1 rfl) ?_
          exact W.zret (v := (1 : Int32)) hx hb hr rfl (rd_end (show fX0_isOfKind M a1 a2 a3 a4 = (1 : Int32) from (if_pos c_9).trans ((if_pos c_28).trans ((if_neg c_39_0).trans ((if_pos c_39_1).trans rfl))))) (fun q h => by cases h) dX0_isOfKind_72
        · by_cases c_39_2 : a2 = (2 : Int32)
          · refine lv_tableIn (off := (34 : Int)) (tgt := 73) hx hb dX0_isOfKind_39 (by rw [c_39_2]; decide) (by rw [c_39_2]; decide) (by rw [c_39_2]; rfl) (by decide) ?_
            refine lv_iload hx hb dX0_isOfKind_73 (lv_at hl 1 rfl) ?_
            refine lv_if_ne (tgt := 82) hx hb dX0_isOfKind_75 (by decide) (fun _ => ?_) (fun c9 => absurd c9 (by decide))
            refine lv_iconst (v := (0 : Int32)) hx hb dX0_isOfKind_82 (by decide) ?_
            exact W.zret (v := (0 : Int32)) hx hb hr rfl (rd_end (show fX0_isOfKind M a1 a2 a3 a4 = (0 : Int32) from (if_pos c_9).trans ((if_pos c_28).trans ((if_neg c_39_0).trans ((if_neg c_39_1).trans ((if_pos c_39_2).trans rfl)))))) (fun q h => by cases h) dX0_isOfKind_83
          · by_cases c_39_3 : a2 = (3 : Int32)
            · refine lv_tableIn (off := (45 : Int)) (tgt := 84) hx hb dX0_isOfKind_39 (by rw [c_39_3]; decide) (by rw [c_39_3]; decide) (by rw [c_39_3]; rfl) (by decide) ?_
              refine lv_iload hx hb dX0_isOfKind_84 (lv_at hl 1 rfl) ?_
              refine lv_if_ne (tgt := 98) hx hb dX0_isOfKind_86 (by decide) (fun _ => ?_) (fun c9 => absurd c9 (by decide))
              refine lv_iconst (v := (0 : Int32)) hx hb dX0_isOfKind_98 (by decide) ?_
              exact W.zret (v := (0 : Int32)) hx hb hr rfl (rd_end (show fX0_isOfKind M a1 a2 a3 a4 = (0 : Int32) from (if_pos c_9).trans ((if_pos c_28).trans ((if_neg c_39_0).trans ((if_neg c_39_1).trans ((if_neg c_39_2).trans ((if_pos c_39_3).trans rfl))))))) (fun q h => by cases h) dX0_isOfKind_99
            · refine lv_tableOut (tgt := 100) hx hb dX0_isOfKind_39 (by have n0 := lv_neT c_39_0 (show (0 : Int32).toInt = 0 by decide); have n1 := lv_neT c_39_1 (show (1 : Int32).toInt = 1 by decide); have n2 := lv_neT c_39_2 (show (2 : Int32).toInt = 2 by decide); have n3 := lv_neT c_39_3 (show (3 : Int32).toInt = 3 by decide); omega) (by decide) ?_
              refine lv_iload hx hb dX0_isOfKind_100 (lv_at hl 1 rfl) ?_
              refine lv_if_ne (tgt := 127) hx hb dX0_isOfKind_102 (by decide) (fun _ => ?_) (fun c9 => absurd c9 (by decide))
              refine lv_iconst (v := (0 : Int32)) hx hb dX0_isOfKind_127 (by decide) ?_
              exact W.zret (v := (0 : Int32)) hx hb hr rfl (rd_end (show fX0_isOfKind M a1 a2 a3 a4 = (0 : Int32) from (if_pos c_9).trans ((if_pos c_28).trans ((if_neg c_39_0).trans ((if_neg c_39_1).trans ((if_neg c_39_2).trans ((if_neg c_39_3).trans rfl))))))) (fun q h => by cases h) dX0_isOfKind_128
def fX0_find_lp (M : Nat → Nat → Int32) (a1 : Int32) (a2 : Int32) : Nat → Nat → Int32
  | 0, i => (-1 : Int32)
  | n + 1, i =>
    if (M i 3) = (1 : Int32) then
      if (M i 0) = (1 : Int32) then
        if (M i 1) = a1 then
          (nI i)
        else
          fX0_find_lp M a1 a2 n (i + 1)
      else
        fX0_find_lp M a1 a2 n (i + 1)
    else
      if (M i 2) = a2 then
        if (M i 0) = (1 : Int32) then
          if (M i 1) = a1 then
            (nI i)
          else
            fX0_find_lp M a1 a2 n (i + 1)
        else
          fX0_find_lp M a1 a2 n (i + 1)
      else
        if (M i 0) = (1 : Int32) then
          if (M i 1) = a1 then
            fX0_find_lp M a1 a2 n (i + 1)
          else
            fX0_find_lp M a1 a2 n (i + 1)
        else
          fX0_find_lp M a1 a2 n (i + 1)
def fX0_find (M : Nat → Nat → Int32) (a1 : Int32) (a2 : Int32) (a3 : Int32) : Int32 :=
  fX0_find_lp M a1 a2 (4 - ix a3) (ix a3)
set_option maxHeartbeats 4000000 in
set_option maxRecDepth 100000 in
theorem kX0_find (l : Launch) (D : va_G) (k : Nat → ClassId) (b0 b1 : Nat) (r : Nat → Nat) (M : Nat → Nat → Int32) (a1 : Int32) (a2 : Int32) (a3 : Int32) (h3 : ∃ i : Nat, i ≤ 4 ∧ a3 = nI i) : Met l yX0_find wsX0_find { frames := 0, cells := 0, slots := 0, locals := 0 } (rd_P D vwCl (tyL k) (wB k b0 b1 r M) (fun _ => True) [.ref b0, .int a1, .int a2, .int a3]) (QcRead (fX0_find M a1 a2 a3)) 0 0 (fun _ => False) := by
  refine Met.ofW (cc := cX0_find) (maxL := 7) (ret := (some .int)) (by decide) rfl ?_
  intro p e s m args below meth c s₁ B hml hv0
  obtain ⟨rfl, hP, hK, hX⟩ := hv0
  have hx := B.exec
  have hb := B.bytes
  have hr := B.returns
  have hts := atoms_spec (ws := wsX0_find) B.pre
  have hown : s.vm.findClass RX0 = some m.cls := findClass_of_methodNamed B.named
  have hlocks := B.notSynchronized
  have hl := lv_entry ([.ref b0, .int a1, .int a2, .int a3]) (n := 7) (Nat.le_of_ble_eq_true rfl)
  rw [lg_entry_eq]
  generalize (lg_sl ([.ref b0, .int a1, .int a2, .int a3]) ++ List.replicate (7 - (lg_sl ([.ref b0, .int a1, .int a2, .int a3])).length) Slot.unset).toArray = ls at hl ⊢
  have hl : lv_has ls 7 [(0, .ref b0), (1, .int a1), (2, .int a2), (3, .int a3)] := hl
  have lp : ∀ (n i : Nat), i + n = 4 → fX0_find_lp M a1 a2 n i = fX0_find M a1 a2 a3 → ∀ ls : Array Slot, lv_has ls 7 [(0, .ref b0), (1, .int a1), (2, .int a2), (4, .int (nI i))] → W p l e (headSpec wsX0_find { frames := 0, cells := 0, slots := 0, locals := 0 }).room s m ([.ref b0, .int a1, .int a2, .int a3] : List Value).toArray below meth c s.heap [] 0 0 (MQ below (QcRead (fX0_find M a1 a2 a3)) ([.ref b0, .int a1, .int a2, .int a3] : List Value).toArray s 0 0 (fun _ => False)) (F0 m 3 ls []) := by
    intro n
    induction n with
    | zero =>
      intro i hin heq ls hl
      refine lv_iload hx hb dX0_find_3 (lv_at hl 3 rfl) ?_
      refine lv_iconst (v := (3 : Int32)) hx hb dX0_find_5 (by decide) ?_
      refine lv_icmp_gt (tgt := 71) hx hb dX0_find_6 (by decide) (fun _ => ?_) (fun c9 => absurd (n4_t (by omega)) c9)
      refine lv_iconst (v := (-1 : Int32)) hx hb dX0_find_71 (by decide) ?_
      exact W.iret (v := (-1 : Int32)) hx hb hr (rd_end (show fX0_find M a1 a2 a3 = (-1 : Int32) from heq.symm.trans (show fX0_find_lp M a1 a2 0 i = (-1 : Int32) from rfl))) (fun q h => by cases h) dX0_find_72
    | succ n ih =>
      intro i hin heq ls hl
      refine lv_iload hx hb dX0_find_3 (lv_at hl 3 rfl) ?_
      refine lv_iconst (v := (3 : Int32)) hx hb dX0_find_5 (by decide) ?_
      refine lv_icmp_gt (tgt := 71) hx hb dX0_find_6 (by decide) (fun c9 => absurd c9 (n4_f (by omega))) (fun _ => ?_)
      refine lv_aload_n hx hb dX0_find_9 rfl (lv_at hl 0 rfl) ?_
      refine va_get (D := D) (ci := 0) (v := .ref b1) (C := RX0) (T := TX0) (N := 1) hx hb hts (by decide +kernel) hown hK hP 0 rfl rfl 0 (by decide) (hts (.fieldLink RX0 11 "TrapMachine$Buffer" "parts" "[[I") (by decide +kernel)) (fun _ h9 => h9) rfl dX0_find_10 ?_
      refine lv_iload hx hb dX0_find_13 (lv_at hl 3 rfl) ?_
      refine gd_aald (j := i) (y := r i) hx hb hK hP 1 1 rfl rfl (vp_in_nI (by omega) (by omega)) (ix_nI (by omega)) rfl dX0_find_15 ?_
      refine lv_astore (lv' := [(5, .ref (r i)), (0, .ref b0), (1, .int a1), (2, .int a2), (4, .int (nI i))]) hx hb dX0_find_16 hl (by decide) rfl (fun ls hl => ?_)
      refine lv_aload hx hb dX0_find_18 (lv_at hl 0 rfl) ?_
      refine lv_iconst (v := (3 : Int32)) hx hb dX0_find_20 (by decide) ?_
      refine q_iald (j := 3) (x9 := (M i 3)) hx hb hK hP (2 + i) 0 (gd_at (ix_ltj (vp_in_nI (by omega) (by omega)) (ix_nI (by omega)))) rfl (vi_k (by decide)) rfl rfl dX0_find_21 ?_
      refine lv_iconst (v := (1 : Int32)) hx hb dX0_find_22 (by decide) ?_
      refine lv_icmp_eq (tgt := 34) hx hb dX0_find_23 (by decide) (fun c_23 => ?_) (fun c_23 => ?_)
      · refine lv_iconst (v := (1 : Int32)) hx hb dX0_find_34 (by decide) ?_
        refine lv_goto (tgt := 39) hx hb dX0_find_35 (by decide) ?_
        refine lv_istore (lv' := [(6, .int (1 : Int32)), (5, .ref (r i)), (0, .ref b0), (1, .int a1), (2, .int a2), (4, .int (nI i))]) hx hb dX0_find_39 hl (by decide) rfl (fun ls hl => ?_)
        refine lv_aload hx hb dX0_find_41 (lv_at hl 1 rfl) ?_
        refine lv_iconst (v := (0 : Int32)) hx hb dX0_find_43 (by decide) ?_
        refine q_iald (j := 0) (x9 := (M i 0)) hx hb hK hP (2 + i) 0 (gd_at (ix_ltj (vp_in_nI (by omega) (by omega)) (ix_nI (by omega)))) rfl (vi_k (by decide)) rfl rfl dX0_find_44 ?_
        refine lv_iconst (v := (1 : Int32)) hx hb dX0_find_45 (by decide) ?_
        refine lv_icmp_ne (tgt := 65) hx hb dX0_find_46 (by decide) (fun c_46 => ?_) (fun c_46 => ?_)
        · refine lv_iinc (v := ((nI i) + (1 : Int32))) (lv' := [(4, .int ((nI i) + (1 : Int32))), (6, .int (1 : Int32)), (5, .ref (r i)), (0, .ref b0), (1, .int a1), (2, .int a2)]) hx hb dX0_find_65 hl (k := 5) rfl rfl (by decide) rfl (fun ls hl => ?_)
          refine lv_goto (tgt := 3) hx hb dX0_find_68 (by decide) ?_
          exact ih (i + 1) (by omega) ((show fX0_find_lp M a1 a2 (n + 1) i = fX0_find_lp M a1 a2 n (i + 1) from (if_pos c_23).trans ((if_neg c_46).trans rfl)).symm.trans heq) ls (by rw [← nI_1 i]; exact lv_sub hl [3, 4, 5, 0] rfl)
        · refine lv_aload hx hb dX0_find_49 (lv_at hl 1 rfl) ?_
          refine lv_iconst (v := (1 : Int32)) hx hb dX0_find_51 (by decide) ?_
          refine q_iald (j := 1) (x9 := (M i 1)) hx hb hK hP (2 + i) 0 (gd_at (ix_ltj (vp_in_nI (by omega) (by omega)) (ix_nI (by omega)))) rfl (vi_k (by decide)) rfl rfl dX0_find_52 ?_
          refine lv_iload_n hx hb dX0_find_53 rfl (lv_at hl 3 rfl) ?_
          refine lv_icmp_ne (tgt := 65) hx hb dX0_find_54 (by decide) (fun c_54 => ?_) (fun c_54 => ?_)
          · refine lv_iinc (v := ((nI i) + (1 : Int32))) (lv' := [(4, .int ((nI i) + (1 : Int32))), (6, .int (1 : Int32)), (5, .ref (r i)), (0, .ref b0), (1, .int a1), (2, .int a2)]) hx hb dX0_find_65 hl (k := 5) rfl rfl (by decide) rfl (fun ls hl => ?_)
            refine lv_goto (tgt := 3) hx hb dX0_find_68 (by decide) ?_
            exact ih (i + 1) (by omega) ((show fX0_find_lp M a1 a2 (n + 1) i = fX0_find_lp M a1 a2 n (i + 1) from (if_pos c_23).trans ((if_pos c_46).trans ((if_neg c_54).trans rfl))).symm.trans heq) ls (by rw [← nI_1 i]; exact lv_sub hl [3, 4, 5, 0] rfl)
          · refine lv_iload hx hb dX0_find_57 (lv_at hl 0 rfl) ?_
            refine lv_if_eq (tgt := 65) hx hb dX0_find_59 (by decide) (fun c9 => absurd c9 (by decide)) (fun _ => ?_)
            refine lv_iload hx hb dX0_find_62 (lv_at hl 5 rfl) ?_
            exact W.iret (v := (nI i)) hx hb hr (rd_end (show fX0_find M a1 a2 a3 = (nI i) from heq.symm.trans (show fX0_find_lp M a1 a2 (n + 1) i = (nI i) from (if_pos c_23).trans ((if_pos c_46).trans ((if_pos c_54).trans rfl))))) (fun q h => by cases h) dX0_find_64
      · refine lv_aload hx hb dX0_find_26 (lv_at hl 0 rfl) ?_
        refine lv_iconst (v := (2 : Int32)) hx hb dX0_find_28 (by decide) ?_
        refine q_iald (j := 2) (x9 := (M i 2)) hx hb hK hP (2 + i) 0 (gd_at (ix_ltj (vp_in_nI (by omega) (by omega)) (ix_nI (by omega)))) rfl (vi_k (by decide)) rfl rfl dX0_find_29 ?_
        refine lv_iload_n hx hb dX0_find_30 rfl (lv_at hl 3 rfl) ?_
        refine lv_icmp_ne (tgt := 38) hx hb dX0_find_31 (by decide) (fun c_31 => ?_) (fun c_31 => ?_)
        · refine lv_iconst (v := (0 : Int32)) hx hb dX0_find_38 (by decide) ?_
          refine lv_istore (lv' := [(6, .int (0 : Int32)), (5, .ref (r i)), (0, .ref b0), (1, .int a1), (2, .int a2), (4, .int (nI i))]) hx hb dX0_find_39 hl (by decide) rfl (fun ls hl => ?_)
          refine lv_aload hx hb dX0_find_41 (lv_at hl 1 rfl) ?_
          refine lv_iconst (v := (0 : Int32)) hx hb dX0_find_43 (by decide) ?_
          refine q_iald (j := 0) (x9 := (M i 0)) hx hb hK hP (2 + i) 0 (gd_at (ix_ltj (vp_in_nI (by omega) (by omega)) (ix_nI (by omega)))) rfl (vi_k (by decide)) rfl rfl dX0_find_44 ?_
          refine lv_iconst (v := (1 : Int32)) hx hb dX0_find_45 (by decide) ?_
          refine lv_icmp_ne (tgt := 65) hx hb dX0_find_46 (by decide) (fun c_46 => ?_) (fun c_46 => ?_)
          · refine lv_iinc (v := ((nI i) + (1 : Int32))) (lv' := [(4, .int ((nI i) + (1 : Int32))), (6, .int (0 : Int32)), (5, .ref (r i)), (0, .ref b0), (1, .int a1), (2, .int a2)]) hx hb dX0_find_65 hl (k := 5) rfl rfl (by decide) rfl (fun ls hl => ?_)
            refine lv_goto (tgt := 3) hx hb dX0_find_68 (by decide) ?_
            exact ih (i + 1) (by omega) ((show fX0_find_lp M a1 a2 (n + 1) i = fX0_find_lp M a1 a2 n (i + 1) from (if_neg c_23).trans ((if_neg c_31).trans ((if_neg c_46).trans rfl))).symm.trans heq) ls (by rw [← nI_1 i]; exact lv_sub hl [3, 4, 5, 0] rfl)
          · refine lv_aload hx hb dX0_find_49 (lv_at hl 1 rfl) ?_
            refine lv_iconst (v := (1 : Int32)) hx hb dX0_find_51 (by decide) ?_
            refine q_iald (j := 1) (x9 := (M i 1)) hx hb hK hP (2 + i) 0 (gd_at (ix_ltj (vp_in_nI (by omega) (by omega)) (ix_nI (by omega)))) rfl (vi_k (by decide)) rfl rfl dX0_find_52 ?_
            refine lv_iload_n hx hb dX0_find_53 rfl (lv_at hl 3 rfl) ?_
            refine lv_icmp_ne (tgt := 65) hx hb dX0_find_54 (by decide) (fun c_54 => ?_) (fun c_54 => ?_)
            · refine lv_iinc (v := ((nI i) + (1 : Int32))) (lv' := [(4, .int ((nI i) + (1 : Int32))), (6, .int (0 : Int32)), (5, .ref (r i)), (0, .ref b0), (1, .int a1), (2, .int a2)]) hx hb dX0_find_65 hl (k := 5) rfl rfl (by decide) rfl (fun ls hl => ?_)
              refine lv_goto (tgt := 3) hx hb dX0_find_68 (by decide) ?_
              exact ih (i + 1) (by omega) ((show fX0_find_lp M a1 a2 (n + 1) i = fX0_find_lp M a1 a2 n (i + 1) from (if_neg c_23).trans ((if_neg c_31).trans ((if_pos c_46).trans ((if_neg c_54).trans rfl)))).symm.trans heq) ls (by rw [← nI_1 i]; exact lv_sub hl [3, 4, 5, 0] rfl)
            · refine lv_iload hx hb dX0_find_57 (lv_at hl 0 rfl) ?_
              refine lv_if_eq (tgt := 65) hx hb dX0_find_59 (by decide) (fun _ => ?_) (fun c9 => absurd (by decide) c9)
              refine lv_iinc (v := ((nI i) + (1 : Int32))) (lv' := [(4, .int ((nI i) + (1 : Int32))), (6, .int (0 : Int32)), (5, .ref (r i)), (0, .ref b0), (1, .int a1), (2, .int a2)]) hx hb dX0_find_65 hl (k := 5) rfl rfl (by decide) rfl (fun ls hl => ?_)
              refine lv_goto (tgt := 3) hx hb dX0_find_68 (by decide) ?_
              exact ih (i + 1) (by omega) ((show fX0_find_lp M a1 a2 (n + 1) i = fX0_find_lp M a1 a2 n (i + 1) from (if_neg c_23).trans ((if_neg c_31).trans ((if_pos c_46).trans ((if_pos c_54).trans rfl)))).symm.trans heq) ls (by rw [← nI_1 i]; exact lv_sub hl [3, 4, 5, 0] rfl)
        · refine lv_iconst (v := (1 : Int32)) hx hb dX0_find_34 (by decide) ?_
          refine lv_goto (tgt := 39) hx hb dX0_find_35 (by decide) ?_
          refine lv_istore (lv' := [(6, .int (1 : Int32)), (5, .ref (r i)), (0, .ref b0), (1, .int a1), (2, .int a2), (4, .int (nI i))]) hx hb dX0_find_39 hl (by decide) rfl (fun ls hl => ?_)
          refine lv_aload hx hb dX0_find_41 (lv_at hl 1 rfl) ?_
          refine lv_iconst (v := (0 : Int32)) hx hb dX0_find_43 (by decide) ?_
          refine q_iald (j := 0) (x9 := (M i 0)) hx hb hK hP (2 + i) 0 (gd_at (ix_ltj (vp_in_nI (by omega) (by omega)) (ix_nI (by omega)))) rfl (vi_k (by decide)) rfl rfl dX0_find_44 ?_
          refine lv_iconst (v := (1 : Int32)) hx hb dX0_find_45 (by decide) ?_
          refine lv_icmp_ne (tgt := 65) hx hb dX0_find_46 (by decide) (fun c_46 => ?_) (fun c_46 => ?_)
          · refine lv_iinc (v := ((nI i) + (1 : Int32))) (lv' := [(4, .int ((nI i) + (1 : Int32))), (6, .int (1 : Int32)), (5, .ref (r i)), (0, .ref b0), (1, .int a1), (2, .int a2)]) hx hb dX0_find_65 hl (k := 5) rfl rfl (by decide) rfl (fun ls hl => ?_)
            refine lv_goto (tgt := 3) hx hb dX0_find_68 (by decide) ?_
            exact ih (i + 1) (by omega) ((show fX0_find_lp M a1 a2 (n + 1) i = fX0_find_lp M a1 a2 n (i + 1) from (if_neg c_23).trans ((if_pos c_31).trans ((if_neg c_46).trans rfl))).symm.trans heq) ls (by rw [← nI_1 i]; exact lv_sub hl [3, 4, 5, 0] rfl)
          · refine lv_aload hx hb dX0_find_49 (lv_at hl 1 rfl) ?_
            refine lv_iconst (v := (1 : Int32)) hx hb dX0_find_51 (by decide) ?_
            refine q_iald (j := 1) (x9 := (M i 1)) hx hb hK hP (2 + i) 0 (gd_at (ix_ltj (vp_in_nI (by omega) (by omega)) (ix_nI (by omega)))) rfl (vi_k (by decide)) rfl rfl dX0_find_52 ?_
            refine lv_iload_n hx hb dX0_find_53 rfl (lv_at hl 3 rfl) ?_
            refine lv_icmp_ne (tgt := 65) hx hb dX0_find_54 (by decide) (fun c_54 => ?_) (fun c_54 => ?_)
            · refine lv_iinc (v := ((nI i) + (1 : Int32))) (lv' := [(4, .int ((nI i) + (1 : Int32))), (6, .int (1 : Int32)), (5, .ref (r i)), (0, .ref b0), (1, .int a1), (2, .int a2)]) hx hb dX0_find_65 hl (k := 5) rfl rfl (by decide) rfl (fun ls hl => ?_)
              refine lv_goto (tgt := 3) hx hb dX0_find_68 (by decide) ?_
              exact ih (i + 1) (by omega) ((show fX0_find_lp M a1 a2 (n + 1) i = fX0_find_lp M a1 a2 n (i + 1) from (if_neg c_23).trans ((if_pos c_31).trans ((if_pos c_46).trans ((if_neg c_54).trans rfl)))).symm.trans heq) ls (by rw [← nI_1 i]; exact lv_sub hl [3, 4, 5, 0] rfl)
            · refine lv_iload hx hb dX0_find_57 (lv_at hl 0 rfl) ?_
              refine lv_if_eq (tgt := 65) hx hb dX0_find_59 (by decide) (fun c9 => absurd c9 (by decide)) (fun _ => ?_)
              refine lv_iload hx hb dX0_find_62 (lv_at hl 5 rfl) ?_
              exact W.iret (v := (nI i)) hx hb hr (rd_end (show fX0_find M a1 a2 a3 = (nI i) from heq.symm.trans (show fX0_find_lp M a1 a2 (n + 1) i = (nI i) from (if_neg c_23).trans ((if_pos c_31).trans ((if_pos c_46).trans ((if_pos c_54).trans rfl)))))) (fun q h => by cases h) dX0_find_64
  obtain ⟨i0, hi0, e3⟩ := h3
  refine lv_iload_n hx hb dX0_find_0 rfl (lv_at hl 3 rfl) ?_
  refine lv_istore (lv' := [(4, .int a3), (0, .ref b0), (1, .int a1), (2, .int a2), (3, .int a3)]) hx hb dX0_find_1 hl (by decide) rfl (fun ls hl => ?_)
  exact lp (4 - i0) i0 (by omega) (by show fX0_find_lp M a1 a2 (4 - i0) i0 = fX0_find_lp M a1 a2 (4 - ix a3) (ix a3); rw [e3, ix_nI (by omega)]) ls (by rw [← e3]; exact lv_sub hl [1, 2, 3, 0] rfl)
def fX0_empty_lp (a1 : Int32) (a2 : Int32) (a3 : Int32) : Nat → Nat → (Nat → Nat → Int32) → Nat → Nat → Int32
  | 0, i, m9 => m9
  | n + 1, i, m9 =>
    if (fX0_isOfKind m9 (nI i) a1 a2 a3) = (0 : Int32) then
      fX0_empty_lp a1 a2 a3 n (i + 1) m9
    else
      fX0_empty_lp a1 a2 a3 n (i + 1) (gu m9 i 0 (0 : Int32))
def fX0_empty (M : Nat → Nat → Int32) (a1 : Int32) (a2 : Int32) (a3 : Int32) : Nat → Nat → Int32 :=
  fX0_empty_lp a1 a2 a3 4 0 M
set_option maxHeartbeats 4000000 in
set_option maxRecDepth 100000 in
theorem kX0_empty (l : Launch) (D : va_G) (k : Nat → ClassId) (b0 b1 : Nat) (r : Nat → Nat) (M : Nat → Nat → Int32) (a1 : Int32) (a2 : Int32) (a3 : Int32)  (o : Nat → Nat → Int32) (ho : fX0_empty M a1 a2 a3 = o) : Met l yX0_empty wsX0_empty { frames := 1, cells := 0, slots := 0, locals := 26 } (wr_P D vwCl (tyL k) (wB k b0 b1 r M) (fun _ => True) [.ref b0, .int a1, .int a2, .int a3]) (wr_Q D vwCl none (wB k b0 b1 r M) (wB k b0 b1 r o)) 0 0 (in_W (wB k b0 b1 r M)) := by
  refine Met.ofW (cc := cX0_empty) (maxL := 5) (ret := none) (by decide) rfl ?_
  intro p e s m args below meth c s₁ B hml hv0
  obtain ⟨rfl, hP, hK, hX, hD0⟩ := hv0
  have hx := B.exec
  have hb := B.bytes
  have hr := B.returns
  have hts := atoms_spec (ws := wsX0_empty) B.pre
  have hown : s.vm.findClass RX0 = some m.cls := findClass_of_methodNamed B.named
  have hlocks := B.notSynchronized
  have hD : va_D (in_W (wB k b0 b1 r M)) (wB k b0 b1 r M) := wD_self hD0
  have hS : va_S (in_W (wB k b0 b1 r M)) s.heap s.heap [] := va_S.rf
  have hl := lv_entry ([.ref b0, .int a1, .int a2, .int a3]) (n := 5) (Nat.le_of_ble_eq_true rfl)
  rw [lg_entry_eq]
  generalize (lg_sl ([.ref b0, .int a1, .int a2, .int a3]) ++ List.replicate (5 - (lg_sl ([.ref b0, .int a1, .int a2, .int a3])).length) Slot.unset).toArray = ls at hl ⊢
  have hl : lv_has ls 5 [(0, .ref b0), (1, .int a1), (2, .int a2), (3, .int a3)] := hl
  have lp : ∀ (n i : Nat) (m9 : Nat → Nat → Int32) (H : Heap) (locs : List Loc), i + n = 4 → fX0_empty_lp a1 a2 a3 n i m9 = fX0_empty M a1 a2 a3 → va_P D vwCl (wB k b0 b1 r m9) H → va_D (in_W (wB k b0 b1 r M)) (wB k b0 b1 r m9) → va_S (in_W (wB k b0 b1 r M)) s.heap H locs → ∀ ls : Array Slot, lv_has ls 5 [(0, .ref b0), (1, .int a1), (2, .int a2), (3, .int a3), (4, .int (nI i))] → W p l e (headSpec wsX0_empty { frames := 1, cells := 0, slots := 0, locals := 26 }).room s m ([.ref b0, .int a1, .int a2, .int a3] : List Value).toArray below meth c H locs 0 0 (MQ below (wr_Q D vwCl none (wB k b0 b1 r M) (wB k b0 b1 r o)) ([.ref b0, .int a1, .int a2, .int a3] : List Value).toArray s 0 0 (in_W (wB k b0 b1 r M))) (F0 m 3 ls []) := by
    intro n
    induction n with
    | zero =>
      intro i m9  H locs hin heq hP hD hS  ls hl
      refine lv_iload hx hb dX0_empty_3 (lv_at hl 4 rfl) ?_
      refine lv_iconst (v := (3 : Int32)) hx hb dX0_empty_5 (by decide) ?_
      refine lv_icmp_gt (tgt := 37) hx hb dX0_empty_6 (by decide) (fun _ => ?_) (fun c9 => absurd (n4_t (by omega)) c9)
      exact W.vret hx hb hr (wr_end rfl (congrArg (wB k b0 b1 r) ((show fX0_empty M a1 a2 a3 = m9 from heq.symm.trans (show fX0_empty_lp a1 a2 a3 0 i m9 = m9 from rfl)).symm.trans ho)) hP hS) hS.2.2 dX0_empty_37
    | succ n ih =>
      intro i m9  H locs hin heq hP hD hS  ls hl
      refine lv_iload hx hb dX0_empty_3 (lv_at hl 4 rfl) ?_
      refine lv_iconst (v := (3 : Int32)) hx hb dX0_empty_5 (by decide) ?_
      refine lv_icmp_gt (tgt := 37) hx hb dX0_empty_6 (by decide) (fun c9 => absurd c9 (n4_f (by omega))) (fun _ => ?_)
      refine lv_aload_n hx hb dX0_empty_9 rfl (lv_at hl 0 rfl) ?_
      refine lv_iload hx hb dX0_empty_10 (lv_at hl 4 rfl) ?_
      refine lv_iload_n hx hb dX0_empty_12 rfl (lv_at hl 1 rfl) ?_
      refine lv_iload_n hx hb dX0_empty_13 rfl (lv_at hl 2 rfl) ?_
      refine lv_iload_n hx hb dX0_empty_14 rfl (lv_at hl 3 rfl) ?_
      refine rd_call (r := (fX0_isOfKind m9 (nI i) a1 a2 a3)) (W.runV (C := RX0) (b := b0) (As := [.int (nI i), .int a1, .int a2, .int a3]) (rest := []) ⟨hx, hb, hml, hown, hts⟩ (kX0_isOfKind l D k b0 b1 r m9 (nI i) a1 a2 a3 (vp_in_nI (by omega) (by omega))) (cwV 4 hts gX0_empty_X0_isOfKind rfl rfl rfl (by decide +kernel) ⟨Nat.le_of_ble_eq_true rfl, Nat.le_of_ble_eq_true rfl⟩) (rd_preV bl_T pr_T hK hP (va_recv hK hP (ci := 0) (q0 := 0) rfl rfl)) rfl rfl hl.1 rfl (lv_room (Nat.le_of_ble_eq_true rfl)) dX0_empty_15 ⟨Nat.zero_le _, Nat.zero_le _⟩) ?_
      refine lv_if_eq (tgt := 31) hx hb dX0_empty_18 (by decide) (fun c_18 => ?_) (fun c_18 => ?_)
      · refine lv_iinc (v := ((nI i) + (1 : Int32))) (lv' := [(4, .int ((nI i) + (1 : Int32))), (0, .ref b0), (1, .int a1), (2, .int a2), (3, .int a3)]) hx hb dX0_empty_31 hl (k := 4) rfl rfl (by decide) rfl (fun ls hl => ?_)
        refine lv_goto (tgt := 3) hx hb dX0_empty_34 (by decide) ?_
        exact ih (i + 1) m9  H locs (by omega) ((show fX0_empty_lp a1 a2 a3 (n + 1) i m9 = fX0_empty_lp a1 a2 a3 n (i + 1) m9 from (if_pos c_18).trans rfl).symm.trans heq) hP hD hS ls (by rw [← nI_1 i]; exact lv_sub hl [1, 2, 3, 4, 0] rfl)
      · refine lv_aload_n hx hb dX0_empty_21 rfl (lv_at hl 0 rfl) ?_
        refine va_get (D := D) (ci := 0) (v := .ref b1) (C := RX0) (T := TX0) (N := 1) hx hb hts (by decide +kernel) hown hK hP 0 rfl rfl 0 (by decide) (hts (.fieldLink RX0 11 "TrapMachine$Buffer" "parts" "[[I") (by decide +kernel)) (fun _ h9 => h9) rfl dX0_empty_22 ?_
        refine lv_iload hx hb dX0_empty_25 (lv_at hl 4 rfl) ?_
        refine gd_aald (j := i) (y := r i) hx hb hK hP 1 1 rfl rfl (vp_in_nI (by omega) (by omega)) (ix_nI (by omega)) rfl dX0_empty_27 ?_
        refine lv_iconst (v := (0 : Int32)) hx hb dX0_empty_28 (by decide) ?_
        refine lv_iconst (v := (0 : Int32)) hx hb dX0_empty_29 (by decide) ?_
        refine q_iast (j := 0) (ws' := wB k b0 b1 r (gu m9 i 0 (0 : Int32))) hx hb hK hP hD hS (2 + i) 0 (gd_at (ix_ltj (vp_in_nI (by omega) (by omega)) (ix_nI (by omega)))) rfl (vi_k (by decide)) rfl (gd_set (ix_ltj (vp_in_nI (by omega) (by omega)) (ix_nI (by omega)))) dX0_empty_30 (fun H locs hP hD hS => ?_)
        refine lv_iinc (v := ((nI i) + (1 : Int32))) (lv' := [(4, .int ((nI i) + (1 : Int32))), (0, .ref b0), (1, .int a1), (2, .int a2), (3, .int a3)]) hx hb dX0_empty_31 hl (k := 4) rfl rfl (by decide) rfl (fun ls hl => ?_)
        refine lv_goto (tgt := 3) hx hb dX0_empty_34 (by decide) ?_
        exact ih (i + 1) (gu m9 i 0 (0 : Int32))  H locs (by omega) ((show fX0_empty_lp a1 a2 a3 (n + 1) i m9 = fX0_empty_lp a1 a2 a3 n (i + 1) (gu m9 i 0 (0 : Int32)) from (if_neg c_18).trans rfl).symm.trans heq) hP hD hS ls (by rw [← nI_1 i]; exact lv_sub hl [1, 2, 3, 4, 0] rfl)
  refine lv_iconst (v := (0 : Int32)) hx hb dX0_empty_0 (by decide) ?_
  refine lv_istore (lv' := [(4, .int (0 : Int32)), (0, .ref b0), (1, .int a1), (2, .int a2), (3, .int a3)]) hx hb dX0_empty_1 hl (by decide) rfl (fun ls hl => ?_)
  exact lp 4 0 M s.heap [] (by omega) rfl hP hD hS ls (by rw [nI_0]; exact lv_sub hl [1, 2, 3, 4, 0] rfl)
