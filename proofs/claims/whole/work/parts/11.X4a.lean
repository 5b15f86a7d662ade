theorem rem8_in {a : Int32} (h : vp_in a 256) : vp_in (a - a / (8 : Int32) * (8 : Int32)) 8 := by
  obtain ⟨j, hj, rfl⟩ := vp_in_of h (by omega)
  rw [show (8 : Int32) = nI 8 from rfl, pk_rem (by omega) (by omega) (by omega)]
  exact vp_in_nI (by omega) (by omega)
theorem dbl_in {a : Int32} (h : vp_in a 4) : vp_in ((2 : Int32) * a) 8 := by
  obtain ⟨j, hj, rfl⟩ := vp_in_of h (by omega)
  rw [show (2 : Int32) = nI 2 from rfl, pk_mul]
  exact vp_in_nI (by omega) (by omega)
theorem dbl1_in {a : Int32} (h : vp_in a 4) : vp_in (((2 : Int32) * a) + (1 : Int32)) 8 := by
  obtain ⟨j, hj, rfl⟩ := vp_in_of h (by omega)
  rw [show (2 : Int32) = nI 2 from rfl, pk_mul, nI_1]
  exact vp_in_nI (by omega) (by omega)
theorem half_in {x3 x4 : Int32} (h : x4 = (0 : Int32) ∨ ∃ j : Nat, j < 4 ∧ x3 = nI j) (h0 : ¬ x4 = (0 : Int32)) (y : Int32) : vp_in (((2 : Int32) * x3) + (y &&& (1 : Int32))) 8 := by
  rcases h with h | ⟨j, hj, rfl⟩
  · exact absurd h h0
  · obtain ⟨t, ht, e⟩ := pk_andE y (m := 1) 1 (by decide)
    rw [e, show (2 : Int32) = nI 2 from rfl, pk_mul, nI_add]
    exact vp_in_nI (by omega) (by omega)
theorem vi_lo {a : Int32} (h : vp_in a 256) (h1 : a ≤ (17 : Int32)) : vp_in a 18 := by
  rw [vp_in_iff] at *
  rw [Int32.le_iff_toInt_le] at h1
  have : (17 : Int32).toInt = 17 := by decide
  omega
theorem m4_t {i : Nat} (h : i = 4) : (4 : Int32) ≤ nI i := by subst h; decide
theorem m4_f {i : Nat} (h : i < 4) : ¬ (4 : Int32) ≤ nI i := by
  rcases (show i = 0 ∨ i = 1 ∨ i = 2 ∨ i = 3 by omega) with rfl | rfl | rfl | rfl <;> decide
def fX4_outside (a1 : Int32) (a2 : Int32) (a3 : Int32) : Int32 :=
  if a1 < a2 then
    (1 : Int32)
  else
    if a1 ≤ a3 then
      (0 : Int32)
    else
      (1 : Int32)
set_option maxHeartbeats 4000000 in
set_option maxRecDepth 100000 in
theorem kX4_outside (l : Launch) (a1 : Int32) (a2 : Int32) (a3 : Int32)  : Met l yX4_outside wsX4_outside { frames := 0, cells := 0, slots := 0, locals := 0 } (fun v _ => v = ([.int a1, .int a2, .int a3] : List Value).toArray) (QcRead (fX4_outside a1 a2 a3)) 0 0 (fun _ => False) := by
  refine Met.ofW (cc := cX4_outside) (maxL := 3) (ret := (some .boolean)) (by decide) rfl ?_
  intro p e s m args below meth c s₁ B hml hv0
  obtain rfl := hv0
  have hx := B.exec
  have hb := B.bytes
  have hr := B.returns
  have hts := atoms_spec (ws := wsX4_outside) B.pre
  have hown : s.vm.findClass RX4 = some m.cls := findClass_of_methodNamed B.named
  have hlocks := B.notSynchronized
  have hl := lv_entry ([.int a1, .int a2, .int a3]) (n := 3) (Nat.le_of_ble_eq_true rfl)
  rw [lg_entry_eq]
  generalize (lg_sl ([.int a1, .int a2, .int a3]) ++ List.replicate (3 - (lg_sl ([.int a1, .int a2, .int a3])).length) Slot.unset).toArray = ls at hl ⊢
  have hl : lv_has ls 3 [(0, .int a1), (1, .int a2), (2, .int a3)] := hl
  refine lv_iload_n hx hb dX4_outside_0 rfl (lv_at hl 0 rfl) ?_
  refine lv_iload_n hx hb dX4_outside_1 rfl (lv_at hl 1 rfl) ?_
  refine lv_icmp_lt (tgt := 10) hx hb dX4_outside_2 (by decide) (fun c_2 => ?_) (fun c_2 => ?_)
  · refine lv_iconst (v := (1 : Int32)) hx hb dX4_outside_10 (by decide) ?_
    refine lv_goto (tgt := 15) hx hb dX4_outside_11 (by decide) ?_
    exact W.zret (v := (1 : Int32)) hx hb hr rfl (rd_end (show fX4_outside a1 a2 a3 = (1 : Int32) from (if_pos c_2).trans rfl)) (fun q h => by cases h) dX4_outside_15
  · refine lv_iload_n hx hb dX4_outside_5 rfl (lv_at hl 0 rfl) ?_
    refine lv_iload_n hx hb dX4_outside_6 rfl (lv_at hl 2 rfl) ?_
    refine lv_icmp_le (tgt := 14) hx hb dX4_outside_7 (by decide) (fun c_7 => ?_) (fun c_7 => ?_)
    · refine lv_iconst (v := (0 : Int32)) hx hb dX4_outside_14 (by decide) ?_
      exact W.zret (v := (0 : Int32)) hx hb hr rfl (rd_end (show fX4_outside a1 a2 a3 = (0 : Int32) from (if_neg c_2).trans ((if_pos c_7).trans rfl))) (fun q h => by cases h) dX4_outside_15
    · refine lv_iconst (v := (1 : Int32)) hx hb dX4_outside_10 (by decide) ?_
      refine lv_goto (tgt := 15) hx hb dX4_outside_11 (by decide) ?_
      exact W.zret (v := (1 : Int32)) hx hb hr rfl (rd_end (show fX4_outside a1 a2 a3 = (1 : Int32) from (if_neg c_2).trans ((if_neg c_7).trans rfl))) (fun q h => by cases h) dX4_outside_15
def fX4_pairOf (a1 : Int32) : Int32 :=
  (iu a1 (7 : Int32))
set_option maxHeartbeats 4000000 in
set_option maxRecDepth 100000 in
theorem kX4_pairOf (l : Launch) (a1 : Int32)  : Met l yX4_pairOf wsX4_pairOf { frames := 0, cells := 0, slots := 0, locals := 0 } (fun v _ => v = ([.int a1] : List Value).toArray) (QcRead (fX4_pairOf a1)) 0 0 (fun _ => False) := by
  refine Met.ofW (cc := cX4_pairOf) (maxL := 1) (ret := (some .int)) (by decide) rfl ?_
  intro p e s m args below meth c s₁ B hml hv0
  obtain rfl := hv0
  have hx := B.exec
  have hb := B.bytes
  have hr := B.returns
  have hts := atoms_spec (ws := wsX4_pairOf) B.pre
  have hown : s.vm.findClass RX4 = some m.cls := findClass_of_methodNamed B.named
  have hlocks := B.notSynchronized
  have hl := lv_entry ([.int a1]) (n := 1) (Nat.le_of_ble_eq_true rfl)
  rw [lg_entry_eq]
  generalize (lg_sl ([.int a1]) ++ List.replicate (1 - (lg_sl ([.int a1])).length) Slot.unset).toArray = ls at hl ⊢
  have hl : lv_has ls 1 [(0, .int a1)] := hl
  refine lv_iload_n hx hb dX4_pairOf_0 rfl (lv_at hl 0 rfl) ?_
  refine lv_bipush (v := (7 : Int32)) hx hb dX4_pairOf_1 (by decide) ?_
  refine lv_iushr (v := (iu a1 (7 : Int32))) hx hb dX4_pairOf_3 rfl ?_
  exact W.iret (v := (iu a1 (7 : Int32))) hx hb hr (rd_end (show fX4_pairOf a1 = (iu a1 (7 : Int32)) from rfl)) (fun q h => by cases h) dX4_pairOf_4
def fX4_isWord (a1 : Int32) : Int32 :=
  if (fX4_outside a1 (0 : Int32) (2047 : Int32)) = (0 : Int32) then
    if (a1 - a1 / (4 : Int32) * (4 : Int32)) = (0 : Int32) then
      (1 : Int32)
    else
      (0 : Int32)
  else
    (0 : Int32)
set_option maxHeartbeats 4000000 in
set_option maxRecDepth 100000 in
theorem kX4_isWord (l : Launch) (a1 : Int32)  : Met l yX4_isWord wsX4_isWord { frames := 1, cells := 0, slots := 0, locals := 22 } (fun v _ => v = ([.int a1] : List Value).toArray) (QcRead (fX4_isWord a1)) 0 0 (fun _ => False) := by
  refine Met.ofW (cc := cX4_isWord) (maxL := 1) (ret := (some .boolean)) (by decide) rfl ?_
  intro p e s m args below meth c s₁ B hml hv0
  obtain rfl := hv0
  have hx := B.exec
  have hb := B.bytes
  have hr := B.returns
  have hts := atoms_spec (ws := wsX4_isWord) B.pre
  have hown : s.vm.findClass RX4 = some m.cls := findClass_of_methodNamed B.named
  have hlocks := B.notSynchronized
  have hl := lv_entry ([.int a1]) (n := 1) (Nat.le_of_ble_eq_true rfl)
  rw [lg_entry_eq]
  generalize (lg_sl ([.int a1]) ++ List.replicate (1 - (lg_sl ([.int a1])).length) Slot.unset).toArray = ls at hl ⊢
  have hl : lv_has ls 1 [(0, .int a1)] := hl
  refine lv_iload_n hx hb dX4_isWord_0 rfl (lv_at hl 0 rfl) ?_
  refine lv_iconst (v := (0 : Int32)) hx hb dX4_isWord_1 (by decide) ?_
  refine lv_sipush (v := (2047 : Int32)) hx hb dX4_isWord_2 (by decide) ?_
  refine rd_call (r := (fX4_outside a1 (0 : Int32) (2047 : Int32))) (W.runS (As := [.int a1, .int (0 : Int32), .int (2047 : Int32)]) (rest := []) ⟨hx, hb, hml, hown, hts⟩ (kX4_outside l a1 (0 : Int32) (2047 : Int32)) (va_cwS 3 hts gX4_isWord_X4_outside rfl rfl rfl (by decide +kernel) ⟨Nat.le_of_ble_eq_true rfl, Nat.le_of_ble_eq_true rfl⟩) preEq rfl rfl hl.1 rfl (lv_room (Nat.le_of_ble_eq_true rfl)) dX4_isWord_5 ⟨Nat.zero_le _, Nat.zero_le _⟩) ?_
  refine lv_if_ne (tgt := 21) hx hb dX4_isWord_8 (by decide) (fun c_8 => ?_) (fun c_8 => ?_)
  · refine lv_iconst (v := (0 : Int32)) hx hb dX4_isWord_21 (by decide) ?_
    exact W.zret (v := (0 : Int32)) hx hb hr rfl (rd_end (show fX4_isWord a1 = (0 : Int32) from (if_neg c_8).trans rfl)) (fun q h => by cases h) dX4_isWord_22
  · refine lv_iload_n hx hb dX4_isWord_11 rfl (lv_at hl 0 rfl) ?_
    refine lv_iconst (v := (4 : Int32)) hx hb dX4_isWord_12 (by decide) ?_
    refine lv_irem hx hb dX4_isWord_13 (by decide) ?_
    refine lv_if_ne (tgt := 21) hx hb dX4_isWord_14 (by decide) (fun c_14 => ?_) (fun c_14 => ?_)
    · refine lv_iconst (v := (0 : Int32)) hx hb dX4_isWord_21 (by decide) ?_
      exact W.zret (v := (0 : Int32)) hx hb hr rfl (rd_end (show fX4_isWord a1 = (0 : Int32) from (if_pos c_8).trans ((if_neg c_14).trans rfl))) (fun q h => by cases h) dX4_isWord_22
    · refine lv_iconst (v := (1 : Int32)) hx hb dX4_isWord_17 (by decide) ?_
      refine lv_goto (tgt := 22) hx hb dX4_isWord_18 (by decide) ?_
      exact W.zret (v := (1 : Int32)) hx hb hr rfl (rd_end (show fX4_isWord a1 = (1 : Int32) from (if_pos c_8).trans ((if_pos c_14).trans rfl))) (fun q h => by cases h) dX4_isWord_22
def fX4_thrown (w : MD)  : Int32 :=
  w.1
set_option maxHeartbeats 4000000 in
set_option maxRecDepth 100000 in
theorem kX4_thrown (l : Launch) (D : va_G) (k : Nat → ClassId) (z : Nat → Nat) (w : MD)   : Met l yX4_thrown wsX4_thrown { frames := 0, cells := 0, slots := 0, locals := 0 } (rd_P D vwCl (tyL k) (wM k z w) (fun _ => True) [.ref (z 0)]) (QcRead (fX4_thrown w)) 0 0 (fun _ => False) := by
  refine Met.ofW (cc := cX4_thrown) (maxL := 1) (ret := (some .int)) (by decide) rfl ?_
  intro p e s m args below meth c s₁ B hml hv0
  obtain ⟨rfl, hP, hK, hX⟩ := hv0
  have hx := B.exec
  have hb := B.bytes
  have hr := B.returns
  have hts := atoms_spec (ws := wsX4_thrown) B.pre
  have hown : s.vm.findClass RX4 = some m.cls := findClass_of_methodNamed B.named
  have hlocks := B.notSynchronized
  have hl := lv_entry ([.ref (z 0)]) (n := 1) (Nat.le_of_ble_eq_true rfl)
  rw [lg_entry_eq]
  generalize (lg_sl ([.ref (z 0)]) ++ List.replicate (1 - (lg_sl ([.ref (z 0)])).length) Slot.unset).toArray = ls at hl ⊢
  have hl : lv_has ls 1 [(0, .ref (z 0))] := hl
  refine lv_aload_n hx hb dX4_thrown_0 rfl (lv_at hl 0 rfl) ?_
  refine va_get (D := D) (ci := 3) (v := .int w.1) (C := RX4) (T := TX4) (N := 20) hx hb hts (by decide +kernel) hown hK hP 0 rfl rfl 0 (by decide) (hts (.fieldLink RX4 41 "TrapMachineModel" "thrown" "I") (by decide +kernel)) (fun _ h9 => h9) rfl dX4_thrown_1 ?_
  exact W.iret (v := w.1) hx hb hr (rd_end (show fX4_thrown w = w.1 from rfl)) (fun q h => by cases h) dX4_thrown_4
def fX4_user (w : MD)  : Int32 :=
  if ((w.2.2.2.1 0) &&& (3 : Int32)) = (0 : Int32) then
    (0 : Int32)
  else
    (1 : Int32)
set_option maxHeartbeats 4000000 in
set_option maxRecDepth 100000 in
theorem kX4_user (l : Launch) (D : va_G) (k : Nat → ClassId) (z : Nat → Nat) (w : MD)   : Met l yX4_user wsX4_user { frames := 0, cells := 0, slots := 0, locals := 0 } (rd_P D vwCl (tyL k) (wM k z w) (fun _ => True) [.ref (z 0)]) (QcRead (fX4_user w)) 0 0 (fun _ => False) := by
  refine Met.ofW (cc := cX4_user) (maxL := 1) (ret := (some .boolean)) (by decide) rfl ?_
  intro p e s m args below meth c s₁ B hml hv0
  obtain ⟨rfl, hP, hK, hX⟩ := hv0
  have hx := B.exec
  have hb := B.bytes
  have hr := B.returns
  have hts := atoms_spec (ws := wsX4_user) B.pre
  have hown : s.vm.findClass RX4 = some m.cls := findClass_of_methodNamed B.named
  have hlocks := B.notSynchronized
  have hl := lv_entry ([.ref (z 0)]) (n := 1) (Nat.le_of_ble_eq_true rfl)
  rw [lg_entry_eq]
  generalize (lg_sl ([.ref (z 0)]) ++ List.replicate (1 - (lg_sl ([.ref (z 0)])).length) Slot.unset).toArray = ls at hl ⊢
  have hl : lv_has ls 1 [(0, .ref (z 0))] := hl
  refine lv_aload_n hx hb dX4_user_0 rfl (lv_at hl 0 rfl) ?_
  refine va_get (D := D) (ci := 3) (v := .ref (z 3)) (C := RX4) (T := TX4) (N := 20) hx hb hts (by decide +kernel) hown hK hP 0 rfl rfl 3 (by decide) (hts (.fieldLink RX4 16 "TrapMachineModel" "control" "[I") (by decide +kernel)) (fun _ h9 => h9) rfl dX4_user_1 ?_
  refine lv_iconst (v := (0 : Int32)) hx hb dX4_user_4 (by decide) ?_
  refine q_iald (j := 0) (x9 := (w.2.2.2.1 0)) hx hb hK hP 3 0 rfl rfl (vi_k (by decide)) rfl rfl dX4_user_5 ?_
  refine lv_iconst (v := (3 : Int32)) hx hb dX4_user_6 (by decide) ?_
  refine lv_iand hx hb dX4_user_7 ?_
  refine lv_if_eq (tgt := 15) hx hb dX4_user_8 (by decide) (fun c_8 => ?_) (fun c_8 => ?_)
  · refine lv_iconst (v := (0 : Int32)) hx hb dX4_user_15 (by decide) ?_
    exact W.zret (v := (0 : Int32)) hx hb hr rfl (rd_end (show fX4_user w = (0 : Int32) from (if_pos c_8).trans rfl)) (fun q h => by cases h) dX4_user_16
  · refine lv_iconst (v := (1 : Int32)) hx hb dX4_user_11 (by decide) ?_
    refine lv_goto (tgt := 16) hx hb dX4_user_12 (by decide) ?_
    exact W.zret (v := (1 : Int32)) hx hb hr rfl (rd_end (show fX4_user w = (1 : Int32) from (if_neg c_8).trans rfl)) (fun q h => by cases h) dX4_user_16
def fX4_codeOf (w : MD)  : Int32 :=
  (((w.2.2.2.1 3) >>> ((16 : Int32) &&& 31)) &&& (63 : Int32))
set_option maxHeartbeats 4000000 in
set_option maxRecDepth 100000 in
theorem kX4_codeOf (l : Launch) (D : va_G) (k : Nat → ClassId) (z : Nat → Nat) (w : MD)   : Met l yX4_codeOf wsX4_codeOf { frames := 0, cells := 0, slots := 0, locals := 0 } (rd_P D vwCl (tyL k) (wM k z w) (fun _ => True) [.ref (z 0)]) (QcRead (fX4_codeOf w)) 0 0 (fun _ => False) := by
  refine Met.ofW (cc := cX4_codeOf) (maxL := 1) (ret := (some .int)) (by decide) rfl ?_
  intro p e s m args below meth c s₁ B hml hv0
  obtain ⟨rfl, hP, hK, hX⟩ := hv0
  have hx := B.exec
  have hb := B.bytes
  have hr := B.returns
  have hts := atoms_spec (ws := wsX4_codeOf) B.pre
  have hown : s.vm.findClass RX4 = some m.cls := findClass_of_methodNamed B.named
  have hlocks := B.notSynchronized
  have hl := lv_entry ([.ref (z 0)]) (n := 1) (Nat.le_of_ble_eq_true rfl)
  rw [lg_entry_eq]
  generalize (lg_sl ([.ref (z 0)]) ++ List.replicate (1 - (lg_sl ([.ref (z 0)])).length) Slot.unset).toArray = ls at hl ⊢
  have hl : lv_has ls 1 [(0, .ref (z 0))] := hl
  refine lv_aload_n hx hb dX4_codeOf_0 rfl (lv_at hl 0 rfl) ?_
  refine va_get (D := D) (ci := 3) (v := .ref (z 3)) (C := RX4) (T := TX4) (N := 20) hx hb hts (by decide +kernel) hown hK hP 0 rfl rfl 3 (by decide) (hts (.fieldLink RX4 16 "TrapMachineModel" "control" "[I") (by decide +kernel)) (fun _ h9 => h9) rfl dX4_codeOf_1 ?_
  refine lv_iconst (v := (3 : Int32)) hx hb dX4_codeOf_4 (by decide) ?_
  refine q_iald (j := 3) (x9 := (w.2.2.2.1 3)) hx hb hK hP 3 0 rfl rfl (vi_k (by decide)) rfl rfl dX4_codeOf_5 ?_
  refine lv_bipush (v := (16 : Int32)) hx hb dX4_codeOf_6 (by decide) ?_
  refine lv_ishr hx hb dX4_codeOf_8 ?_
  refine lv_bipush (v := (63 : Int32)) hx hb dX4_codeOf_9 (by decide) ?_
  refine lv_iand hx hb dX4_codeOf_11 ?_
  exact W.iret (v := (((w.2.2.2.1 3) >>> ((16 : Int32) &&& 31)) &&& (63 : Int32))) hx hb hr (rd_end (show fX4_codeOf w = (((w.2.2.2.1 3) >>> ((16 : Int32) &&& 31)) &&& (63 : Int32)) from rfl)) (fun q h => by cases h) dX4_codeOf_12
def fX4_refuse (w : MD) (a1 : Int32) : Int32 × MD :=
  ((0 : Int32), (ms0 w a1))
set_option maxHeartbeats 4000000 in
set_option maxRecDepth 100000 in
theorem kX4_refuse (l : Launch) (D : va_G) (k : Nat → ClassId) (z : Nat → Nat) (w : MD) (a1 : Int32)  (o : Int32 × (MD)) (ho : fX4_refuse w a1 = o) : Met l yX4_refuse wsX4_refuse { frames := 0, cells := 0, slots := 0, locals := 0 } (wr_P D vwCl (tyL k) (wM k z w) (fun _ => True) [.ref (z 0), .int a1]) (wr_Q D vwCl (some (.int o.1)) (wM k z w) (wM k z o.2)) 0 0 (in_W (wM k z w)) := by
  refine Met.ofW (cc := cX4_refuse) (maxL := 2) (ret := (some .int)) (by decide) rfl ?_
  intro p e s m args below meth c s₁ B hml hv0
  obtain ⟨rfl, hP, hK, hX, hD0⟩ := hv0
  have hx := B.exec
  have hb := B.bytes
  have hr := B.returns
  have hts := atoms_spec (ws := wsX4_refuse) B.pre
  have hown : s.vm.findClass RX4 = some m.cls := findClass_of_methodNamed B.named
  have hlocks := B.notSynchronized
  have hD : va_D (in_W (wM k z w)) (wM k z w) := wD_self hD0
  have hS : va_S (in_W (wM k z w)) s.heap s.heap [] := va_S.rf
  have hl := lv_entry ([.ref (z 0), .int a1]) (n := 2) (Nat.le_of_ble_eq_true rfl)
  rw [lg_entry_eq]
  generalize (lg_sl ([.ref (z 0), .int a1]) ++ List.replicate (2 - (lg_sl ([.ref (z 0), .int a1])).length) Slot.unset).toArray = ls at hl ⊢
  have hl : lv_has ls 2 [(0, .ref (z 0)), (1, .int a1)] := hl
  refine lv_aload_n hx hb dX4_refuse_0 rfl (lv_at hl 0 rfl) ?_
  refine lv_iload_n hx hb dX4_refuse_1 rfl (lv_at hl 1 rfl) ?_
  refine va_put (D := D) (ci := 3) (v := .int a1) (ty := .int) (C := RX4) (T := TX4) (N := 20) hx hb hts (by decide +kernel) tyX4 tyX4_ok nmX4 hown hK hP hD hS 0 rfl rfl 0 (by decide) (hts (.fieldLink RX4 41 "TrapMachineModel" "thrown" "I") (by decide +kernel)) (fun _ h9 => h9) rfl (by decide +kernel) rfl rfl (Nat.le_of_ble_eq_true rfl) dX4_refuse_2 (fun H locs hP hD hS => ?_)
  have hP : va_P D vwCl (wM k z (ms0 w a1)) H := hP
  have hD : va_D (in_W (wM k z w)) (wM k z (ms0 w a1)) := hD
  refine lv_iconst (v := (0 : Int32)) hx hb dX4_refuse_5 (by decide) ?_
  exact W.iret (v := (0 : Int32)) hx hb hr (wr_end (congrArg (fun t9 : Int32 × MD => some (Value.int t9.1)) ((show fX4_refuse w a1 = ((0 : Int32), (ms0 w a1)) from rfl).symm.trans ho)) (congrArg (fun t9 : Int32 × MD => wM k z t9.2) ((show fX4_refuse w a1 = ((0 : Int32), (ms0 w a1)) from rfl).symm.trans ho)) hP hS) hS.2.2 dX4_refuse_6
def fX4_with (w : MD) (a1 : Int32) (a2 : Int32) (a3 : Int32) : Int32 × MD :=
  (a1, (ms16 (ms15 w a3) a2))
set_option maxHeartbeats 4000000 in
set_option maxRecDepth 100000 in
theorem kX4_with (l : Launch) (D : va_G) (k : Nat → ClassId) (z : Nat → Nat) (w : MD) (a1 : Int32) (a2 : Int32) (a3 : Int32)  (o : Int32 × (MD)) (ho : fX4_with w a1 a2 a3 = o) : Met l yX4_with wsX4_with { frames := 0, cells := 0, slots := 0, locals := 0 } (wr_P D vwCl (tyL k) (wM k z w) (fun _ => True) [.ref (z 0), .int a1, .int a2, .int a3]) (wr_Q D vwCl (some (.int o.1)) (wM k z w) (wM k z o.2)) 0 0 (in_W (wM k z w)) := by
  refine Met.ofW (cc := cX4_with) (maxL := 4) (ret := (some .int)) (by decide) rfl ?_
  intro p e s m args below meth c s₁ B hml hv0
  obtain ⟨rfl, hP, hK, hX, hD0⟩ := hv0
  have hx := B.exec
  have hb := B.bytes
  have hr := B.returns
  have hts := atoms_spec (ws := wsX4_with) B.pre
  have hown : s.vm.findClass RX4 = some m.cls := findClass_of_methodNamed B.named
  have hlocks := B.notSynchronized
  have hD : va_D (in_W (wM k z w)) (wM k z w) := wD_self hD0
  have hS : va_S (in_W (wM k z w)) s.heap s.heap [] := va_S.rf
  have hl := lv_entry ([.ref (z 0), .int a1, .int a2, .int a3]) (n := 4) (Nat.le_of_ble_eq_true rfl)
  rw [lg_entry_eq]
  generalize (lg_sl ([.ref (z 0), .int a1, .int a2, .int a3]) ++ List.replicate (4 - (lg_sl ([.ref (z 0), .int a1, .int a2, .int a3])).length) Slot.unset).toArray = ls at hl ⊢
  have hl : lv_has ls 4 [(0, .ref (z 0)), (1, .int a1), (2, .int a2), (3, .int a3)] := hl
  refine lv_aload_n hx hb dX4_with_0 rfl (lv_at hl 0 rfl) ?_
  refine lv_iload_n hx hb dX4_with_1 rfl (lv_at hl 3 rfl) ?_
  refine va_put (D := D) (ci := 3) (v := .int a3) (ty := .int) (C := RX4) (T := TX4) (N := 20) hx hb hts (by decide +kernel) tyX4 tyX4_ok nmX4 hown hK hP hD hS 0 rfl rfl 16 (by decide) (hts (.fieldLink RX4 45 "TrapMachineModel" "brings" "I") (by decide +kernel)) (fun _ h9 => h9) rfl (by decide +kernel) rfl rfl (Nat.le_of_ble_eq_true rfl) dX4_with_2 (fun H locs hP hD hS => ?_)
  have hP : va_P D vwCl (wM k z (ms15 w a3)) H := hP
  have hD : va_D (in_W (wM k z w)) (wM k z (ms15 w a3)) := hD
  refine lv_aload_n hx hb dX4_with_5 rfl (lv_at hl 0 rfl) ?_
  refine lv_iload_n hx hb dX4_with_6 rfl (lv_at hl 2 rfl) ?_
  refine va_put (D := D) (ci := 3) (v := .int a2) (ty := .int) (C := RX4) (T := TX4) (N := 20) hx hb hts (by decide +kernel) tyX4 tyX4_ok nmX4 hown hK hP hD hS 0 rfl rfl 17 (by decide) (hts (.fieldLink RX4 48 "TrapMachineModel" "broughtAt" "I") (by decide +kernel)) (fun _ h9 => h9) rfl (by decide +kernel) rfl rfl (Nat.le_of_ble_eq_true rfl) dX4_with_7 (fun H locs hP hD hS => ?_)
  have hP : va_P D vwCl (wM k z (ms16 (ms15 w a3) a2)) H := hP
  have hD : va_D (in_W (wM k z w)) (wM k z (ms16 (ms15 w a3) a2)) := hD
  refine lv_iload_n hx hb dX4_with_10 rfl (lv_at hl 1 rfl) ?_
  exact W.iret (v := a1) hx hb hr (wr_end (congrArg (fun t9 : Int32 × MD => some (Value.int t9.1)) ((show fX4_with w a1 a2 a3 = (a1, (ms16 (ms15 w a3) a2)) from rfl).symm.trans ho)) (congrArg (fun t9 : Int32 × MD => wM k z t9.2) ((show fX4_with w a1 a2 a3 = (a1, (ms16 (ms15 w a3) a2)) from rfl).symm.trans ho)) hP hS) hS.2.2 dX4_with_11
def fX4_enter (w : MD) (a1 : Int32) : MD :=
  if w.2.2.2.2.2.2.2.2.2.2.2.2.2.2.2.1 ≤ (0 : Int32) then
    if w.2.2.2.2.2.2.2.2.2.2.2.2.2.2.2.1 ≤ (1 : Int32) then
      if a1 = (63 : Int32) then
        (ms9 (ms3 (ms3 (ms3 (ms3 (ms3 w (upd w.2.2.2.1 1 ((w.2.2.2.1 0) &&& (7 : Int32)))) (upd (upd w.2.2.2.1 1 ((w.2.2.2.1 0) &&& (7 : Int32))) 0 ((w.2.2.2.1 0) - ((w.2.2.2.1 0) &&& (7 : Int32))))) (upd (upd (upd w.2.2.2.1 1 ((w.2.2.2.1 0) &&& (7 : Int32))) 0 ((w.2.2.2.1 0) - ((w.2.2.2.1 0) &&& (7 : Int32)))) 4 w.2.2.2.2.2.2.2.2.2.1)) (upd (upd (upd (upd w.2.2.2.1 1 ((w.2.2.2.1 0) &&& (7 : Int32))) 0 ((w.2.2.2.1 0) - ((w.2.2.2.1 0) &&& (7 : Int32)))) 4 w.2.2.2.2.2.2.2.2.2.1) 3 (((w.2.2.2.1 3) &&& (-4128769 : Int32)) ||| (a1 <<< ((16 : Int32) &&& 31))))) (upd (upd (upd (upd (upd w.2.2.2.1 1 ((w.2.2.2.1 0) &&& (7 : Int32))) 0 ((w.2.2.2.1 0) - ((w.2.2.2.1 0) &&& (7 : Int32)))) 4 w.2.2.2.2.2.2.2.2.2.1) 3 (((w.2.2.2.1 3) &&& (-4128769 : Int32)) ||| (a1 <<< ((16 : Int32) &&& 31)))) 0 (((w.2.2.2.1 0) - ((w.2.2.2.1 0) &&& (7 : Int32))) ||| (8 : Int32)))) (w.2.2.2.1 16))
      else
        (ms9 (ms3 (ms3 (ms3 (ms3 w (upd w.2.2.2.1 1 ((w.2.2.2.1 0) &&& (7 : Int32)))) (upd (upd w.2.2.2.1 1 ((w.2.2.2.1 0) &&& (7 : Int32))) 0 ((w.2.2.2.1 0) - ((w.2.2.2.1 0) &&& (7 : Int32))))) (upd (upd (upd w.2.2.2.1 1 ((w.2.2.2.1 0) &&& (7 : Int32))) 0 ((w.2.2.2.1 0) - ((w.2.2.2.1 0) &&& (7 : Int32)))) 4 w.2.2.2.2.2.2.2.2.2.1)) (upd (upd (upd (upd w.2.2.2.1 1 ((w.2.2.2.1 0) &&& (7 : Int32))) 0 ((w.2.2.2.1 0) - ((w.2.2.2.1 0) &&& (7 : Int32)))) 4 w.2.2.2.2.2.2.2.2.2.1) 3 (((w.2.2.2.1 3) &&& (-4128769 : Int32)) ||| (a1 <<< ((16 : Int32) &&& 31))))) (w.2.2.2.1 6))
    else
      if a1 = (63 : Int32) then
        (ms9 (ms3 (ms3 (ms3 (ms3 (ms3 (ms3 w (upd w.2.2.2.1 1 ((w.2.2.2.1 0) &&& (7 : Int32)))) (upd (upd w.2.2.2.1 1 ((w.2.2.2.1 0) &&& (7 : Int32))) 0 ((w.2.2.2.1 0) - ((w.2.2.2.1 0) &&& (7 : Int32))))) (upd (upd (upd w.2.2.2.1 1 ((w.2.2.2.1 0) &&& (7 : Int32))) 0 ((w.2.2.2.1 0) - ((w.2.2.2.1 0) &&& (7 : Int32)))) 4 w.2.2.2.2.2.2.2.2.2.1)) (upd (upd (upd (upd w.2.2.2.1 1 ((w.2.2.2.1 0) &&& (7 : Int32))) 0 ((w.2.2.2.1 0) - ((w.2.2.2.1 0) &&& (7 : Int32)))) 4 w.2.2.2.2.2.2.2.2.2.1) 3 (((w.2.2.2.1 3) &&& (-4128769 : Int32)) ||| (a1 <<< ((16 : Int32) &&& 31))))) (upd (upd (upd (upd (upd w.2.2.2.1 1 ((w.2.2.2.1 0) &&& (7 : Int32))) 0 ((w.2.2.2.1 0) - ((w.2.2.2.1 0) &&& (7 : Int32)))) 4 w.2.2.2.2.2.2.2.2.2.1) 3 (((w.2.2.2.1 3) &&& (-4128769 : Int32)) ||| (a1 <<< ((16 : Int32) &&& 31)))) 8 (w.2.2.2.2.2.2.2.2.2.2.2.2.2.2.2.2.1 &&& (-128 : Int32)))) (upd (upd (upd (upd (upd (upd w.2.2.2.1 1 ((w.2.2.2.1 0) &&& (7 : Int32))) 0 ((w.2.2.2.1 0) - ((w.2.2.2.1 0) &&& (7 : Int32)))) 4 w.2.2.2.2.2.2.2.2.2.1) 3 (((w.2.2.2.1 3) &&& (-4128769 : Int32)) ||| (a1 <<< ((16 : Int32) &&& 31)))) 8 (w.2.2.2.2.2.2.2.2.2.2.2.2.2.2.2.2.1 &&& (-128 : Int32))) 0 (((w.2.2.2.1 0) - ((w.2.2.2.1 0) &&& (7 : Int32))) ||| (8 : Int32)))) (w.2.2.2.1 16))
      else
        (ms9 (ms3 (ms3 (ms3 (ms3 (ms3 w (upd w.2.2.2.1 1 ((w.2.2.2.1 0) &&& (7 : Int32)))) (upd (upd w.2.2.2.1 1 ((w.2.2.2.1 0) &&& (7 : Int32))) 0 ((w.2.2.2.1 0) - ((w.2.2.2.1 0) &&& (7 : Int32))))) (upd (upd (upd w.2.2.2.1 1 ((w.2.2.2.1 0) &&& (7 : Int32))) 0 ((w.2.2.2.1 0) - ((w.2.2.2.1 0) &&& (7 : Int32)))) 4 w.2.2.2.2.2.2.2.2.2.1)) (upd (upd (upd (upd w.2.2.2.1 1 ((w.2.2.2.1 0) &&& (7 : Int32))) 0 ((w.2.2.2.1 0) - ((w.2.2.2.1 0) &&& (7 : Int32)))) 4 w.2.2.2.2.2.2.2.2.2.1) 3 (((w.2.2.2.1 3) &&& (-4128769 : Int32)) ||| (a1 <<< ((16 : Int32) &&& 31))))) (upd (upd (upd (upd (upd w.2.2.2.1 1 ((w.2.2.2.1 0) &&& (7 : Int32))) 0 ((w.2.2.2.1 0) - ((w.2.2.2.1 0) &&& (7 : Int32)))) 4 w.2.2.2.2.2.2.2.2.2.1) 3 (((w.2.2.2.1 3) &&& (-4128769 : Int32)) ||| (a1 <<< ((16 : Int32) &&& 31)))) 8 (w.2.2.2.2.2.2.2.2.2.2.2.2.2.2.2.2.1 &&& (-128 : Int32)))) (w.2.2.2.1 6))
  else
    if w.2.2.2.2.2.2.2.2.2.2.2.2.2.2.2.1 ≤ (1 : Int32) then
      if a1 = (63 : Int32) then
        (ms9 (ms3 (ms3 (ms3 (ms3 (ms3 (ms3 w (upd w.2.2.2.1 1 ((w.2.2.2.1 0) &&& (7 : Int32)))) (upd (upd w.2.2.2.1 1 ((w.2.2.2.1 0) &&& (7 : Int32))) 0 ((w.2.2.2.1 0) - ((w.2.2.2.1 0) &&& (7 : Int32))))) (upd (upd (upd w.2.2.2.1 1 ((w.2.2.2.1 0) &&& (7 : Int32))) 0 ((w.2.2.2.1 0) - ((w.2.2.2.1 0) &&& (7 : Int32)))) 4 w.2.2.2.2.2.2.2.2.2.1)) (upd (upd (upd (upd w.2.2.2.1 1 ((w.2.2.2.1 0) &&& (7 : Int32))) 0 ((w.2.2.2.1 0) - ((w.2.2.2.1 0) &&& (7 : Int32)))) 4 w.2.2.2.2.2.2.2.2.2.1) 3 (((w.2.2.2.1 3) &&& (-4128769 : Int32)) ||| (a1 <<< ((16 : Int32) &&& 31))))) (upd (upd (upd (upd (upd w.2.2.2.1 1 ((w.2.2.2.1 0) &&& (7 : Int32))) 0 ((w.2.2.2.1 0) - ((w.2.2.2.1 0) &&& (7 : Int32)))) 4 w.2.2.2.2.2.2.2.2.2.1) 3 (((w.2.2.2.1 3) &&& (-4128769 : Int32)) ||| (a1 <<< ((16 : Int32) &&& 31)))) 5 w.2.2.2.2.2.2.2.2.2.2.2.2.2.2.2.2.1)) (upd (upd (upd (upd (upd (upd w.2.2.2.1 1 ((w.2.2.2.1 0) &&& (7 : Int32))) 0 ((w.2.2.2.1 0) - ((w.2.2.2.1 0) &&& (7 : Int32)))) 4 w.2.2.2.2.2.2.2.2.2.1) 3 (((w.2.2.2.1 3) &&& (-4128769 : Int32)) ||| (a1 <<< ((16 : Int32) &&& 31)))) 5 w.2.2.2.2.2.2.2.2.2.2.2.2.2.2.2.2.1) 0 (((w.2.2.2.1 0) - ((w.2.2.2.1 0) &&& (7 : Int32))) ||| (8 : Int32)))) (w.2.2.2.1 16))
      else
        (ms9 (ms3 (ms3 (ms3 (ms3 (ms3 w (upd w.2.2.2.1 1 ((w.2.2.2.1 0) &&& (7 : Int32)))) (upd (upd w.2.2.2.1 1 ((w.2.2.2.1 0) &&& (7 : Int32))) 0 ((w.2.2.2.1 0) - ((w.2.2.2.1 0) &&& (7 : Int32))))) (upd (upd (upd w.2.2.2.1 1 ((w.2.2.2.1 0) &&& (7 : Int32))) 0 ((w.2.2.2.1 0) - ((w.2.2.2.1 0) &&& (7 : Int32)))) 4 w.2.2.2.2.2.2.2.2.2.1)) (upd (upd (upd (upd w.2.2.2.1 1 ((w.2.2.2.1 0) &&& (7 : Int32))) 0 ((w.2.2.2.1 0) - ((w.2.2.2.1 0) &&& (7 : Int32)))) 4 w.2.2.2.2.2.2.2.2.2.1) 3 (((w.2.2.2.1 3) &&& (-4128769 : Int32)) ||| (a1 <<< ((16 : Int32) &&& 31))))) (upd (upd (upd (upd (upd w.2.2.2.1 1 ((w.2.2.2.1 0) &&& (7 : Int32))) 0 ((w.2.2.2.1 0) - ((w.2.2.2.1 0) &&& (7 : Int32)))) 4 w.2.2.2.2.2.2.2.2.2.1) 3 (((w.2.2.2.1 3) &&& (-4128769 : Int32)) ||| (a1 <<< ((16 : Int32) &&& 31)))) 5 w.2.2.2.2.2.2.2.2.2.2.2.2.2.2.2.2.1)) (w.2.2.2.1 6))
    else
      if a1 = (63 : Int32) then
        (ms9 (ms3 (ms3 (ms3 (ms3 (ms3 (ms3 (ms3 w (upd w.2.2.2.1 1 ((w.2.2.2.1 0) &&& (7 : Int32)))) (upd (upd w.2.2.2.1 1 ((w.2.2.2.1 0) &&& (7 : Int32))) 0 ((w.2.2.2.1 0) - ((w.2.2.2.1 0) &&& (7 : Int32))))) (upd (upd (upd w.2.2.2.1 1 ((w.2.2.2.1 0) &&& (7 : Int32))) 0 ((w.2.2.2.1 0) - ((w.2.2.2.1 0) &&& (7 : Int32)))) 4 w.2.2.2.2.2.2.2.2.2.1)) (upd (upd (upd (upd w.2.2.2.1 1 ((w.2.2.2.1 0) &&& (7 : Int32))) 0 ((w.2.2.2.1 0) - ((w.2.2.2.1 0) &&& (7 : Int32)))) 4 w.2.2.2.2.2.2.2.2.2.1) 3 (((w.2.2.2.1 3) &&& (-4128769 : Int32)) ||| (a1 <<< ((16 : Int32) &&& 31))))) (upd (upd (upd (upd (upd w.2.2.2.1 1 ((w.2.2.2.1 0) &&& (7 : Int32))) 0 ((w.2.2.2.1 0) - ((w.2.2.2.1 0) &&& (7 : Int32)))) 4 w.2.2.2.2.2.2.2.2.2.1) 3 (((w.2.2.2.1 3) &&& (-4128769 : Int32)) ||| (a1 <<< ((16 : Int32) &&& 31)))) 5 w.2.2.2.2.2.2.2.2.2.2.2.2.2.2.2.2.1)) (upd (upd (upd (upd (upd (upd w.2.2.2.1 1 ((w.2.2.2.1 0) &&& (7 : Int32))) 0 ((w.2.2.2.1 0) - ((w.2.2.2.1 0) &&& (7 : Int32)))) 4 w.2.2.2.2.2.2.2.2.2.1) 3 (((w.2.2.2.1 3) &&& (-4128769 : Int32)) ||| (a1 <<< ((16 : Int32) &&& 31)))) 5 w.2.2.2.2.2.2.2.2.2.2.2.2.2.2.2.2.1) 8 (w.2.2.2.2.2.2.2.2.2.2.2.2.2.2.2.2.1 &&& (-128 : Int32)))) (upd (upd (upd (upd (upd (upd (upd w.2.2.2.1 1 ((w.2.2.2.1 0) &&& (7 : Int32))) 0 ((w.2.2.2.1 0) - ((w.2.2.2.1 0) &&& (7 : Int32)))) 4 w.2.2.2.2.2.2.2.2.2.1) 3 (((w.2.2.2.1 3) &&& (-4128769 : Int32)) ||| (a1 <<< ((16 : Int32) &&& 31)))) 5 w.2.2.2.2.2.2.2.2.2.2.2.2.2.2.2.2.1) 8 (w.2.2.2.2.2.2.2.2.2.2.2.2.2.2.2.2.1 &&& (-128 : Int32))) 0 (((w.2.2.2.1 0) - ((w.2.2.2.1 0) &&& (7 : Int32))) ||| (8 : Int32)))) (w.2.2.2.1 16))
      else
        (ms9 (ms3 (ms3 (ms3 (ms3 (ms3 (ms3 w (upd w.2.2.2.1 1 ((w.2.2.2.1 0) &&& (7 : Int32)))) (upd (upd w.2.2.2.1 1 ((w.2.2.2.1 0) &&& (7 : Int32))) 0 ((w.2.2.2.1 0) - ((w.2.2.2.1 0) &&& (7 : Int32))))) (upd (upd (upd w.2.2.2.1 1 ((w.2.2.2.1 0) &&& (7 : Int32))) 0 ((w.2.2.2.1 0) - ((w.2.2.2.1 0) &&& (7 : Int32)))) 4 w.2.2.2.2.2.2.2.2.2.1)) (upd (upd (upd (upd w.2.2.2.1 1 ((w.2.2.2.1 0) &&& (7 : Int32))) 0 ((w.2.2.2.1 0) - ((w.2.2.2.1 0) &&& (7 : Int32)))) 4 w.2.2.2.2.2.2.2.2.2.1) 3 (((w.2.2.2.1 3) &&& (-4128769 : Int32)) ||| (a1 <<< ((16 : Int32) &&& 31))))) (upd (upd (upd (upd (upd w.2.2.2.1 1 ((w.2.2.2.1 0) &&& (7 : Int32))) 0 ((w.2.2.2.1 0) - ((w.2.2.2.1 0) &&& (7 : Int32)))) 4 w.2.2.2.2.2.2.2.2.2.1) 3 (((w.2.2.2.1 3) &&& (-4128769 : Int32)) ||| (a1 <<< ((16 : Int32) &&& 31)))) 5 w.2.2.2.2.2.2.2.2.2.2.2.2.2.2.2.2.1)) (upd (upd (upd (upd (upd (upd w.2.2.2.1 1 ((w.2.2.2.1 0) &&& (7 : Int32))) 0 ((w.2.2.2.1 0) - ((w.2.2.2.1 0) &&& (7 : Int32)))) 4 w.2.2.2.2.2.2.2.2.2.1) 3 (((w.2.2.2.1 3) &&& (-4128769 : Int32)) ||| (a1 <<< ((16 : Int32) &&& 31)))) 5 w.2.2.2.2.2.2.2.2.2.2.2.2.2.2.2.2.1) 8 (w.2.2.2.2.2.2.2.2.2.2.2.2.2.2.2.2.1 &&& (-128 : Int32)))) (w.2.2.2.1 6))
set_option maxHeartbeats 4000000 in
set_option maxRecDepth 100000 in
theorem kX4_enter (l : Launch) (D : va_G) (k : Nat → ClassId) (z : Nat → Nat) (w : MD) (a1 : Int32)  (o : MD) (ho : fX4_enter w a1 = o) : Met l yX4_enter wsX4_enter { frames := 0, cells := 0, slots := 0, locals := 0 } (wr_P D vwCl (tyL k) (wM k z w) (fun _ => True) [.ref (z 0), .int a1]) (wr_Q D vwCl none (wM k z w) (wM k z o)) 0 0 (in_W (wM k z w)) := by
  refine Met.ofW (cc := cX4_enter) (maxL := 3) (ret := none) (by decide) rfl ?_
  intro p e s m args below meth c s₁ B hml hv0
  obtain ⟨rfl, hP, hK, hX, hD0⟩ := hv0
  have hx := B.exec
  have hb := B.bytes
  have hr := B.returns
  have hts := atoms_spec (ws := wsX4_enter) B.pre
  have hown : s.vm.findClass RX4 = some m.cls := findClass_of_methodNamed B.named
  have hlocks := B.notSynchronized
  have hD : va_D (in_W (wM k z w)) (wM k z w) := wD_self hD0
  have hS : va_S (in_W (wM k z w)) s.heap s.heap [] := va_S.rf
  have hl := lv_entry ([.ref (z 0), .int a1]) (n := 3) (Nat.le_of_ble_eq_true rfl)
  rw [lg_entry_eq]
  generalize (lg_sl ([.ref (z 0), .int a1]) ++ List.replicate (3 - (lg_sl ([.ref (z 0), .int a1])).length) Slot.unset).toArray = ls at hl ⊢
  have hl : lv_has ls 3 [(0, .ref (z 0)), (1, .int a1)] := hl
  refine lv_aload_n hx hb dX4_enter_0 rfl (lv_at hl 0 rfl) ?_
  refine va_get (D := D) (ci := 3) (v := .ref (z 3)) (C := RX4) (T := TX4) (N := 20) hx hb hts (by decide +kernel) hown hK hP 0 rfl rfl 3 (by decide) (hts (.fieldLink RX4 16 "TrapMachineModel" "control" "[I") (by decide +kernel)) (fun _ h9 => h9) rfl dX4_enter_1 ?_
  refine lv_iconst (v := (0 : Int32)) hx hb dX4_enter_4 (by decide) ?_
  refine q_iald (j := 0) (x9 := (w.2.2.2.1 0)) hx hb hK hP 3 0 rfl rfl (vi_k (by decide)) rfl rfl dX4_enter_5 ?_
  refine lv_bipush (v := (7 : Int32)) hx hb dX4_enter_6 (by decide) ?_
  refine lv_iand hx hb dX4_enter_8 ?_
  refine lv_istore_n (lv' := [(2, .int ((w.2.2.2.1 0) &&& (7 : Int32))), (0, .ref (z 0)), (1, .int a1)]) hx hb dX4_enter_9 rfl hl (by decide) rfl (fun ls hl => ?_)
  refine lv_aload_n hx hb dX4_enter_10 rfl (lv_at hl 1 rfl) ?_
  refine va_get (D := D) (ci := 3) (v := .ref (z 3)) (C := RX4) (T := TX4) (N := 20) hx hb hts (by decide +kernel) hown hK hP 0 rfl rfl 3 (by decide) (hts (.fieldLink RX4 16 "TrapMachineModel" "control" "[I") (by decide +kernel)) (fun _ h9 => h9) rfl dX4_enter_11 ?_
  refine lv_iconst (v := (1 : Int32)) hx hb dX4_enter_14 (by decide) ?_
  refine lv_iload_n hx hb dX4_enter_15 rfl (lv_at hl 0 rfl) ?_
  refine q_iast (j := 1) (ws' := wM k z (ms3 w (upd w.2.2.2.1 1 ((w.2.2.2.1 0) &&& (7 : Int32))))) hx hb hK hP hD hS 3 0 rfl rfl (vi_k (by decide)) rfl rfl dX4_enter_16 (fun H locs hP hD hS => ?_)
  refine lv_aload_n hx hb dX4_enter_17 rfl (lv_at hl 1 rfl) ?_
  refine va_get (D := D) (ci := 3) (v := .ref (z 3)) (C := RX4) (T := TX4) (N := 20) hx hb hts (by decide +kernel) hown hK hP 0 rfl rfl 3 (by decide) (hts (.fieldLink RX4 16 "TrapMachineModel" "control" "[I") (by decide +kernel)) (fun _ h9 => h9) rfl dX4_enter_18 ?_
  refine lv_iconst (v := (0 : Int32)) hx hb dX4_enter_21 (by decide) ?_
  refine lv_aload_n hx hb dX4_enter_22 rfl (lv_at hl 1 rfl) ?_
  refine va_get (D := D) (ci := 3) (v := .ref (z 3)) (C := RX4) (T := TX4) (N := 20) hx hb hts (by decide +kernel) hown hK hP 0 rfl rfl 3 (by decide) (hts (.fieldLink RX4 16 "TrapMachineModel" "control" "[I") (by decide +kernel)) (fun _ h9 => h9) rfl dX4_enter_23 ?_
  refine lv_iconst (v := (0 : Int32)) hx hb dX4_enter_26 (by decide) ?_
  refine q_iald (j := 0) (x9 := (w.2.2.2.1 0)) hx hb hK hP 3 0 rfl rfl (vi_k (by decide)) rfl rfl dX4_enter_27 ?_
  refine lv_iload_n hx hb dX4_enter_28 rfl (lv_at hl 0 rfl) ?_
  refine lv_isub hx hb dX4_enter_29 ?_
  refine q_iast (j := 0) (ws' := wM k z (ms3 (ms3 w (upd w.2.2.2.1 1 ((w.2.2.2.1 0) &&& (7 : Int32)))) (upd (upd w.2.2.2.1 1 ((w.2.2.2.1 0) &&& (7 : Int32))) 0 ((w.2.2.2.1 0) - ((w.2.2.2.1 0) &&& (7 : Int32)))))) hx hb hK hP hD hS 3 0 rfl rfl (vi_k (by decide)) rfl rfl dX4_enter_30 (fun H locs hP hD hS => ?_)
  refine lv_aload_n hx hb dX4_enter_31 rfl (lv_at hl 1 rfl) ?_
  refine va_get (D := D) (ci := 3) (v := .ref (z 3)) (C := RX4) (T := TX4) (N := 20) hx hb hts (by decide +kernel) hown hK hP 0 rfl rfl 3 (by decide) (hts (.fieldLink RX4 16 "TrapMachineModel" "control" "[I") (by decide +kernel)) (fun _ h9 => h9) rfl dX4_enter_32 ?_
  refine lv_iconst (v := (4 : Int32)) hx hb dX4_enter_35 (by decide) ?_
  refine lv_aload_n hx hb dX4_enter_36 rfl (lv_at hl 1 rfl) ?_
  refine va_get (D := D) (ci := 3) (v := .int w.2.2.2.2.2.2.2.2.2.1) (C := RX4) (T := TX4) (N := 20) hx hb hts (by decide +kernel) hown hK hP 0 rfl rfl 10 (by decide) (hts (.fieldLink RX4 51 "TrapMachineModel" "place" "I") (by decide +kernel)) (fun _ h9 => h9) rfl dX4_enter_37 ?_
  refine q_iast (j := 4) (ws' := wM k z (ms3 (ms3 (ms3 w (upd w.2.2.2.1 1 ((w.2.2.2.1 0) &&& (7 : Int32)))) (upd (upd w.2.2.2.1 1 ((w.2.2.2.1 0) &&& (7 : Int32))) 0 ((w.2.2.2.1 0) - ((w.2.2.2.1 0) &&& (7 : Int32))))) (upd (upd (upd w.2.2.2.1 1 ((w.2.2.2.1 0) &&& (7 : Int32))) 0 ((w.2.2.2.1 0) - ((w.2.2.2.1 0) &&& (7 : Int32)))) 4 w.2.2.2.2.2.2.2.2.2.1))) hx hb hK hP hD hS 3 0 rfl rfl (vi_k (by decide)) rfl rfl dX4_enter_40 (fun H locs hP hD hS => ?_)
  refine lv_aload_n hx hb dX4_enter_41 rfl (lv_at hl 1 rfl) ?_
  refine va_get (D := D) (ci := 3) (v := .ref (z 3)) (C := RX4) (T := TX4) (N := 20) hx hb hts (by decide +kernel) hown hK hP 0 rfl rfl 3 (by decide) (hts (.fieldLink RX4 16 "TrapMachineModel" "control" "[I") (by decide +kernel)) (fun _ h9 => h9) rfl dX4_enter_42 ?_
  refine lv_iconst (v := (3 : Int32)) hx hb dX4_enter_45 (by decide) ?_
  refine lv_aload_n hx hb dX4_enter_46 rfl (lv_at hl 1 rfl) ?_
  refine va_get (D := D) (ci := 3) (v := .ref (z 3)) (C := RX4) (T := TX4) (N := 20) hx hb hts (by decide +kernel) hown hK hP 0 rfl rfl 3 (by decide) (hts (.fieldLink RX4 16 "TrapMachineModel" "control" "[I") (by decide +kernel)) (fun _ h9 => h9) rfl dX4_enter_47 ?_
  refine lv_iconst (v := (3 : Int32)) hx hb dX4_enter_50 (by decide) ?_
  refine q_iald (j := 3) (x9 := (w.2.2.2.1 3)) hx hb hK hP 3 0 rfl rfl (vi_k (by decide)) rfl rfl dX4_enter_51 ?_
  refine lv_ldc (v := (-4128769 : Int32)) hx hb hown (hts (.constant RX4 54 (-4128769)) (by decide +kernel)) dX4_enter_52 ?_
  refine lv_iand hx hb dX4_enter_54 ?_
  refine lv_iload_n hx hb dX4_enter_55 rfl (lv_at hl 2 rfl) ?_
  refine lv_bipush (v := (16 : Int32)) hx hb dX4_enter_56 (by decide) ?_
  refine lv_ishl hx hb dX4_enter_58 ?_
  refine lv_ior hx hb dX4_enter_59 ?_
  refine q_iast (j := 3) (ws' := wM k z (ms3 (ms3 (ms3 (ms3 w (upd w.2.2.2.1 1 ((w.2.2.2.1 0) &&& (7 : Int32)))) (upd (upd w.2.2.2.1 1 ((w.2.2.2.1 0) &&& (7 : Int32))) 0 ((w.2.2.2.1 0) - ((w.2.2.2.1 0) &&& (7 : Int32))))) (upd (upd (upd w.2.2.2.1 1 ((w.2.2.2.1 0) &&& (7 : Int32))) 0 ((w.2.2.2.1 0) - ((w.2.2.2.1 0) &&& (7 : Int32)))) 4 w.2.2.2.2.2.2.2.2.2.1)) (upd (upd (upd (upd w.2.2.2.1 1 ((w.2.2.2.1 0) &&& (7 : Int32))) 0 ((w.2.2.2.1 0) - ((w.2.2.2.1 0) &&& (7 : Int32)))) 4 w.2.2.2.2.2.2.2.2.2.1) 3 (((w.2.2.2.1 3) &&& (-4128769 : Int32)) ||| (a1 <<< ((16 : Int32) &&& 31)))))) hx hb hK hP hD hS 3 0 rfl rfl (vi_k (by decide)) rfl rfl dX4_enter_60 (fun H locs hP hD hS => ?_)
  refine lv_aload_n hx hb dX4_enter_61 rfl (lv_at hl 1 rfl) ?_
  refine va_get (D := D) (ci := 3) (v := .int w.2.2.2.2.2.2.2.2.2.2.2.2.2.2.2.1) (C := RX4) (T := TX4) (N := 20) hx hb hts (by decide +kernel) hown hK hP 0 rfl rfl 16 (by decide) (hts (.fieldLink RX4 45 "TrapMachineModel" "brings" "I") (by decide +kernel)) (fun _ h9 => h9) rfl dX4_enter_62 ?_
  refine lv_if_le (tgt := 78) hx hb dX4_enter_65 (by decide) (fun c_65 => ?_) (fun c_65 => ?_)
  · refine lv_aload_n hx hb dX4_enter_78 rfl (lv_at hl 1 rfl) ?_
    refine va_get (D := D) (ci := 3) (v := .int w.2.2.2.2.2.2.2.2.2.2.2.2.2.2.2.1) (C := RX4) (T := TX4) (N := 20) hx hb hts (by decide +kernel) hown hK hP 0 rfl rfl 16 (by decide) (hts (.fieldLink RX4 45 "TrapMachineModel" "brings" "I") (by decide +kernel)) (fun _ h9 => h9) rfl dX4_enter_79 ?_
    refine lv_iconst (v := (1 : Int32)) hx hb dX4_enter_82 (by decide) ?_
    refine lv_icmp_le (tgt := 100) hx hb dX4_enter_83 (by decide) (fun c_83 => ?_) (fun c_83 => ?_)
    · refine lv_iload_n hx hb dX4_enter_100 rfl (lv_at hl 2 rfl) ?_
      refine lv_bipush (v := (63 : Int32)) hx hb dX4_enter_101 (by decide) ?_
      refine lv_icmp_ne (tgt := 117) hx hb dX4_enter_103 (by decide) (fun c_103 => ?_) (fun c_103 => ?_)
      · refine lv_aload_n hx hb dX4_enter_117 rfl (lv_at hl 1 rfl) ?_
        refine lv_iload_n hx hb dX4_enter_118 rfl (lv_at hl 2 rfl) ?_
        refine lv_bipush (v := (63 : Int32)) hx hb dX4_enter_119 (by decide) ?_
        refine lv_icmp_ne (tgt := 134) hx hb dX4_enter_121 (by decide) (fun _ => ?_) (fun c9 => absurd c9 c_103)
        refine lv_aload_n hx hb dX4_enter_134 rfl (lv_at hl 1 rfl) ?_
        refine va_get (D := D) (ci := 3) (v := .ref (z 3)) (C := RX4) (T := TX4) (N := 20) hx hb hts (by decide +kernel) hown hK hP 0 rfl rfl 3 (by decide) (hts (.fieldLink RX4 16 "TrapMachineModel" "control" "[I") (by decide +kernel)) (fun _ h9 => h9) rfl dX4_enter_135 ?_
        refine lv_bipush (v := (6 : Int32)) hx hb dX4_enter_138 (by decide) ?_
        refine q_iald (j := 6) (x9 := (w.2.2.2.1 6)) hx hb hK hP 3 0 rfl rfl (vi_k (by decide)) rfl rfl dX4_enter_140 ?_
        refine va_put (D := D) (ci := 3) (v := .int (w.2.2.2.1 6)) (ty := .int) (C := RX4) (T := TX4) (N := 20) hx hb hts (by decide +kernel) tyX4 tyX4_ok nmX4 hown hK hP hD hS 0 rfl rfl 10 (by decide) (hts (.fieldLink RX4 51 "TrapMachineModel" "place" "I") (by decide +kernel)) (fun _ h9 => h9) rfl (by decide +kernel) rfl rfl (Nat.le_of_ble_eq_true rfl) dX4_enter_141 (fun H locs hP hD hS => ?_)
        have hP : va_P D vwCl (wM k z (ms9 (ms3 (ms3 (ms3 (ms3 w (upd w.2.2.2.1 1 ((w.2.2.2.1 0) &&& (7 : Int32)))) (upd (upd w.2.2.2.1 1 ((w.2.2.2.1 0) &&& (7 : Int32))) 0 ((w.2.2.2.1 0) - ((w.2.2.2.1 0) &&& (7 : Int32))))) (upd (upd (upd w.2.2.2.1 1 ((w.2.2.2.1 0) &&& (7 : Int32))) 0 ((w.2.2.2.1 0) - ((w.2.2.2.1 0) &&& (7 : Int32)))) 4 w.2.2.2.2.2.2.2.2.2.1)) (upd (upd (upd (upd w.2.2.2.1 1 ((w.2.2.2.1 0) &&& (7 : Int32))) 0 ((w.2.2.2.1 0) - ((w.2.2.2.1 0) &&& (7 : Int32)))) 4 w.2.2.2.2.2.2.2.2.2.1) 3 (((w.2.2.2.1 3) &&& (-4128769 : Int32)) ||| (a1 <<< ((16 : Int32) &&& 31))))) (w.2.2.2.1 6))) H := hP
        have hD : va_D (in_W (wM k z w)) (wM k z (ms9 (ms3 (ms3 (ms3 (ms3 w (upd w.2.2.2.1 1 ((w.2.2.2.1 0) &&& (7 : Int32)))) (upd (upd w.2.2.2.1 1 ((w.2.2.2.1 0) &&& (7 : Int32))) 0 ((w.2.2.2.1 0) - ((w.2.2.2.1 0) &&& (7 : Int32))))) (upd (upd (upd w.2.2.2.1 1 ((w.2.2.2.1 0) &&& (7 : Int32))) 0 ((w.2.2.2.1 0) - ((w.2.2.2.1 0) &&& (7 : Int32)))) 4 w.2.2.2.2.2.2.2.2.2.1)) (upd (upd (upd (upd w.2.2.2.1 1 ((w.2.2.2.1 0) &&& (7 : Int32))) 0 ((w.2.2.2.1 0) - ((w.2.2.2.1 0) &&& (7 : Int32)))) 4 w.2.2.2.2.2.2.2.2.2.1) 3 (((w.2.2.2.1 3) &&& (-4128769 : Int32)) ||| (a1 <<< ((16 : Int32) &&& 31))))) (w.2.2.2.1 6))) := hD
        exact W.vret hx hb hr (wr_end rfl (congrArg (wM k z) ((show fX4_enter w a1 = (ms9 (ms3 (ms3 (ms3 (ms3 w (upd w.2.2.2.1 1 ((w.2.2.2.1 0) &&& (7 : Int32)))) (upd (upd w.2.2.2.1 1 ((w.2.2.2.1 0) &&& (7 : Int32))) 0 ((w.2.2.2.1 0) - ((w.2.2.2.1 0) &&& (7 : Int32))))) (upd (upd (upd w.2.2.2.1 1 ((w.2.2.2.1 0) &&& (7 : Int32))) 0 ((w.2.2.2.1 0) - ((w.2.2.2.1 0) &&& (7 : Int32)))) 4 w.2.2.2.2.2.2.2.2.2.1)) (upd (upd (upd (upd w.2.2.2.1 1 ((w.2.2.2.1 0) &&& (7 : Int32))) 0 ((w.2.2.2.1 0) - ((w.2.2.2.1 0) &&& (7 : Int32)))) 4 w.2.2.2.2.2.2.2.2.2.1) 3 (((w.2.2.2.1 3) &&& (-4128769 : Int32)) ||| (a1 <<< ((16 : Int32) &&& 31))))) (w.2.2.2.1 6)) from (if_pos c_65).trans ((if_pos c_83).trans ((if_neg c_103).trans rfl))).symm.trans ho)) hP hS) hS.2.2 dX4_enter_144
      · refine lv_aload_n hx hb dX4_enter_106 rfl (lv_at hl 1 rfl) ?_
        refine va_get (D := D) (ci := 3) (v := .ref (z 3)) (C := RX4) (T := TX4) (N := 20) hx hb hts (by decide +kernel) hown hK hP 0 rfl rfl 3 (by decide) (hts (.fieldLink RX4 16 "TrapMachineModel" "control" "[I") (by decide +kernel)) (fun _ h9 => h9) rfl dX4_enter_107 ?_
        refine lv_iconst (v := (0 : Int32)) hx hb dX4_enter_110 (by decide) ?_
        refine lv_dup2_11 hx hb dX4_enter_111 rfl rfl ?_
        refine q_iald (j := 0) (x9 := ((w.2.2.2.1 0) - ((w.2.2.2.1 0) &&& (7 : Int32)))) hx hb hK hP 3 0 rfl rfl (vi_k (by decide)) rfl rfl dX4_enter_112 ?_
        refine lv_bipush (v := (8 : Int32)) hx hb dX4_enter_113 (by decide) ?_
        refine lv_ior hx hb dX4_enter_115 ?_
        refine q_iast (j := 0) (ws' := wM k z (ms3 (ms3 (ms3 (ms3 (ms3 w (upd w.2.2.2.1 1 ((w.2.2.2.1 0) &&& (7 : Int32)))) (upd (upd w.2.2.2.1 1 ((w.2.2.2.1 0) &&& (7 : Int32))) 0 ((w.2.2.2.1 0) - ((w.2.2.2.1 0) &&& (7 : Int32))))) (upd (upd (upd w.2.2.2.1 1 ((w.2.2.2.1 0) &&& (7 : Int32))) 0 ((w.2.2.2.1 0) - ((w.2.2.2.1 0) &&& (7 : Int32)))) 4 w.2.2.2.2.2.2.2.2.2.1)) (upd (upd (upd (upd w.2.2.2.1 1 ((w.2.2.2.1 0) &&& (7 : Int32))) 0 ((w.2.2.2.1 0) - ((w.2.2.2.1 0) &&& (7 : Int32)))) 4 w.2.2.2.2.2.2.2.2.2.1) 3 (((w.2.2.2.1 3) &&& (-4128769 : Int32)) ||| (a1 <<< ((16 : Int32) &&& 31))))) (upd (upd (upd (upd (upd w.2.2.2.1 1 ((w.2.2.2.1 0) &&& (7 : Int32))) 0 ((w.2.2.2.1 0) - ((w.2.2.2.1 0) &&& (7 : Int32)))) 4 w.2.2.2.2.2.2.2.2.2.1) 3 (((w.2.2.2.1 3) &&& (-4128769 : Int32)) ||| (a1 <<< ((16 : Int32) &&& 31)))) 0 (((w.2.2.2.1 0) - ((w.2.2.2.1 0) &&& (7 : Int32))) ||| (8 : Int32))))) hx hb hK hP hD hS 3 0 rfl rfl (vi_k (by decide)) rfl rfl dX4_enter_116 (fun H locs hP hD hS => ?_)
        refine lv_aload_n hx hb dX4_enter_117 rfl (lv_at hl 1 rfl) ?_
        refine lv_iload_n hx hb dX4_enter_118 rfl (lv_at hl 2 rfl) ?_
        refine lv_bipush (v := (63 : Int32)) hx hb dX4_enter_119 (by decide) ?_
        refine lv_icmp_ne (tgt := 134) hx hb dX4_enter_121 (by decide) (fun c9 => absurd c_103 c9) (fun _ => ?_)
        refine lv_aload_n hx hb dX4_enter_124 rfl (lv_at hl 1 rfl) ?_
        refine va_get (D := D) (ci := 3) (v := .ref (z 3)) (C := RX4) (T := TX4) (N := 20) hx hb hts (by decide +kernel) hown hK hP 0 rfl rfl 3 (by decide) (hts (.fieldLink RX4 16 "TrapMachineModel" "control" "[I") (by decide +kernel)) (fun _ h9 => h9) rfl dX4_enter_125 ?_
        refine lv_bipush (v := (16 : Int32)) hx hb dX4_enter_128 (by decide) ?_
        refine q_iald (j := 16) (x9 := (w.2.2.2.1 16)) hx hb hK hP 3 0 rfl rfl (vi_k (by decide)) rfl rfl dX4_enter_130 ?_
        refine lv_goto (tgt := 141) hx hb dX4_enter_131 (by decide) ?_
        refine va_put (D := D) (ci := 3) (v := .int (w.2.2.2.1 16)) (ty := .int) (C := RX4) (T := TX4) (N := 20) hx hb hts (by decide +kernel) tyX4 tyX4_ok nmX4 hown hK hP hD hS 0 rfl rfl 10 (by decide) (hts (.fieldLink RX4 51 "TrapMachineModel" "place" "I") (by decide +kernel)) (fun _ h9 => h9) rfl (by decide +kernel) rfl rfl (Nat.le_of_ble_eq_true rfl) dX4_enter_141 (fun H locs hP hD hS => ?_)
        have hP : va_P D vwCl (wM k z (ms9 (ms3 (ms3 (ms3 (ms3 (ms3 w (upd w.2.2.2.1 1 ((w.2.2.2.1 0) &&& (7 : Int32)))) (upd (upd w.2.2.2.1 1 ((w.2.2.2.1 0) &&& (7 : Int32))) 0 ((w.2.2.2.1 0) - ((w.2.2.2.1 0) &&& (7 : Int32))))) (upd (upd (upd w.2.2.2.1 1 ((w.2.2.2.1 0) &&& (7 : Int32))) 0 ((w.2.2.2.1 0) - ((w.2.2.2.1 0) &&& (7 : Int32)))) 4 w.2.2.2.2.2.2.2.2.2.1)) (upd (upd (upd (upd w.2.2.2.1 1 ((w.2.2.2.1 0) &&& (7 : Int32))) 0 ((w.2.2.2.1 0) - ((w.2.2.2.1 0) &&& (7 : Int32)))) 4 w.2.2.2.2.2.2.2.2.2.1) 3 (((w.2.2.2.1 3) &&& (-4128769 : Int32)) ||| (a1 <<< ((16 : Int32) &&& 31))))) (upd (upd (upd (upd (upd w.2.2.2.1 1 ((w.2.2.2.1 0) &&& (7 : Int32))) 0 ((w.2.2.2.1 0) - ((w.2.2.2.1 0) &&& (7 : Int32)))) 4 w.2.2.2.2.2.2.2.2.2.1) 3 (((w.2.2.2.1 3) &&& (-4128769 : Int32)) ||| (a1 <<< ((16 : Int32) &&& 31)))) 0 (((w.2.2.2.1 0) - ((w.2.2.2.1 0) &&& (7 : Int32))) ||| (8 : Int32)))) (w.2.2.2.1 16))) H := hP
        have hD : va_D (in_W (wM k z w)) (wM k z (ms9 (ms3 (ms3 (ms3 (ms3 (ms3 w (upd w.2.2.2.1 1 ((w.2.2.2.1 0) &&& (7 : Int32)))) (upd (upd w.2.2.2.1 1 ((w.2.2.2.1 0) &&& (7 : Int32))) 0 ((w.2.2.2.1 0) - ((w.2.2.2.1 0) &&& (7 : Int32))))) (upd (upd (upd w.2.2.2.1 1 ((w.2.2.2.1 0) &&& (7 : Int32))) 0 ((w.2.2.2.1 0) - ((w.2.2.2.1 0) &&& (7 : Int32)))) 4 w.2.2.2.2.2.2.2.2.2.1)) (upd (upd (upd (upd w.2.2.2.1 1 ((w.2.2.2.1 0) &&& (7 : Int32))) 0 ((w.2.2.2.1 0) - ((w.2.2.2.1 0) &&& (7 : Int32)))) 4 w.2.2.2.2.2.2.2.2.2.1) 3 (((w.2.2.2.1 3) &&& (-4128769 : Int32)) ||| (a1 <<< ((16 : Int32) &&& 31))))) (upd (upd (upd (upd (upd w.2.2.2.1 1 ((w.2.2.2.1 0) &&& (7 : Int32))) 0 ((w.2.2.2.1 0) - ((w.2.2.2.1 0) &&& (7 : Int32)))) 4 w.2.2.2.2.2.2.2.2.2.1) 3 (((w.2.2.2.1 3) &&& (-4128769 : Int32)) ||| (a1 <<< ((16 : Int32) &&& 31)))) 0 (((w.2.2.2.1 0) - ((w.2.2.2.1 0) &&& (7 : Int32))) ||| (8 : Int32)))) (w.2.2.2.1 16))) := hD
        exact W.vret hx hb hr (wr_end rfl (congrArg (wM k z) ((show fX4_enter w a1 = (ms9 (ms3 (ms3 (ms3 (ms3 (ms3 w (upd w.2.2.2.1 1 ((w.2.2.2.1 0) &&& (7 : Int32)))) (upd (upd w.2.2.2.1 1 ((w.2.2.2.1 0) &&& (7 : Int32))) 0 ((w.2.2.2.1 0) - ((w.2.2.2.1 0) &&& (7 : Int32))))) (upd (upd (upd w.2.2.2.1 1 ((w.2.2.2.1 0) &&& (7 : Int32))) 0 ((w.2.2.2.1 0) - ((w.2.2.2.1 0) &&& (7 : Int32)))) 4 w.2.2.2.2.2.2.2.2.2.1)) (upd (upd (upd (upd w.2.2.2.1 1 ((w.2.2.2.1 0) &&& (7 : Int32))) 0 ((w.2.2.2.1 0) - ((w.2.2.2.1 0) &&& (7 : Int32)))) 4 w.2.2.2.2.2.2.2.2.2.1) 3 (((w.2.2.2.1 3) &&& (-4128769 : Int32)) ||| (a1 <<< ((16 : Int32) &&& 31))))) (upd (upd (upd (upd (upd w.2.2.2.1 1 ((w.2.2.2.1 0) &&& (7 : Int32))) 0 ((w.2.2.2.1 0) - ((w.2.2.2.1 0) &&& (7 : Int32)))) 4 w.2.2.2.2.2.2.2.2.2.1) 3 (((w.2.2.2.1 3) &&& (-4128769 : Int32)) ||| (a1 <<< ((16 : Int32) &&& 31)))) 0 (((w.2.2.2.1 0) - ((w.2.2.2.1 0) &&& (7 : Int32))) ||| (8 : Int32)))) (w.2.2.2.1 16)) from (if_pos c_65).trans ((if_pos c_83).trans ((if_pos c_103).trans rfl))).symm.trans ho)) hP hS) hS.2.2 dX4_enter_144
    · refine lv_aload_n hx hb dX4_enter_86 rfl (lv_at hl 1 rfl) ?_
      refine va_get (D := D) (ci := 3) (v := .ref (z 3)) (C := RX4) (T := TX4) (N := 20) hx hb hts (by decide +kernel) hown hK hP 0 rfl rfl 3 (by decide) (hts (.fieldLink RX4 16 "TrapMachineModel" "control" "[I") (by decide +kernel)) (fun _ h9 => h9) rfl dX4_enter_87 ?_
      refine lv_bipush (v := (8 : Int32)) hx hb dX4_enter_90 (by decide) ?_
      refine lv_aload_n hx hb dX4_enter_92 rfl (lv_at hl 1 rfl) ?_
      refine va_get (D := D) (ci := 3) (v := .int w.2.2.2.2.2.2.2.2.2.2.2.2.2.2.2.2.1) (C := RX4) (T := TX4) (N := 20) hx hb hts (by decide +kernel) hown hK hP 0 rfl rfl 17 (by decide) (hts (.fieldLink RX4 48 "TrapMachineModel" "broughtAt" "I") (by decide +kernel)) (fun _ h9 => h9) rfl dX4_enter_93 ?_
      refine lv_bipush (v := (-128 : Int32)) hx hb dX4_enter_96 (by decide) ?_
      refine lv_iand hx hb dX4_enter_98 ?_
      refine q_iast (j := 8) (ws' := wM k z (ms3 (ms3 (ms3 (ms3 (ms3 w (upd w.2.2.2.1 1 ((w.2.2.2.1 0) &&& (7 : Int32)))) (upd (upd w.2.2.2.1 1 ((w.2.2.2.1 0) &&& (7 : Int32))) 0 ((w.2.2.2.1 0) - ((w.2.2.2.1 0) &&& (7 : Int32))))) (upd (upd (upd w.2.2.2.1 1 ((w.2.2.2.1 0) &&& (7 : Int32))) 0 ((w.2.2.2.1 0) - ((w.2.2.2.1 0) &&& (7 : Int32)))) 4 w.2.2.2.2.2.2.2.2.2.1)) (upd (upd (upd (upd w.2.2.2.1 1 ((w.2.2.2.1 0) &&& (7 : Int32))) 0 ((w.2.2.2.1 0) - ((w.2.2.2.1 0) &&& (7 : Int32)))) 4 w.2.2.2.2.2.2.2.2.2.1) 3 (((w.2.2.2.1 3) &&& (-4128769 : Int32)) ||| (a1 <<< ((16 : Int32) &&& 31))))) (upd (upd (upd (upd (upd w.2.2.2.1 1 ((w.2.2.2.1 0) &&& (7 : Int32))) 0 ((w.2.2.2.1 0) - ((w.2.2.2.1 0) &&& (7 : Int32)))) 4 w.2.2.2.2.2.2.2.2.2.1) 3 (((w.2.2.2.1 3) &&& (-4128769 : Int32)) ||| (a1 <<< ((16 : Int32) &&& 31)))) 8 (w.2.2.2.2.2.2.2.2.2.2.2.2.2.2.2.2.1 &&& (-128 : Int32))))) hx hb hK hP hD hS 3 0 rfl rfl (vi_k (by decide)) rfl rfl dX4_enter_99 (fun H locs hP hD hS => ?_)
      refine lv_iload_n hx hb dX4_enter_100 rfl (lv_at hl 2 rfl) ?_
      refine lv_bipush (v := (63 : Int32)) hx hb dX4_enter_101 (by decide) ?_
      refine lv_icmp_ne (tgt := 117) hx hb dX4_enter_103 (by decide) (fun c_103 => ?_) (fun c_103 => ?_)
      · refine lv_aload_n hx hb dX4_enter_117 rfl (lv_at hl 1 rfl) ?_
        refine lv_iload_n hx hb dX4_enter_118 rfl (lv_at hl 2 rfl) ?_
        refine lv_bipush (v := (63 : Int32)) hx hb dX4_enter_119 (by decide) ?_
        refine lv_icmp_ne (tgt := 134) hx hb dX4_enter_121 (by decide) (fun _ => ?_) (fun c9 => absurd c9 c_103)
        refine lv_aload_n hx hb dX4_enter_134 rfl (lv_at hl 1 rfl) ?_
        refine va_get (D := D) (ci := 3) (v := .ref (z 3)) (C := RX4) (T := TX4) (N := 20) hx hb hts (by decide +kernel) hown hK hP 0 rfl rfl 3 (by decide) (hts (.fieldLink RX4 16 "TrapMachineModel" "control" "[I") (by decide +kernel)) (fun _ h9 => h9) rfl dX4_enter_135 ?_
        refine lv_bipush (v := (6 : Int32)) hx hb dX4_enter_138 (by decide) ?_
        refine q_iald (j := 6) (x9 := (w.2.2.2.1 6)) hx hb hK hP 3 0 rfl rfl (vi_k (by decide)) rfl rfl dX4_enter_140 ?_
        refine va_put (D := D) (ci := 3) (v := .int (w.2.2.2.1 6)) (ty := .int) (C := RX4) (T := TX4) (N := 20) hx hb hts (by decide +kernel) tyX4 tyX4_ok nmX4 hown hK hP hD hS 0 rfl rfl 10 (by decide) (hts (.fieldLink RX4 51 "TrapMachineModel" "place" "I") (by decide +kernel)) (fun _ h9 => h9) rfl (by decide +kernel) rfl rfl (Nat.le_of_ble_eq_true rfl) dX4_enter_141 (fun H locs hP hD hS => ?_)
        have hP : va_P D vwCl (wM k z (ms9 (ms3 (ms3 (ms3 (ms3 (ms3 w (upd w.2.2.2.1 1 ((w.2.2.2.1 0) &&& (7 : Int32)))) (upd (upd w.2.2.2.1 1 ((w.2.2.2.1 0) &&& (7 : Int32))) 0 ((w.2.2.2.1 0) - ((w.2.2.2.1 0) &&& (7 : Int32))))) (upd (upd (upd w.2.2.2.1 1 ((w.2.2.2.1 0) &&& (7 : Int32))) 0 ((w.2.2.2.1 0) - ((w.2.2.2.1 0) &&& (7 : Int32)))) 4 w.2.2.2.2.2.2.2.2.2.1)) (upd (upd (upd (upd w.2.2.2.1 1 ((w.2.2.2.1 0) &&& (7 : Int32))) 0 ((w.2.2.2.1 0) - ((w.2.2.2.1 0) &&& (7 : Int32)))) 4 w.2.2.2.2.2.2.2.2.2.1) 3 (((w.2.2.2.1 3) &&& (-4128769 : Int32)) ||| (a1 <<< ((16 : Int32) &&& 31))))) (upd (upd (upd (upd (upd w.2.2.2.1 1 ((w.2.2.2.1 0) &&& (7 : Int32))) 0 ((w.2.2.2.1 0) - ((w.2.2.2.1 0) &&& (7 : Int32)))) 4 w.2.2.2.2.2.2.2.2.2.1) 3 (((w.2.2.2.1 3) &&& (-4128769 : Int32)) ||| (a1 <<< ((16 : Int32) &&& 31)))) 8 (w.2.2.2.2.2.2.2.2.2.2.2.2.2.2.2.2.1 &&& (-128 : Int32)))) (w.2.2.2.1 6))) H := hP
        have hD : va_D (in_W (wM k z w)) (wM k z (ms9 (ms3 (ms3 (ms3 (ms3 (ms3 w (upd w.2.2.2.1 1 ((w.2.2.2.1 0) &&& (7 : Int32)))) (upd (upd w.2.2.2.1 1 ((w.2.2.2.1 0) &&& (7 : Int32))) 0 ((w.2.2.2.1 0) - ((w.2.2.2.1 0) &&& (7 : Int32))))) (upd (upd (upd w.2.2.2.1 1 ((w.2.2.2.1 0) &&& (7 : Int32))) 0 ((w.2.2.2.1 0) - ((w.2.2.2.1 0) &&& (7 : Int32)))) 4 w.2.2.2.2.2.2.2.2.2.1)) (upd (upd (upd (upd w.2.2.2.1 1 ((w.2.2.2.1 0) &&& (7 : Int32))) 0 ((w.2.2.2.1 0) - ((w.2.2.2.1 0) &&& (7 : Int32)))) 4 w.2.2.2.2.2.2.2.2.2.1) 3 (((w.2.2.2.1 3) &&& (-4128769 : Int32)) ||| (a1 <<< ((16 : Int32) &&& 31))))) (upd (upd (upd (upd (upd w.2.2.2.1 1 ((w.2.2.2.1 0) &&& (7 : Int32))) 0 ((w.2.2.2.1 0) - ((w.2.2.2.1 0) &&& (7 : Int32)))) 4 w.2.2.2.2.2.2.2.2.2.1) 3 (((w.2.2.2.1 3) &&& (-4128769 : Int32)) ||| (a1 <<< ((16 : Int32) &&& 31)))) 8 (w.2.2.2.2.2.2.2.2.2.2.2.2.2.2.2.2.1 &&& (-128 : Int32)))) (w.2.2.2.1 6))) := hD
        exact W.vret hx hb hr (wr_end rfl (congrArg (wM k z) ((show fX4_enter w a1 = (ms9 (ms3 (ms3 (ms3 (ms3 (ms3 w (upd w.2.2.2.1 1 ((w.2.2.2.1 0) &&& (7 : Int32)))) (upd (upd w.2.2.2.1 1 ((w.2.2.2.1 0) &&& (7 : Int32))) 0 ((w.2.2.2.1 0) - ((w.2.2.2.1 0) &&& (7 : Int32))))) (upd (upd (upd w.2.2.2.1 1 ((w.2.2.2.1 0) &&& (7 : Int32))) 0 ((w.2.2.2.1 0) - ((w.2.2.2.1 0) &&& (7 : Int32)))) 4 w.2.2.2.2.2.2.2.2.2.1)) (upd (upd (upd (upd w.2.2.2.1 1 ((w.2.2.2.1 0) &&& (7 : Int32))) 0 ((w.2.2.2.1 0) - ((w.2.2.2.1 0) &&& (7 : Int32)))) 4 w.2.2.2.2.2.2.2.2.2.1) 3 (((w.2.2.2.1 3) &&& (-4128769 : Int32)) ||| (a1 <<< ((16 : Int32) &&& 31))))) (upd (upd (upd (upd (upd w.2.2.2.1 1 ((w.2.2.2.1 0) &&& (7 : Int32))) 0 ((w.2.2.2.1 0) - ((w.2.2.2.1 0) &&& (7 : Int32)))) 4 w.2.2.2.2.2.2.2.2.2.1) 3 (((w.2.2.2.1 3) &&& (-4128769 : Int32)) ||| (a1 <<< ((16 : Int32) &&& 31)))) 8 (w.2.2.2.2.2.2.2.2.2.2.2.2.2.2.2.2.1 &&& (-128 : Int32)))) (w.2.2.2.1 6)) from (if_pos c_65).trans ((if_neg c_83).trans ((if_neg c_103).trans rfl))).symm.trans ho)) hP hS) hS.2.2 dX4_enter_144
      · refine lv_aload_n hx hb dX4_enter_106 rfl (lv_at hl 1 rfl) ?_
        refine va_get (D := D) (ci := 3) (v := .ref (z 3)) (C := RX4) (T := TX4) (N := 20) hx hb hts (by decide +kernel) hown hK hP 0 rfl rfl 3 (by decide) (hts (.fieldLink RX4 16 "TrapMachineModel" "control" "[I") (by decide +kernel)) (fun _ h9 => h9) rfl dX4_enter_107 ?_
        refine lv_iconst (v := (0 : Int32)) hx hb dX4_enter_110 (by decide) ?_
        refine lv_dup2_11 hx hb dX4_enter_111 rfl rfl ?_
        refine q_iald (j := 0) (x9 := ((w.2.2.2.1 0) - ((w.2.2.2.1 0) &&& (7 : Int32)))) hx hb hK hP 3 0 rfl rfl (vi_k (by decide)) rfl rfl dX4_enter_112 ?_
        refine lv_bipush (v := (8 : Int32)) hx hb dX4_enter_113 (by decide) ?_
        refine lv_ior hx hb dX4_enter_115 ?_
        refine q_iast (j := 0) (ws' := wM k z (ms3 (ms3 (ms3 (ms3 (ms3 (ms3 w (upd w.2.2.2.1 1 ((w.2.2.2.1 0) &&& (7 : Int32)))) (upd (upd w.2.2.2.1 1 ((w.2.2.2.1 0) &&& (7 : Int32))) 0 ((w.2.2.2.1 0) - ((w.2.2.2.1 0) &&& (7 : Int32))))) (upd (upd (upd w.2.2.2.1 1 ((w.2.2.2.1 0) &&& (7 : Int32))) 0 ((w.2.2.2.1 0) - ((w.2.2.2.1 0) &&& (7 : Int32)))) 4 w.2.2.2.2.2.2.2.2.2.1)) (upd (upd (upd (upd w.2.2.2.1 1 ((w.2.2.2.1 0) &&& (7 : Int32))) 0 ((w.2.2.2.1 0) - ((w.2.2.2.1 0) &&& (7 : Int32)))) 4 w.2.2.2.2.2.2.2.2.2.1) 3 (((w.2.2.2.1 3) &&& (-4128769 : Int32)) ||| (a1 <<< ((16 : Int32) &&& 31))))) (upd (upd (upd (upd (upd w.2.2.2.1 1 ((w.2.2.2.1 0) &&& (7 : Int32))) 0 ((w.2.2.2.1 0) - ((w.2.2.2.1 0) &&& (7 : Int32)))) 4 w.2.2.2.2.2.2.2.2.2.1) 3 (((w.2.2.2.1 3) &&& (-4128769 : Int32)) ||| (a1 <<< ((16 : Int32) &&& 31)))) 8 (w.2.2.2.2.2.2.2.2.2.2.2.2.2.2.2.2.1 &&& (-128 : Int32)))) (upd (upd (upd (upd (upd (upd w.2.2.2.1 1 ((w.2.2.2.1 0) &&& (7 : Int32))) 0 ((w.2.2.2.1 0) - ((w.2.2.2.1 0) &&& (7 : Int32)))) 4 w.2.2.2.2.2.2.2.2.2.1) 3 (((w.2.2.2.1 3) &&& (-4128769 : Int32)) ||| (a1 <<< ((16 : Int32) &&& 31)))) 8 (w.2.2.2.2.2.2.2.2.2.2.2.2.2.2.2.2.1 &&& (-128 : Int32))) 0 (((w.2.2.2.1 0) - ((w.2.2.2.1 0) &&& (7 : Int32))) ||| (8 : Int32))))) hx hb hK hP hD hS 3 0 rfl rfl (vi_k (by decide)) rfl rfl dX4_enter_116 (fun H locs hP hD hS => ?_)
        refine lv_aload_n hx hb dX4_enter_117 rfl (lv_at hl 1 rfl) ?_
        refine lv_iload_n hx hb dX4_enter_118 rfl (lv_at hl 2 rfl) ?_
        refine lv_bipush (v := (63 : Int32)) hx hb dX4_enter_119 (by decide) ?_
        refine lv_icmp_ne (tgt := 134) hx hb dX4_enter_121 (by decide) (fun c9 => absurd c_103 c9) (fun _ => ?_)
        refine lv_aload_n hx hb dX4_enter_124 rfl (lv_at hl 1 rfl) ?_
        refine va_get (D := D) (ci := 3) (v := .ref (z 3)) (C := RX4) (T := TX4) (N := 20) hx hb hts (by decide +kernel) hown hK hP 0 rfl rfl 3 (by decide) (hts (.fieldLink RX4 16 "TrapMachineModel" "control" "[I") (by decide +kernel)) (fun _ h9 => h9) rfl dX4_enter_125 ?_
        refine lv_bipush (v := (16 : Int32)) hx hb dX4_enter_128 (by decide) ?_
        refine q_iald (j := 16) (x9 := (w.2.2.2.1 16)) hx hb hK hP 3 0 rfl rfl (vi_k (by decide)) rfl rfl dX4_enter_130 ?_
        refine lv_goto (tgt := 141) hx hb dX4_enter_131 (by decide) ?_
        refine va_put (D := D) (ci := 3) (v := .int (w.2.2.2.1 16)) (ty := .int) (C := RX4) (T := TX4) (N := 20) hx hb hts (by decide +kernel) tyX4 tyX4_ok nmX4 hown hK hP hD hS 0 rfl rfl 10 (by decide) (hts (.fieldLink RX4 51 "TrapMachineModel" "place" "I") (by decide +kernel)) (fun _ h9 => h9) rfl (by decide +kernel) rfl rfl (Nat.le_of_ble_eq_true rfl) dX4_enter_141 (fun H locs hP hD hS => ?_)
        have hP : va_P D vwCl (wM k z (ms9 (ms3 (ms3 (ms3 (ms3 (ms3 (ms3 w (upd w.2.2.2.1 1 ((w.2.2.2.1 0) &&& (7 : Int32)))) (upd (upd w.2.2.2.1 1 ((w.2.2.2.1 0) &&& (7 : Int32))) 0 ((w.2.2.2.1 0) - ((w.2.2.2.1 0) &&& (7 : Int32))))) (upd (upd (upd w.2.2.2.1 1 ((w.2.2.2.1 0) &&& (7 : Int32))) 0 ((w.2.2.2.1 0) - ((w.2.2.2.1 0) &&& (7 : Int32)))) 4 w.2.2.2.2.2.2.2.2.2.1)) (upd (upd (upd (upd w.2.2.2.1 1 ((w.2.2.2.1 0) &&& (7 : Int32))) 0 ((w.2.2.2.1 0) - ((w.2.2.2.1 0) &&& (7 : Int32)))) 4 w.2.2.2.2.2.2.2.2.2.1) 3 (((w.2.2.2.1 3) &&& (-4128769 : Int32)) ||| (a1 <<< ((16 : Int32) &&& 31))))) (upd (upd (upd (upd (upd w.2.2.2.1 1 ((w.2.2.2.1 0) &&& (7 : Int32))) 0 ((w.2.2.2.1 0) - ((w.2.2.2.1 0) &&& (7 : Int32)))) 4 w.2.2.2.2.2.2.2.2.2.1) 3 (((w.2.2.2.1 3) &&& (-4128769 : Int32)) ||| (a1 <<< ((16 : Int32) &&& 31)))) 8 (w.2.2.2.2.2.2.2.2.2.2.2.2.2.2.2.2.1 &&& (-128 : Int32)))) (upd (upd (upd (upd (upd (upd w.2.2.2.1 1 ((w.2.2.2.1 0) &&& (7 : Int32))) 0 ((w.2.2.2.1 0) - ((w.2.2.2.1 0) &&& (7 : Int32)))) 4 w.2.2.2.2.2.2.2.2.2.1) 3 (((w.2.2.2.1 3) &&& (-4128769 : Int32)) ||| (a1 <<< ((16 : Int32) &&& 31)))) 8 (w.2.2.2.2.2.2.2.2.2.2.2.2.2.2.2.2.1 &&& (-128 : Int32))) 0 (((w.2.2.2.1 0) - ((w.2.2.2.1 0) &&& (7 : Int32))) ||| (8 : Int32)))) (w.2.2.2.1 16))) H := hP
        have hD : va_D (in_W (wM k z w)) (wM k z (ms9 (ms3 (ms3 (ms3 (ms3 (ms3 (ms3 w (upd w.2.2.2.1 1 ((w.2.2.2.1 0) &&& (7 : Int32)))) (upd (upd w.2.2.2.1 1 ((w.2.2.2.1 0) &&& (7 : Int32))) 0 ((w.2.2.2.1 0) - ((w.2.2.2.1 0) &&& (7 : Int32))))) (upd (upd (upd w.2.2.2.1 1 ((w.2.2.2.1 0) &&& (7 : Int32))) 0 ((w.2.2.2.1 0) - ((w.2.2.2.1 0) &&& (7 : Int32)))) 4 w.2.2.2.2.2.2.2.2.2.1)) (upd (upd (upd (upd w.2.2.2.1 1 ((w.2.2.2.1 0) &&& (7 : Int32))) 0 ((w.2.2.2.1 0) - ((w.2.2.2.1 0) &&& (7 : Int32)))) 4 w.2.2.2.2.2.2.2.2.2.1) 3 (((w.2.2.2.1 3) &&& (-4128769 : Int32)) ||| (a1 <<< ((16 : Int32) &&& 31))))) (upd (upd (upd (upd (upd w.2.2.2.1 1 ((w.2.2.2.1 0) &&& (7 : Int32))) 0 ((w.2.2.2.1 0) - ((w.2.2.2.1 0) &&& (7 : Int32)))) 4 w.2.2.2.2.2.2.2.2.2.1) 3 (((w.2.2.2.1 3) &&& (-4128769 : Int32)) ||| (a1 <<< ((16 : Int32) &&& 31)))) 8 (w.2.2.2.2.2.2.2.2.2.2.2.2.2.2.2.2.1 &&& (-128 : Int32)))) (upd (upd (upd (upd (upd (upd w.2.2.2.1 1 ((w.2.2.2.1 0) &&& (7 : Int32))) 0 ((w.2.2.2.1 0) - ((w.2.2.2.1 0) &&& (7 : Int32)))) 4 w.2.2.2.2.2.2.2.2.2.1) 3 (((w.2.2.2.1 3) &&& (-4128769 : Int32)) ||| (a1 <<< ((16 : Int32) &&& 31)))) 8 (w.2.2.2.2.2.2.2.2.2.2.2.2.2.2.2.2.1 &&& (-128 : Int32))) 0 (((w.2.2.2.1 0) - ((w.2.2.2.1 0) &&& (7 : Int32))) ||| (8 : Int32)))) (w.2.2.2.1 16))) := hD
        exact W.vret hx hb hr (wr_end rfl (congrArg (wM k z) ((show fX4_enter w a1 = (ms9 (ms3 (ms3 (ms3 (ms3 (ms3 (ms3 w (upd w.2.2.2.1 1 ((w.2.2.2.1 0) &&& (7 : Int32)))) (upd (upd w.2.2.2.1 1 ((w.2.2.2.1 0) &&& (7 : Int32))) 0 ((w.2.2.2.1 0) - ((w.2.2.2.1 0) &&& (7 : Int32))))) (upd (upd (upd w.2.2.2.1 1 ((w.2.2.2.1 0) &&& (7 : Int32))) 0 ((w.2.2.2.1 0) - ((w.2.2.2.1 0) &&& (7 : Int32)))) 4 w.2.2.2.2.2.2.2.2.2.1)) (upd (upd (upd (upd w.2.2.2.1 1 ((w.2.2.2.1 0) &&& (7 : Int32))) 0 ((w.2.2.2.1 0) - ((w.2.2.2.1 0) &&& (7 : Int32)))) 4 w.2.2.2.2.2.2.2.2.2.1) 3 (((w.2.2.2.1 3) &&& (-4128769 : Int32)) ||| (a1 <<< ((16 : Int32) &&& 31))))) (upd (upd (upd (upd (upd w.2.2.2.1 1 ((w.2.2.2.1 0) &&& (7 : Int32))) 0 ((w.2.2.2.1 0) - ((w.2.2.2.1 0) &&& (7 : Int32)))) 4 w.2.2.2.2.2.2.2.2.2.1) 3 (((w.2.2.2.1 3) &&& (-4128769 : Int32)) ||| (a1 <<< ((16 : Int32) &&& 31)))) 8 (w.2.2.2.2.2.2.2.2.2.2.2.2.2.2.2.2.1 &&& (-128 : Int32)))) (upd (upd (upd (upd (upd (upd w.2.2.2.1 1 ((w.2.2.2.1 0) &&& (7 : Int32))) 0 ((w.2.2.2.1 0) - ((w.2.2.2.1 0) &&& (7 : Int32)))) 4 w.2.2.2.2.2.2.2.2.2.1) 3 (((w.2.2.2.1 3) &&& (-4128769 : Int32)) ||| (a1 <<< ((16 : Int32) &&& 31)))) 8 (w.2.2.2.2.2.2.2.2.2.2.2.2.2.2.2.2.1 &&& (-128 : Int32))) 0 (((w.2.2.2.1 0) - ((w.2.2.2.1 0) &&& (7 : Int32))) ||| (8 : Int32)))) (w.2.2.2.1 16)) from (if_pos c_65).trans ((if_neg c_83).trans ((if_pos c_103).trans rfl))).symm.trans ho)) hP hS) hS.2.2 dX4_enter_144
  · refine lv_aload_n hx hb dX4_enter_68 rfl (lv_at hl 1 rfl) ?_
    refine va_get (D := D) (ci := 3) (v := .ref (z 3)) (C := RX4) (T := TX4) (N := 20) hx hb hts (by decide +kernel) hown hK hP 0 rfl rfl 3 (by decide) (hts (.fieldLink RX4 16 "TrapMachineModel" "control" "[I") (by decide +kernel)) (fun _ h9 => h9) rfl dX4_enter_69 ?_
    refine lv_iconst (v := (5 : Int32)) hx hb dX4_enter_72 (by decide) ?_
    refine lv_aload_n hx hb dX4_enter_73 rfl (lv_at hl 1 rfl) ?_
    refine va_get (D := D) (ci := 3) (v := .int w.2.2.2.2.2.2.2.2.2.2.2.2.2.2.2.2.1) (C := RX4) (T := TX4) (N := 20) hx hb hts (by decide +kernel) hown hK hP 0 rfl rfl 17 (by decide) (hts (.fieldLink RX4 48 "TrapMachineModel" "broughtAt" "I") (by decide +kernel)) (fun _ h9 => h9) rfl dX4_enter_74 ?_
    refine q_iast (j := 5) (ws' := wM k z (ms3 (ms3 (ms3 (ms3 (ms3 w (upd w.2.2.2.1 1 ((w.2.2.2.1 0) &&& (7 : Int32)))) (upd (upd w.2.2.2.1 1 ((w.2.2.2.1 0) &&& (7 : Int32))) 0 ((w.2.2.2.1 0) - ((w.2.2.2.1 0) &&& (7 : Int32))))) (upd (upd (upd w.2.2.2.1 1 ((w.2.2.2.1 0) &&& (7 : Int32))) 0 ((w.2.2.2.1 0) - ((w.2.2.2.1 0) &&& (7 : Int32)))) 4 w.2.2.2.2.2.2.2.2.2.1)) (upd (upd (upd (upd w.2.2.2.1 1 ((w.2.2.2.1 0) &&& (7 : Int32))) 0 ((w.2.2.2.1 0) - ((w.2.2.2.1 0) &&& (7 : Int32)))) 4 w.2.2.2.2.2.2.2.2.2.1) 3 (((w.2.2.2.1 3) &&& (-4128769 : Int32)) ||| (a1 <<< ((16 : Int32) &&& 31))))) (upd (upd (upd (upd (upd w.2.2.2.1 1 ((w.2.2.2.1 0) &&& (7 : Int32))) 0 ((w.2.2.2.1 0) - ((w.2.2.2.1 0) &&& (7 : Int32)))) 4 w.2.2.2.2.2.2.2.2.2.1) 3 (((w.2.2.2.1 3) &&& (-4128769 : Int32)) ||| (a1 <<< ((16 : Int32) &&& 31)))) 5 w.2.2.2.2.2.2.2.2.2.2.2.2.2.2.2.2.1))) hx hb hK hP hD hS 3 0 rfl rfl (vi_k (by decide)) rfl rfl dX4_enter_77 (fun H locs hP hD hS => ?_)
    refine lv_aload_n hx hb dX4_enter_78 rfl (lv_at hl 1 rfl) ?_
    refine va_get (D := D) (ci := 3) (v := .int w.2.2.2.2.2.2.2.2.2.2.2.2.2.2.2.1) (C := RX4) (T := TX4) (N := 20) hx hb hts (by decide +kernel) hown hK hP 0 rfl rfl 16 (by decide) (hts (.fieldLink RX4 45 "TrapMachineModel" "brings" "I") (by decide +kernel)) (fun _ h9 => h9) rfl dX4_enter_79 ?_
    refine lv_iconst (v := (1 : Int32)) hx hb dX4_enter_82 (by decide) ?_
    refine lv_icmp_le (tgt := 100) hx hb dX4_enter_83 (by decide) (fun c_83 => ?_) (fun c_83 => ?_)
    · refine lv_iload_n hx hb dX4_enter_100 rfl (lv_at hl 2 rfl) ?_
      refine lv_bipush (v := (63 : Int32)) hx hb dX4_enter_101 (by decide) ?_
      refine lv_icmp_ne (tgt := 117) hx hb dX4_enter_103 (by decide) (fun c_103 => ?_) (fun c_103 => ?_)
      · refine lv_aload_n hx hb dX4_enter_117 rfl (lv_at hl 1 rfl) ?_
        refine lv_iload_n hx hb dX4_enter_118 rfl (lv_at hl 2 rfl) ?_
        refine lv_bipush (v := (63 : Int32)) hx hb dX4_enter_119 (by decide) ?_
        refine lv_icmp_ne (tgt := 134) hx hb dX4_enter_121 (by decide) (fun _ => ?_) (fun c9 => absurd c9 c_103)
        refine lv_aload_n hx hb dX4_enter_134 rfl (lv_at hl 1 rfl) ?_
        refine va_get (D := D) (ci := 3) (v := .ref (z 3)) (C := RX4) (T := TX4) (N := 20) hx hb hts (by decide +kernel) hown hK hP 0 rfl rfl 3 (by decide) (hts (.fieldLink RX4 16 "TrapMachineModel" "control" "[I") (by decide +kernel)) (fun _ h9 => h9) rfl dX4_enter_135 ?_
        refine lv_bipush (v := (6 : Int32)) hx hb dX4_enter_138 (by decide) ?_
        refine q_iald (j := 6) (x9 := (w.2.2.2.1 6)) hx hb hK hP 3 0 rfl rfl (vi_k (by decide)) rfl rfl dX4_enter_140 ?_
        refine va_put (D := D) (ci := 3) (v := .int (w.2.2.2.1 6)) (ty := .int) (C := RX4) (T := TX4) (N := 20) hx hb hts (by decide +kernel) tyX4 tyX4_ok nmX4 hown hK hP hD hS 0 rfl rfl 10 (by decide) (hts (.fieldLink RX4 51 "TrapMachineModel" "place" "I") (by decide +kernel)) (fun _ h9 => h9) rfl (by decide +kernel) rfl rfl (Nat.le_of_ble_eq_true rfl) dX4_enter_141 (fun H locs hP hD hS => ?_)
        have hP : va_P D vwCl (wM k z (ms9 (ms3 (ms3 (ms3 (ms3 (ms3 w (upd w.2.2.2.1 1 ((w.2.2.2.1 0) &&& (7 : Int32)))) (upd (upd w.2.2.2.1 1 ((w.2.2.2.1 0) &&& (7 : Int32))) 0 ((w.2.2.2.1 0) - ((w.2.2.2.1 0) &&& (7 : Int32))))) (upd (upd (upd w.2.2.2.1 1 ((w.2.2.2.1 0) &&& (7 : Int32))) 0 ((w.2.2.2.1 0) - ((w.2.2.2.1 0) &&& (7 : Int32)))) 4 w.2.2.2.2.2.2.2.2.2.1)) (upd (upd (upd (upd w.2.2.2.1 1 ((w.2.2.2.1 0) &&& (7 : Int32))) 0 ((w.2.2.2.1 0) - ((w.2.2.2.1 0) &&& (7 : Int32)))) 4 w.2.2.2.2.2.2.2.2.2.1) 3 (((w.2.2.2.1 3) &&& (-4128769 : Int32)) ||| (a1 <<< ((16 : Int32) &&& 31))))) (upd (upd (upd (upd (upd w.2.2.2.1 1 ((w.2.2.2.1 0) &&& (7 : Int32))) 0 ((w.2.2.2.1 0) - ((w.2.2.2.1 0) &&& (7 : Int32)))) 4 w.2.2.2.2.2.2.2.2.2.1) 3 (((w.2.2.2.1 3) &&& (-4128769 : Int32)) ||| (a1 <<< ((16 : Int32) &&& 31)))) 5 w.2.2.2.2.2.2.2.2.2.2.2.2.2.2.2.2.1)) (w.2.2.2.1 6))) H := hP
        have hD : va_D (in_W (wM k z w)) (wM k z (ms9 (ms3 (ms3 (ms3 (ms3 (ms3 w (upd w.2.2.2.1 1 ((w.2.2.2.1 0) &&& (7 : Int32)))) (upd (upd w.2.2.2.1 1 ((w.2.2.2.1 0) &&& (7 : Int32))) 0 ((w.2.2.2.1 0) - ((w.2.2.2.1 0) &&& (7 : Int32))))) (upd (upd (upd w.2.2.2.1 1 ((w.2.2.2.1 0) &&& (7 : Int32))) 0 ((w.2.2.2.1 0) - ((w.2.2.2.1 0) &&& (7 : Int32)))) 4 w.2.2.2.2.2.2.2.2.2.1)) (upd (upd (upd (upd w.2.2.2.1 1 ((w.2.2.2.1 0) &&& (7 : Int32))) 0 ((w.2.2.2.1 0) - ((w.2.2.2.1 0) &&& (7 : Int32)))) 4 w.2.2.2.2.2.2.2.2.2.1) 3 (((w.2.2.2.1 3) &&& (-4128769 : Int32)) ||| (a1 <<< ((16 : Int32) &&& 31))))) (upd (upd (upd (upd (upd w.2.2.2.1 1 ((w.2.2.2.1 0) &&& (7 : Int32))) 0 ((w.2.2.2.1 0) - ((w.2.2.2.1 0) &&& (7 : Int32)))) 4 w.2.2.2.2.2.2.2.2.2.1) 3 (((w.2.2.2.1 3) &&& (-4128769 : Int32)) ||| (a1 <<< ((16 : Int32) &&& 31)))) 5 w.2.2.2.2.2.2.2.2.2.2.2.2.2.2.2.2.1)) (w.2.2.2.1 6))) := hD
        exact W.vret hx hb hr (wr_end rfl (congrArg (wM k z) ((show fX4_enter w a1 = (ms9 (ms3 (ms3 (ms3 (ms3 (ms3 w (upd w.2.2.2.1 1 ((w.2.2.2.1 0) &&& (7 : Int32)))) (upd (upd w.2.2.2.1 1 ((w.2.2.2.1 0) &&& (7 : Int32))) 0 ((w.2.2.2.1 0) - ((w.2.2.2.1 0) &&& (7 : Int32))))) (upd (upd (upd w.2.2.2.1 1 ((w.2.2.2.1 0) &&& (7 : Int32))) 0 ((w.2.2.2.1 0) - ((w.2.2.2.1 0) &&& (7 : Int32)))) 4 w.2.2.2.2.2.2.2.2.2.1)) (upd (upd (upd (upd w.2.2.2.1 1 ((w.2.2.2.1 0) &&& (7 : Int32))) 0 ((w.2.2.2.1 0) - ((w.2.2.2.1 0) &&& (7 : Int32)))) 4 w.2.2.2.2.2.2.2.2.2.1) 3 (((w.2.2.2.1 3) &&& (-4128769 : Int32)) ||| (a1 <<< ((16 : Int32) &&& 31))))) (upd (upd (upd (upd (upd w.2.2.2.1 1 ((w.2.2.2.1 0) &&& (7 : Int32))) 0 ((w.2.2.2.1 0) - ((w.2.2.2.1 0) &&& (7 : Int32)))) 4 w.2.2.2.2.2.2.2.2.2.1) 3 (((w.2.2.2.1 3) &&& (-4128769 : Int32)) ||| (a1 <<< ((16 : Int32) &&& 31)))) 5 w.2.2.2.2.2.2.2.2.2.2.2.2.2.2.2.2.1)) (w.2.2.2.1 6)) from (if_neg c_65).trans ((if_pos c_83).trans ((if_neg c_103).trans rfl))).symm.trans ho)) hP hS) hS.2.2 dX4_enter_144
      · refine lv_aload_n hx hb dX4_enter_106 rfl (lv_at hl 1 rfl) ?_
        refine va_get (D := D) (ci := 3) (v := .ref (z 3)) (C := RX4) (T := TX4) (N := 20) hx hb hts (by decide +kernel) hown hK hP 0 rfl rfl 3 (by decide) (hts (.fieldLink RX4 16 "TrapMachineModel" "control" "[I") (by decide +kernel)) (fun _ h9 => h9) rfl dX4_enter_107 ?_
        refine lv_iconst (v := (0 : Int32)) hx hb dX4_enter_110 (by decide) ?_
        refine lv_dup2_11 hx hb dX4_enter_111 rfl rfl ?_
        refine q_iald (j := 0) (x9 := ((w.2.2.2.1 0) - ((w.2.2.2.1 0) &&& (7 : Int32)))) hx hb hK hP 3 0 rfl rfl (vi_k (by decide)) rfl rfl dX4_enter_112 ?_
        refine lv_bipush (v := (8 : Int32)) hx hb dX4_enter_113 (by decide) ?_
        refine lv_ior hx hb dX4_enter_115 ?_
        refine q_iast (j := 0) (ws' := wM k z (ms3 (ms3 (ms3 (ms3 (ms3 (ms3 w (upd w.2.2.2.1 1 ((w.2.2.2.1 0) &&& (7 : Int32)))) (upd (upd w.2.2.2.1 1 ((w.2.2.2.1 0) &&& (7 : Int32))) 0 ((w.2.2.2.1 0) - ((w.2.2.2.1 0) &&& (7 : Int32))))) (upd (upd (upd w.2.2.2.1 1 ((w.2.2.2.1 0) &&& (7 : Int32))) 0 ((w.2.2.2.1 0) - ((w.2.2.2.1 0) &&& (7 : Int32)))) 4 w.2.2.2.2.2.2.2.2.2.1)) (upd (upd (upd (upd w.2.2.2.1 1 ((w.2.2.2.1 0) &&& (7 : Int32))) 0 ((w.2.2.2.1 0) - ((w.2.2.2.1 0) &&& (7 : Int32)))) 4 w.2.2.2.2.2.2.2.2.2.1) 3 (((w.2.2.2.1 3) &&& (-4128769 : Int32)) ||| (a1 <<< ((16 : Int32) &&& 31))))) (upd (upd (upd (upd (upd w.2.2.2.1 1 ((w.2.2.2.1 0) &&& (7 : Int32))) 0 ((w.2.2.2.1 0) - ((w.2.2.2.1 0) &&& (7 : Int32)))) 4 w.2.2.2.2.2.2.2.2.2.1) 3 (((w.2.2.2.1 3) &&& (-4128769 : Int32)) ||| (a1 <<< ((16 : Int32) &&& 31)))) 5 w.2.2.2.2.2.2.2.2.2.2.2.2.2.2.2.2.1)) (upd (upd (upd (upd (upd (upd w.2.2.2.1 1 ((w.2.2.2.1 0) &&& (7 : Int32))) 0 ((w.2.2.2.1 0) - ((w.2.2.2.1 0) &&& (7 : Int32)))) 4 w.2.2.2.2.2.2.2.2.2.1) 3 (((w.2.2.2.1 3) &&& (-4128769 : Int32)) ||| (a1 <<< ((16 : Int32) &&& 31)))) 5 w.2.2.2.2.2.2.2.2.2.2.2.2.2.2.2.2.1) 0 (((w.2.2.2.1 0) - ((w.2.2.2.1 0) &&& (7 : Int32))) ||| (8 : Int32))))) hx hb hK hP hD hS 3 0 rfl rfl (vi_k (by decide)) rfl rfl dX4_enter_116 (fun H locs hP hD hS => ?_)
        refine lv_aload_n hx hb dX4_enter_117 rfl (lv_at hl 1 rfl) ?_
        refine lv_iload_n hx hb dX4_enter_118 rfl (lv_at hl 2 rfl) ?_
        refine lv_bipush (v := (63 : Int32)) hx hb dX4_enter_119 (by decide) ?_
        refine lv_icmp_ne (tgt := 134) hx hb dX4_enter_121 (by decide) (fun c9 => absurd c_103 c9) (fun _ => ?_)
        refine lv_aload_n hx hb dX4_enter_124 rfl (lv_at hl 1 rfl) ?_
        refine va_get (D := D) (ci := 3) (v := .ref (z 3)) (C := RX4) (T := TX4) (N := 20) hx hb hts (by decide +kernel) hown hK hP 0 rfl rfl 3 (by decide) (hts (.fieldLink RX4 16 "TrapMachineModel" "control" "[I") (by decide +kernel)) (fun _ h9 => h9) rfl dX4_enter_125 ?_
        refine lv_bipush (v := (16 : Int32)) hx hb dX4_enter_128 (by decide) ?_
        refine q_iald (j := 16) (x9 := (w.2.2.2.1 16)) hx hb hK hP 3 0 rfl rfl (vi_k (by decide)) rfl rfl dX4_enter_130 ?_
        refine lv_goto (tgt := 141) hx hb dX4_enter_131 (by decide) ?_
        refine va_put (D := D) (ci := 3) (v := .int (w.2.2.2.1 16)) (ty := .int) (C := RX4) (T := TX4) (N := 20) hx hb hts (by decide +kernel) tyX4 tyX4_ok nmX4 hown hK hP hD hS 0 rfl rfl 10 (by decide) (hts (.fieldLink RX4 51 "TrapMachineModel" "place" "I") (by decide +kernel)) (fun _ h9 => h9) rfl (by decide +kernel) rfl rfl (Nat.le_of_ble_eq_true rfl) dX4_enter_141 (fun H locs hP hD hS => ?_)
        have hP : va_P D vwCl (wM k z (ms9 (ms3 (ms3 (ms3 (ms3 (ms3 (ms3 w (upd w.2.2.2.1 1 ((w.2.2.2.1 0) &&& (7 : Int32)))) (upd (upd w.2.2.2.1 1 ((w.2.2.2.1 0) &&& (7 : Int32))) 0 ((w.2.2.2.1 0) - ((w.2.2.2.1 0) &&& (7 : Int32))))) (upd (upd (upd w.2.2.2.1 1 ((w.2.2.2.1 0) &&& (7 : Int32))) 0 ((w.2.2.2.1 0) - ((w.2.2.2.1 0) &&& (7 : Int32)))) 4 w.2.2.2.2.2.2.2.2.2.1)) (upd (upd (upd (upd w.2.2.2.1 1 ((w.2.2.2.1 0) &&& (7 : Int32))) 0 ((w.2.2.2.1 0) - ((w.2.2.2.1 0) &&& (7 : Int32)))) 4 w.2.2.2.2.2.2.2.2.2.1) 3 (((w.2.2.2.1 3) &&& (-4128769 : Int32)) ||| (a1 <<< ((16 : Int32) &&& 31))))) (upd (upd (upd (upd (upd w.2.2.2.1 1 ((w.2.2.2.1 0) &&& (7 : Int32))) 0 ((w.2.2.2.1 0) - ((w.2.2.2.1 0) &&& (7 : Int32)))) 4 w.2.2.2.2.2.2.2.2.2.1) 3 (((w.2.2.2.1 3) &&& (-4128769 : Int32)) ||| (a1 <<< ((16 : Int32) &&& 31)))) 5 w.2.2.2.2.2.2.2.2.2.2.2.2.2.2.2.2.1)) (upd (upd (upd (upd (upd (upd w.2.2.2.1 1 ((w.2.2.2.1 0) &&& (7 : Int32))) 0 ((w.2.2.2.1 0) - ((w.2.2.2.1 0) &&& (7 : Int32)))) 4 w.2.2.2.2.2.2.2.2.2.1) 3 (((w.2.2.2.1 3) &&& (-4128769 : Int32)) ||| (a1 <<< ((16 : Int32) &&& 31)))) 5 w.2.2.2.2.2.2.2.2.2.2.2.2.2.2.2.2.1) 0 (((w.2.2.2.1 0) - ((w.2.2.2.1 0) &&& (7 : Int32))) ||| (8 : Int32)))) (w.2.2.2.1 16))) H := hP
        have hD : va_D (in_W (wM k z w)) (wM k z (ms9 (ms3 (ms3 (ms3 (ms3 (ms3 (ms3 w (upd w.2.2.2.1 1 ((w.2.2.2.1 0) &&& (7 : Int32)))) (upd (upd w.2.2.2.1 1 ((w.2.2.2.1 0) &&& (7 : Int32))) 0 ((w.2.2.2.1 0) - ((w.2.2.2.1 0) &&& (7 : Int32))))) (upd (upd (upd w.2.2.2.1 1 ((w.2.2.2.1 0) &&& (7 : Int32))) 0 ((w.2.2.2.1 0) - ((w.2.2.2.1 0) &&& (7 : Int32)))) 4 w.2.2.2.2.2.2.2.2.2.1)) (upd (upd (upd (upd w.2.2.2.1 1 ((w.2.2.2.1 0) &&& (7 : Int32))) 0 ((w.2.2.2.1 0) - ((w.2.2.2.1 0) &&& (7 : Int32)))) 4 w.2.2.2.2.2.2.2.2.2.1) 3 (((w.2.2.2.1 3) &&& (-4128769 : Int32)) ||| (a1 <<< ((16 : Int32) &&& 31))))) (upd (upd (upd (upd (upd w.2.2.2.1 1 ((w.2.2.2.1 0) &&& (7 : Int32))) 0 ((w.2.2.2.1 0) - ((w.2.2.2.1 0) &&& (7 : Int32)))) 4 w.2.2.2.2.2.2.2.2.2.1) 3 (((w.2.2.2.1 3) &&& (-4128769 : Int32)) ||| (a1 <<< ((16 : Int32) &&& 31)))) 5 w.2.2.2.2.2.2.2.2.2.2.2.2.2.2.2.2.1)) (upd (upd (upd (upd (upd (upd w.2.2.2.1 1 ((w.2.2.2.1 0) &&& (7 : Int32))) 0 ((w.2.2.2.1 0) - ((w.2.2.2.1 0) &&& (7 : Int32)))) 4 w.2.2.2.2.2.2.2.2.2.1) 3 (((w.2.2.2.1 3) &&& (-4128769 : Int32)) ||| (a1 <<< ((16 : Int32) &&& 31)))) 5 w.2.2.2.2.2.2.2.2.2.2.2.2.2.2.2.2.1) 0 (((w.2.2.2.1 0) - ((w.2.2.2.1 0) &&& (7 : Int32))) ||| (8 : Int32)))) (w.2.2.2.1 16))) := hD
        exact W.vret hx hb hr (wr_end rfl (congrArg (wM k z) ((show fX4_enter w a1 = (ms9 (ms3 (ms3 (ms3 (ms3 (ms3 (ms3 w (upd w.2.2.2.1 1 ((w.2.2.2.1 0) &&& (7 : Int32)))) (upd (upd w.2.2.2.1 1 ((w.2.2.2.1 0) &&& (7 : Int32))) 0 ((w.2.2.2.1 0) - ((w.2.2.2.1 0) &&& (7 : Int32))))) (upd (upd (upd w.2.2.2.1 1 ((w.2.2.2.1 0) &&& (7 : Int32))) 0 ((w.2.2.2.1 0) - ((w.2.2.2.1 0) &&& (7 : Int32)))) 4 w.2.2.2.2.2.2.2.2.2.1)) (upd (upd (upd (upd w.2.2.2.1 1 ((w.2.2.2.1 0) &&& (7 : Int32))) 0 ((w.2.2.2.1 0) - ((w.2.2.2.1 0) &&& (7 : Int32)))) 4 w.2.2.2.2.2.2.2.2.2.1) 3 (((w.2.2.2.1 3) &&& (-4128769 : Int32)) ||| (a1 <<< ((16 : Int32) &&& 31))))) (upd (upd (upd (upd (upd w.2.2.2.1 1 ((w.2.2.2.1 0) &&& (7 : Int32))) 0 ((w.2.2.2.1 0) - ((w.2.2.2.1 0) &&& (7 : Int32)))) 4 w.2.2.2.2.2.2.2.2.2.1) 3 (((w.2.2.2.1 3) &&& (-4128769 : Int32)) ||| (a1 <<< ((16 : Int32) &&& 31)))) 5 w.2.2.2.2.2.2.2.2.2.2.2.2.2.2.2.2.1)) (upd (upd (upd (upd (upd (upd w.2.2.2.1 1 ((w.2.2.2.1 0) &&& (7 : Int32))) 0 ((w.2.2.2.1 0) - ((w.2.2.2.1 0) &&& (7 : Int32)))) 4 w.2.2.2.2.2.2.2.2.2.1) 3 (((w.2.2.2.1 3) &&& (-4128769 : Int32)) ||| (a1 <<< ((16 : Int32) &&& 31)))) 5 w.2.2.2.2.2.2.2.2.2.2.2.2.2.2.2.2.1) 0 (((w.2.2.2.1 0) - ((w.2.2.2.1 0) &&& (7 : Int32))) ||| (8 : Int32)))) (w.2.2.2.1 16)) from (if_neg c_65).trans ((if_pos c_83).trans ((if_pos c_103).trans rfl))).symm.trans ho)) hP hS) hS.2.2 dX4_enter_144
    · refine lv_aload_n hx hb dX4_enter_86 rfl (lv_at hl 1 rfl) ?_
      refine va_get (D := D) (ci := 3) (v := .ref (z 3)) (C := RX4) (T := TX4) (N := 20) hx hb hts (by decide +kernel) hown hK hP 0 rfl rfl 3 (by decide) (hts (.fieldLink RX4 16 "TrapMachineModel" "control" "[I") (by decide +kernel)) (fun _ h9 => h9) rfl dX4_enter_87 ?_
      refine lv_bipush (v := (8 : Int32)) hx hb dX4_enter_90 (by decide) ?_
      refine lv_aload_n hx hb dX4_enter_92 rfl (lv_at hl 1 rfl) ?_
      refine va_get (D := D) (ci := 3) (v := .int w.2.2.2.2.2.2.2.2.2.2.2.2.2.2.2.2.1) (C := RX4) (T := TX4) (N := 20) hx hb hts (by decide +kernel) hown hK hP 0 rfl rfl 17 (by decide) (hts (.fieldLink RX4 48 "TrapMachineModel" "broughtAt" "I") (by decide +kernel)) (fun _ h9 => h9) rfl dX4_enter_93 ?_
      refine lv_bipush (v := (-128 : Int32)) hx hb dX4_enter_96 (by decide) ?_
      refine lv_iand hx hb dX4_enter_98 ?_
      refine q_iast (j := 8) (ws' := wM k z (ms3 (ms3 (ms3 (ms3 (ms3 (ms3 w (upd w.2.2.2.1 1 ((w.2.2.2.1 0) &&& (7 : Int32)))) (upd (upd w.2.2.2.1 1 ((w.2.2.2.1 0) &&& (7 : Int32))) 0 ((w.2.2.2.1 0) - ((w.2.2.2.1 0) &&& (7 : Int32))))) (upd (upd (upd w.2.2.2.1 1 ((w.2.2.2.1 0) &&& (7 : Int32))) 0 ((w.2.2.2.1 0) - ((w.2.2.2.1 0) &&& (7 : Int32)))) 4 w.2.2.2.2.2.2.2.2.2.1)) (upd (upd (upd (upd w.2.2.2.1 1 ((w.2.2.2.1 0) &&& (7 : Int32))) 0 ((w.2.2.2.1 0) - ((w.2.2.2.1 0) &&& (7 : Int32)))) 4 w.2.2.2.2.2.2.2.2.2.1) 3 (((w.2.2.2.1 3) &&& (-4128769 : Int32)) ||| (a1 <<< ((16 : Int32) &&& 31))))) (upd (upd (upd (upd (upd w.2.2.2.1 1 ((w.2.2.2.1 0) &&& (7 : Int32))) 0 ((w.2.2.2.1 0) - ((w.2.2.2.1 0) &&& (7 : Int32)))) 4 w.2.2.2.2.2.2.2.2.2.1) 3 (((w.2.2.2.1 3) &&& (-4128769 : Int32)) ||| (a1 <<< ((16 : Int32) &&& 31)))) 5 w.2.2.2.2.2.2.2.2.2.2.2.2.2.2.2.2.1)) (upd (upd (upd (upd (upd (upd w.2.2.2.1 1 ((w.2.2.2.1 0) &&& (7 : Int32))) 0 ((w.2.2.2.1 0) - ((w.2.2.2.1 0) &&& (7 : Int32)))) 4 w.2.2.2.2.2.2.2.2.2.1) 3 (((w.2.2.2.1 3) &&& (-4128769 : Int32)) ||| (a1 <<< ((16 : Int32) &&& 31)))) 5 w.2.2.2.2.2.2.2.2.2.2.2.2.2.2.2.2.1) 8 (w.2.2.2.2.2.2.2.2.2.2.2.2.2.2.2.2.1 &&& (-128 : Int32))))) hx hb hK hP hD hS 3 0 rfl rfl (vi_k (by decide)) rfl rfl dX4_enter_99 (fun H locs hP hD hS => ?_)
      refine lv_iload_n hx hb dX4_enter_100 rfl (lv_at hl 2 rfl) ?_
      refine lv_bipush (v := (63 : Int32)) hx hb dX4_enter_101 (by decide) ?_
      refine lv_icmp_ne (tgt := 117) hx hb dX4_enter_103 (by decide) (fun c_103 => ?_) (fun c_103 => ?_)
      · refine lv_aload_n hx hb dX4_enter_117 rfl (lv_at hl 1 rfl) ?_
        refine lv_iload_n hx hb dX4_enter_118 rfl (lv_at hl 2 rfl) ?_
        refine lv_bipush (v := (63 : Int32)) hx hb dX4_enter_119 (by decide) ?_
        refine lv_icmp_ne (tgt := 134) hx hb dX4_enter_121 (by decide) (fun _ => ?_) (fun c9 => absurd c9 c_103)
        refine lv_aload_n hx hb dX4_enter_134 rfl (lv_at hl 1 rfl) ?_
        refine va_get (D := D) (ci := 3) (v := .ref (z 3)) (C := RX4) (T := TX4) (N := 20) hx hb hts (by decide +kernel) hown hK hP 0 rfl rfl 3 (by decide) (hts (.fieldLink RX4 16 "TrapMachineModel" "control" "[I") (by decide +kernel)) (fun _ h9 => h9) rfl dX4_enter_135 ?_
        refine lv_bipush (v := (6 : Int32)) hx hb dX4_enter_138 (by decide) ?_
        refine q_iald (j := 6) (x9 := (w.2.2.2.1 6)) hx hb hK hP 3 0 rfl rfl (vi_k (by decide)) rfl rfl dX4_enter_140 ?_
        refine va_put (D := D) (ci := 3) (v := .int (w.2.2.2.1 6)) (ty := .int) (C := RX4) (T := TX4) (N := 20) hx hb hts (by decide +kernel) tyX4 tyX4_ok nmX4 hown hK hP hD hS 0 rfl rfl 10 (by decide) (hts (.fieldLink RX4 51 "TrapMachineModel" "place" "I") (by decide +kernel)) (fun _ h9 => h9) rfl (by decide +kernel) rfl rfl (Nat.le_of_ble_eq_true rfl) dX4_enter_141 (fun H locs hP hD hS => ?_)
        have hP : va_P D vwCl (wM k z (ms9 (ms3 (ms3 (ms3 (ms3 (ms3 (ms3 w (upd w.2.2.2.1 1 ((w.2.2.2.1 0) &&& (7 : Int32)))) (upd (upd w.2.2.2.1 1 ((w.2.2.2.1 0) &&& (7 : Int32))) 0 ((w.2.2.2.1 0) - ((w.2.2.2.1 0) &&& (7 : Int32))))) (upd (upd (upd w.2.2.2.1 1 ((w.2.2.2.1 0) &&& (7 : Int32))) 0 ((w.2.2.2.1 0) - ((w.2.2.2.1 0) &&& (7 : Int32)))) 4 w.2.2.2.2.2.2.2.2.2.1)) (upd (upd (upd (upd w.2.2.2.1 1 ((w.2.2.2.1 0) &&& (7 : Int32))) 0 ((w.2.2.2.1 0) - ((w.2.2.2.1 0) &&& (7 : Int32)))) 4 w.2.2.2.2.2.2.2.2.2.1) 3 (((w.2.2.2.1 3) &&& (-4128769 : Int32)) ||| (a1 <<< ((16 : Int32) &&& 31))))) (upd (upd (upd (upd (upd w.2.2.2.1 1 ((w.2.2.2.1 0) &&& (7 : Int32))) 0 ((w.2.2.2.1 0) - ((w.2.2.2.1 0) &&& (7 : Int32)))) 4 w.2.2.2.2.2.2.2.2.2.1) 3 (((w.2.2.2.1 3) &&& (-4128769 : Int32)) ||| (a1 <<< ((16 : Int32) &&& 31)))) 5 w.2.2.2.2.2.2.2.2.2.2.2.2.2.2.2.2.1)) (upd (upd (upd (upd (upd (upd w.2.2.2.1 1 ((w.2.2.2.1 0) &&& (7 : Int32))) 0 ((w.2.2.2.1 0) - ((w.2.2.2.1 0) &&& (7 : Int32)))) 4 w.2.2.2.2.2.2.2.2.2.1) 3 (((w.2.2.2.1 3) &&& (-4128769 : Int32)) ||| (a1 <<< ((16 : Int32) &&& 31)))) 5 w.2.2.2.2.2.2.2.2.2.2.2.2.2.2.2.2.1) 8 (w.2.2.2.2.2.2.2.2.2.2.2.2.2.2.2.2.1 &&& (-128 : Int32)))) (w.2.2.2.1 6))) H := hP
        have hD : va_D (in_W (wM k z w)) (wM k z (ms9 (ms3 (ms3 (ms3 (ms3 (ms3 (ms3 w (upd w.2.2.2.1 1 ((w.2.2.2.1 0) &&& (7 : Int32)))) (upd (upd w.2.2.2.1 1 ((w.2.2.2.1 0) &&& (7 : Int32))) 0 ((w.2.2.2.1 0) - ((w.2.2.2.1 0) &&& (7 : Int32))))) (upd (upd (upd w.2.2.2.1 1 ((w.2.2.2.1 0) &&& (7 : Int32))) 0 ((w.2.2.2.1 0) - ((w.2.2.2.1 0) &&& (7 : Int32)))) 4 w.2.2.2.2.2.2.2.2.2.1)) (upd (upd (upd (upd w.2.2.2.1 1 ((w.2.2.2.1 0) &&& (7 : Int32))) 0 ((w.2.2.2.1 0) - ((w.2.2.2.1 0) &&& (7 : Int32)))) 4 w.2.2.2.2.2.2.2.2.2.1) 3 (((w.2.2.2.1 3) &&& (-4128769 : Int32)) ||| (a1 <<< ((16 : Int32) &&& 31))))) (upd (upd (upd (upd (upd w.2.2.2.1 1 ((w.2.2.2.1 0) &&& (7 : Int32))) 0 ((w.2.2.2.1 0) - ((w.2.2.2.1 0) &&& (7 : Int32)))) 4 w.2.2.2.2.2.2.2.2.2.1) 3 (((w.2.2.2.1 3) &&& (-4128769 : Int32)) ||| (a1 <<< ((16 : Int32) &&& 31)))) 5 w.2.2.2.2.2.2.2.2.2.2.2.2.2.2.2.2.1)) (upd (upd (upd (upd (upd (upd w.2.2.2.1 1 ((w.2.2.2.1 0) &&& (7 : Int32))) 0 ((w.2.2.2.1 0) - ((w.2.2.2.1 0) &&& (7 : Int32)))) 4 w.2.2.2.2.2.2.2.2.2.1) 3 (((w.2.2.2.1 3) &&& (-4128769 : Int32)) ||| (a1 <<< ((16 : Int32) &&& 31)))) 5 w.2.2.2.2.2.2.2.2.2.2.2.2.2.2.2.2.1) 8 (w.2.2.2.2.2.2.2.2.2.2.2.2.2.2.2.2.1 &&& (-128 : Int32)))) (w.2.2.2.1 6))) := hD
        exact W.vret hx hb hr (wr_end rfl (congrArg (wM k z) ((show fX4_enter w a1 = (ms9 (ms3 (ms3 (ms3 (ms3 (ms3 (ms3 w (upd w.2.2.2.1 1 ((w.2.2.2.1 0) &&& (7 : Int32)))) (upd (upd w.2.2.2.1 1 ((w.2.2.2.1 0) &&& (7 : Int32))) 0 ((w.2.2.2.1 0) - ((w.2.2.2.1 0) &&& (7 : Int32))))) (upd (upd (upd w.2.2.2.1 1 ((w.2.2.2.1 0) &&& (7 : Int32))) 0 ((w.2.2.2.1 0) - ((w.2.2.2.1 0) &&& (7 : Int32)))) 4 w.2.2.2.2.2.2.2.2.2.1)) (upd (upd (upd (upd w.2.2.2.1 1 ((w.2.2.2.1 0) &&& (7 : Int32))) 0 ((w.2.2.2.1 0) - ((w.2.2.2.1 0) &&& (7 : Int32)))) 4 w.2.2.2.2.2.2.2.2.2.1) 3 (((w.2.2.2.1 3) &&& (-4128769 : Int32)) ||| (a1 <<< ((16 : Int32) &&& 31))))) (upd (upd (upd (upd (upd w.2.2.2.1 1 ((w.2.2.2.1 0) &&& (7 : Int32))) 0 ((w.2.2.2.1 0) - ((w.2.2.2.1 0) &&& (7 : Int32)))) 4 w.2.2.2.2.2.2.2.2.2.1) 3 (((w.2.2.2.1 3) &&& (-4128769 : Int32)) ||| (a1 <<< ((16 : Int32) &&& 31)))) 5 w.2.2.2.2.2.2.2.2.2.2.2.2.2.2.2.2.1)) (upd (upd (upd (upd (upd (upd w.2.2.2.1 1 ((w.2.2.2.1 0) &&& (7 : Int32))) 0 ((w.2.2.2.1 0) - ((w.2.2.2.1 0) &&& (7 : Int32)))) 4 w.2.2.2.2.2.2.2.2.2.1) 3 (((w.2.2.2.1 3) &&& (-4128769 : Int32)) ||| (a1 <<< ((16 : Int32) &&& 31)))) 5 w.2.2.2.2.2.2.2.2.2.2.2.2.2.2.2.2.1) 8 (w.2.2.2.2.2.2.2.2.2.2.2.2.2.2.2.2.1 &&& (-128 : Int32)))) (w.2.2.2.1 6)) from (if_neg c_65).trans ((if_neg c_83).trans ((if_neg c_103).trans rfl))).symm.trans ho)) hP hS) hS.2.2 dX4_enter_144
      · refine lv_aload_n hx hb dX4_enter_106 rfl (lv_at hl 1 rfl) ?_
        refine va_get (D := D) (ci := 3) (v := .ref (z 3)) (C := RX4) (T := TX4) (N := 20) hx hb hts (by decide +kernel) hown hK hP 0 rfl rfl 3 (by decide) (hts (.fieldLink RX4 16 "TrapMachineModel" "control" "[I") (by decide +kernel)) (fun _ h9 => h9) rfl dX4_enter_107 ?_
        refine lv_iconst (v := (0 : Int32)) hx hb dX4_enter_110 (by decide) ?_
        refine lv_dup2_11 hx hb dX4_enter_111 rfl rfl ?_
        refine q_iald (j := 0) (x9 := ((w.2.2.2.1 0) - ((w.2.2.2.1 0) &&& (7 : Int32)))) hx hb hK hP 3 0 rfl rfl (vi_k (by decide)) rfl rfl dX4_enter_112 ?_
        refine lv_bipush (v := (8 : Int32)) hx hb dX4_enter_113 (by decide) ?_
        refine lv_ior hx hb dX4_enter_115 ?_
        refine q_iast (j := 0) (ws' := wM k z (ms3 (ms3 (ms3 (ms3 (ms3 (ms3 (ms3 w (upd w.2.2.2.1 1 ((w.2.2.2.1 0) &&& (7 : Int32)))) (upd (upd w.2.2.2.1 1 ((w.2.2.2.1 0) &&& (7 : Int32))) 0 ((w.2.2.2.1 0) - ((w.2.2.2.1 0) &&& (7 : Int32))))) (upd (upd (upd w.2.2.2.1 1 ((w.2.2.2.1 0) &&& (7 : Int32))) 0 ((w.2.2.2.1 0) - ((w.2.2.2.1 0) &&& (7 : Int32)))) 4 w.2.2.2.2.2.2.2.2.2.1)) (upd (upd (upd (upd w.2.2.2.1 1 ((w.2.2.2.1 0) &&& (7 : Int32))) 0 ((w.2.2.2.1 0) - ((w.2.2.2.1 0) &&& (7 : Int32)))) 4 w.2.2.2.2.2.2.2.2.2.1) 3 (((w.2.2.2.1 3) &&& (-4128769 : Int32)) ||| (a1 <<< ((16 : Int32) &&& 31))))) (upd (upd (upd (upd (upd w.2.2.2.1 1 ((w.2.2.2.1 0) &&& (7 : Int32))) 0 ((w.2.2.2.1 0) - ((w.2.2.2.1 0) &&& (7 : Int32)))) 4 w.2.2.2.2.2.2.2.2.2.1) 3 (((w.2.2.2.1 3) &&& (-4128769 : Int32)) ||| (a1 <<< ((16 : Int32) &&& 31)))) 5 w.2.2.2.2.2.2.2.2.2.2.2.2.2.2.2.2.1)) (upd (upd (upd (upd (upd (upd w.2.2.2.1 1 ((w.2.2.2.1 0) &&& (7 : Int32))) 0 ((w.2.2.2.1 0) - ((w.2.2.2.1 0) &&& (7 : Int32)))) 4 w.2.2.2.2.2.2.2.2.2.1) 3 (((w.2.2.2.1 3) &&& (-4128769 : Int32)) ||| (a1 <<< ((16 : Int32) &&& 31)))) 5 w.2.2.2.2.2.2.2.2.2.2.2.2.2.2.2.2.1) 8 (w.2.2.2.2.2.2.2.2.2.2.2.2.2.2.2.2.1 &&& (-128 : Int32)))) (upd (upd (upd (upd (upd (upd (upd w.2.2.2.1 1 ((w.2.2.2.1 0) &&& (7 : Int32))) 0 ((w.2.2.2.1 0) - ((w.2.2.2.1 0) &&& (7 : Int32)))) 4 w.2.2.2.2.2.2.2.2.2.1) 3 (((w.2.2.2.1 3) &&& (-4128769 : Int32)) ||| (a1 <<< ((16 : Int32) &&& 31)))) 5 w.2.2.2.2.2.2.2.2.2.2.2.2.2.2.2.2.1) 8 (w.2.2.2.2.2.2.2.2.2.2.2.2.2.2.2.2.1 &&& (-128 : Int32))) 0 (((w.2.2.2.1 0) - ((w.2.2.2.1 0) &&& (7 : Int32))) ||| (8 : Int32))))) hx hb hK hP hD hS 3 0 rfl rfl (vi_k (by decide)) rfl rfl dX4_enter_116 (fun H locs hP hD hS => ?_)
        refine lv_aload_n hx hb dX4_enter_117 rfl (lv_at hl 1 rfl) ?_
        refine lv_iload_n hx hb dX4_enter_118 rfl (lv_at hl 2 rfl) ?_
        refine lv_bipush (v := (63 : Int32)) hx hb dX4_enter_119 (by decide) ?_
        refine lv_icmp_ne (tgt := 134) hx hb dX4_enter_121 (by decide) (fun c9 => absurd c_103 c9) (fun _ => ?_)
        refine lv_aload_n hx hb dX4_enter_124 rfl (lv_at hl 1 rfl) ?_
        refine va_get (D := D) (ci := 3) (v := .ref (z 3)) (C := RX4) (T := TX4) (N := 20) hx hb hts (by decide +kernel) hown hK hP 0 rfl rfl 3 (by decide) (hts (.fieldLink RX4 16 "TrapMachineModel" "control" "[I") (by decide +kernel)) (fun _ h9 => h9) rfl dX4_enter_125 ?_
        refine lv_bipush (v := (16 : Int32)) hx hb dX4_enter_128 (by decide) ?_
        refine q_iald (j := 16) (x9 := (w.2.2.2.1 16)) hx hb hK hP 3 0 rfl rfl (vi_k (by decide)) rfl rfl dX4_enter_130 ?_
        refine lv_goto (tgt := 141) hx hb dX4_enter_131 (by decide) ?_
        refine va_put (D := D) (ci := 3) (v := .int (w.2.2.2.1 16)) (ty := .int) (C := RX4) (T := TX4) (N := 20) hx hb hts (by decide +kernel) tyX4 tyX4_ok nmX4 hown hK hP hD hS 0 rfl rfl 10 (by decide) (hts (.fieldLink RX4 51 "TrapMachineModel" "place" "I") (by decide +kernel)) (fun _ h9 => h9) rfl (by decide +kernel) rfl rfl (Nat.le_of_ble_eq_true rfl) dX4_enter_141 (fun H locs hP hD hS => ?_)
        have hP : va_P D vwCl (wM k z (ms9 (ms3 (ms3 (ms3 (ms3 (ms3 (ms3 (ms3 w (upd w.2.2.2.1 1 ((w.2.2.2.1 0) &&& (7 : Int32)))) (upd (upd w.2.2.2.1 1 ((w.2.2.2.1 0) &&& (7 : Int32))) 0 ((w.2.2.2.1 0) - ((w.2.2.2.1 0) &&& (7 : Int32))))) (upd (upd (upd w.2.2.2.1 1 ((w.2.2.2.1 0) &&& (7 : Int32))) 0 ((w.2.2.2.1 0) - ((w.2.2.2.1 0) &&& (7 : Int32)))) 4 w.2.2.2.2.2.2.2.2.2.1)) (upd (upd (upd (upd w.2.2.2.1 1 ((w.2.2.2.1 0) &&& (7 : Int32))) 0 ((w.2.2.2.1 0) - ((w.2.2.2.1 0) &&& (7 : Int32)))) 4 w.2.2.2.2.2.2.2.2.2.1) 3 (((w.2.2.2.1 3) &&& (-4128769 : Int32)) ||| (a1 <<< ((16 : Int32) &&& 31))))) (upd (upd (upd (upd (upd w.2.2.2.1 1 ((w.2.2.2.1 0) &&& (7 : Int32))) 0 ((w.2.2.2.1 0) - ((w.2.2.2.1 0) &&& (7 : Int32)))) 4 w.2.2.2.2.2.2.2.2.2.1) 3 (((w.2.2.2.1 3) &&& (-4128769 : Int32)) ||| (a1 <<< ((16 : Int32) &&& 31)))) 5 w.2.2.2.2.2.2.2.2.2.2.2.2.2.2.2.2.1)) (upd (upd (upd (upd (upd (upd w.2.2.2.1 1 ((w.2.2.2.1 0) &&& (7 : Int32))) 0 ((w.2.2.2.1 0) - ((w.2.2.2.1 0) &&& (7 : Int32)))) 4 w.2.2.2.2.2.2.2.2.2.1) 3 (((w.2.2.2.1 3) &&& (-4128769 : Int32)) ||| (a1 <<< ((16 : Int32) &&& 31)))) 5 w.2.2.2.2.2.2.2.2.2.2.2.2.2.2.2.2.1) 8 (w.2.2.2.2.2.2.2.2.2.2.2.2.2.2.2.2.1 &&& (-128 : Int32)))) (upd (upd (upd (upd (upd (upd (upd w.2.2.2.1 1 ((w.2.2.2.1 0) &&& (7 : Int32))) 0 ((w.2.2.2.1 0) - ((w.2.2.2.1 0) &&& (7 : Int32)))) 4 w.2.2.2.2.2.2.2.2.2.1) 3 (((w.2.2.2.1 3) &&& (-4128769 : Int32)) ||| (a1 <<< ((16 : Int32) &&& 31)))) 5 w.2.2.2.2.2.2.2.2.2.2.2.2.2.2.2.2.1) 8 (w.2.2.2.2.2.2.2.2.2.2.2.2.2.2.2.2.1 &&& (-128 : Int32))) 0 (((w.2.2.2.1 0) - ((w.2.2.2.1 0) &&& (7 : Int32))) ||| (8 : Int32)))) (w.2.2.2.1 16))) H := hP
        have hD : va_D (in_W (wM k z w)) (wM k z (ms9 (ms3 (ms3 (ms3 (ms3 (ms3 (ms3 (ms3 w (upd w.2.2.2.1 1 ((w.2.2.2.1 0) &&& (7 : Int32)))) (upd (upd w.2.2.2.1 1 ((w.2.2.2.1 0) &&& (7 : Int32))) 0 ((w.2.2.2.1 0) - ((w.2.2.2.1 0) &&& (7 : Int32))))) (upd (upd (upd w.2.2.2.1 1 ((w.2.2.2.1 0) &&& (7 : Int32))) 0 ((w.2.2.2.1 0) - ((w.2.2.2.1 0) &&& (7 : Int32)))) 4 w.2.2.2.2.2.2.2.2.2.1)) (upd (upd (upd (upd w.2.2.2.1 1 ((w.2.2.2.1 0) &&& (7 : Int32))) 0 ((w.2.2.2.1 0) - ((w.2.2.2.1 0) &&& (7 : Int32)))) 4 w.2.2.2.2.2.2.2.2.2.1) 3 (((w.2.2.2.1 3) &&& (-4128769 : Int32)) ||| (a1 <<< ((16 : Int32) &&& 31))))) (upd (upd (upd (upd (upd w.2.2.2.1 1 ((w.2.2.2.1 0) &&& (7 : Int32))) 0 ((w.2.2.2.1 0) - ((w.2.2.2.1 0) &&& (7 : Int32)))) 4 w.2.2.2.2.2.2.2.2.2.1) 3 (((w.2.2.2.1 3) &&& (-4128769 : Int32)) ||| (a1 <<< ((16 : Int32) &&& 31)))) 5 w.2.2.2.2.2.2.2.2.2.2.2.2.2.2.2.2.1)) (upd (upd (upd (upd (upd (upd w.2.2.2.1 1 ((w.2.2.2.1 0) &&& (7 : Int32))) 0 ((w.2.2.2.1 0) - ((w.2.2.2.1 0) &&& (7 : Int32)))) 4 w.2.2.2.2.2.2.2.2.2.1) 3 (((w.2.2.2.1 3) &&& (-4128769 : Int32)) ||| (a1 <<< ((16 : Int32) &&& 31)))) 5 w.2.2.2.2.2.2.2.2.2.2.2.2.2.2.2.2.1) 8 (w.2.2.2.2.2.2.2.2.2.2.2.2.2.2.2.2.1 &&& (-128 : Int32)))) (upd (upd (upd (upd (upd (upd (upd w.2.2.2.1 1 ((w.2.2.2.1 0) &&& (7 : Int32))) 0 ((w.2.2.2.1 0) - ((w.2.2.2.1 0) &&& (7 : Int32)))) 4 w.2.2.2.2.2.2.2.2.2.1) 3 (((w.2.2.2.1 3) &&& (-4128769 : Int32)) ||| (a1 <<< ((16 : Int32) &&& 31)))) 5 w.2.2.2.2.2.2.2.2.2.2.2.2.2.2.2.2.1) 8 (w.2.2.2.2.2.2.2.2.2.2.2.2.2.2.2.2.1 &&& (-128 : Int32))) 0 (((w.2.2.2.1 0) - ((w.2.2.2.1 0) &&& (7 : Int32))) ||| (8 : Int32)))) (w.2.2.2.1 16))) := hD
        exact W.vret hx hb hr (wr_end rfl (congrArg (wM k z) ((show fX4_enter w a1 = (ms9 (ms3 (ms3 (ms3 (ms3 (ms3 (ms3 (ms3 w (upd w.2.2.2.1 1 ((w.2.2.2.1 0) &&& (7 : Int32)))) (upd (upd w.2.2.2.1 1 ((w.2.2.2.1 0) &&& (7 : Int32))) 0 ((w.2.2.2.1 0) - ((w.2.2.2.1 0) &&& (7 : Int32))))) (upd (upd (upd w.2.2.2.1 1 ((w.2.2.2.1 0) &&& (7 : Int32))) 0 ((w.2.2.2.1 0) - ((w.2.2.2.1 0) &&& (7 : Int32)))) 4 w.2.2.2.2.2.2.2.2.2.1)) (upd (upd (upd (upd w.2.2.2.1 1 ((w.2.2.2.1 0) &&& (7 : Int32))) 0 ((w.2.2.2.1 0) - ((w.2.2.2.1 0) &&& (7 : Int32)))) 4 w.2.2.2.2.2.2.2.2.2.1) 3 (((w.2.2.2.1 3) &&& (-4128769 : Int32)) ||| (a1 <<< ((16 : Int32) &&& 31))))) (upd (upd (upd (upd (upd w.2.2.2.1 1 ((w.2.2.2.1 0) &&& (7 : Int32))) 0 ((w.2.2.2.1 0) - ((w.2.2.2.1 0) &&& (7 : Int32)))) 4 w.2.2.2.2.2.2.2.2.2.1) 3 (((w.2.2.2.1 3) &&& (-4128769 : Int32)) ||| (a1 <<< ((16 : Int32) &&& 31)))) 5 w.2.2.2.2.2.2.2.2.2.2.2.2.2.2.2.2.1)) (upd (upd (upd (upd (upd (upd w.2.2.2.1 1 ((w.2.2.2.1 0) &&& (7 : Int32))) 0 ((w.2.2.2.1 0) - ((w.2.2.2.1 0) &&& (7 : Int32)))) 4 w.2.2.2.2.2.2.2.2.2.1) 3 (((w.2.2.2.1 3) &&& (-4128769 : Int32)) ||| (a1 <<< ((16 : Int32) &&& 31)))) 5 w.2.2.2.2.2.2.2.2.2.2.2.2.2.2.2.2.1) 8 (w.2.2.2.2.2.2.2.2.2.2.2.2.2.2.2.2.1 &&& (-128 : Int32)))) (upd (upd (upd (upd (upd (upd (upd w.2.2.2.1 1 ((w.2.2.2.1 0) &&& (7 : Int32))) 0 ((w.2.2.2.1 0) - ((w.2.2.2.1 0) &&& (7 : Int32)))) 4 w.2.2.2.2.2.2.2.2.2.1) 3 (((w.2.2.2.1 3) &&& (-4128769 : Int32)) ||| (a1 <<< ((16 : Int32) &&& 31)))) 5 w.2.2.2.2.2.2.2.2.2.2.2.2.2.2.2.2.1) 8 (w.2.2.2.2.2.2.2.2.2.2.2.2.2.2.2.2.1 &&& (-128 : Int32))) 0 (((w.2.2.2.1 0) - ((w.2.2.2.1 0) &&& (7 : Int32))) ||| (8 : Int32)))) (w.2.2.2.1 16)) from (if_neg c_65).trans ((if_neg c_83).trans ((if_pos c_103).trans rfl))).symm.trans ho)) hP hS) hS.2.2 dX4_enter_144
def fX4_fits (w : MD) (a1 : Int32) (a2 : Int32) (a3 : Int32) : Int32 :=
  if (w.2.2.2.2.1 (ix a1)) = (0 : Int32) then
    (0 : Int32)
  else
    if (w.2.2.2.2.2.2.1 (ix a1)) = a2 then
      if (w.2.2.2.2.2.1 (ix a1)) = (0 : Int32) then
        if (w.2.2.2.2.2.2.2.1 (ix a1)) = a3 then
          (1 : Int32)
        else
          (0 : Int32)
      else
        (1 : Int32)
    else
      (0 : Int32)
set_option maxHeartbeats 4000000 in
set_option maxRecDepth 100000 in
theorem kX4_fits (l : Launch) (D : va_G) (k : Nat → ClassId) (z : Nat → Nat) (w : MD) (a1 : Int32) (a2 : Int32) (a3 : Int32) (h1 : vp_in a1 4) : Met l yX4_fits wsX4_fits { frames := 0, cells := 0, slots := 0, locals := 0 } (rd_P D vwCl (tyL k) (wM k z w) (fun _ => True) [.ref (z 0), .int a1, .int a2, .int a3]) (QcRead (fX4_fits w a1 a2 a3)) 0 0 (fun _ => False) := by
  refine Met.ofW (cc := cX4_fits) (maxL := 4) (ret := (some .boolean)) (by decide) rfl ?_
  intro p e s m args below meth c s₁ B hml hv0
  obtain ⟨rfl, hP, hK, hX⟩ := hv0
  have hx := B.exec
  have hb := B.bytes
  have hr := B.returns
  have hts := atoms_spec (ws := wsX4_fits) B.pre
  have hown : s.vm.findClass RX4 = some m.cls := findClass_of_methodNamed B.named
  have hlocks := B.notSynchronized
  have hl := lv_entry ([.ref (z 0), .int a1, .int a2, .int a3]) (n := 4) (Nat.le_of_ble_eq_true rfl)
  rw [lg_entry_eq]
  generalize (lg_sl ([.ref (z 0), .int a1, .int a2, .int a3]) ++ List.replicate (4 - (lg_sl ([.ref (z 0), .int a1, .int a2, .int a3])).length) Slot.unset).toArray = ls at hl ⊢
  have hl : lv_has ls 4 [(0, .ref (z 0)), (1, .int a1), (2, .int a2), (3, .int a3)] := hl
  refine lv_aload_n hx hb dX4_fits_0 rfl (lv_at hl 0 rfl) ?_
  refine va_get (D := D) (ci := 3) (v := .ref (z 5)) (C := RX4) (T := TX4) (N := 20) hx hb hts (by decide +kernel) hown hK hP 0 rfl rfl 5 (by decide) (hts (.fieldLink RX4 25 "TrapMachineModel" "there" "[Z") (by decide +kernel)) (fun _ h9 => h9) rfl dX4_fits_1 ?_
  refine lv_iload_n hx hb dX4_fits_4 rfl (lv_at hl 1 rfl) ?_
  refine q_zald (j := (ix a1)) (x9 := (w.2.2.2.2.1 (ix a1))) hx hb hK hP 5 2 rfl rfl h1 rfl rfl dX4_fits_5 ?_
  refine lv_if_eq (tgt := 42) hx hb dX4_fits_6 (by decide) (fun c_6 => ?_) (fun c_6 => ?_)
  · refine lv_iconst (v := (0 : Int32)) hx hb dX4_fits_42 (by decide) ?_
    exact W.zret (v := (0 : Int32)) hx hb hr rfl (rd_end (show fX4_fits w a1 a2 a3 = (0 : Int32) from (if_pos c_6).trans rfl)) (fun q h => by cases h) dX4_fits_43
  · refine lv_aload_n hx hb dX4_fits_9 rfl (lv_at hl 0 rfl) ?_
    refine va_get (D := D) (ci := 3) (v := .ref (z 7)) (C := RX4) (T := TX4) (N := 20) hx hb hts (by decide +kernel) hown hK hP 0 rfl rfl 7 (by decide) (hts (.fieldLink RX4 32 "TrapMachineModel" "pair" "[I") (by decide +kernel)) (fun _ h9 => h9) rfl dX4_fits_10 ?_
    refine lv_iload_n hx hb dX4_fits_13 rfl (lv_at hl 1 rfl) ?_
    refine q_iald (j := (ix a1)) (x9 := (w.2.2.2.2.2.2.1 (ix a1))) hx hb hK hP 7 0 rfl rfl h1 rfl rfl dX4_fits_14 ?_
    refine lv_iload_n hx hb dX4_fits_15 rfl (lv_at hl 2 rfl) ?_
    refine lv_icmp_ne (tgt := 42) hx hb dX4_fits_16 (by decide) (fun c_16 => ?_) (fun c_16 => ?_)
    · refine lv_iconst (v := (0 : Int32)) hx hb dX4_fits_42 (by decide) ?_
      exact W.zret (v := (0 : Int32)) hx hb hr rfl (rd_end (show fX4_fits w a1 a2 a3 = (0 : Int32) from (if_neg c_6).trans ((if_neg c_16).trans rfl))) (fun q h => by cases h) dX4_fits_43
    · refine lv_aload_n hx hb dX4_fits_19 rfl (lv_at hl 0 rfl) ?_
      refine va_get (D := D) (ci := 3) (v := .ref (z 6)) (C := RX4) (T := TX4) (N := 20) hx hb hts (by decide +kernel) hown hK hP 0 rfl rfl 6 (by decide) (hts (.fieldLink RX4 29 "TrapMachineModel" "global" "[Z") (by decide +kernel)) (fun _ h9 => h9) rfl dX4_fits_20 ?_
      refine lv_iload_n hx hb dX4_fits_23 rfl (lv_at hl 1 rfl) ?_
      refine q_zald (j := (ix a1)) (x9 := (w.2.2.2.2.2.1 (ix a1))) hx hb hK hP 6 2 rfl rfl h1 rfl rfl dX4_fits_24 ?_
      refine lv_if_ne (tgt := 38) hx hb dX4_fits_25 (by decide) (fun c_25 => ?_) (fun c_25 => ?_)
      · refine lv_iconst (v := (1 : Int32)) hx hb dX4_fits_38 (by decide) ?_
        refine lv_goto (tgt := 43) hx hb dX4_fits_39 (by decide) ?_
        exact W.zret (v := (1 : Int32)) hx hb hr rfl (rd_end (show fX4_fits w a1 a2 a3 = (1 : Int32) from (if_neg c_6).trans ((if_pos c_16).trans ((if_neg c_25).trans rfl)))) (fun q h => by cases h) dX4_fits_43
      · refine lv_aload_n hx hb dX4_fits_28 rfl (lv_at hl 0 rfl) ?_
        refine va_get (D := D) (ci := 3) (v := .ref (z 8)) (C := RX4) (T := TX4) (N := 20) hx hb hts (by decide +kernel) hown hK hP 0 rfl rfl 8 (by decide) (hts (.fieldLink RX4 35 "TrapMachineModel" "space" "[I") (by decide +kernel)) (fun _ h9 => h9) rfl dX4_fits_29 ?_
        refine lv_iload_n hx hb dX4_fits_32 rfl (lv_at hl 1 rfl) ?_
        refine q_iald (j := (ix a1)) (x9 := (w.2.2.2.2.2.2.2.1 (ix a1))) hx hb hK hP 8 0 rfl rfl h1 rfl rfl dX4_fits_33 ?_
        refine lv_iload_n hx hb dX4_fits_34 rfl (lv_at hl 3 rfl) ?_
        refine lv_icmp_ne (tgt := 42) hx hb dX4_fits_35 (by decide) (fun c_35 => ?_) (fun c_35 => ?_)
        · refine lv_iconst (v := (0 : Int32)) hx hb dX4_fits_42 (by decide) ?_
          exact W.zret (v := (0 : Int32)) hx hb hr rfl (rd_end (show fX4_fits w a1 a2 a3 = (0 : Int32) from (if_neg c_6).trans ((if_pos c_16).trans ((if_pos c_25).trans ((if_neg c_35).trans rfl))))) (fun q h => by cases h) dX4_fits_43
        · refine lv_iconst (v := (1 : Int32)) hx hb dX4_fits_38 (by decide) ?_
          refine lv_goto (tgt := 43) hx hb dX4_fits_39 (by decide) ?_
          exact W.zret (v := (1 : Int32)) hx hb hr rfl (rd_end (show fX4_fits w a1 a2 a3 = (1 : Int32) from (if_neg c_6).trans ((if_pos c_16).trans ((if_pos c_25).trans ((if_pos c_35).trans rfl))))) (fun q h => by cases h) dX4_fits_43
def fX4_map_lp (a1 : Int32) (a2 : Int32) : Nat → Nat → (MD) → Int32 → Int32 → Int32 × MD
  | 0, i, m9, x3, x4 => if x4 ≤ (1 : Int32) then
      if x4 = (0 : Int32) then
        ((fX4_with m9 (63 : Int32) a1 (2 : Int32)).1, (fX4_with m9 (63 : Int32) a1 (2 : Int32)).2)
      else
        if ((m9.2.2.2.2.2.2.2.2.1 (ix (((2 : Int32) * x3) + ((a1 >>> ((6 : Int32) &&& 31)) &&& (1 : Int32))))) &&& (1 : Int32)) = (0 : Int32) then
          if a2 = (0 : Int32) then
            ((fX4_with m9 (3 : Int32) a1 (2 : Int32)).1, (fX4_with m9 (3 : Int32) a1 (2 : Int32)).2)
          else
            ((fX4_with m9 a2 a1 (2 : Int32)).1, (fX4_with m9 a2 a1 (2 : Int32)).2)
        else
          if (fX4_user m9) = (0 : Int32) then
            if a2 = (2 : Int32) then
              if ((m9.2.2.2.2.2.2.2.2.1 (ix (((2 : Int32) * x3) + ((a1 >>> ((6 : Int32) &&& 31)) &&& (1 : Int32))))) &&& (2 : Int32)) = (0 : Int32) then
                ((fX4_with m9 (4 : Int32) a1 (2 : Int32)).1, (fX4_with m9 (4 : Int32) a1 (2 : Int32)).2)
              else
                ((-1 : Int32), (ms17 m9 ((a1 &&& (63 : Int32)) + ((64 : Int32) * (((m9.2.2.2.2.2.2.2.2.1 (ix (((2 : Int32) * x3) + ((a1 >>> ((6 : Int32) &&& 31)) &&& (1 : Int32))))) >>> ((6 : Int32) &&& 31)) &&& (31 : Int32))))))
            else
              ((-1 : Int32), (ms17 m9 ((a1 &&& (63 : Int32)) + ((64 : Int32) * (((m9.2.2.2.2.2.2.2.2.1 (ix (((2 : Int32) * x3) + ((a1 >>> ((6 : Int32) &&& 31)) &&& (1 : Int32))))) >>> ((6 : Int32) &&& 31)) &&& (31 : Int32))))))
          else
            if ((m9.2.2.2.2.2.2.2.2.1 (ix (((2 : Int32) * x3) + ((a1 >>> ((6 : Int32) &&& 31)) &&& (1 : Int32))))) &&& (12 : Int32)) = (0 : Int32) then
              ((fX4_with m9 (7 : Int32) a1 (2 : Int32)).1, (fX4_with m9 (7 : Int32) a1 (2 : Int32)).2)
            else
              if a2 = (2 : Int32) then
                if ((m9.2.2.2.2.2.2.2.2.1 (ix (((2 : Int32) * x3) + ((a1 >>> ((6 : Int32) &&& 31)) &&& (1 : Int32))))) &&& (2 : Int32)) = (0 : Int32) then
                  ((fX4_with m9 (4 : Int32) a1 (2 : Int32)).1, (fX4_with m9 (4 : Int32) a1 (2 : Int32)).2)
                else
                  ((-1 : Int32), (ms17 m9 ((a1 &&& (63 : Int32)) + ((64 : Int32) * (((m9.2.2.2.2.2.2.2.2.1 (ix (((2 : Int32) * x3) + ((a1 >>> ((6 : Int32) &&& 31)) &&& (1 : Int32))))) >>> ((6 : Int32) &&& 31)) &&& (31 : Int32))))))
              else
                ((-1 : Int32), (ms17 m9 ((a1 &&& (63 : Int32)) + ((64 : Int32) * (((m9.2.2.2.2.2.2.2.2.1 (ix (((2 : Int32) * x3) + ((a1 >>> ((6 : Int32) &&& 31)) &&& (1 : Int32))))) >>> ((6 : Int32) &&& 31)) &&& (31 : Int32))))))
    else
      ((-2 : Int32), m9)
  | n + 1, i, m9, x3, x4 =>
    if (fX4_fits m9 (nI i) (fX4_pairOf a1) (m9.2.2.2.1 11)) = (0 : Int32) then
      fX4_map_lp a1 a2 n (i + 1) m9 x3 x4
    else
      fX4_map_lp a1 a2 n (i + 1) m9 (nI i) (x4 + (1 : Int32))
def fX4_map (w : MD) (a1 : Int32) (a2 : Int32) : Int32 × MD :=
  fX4_map_lp a1 a2 4 0 w (-1) 0
set_option maxHeartbeats 4000000 in
set_option maxRecDepth 100000 in
theorem kX4_map (l : Launch) (D : va_G) (k : Nat → ClassId) (z : Nat → Nat) (w : MD) (a1 : Int32) (a2 : Int32)  (o : Int32 × (MD)) (ho : fX4_map w a1 a2 = o) : Met l yX4_map wsX4_map { frames := 1, cells := 0, slots := 0, locals := 23 } (wr_P D vwCl (tyL k) (wM k z w) (fun _ => True) [.ref (z 0), .int a1, .int a2]) (wr_Q D vwCl (some (.int o.1)) (wM k z w) (wM k z o.2)) 0 0 (in_W (wM k z w)) := by
  refine Met.ofW (cc := cX4_map) (maxL := 7) (ret := (some .int)) (by decide) rfl ?_
  intro p e s m args below meth c s₁ B hml hv0
  obtain ⟨rfl, hP, hK, hX, hD0⟩ := hv0
  have hx := B.exec
  have hb := B.bytes
  have hr := B.returns
  have hts := atoms_spec (ws := wsX4_map) B.pre
  have hown : s.vm.findClass RX4 = some m.cls := findClass_of_methodNamed B.named
  have hlocks := B.notSynchronized
  have hD : va_D (in_W (wM k z w)) (wM k z w) := wD_self hD0
  have hS : va_S (in_W (wM k z w)) s.heap s.heap [] := va_S.rf
  have hl := lv_entry ([.ref (z 0), .int a1, .int a2]) (n := 7) (Nat.le_of_ble_eq_true rfl)
  rw [lg_entry_eq]
  generalize (lg_sl ([.ref (z 0), .int a1, .int a2]) ++ List.replicate (7 - (lg_sl ([.ref (z 0), .int a1, .int a2])).length) Slot.unset).toArray = ls at hl ⊢
  have hl : lv_has ls 7 [(0, .ref (z 0)), (1, .int a1), (2, .int a2)] := hl
  have lp : ∀ (n i : Nat) (m9 : MD) (x3 : Int32) (x4 : Int32) (H : Heap) (locs : List Loc), i + n = 4 → fX4_map_lp a1 a2 n i m9 x3 x4 = fX4_map w a1 a2 → va_P D vwCl (wM k z m9) H → va_D (in_W (wM k z w)) (wM k z m9) → va_S (in_W (wM k z w)) s.heap H locs → (x4 = (0 : Int32) ∨ ∃ j : Nat, j < 4 ∧ x3 = nI j) → ∀ ls : Array Slot, lv_has ls 7 [(0, .ref (z 0)), (1, .int a1), (2, .int a2), (3, .int x3), (4, .int x4), (5, .int (nI i))] → W p l e (headSpec wsX4_map { frames := 1, cells := 0, slots := 0, locals := 23 }).room s m ([.ref (z 0), .int a1, .int a2] : List Value).toArray below meth c H locs 0 0 (MQ below (wr_Q D vwCl (some (.int o.1)) (wM k z w) (wM k z o.2)) ([.ref (z 0), .int a1, .int a2] : List Value).toArray s 0 0 (in_W (wM k z w))) (F0 m 8 ls []) := by
    intro n
    induction n with
    | zero =>
      intro i m9 x3 x4 H locs hin heq hP hD hS hm ls hl
      refine lv_iload hx hb dX4_map_8 (lv_at hl 5 rfl) ?_
      refine lv_iconst (v := (4 : Int32)) hx hb dX4_map_10 (by decide) ?_
      refine lv_icmp_ge (tgt := 67) hx hb dX4_map_11 (by decide) (fun _ => ?_) (fun c9 => absurd (m4_t (by omega)) c9)
      refine lv_iload hx hb dX4_map_67 (lv_at hl 4 rfl) ?_
      refine lv_iconst (v := (1 : Int32)) hx hb dX4_map_69 (by decide) ?_
      refine lv_icmp_le (tgt := 76) hx hb dX4_map_70 (by decide) (fun c_70 => ?_) (fun c_70 => ?_)
      · refine lv_iload hx hb dX4_map_76 (lv_at hl 4 rfl) ?_
        refine lv_if_ne (tgt := 90) hx hb dX4_map_78 (by decide) (fun c_78 => ?_) (fun c_78 => ?_)
        · refine lv_aload_n hx hb dX4_map_90 rfl (lv_at hl 0 rfl) ?_
          refine va_get (D := D) (ci := 3) (v := .ref (z 9)) (C := RX4) (T := TX4) (N := 20) hx hb hts (by decide +kernel) hown hK hP 0 rfl rfl 9 (by decide) (hts (.fieldLink RX4 38 "TrapMachineModel" "half" "[I") (by decide +kernel)) (fun _ h9 => h9) rfl dX4_map_91 ?_
          refine lv_iconst (v := (2 : Int32)) hx hb dX4_map_94 (by decide) ?_
          refine lv_iload_n hx hb dX4_map_95 rfl (lv_at hl 3 rfl) ?_
          refine lv_imul hx hb dX4_map_96 ?_
          refine lv_iload_n hx hb dX4_map_97 rfl (lv_at hl 1 rfl) ?_
          refine lv_bipush (v := (6 : Int32)) hx hb dX4_map_98 (by decide) ?_
          refine lv_ishr hx hb dX4_map_100 ?_
          refine lv_iconst (v := (1 : Int32)) hx hb dX4_map_101 (by decide) ?_
          refine lv_iand hx hb dX4_map_102 ?_
          refine lv_iadd hx hb dX4_map_103 ?_
          refine q_iald (j := (ix (((2 : Int32) * x3) + ((a1 >>> ((6 : Int32) &&& 31)) &&& (1 : Int32))))) (x9 := (m9.2.2.2.2.2.2.2.2.1 (ix (((2 : Int32) * x3) + ((a1 >>> ((6 : Int32) &&& 31)) &&& (1 : Int32)))))) hx hb hK hP 9 0 rfl rfl (half_in hm c_78 _) rfl rfl dX4_map_104 ?_
          refine lv_istore (lv' := [(5, .int (m9.2.2.2.2.2.2.2.2.1 (ix (((2 : Int32) * x3) + ((a1 >>> ((6 : Int32) &&& 31)) &&& (1 : Int32)))))), (0, .ref (z 0)), (1, .int a1), (2, .int a2), (3, .int x3), (4, .int x4)]) hx hb dX4_map_105 hl (by decide) rfl (fun ls hl => ?_)
          refine lv_iload hx hb dX4_map_107 (lv_at hl 0 rfl) ?_
          refine lv_iconst (v := (1 : Int32)) hx hb dX4_map_109 (by decide) ?_
          refine lv_iand hx hb dX4_map_110 ?_
          refine lv_if_ne (tgt := 130) hx hb dX4_map_111 (by decide) (fun c_111 => ?_) (fun c_111 => ?_)
          · refine lv_aload_n hx hb dX4_map_130 rfl (lv_at hl 1 rfl) ?_
            refine rd_call (r := (fX4_user m9)) (W.runV (C := RX4) (b := (z 0)) (As := []) (rest := []) ⟨hx, hb, hml, hown, hts⟩ (kX4_user l D k z m9) (cwV 0 hts gX4_map_X4_user rfl rfl rfl (by decide +kernel) ⟨Nat.le_of_ble_eq_true rfl, Nat.le_of_ble_eq_true rfl⟩) (rd_preV bl_T pr_T hK hP (va_recv hK hP (ci := 3) (q0 := 0) rfl rfl)) rfl rfl hl.1 rfl (lv_room (Nat.le_of_ble_eq_true rfl)) dX4_map_131 ⟨Nat.zero_le _, Nat.zero_le _⟩) ?_
            refine lv_if_eq (tgt := 154) hx hb dX4_map_134 (by decide) (fun c_134 => ?_) (fun c_134 => ?_)
            · refine lv_iload_n hx hb dX4_map_154 rfl (lv_at hl 3 rfl) ?_
              refine lv_iconst (v := (2 : Int32)) hx hb dX4_map_155 (by decide) ?_
              refine lv_icmp_ne (tgt := 174) hx hb dX4_map_156 (by decide) (fun c_156 => ?_) (fun c_156 => ?_)
              · refine lv_aload_n hx hb dX4_map_174 rfl (lv_at hl 1 rfl) ?_
                refine lv_iload_n hx hb dX4_map_175 rfl (lv_at hl 2 rfl) ?_
                refine lv_bipush (v := (63 : Int32)) hx hb dX4_map_176 (by decide) ?_
                refine lv_iand hx hb dX4_map_178 ?_
                refine lv_bipush (v := (64 : Int32)) hx hb dX4_map_179 (by decide) ?_
                refine lv_iload hx hb dX4_map_181 (lv_at hl 0 rfl) ?_
                refine lv_bipush (v := (6 : Int32)) hx hb dX4_map_183 (by decide) ?_
                refine lv_ishr hx hb dX4_map_185 ?_
                refine lv_bipush (v := (31 : Int32)) hx hb dX4_map_186 (by decide) ?_
                refine lv_iand hx hb dX4_map_188 ?_
                refine lv_imul hx hb dX4_map_189 ?_
                refine lv_iadd hx hb dX4_map_190 ?_
                refine va_put (D := D) (ci := 3) (v := .int ((a1 &&& (63 : Int32)) + ((64 : Int32) * (((m9.2.2.2.2.2.2.2.2.1 (ix (((2 : Int32) * x3) + ((a1 >>> ((6 : Int32) &&& 31)) &&& (1 : Int32))))) >>> ((6 : Int32) &&& 31)) &&& (31 : Int32))))) (ty := .int) (C := RX4) (T := TX4) (N := 20) hx hb hts (by decide +kernel) tyX4 tyX4_ok nmX4 hown hK hP hD hS 0 rfl rfl 18 (by decide) (hts (.fieldLink RX4 68 "TrapMachineModel" "found" "I") (by decide +kernel)) (fun _ h9 => h9) rfl (by decide +kernel) rfl rfl (Nat.le_of_ble_eq_true rfl) dX4_map_191 (fun H locs hP hD hS => ?_)
                have hP : va_P D vwCl (wM k z (ms17 m9 ((a1 &&& (63 : Int32)) + ((64 : Int32) * (((m9.2.2.2.2.2.2.2.2.1 (ix (((2 : Int32) * x3) + ((a1 >>> ((6 : Int32) &&& 31)) &&& (1 : Int32))))) >>> ((6 : Int32) &&& 31)) &&& (31 : Int32)))))) H := hP
                have hD : va_D (in_W (wM k z w)) (wM k z (ms17 m9 ((a1 &&& (63 : Int32)) + ((64 : Int32) * (((m9.2.2.2.2.2.2.2.2.1 (ix (((2 : Int32) * x3) + ((a1 >>> ((6 : Int32) &&& 31)) &&& (1 : Int32))))) >>> ((6 : Int32) &&& 31)) &&& (31 : Int32)))))) := hD
                refine lv_iconst (v := (-1 : Int32)) hx hb dX4_map_194 (by decide) ?_
                exact W.iret (v := (-1 : Int32)) hx hb hr (wr_end (congrArg (fun t9 : Int32 × MD => some (Value.int t9.1)) ((show fX4_map w a1 a2 = ((-1 : Int32), (ms17 m9 ((a1 &&& (63 : Int32)) + ((64 : Int32) * (((m9.2.2.2.2.2.2.2.2.1 (ix (((2 : Int32) * x3) + ((a1 >>> ((6 : Int32) &&& 31)) &&& (1 : Int32))))) >>> ((6 : Int32) &&& 31)) &&& (31 : Int32)))))) from heq.symm.trans (show fX4_map_lp a1 a2 0 i m9 x3 x4 = ((-1 : Int32), (ms17 m9 ((a1 &&& (63 : Int32)) + ((64 : Int32) * (((m9.2.2.2.2.2.2.2.2.1 (ix (((2 : Int32) * x3) + ((a1 >>> ((6 : Int32) &&& 31)) &&& (1 : Int32))))) >>> ((6 : Int32) &&& 31)) &&& (31 : Int32)))))) from (if_pos c_70).trans ((if_neg c_78).trans ((if_neg c_111).trans ((if_pos c_134).trans ((if_neg c_156).trans rfl)))))).symm.trans ho)) (congrArg (fun t9 : Int32 × MD => wM k z t9.2) ((show fX4_map w a1 a2 = ((-1 : Int32), (ms17 m9 ((a1 &&& (63 : Int32)) + ((64 : Int32) * (((m9.2.2.2.2.2.2.2.2.1 (ix (((2 : Int32) * x3) + ((a1 >>> ((6 : Int32) &&& 31)) &&& (1 : Int32))))) >>> ((6 : Int32) &&& 31)) &&& (31 : Int32)))))) from heq.symm.trans (show fX4_map_lp a1 a2 0 i m9 x3 x4 = ((-1 : Int32), (ms17 m9 ((a1 &&& (63 : Int32)) + ((64 : Int32) * (((m9.2.2.2.2.2.2.2.2.1 (ix (((2 : Int32) * x3) + ((a1 >>> ((6 : Int32) &&& 31)) &&& (1 : Int32))))) >>> ((6 : Int32) &&& 31)) &&& (31 : Int32)))))) from (if_pos c_70).trans ((if_neg c_78).trans ((if_neg c_111).trans ((if_pos c_134).trans ((if_neg c_156).trans rfl)))))).symm.trans ho)) hP hS) hS.2.2 dX4_map_195
              · refine lv_iload hx hb dX4_map_159 (lv_at hl 0 rfl) ?_
                refine lv_iconst (v := (2 : Int32)) hx hb dX4_map_161 (by decide) ?_
                refine lv_iand hx hb dX4_map_162 ?_
                refine lv_if_ne (tgt := 174) hx hb dX4_map_163 (by decide) (fun c_163 => ?_) (fun c_163 => ?_)
                · refine lv_aload_n hx hb dX4_map_174 rfl (lv_at hl 1 rfl) ?_
                  refine lv_iload_n hx hb dX4_map_175 rfl (lv_at hl 2 rfl) ?_
                  refine lv_bipush (v := (63 : Int32)) hx hb dX4_map_176 (by decide) ?_
                  refine lv_iand hx hb dX4_map_178 ?_
                  refine lv_bipush (v := (64 : Int32)) hx hb dX4_map_179 (by decide) ?_
                  refine lv_iload hx hb dX4_map_181 (lv_at hl 0 rfl) ?_
                  refine lv_bipush (v := (6 : Int32)) hx hb dX4_map_183 (by decide) ?_
                  refine lv_ishr hx hb dX4_map_185 ?_
                  refine lv_bipush (v := (31 : Int32)) hx hb dX4_map_186 (by decide) ?_
                  refine lv_iand hx hb dX4_map_188 ?_
                  refine lv_imul hx hb dX4_map_189 ?_
                  refine lv_iadd hx hb dX4_map_190 ?_
                  refine va_put (D := D) (ci := 3) (v := .int ((a1 &&& (63 : Int32)) + ((64 : Int32) * (((m9.2.2.2.2.2.2.2.2.1 (ix (((2 : Int32) * x3) + ((a1 >>> ((6 : Int32) &&& 31)) &&& (1 : Int32))))) >>> ((6 : Int32) &&& 31)) &&& (31 : Int32))))) (ty := .int) (C := RX4) (T := TX4) (N := 20) hx hb hts (by decide +kernel) tyX4 tyX4_ok nmX4 hown hK hP hD hS 0 rfl rfl 18 (by decide) (hts (.fieldLink RX4 68 "TrapMachineModel" "found" "I") (by decide +kernel)) (fun _ h9 => h9) rfl (by decide +kernel) rfl rfl (Nat.le_of_ble_eq_true rfl) dX4_map_191 (fun H locs hP hD hS => ?_)
                  have hP : va_P D vwCl (wM k z (ms17 m9 ((a1 &&& (63 : Int32)) + ((64 : Int32) * (((m9.2.2.2.2.2.2.2.2.1 (ix (((2 : Int32) * x3) + ((a1 >>> ((6 : Int32) &&& 31)) &&& (1 : Int32))))) >>> ((6 : Int32) &&& 31)) &&& (31 : Int32)))))) H := hP
                  have hD : va_D (in_W (wM k z w)) (wM k z (ms17 m9 ((a1 &&& (63 : Int32)) + ((64 : Int32) * (((m9.2.2.2.2.2.2.2.2.1 (ix (((2 : Int32) * x3) + ((a1 >>> ((6 : Int32) &&& 31)) &&& (1 : Int32))))) >>> ((6 : Int32) &&& 31)) &&& (31 : Int32)))))) := hD
                  refine lv_iconst (v := (-1 : Int32)) hx hb dX4_map_194 (by decide) ?_
                  exact W.iret (v := (-1 : Int32)) hx hb hr (wr_end (congrArg (fun t9 : Int32 × MD => some (Value.int t9.1)) ((show fX4_map w a1 a2 = ((-1 : Int32), (ms17 m9 ((a1 &&& (63 : Int32)) + ((64 : Int32) * (((m9.2.2.2.2.2.2.2.2.1 (ix (((2 : Int32) * x3) + ((a1 >>> ((6 : Int32) &&& 31)) &&& (1 : Int32))))) >>> ((6 : Int32) &&& 31)) &&& (31 : Int32)))))) from heq.symm.trans (show fX4_map_lp a1 a2 0 i m9 x3 x4 = ((-1 : Int32), (ms17 m9 ((a1 &&& (63 : Int32)) + ((64 : Int32) * (((m9.2.2.2.2.2.2.2.2.1 (ix (((2 : Int32) * x3) + ((a1 >>> ((6 : Int32) &&& 31)) &&& (1 : Int32))))) >>> ((6 : Int32) &&& 31)) &&& (31 : Int32)))))) from (if_pos c_70).trans ((if_neg c_78).trans ((if_neg c_111).trans ((if_pos c_134).trans ((if_pos c_156).trans ((if_neg c_163).trans rfl))))))).symm.trans ho)) (congrArg (fun t9 : Int32 × MD => wM k z t9.2) ((show fX4_map w a1 a2 = ((-1 : Int32), (ms17 m9 ((a1 &&& (63 : Int32)) + ((64 : Int32) * (((m9.2.2.2.2.2.2.2.2.1 (ix (((2 : Int32) * x3) + ((a1 >>> ((6 : Int32) &&& 31)) &&& (1 : Int32))))) >>> ((6 : Int32) &&& 31)) &&& (31 : Int32)))))) from heq.symm.trans (show fX4_map_lp a1 a2 0 i m9 x3 x4 = ((-1 : Int32), (ms17 m9 ((a1 &&& (63 : Int32)) + ((64 : Int32) * (((m9.2.2.2.2.2.2.2.2.1 (ix (((2 : Int32) * x3) + ((a1 >>> ((6 : Int32) &&& 31)) &&& (1 : Int32))))) >>> ((6 : Int32) &&& 31)) &&& (31 : Int32)))))) from (if_pos c_70).trans ((if_neg c_78).trans ((if_neg c_111).trans ((if_pos c_134).trans ((if_pos c_156).trans ((if_neg c_163).trans rfl))))))).symm.trans ho)) hP hS) hS.2.2 dX4_map_195
                · refine lv_aload_n hx hb dX4_map_166 rfl (lv_at hl 1 rfl) ?_
                  refine lv_iconst (v := (4 : Int32)) hx hb dX4_map_167 (by decide) ?_
                  refine lv_iload_n hx hb dX4_map_168 rfl (lv_at hl 2 rfl) ?_
                  refine lv_iconst (v := (2 : Int32)) hx hb dX4_map_169 (by decide) ?_
                  obtain ⟨o1, h_o1⟩ : ∃ o9, (fX4_with m9 (4 : Int32) a1 (2 : Int32)) = o9 := ⟨_, rfl⟩
                  refine wr_call (r := (some (.int o1.1))) (ws' := wM k z o1.2) (W.runV (C := RX4) (b := (z 0)) (As := [.int (4 : Int32), .int a1, .int (2 : Int32)]) (rest := []) ⟨hx, hb, hml, hown, hts⟩ (kX4_with l D k z m9 (4 : Int32) a1 (2 : Int32) o1 h_o1) (cwV 3 hts gX4_map_X4_with rfl rfl rfl (by decide +kernel) ⟨Nat.le_of_ble_eq_true rfl, Nat.le_of_ble_eq_true rfl⟩) (wr_preV bl_T pr_T hK hP hD (va_recv hK hP (ci := 3) (q0 := 0) rfl rfl)) rfl rfl hl.1 rfl (lv_room (Nat.le_of_ble_eq_true rfl)) dX4_map_170 ⟨Nat.zero_le _, Nat.zero_le _⟩) hP hD hS [0, 1, 2, 3, 4, 5, 6, 7, 8, 9] [] [0, 1, 2, 3, 4, 5, 6, 7, 8, 9] allM (by decide) prmM adrM (fun H locs hP hD hS => ?_)
                  exact W.iret (v := o1.1) hx hb hr (wr_end (congrArg (fun t9 : Int32 × MD => some (Value.int t9.1)) ((show fX4_map w a1 a2 = (o1.1, o1.2) from heq.symm.trans (show fX4_map_lp a1 a2 0 i m9 x3 x4 = (o1.1, o1.2) from (by subst h_o1; exact (if_pos c_70).trans ((if_neg c_78).trans ((if_neg c_111).trans ((if_pos c_134).trans ((if_pos c_156).trans ((if_pos c_163).trans rfl)))))))).symm.trans ho)) (congrArg (fun t9 : Int32 × MD => wM k z t9.2) ((show fX4_map w a1 a2 = (o1.1, o1.2) from heq.symm.trans (show fX4_map_lp a1 a2 0 i m9 x3 x4 = (o1.1, o1.2) from (by subst h_o1; exact (if_pos c_70).trans ((if_neg c_78).trans ((if_neg c_111).trans ((if_pos c_134).trans ((if_pos c_156).trans ((if_pos c_163).trans rfl)))))))).symm.trans ho)) hP hS) hS.2.2 dX4_map_173
            · refine lv_iload hx hb dX4_map_137 (lv_at hl 0 rfl) ?_
              refine lv_bipush (v := (12 : Int32)) hx hb dX4_map_139 (by decide) ?_
              refine lv_iand hx hb dX4_map_141 ?_
              refine lv_if_ne (tgt := 154) hx hb dX4_map_142 (by decide) (fun c_142 => ?_) (fun c_142 => ?_)
              · refine lv_iload_n hx hb dX4_map_154 rfl (lv_at hl 3 rfl) ?_
                refine lv_iconst (v := (2 : Int32)) hx hb dX4_map_155 (by decide) ?_
                refine lv_icmp_ne (tgt := 174) hx hb dX4_map_156 (by decide) (fun c_156 => ?_) (fun c_156 => ?_)
                · refine lv_aload_n hx hb dX4_map_174 rfl (lv_at hl 1 rfl) ?_
                  refine lv_iload_n hx hb dX4_map_175 rfl (lv_at hl 2 rfl) ?_
                  refine lv_bipush (v := (63 : Int32)) hx hb dX4_map_176 (by decide) ?_
                  refine lv_iand hx hb dX4_map_178 ?_
                  refine lv_bipush (v := (64 : Int32)) hx hb dX4_map_179 (by decide) ?_
                  refine lv_iload hx hb dX4_map_181 (lv_at hl 0 rfl) ?_
                  refine lv_bipush (v := (6 : Int32)) hx hb dX4_map_183 (by decide) ?_
                  refine lv_ishr hx hb dX4_map_185 ?_
                  refine lv_bipush (v := (31 : Int32)) hx hb dX4_map_186 (by decide) ?_
                  refine lv_iand hx hb dX4_map_188 ?_
                  refine lv_imul hx hb dX4_map_189 ?_
                  refine lv_iadd hx hb dX4_map_190 ?_
                  refine va_put (D := D) (ci := 3) (v := .int ((a1 &&& (63 : Int32)) + ((64 : Int32) * (((m9.2.2.2.2.2.2.2.2.1 (ix (((2 : Int32) * x3) + ((a1 >>> ((6 : Int32) &&& 31)) &&& (1 : Int32))))) >>> ((6 : Int32) &&& 31)) &&& (31 : Int32))))) (ty := .int) (C := RX4) (T := TX4) (N := 20) hx hb hts (by decide +kernel) tyX4 tyX4_ok nmX4 hown hK hP hD hS 0 rfl rfl 18 (by decide) (hts (.fieldLink RX4 68 "TrapMachineModel" "found" "I") (by decide +kernel)) (fun _ h9 => h9) rfl (by decide +kernel) rfl rfl (Nat.le_of_ble_eq_true rfl) dX4_map_191 (fun H locs hP hD hS => ?_)
                  have hP : va_P D vwCl (wM k z (ms17 m9 ((a1 &&& (63 : Int32)) + ((64 : Int32) * (((m9.2.2.2.2.2.2.2.2.1 (ix (((2 : Int32) * x3) + ((a1 >>> ((6 : Int32) &&& 31)) &&& (1 : Int32))))) >>> ((6 : Int32) &&& 31)) &&& (31 : Int32)))))) H := hP
                  have hD : va_D (in_W (wM k z w)) (wM k z (ms17 m9 ((a1 &&& (63 : Int32)) + ((64 : Int32) * (((m9.2.2.2.2.2.2.2.2.1 (ix (((2 : Int32) * x3) + ((a1 >>> ((6 : Int32) &&& 31)) &&& (1 : Int32))))) >>> ((6 : Int32) &&& 31)) &&& (31 : Int32)))))) := hD
                  refine lv_iconst (v := (-1 : Int32)) hx hb dX4_map_194 (by decide) ?_
                  exact W.iret (v := (-1 : Int32)) hx hb hr (wr_end (congrArg (fun t9 : Int32 × MD => some (Value.int t9.1)) ((show fX4_map w a1 a2 = ((-1 : Int32), (ms17 m9 ((a1 &&& (63 : Int32)) + ((64 : Int32) * (((m9.2.2.2.2.2.2.2.2.1 (ix (((2 : Int32) * x3) + ((a1 >>> ((6 : Int32) &&& 31)) &&& (1 : Int32))))) >>> ((6 : Int32) &&& 31)) &&& (31 : Int32)))))) from heq.symm.trans (show fX4_map_lp a1 a2 0 i m9 x3 x4 = ((-1 : Int32), (ms17 m9 ((a1 &&& (63 : Int32)) + ((64 : Int32) * (((m9.2.2.2.2.2.2.2.2.1 (ix (((2 : Int32) * x3) + ((a1 >>> ((6 : Int32) &&& 31)) &&& (1 : Int32))))) >>> ((6 : Int32) &&& 31)) &&& (31 : Int32)))))) from (if_pos c_70).trans ((if_neg c_78).trans ((if_neg c_111).trans ((if_neg c_134).trans ((if_neg c_142).trans ((if_neg c_156).trans rfl))))))).symm.trans ho)) (congrArg (fun t9 : Int32 × MD => wM k z t9.2) ((show fX4_map w a1 a2 = ((-1 : Int32), (ms17 m9 ((a1 &&& (63 : Int32)) + ((64 : Int32) * (((m9.2.2.2.2.2.2.2.2.1 (ix (((2 : Int32) * x3) + ((a1 >>> ((6 : Int32) &&& 31)) &&& (1 : Int32))))) >>> ((6 : Int32) &&& 31)) &&& (31 : Int32)))))) from heq.symm.trans (show fX4_map_lp a1 a2 0 i m9 x3 x4 = ((-1 : Int32), (ms17 m9 ((a1 &&& (63 : Int32)) + ((64 : Int32) * (((m9.2.2.2.2.2.2.2.2.1 (ix (((2 : Int32) * x3) + ((a1 >>> ((6 : Int32) &&& 31)) &&& (1 : Int32))))) >>> ((6 : Int32) &&& 31)) &&& (31 : Int32)))))) from (if_pos c_70).trans ((if_neg c_78).trans ((if_neg c_111).trans ((if_neg c_134).trans ((if_neg c_142).trans ((if_neg c_156).trans rfl))))))).symm.trans ho)) hP hS) hS.2.2 dX4_map_195
                · refine lv_iload hx hb dX4_map_159 (lv_at hl 0 rfl) ?_
                  refine lv_iconst (v := (2 : Int32)) hx hb dX4_map_161 (by decide) ?_
                  refine lv_iand hx hb dX4_map_162 ?_
                  refine lv_if_ne (tgt := 174) hx hb dX4_map_163 (by decide) (fun c_163 => ?_) (fun c_163 => ?_)
                  · refine lv_aload_n hx hb dX4_map_174 rfl (lv_at hl 1 rfl) ?_
                    refine lv_iload_n hx hb dX4_map_175 rfl (lv_at hl 2 rfl) ?_
                    refine lv_bipush (v := (63 : Int32)) hx hb dX4_map_176 (by decide) ?_
                    refine lv_iand hx hb dX4_map_178 ?_
                    refine lv_bipush (v := (64 : Int32)) hx hb dX4_map_179 (by decide) ?_
                    refine lv_iload hx hb dX4_map_181 (lv_at hl 0 rfl) ?_
                    refine lv_bipush (v := (6 : Int32)) hx hb dX4_map_183 (by decide) ?_
                    refine lv_ishr hx hb dX4_map_185 ?_
                    refine lv_bipush (v := (31 : Int32)) hx hb dX4_map_186 (by decide) ?_
                    refine lv_iand hx hb dX4_map_188 ?_
                    refine lv_imul hx hb dX4_map_189 ?_
                    refine lv_iadd hx hb dX4_map_190 ?_
                    refine va_put (D := D) (ci := 3) (v := .int ((a1 &&& (63 : Int32)) + ((64 : Int32) * (((m9.2.2.2.2.2.2.2.2.1 (ix (((2 : Int32) * x3) + ((a1 >>> ((6 : Int32) &&& 31)) &&& (1 : Int32))))) >>> ((6 : Int32) &&& 31)) &&& (31 : Int32))))) (ty := .int) (C := RX4) (T := TX4) (N := 20) hx hb hts (by decide +kernel) tyX4 tyX4_ok nmX4 hown hK hP hD hS 0 rfl rfl 18 (by decide) (hts (.fieldLink RX4 68 "TrapMachineModel" "found" "I") (by decide +kernel)) (fun _ h9 => h9) rfl (by decide +kernel) rfl rfl (Nat.le_of_ble_eq_true rfl) dX4_map_191 (fun H locs hP hD hS => ?_)
                    have hP : va_P D vwCl (wM k z (ms17 m9 ((a1 &&& (63 : Int32)) + ((64 : Int32) * (((m9.2.2.2.2.2.2.2.2.1 (ix (((2 : Int32) * x3) + ((a1 >>> ((6 : Int32) &&& 31)) &&& (1 : Int32))))) >>> ((6 : Int32) &&& 31)) &&& (31 : Int32)))))) H := hP
                    have hD : va_D (in_W (wM k z w)) (wM k z (ms17 m9 ((a1 &&& (63 : Int32)) + ((64 : Int32) * (((m9.2.2.2.2.2.2.2.2.1 (ix (((2 : Int32) * x3) + ((a1 >>> ((6 : Int32) &&& 31)) &&& (1 : Int32))))) >>> ((6 : Int32) &&& 31)) &&& (31 : Int32)))))) := hD
                    refine lv_iconst (v := (-1 : Int32)) hx hb dX4_map_194 (by decide) ?_
                    exact W.iret (v := (-1 : Int32)) hx hb hr (wr_end (congrArg (fun t9 : Int32 × MD => some (Value.int t9.1)) ((show fX4_map w a1 a2 = ((-1 : Int32), (ms17 m9 ((a1 &&& (63 : Int32)) + ((64 : Int32) * (((m9.2.2.2.2.2.2.2.2.1 (ix (((2 : Int32) * x3) + ((a1 >>> ((6 : Int32) &&& 31)) &&& (1 : Int32))))) >>> ((6 : Int32) &&& 31)) &&& (31 : Int32)))))) from heq.symm.trans (show fX4_map_lp a1 a2 0 i m9 x3 x4 = ((-1 : Int32), (ms17 m9 ((a1 &&& (63 : Int32)) + ((64 : Int32) * (((m9.2.2.2.2.2.2.2.2.1 (ix (((2 : Int32) * x3) + ((a1 >>> ((6 : Int32) &&& 31)) &&& (1 : Int32))))) >>> ((6 : Int32) &&& 31)) &&& (31 : Int32)))))) from (if_pos c_70).trans ((if_neg c_78).trans ((if_neg c_111).trans ((if_neg c_134).trans ((if_neg c_142).trans ((if_pos c_156).trans ((if_neg c_163).trans rfl)))))))).symm.trans ho)) (congrArg (fun t9 : Int32 × MD => wM k z t9.2) ((show fX4_map w a1 a2 = ((-1 : Int32), (ms17 m9 ((a1 &&& (63 : Int32)) + ((64 : Int32) * (((m9.2.2.2.2.2.2.2.2.1 (ix (((2 : Int32) * x3) + ((a1 >>> ((6 : Int32) &&& 31)) &&& (1 : Int32))))) >>> ((6 : Int32) &&& 31)) &&& (31 : Int32)))))) from heq.symm.trans (show fX4_map_lp a1 a2 0 i m9 x3 x4 = ((-1 : Int32), (ms17 m9 ((a1 &&& (63 : Int32)) + ((64 : Int32) * (((m9.2.2.2.2.2.2.2.2.1 (ix (((2 : Int32) * x3) + ((a1 >>> ((6 : Int32) &&& 31)) &&& (1 : Int32))))) >>> ((6 : Int32) &&& 31)) &&& (31 : Int32)))))) from (if_pos c_70).trans ((if_neg c_78).trans ((if_neg c_111).trans ((if_neg c_134).trans ((if_neg c_142).trans ((if_pos c_156).trans ((if_neg c_163).trans rfl)))))))).symm.trans ho)) hP hS) hS.2.2 dX4_map_195
                  · refine lv_aload_n hx hb dX4_map_166 rfl (lv_at hl 1 rfl) ?_
                    refine lv_iconst (v := (4 : Int32)) hx hb dX4_map_167 (by decide) ?_
                    refine lv_iload_n hx hb dX4_map_168 rfl (lv_at hl 2 rfl) ?_
                    refine lv_iconst (v := (2 : Int32)) hx hb dX4_map_169 (by decide) ?_
                    obtain ⟨o2, h_o2⟩ : ∃ o9, (fX4_with m9 (4 : Int32) a1 (2 : Int32)) = o9 := ⟨_, rfl⟩
                    refine wr_call (r := (some (.int o2.1))) (ws' := wM k z o2.2) (W.runV (C := RX4) (b := (z 0)) (As := [.int (4 : Int32), .int a1, .int (2 : Int32)]) (rest := []) ⟨hx, hb, hml, hown, hts⟩ (kX4_with l D k z m9 (4 : Int32) a1 (2 : Int32) o2 h_o2) (cwV 3 hts gX4_map_X4_with rfl rfl rfl (by decide +kernel) ⟨Nat.le_of_ble_eq_true rfl, Nat.le_of_ble_eq_true rfl⟩) (wr_preV bl_T pr_T hK hP hD (va_recv hK hP (ci := 3) (q0 := 0) rfl rfl)) rfl rfl hl.1 rfl (lv_room (Nat.le_of_ble_eq_true rfl)) dX4_map_170 ⟨Nat.zero_le _, Nat.zero_le _⟩) hP hD hS [0, 1, 2, 3, 4, 5, 6, 7, 8, 9] [] [0, 1, 2, 3, 4, 5, 6, 7, 8, 9] allM (by decide) prmM adrM (fun H locs hP hD hS => ?_)
                    exact W.iret (v := o2.1) hx hb hr (wr_end (congrArg (fun t9 : Int32 × MD => some (Value.int t9.1)) ((show fX4_map w a1 a2 = (o2.1, o2.2) from heq.symm.trans (show fX4_map_lp a1 a2 0 i m9 x3 x4 = (o2.1, o2.2) from (by subst h_o2; exact (if_pos c_70).trans ((if_neg c_78).trans ((if_neg c_111).trans ((if_neg c_134).trans ((if_neg c_142).trans ((if_pos c_156).trans ((if_pos c_163).trans rfl))))))))).symm.trans ho)) (congrArg (fun t9 : Int32 × MD => wM k z t9.2) ((show fX4_map w a1 a2 = (o2.1, o2.2) from heq.symm.trans (show fX4_map_lp a1 a2 0 i m9 x3 x4 = (o2.1, o2.2) from (by subst h_o2; exact (if_pos c_70).trans ((if_neg c_78).trans ((if_neg c_111).trans ((if_neg c_134).trans ((if_neg c_142).trans ((if_pos c_156).trans ((if_pos c_163).trans rfl))))))))).symm.trans ho)) hP hS) hS.2.2 dX4_map_173
              · refine lv_aload_n hx hb dX4_map_145 rfl (lv_at hl 1 rfl) ?_
                refine lv_bipush (v := (7 : Int32)) hx hb dX4_map_146 (by decide) ?_
                refine lv_iload_n hx hb dX4_map_148 rfl (lv_at hl 2 rfl) ?_
                refine lv_iconst (v := (2 : Int32)) hx hb dX4_map_149 (by decide) ?_
                obtain ⟨o3, h_o3⟩ : ∃ o9, (fX4_with m9 (7 : Int32) a1 (2 : Int32)) = o9 := ⟨_, rfl⟩
                refine wr_call (r := (some (.int o3.1))) (ws' := wM k z o3.2) (W.runV (C := RX4) (b := (z 0)) (As := [.int (7 : Int32), .int a1, .int (2 : Int32)]) (rest := []) ⟨hx, hb, hml, hown, hts⟩ (kX4_with l D k z m9 (7 : Int32) a1 (2 : Int32) o3 h_o3) (cwV 3 hts gX4_map_X4_with rfl rfl rfl (by decide +kernel) ⟨Nat.le_of_ble_eq_true rfl, Nat.le_of_ble_eq_true rfl⟩) (wr_preV bl_T pr_T hK hP hD (va_recv hK hP (ci := 3) (q0 := 0) rfl rfl)) rfl rfl hl.1 rfl (lv_room (Nat.le_of_ble_eq_true rfl)) dX4_map_150 ⟨Nat.zero_le _, Nat.zero_le _⟩) hP hD hS [0, 1, 2, 3, 4, 5, 6, 7, 8, 9] [] [0, 1, 2, 3, 4, 5, 6, 7, 8, 9] allM (by decide) prmM adrM (fun H locs hP hD hS => ?_)
                exact W.iret (v := o3.1) hx hb hr (wr_end (congrArg (fun t9 : Int32 × MD => some (Value.int t9.1)) ((show fX4_map w a1 a2 = (o3.1, o3.2) from heq.symm.trans (show fX4_map_lp a1 a2 0 i m9 x3 x4 = (o3.1, o3.2) from (by subst h_o3; exact (if_pos c_70).trans ((if_neg c_78).trans ((if_neg c_111).trans ((if_neg c_134).trans ((if_pos c_142).trans rfl))))))).symm.trans ho)) (congrArg (fun t9 : Int32 × MD => wM k z t9.2) ((show fX4_map w a1 a2 = (o3.1, o3.2) from heq.symm.trans (show fX4_map_lp a1 a2 0 i m9 x3 x4 = (o3.1, o3.2) from (by subst h_o3; exact (if_pos c_70).trans ((if_neg c_78).trans ((if_neg c_111).trans ((if_neg c_134).trans ((if_pos c_142).trans rfl))))))).symm.trans ho)) hP hS) hS.2.2 dX4_map_153
          · refine lv_aload_n hx hb dX4_map_114 rfl (lv_at hl 1 rfl) ?_
            refine lv_iload_n hx hb dX4_map_115 rfl (lv_at hl 3 rfl) ?_
            refine lv_if_ne (tgt := 123) hx hb dX4_map_116 (by decide) (fun c_116 => ?_) (fun c_116 => ?_)
            · refine lv_iload_n hx hb dX4_map_123 rfl (lv_at hl 3 rfl) ?_
              refine lv_iload_n hx hb dX4_map_124 rfl (lv_at hl 2 rfl) ?_
              refine lv_iconst (v := (2 : Int32)) hx hb dX4_map_125 (by decide) ?_
              obtain ⟨o4, h_o4⟩ : ∃ o9, (fX4_with m9 a2 a1 (2 : Int32)) = o9 := ⟨_, rfl⟩
              refine wr_call (r := (some (.int o4.1))) (ws' := wM k z o4.2) (W.runV (C := RX4) (b := (z 0)) (As := [.int a2, .int a1, .int (2 : Int32)]) (rest := []) ⟨hx, hb, hml, hown, hts⟩ (kX4_with l D k z m9 a2 a1 (2 : Int32) o4 h_o4) (cwV 3 hts gX4_map_X4_with rfl rfl rfl (by decide +kernel) ⟨Nat.le_of_ble_eq_true rfl, Nat.le_of_ble_eq_true rfl⟩) (wr_preV bl_T pr_T hK hP hD (va_recv hK hP (ci := 3) (q0 := 0) rfl rfl)) rfl rfl hl.1 rfl (lv_room (Nat.le_of_ble_eq_true rfl)) dX4_map_126 ⟨Nat.zero_le _, Nat.zero_le _⟩) hP hD hS [0, 1, 2, 3, 4, 5, 6, 7, 8, 9] [] [0, 1, 2, 3, 4, 5, 6, 7, 8, 9] allM (by decide) prmM adrM (fun H locs hP hD hS => ?_)
              exact W.iret (v := o4.1) hx hb hr (wr_end (congrArg (fun t9 : Int32 × MD => some (Value.int t9.1)) ((show fX4_map w a1 a2 = (o4.1, o4.2) from heq.symm.trans (show fX4_map_lp a1 a2 0 i m9 x3 x4 = (o4.1, o4.2) from (by subst h_o4; exact (if_pos c_70).trans ((if_neg c_78).trans ((if_pos c_111).trans ((if_neg c_116).trans rfl)))))).symm.trans ho)) (congrArg (fun t9 : Int32 × MD => wM k z t9.2) ((show fX4_map w a1 a2 = (o4.1, o4.2) from heq.symm.trans (show fX4_map_lp a1 a2 0 i m9 x3 x4 = (o4.1, o4.2) from (by subst h_o4; exact (if_pos c_70).trans ((if_neg c_78).trans ((if_pos c_111).trans ((if_neg c_116).trans rfl)))))).symm.trans ho)) hP hS) hS.2.2 dX4_map_129
            · refine lv_iconst (v := (3 : Int32)) hx hb dX4_map_119 (by decide) ?_
              refine lv_goto (tgt := 124) hx hb dX4_map_120 (by decide) ?_
              refine lv_iload_n hx hb dX4_map_124 rfl (lv_at hl 2 rfl) ?_
              refine lv_iconst (v := (2 : Int32)) hx hb dX4_map_125 (by decide) ?_
              obtain ⟨o5, h_o5⟩ : ∃ o9, (fX4_with m9 (3 : Int32) a1 (2 : Int32)) = o9 := ⟨_, rfl⟩
              refine wr_call (r := (some (.int o5.1))) (ws' := wM k z o5.2) (W.runV (C := RX4) (b := (z 0)) (As := [.int (3 : Int32), .int a1, .int (2 : Int32)]) (rest := []) ⟨hx, hb, hml, hown, hts⟩ (kX4_with l D k z m9 (3 : Int32) a1 (2 : Int32) o5 h_o5) (cwV 3 hts gX4_map_X4_with rfl rfl rfl (by decide +kernel) ⟨Nat.le_of_ble_eq_true rfl, Nat.le_of_ble_eq_true rfl⟩) (wr_preV bl_T pr_T hK hP hD (va_recv hK hP (ci := 3) (q0 := 0) rfl rfl)) rfl rfl hl.1 rfl (lv_room (Nat.le_of_ble_eq_true rfl)) dX4_map_126 ⟨Nat.zero_le _, Nat.zero_le _⟩) hP hD hS [0, 1, 2, 3, 4, 5, 6, 7, 8, 9] [] [0, 1, 2, 3, 4, 5, 6, 7, 8, 9] allM (by decide) prmM adrM (fun H locs hP hD hS => ?_)
              exact W.iret (v := o5.1) hx hb hr (wr_end (congrArg (fun t9 : Int32 × MD => some (Value.int t9.1)) ((show fX4_map w a1 a2 = (o5.1, o5.2) from heq.symm.trans (show fX4_map_lp a1 a2 0 i m9 x3 x4 = (o5.1, o5.2) from (by subst h_o5; exact (if_pos c_70).trans ((if_neg c_78).trans ((if_pos c_111).trans ((if_pos c_116).trans rfl)))))).symm.trans ho)) (congrArg (fun t9 : Int32 × MD => wM k z t9.2) ((show fX4_map w a1 a2 = (o5.1, o5.2) from heq.symm.trans (show fX4_map_lp a1 a2 0 i m9 x3 x4 = (o5.1, o5.2) from (by subst h_o5; exact (if_pos c_70).trans ((if_neg c_78).trans ((if_pos c_111).trans ((if_pos c_116).trans rfl)))))).symm.trans ho)) hP hS) hS.2.2 dX4_map_129
        · refine lv_aload_n hx hb dX4_map_81 rfl (lv_at hl 0 rfl) ?_
          refine lv_bipush (v := (63 : Int32)) hx hb dX4_map_82 (by decide) ?_
          refine lv_iload_n hx hb dX4_map_84 rfl (lv_at hl 1 rfl) ?_
          refine lv_iconst (v := (2 : Int32)) hx hb dX4_map_85 (by decide) ?_
          obtain ⟨o6, h_o6⟩ : ∃ o9, (fX4_with m9 (63 : Int32) a1 (2 : Int32)) = o9 := ⟨_, rfl⟩
          refine wr_call (r := (some (.int o6.1))) (ws' := wM k z o6.2) (W.runV (C := RX4) (b := (z 0)) (As := [.int (63 : Int32), .int a1, .int (2 : Int32)]) (rest := []) ⟨hx, hb, hml, hown, hts⟩ (kX4_with l D k z m9 (63 : Int32) a1 (2 : Int32) o6 h_o6) (cwV 3 hts gX4_map_X4_with rfl rfl rfl (by decide +kernel) ⟨Nat.le_of_ble_eq_true rfl, Nat.le_of_ble_eq_true rfl⟩) (wr_preV bl_T pr_T hK hP hD (va_recv hK hP (ci := 3) (q0 := 0) rfl rfl)) rfl rfl hl.1 rfl (lv_room (Nat.le_of_ble_eq_true rfl)) dX4_map_86 ⟨Nat.zero_le _, Nat.zero_le _⟩) hP hD hS [0, 1, 2, 3, 4, 5, 6, 7, 8, 9] [] [0, 1, 2, 3, 4, 5, 6, 7, 8, 9] allM (by decide) prmM adrM (fun H locs hP hD hS => ?_)
          exact W.iret (v := o6.1) hx hb hr (wr_end (congrArg (fun t9 : Int32 × MD => some (Value.int t9.1)) ((show fX4_map w a1 a2 = (o6.1, o6.2) from heq.symm.trans (show fX4_map_lp a1 a2 0 i m9 x3 x4 = (o6.1, o6.2) from (by subst h_o6; exact (if_pos c_70).trans ((if_pos c_78).trans rfl)))).symm.trans ho)) (congrArg (fun t9 : Int32 × MD => wM k z t9.2) ((show fX4_map w a1 a2 = (o6.1, o6.2) from heq.symm.trans (show fX4_map_lp a1 a2 0 i m9 x3 x4 = (o6.1, o6.2) from (by subst h_o6; exact (if_pos c_70).trans ((if_pos c_78).trans rfl)))).symm.trans ho)) hP hS) hS.2.2 dX4_map_89
      · refine lv_bipush (v := (-2 : Int32)) hx hb dX4_map_73 (by decide) ?_
        exact W.iret (v := (-2 : Int32)) hx hb hr (wr_end (congrArg (fun t9 : Int32 × MD => some (Value.int t9.1)) ((show fX4_map w a1 a2 = ((-2 : Int32), m9) from heq.symm.trans (show fX4_map_lp a1 a2 0 i m9 x3 x4 = ((-2 : Int32), m9) from (if_neg c_70).trans rfl)).symm.trans ho)) (congrArg (fun t9 : Int32 × MD => wM k z t9.2) ((show fX4_map w a1 a2 = ((-2 : Int32), m9) from heq.symm.trans (show fX4_map_lp a1 a2 0 i m9 x3 x4 = ((-2 : Int32), m9) from (if_neg c_70).trans rfl)).symm.trans ho)) hP hS) hS.2.2 dX4_map_75
    | succ n ih =>
      intro i m9 x3 x4 H locs hin heq hP hD hS hm ls hl
      refine lv_iload hx hb dX4_map_8 (lv_at hl 5 rfl) ?_
      refine lv_iconst (v := (4 : Int32)) hx hb dX4_map_10 (by decide) ?_
      refine lv_icmp_ge (tgt := 67) hx hb dX4_map_11 (by decide) (fun c9 => absurd c9 (m4_f (by omega))) (fun _ => ?_)
      refine lv_aload_n hx hb dX4_map_14 rfl (lv_at hl 0 rfl) ?_
      refine lv_iload hx hb dX4_map_15 (lv_at hl 5 rfl) ?_
      refine lv_iload_n hx hb dX4_map_17 rfl (lv_at hl 1 rfl) ?_
      refine rd_call (r := (fX4_pairOf a1)) (W.runS (As := [.int a1]) (rest := [.int (nI i), .ref (z 0)]) ⟨hx, hb, hml, hown, hts⟩ (kX4_pairOf l a1) (va_cwS 1 hts gX4_map_X4_pairOf rfl rfl rfl (by decide +kernel) ⟨Nat.le_of_ble_eq_true rfl, Nat.le_of_ble_eq_true rfl⟩) preEq rfl rfl hl.1 rfl (lv_room (Nat.le_of_ble_eq_true rfl)) dX4_map_18 ⟨Nat.zero_le _, Nat.zero_le _⟩) ?_
      refine lv_aload_n hx hb dX4_map_21 rfl (lv_at hl 0 rfl) ?_
      refine va_get (D := D) (ci := 3) (v := .ref (z 3)) (C := RX4) (T := TX4) (N := 20) hx hb hts (by decide +kernel) hown hK hP 0 rfl rfl 3 (by decide) (hts (.fieldLink RX4 16 "TrapMachineModel" "control" "[I") (by decide +kernel)) (fun _ h9 => h9) rfl dX4_map_22 ?_
      refine lv_bipush (v := (11 : Int32)) hx hb dX4_map_25 (by decide) ?_
      refine q_iald (j := 11) (x9 := (m9.2.2.2.1 11)) hx hb hK hP 3 0 rfl rfl (vi_k (by decide)) rfl rfl dX4_map_27 ?_
      refine rd_call (r := (fX4_fits m9 (nI i) (fX4_pairOf a1) (m9.2.2.2.1 11))) (W.runV (C := RX4) (b := (z 0)) (As := [.int (nI i), .int (fX4_pairOf a1), .int (m9.2.2.2.1 11)]) (rest := []) ⟨hx, hb, hml, hown, hts⟩ (kX4_fits l D k z m9 (nI i) (fX4_pairOf a1) (m9.2.2.2.1 11) (vp_in_nI (by omega) (by omega))) (cwV 3 hts gX4_map_X4_fits rfl rfl rfl (by decide +kernel) ⟨Nat.le_of_ble_eq_true rfl, Nat.le_of_ble_eq_true rfl⟩) (rd_preV bl_T pr_T hK hP (va_recv hK hP (ci := 3) (q0 := 0) rfl rfl)) rfl rfl hl.1 rfl (lv_room (Nat.le_of_ble_eq_true rfl)) dX4_map_28 ⟨Nat.zero_le _, Nat.zero_le _⟩) ?_
      refine lv_istore (lv' := [(6, .int (fX4_fits m9 (nI i) (fX4_pairOf a1) (m9.2.2.2.1 11))), (0, .ref (z 0)), (1, .int a1), (2, .int a2), (3, .int x3), (4, .int x4), (5, .int (nI i))]) hx hb dX4_map_31 hl (by decide) rfl (fun ls hl => ?_)
      refine lv_iload hx hb dX4_map_33 (lv_at hl 0 rfl) ?_
      refine lv_if_eq (tgt := 43) hx hb dX4_map_35 (by decide) (fun c_35 => ?_) (fun c_35 => ?_)
      · refine lv_iload_n hx hb dX4_map_43 rfl (lv_at hl 4 rfl) ?_
        refine lv_istore_n (lv' := [(3, .int x3), (6, .int (fX4_fits m9 (nI i) (fX4_pairOf a1) (m9.2.2.2.1 11))), (0, .ref (z 0)), (1, .int a1), (2, .int a2), (4, .int x4), (5, .int (nI i))]) hx hb dX4_map_44 rfl hl (by decide) rfl (fun ls hl => ?_)
        refine lv_iload hx hb dX4_map_45 (lv_at hl 1 rfl) ?_
        refine lv_if_eq (tgt := 57) hx hb dX4_map_47 (by decide) (fun _ => ?_) (fun c9 => absurd c_35 c9)
        refine lv_iload hx hb dX4_map_57 (lv_at hl 5 rfl) ?_
        refine lv_istore (lv' := [(4, .int x4), (3, .int x3), (6, .int (fX4_fits m9 (nI i) (fX4_pairOf a1) (m9.2.2.2.1 11))), (0, .ref (z 0)), (1, .int a1), (2, .int a2), (5, .int (nI i))]) hx hb dX4_map_59 hl (by decide) rfl (fun ls hl => ?_)
        refine lv_iinc (v := ((nI i) + (1 : Int32))) (lv' := [(5, .int ((nI i) + (1 : Int32))), (4, .int x4), (3, .int x3), (6, .int (fX4_fits m9 (nI i) (fX4_pairOf a1) (m9.2.2.2.1 11))), (0, .ref (z 0)), (1, .int a1), (2, .int a2)]) hx hb dX4_map_61 hl (k := 6) rfl rfl (by decide) rfl (fun ls hl => ?_)
        refine lv_goto (tgt := 8) hx hb dX4_map_64 (by decide) ?_
        exact ih (i + 1) m9 x3 x4 H locs (by omega) ((show fX4_map_lp a1 a2 (n + 1) i m9 x3 x4 = fX4_map_lp a1 a2 n (i + 1) m9 x3 x4 from (if_pos c_35).trans rfl).symm.trans heq) hP hD hS hm ls (by rw [← nI_1 i]; exact lv_sub hl [4, 5, 6, 2, 1, 0] rfl)
      · refine lv_iload hx hb dX4_map_38 (lv_at hl 6 rfl) ?_
        refine lv_goto (tgt := 44) hx hb dX4_map_40 (by decide) ?_
        refine lv_istore_n (lv' := [(3, .int (nI i)), (6, .int (fX4_fits m9 (nI i) (fX4_pairOf a1) (m9.2.2.2.1 11))), (0, .ref (z 0)), (1, .int a1), (2, .int a2), (4, .int x4), (5, .int (nI i))]) hx hb dX4_map_44 rfl hl (by decide) rfl (fun ls hl => ?_)
        refine lv_iload hx hb dX4_map_45 (lv_at hl 1 rfl) ?_
        refine lv_if_eq (tgt := 57) hx hb dX4_map_47 (by decide) (fun c9 => absurd c9 c_35) (fun _ => ?_)
        refine lv_iload hx hb dX4_map_50 (lv_at hl 5 rfl) ?_
        refine lv_iconst (v := (1 : Int32)) hx hb dX4_map_52 (by decide) ?_
        refine lv_iadd hx hb dX4_map_53 ?_
        refine lv_goto (tgt := 59) hx hb dX4_map_54 (by decide) ?_
        refine lv_istore (lv' := [(4, .int (x4 + (1 : Int32))), (3, .int (nI i)), (6, .int (fX4_fits m9 (nI i) (fX4_pairOf a1) (m9.2.2.2.1 11))), (0, .ref (z 0)), (1, .int a1), (2, .int a2), (5, .int (nI i))]) hx hb dX4_map_59 hl (by decide) rfl (fun ls hl => ?_)
        refine lv_iinc (v := ((nI i) + (1 : Int32))) (lv' := [(5, .int ((nI i) + (1 : Int32))), (4, .int (x4 + (1 : Int32))), (3, .int (nI i)), (6, .int (fX4_fits m9 (nI i) (fX4_pairOf a1) (m9.2.2.2.1 11))), (0, .ref (z 0)), (1, .int a1), (2, .int a2)]) hx hb dX4_map_61 hl (k := 6) rfl rfl (by decide) rfl (fun ls hl => ?_)
        refine lv_goto (tgt := 8) hx hb dX4_map_64 (by decide) ?_
        exact ih (i + 1) m9 (nI i) (x4 + (1 : Int32)) H locs (by omega) ((show fX4_map_lp a1 a2 (n + 1) i m9 x3 x4 = fX4_map_lp a1 a2 n (i + 1) m9 (nI i) (x4 + (1 : Int32)) from (if_neg c_35).trans rfl).symm.trans heq) hP hD hS (Or.inr ⟨i, by omega, rfl⟩) ls (by rw [← nI_1 i]; exact lv_sub hl [4, 5, 6, 2, 1, 0] rfl)
  refine lv_iconst (v := (-1 : Int32)) hx hb dX4_map_0 (by decide) ?_
  refine lv_istore_n (lv' := [(3, .int (-1 : Int32)), (0, .ref (z 0)), (1, .int a1), (2, .int a2)]) hx hb dX4_map_1 rfl hl (by decide) rfl (fun ls hl => ?_)
  refine lv_iconst (v := (0 : Int32)) hx hb dX4_map_2 (by decide) ?_
  refine lv_istore (lv' := [(4, .int (0 : Int32)), (3, .int (-1 : Int32)), (0, .ref (z 0)), (1, .int a1), (2, .int a2)]) hx hb dX4_map_3 hl (by decide) rfl (fun ls hl => ?_)
  refine lv_iconst (v := (0 : Int32)) hx hb dX4_map_5 (by decide) ?_
  refine lv_istore (lv' := [(5, .int (0 : Int32)), (4, .int (0 : Int32)), (3, .int (-1 : Int32)), (0, .ref (z 0)), (1, .int a1), (2, .int a2)]) hx hb dX4_map_6 hl (by decide) rfl (fun ls hl => ?_)
  exact lp 4 0 w (-1) 0 _ _ (by omega) rfl hP hD hS (Or.inl rfl) ls (by rw [nI_0]; exact lv_sub hl [3, 4, 5, 2, 1, 0] rfl)
def fX4_lookUp (w : MD) (a1 : Int32) (a2 : Int32) : Int32 × MD :=
  if (a1 &&& (3 : Int32)) = (0 : Int32) then
    if (iu a1 (28 : Int32)) = (iu (w.2.2.2.1 17) (28 : Int32)) then
      if (fX4_user w) = (0 : Int32) then
        if ((w.2.2.2.1 17) &&& (1 : Int32)) = (0 : Int32) then
          if ((w.2.2.2.1 0) &&& (8 : Int32)) = (0 : Int32) then
            if (fX4_map w a1 a2).1 = (-1 : Int32) then
              if (fX4_outside (fX4_map w a1 a2).2.2.2.2.2.2.2.2.2.2.2.2.2.2.2.2.2.2.1 (0 : Int32) (2047 : Int32)) = (0 : Int32) then
                ((-1 : Int32), (ms17 (fX4_map w a1 a2).2 ((fX4_map w a1 a2).2.2.2.2.2.2.2.2.2.2.2.2.2.2.2.2.2.2.1 / (4 : Int32))))
              else
                ((fX4_with (fX4_map w a1 a2).2 (8 : Int32) a1 (1 : Int32)).1, (fX4_with (fX4_map w a1 a2).2 (8 : Int32) a1 (1 : Int32)).2)
            else
              ((fX4_map w a1 a2).1, (fX4_map w a1 a2).2)
          else
            if (fX4_outside a1 (0 : Int32) (2047 : Int32)) = (0 : Int32) then
              ((-1 : Int32), (ms17 w (a1 / (4 : Int32))))
            else
              ((fX4_with w (8 : Int32) a1 (1 : Int32)).1, (fX4_with w (8 : Int32) a1 (1 : Int32)).2)
        else
          if ((w.2.2.2.1 0) &&& (8 : Int32)) = (0 : Int32) then
            if (fX4_outside (a1 &&& (268435455 : Int32)) (0 : Int32) (2047 : Int32)) = (0 : Int32) then
              ((-1 : Int32), (ms17 w ((a1 &&& (268435455 : Int32)) / (4 : Int32))))
            else
              ((fX4_with w (8 : Int32) a1 (1 : Int32)).1, (fX4_with w (8 : Int32) a1 (1 : Int32)).2)
          else
            if (fX4_outside a1 (0 : Int32) (2047 : Int32)) = (0 : Int32) then
              ((-1 : Int32), (ms17 w (a1 / (4 : Int32))))
            else
              ((fX4_with w (8 : Int32) a1 (1 : Int32)).1, (fX4_with w (8 : Int32) a1 (1 : Int32)).2)
      else
        if ((w.2.2.2.1 17) &&& (8 : Int32)) = (0 : Int32) then
          if ((w.2.2.2.1 0) &&& (8 : Int32)) = (0 : Int32) then
            if (fX4_map w a1 a2).1 = (-1 : Int32) then
              if (fX4_outside (fX4_map w a1 a2).2.2.2.2.2.2.2.2.2.2.2.2.2.2.2.2.2.2.1 (0 : Int32) (2047 : Int32)) = (0 : Int32) then
                ((-1 : Int32), (ms17 (fX4_map w a1 a2).2 ((fX4_map w a1 a2).2.2.2.2.2.2.2.2.2.2.2.2.2.2.2.2.2.2.1 / (4 : Int32))))
              else
                ((fX4_with (fX4_map w a1 a2).2 (8 : Int32) a1 (1 : Int32)).1, (fX4_with (fX4_map w a1 a2).2 (8 : Int32) a1 (1 : Int32)).2)
            else
              ((fX4_map w a1 a2).1, (fX4_map w a1 a2).2)
          else
            if (fX4_outside a1 (0 : Int32) (2047 : Int32)) = (0 : Int32) then
              ((-1 : Int32), (ms17 w (a1 / (4 : Int32))))
            else
              ((fX4_with w (8 : Int32) a1 (1 : Int32)).1, (fX4_with w (8 : Int32) a1 (1 : Int32)).2)
        else
          if ((w.2.2.2.1 0) &&& (8 : Int32)) = (0 : Int32) then
            if (fX4_outside (a1 &&& (268435455 : Int32)) (0 : Int32) (2047 : Int32)) = (0 : Int32) then
              ((-1 : Int32), (ms17 w ((a1 &&& (268435455 : Int32)) / (4 : Int32))))
            else
              ((fX4_with w (8 : Int32) a1 (1 : Int32)).1, (fX4_with w (8 : Int32) a1 (1 : Int32)).2)
          else
            if (fX4_outside a1 (0 : Int32) (2047 : Int32)) = (0 : Int32) then
              ((-1 : Int32), (ms17 w (a1 / (4 : Int32))))
            else
              ((fX4_with w (8 : Int32) a1 (1 : Int32)).1, (fX4_with w (8 : Int32) a1 (1 : Int32)).2)
    else
      if ((w.2.2.2.1 0) &&& (8 : Int32)) = (0 : Int32) then
        if (fX4_map w a1 a2).1 = (-1 : Int32) then
          if (fX4_outside (fX4_map w a1 a2).2.2.2.2.2.2.2.2.2.2.2.2.2.2.2.2.2.2.1 (0 : Int32) (2047 : Int32)) = (0 : Int32) then
            ((-1 : Int32), (ms17 (fX4_map w a1 a2).2 ((fX4_map w a1 a2).2.2.2.2.2.2.2.2.2.2.2.2.2.2.2.2.2.2.1 / (4 : Int32))))
          else
            ((fX4_with (fX4_map w a1 a2).2 (8 : Int32) a1 (1 : Int32)).1, (fX4_with (fX4_map w a1 a2).2 (8 : Int32) a1 (1 : Int32)).2)
        else
          ((fX4_map w a1 a2).1, (fX4_map w a1 a2).2)
      else
        if (fX4_outside a1 (0 : Int32) (2047 : Int32)) = (0 : Int32) then
          ((-1 : Int32), (ms17 w (a1 / (4 : Int32))))
        else
          ((fX4_with w (8 : Int32) a1 (1 : Int32)).1, (fX4_with w (8 : Int32) a1 (1 : Int32)).2)
  else
    if a2 = (0 : Int32) then
      ((fX4_with w (8 : Int32) a1 (1 : Int32)).1, (fX4_with w (8 : Int32) a1 (1 : Int32)).2)
    else
      ((fX4_with w (9 : Int32) a1 (1 : Int32)).1, (fX4_with w (9 : Int32) a1 (1 : Int32)).2)
set_option maxHeartbeats 4000000 in
set_option maxRecDepth 100000 in
theorem kX4_lookUp (l : Launch) (D : va_G) (k : Nat → ClassId) (z : Nat → Nat) (w : MD) (a1 : Int32) (a2 : Int32)  (o : Int32 × (MD)) (ho : fX4_lookUp w a1 a2 = o) : Met l yX4_lookUp wsX4_lookUp { frames := 2, cells := 0, slots := 0, locals := 49 } (wr_P D vwCl (tyL k) (wM k z w) (fun _ => True) [.ref (z 0), .int a1, .int a2]) (wr_Q D vwCl (some (.int o.1)) (wM k z w) (wM k z o.2)) 0 0 (in_W (wM k z w)) := by
  refine Met.ofW (cc := cX4_lookUp) (maxL := 6) (ret := (some .int)) (by decide) rfl ?_
  intro p e s m args below meth c s₁ B hml hv0
  obtain ⟨rfl, hP, hK, hX, hD0⟩ := hv0
  have hx := B.exec
  have hb := B.bytes
  have hr := B.returns
  have hts := atoms_spec (ws := wsX4_lookUp) B.pre
  have hown : s.vm.findClass RX4 = some m.cls := findClass_of_methodNamed B.named
  have hlocks := B.notSynchronized
  have hD : va_D (in_W (wM k z w)) (wM k z w) := wD_self hD0
  have hS : va_S (in_W (wM k z w)) s.heap s.heap [] := va_S.rf
  have hl := lv_entry ([.ref (z 0), .int a1, .int a2]) (n := 6) (Nat.le_of_ble_eq_true rfl)
  rw [lg_entry_eq]
  generalize (lg_sl ([.ref (z 0), .int a1, .int a2]) ++ List.replicate (6 - (lg_sl ([.ref (z 0), .int a1, .int a2])).length) Slot.unset).toArray = ls at hl ⊢
  have hl : lv_has ls 6 [(0, .ref (z 0)), (1, .int a1), (2, .int a2)] := hl
  refine lv_iload_n hx hb dX4_lookUp_0 rfl (lv_at hl 1 rfl) ?_
  refine lv_iconst (v := (3 : Int32)) hx hb dX4_lookUp_1 (by decide) ?_
  refine lv_iand hx hb dX4_lookUp_2 ?_
  refine lv_if_eq (tgt := 24) hx hb dX4_lookUp_3 (by decide) (fun c_3 => ?_) (fun c_3 => ?_)
  · refine lv_iload_n hx hb dX4_lookUp_24 rfl (lv_at hl 1 rfl) ?_
    refine lv_bipush (v := (28 : Int32)) hx hb dX4_lookUp_25 (by decide) ?_
    refine lv_iushr (v := (iu a1 (28 : Int32))) hx hb dX4_lookUp_27 rfl ?_
    refine lv_aload_n hx hb dX4_lookUp_28 rfl (lv_at hl 0 rfl) ?_
    refine va_get (D := D) (ci := 3) (v := .ref (z 3)) (C := RX4) (T := TX4) (N := 20) hx hb hts (by decide +kernel) hown hK hP 0 rfl rfl 3 (by decide) (hts (.fieldLink RX4 16 "TrapMachineModel" "control" "[I") (by decide +kernel)) (fun _ h9 => h9) rfl dX4_lookUp_29 ?_
    refine lv_bipush (v := (17 : Int32)) hx hb dX4_lookUp_32 (by decide) ?_
    refine q_iald (j := 17) (x9 := (w.2.2.2.1 17)) hx hb hK hP 3 0 rfl rfl (vi_k (by decide)) rfl rfl dX4_lookUp_34 ?_
    refine lv_bipush (v := (28 : Int32)) hx hb dX4_lookUp_35 (by decide) ?_
    refine lv_iushr (v := (iu (w.2.2.2.1 17) (28 : Int32))) hx hb dX4_lookUp_37 rfl ?_
    refine lv_icmp_ne (tgt := 69) hx hb dX4_lookUp_38 (by decide) (fun c_38 => ?_) (fun c_38 => ?_)
    · refine lv_iconst (v := (0 : Int32)) hx hb dX4_lookUp_69 (by decide) ?_
      refine lv_istore_n (lv' := [(3, .int (0 : Int32)), (0, .ref (z 0)), (1, .int a1), (2, .int a2)]) hx hb dX4_lookUp_70 rfl hl (by decide) rfl (fun ls hl => ?_)
      refine lv_iload_n hx hb dX4_lookUp_71 rfl (lv_at hl 2 rfl) ?_
      refine lv_istore (lv' := [(4, .int a1), (3, .int (0 : Int32)), (0, .ref (z 0)), (1, .int a1), (2, .int a2)]) hx hb dX4_lookUp_72 hl (by decide) rfl (fun ls hl => ?_)
      refine lv_aload_n hx hb dX4_lookUp_74 rfl (lv_at hl 2 rfl) ?_
      refine va_get (D := D) (ci := 3) (v := .ref (z 3)) (C := RX4) (T := TX4) (N := 20) hx hb hts (by decide +kernel) hown hK hP 0 rfl rfl 3 (by decide) (hts (.fieldLink RX4 16 "TrapMachineModel" "control" "[I") (by decide +kernel)) (fun _ h9 => h9) rfl dX4_lookUp_75 ?_
      refine lv_iconst (v := (0 : Int32)) hx hb dX4_lookUp_78 (by decide) ?_
      refine q_iald (j := 0) (x9 := (w.2.2.2.1 0)) hx hb hK hP 3 0 rfl rfl (vi_k (by decide)) rfl rfl dX4_lookUp_79 ?_
      refine lv_bipush (v := (8 : Int32)) hx hb dX4_lookUp_80 (by decide) ?_
      refine lv_iand hx hb dX4_lookUp_82 ?_
      refine lv_if_ne (tgt := 99) hx hb dX4_lookUp_83 (by decide) (fun c_83 => ?_) (fun c_83 => ?_)
      · refine lv_aload_n hx hb dX4_lookUp_99 rfl (lv_at hl 2 rfl) ?_
        refine va_get (D := D) (ci := 3) (v := .ref (z 3)) (C := RX4) (T := TX4) (N := 20) hx hb hts (by decide +kernel) hown hK hP 0 rfl rfl 3 (by decide) (hts (.fieldLink RX4 16 "TrapMachineModel" "control" "[I") (by decide +kernel)) (fun _ h9 => h9) rfl dX4_lookUp_100 ?_
        refine lv_iconst (v := (0 : Int32)) hx hb dX4_lookUp_103 (by decide) ?_
        refine q_iald (j := 0) (x9 := (w.2.2.2.1 0)) hx hb hK hP 3 0 rfl rfl (vi_k (by decide)) rfl rfl dX4_lookUp_104 ?_
        refine lv_bipush (v := (8 : Int32)) hx hb dX4_lookUp_105 (by decide) ?_
        refine lv_iand hx hb dX4_lookUp_107 ?_
        refine lv_if_ne (tgt := 134) hx hb dX4_lookUp_108 (by decide) (fun _ => ?_) (fun c9 => absurd c9 c_83)
        refine lv_iload hx hb dX4_lookUp_134 (lv_at hl 0 rfl) ?_
        refine lv_iconst (v := (0 : Int32)) hx hb dX4_lookUp_136 (by decide) ?_
        refine lv_sipush (v := (2047 : Int32)) hx hb dX4_lookUp_137 (by decide) ?_
        refine rd_call (r := (fX4_outside a1 (0 : Int32) (2047 : Int32))) (W.runS (As := [.int a1, .int (0 : Int32), .int (2047 : Int32)]) (rest := []) ⟨hx, hb, hml, hown, hts⟩ (kX4_outside l a1 (0 : Int32) (2047 : Int32)) (va_cwS 3 hts gX4_lookUp_X4_outside rfl rfl rfl (by decide +kernel) ⟨Nat.le_of_ble_eq_true rfl, Nat.le_of_ble_eq_true rfl⟩) preEq rfl rfl hl.1 rfl (lv_room (Nat.le_of_ble_eq_true rfl)) dX4_lookUp_140 ⟨Nat.zero_le _, Nat.zero_le _⟩) ?_
        refine lv_if_eq (tgt := 155) hx hb dX4_lookUp_143 (by decide) (fun c_143 => ?_) (fun c_143 => ?_)
        · refine lv_aload_n hx hb dX4_lookUp_155 rfl (lv_at hl 2 rfl) ?_
          refine lv_iload hx hb dX4_lookUp_156 (lv_at hl 0 rfl) ?_
          refine lv_iconst (v := (4 : Int32)) hx hb dX4_lookUp_158 (by decide) ?_
          refine lv_idiv hx hb dX4_lookUp_159 (by decide) ?_
          refine va_put (D := D) (ci := 3) (v := .int (a1 / (4 : Int32))) (ty := .int) (C := RX4) (T := TX4) (N := 20) hx hb hts (by decide +kernel) tyX4 tyX4_ok nmX4 hown hK hP hD hS 0 rfl rfl 18 (by decide) (hts (.fieldLink RX4 68 "TrapMachineModel" "found" "I") (by decide +kernel)) (fun _ h9 => h9) rfl (by decide +kernel) rfl rfl (Nat.le_of_ble_eq_true rfl) dX4_lookUp_160 (fun H locs hP hD hS => ?_)
          have hP : va_P D vwCl (wM k z (ms17 w (a1 / (4 : Int32)))) H := hP
          have hD : va_D (in_W (wM k z w)) (wM k z (ms17 w (a1 / (4 : Int32)))) := hD
          refine lv_iconst (v := (-1 : Int32)) hx hb dX4_lookUp_163 (by decide) ?_
          exact W.iret (v := (-1 : Int32)) hx hb hr (wr_end (congrArg (fun t9 : Int32 × MD => some (Value.int t9.1)) ((show fX4_lookUp w a1 a2 = ((-1 : Int32), (ms17 w (a1 / (4 : Int32)))) from (if_pos c_3).trans ((if_neg c_38).trans ((if_neg c_83).trans ((if_pos c_143).trans rfl)))).symm.trans ho)) (congrArg (fun t9 : Int32 × MD => wM k z t9.2) ((show fX4_lookUp w a1 a2 = ((-1 : Int32), (ms17 w (a1 / (4 : Int32)))) from (if_pos c_3).trans ((if_neg c_38).trans ((if_neg c_83).trans ((if_pos c_143).trans rfl)))).symm.trans ho)) hP hS) hS.2.2 dX4_lookUp_164
        · refine lv_aload_n hx hb dX4_lookUp_146 rfl (lv_at hl 2 rfl) ?_
          refine lv_bipush (v := (8 : Int32)) hx hb dX4_lookUp_147 (by decide) ?_
          refine lv_iload_n hx hb dX4_lookUp_149 rfl (lv_at hl 3 rfl) ?_
          refine lv_iconst (v := (1 : Int32)) hx hb dX4_lookUp_150 (by decide) ?_
          obtain ⟨o1, h_o1⟩ : ∃ o9, (fX4_with w (8 : Int32) a1 (1 : Int32)) = o9 := ⟨_, rfl⟩
          refine wr_call (r := (some (.int o1.1))) (ws' := wM k z o1.2) (W.runV (C := RX4) (b := (z 0)) (As := [.int (8 : Int32), .int a1, .int (1 : Int32)]) (rest := []) ⟨hx, hb, hml, hown, hts⟩ (kX4_with l D k z w (8 : Int32) a1 (1 : Int32) o1 h_o1) (cwV 3 hts gX4_lookUp_X4_with rfl rfl rfl (by decide +kernel) ⟨Nat.le_of_ble_eq_true rfl, Nat.le_of_ble_eq_true rfl⟩) (wr_preV bl_T pr_T hK hP hD (va_recv hK hP (ci := 3) (q0 := 0) rfl rfl)) rfl rfl hl.1 rfl (lv_room (Nat.le_of_ble_eq_true rfl)) dX4_lookUp_151 ⟨Nat.zero_le _, Nat.zero_le _⟩) hP hD hS [0, 1, 2, 3, 4, 5, 6, 7, 8, 9] [] [0, 1, 2, 3, 4, 5, 6, 7, 8, 9] allM (by decide) prmM adrM (fun H locs hP hD hS => ?_)
          exact W.iret (v := o1.1) hx hb hr (wr_end (congrArg (fun t9 : Int32 × MD => some (Value.int t9.1)) ((show fX4_lookUp w a1 a2 = (o1.1, o1.2) from (by subst h_o1; exact (if_pos c_3).trans ((if_neg c_38).trans ((if_neg c_83).trans ((if_neg c_143).trans rfl))))).symm.trans ho)) (congrArg (fun t9 : Int32 × MD => wM k z t9.2) ((show fX4_lookUp w a1 a2 = (o1.1, o1.2) from (by subst h_o1; exact (if_pos c_3).trans ((if_neg c_38).trans ((if_neg c_83).trans ((if_neg c_143).trans rfl))))).symm.trans ho)) hP hS) hS.2.2 dX4_lookUp_154
      · refine lv_iload_n hx hb dX4_lookUp_86 rfl (lv_at hl 1 rfl) ?_
        refine lv_if_eq (tgt := 99) hx hb dX4_lookUp_87 (by decide) (fun _ => ?_) (fun c9 => absurd (by decide) c9)
        refine lv_aload_n hx hb dX4_lookUp_99 rfl (lv_at hl 2 rfl) ?_
        refine va_get (D := D) (ci := 3) (v := .ref (z 3)) (C := RX4) (T := TX4) (N := 20) hx hb hts (by decide +kernel) hown hK hP 0 rfl rfl 3 (by decide) (hts (.fieldLink RX4 16 "TrapMachineModel" "control" "[I") (by decide +kernel)) (fun _ h9 => h9) rfl dX4_lookUp_100 ?_
        refine lv_iconst (v := (0 : Int32)) hx hb dX4_lookUp_103 (by decide) ?_
        refine q_iald (j := 0) (x9 := (w.2.2.2.1 0)) hx hb hK hP 3 0 rfl rfl (vi_k (by decide)) rfl rfl dX4_lookUp_104 ?_
        refine lv_bipush (v := (8 : Int32)) hx hb dX4_lookUp_105 (by decide) ?_
        refine lv_iand hx hb dX4_lookUp_107 ?_
        refine lv_if_ne (tgt := 134) hx hb dX4_lookUp_108 (by decide) (fun c9 => absurd c_83 c9) (fun _ => ?_)
        refine lv_aload_n hx hb dX4_lookUp_111 rfl (lv_at hl 2 rfl) ?_
        refine lv_iload_n hx hb dX4_lookUp_112 rfl (lv_at hl 3 rfl) ?_
        refine lv_iload_n hx hb dX4_lookUp_113 rfl (lv_at hl 4 rfl) ?_
        obtain ⟨o2, h_o2⟩ : ∃ o9, (fX4_map w a1 a2) = o9 := ⟨_, rfl⟩
        refine wr_call (r := (some (.int o2.1))) (ws' := wM k z o2.2) (W.runV (C := RX4) (b := (z 0)) (As := [.int a1, .int a2]) (rest := []) ⟨hx, hb, hml, hown, hts⟩ (kX4_map l D k z w a1 a2 o2 h_o2) (cwV 2 hts gX4_lookUp_X4_map rfl rfl rfl (by decide +kernel) ⟨Nat.le_of_ble_eq_true rfl, Nat.le_of_ble_eq_true rfl⟩) (wr_preV bl_T pr_T hK hP hD (va_recv hK hP (ci := 3) (q0 := 0) rfl rfl)) rfl rfl hl.1 rfl (lv_room (Nat.le_of_ble_eq_true rfl)) dX4_lookUp_114 ⟨Nat.zero_le _, Nat.zero_le _⟩) hP hD hS [0, 1, 2, 3, 4, 5, 6, 7, 8, 9] [] [0, 1, 2, 3, 4, 5, 6, 7, 8, 9] allM (by decide) prmM adrM (fun H locs hP hD hS => ?_)
        refine lv_istore (lv' := [(5, .int o2.1), (4, .int a1), (3, .int (0 : Int32)), (0, .ref (z 0)), (1, .int a1), (2, .int a2)]) hx hb dX4_lookUp_117 hl (by decide) rfl (fun ls hl => ?_)
        refine lv_iload hx hb dX4_lookUp_119 (lv_at hl 0 rfl) ?_
        refine lv_iconst (v := (-1 : Int32)) hx hb dX4_lookUp_121 (by decide) ?_
        refine lv_icmp_eq (tgt := 128) hx hb dX4_lookUp_122 (by decide) (fun c_122 => ?_) (fun c_122 => ?_)
        · refine lv_aload_n hx hb dX4_lookUp_128 rfl (lv_at hl 3 rfl) ?_
          refine va_get (D := D) (ci := 3) (v := .int o2.2.2.2.2.2.2.2.2.2.2.2.2.2.2.2.2.2.2.1) (C := RX4) (T := TX4) (N := 20) hx hb hts (by decide +kernel) hown hK hP 0 rfl rfl 18 (by decide) (hts (.fieldLink RX4 68 "TrapMachineModel" "found" "I") (by decide +kernel)) (fun _ h9 => h9) rfl dX4_lookUp_129 ?_
          refine lv_istore (lv' := [(4, .int o2.2.2.2.2.2.2.2.2.2.2.2.2.2.2.2.2.2.2.1), (5, .int o2.1), (3, .int (0 : Int32)), (0, .ref (z 0)), (1, .int a1), (2, .int a2)]) hx hb dX4_lookUp_132 hl (by decide) rfl (fun ls hl => ?_)
          refine lv_iload hx hb dX4_lookUp_134 (lv_at hl 0 rfl) ?_
          refine lv_iconst (v := (0 : Int32)) hx hb dX4_lookUp_136 (by decide) ?_
          refine lv_sipush (v := (2047 : Int32)) hx hb dX4_lookUp_137 (by decide) ?_
          refine rd_call (r := (fX4_outside o2.2.2.2.2.2.2.2.2.2.2.2.2.2.2.2.2.2.2.1 (0 : Int32) (2047 : Int32))) (W.runS (As := [.int o2.2.2.2.2.2.2.2.2.2.2.2.2.2.2.2.2.2.2.1, .int (0 : Int32), .int (2047 : Int32)]) (rest := []) ⟨hx, hb, hml, hown, hts⟩ (kX4_outside l o2.2.2.2.2.2.2.2.2.2.2.2.2.2.2.2.2.2.2.1 (0 : Int32) (2047 : Int32)) (va_cwS 3 hts gX4_lookUp_X4_outside rfl rfl rfl (by decide +kernel) ⟨Nat.le_of_ble_eq_true rfl, Nat.le_of_ble_eq_true rfl⟩) preEq rfl rfl hl.1 rfl (lv_room (Nat.le_of_ble_eq_true rfl)) dX4_lookUp_140 ⟨Nat.zero_le _, Nat.zero_le _⟩) ?_
          refine lv_if_eq (tgt := 155) hx hb dX4_lookUp_143 (by decide) (fun c_143 => ?_) (fun c_143 => ?_)
          · refine lv_aload_n hx hb dX4_lookUp_155 rfl (lv_at hl 3 rfl) ?_
            refine lv_iload hx hb dX4_lookUp_156 (lv_at hl 0 rfl) ?_
            refine lv_iconst (v := (4 : Int32)) hx hb dX4_lookUp_158 (by decide) ?_
            refine lv_idiv hx hb dX4_lookUp_159 (by decide) ?_
            refine va_put (D := D) (ci := 3) (v := .int (o2.2.2.2.2.2.2.2.2.2.2.2.2.2.2.2.2.2.2.1 / (4 : Int32))) (ty := .int) (C := RX4) (T := TX4) (N := 20) hx hb hts (by decide +kernel) tyX4 tyX4_ok nmX4 hown hK hP hD hS 0 rfl rfl 18 (by decide) (hts (.fieldLink RX4 68 "TrapMachineModel" "found" "I") (by decide +kernel)) (fun _ h9 => h9) rfl (by decide +kernel) rfl rfl (Nat.le_of_ble_eq_true rfl) dX4_lookUp_160 (fun H locs hP hD hS => ?_)
            have hP : va_P D vwCl (wM k z (ms17 o2.2 (o2.2.2.2.2.2.2.2.2.2.2.2.2.2.2.2.2.2.2.1 / (4 : Int32)))) H := hP
            have hD : va_D (in_W (wM k z w)) (wM k z (ms17 o2.2 (o2.2.2.2.2.2.2.2.2.2.2.2.2.2.2.2.2.2.2.1 / (4 : Int32)))) := hD
            refine lv_iconst (v := (-1 : Int32)) hx hb dX4_lookUp_163 (by decide) ?_
            exact W.iret (v := (-1 : Int32)) hx hb hr (wr_end (congrArg (fun t9 : Int32 × MD => some (Value.int t9.1)) ((show fX4_lookUp w a1 a2 = ((-1 : Int32), (ms17 o2.2 (o2.2.2.2.2.2.2.2.2.2.2.2.2.2.2.2.2.2.2.1 / (4 : Int32)))) from (by subst h_o2; exact (if_pos c_3).trans ((if_neg c_38).trans ((if_pos c_83).trans ((if_pos c_122).trans ((if_pos c_143).trans rfl)))))).symm.trans ho)) (congrArg (fun t9 : Int32 × MD => wM k z t9.2) ((show fX4_lookUp w a1 a2 = ((-1 : Int32), (ms17 o2.2 (o2.2.2.2.2.2.2.2.2.2.2.2.2.2.2.2.2.2.2.1 / (4 : Int32)))) from (by subst h_o2; exact (if_pos c_3).trans ((if_neg c_38).trans ((if_pos c_83).trans ((if_pos c_122).trans ((if_pos c_143).trans rfl)))))).symm.trans ho)) hP hS) hS.2.2 dX4_lookUp_164
          · refine lv_aload_n hx hb dX4_lookUp_146 rfl (lv_at hl 3 rfl) ?_
            refine lv_bipush (v := (8 : Int32)) hx hb dX4_lookUp_147 (by decide) ?_
            refine lv_iload_n hx hb dX4_lookUp_149 rfl (lv_at hl 4 rfl) ?_
            refine lv_iconst (v := (1 : Int32)) hx hb dX4_lookUp_150 (by decide) ?_
            obtain ⟨o3, h_o3⟩ : ∃ o9, (fX4_with o2.2 (8 : Int32) a1 (1 : Int32)) = o9 := ⟨_, rfl⟩
            refine wr_call (r := (some (.int o3.1))) (ws' := wM k z o3.2) (W.runV (C := RX4) (b := (z 0)) (As := [.int (8 : Int32), .int a1, .int (1 : Int32)]) (rest := []) ⟨hx, hb, hml, hown, hts⟩ (kX4_with l D k z o2.2 (8 : Int32) a1 (1 : Int32) o3 h_o3) (cwV 3 hts gX4_lookUp_X4_with rfl rfl rfl (by decide +kernel) ⟨Nat.le_of_ble_eq_true rfl, Nat.le_of_ble_eq_true rfl⟩) (wr_preV bl_T pr_T hK hP hD (va_recv hK hP (ci := 3) (q0 := 0) rfl rfl)) rfl rfl hl.1 rfl (lv_room (Nat.le_of_ble_eq_true rfl)) dX4_lookUp_151 ⟨Nat.zero_le _, Nat.zero_le _⟩) hP hD hS [0, 1, 2, 3, 4, 5, 6, 7, 8, 9] [] [0, 1, 2, 3, 4, 5, 6, 7, 8, 9] allM (by decide) prmM adrM (fun H locs hP hD hS => ?_)
            exact W.iret (v := o3.1) hx hb hr (wr_end (congrArg (fun t9 : Int32 × MD => some (Value.int t9.1)) ((show fX4_lookUp w a1 a2 = (o3.1, o3.2) from (by subst h_o2; subst h_o3; exact (if_pos c_3).trans ((if_neg c_38).trans ((if_pos c_83).trans ((if_pos c_122).trans ((if_neg c_143).trans rfl)))))).symm.trans ho)) (congrArg (fun t9 : Int32 × MD => wM k z t9.2) ((show fX4_lookUp w a1 a2 = (o3.1, o3.2) from (by subst h_o2; subst h_o3; exact (if_pos c_3).trans ((if_neg c_38).trans ((if_pos c_83).trans ((if_pos c_122).trans ((if_neg c_143).trans rfl)))))).symm.trans ho)) hP hS) hS.2.2 dX4_lookUp_154
        · refine lv_iload hx hb dX4_lookUp_125 (lv_at hl 0 rfl) ?_
          exact W.iret (v := o2.1) hx hb hr (wr_end (congrArg (fun t9 : Int32 × MD => some (Value.int t9.1)) ((show fX4_lookUp w a1 a2 = (o2.1, o2.2) from (by subst h_o2; exact (if_pos c_3).trans ((if_neg c_38).trans ((if_pos c_83).trans ((if_neg c_122).trans rfl))))).symm.trans ho)) (congrArg (fun t9 : Int32 × MD => wM k z t9.2) ((show fX4_lookUp w a1 a2 = (o2.1, o2.2) from (by subst h_o2; exact (if_pos c_3).trans ((if_neg c_38).trans ((if_pos c_83).trans ((if_neg c_122).trans rfl))))).symm.trans ho)) hP hS) hS.2.2 dX4_lookUp_127
    · refine lv_aload_n hx hb dX4_lookUp_41 rfl (lv_at hl 0 rfl) ?_
      refine va_get (D := D) (ci := 3) (v := .ref (z 3)) (C := RX4) (T := TX4) (N := 20) hx hb hts (by decide +kernel) hown hK hP 0 rfl rfl 3 (by decide) (hts (.fieldLink RX4 16 "TrapMachineModel" "control" "[I") (by decide +kernel)) (fun _ h9 => h9) rfl dX4_lookUp_42 ?_
      refine lv_bipush (v := (17 : Int32)) hx hb dX4_lookUp_45 (by decide) ?_
      refine q_iald (j := 17) (x9 := (w.2.2.2.1 17)) hx hb hK hP 3 0 rfl rfl (vi_k (by decide)) rfl rfl dX4_lookUp_47 ?_
      refine lv_aload_n hx hb dX4_lookUp_48 rfl (lv_at hl 0 rfl) ?_
      refine rd_call (r := (fX4_user w)) (W.runV (C := RX4) (b := (z 0)) (As := []) (rest := [.int (w.2.2.2.1 17)]) ⟨hx, hb, hml, hown, hts⟩ (kX4_user l D k z w) (cwV 0 hts gX4_lookUp_X4_user rfl rfl rfl (by decide +kernel) ⟨Nat.le_of_ble_eq_true rfl, Nat.le_of_ble_eq_true rfl⟩) (rd_preV bl_T pr_T hK hP (va_recv hK hP (ci := 3) (q0 := 0) rfl rfl)) rfl rfl hl.1 rfl (lv_room (Nat.le_of_ble_eq_true rfl)) dX4_lookUp_49 ⟨Nat.zero_le _, Nat.zero_le _⟩) ?_
      refine lv_if_eq (tgt := 60) hx hb dX4_lookUp_52 (by decide) (fun c_52 => ?_) (fun c_52 => ?_)
      · refine lv_iconst (v := (1 : Int32)) hx hb dX4_lookUp_60 (by decide) ?_
        refine lv_iand hx hb dX4_lookUp_61 ?_
        refine lv_if_eq (tgt := 69) hx hb dX4_lookUp_62 (by decide) (fun c_62 => ?_) (fun c_62 => ?_)
        · refine lv_iconst (v := (0 : Int32)) hx hb dX4_lookUp_69 (by decide) ?_
          refine lv_istore_n (lv' := [(3, .int (0 : Int32)), (0, .ref (z 0)), (1, .int a1), (2, .int a2)]) hx hb dX4_lookUp_70 rfl hl (by decide) rfl (fun ls hl => ?_)
          refine lv_iload_n hx hb dX4_lookUp_71 rfl (lv_at hl 2 rfl) ?_
          refine lv_istore (lv' := [(4, .int a1), (3, .int (0 : Int32)), (0, .ref (z 0)), (1, .int a1), (2, .int a2)]) hx hb dX4_lookUp_72 hl (by decide) rfl (fun ls hl => ?_)
          refine lv_aload_n hx hb dX4_lookUp_74 rfl (lv_at hl 2 rfl) ?_
          refine va_get (D := D) (ci := 3) (v := .ref (z 3)) (C := RX4) (T := TX4) (N := 20) hx hb hts (by decide +kernel) hown hK hP 0 rfl rfl 3 (by decide) (hts (.fieldLink RX4 16 "TrapMachineModel" "control" "[I") (by decide +kernel)) (fun _ h9 => h9) rfl dX4_lookUp_75 ?_
          refine lv_iconst (v := (0 : Int32)) hx hb dX4_lookUp_78 (by decide) ?_
          refine q_iald (j := 0) (x9 := (w.2.2.2.1 0)) hx hb hK hP 3 0 rfl rfl (vi_k (by decide)) rfl rfl dX4_lookUp_79 ?_
          refine lv_bipush (v := (8 : Int32)) hx hb dX4_lookUp_80 (by decide) ?_
          refine lv_iand hx hb dX4_lookUp_82 ?_
          refine lv_if_ne (tgt := 99) hx hb dX4_lookUp_83 (by decide) (fun c_83 => ?_) (fun c_83 => ?_)
          · refine lv_aload_n hx hb dX4_lookUp_99 rfl (lv_at hl 2 rfl) ?_
            refine va_get (D := D) (ci := 3) (v := .ref (z 3)) (C := RX4) (T := TX4) (N := 20) hx hb hts (by decide +kernel) hown hK hP 0 rfl rfl 3 (by decide) (hts (.fieldLink RX4 16 "TrapMachineModel" "control" "[I") (by decide +kernel)) (fun _ h9 => h9) rfl dX4_lookUp_100 ?_
            refine lv_iconst (v := (0 : Int32)) hx hb dX4_lookUp_103 (by decide) ?_
            refine q_iald (j := 0) (x9 := (w.2.2.2.1 0)) hx hb hK hP 3 0 rfl rfl (vi_k (by decide)) rfl rfl dX4_lookUp_104 ?_
            refine lv_bipush (v := (8 : Int32)) hx hb dX4_lookUp_105 (by decide) ?_
            refine lv_iand hx hb dX4_lookUp_107 ?_
            refine lv_if_ne (tgt := 134) hx hb dX4_lookUp_108 (by decide) (fun _ => ?_) (fun c9 => absurd c9 c_83)
            refine lv_iload hx hb dX4_lookUp_134 (lv_at hl 0 rfl) ?_
            refine lv_iconst (v := (0 : Int32)) hx hb dX4_lookUp_136 (by decide) ?_
            refine lv_sipush (v := (2047 : Int32)) hx hb dX4_lookUp_137 (by decide) ?_
            refine rd_call (r := (fX4_outside a1 (0 : Int32) (2047 : Int32))) (W.runS (As := [.int a1, .int (0 : Int32), .int (2047 : Int32)]) (rest := []) ⟨hx, hb, hml, hown, hts⟩ (kX4_outside l a1 (0 : Int32) (2047 : Int32)) (va_cwS 3 hts gX4_lookUp_X4_outside rfl rfl rfl (by decide +kernel) ⟨Nat.le_of_ble_eq_true rfl, Nat.le_of_ble_eq_true rfl⟩) preEq rfl rfl hl.1 rfl (lv_room (Nat.le_of_ble_eq_true rfl)) dX4_lookUp_140 ⟨Nat.zero_le _, Nat.zero_le _⟩) ?_
            refine lv_if_eq (tgt := 155) hx hb dX4_lookUp_143 (by decide) (fun c_143 => ?_) (fun c_143 => ?_)
            · refine lv_aload_n hx hb dX4_lookUp_155 rfl (lv_at hl 2 rfl) ?_
              refine lv_iload hx hb dX4_lookUp_156 (lv_at hl 0 rfl) ?_
              refine lv_iconst (v := (4 : Int32)) hx hb dX4_lookUp_158 (by decide) ?_
              refine lv_idiv hx hb dX4_lookUp_159 (by decide) ?_
              refine va_put (D := D) (ci := 3) (v := .int (a1 / (4 : Int32))) (ty := .int) (C := RX4) (T := TX4) (N := 20) hx hb hts (by decide +kernel) tyX4 tyX4_ok nmX4 hown hK hP hD hS 0 rfl rfl 18 (by decide) (hts (.fieldLink RX4 68 "TrapMachineModel" "found" "I") (by decide +kernel)) (fun _ h9 => h9) rfl (by decide +kernel) rfl rfl (Nat.le_of_ble_eq_true rfl) dX4_lookUp_160 (fun H locs hP hD hS => ?_)
              have hP : va_P D vwCl (wM k z (ms17 w (a1 / (4 : Int32)))) H := hP
              have hD : va_D (in_W (wM k z w)) (wM k z (ms17 w (a1 / (4 : Int32)))) := hD
              refine lv_iconst (v := (-1 : Int32)) hx hb dX4_lookUp_163 (by decide) ?_
              exact W.iret (v := (-1 : Int32)) hx hb hr (wr_end (congrArg (fun t9 : Int32 × MD => some (Value.int t9.1)) ((show fX4_lookUp w a1 a2 = ((-1 : Int32), (ms17 w (a1 / (4 : Int32)))) from (if_pos c_3).trans ((if_pos c_38).trans ((if_pos c_52).trans ((if_pos c_62).trans ((if_neg c_83).trans ((if_pos c_143).trans rfl)))))).symm.trans ho)) (congrArg (fun t9 : Int32 × MD => wM k z t9.2) ((show fX4_lookUp w a1 a2 = ((-1 : Int32), (ms17 w (a1 / (4 : Int32)))) from (if_pos c_3).trans ((if_pos c_38).trans ((if_pos c_52).trans ((if_pos c_62).trans ((if_neg c_83).trans ((if_pos c_143).trans rfl)))))).symm.trans ho)) hP hS) hS.2.2 dX4_lookUp_164
            · refine lv_aload_n hx hb dX4_lookUp_146 rfl (lv_at hl 2 rfl) ?_
              refine lv_bipush (v := (8 : Int32)) hx hb dX4_lookUp_147 (by decide) ?_
              refine lv_iload_n hx hb dX4_lookUp_149 rfl (lv_at hl 3 rfl) ?_
              refine lv_iconst (v := (1 : Int32)) hx hb dX4_lookUp_150 (by decide) ?_
              obtain ⟨o4, h_o4⟩ : ∃ o9, (fX4_with w (8 : Int32) a1 (1 : Int32)) = o9 := ⟨_, rfl⟩
              refine wr_call (r := (some (.int o4.1))) (ws' := wM k z o4.2) (W.runV (C := RX4) (b := (z 0)) (As := [.int (8 : Int32), .int a1, .int (1 : Int32)]) (rest := []) ⟨hx, hb, hml, hown, hts⟩ (kX4_with l D k z w (8 : Int32) a1 (1 : Int32) o4 h_o4) (cwV 3 hts gX4_lookUp_X4_with rfl rfl rfl (by decide +kernel) ⟨Nat.le_of_ble_eq_true rfl, Nat.le_of_ble_eq_true rfl⟩) (wr_preV bl_T pr_T hK hP hD (va_recv hK hP (ci := 3) (q0 := 0) rfl rfl)) rfl rfl hl.1 rfl (lv_room (Nat.le_of_ble_eq_true rfl)) dX4_lookUp_151 ⟨Nat.zero_le _, Nat.zero_le _⟩) hP hD hS [0, 1, 2, 3, 4, 5, 6, 7, 8, 9] [] [0, 1, 2, 3, 4, 5, 6, 7, 8, 9] allM (by decide) prmM adrM (fun H locs hP hD hS => ?_)
              exact W.iret (v := o4.1) hx hb hr (wr_end (congrArg (fun t9 : Int32 × MD => some (Value.int t9.1)) ((show fX4_lookUp w a1 a2 = (o4.1, o4.2) from (by subst h_o4; exact (if_pos c_3).trans ((if_pos c_38).trans ((if_pos c_52).trans ((if_pos c_62).trans ((if_neg c_83).trans ((if_neg c_143).trans rfl))))))).symm.trans ho)) (congrArg (fun t9 : Int32 × MD => wM k z t9.2) ((show fX4_lookUp w a1 a2 = (o4.1, o4.2) from (by subst h_o4; exact (if_pos c_3).trans ((if_pos c_38).trans ((if_pos c_52).trans ((if_pos c_62).trans ((if_neg c_83).trans ((if_neg c_143).trans rfl))))))).symm.trans ho)) hP hS) hS.2.2 dX4_lookUp_154
          · refine lv_iload_n hx hb dX4_lookUp_86 rfl (lv_at hl 1 rfl) ?_
            refine lv_if_eq (tgt := 99) hx hb dX4_lookUp_87 (by decide) (fun _ => ?_) (fun c9 => absurd (by decide) c9)
            refine lv_aload_n hx hb dX4_lookUp_99 rfl (lv_at hl 2 rfl) ?_
            refine va_get (D := D) (ci := 3) (v := .ref (z 3)) (C := RX4) (T := TX4) (N := 20) hx hb hts (by decide +kernel) hown hK hP 0 rfl rfl 3 (by decide) (hts (.fieldLink RX4 16 "TrapMachineModel" "control" "[I") (by decide +kernel)) (fun _ h9 => h9) rfl dX4_lookUp_100 ?_
            refine lv_iconst (v := (0 : Int32)) hx hb dX4_lookUp_103 (by decide) ?_
            refine q_iald (j := 0) (x9 := (w.2.2.2.1 0)) hx hb hK hP 3 0 rfl rfl (vi_k (by decide)) rfl rfl dX4_lookUp_104 ?_
            refine lv_bipush (v := (8 : Int32)) hx hb dX4_lookUp_105 (by decide) ?_
            refine lv_iand hx hb dX4_lookUp_107 ?_
            refine lv_if_ne (tgt := 134) hx hb dX4_lookUp_108 (by decide) (fun c9 => absurd c_83 c9) (fun _ => ?_)
            refine lv_aload_n hx hb dX4_lookUp_111 rfl (lv_at hl 2 rfl) ?_
            refine lv_iload_n hx hb dX4_lookUp_112 rfl (lv_at hl 3 rfl) ?_
            refine lv_iload_n hx hb dX4_lookUp_113 rfl (lv_at hl 4 rfl) ?_
            obtain ⟨o5, h_o5⟩ : ∃ o9, (fX4_map w a1 a2) = o9 := ⟨_, rfl⟩
            refine wr_call (r := (some (.int o5.1))) (ws' := wM k z o5.2) (W.runV (C := RX4) (b := (z 0)) (As := [.int a1, .int a2]) (rest := []) ⟨hx, hb, hml, hown, hts⟩ (kX4_map l D k z w a1 a2 o5 h_o5) (cwV 2 hts gX4_lookUp_X4_map rfl rfl rfl (by decide +kernel) ⟨Nat.le_of_ble_eq_true rfl, Nat.le_of_ble_eq_true rfl⟩) (wr_preV bl_T pr_T hK hP hD (va_recv hK hP (ci := 3) (q0 := 0) rfl rfl)) rfl rfl hl.1 rfl (lv_room (Nat.le_of_ble_eq_true rfl)) dX4_lookUp_114 ⟨Nat.zero_le _, Nat.zero_le _⟩) hP hD hS [0, 1, 2, 3, 4, 5, 6, 7, 8, 9] [] [0, 1, 2, 3, 4, 5, 6, 7, 8, 9] allM (by decide) prmM adrM (fun H locs hP hD hS => ?_)
            refine lv_istore (lv' := [(5, .int o5.1), (4, .int a1), (3, .int (0 : Int32)), (0, .ref (z 0)), (1, .int a1), (2, .int a2)]) hx hb dX4_lookUp_117 hl (by decide) rfl (fun ls hl => ?_)
            refine lv_iload hx hb dX4_lookUp_119 (lv_at hl 0 rfl) ?_
            refine lv_iconst (v := (-1 : Int32)) hx hb dX4_lookUp_121 (by decide) ?_
            refine lv_icmp_eq (tgt := 128) hx hb dX4_lookUp_122 (by decide) (fun c_122 => ?_) (fun c_122 => ?_)
            · refine lv_aload_n hx hb dX4_lookUp_128 rfl (lv_at hl 3 rfl) ?_
              refine va_get (D := D) (ci := 3) (v := .int o5.2.2.2.2.2.2.2.2.2.2.2.2.2.2.2.2.2.2.1) (C := RX4) (T := TX4) (N := 20) hx hb hts (by decide +kernel) hown hK hP 0 rfl rfl 18 (by decide) (hts (.fieldLink RX4 68 "TrapMachineModel" "found" "I") (by decide +kernel)) (fun _ h9 => h9) rfl dX4_lookUp_129 ?_
              refine lv_istore (lv' := [(4, .int o5.2.2.2.2.2.2.2.2.2.2.2.2.2.2.2.2.2.2.1), (5, .int o5.1), (3, .int (0 : Int32)), (0, .ref (z 0)), (1, .int a1), (2, .int a2)]) hx hb dX4_lookUp_132 hl (by decide) rfl (fun ls hl => ?_)
              refine lv_iload hx hb dX4_lookUp_134 (lv_at hl 0 rfl) ?_
              refine lv_iconst (v := (0 : Int32)) hx hb dX4_lookUp_136 (by decide) ?_
              refine lv_sipush (v := (2047 : Int32)) hx hb dX4_lookUp_137 (by decide) ?_
              refine rd_call (r := (fX4_outside o5.2.2.2.2.2.2.2.2.2.2.2.2.2.2.2.2.2.2.1 (0 : Int32) (2047 : Int32))) (W.runS (As := [.int o5.2.2.2.2.2.2.2.2.2.2.2.2.2.2.2.2.2.2.1, .int (0 : Int32), .int (2047 : Int32)]) (rest := []) ⟨hx, hb, hml, hown, hts⟩ (kX4_outside l o5.2.2.2.2.2.2.2.2.2.2.2.2.2.2.2.2.2.2.1 (0 : Int32) (2047 : Int32)) (va_cwS 3 hts gX4_lookUp_X4_outside rfl rfl rfl (by decide +kernel) ⟨Nat.le_of_ble_eq_true rfl, Nat.le_of_ble_eq_true rfl⟩) preEq rfl rfl hl.1 rfl (lv_room (Nat.le_of_ble_eq_true rfl)) dX4_lookUp_140 ⟨Nat.zero_le _, Nat.zero_le _⟩) ?_
              refine lv_if_eq (tgt := 155) hx hb dX4_lookUp_143 (by decide) (fun c_143 => ?_) (fun c_143 => ?_)
              · refine lv_aload_n hx hb dX4_lookUp_155 rfl (lv_at hl 3 rfl) ?_
                refine lv_iload hx hb dX4_lookUp_156 (lv_at hl 0 rfl) ?_
                refine lv_iconst (v := (4 : Int32)) hx hb dX4_lookUp_158 (by decide) ?_
                refine lv_idiv hx hb dX4_lookUp_159 (by decide) ?_
                refine va_put (D := D) (ci := 3) (v := .int (o5.2.2.2.2.2.2.2.2.2.2.2.2.2.2.2.2.2.2.1 / (4 : Int32))) (ty := .int) (C := RX4) (T := TX4) (N := 20) hx hb hts (by decide +kernel) tyX4 tyX4_ok nmX4 hown hK hP hD hS 0 rfl rfl 18 (by decide) (hts (.fieldLink RX4 68 "TrapMachineModel" "found" "I") (by decide +kernel)) (fun _ h9 => h9) rfl (by decide +kernel) rfl rfl (Nat.le_of_ble_eq_true rfl) dX4_lookUp_160 (fun H locs hP hD hS => ?_)
                have hP : va_P D vwCl (wM k z (ms17 o5.2 (o5.2.2.2.2.2.2.2.2.2.2.2.2.2.2.2.2.2.2.1 / (4 : Int32)))) H := hP
                have hD : va_D (in_W (wM k z w)) (wM k z (ms17 o5.2 (o5.2.2.2.2.2.2.2.2.2.2.2.2.2.2.2.2.2.2.1 / (4 : Int32)))) := hD
                refine lv_iconst (v := (-1 : Int32)) hx hb dX4_lookUp_163 (by decide) ?_
                exact W.iret (v := (-1 : Int32)) hx hb hr (wr_end (congrArg (fun t9 : Int32 × MD => some (Value.int t9.1)) ((show fX4_lookUp w a1 a2 = ((-1 : Int32), (ms17 o5.2 (o5.2.2.2.2.2.2.2.2.2.2.2.2.2.2.2.2.2.2.1 / (4 : Int32)))) from (by subst h_o5; exact (if_pos c_3).trans ((if_pos c_38).trans ((if_pos c_52).trans ((if_pos c_62).trans ((if_pos c_83).trans ((if_pos c_122).trans ((if_pos c_143).trans rfl)))))))).symm.trans ho)) (congrArg (fun t9 : Int32 × MD => wM k z t9.2) ((show fX4_lookUp w a1 a2 = ((-1 : Int32), (ms17 o5.2 (o5.2.2.2.2.2.2.2.2.2.2.2.2.2.2.2.2.2.2.1 / (4 : Int32)))) from (by subst h_o5; exact (if_pos c_3).trans ((if_pos c_38).trans ((if_pos c_52).trans ((if_pos c_62).trans ((if_pos c_83).trans ((if_pos c_122).trans ((if_pos c_143).trans rfl)))))))).symm.trans ho)) hP hS) hS.2.2 dX4_lookUp_164
              · refine lv_aload_n hx hb dX4_lookUp_146 rfl (lv_at hl 3 rfl) ?_
                refine lv_bipush (v := (8 : Int32)) hx hb dX4_lookUp_147 (by decide) ?_
                refine lv_iload_n hx hb dX4_lookUp_149 rfl (lv_at hl 4 rfl) ?_
                refine lv_iconst (v := (1 : Int32)) hx hb dX4_lookUp_150 (by decide) ?_
                obtain ⟨o6, h_o6⟩ : ∃ o9, (fX4_with o5.2 (8 : Int32) a1 (1 : Int32)) = o9 := ⟨_, rfl⟩
                refine wr_call (r := (some (.int o6.1))) (ws' := wM k z o6.2) (W.runV (C := RX4) (b := (z 0)) (As := [.int (8 : Int32), .int a1, .int (1 : Int32)]) (rest := []) ⟨hx, hb, hml, hown, hts⟩ (kX4_with l D k z o5.2 (8 : Int32) a1 (1 : Int32) o6 h_o6) (cwV 3 hts gX4_lookUp_X4_with rfl rfl rfl (by decide +kernel) ⟨Nat.le_of_ble_eq_true rfl, Nat.le_of_ble_eq_true rfl⟩) (wr_preV bl_T pr_T hK hP hD (va_recv hK hP (ci := 3) (q0 := 0) rfl rfl)) rfl rfl hl.1 rfl (lv_room (Nat.le_of_ble_eq_true rfl)) dX4_lookUp_151 ⟨Nat.zero_le _, Nat.zero_le _⟩) hP hD hS [0, 1, 2, 3, 4, 5, 6, 7, 8, 9] [] [0, 1, 2, 3, 4, 5, 6, 7, 8, 9] allM (by decide) prmM adrM (fun H locs hP hD hS => ?_)
                exact W.iret (v := o6.1) hx hb hr (wr_end (congrArg (fun t9 : Int32 × MD => some (Value.int t9.1)) ((show fX4_lookUp w a1 a2 = (o6.1, o6.2) from (by subst h_o5; subst h_o6; exact (if_pos c_3).trans ((if_pos c_38).trans ((if_pos c_52).trans ((if_pos c_62).trans ((if_pos c_83).trans ((if_pos c_122).trans ((if_neg c_143).trans rfl)))))))).symm.trans ho)) (congrArg (fun t9 : Int32 × MD => wM k z t9.2) ((show fX4_lookUp w a1 a2 = (o6.1, o6.2) from (by subst h_o5; subst h_o6; exact (if_pos c_3).trans ((if_pos c_38).trans ((if_pos c_52).trans ((if_pos c_62).trans ((if_pos c_83).trans ((if_pos c_122).trans ((if_neg c_143).trans rfl)))))))).symm.trans ho)) hP hS) hS.2.2 dX4_lookUp_154
            · refine lv_iload hx hb dX4_lookUp_125 (lv_at hl 0 rfl) ?_
              exact W.iret (v := o5.1) hx hb hr (wr_end (congrArg (fun t9 : Int32 × MD => some (Value.int t9.1)) ((show fX4_lookUp w a1 a2 = (o5.1, o5.2) from (by subst h_o5; exact (if_pos c_3).trans ((if_pos c_38).trans ((if_pos c_52).trans ((if_pos c_62).trans ((if_pos c_83).trans ((if_neg c_122).trans rfl))))))).symm.trans ho)) (congrArg (fun t9 : Int32 × MD => wM k z t9.2) ((show fX4_lookUp w a1 a2 = (o5.1, o5.2) from (by subst h_o5; exact (if_pos c_3).trans ((if_pos c_38).trans ((if_pos c_52).trans ((if_pos c_62).trans ((if_pos c_83).trans ((if_neg c_122).trans rfl))))))).symm.trans ho)) hP hS) hS.2.2 dX4_lookUp_127
        · refine lv_iconst (v := (1 : Int32)) hx hb dX4_lookUp_65 (by decide) ?_
          refine lv_goto (tgt := 70) hx hb dX4_lookUp_66 (by decide) ?_
          refine lv_istore_n (lv' := [(3, .int (1 : Int32)), (0, .ref (z 0)), (1, .int a1), (2, .int a2)]) hx hb dX4_lookUp_70 rfl hl (by decide) rfl (fun ls hl => ?_)
          refine lv_iload_n hx hb dX4_lookUp_71 rfl (lv_at hl 2 rfl) ?_
          refine lv_istore (lv' := [(4, .int a1), (3, .int (1 : Int32)), (0, .ref (z 0)), (1, .int a1), (2, .int a2)]) hx hb dX4_lookUp_72 hl (by decide) rfl (fun ls hl => ?_)
          refine lv_aload_n hx hb dX4_lookUp_74 rfl (lv_at hl 2 rfl) ?_
          refine va_get (D := D) (ci := 3) (v := .ref (z 3)) (C := RX4) (T := TX4) (N := 20) hx hb hts (by decide +kernel) hown hK hP 0 rfl rfl 3 (by decide) (hts (.fieldLink RX4 16 "TrapMachineModel" "control" "[I") (by decide +kernel)) (fun _ h9 => h9) rfl dX4_lookUp_75 ?_
          refine lv_iconst (v := (0 : Int32)) hx hb dX4_lookUp_78 (by decide) ?_
          refine q_iald (j := 0) (x9 := (w.2.2.2.1 0)) hx hb hK hP 3 0 rfl rfl (vi_k (by decide)) rfl rfl dX4_lookUp_79 ?_
          refine lv_bipush (v := (8 : Int32)) hx hb dX4_lookUp_80 (by decide) ?_
          refine lv_iand hx hb dX4_lookUp_82 ?_
          refine lv_if_ne (tgt := 99) hx hb dX4_lookUp_83 (by decide) (fun c_83 => ?_) (fun c_83 => ?_)
          · refine lv_aload_n hx hb dX4_lookUp_99 rfl (lv_at hl 2 rfl) ?_
            refine va_get (D := D) (ci := 3) (v := .ref (z 3)) (C := RX4) (T := TX4) (N := 20) hx hb hts (by decide +kernel) hown hK hP 0 rfl rfl 3 (by decide) (hts (.fieldLink RX4 16 "TrapMachineModel" "control" "[I") (by decide +kernel)) (fun _ h9 => h9) rfl dX4_lookUp_100 ?_
            refine lv_iconst (v := (0 : Int32)) hx hb dX4_lookUp_103 (by decide) ?_
            refine q_iald (j := 0) (x9 := (w.2.2.2.1 0)) hx hb hK hP 3 0 rfl rfl (vi_k (by decide)) rfl rfl dX4_lookUp_104 ?_
            refine lv_bipush (v := (8 : Int32)) hx hb dX4_lookUp_105 (by decide) ?_
            refine lv_iand hx hb dX4_lookUp_107 ?_
            refine lv_if_ne (tgt := 134) hx hb dX4_lookUp_108 (by decide) (fun _ => ?_) (fun c9 => absurd c9 c_83)
            refine lv_iload hx hb dX4_lookUp_134 (lv_at hl 0 rfl) ?_
            refine lv_iconst (v := (0 : Int32)) hx hb dX4_lookUp_136 (by decide) ?_
            refine lv_sipush (v := (2047 : Int32)) hx hb dX4_lookUp_137 (by decide) ?_
            refine rd_call (r := (fX4_outside a1 (0 : Int32) (2047 : Int32))) (W.runS (As := [.int a1, .int (0 : Int32), .int (2047 : Int32)]) (rest := []) ⟨hx, hb, hml, hown, hts⟩ (kX4_outside l a1 (0 : Int32) (2047 : Int32)) (va_cwS 3 hts gX4_lookUp_X4_outside rfl rfl rfl (by decide +kernel) ⟨Nat.le_of_ble_eq_true rfl, Nat.le_of_ble_eq_true rfl⟩) preEq rfl rfl hl.1 rfl (lv_room (Nat.le_of_ble_eq_true rfl)) dX4_lookUp_140 ⟨Nat.zero_le _, Nat.zero_le _⟩) ?_
            refine lv_if_eq (tgt := 155) hx hb dX4_lookUp_143 (by decide) (fun c_143 => ?_) (fun c_143 => ?_)
            · refine lv_aload_n hx hb dX4_lookUp_155 rfl (lv_at hl 2 rfl) ?_
              refine lv_iload hx hb dX4_lookUp_156 (lv_at hl 0 rfl) ?_
              refine lv_iconst (v := (4 : Int32)) hx hb dX4_lookUp_158 (by decide) ?_
              refine lv_idiv hx hb dX4_lookUp_159 (by decide) ?_
              refine va_put (D := D) (ci := 3) (v := .int (a1 / (4 : Int32))) (ty := .int) (C := RX4) (T := TX4) (N := 20) hx hb hts (by decide +kernel) tyX4 tyX4_ok nmX4 hown hK hP hD hS 0 rfl rfl 18 (by decide) (hts (.fieldLink RX4 68 "TrapMachineModel" "found" "I") (by decide +kernel)) (fun _ h9 => h9) rfl (by decide +kernel) rfl rfl (Nat.le_of_ble_eq_true rfl) dX4_lookUp_160 (fun H locs hP hD hS => ?_)
              have hP : va_P D vwCl (wM k z (ms17 w (a1 / (4 : Int32)))) H := hP
              have hD : va_D (in_W (wM k z w)) (wM k z (ms17 w (a1 / (4 : Int32)))) := hD
              refine lv_iconst (v := (-1 : Int32)) hx hb dX4_lookUp_163 (by decide) ?_
              exact W.iret (v := (-1 : Int32)) hx hb hr (wr_end (congrArg (fun t9 : Int32 × MD => some (Value.int t9.1)) ((show fX4_lookUp w a1 a2 = ((-1 : Int32), (ms17 w (a1 / (4 : Int32)))) from (if_pos c_3).trans ((if_pos c_38).trans ((if_pos c_52).trans ((if_neg c_62).trans ((if_neg c_83).trans ((if_pos c_143).trans rfl)))))).symm.trans ho)) (congrArg (fun t9 : Int32 × MD => wM k z t9.2) ((show fX4_lookUp w a1 a2 = ((-1 : Int32), (ms17 w (a1 / (4 : Int32)))) from (if_pos c_3).trans ((if_pos c_38).trans ((if_pos c_52).trans ((if_neg c_62).trans ((if_neg c_83).trans ((if_pos c_143).trans rfl)))))).symm.trans ho)) hP hS) hS.2.2 dX4_lookUp_164
            · refine lv_aload_n hx hb dX4_lookUp_146 rfl (lv_at hl 2 rfl) ?_
              refine lv_bipush (v := (8 : Int32)) hx hb dX4_lookUp_147 (by decide) ?_
              refine lv_iload_n hx hb dX4_lookUp_149 rfl (lv_at hl 3 rfl) ?_
              refine lv_iconst (v := (1 : Int32)) hx hb dX4_lookUp_150 (by decide) ?_
              obtain ⟨o7, h_o7⟩ : ∃ o9, (fX4_with w (8 : Int32) a1 (1 : Int32)) = o9 := ⟨_, rfl⟩
              refine wr_call (r := (some (.int o7.1))) (ws' := wM k z o7.2) (W.runV (C := RX4) (b := (z 0)) (As := [.int (8 : Int32), .int a1, .int (1 : Int32)]) (rest := []) ⟨hx, hb, hml, hown, hts⟩ (kX4_with l D k z w (8 : Int32) a1 (1 : Int32) o7 h_o7) (cwV 3 hts gX4_lookUp_X4_with rfl rfl rfl (by decide +kernel) ⟨Nat.le_of_ble_eq_true rfl, Nat.le_of_ble_eq_true rfl⟩) (wr_preV bl_T pr_T hK hP hD (va_recv hK hP (ci := 3) (q0 := 0) rfl rfl)) rfl rfl hl.1 rfl (lv_room (Nat.le_of_ble_eq_true rfl)) dX4_lookUp_151 ⟨Nat.zero_le _, Nat.zero_le _⟩) hP hD hS [0, 1, 2, 3, 4, 5, 6, 7, 8, 9] [] [0, 1, 2, 3, 4, 5, 6, 7, 8, 9] allM (by decide) prmM adrM (fun H locs hP hD hS => ?_)
              exact W.iret (v := o7.1) hx hb hr (wr_end (congrArg (fun t9 : Int32 × MD => some (Value.int t9.1)) ((show fX4_lookUp w a1 a2 = (o7.1, o7.2) from (by subst h_o7; exact (if_pos c_3).trans ((if_pos c_38).trans ((if_pos c_52).trans ((if_neg c_62).trans ((if_neg c_83).trans ((if_neg c_143).trans rfl))))))).symm.trans ho)) (congrArg (fun t9 : Int32 × MD => wM k z t9.2) ((show fX4_lookUp w a1 a2 = (o7.1, o7.2) from (by subst h_o7; exact (if_pos c_3).trans ((if_pos c_38).trans ((if_pos c_52).trans ((if_neg c_62).trans ((if_neg c_83).trans ((if_neg c_143).trans rfl))))))).symm.trans ho)) hP hS) hS.2.2 dX4_lookUp_154
          · refine lv_iload_n hx hb dX4_lookUp_86 rfl (lv_at hl 1 rfl) ?_
            refine lv_if_eq (tgt := 99) hx hb dX4_lookUp_87 (by decide) (fun c9 => absurd c9 (by decide)) (fun _ => ?_)
            refine lv_iload_n hx hb dX4_lookUp_90 rfl (lv_at hl 3 rfl) ?_
            refine lv_ldc (v := (268435455 : Int32)) hx hb hown (hts (.constant RX4 63 (268435455)) (by decide +kernel)) dX4_lookUp_91 ?_
            refine lv_iand hx hb dX4_lookUp_93 ?_
            refine lv_istore (lv' := [(4, .int (a1 &&& (268435455 : Int32))), (3, .int (1 : Int32)), (0, .ref (z 0)), (1, .int a1), (2, .int a2)]) hx hb dX4_lookUp_94 hl (by decide) rfl (fun ls hl => ?_)
            refine lv_goto (tgt := 134) hx hb dX4_lookUp_96 (by decide) ?_
            refine lv_iload hx hb dX4_lookUp_134 (lv_at hl 0 rfl) ?_
            refine lv_iconst (v := (0 : Int32)) hx hb dX4_lookUp_136 (by decide) ?_
            refine lv_sipush (v := (2047 : Int32)) hx hb dX4_lookUp_137 (by decide) ?_
            refine rd_call (r := (fX4_outside (a1 &&& (268435455 : Int32)) (0 : Int32) (2047 : Int32))) (W.runS (As := [.int (a1 &&& (268435455 : Int32)), .int (0 : Int32), .int (2047 : Int32)]) (rest := []) ⟨hx, hb, hml, hown, hts⟩ (kX4_outside l (a1 &&& (268435455 : Int32)) (0 : Int32) (2047 : Int32)) (va_cwS 3 hts gX4_lookUp_X4_outside rfl rfl rfl (by decide +kernel) ⟨Nat.le_of_ble_eq_true rfl, Nat.le_of_ble_eq_true rfl⟩) preEq rfl rfl hl.1 rfl (lv_room (Nat.le_of_ble_eq_true rfl)) dX4_lookUp_140 ⟨Nat.zero_le _, Nat.zero_le _⟩) ?_
            refine lv_if_eq (tgt := 155) hx hb dX4_lookUp_143 (by decide) (fun c_143 => ?_) (fun c_143 => ?_)
            · refine lv_aload_n hx hb dX4_lookUp_155 rfl (lv_at hl 2 rfl) ?_
              refine lv_iload hx hb dX4_lookUp_156 (lv_at hl 0 rfl) ?_
              refine lv_iconst (v := (4 : Int32)) hx hb dX4_lookUp_158 (by decide) ?_
              refine lv_idiv hx hb dX4_lookUp_159 (by decide) ?_
              refine va_put (D := D) (ci := 3) (v := .int ((a1 &&& (268435455 : Int32)) / (4 : Int32))) (ty := .int) (C := RX4) (T := TX4) (N := 20) hx hb hts (by decide +kernel) tyX4 tyX4_ok nmX4 hown hK hP hD hS 0 rfl rfl 18 (by decide) (hts (.fieldLink RX4 68 "TrapMachineModel" "found" "I") (by decide +kernel)) (fun _ h9 => h9) rfl (by decide +kernel) rfl rfl (Nat.le_of_ble_eq_true rfl) dX4_lookUp_160 (fun H locs hP hD hS => ?_)
              have hP : va_P D vwCl (wM k z (ms17 w ((a1 &&& (268435455 : Int32)) / (4 : Int32)))) H := hP
              have hD : va_D (in_W (wM k z w)) (wM k z (ms17 w ((a1 &&& (268435455 : Int32)) / (4 : Int32)))) := hD
              refine lv_iconst (v := (-1 : Int32)) hx hb dX4_lookUp_163 (by decide) ?_
              exact W.iret (v := (-1 : Int32)) hx hb hr (wr_end (congrArg (fun t9 : Int32 × MD => some (Value.int t9.1)) ((show fX4_lookUp w a1 a2 = ((-1 : Int32), (ms17 w ((a1 &&& (268435455 : Int32)) / (4 : Int32)))) from (if_pos c_3).trans ((if_pos c_38).trans ((if_pos c_52).trans ((if_neg c_62).trans ((if_pos c_83).trans ((if_pos c_143).trans rfl)))))).symm.trans ho)) (congrArg (fun t9 : Int32 × MD => wM k z t9.2) ((show fX4_lookUp w a1 a2 = ((-1 : Int32), (ms17 w ((a1 &&& (268435455 : Int32)) / (4 : Int32)))) from (if_pos c_3).trans ((if_pos c_38).trans ((if_pos c_52).trans ((if_neg c_62).trans ((if_pos c_83).trans ((if_pos c_143).trans rfl)))))).symm.trans ho)) hP hS) hS.2.2 dX4_lookUp_164
            · refine lv_aload_n hx hb dX4_lookUp_146 rfl (lv_at hl 2 rfl) ?_
              refine lv_bipush (v := (8 : Int32)) hx hb dX4_lookUp_147 (by decide) ?_
              refine lv_iload_n hx hb dX4_lookUp_149 rfl (lv_at hl 3 rfl) ?_
              refine lv_iconst (v := (1 : Int32)) hx hb dX4_lookUp_150 (by decide) ?_
              obtain ⟨o8, h_o8⟩ : ∃ o9, (fX4_with w (8 : Int32) a1 (1 : Int32)) = o9 := ⟨_, rfl⟩
              refine wr_call (r := (some (.int o8.1))) (ws' := wM k z o8.2) (W.runV (C := RX4) (b := (z 0)) (As := [.int (8 : Int32), .int a1, .int (1 : Int32)]) (rest := []) ⟨hx, hb, hml, hown, hts⟩ (kX4_with l D k z w (8 : Int32) a1 (1 : Int32) o8 h_o8) (cwV 3 hts gX4_lookUp_X4_with rfl rfl rfl (by decide +kernel) ⟨Nat.le_of_ble_eq_true rfl, Nat.le_of_ble_eq_true rfl⟩) (wr_preV bl_T pr_T hK hP hD (va_recv hK hP (ci := 3) (q0 := 0) rfl rfl)) rfl rfl hl.1 rfl (lv_room (Nat.le_of_ble_eq_true rfl)) dX4_lookUp_151 ⟨Nat.zero_le _, Nat.zero_le _⟩) hP hD hS [0, 1, 2, 3, 4, 5, 6, 7, 8, 9] [] [0, 1, 2, 3, 4, 5, 6, 7, 8, 9] allM (by decide) prmM adrM (fun H locs hP hD hS => ?_)
              exact W.iret (v := o8.1) hx hb hr (wr_end (congrArg (fun t9 : Int32 × MD => some (Value.int t9.1)) ((show fX4_lookUp w a1 a2 = (o8.1, o8.2) from (by subst h_o8; exact (if_pos c_3).trans ((if_pos c_38).trans ((if_pos c_52).trans ((if_neg c_62).trans ((if_pos c_83).trans ((if_neg c_143).trans rfl))))))).symm.trans ho)) (congrArg (fun t9 : Int32 × MD => wM k z t9.2) ((show fX4_lookUp w a1 a2 = (o8.1, o8.2) from (by subst h_o8; exact (if_pos c_3).trans ((if_pos c_38).trans ((if_pos c_52).trans ((if_neg c_62).trans ((if_pos c_83).trans ((if_neg c_143).trans rfl))))))).symm.trans ho)) hP hS) hS.2.2 dX4_lookUp_154
      · refine lv_bipush (v := (8 : Int32)) hx hb dX4_lookUp_55 (by decide) ?_
        refine lv_goto (tgt := 61) hx hb dX4_lookUp_57 (by decide) ?_
        refine lv_iand hx hb dX4_lookUp_61 ?_
        refine lv_if_eq (tgt := 69) hx hb dX4_lookUp_62 (by decide) (fun c_62 => ?_) (fun c_62 => ?_)
        · refine lv_iconst (v := (0 : Int32)) hx hb dX4_lookUp_69 (by decide) ?_
          refine lv_istore_n (lv' := [(3, .int (0 : Int32)), (0, .ref (z 0)), (1, .int a1), (2, .int a2)]) hx hb dX4_lookUp_70 rfl hl (by decide) rfl (fun ls hl => ?_)
          refine lv_iload_n hx hb dX4_lookUp_71 rfl (lv_at hl 2 rfl) ?_
          refine lv_istore (lv' := [(4, .int a1), (3, .int (0 : Int32)), (0, .ref (z 0)), (1, .int a1), (2, .int a2)]) hx hb dX4_lookUp_72 hl (by decide) rfl (fun ls hl => ?_)
          refine lv_aload_n hx hb dX4_lookUp_74 rfl (lv_at hl 2 rfl) ?_
          refine va_get (D := D) (ci := 3) (v := .ref (z 3)) (C := RX4) (T := TX4) (N := 20) hx hb hts (by decide +kernel) hown hK hP 0 rfl rfl 3 (by decide) (hts (.fieldLink RX4 16 "TrapMachineModel" "control" "[I") (by decide +kernel)) (fun _ h9 => h9) rfl dX4_lookUp_75 ?_
          refine lv_iconst (v := (0 : Int32)) hx hb dX4_lookUp_78 (by decide) ?_
          refine q_iald (j := 0) (x9 := (w.2.2.2.1 0)) hx hb hK hP 3 0 rfl rfl (vi_k (by decide)) rfl rfl dX4_lookUp_79 ?_
          refine lv_bipush (v := (8 : Int32)) hx hb dX4_lookUp_80 (by decide) ?_
          refine lv_iand hx hb dX4_lookUp_82 ?_
          refine lv_if_ne (tgt := 99) hx hb dX4_lookUp_83 (by decide) (fun c_83 => ?_) (fun c_83 => ?_)
          · refine lv_aload_n hx hb dX4_lookUp_99 rfl (lv_at hl 2 rfl) ?_
            refine va_get (D := D) (ci := 3) (v := .ref (z 3)) (C := RX4) (T := TX4) (N := 20) hx hb hts (by decide +kernel) hown hK hP 0 rfl rfl 3 (by decide) (hts (.fieldLink RX4 16 "TrapMachineModel" "control" "[I") (by decide +kernel)) (fun _ h9 => h9) rfl dX4_lookUp_100 ?_
            refine lv_iconst (v := (0 : Int32)) hx hb dX4_lookUp_103 (by decide) ?_
            refine q_iald (j := 0) (x9 := (w.2.2.2.1 0)) hx hb hK hP 3 0 rfl rfl (vi_k (by decide)) rfl rfl dX4_lookUp_104 ?_
            refine lv_bipush (v := (8 : Int32)) hx hb dX4_lookUp_105 (by decide) ?_
            refine lv_iand hx hb dX4_lookUp_107 ?_
            refine lv_if_ne (tgt := 134) hx hb dX4_lookUp_108 (by decide) (fun _ => ?_) (fun c9 => absurd c9 c_83)
            refine lv_iload hx hb dX4_lookUp_134 (lv_at hl 0 rfl) ?_
            refine lv_iconst (v := (0 : Int32)) hx hb dX4_lookUp_136 (by decide) ?_
            refine lv_sipush (v := (2047 : Int32)) hx hb dX4_lookUp_137 (by decide) ?_
            refine rd_call (r := (fX4_outside a1 (0 : Int32) (2047 : Int32))) (W.runS (As := [.int a1, .int (0 : Int32), .int (2047 : Int32)]) (rest := []) ⟨hx, hb, hml, hown, hts⟩ (kX4_outside l a1 (0 : Int32) (2047 : Int32)) (va_cwS 3 hts gX4_lookUp_X4_outside rfl rfl rfl (by decide +kernel) ⟨Nat.le_of_ble_eq_true rfl, Nat.le_of_ble_eq_true rfl⟩) preEq rfl rfl hl.1 rfl (lv_room (Nat.le_of_ble_eq_true rfl)) dX4_lookUp_140 ⟨Nat.zero_le _, Nat.zero_le _⟩) ?_
            refine lv_if_eq (tgt := 155) hx hb dX4_lookUp_143 (by decide) (fun c_143 => ?_) (fun c_143 => ?_)
            · refine lv_aload_n hx hb dX4_lookUp_155 rfl (lv_at hl 2 rfl) ?_
              refine lv_iload hx hb dX4_lookUp_156 (lv_at hl 0 rfl) ?_
              refine lv_iconst (v := (4 : Int32)) hx hb dX4_lookUp_158 (by decide) ?_
              refine lv_idiv hx hb dX4_lookUp_159 (by decide) ?_
              refine va_put (D := D) (ci := 3) (v := .int (a1 / (4 : Int32))) (ty := .int) (C := RX4) (T := TX4) (N := 20) hx hb hts (by decide +kernel) tyX4 tyX4_ok nmX4 hown hK hP hD hS 0 rfl rfl 18 (by decide) (hts (.fieldLink RX4 68 "TrapMachineModel" "found" "I") (by decide +kernel)) (fun _ h9 => h9) rfl (by decide +kernel) rfl rfl (Nat.le_of_ble_eq_true rfl) dX4_lookUp_160 (fun H locs hP hD hS => ?_)
              have hP : va_P D vwCl (wM k z (ms17 w (a1 / (4 : Int32)))) H := hP
              have hD : va_D (in_W (wM k z w)) (wM k z (ms17 w (a1 / (4 : Int32)))) := hD
              refine lv_iconst (v := (-1 : Int32)) hx hb dX4_lookUp_163 (by decide) ?_
              exact W.iret (v := (-1 : Int32)) hx hb hr (wr_end (congrArg (fun t9 : Int32 × MD => some (Value.int t9.1)) ((show fX4_lookUp w a1 a2 = ((-1 : Int32), (ms17 w (a1 / (4 : Int32)))) from (if_pos c_3).trans ((if_pos c_38).trans ((if_neg c_52).trans ((if_pos c_62).trans ((if_neg c_83).trans ((if_pos c_143).trans rfl)))))).symm.trans ho)) (congrArg (fun t9 : Int32 × MD => wM k z t9.2) ((show fX4_lookUp w a1 a2 = ((-1 : Int32), (ms17 w (a1 / (4 : Int32)))) from (if_pos c_3).trans ((if_pos c_38).trans ((if_neg c_52).trans ((if_pos c_62).trans ((if_neg c_83).trans ((if_pos c_143).trans rfl)))))).symm.trans ho)) hP hS) hS.2.2 dX4_lookUp_164
            · refine lv_aload_n hx hb dX4_lookUp_146 rfl (lv_at hl 2 rfl) ?_
              refine lv_bipush (v := (8 : Int32)) hx hb dX4_lookUp_147 (by decide) ?_
              refine lv_iload_n hx hb dX4_lookUp_149 rfl (lv_at hl 3 rfl) ?_
              refine lv_iconst (v := (1 : Int32)) hx hb dX4_lookUp_150 (by decide) ?_
              obtain ⟨o9, h_o9⟩ : ∃ o9, (fX4_with w (8 : Int32) a1 (1 : Int32)) = o9 := ⟨_, rfl⟩
              refine wr_call (r := (some (.int o9.1))) (ws' := wM k z o9.2) (W.runV (C := RX4) (b := (z 0)) (As := [.int (8 : Int32), .int a1, .int (1 : Int32)]) (rest := []) ⟨hx, hb, hml, hown, hts⟩ (kX4_with l D k z w (8 : Int32) a1 (1 : Int32) o9 h_o9) (cwV 3 hts gX4_lookUp_X4_with rfl rfl rfl (by decide +kernel) ⟨Nat.le_of_ble_eq_true rfl, Nat.le_of_ble_eq_true rfl⟩) (wr_preV bl_T pr_T hK hP hD (va_recv hK hP (ci := 3) (q0 := 0) rfl rfl)) rfl rfl hl.1 rfl (lv_room (Nat.le_of_ble_eq_true rfl)) dX4_lookUp_151 ⟨Nat.zero_le _, Nat.zero_le _⟩) hP hD hS [0, 1, 2, 3, 4, 5, 6, 7, 8, 9] [] [0, 1, 2, 3, 4, 5, 6, 7, 8, 9] allM (by decide) prmM adrM (fun H locs hP hD hS => ?_)
              exact W.iret (v := o9.1) hx hb hr (wr_end (congrArg (fun t9 : Int32 × MD => some (Value.int t9.1)) ((show fX4_lookUp w a1 a2 = (o9.1, o9.2) from (by subst h_o9; exact (if_pos c_3).trans ((if_pos c_38).trans ((if_neg c_52).trans ((if_pos c_62).trans ((if_neg c_83).trans ((if_neg c_143).trans rfl))))))).symm.trans ho)) (congrArg (fun t9 : Int32 × MD => wM k z t9.2) ((show fX4_lookUp w a1 a2 = (o9.1, o9.2) from (by subst h_o9; exact (if_pos c_3).trans ((if_pos c_38).trans ((if_neg c_52).trans ((if_pos c_62).trans ((if_neg c_83).trans ((if_neg c_143).trans rfl))))))).symm.trans ho)) hP hS) hS.2.2 dX4_lookUp_154
          · refine lv_iload_n hx hb dX4_lookUp_86 rfl (lv_at hl 1 rfl) ?_
            refine lv_if_eq (tgt := 99) hx hb dX4_lookUp_87 (by decide) (fun _ => ?_) (fun c9 => absurd (by decide) c9)
            refine lv_aload_n hx hb dX4_lookUp_99 rfl (lv_at hl 2 rfl) ?_
            refine va_get (D := D) (ci := 3) (v := .ref (z 3)) (C := RX4) (T := TX4) (N := 20) hx hb hts (by decide +kernel) hown hK hP 0 rfl rfl 3 (by decide) (hts (.fieldLink RX4 16 "TrapMachineModel" "control" "[I") (by decide +kernel)) (fun _ h9 => h9) rfl dX4_lookUp_100 ?_
            refine lv_iconst (v := (0 : Int32)) hx hb dX4_lookUp_103 (by decide) ?_
            refine q_iald (j := 0) (x9 := (w.2.2.2.1 0)) hx hb hK hP 3 0 rfl rfl (vi_k (by decide)) rfl rfl dX4_lookUp_104 ?_
            refine lv_bipush (v := (8 : Int32)) hx hb dX4_lookUp_105 (by decide) ?_
            refine lv_iand hx hb dX4_lookUp_107 ?_
            refine lv_if_ne (tgt := 134) hx hb dX4_lookUp_108 (by decide) (fun c9 => absurd c_83 c9) (fun _ => ?_)
            refine lv_aload_n hx hb dX4_lookUp_111 rfl (lv_at hl 2 rfl) ?_
            refine lv_iload_n hx hb dX4_lookUp_112 rfl (lv_at hl 3 rfl) ?_
            refine lv_iload_n hx hb dX4_lookUp_113 rfl (lv_at hl 4 rfl) ?_
            obtain ⟨o10, h_o10⟩ : ∃ o9, (fX4_map w a1 a2) = o9 := ⟨_, rfl⟩
            refine wr_call (r := (some (.int o10.1))) (ws' := wM k z o10.2) (W.runV (C := RX4) (b := (z 0)) (As := [.int a1, .int a2]) (rest := []) ⟨hx, hb, hml, hown, hts⟩ (kX4_map l D k z w a1 a2 o10 h_o10) (cwV 2 hts gX4_lookUp_X4_map rfl rfl rfl (by decide +kernel) ⟨Nat.le_of_ble_eq_true rfl, Nat.le_of_ble_eq_true rfl⟩) (wr_preV bl_T pr_T hK hP hD (va_recv hK hP (ci := 3) (q0 := 0) rfl rfl)) rfl rfl hl.1 rfl (lv_room (Nat.le_of_ble_eq_true rfl)) dX4_lookUp_114 ⟨Nat.zero_le _, Nat.zero_le _⟩) hP hD hS [0, 1, 2, 3, 4, 5, 6, 7, 8, 9] [] [0, 1, 2, 3, 4, 5, 6, 7, 8, 9] allM (by decide) prmM adrM (fun H locs hP hD hS => ?_)
            refine lv_istore (lv' := [(5, .int o10.1), (4, .int a1), (3, .int (0 : Int32)), (0, .ref (z 0)), (1, .int a1), (2, .int a2)]) hx hb dX4_lookUp_117 hl (by decide) rfl (fun ls hl => ?_)
            refine lv_iload hx hb dX4_lookUp_119 (lv_at hl 0 rfl) ?_
            refine lv_iconst (v := (-1 : Int32)) hx hb dX4_lookUp_121 (by decide) ?_
            refine lv_icmp_eq (tgt := 128) hx hb dX4_lookUp_122 (by decide) (fun c_122 => ?_) (fun c_122 => ?_)
            · refine lv_aload_n hx hb dX4_lookUp_128 rfl (lv_at hl 3 rfl) ?_
              refine va_get (D := D) (ci := 3) (v := .int o10.2.2.2.2.2.2.2.2.2.2.2.2.2.2.2.2.2.2.1) (C := RX4) (T := TX4) (N := 20) hx hb hts (by decide +kernel) hown hK hP 0 rfl rfl 18 (by decide) (hts (.fieldLink RX4 68 "TrapMachineModel" "found" "I") (by decide +kernel)) (fun _ h9 => h9) rfl dX4_lookUp_129 ?_
              refine lv_istore (lv' := [(4, .int o10.2.2.2.2.2.2.2.2.2.2.2.2.2.2.2.2.2.2.1), (5, .int o10.1), (3, .int (0 : Int32)), (0, .ref (z 0)), (1, .int a1), (2, .int a2)]) hx hb dX4_lookUp_132 hl (by decide) rfl (fun ls hl => ?_)
              refine lv_iload hx hb dX4_lookUp_134 (lv_at hl 0 rfl) ?_
              refine lv_iconst (v := (0 : Int32)) hx hb dX4_lookUp_136 (by decide) ?_
              refine lv_sipush (v := (2047 : Int32)) hx hb dX4_lookUp_137 (by decide) ?_
              refine rd_call (r := (fX4_outside o10.2.2.2.2.2.2.2.2.2.2.2.2.2.2.2.2.2.2.1 (0 : Int32) (2047 : Int32))) (W.runS (As := [.int o10.2.2.2.2.2.2.2.2.2.2.2.2.2.2.2.2.2.2.1, .int (0 : Int32), .int (2047 : Int32)]) (rest := []) ⟨hx, hb, hml, hown, hts⟩ (kX4_outside l o10.2.2.2.2.2.2.2.2.2.2.2.2.2.2.2.2.2.2.1 (0 : Int32) (2047 : Int32)) (va_cwS 3 hts gX4_lookUp_X4_outside rfl rfl rfl (by decide +kernel) ⟨Nat.le_of_ble_eq_true rfl, Nat.le_of_ble_eq_true rfl⟩) preEq rfl rfl hl.1 rfl (lv_room (Nat.le_of_ble_eq_true rfl)) dX4_lookUp_140 ⟨Nat.zero_le _, Nat.zero_le _⟩) ?_
              refine lv_if_eq (tgt := 155) hx hb dX4_lookUp_143 (by decide) (fun c_143 => ?_) (fun c_143 => ?_)
              · refine lv_aload_n hx hb dX4_lookUp_155 rfl (lv_at hl 3 rfl) ?_
                refine lv_iload hx hb dX4_lookUp_156 (lv_at hl 0 rfl) ?_
                refine lv_iconst (v := (4 : Int32)) hx hb dX4_lookUp_158 (by decide) ?_
                refine lv_idiv hx hb dX4_lookUp_159 (by decide) ?_
                refine va_put (D := D) (ci := 3) (v := .int (o10.2.2.2.2.2.2.2.2.2.2.2.2.2.2.2.2.2.2.1 / (4 : Int32))) (ty := .int) (C := RX4) (T := TX4) (N := 20) hx hb hts (by decide +kernel) tyX4 tyX4_ok nmX4 hown hK hP hD hS 0 rfl rfl 18 (by decide) (hts (.fieldLink RX4 68 "TrapMachineModel" "found" "I") (by decide +kernel)) (fun _ h9 => h9) rfl (by decide +kernel) rfl rfl (Nat.le_of_ble_eq_true rfl) dX4_lookUp_160 (fun H locs hP hD hS => ?_)
                have hP : va_P D vwCl (wM k z (ms17 o10.2 (o10.2.2.2.2.2.2.2.2.2.2.2.2.2.2.2.2.2.2.1 / (4 : Int32)))) H := hP
                have hD : va_D (in_W (wM k z w)) (wM k z (ms17 o10.2 (o10.2.2.2.2.2.2.2.2.2.2.2.2.2.2.2.2.2.2.1 / (4 : Int32)))) := hD
                refine lv_iconst (v := (-1 : Int32)) hx hb dX4_lookUp_163 (by decide) ?_
                exact W.iret (v := (-1 : Int32)) hx hb hr (wr_end (congrArg (fun t9 : Int32 × MD => some (Value.int t9.1)) ((show fX4_lookUp w a1 a2 = ((-1 : Int32), (ms17 o10.2 (o10.2.2.2.2.2.2.2.2.2.2.2.2.2.2.2.2.2.2.1 / (4 : Int32)))) from (by subst h_o10; exact (if_pos c_3).trans ((if_pos c_38).trans ((if_neg c_52).trans ((if_pos c_62).trans ((if_pos c_83).trans ((if_pos c_122).trans ((if_pos c_143).trans rfl)))))))).symm.trans ho)) (congrArg (fun t9 : Int32 × MD => wM k z t9.2) ((show fX4_lookUp w a1 a2 = ((-1 : Int32), (ms17 o10.2 (o10.2.2.2.2.2.2.2.2.2.2.2.2.2.2.2.2.2.2.1 / (4 : Int32)))) from (by subst h_o10; exact (if_pos c_3).trans ((if_pos c_38).trans ((if_neg c_52).trans ((if_pos c_62).trans ((if_pos c_83).trans ((if_pos c_122).trans ((if_pos c_143).trans rfl)))))))).symm.trans ho)) hP hS) hS.2.2 dX4_lookUp_164
              · refine lv_aload_n hx hb dX4_lookUp_146 rfl (lv_at hl 3 rfl) ?_
                refine lv_bipush (v := (8 : Int32)) hx hb dX4_lookUp_147 (by decide) ?_
                refine lv_iload_n hx hb dX4_lookUp_149 rfl (lv_at hl 4 rfl) ?_
                refine lv_iconst (v := (1 : Int32)) hx hb dX4_lookUp_150 (by decide) ?_
                obtain ⟨o11, h_o11⟩ : ∃ o9, (fX4_with o10.2 (8 : Int32) a1 (1 : Int32)) = o9 := ⟨_, rfl⟩
                refine wr_call (r := (some (.int o11.1))) (ws' := wM k z o11.2) (W.runV (C := RX4) (b := (z 0)) (As := [.int (8 : Int32), .int a1, .int (1 : Int32)]) (rest := []) ⟨hx, hb, hml, hown, hts⟩ (kX4_with l D k z o10.2 (8 : Int32) a1 (1 : Int32) o11 h_o11) (cwV 3 hts gX4_lookUp_X4_with rfl rfl rfl (by decide +kernel) ⟨Nat.le_of_ble_eq_true rfl, Nat.le_of_ble_eq_true rfl⟩) (wr_preV bl_T pr_T hK hP hD (va_recv hK hP (ci := 3) (q0 := 0) rfl rfl)) rfl rfl hl.1 rfl (lv_room (Nat.le_of_ble_eq_true rfl)) dX4_lookUp_151 ⟨Nat.zero_le _, Nat.zero_le _⟩) hP hD hS [0, 1, 2, 3, 4, 5, 6, 7, 8, 9] [] [0, 1, 2, 3, 4, 5, 6, 7, 8, 9] allM (by decide) prmM adrM (fun H locs hP hD hS => ?_)
                exact W.iret (v := o11.1) hx hb hr (wr_end (congrArg (fun t9 : Int32 × MD => some (Value.int t9.1)) ((show fX4_lookUp w a1 a2 = (o11.1, o11.2) from (by subst h_o10; subst h_o11; exact (if_pos c_3).trans ((if_pos c_38).trans ((if_neg c_52).trans ((if_pos c_62).trans ((if_pos c_83).trans ((if_pos c_122).trans ((if_neg c_143).trans rfl)))))))).symm.trans ho)) (congrArg (fun t9 : Int32 × MD => wM k z t9.2) ((show fX4_lookUp w a1 a2 = (o11.1, o11.2) from (by subst h_o10; subst h_o11; exact (if_pos c_3).trans ((if_pos c_38).trans ((if_neg c_52).trans ((if_pos c_62).trans ((if_pos c_83).trans ((if_pos c_122).trans ((if_neg c_143).trans rfl)))))))).symm.trans ho)) hP hS) hS.2.2 dX4_lookUp_154
            · refine lv_iload hx hb dX4_lookUp_125 (lv_at hl 0 rfl) ?_
              exact W.iret (v := o10.1) hx hb hr (wr_end (congrArg (fun t9 : Int32 × MD => some (Value.int t9.1)) ((show fX4_lookUp w a1 a2 = (o10.1, o10.2) from (by subst h_o10; exact (if_pos c_3).trans ((if_pos c_38).trans ((if_neg c_52).trans ((if_pos c_62).trans ((if_pos c_83).trans ((if_neg c_122).trans rfl))))))).symm.trans ho)) (congrArg (fun t9 : Int32 × MD => wM k z t9.2) ((show fX4_lookUp w a1 a2 = (o10.1, o10.2) from (by subst h_o10; exact (if_pos c_3).trans ((if_pos c_38).trans ((if_neg c_52).trans ((if_pos c_62).trans ((if_pos c_83).trans ((if_neg c_122).trans rfl))))))).symm.trans ho)) hP hS) hS.2.2 dX4_lookUp_127
        · refine lv_iconst (v := (1 : Int32)) hx hb dX4_lookUp_65 (by decide) ?_
          refine lv_goto (tgt := 70) hx hb dX4_lookUp_66 (by decide) ?_
          refine lv_istore_n (lv' := [(3, .int (1 : Int32)), (0, .ref (z 0)), (1, .int a1), (2, .int a2)]) hx hb dX4_lookUp_70 rfl hl (by decide) rfl (fun ls hl => ?_)
          refine lv_iload_n hx hb dX4_lookUp_71 rfl (lv_at hl 2 rfl) ?_
          refine lv_istore (lv' := [(4, .int a1), (3, .int (1 : Int32)), (0, .ref (z 0)), (1, .int a1), (2, .int a2)]) hx hb dX4_lookUp_72 hl (by decide) rfl (fun ls hl => ?_)
          refine lv_aload_n hx hb dX4_lookUp_74 rfl (lv_at hl 2 rfl) ?_
          refine va_get (D := D) (ci := 3) (v := .ref (z 3)) (C := RX4) (T := TX4) (N := 20) hx hb hts (by decide +kernel) hown hK hP 0 rfl rfl 3 (by decide) (hts (.fieldLink RX4 16 "TrapMachineModel" "control" "[I") (by decide +kernel)) (fun _ h9 => h9) rfl dX4_lookUp_75 ?_
          refine lv_iconst (v := (0 : Int32)) hx hb dX4_lookUp_78 (by decide) ?_
          refine q_iald (j := 0) (x9 := (w.2.2.2.1 0)) hx hb hK hP 3 0 rfl rfl (vi_k (by decide)) rfl rfl dX4_lookUp_79 ?_
          refine lv_bipush (v := (8 : Int32)) hx hb dX4_lookUp_80 (by decide) ?_
          refine lv_iand hx hb dX4_lookUp_82 ?_
          refine lv_if_ne (tgt := 99) hx hb dX4_lookUp_83 (by decide) (fun c_83 => ?_) (fun c_83 => ?_)
          · refine lv_aload_n hx hb dX4_lookUp_99 rfl (lv_at hl 2 rfl) ?_
            refine va_get (D := D) (ci := 3) (v := .ref (z 3)) (C := RX4) (T := TX4) (N := 20) hx hb hts (by decide +kernel) hown hK hP 0 rfl rfl 3 (by decide) (hts (.fieldLink RX4 16 "TrapMachineModel" "control" "[I") (by decide +kernel)) (fun _ h9 => h9) rfl dX4_lookUp_100 ?_
            refine lv_iconst (v := (0 : Int32)) hx hb dX4_lookUp_103 (by decide) ?_
            refine q_iald (j := 0) (x9 := (w.2.2.2.1 0)) hx hb hK hP 3 0 rfl rfl (vi_k (by decide)) rfl rfl dX4_lookUp_104 ?_
            refine lv_bipush (v := (8 : Int32)) hx hb dX4_lookUp_105 (by decide) ?_
            refine lv_iand hx hb dX4_lookUp_107 ?_
            refine lv_if_ne (tgt := 134) hx hb dX4_lookUp_108 (by decide) (fun _ => ?_) (fun c9 => absurd c9 c_83)
            refine lv_iload hx hb dX4_lookUp_134 (lv_at hl 0 rfl) ?_
            refine lv_iconst (v := (0 : Int32)) hx hb dX4_lookUp_136 (by decide) ?_
            refine lv_sipush (v := (2047 : Int32)) hx hb dX4_lookUp_137 (by decide) ?_
            refine rd_call (r := (fX4_outside a1 (0 : Int32) (2047 : Int32))) (W.runS (As := [.int a1, .int (0 : Int32), .int (2047 : Int32)]) (rest := []) ⟨hx, hb, hml, hown, hts⟩ (kX4_outside l a1 (0 : Int32) (2047 : Int32)) (va_cwS 3 hts gX4_lookUp_X4_outside rfl rfl rfl (by decide +kernel) ⟨Nat.le_of_ble_eq_true rfl, Nat.le_of_ble_eq_true rfl⟩) preEq rfl rfl hl.1 rfl (lv_room (Nat.le_of_ble_eq_true rfl)) dX4_lookUp_140 ⟨Nat.zero_le _, Nat.zero_le _⟩) ?_
            refine lv_if_eq (tgt := 155) hx hb dX4_lookUp_143 (by decide) (fun c_143 => ?_) (fun c_143 => ?_)
            · refine lv_aload_n hx hb dX4_lookUp_155 rfl (lv_at hl 2 rfl) ?_
              refine lv_iload hx hb dX4_lookUp_156 (lv_at hl 0 rfl) ?_
              refine lv_iconst (v := (4 : Int32)) hx hb dX4_lookUp_158 (by decide) ?_
              refine lv_idiv hx hb dX4_lookUp_159 (by decide) ?_
              refine va_put (D := D) (ci := 3) (v := .int (a1 / (4 : Int32))) (ty := .int) (C := RX4) (T := TX4) (N := 20) hx hb hts (by decide +kernel) tyX4 tyX4_ok nmX4 hown hK hP hD hS 0 rfl rfl 18 (by decide) (hts (.fieldLink RX4 68 "TrapMachineModel" "found" "I") (by decide +kernel)) (fun _ h9 => h9) rfl (by decide +kernel) rfl rfl (Nat.le_of_ble_eq_true rfl) dX4_lookUp_160 (fun H locs hP hD hS => ?_)
              have hP : va_P D vwCl (wM k z (ms17 w (a1 / (4 : Int32)))) H := hP
              have hD : va_D (in_W (wM k z w)) (wM k z (ms17 w (a1 / (4 : Int32)))) := hD
              refine lv_iconst (v := (-1 : Int32)) hx hb dX4_lookUp_163 (by decide) ?_
              exact W.iret (v := (-1 : Int32)) hx hb hr (wr_end (congrArg (fun t9 : Int32 × MD => some (Value.int t9.1)) ((show fX4_lookUp w a1 a2 = ((-1 : Int32), (ms17 w (a1 / (4 : Int32)))) from (if_pos c_3).trans ((if_pos c_38).trans ((if_neg c_52).trans ((if_neg c_62).trans ((if_neg c_83).trans ((if_pos c_143).trans rfl)))))).symm.trans ho)) (congrArg (fun t9 : Int32 × MD => wM k z t9.2) ((show fX4_lookUp w a1 a2 = ((-1 : Int32), (ms17 w (a1 / (4 : Int32)))) from (if_pos c_3).trans ((if_pos c_38).trans ((if_neg c_52).trans ((if_neg c_62).trans ((if_neg c_83).trans ((if_pos c_143).trans rfl)))))).symm.trans ho)) hP hS) hS.2.2 dX4_lookUp_164
            · refine lv_aload_n hx hb dX4_lookUp_146 rfl (lv_at hl 2 rfl) ?_
              refine lv_bipush (v := (8 : Int32)) hx hb dX4_lookUp_147 (by decide) ?_
              refine lv_iload_n hx hb dX4_lookUp_149 rfl (lv_at hl 3 rfl) ?_
              refine lv_iconst (v := (1 : Int32)) hx hb dX4_lookUp_150 (by decide) ?_
              obtain ⟨o12, h_o12⟩ : ∃ o9, (fX4_with w (8 : Int32) a1 (1 : Int32)) = o9 := ⟨_, rfl⟩
              refine wr_call (r := (some (.int o12.1))) (ws' := wM k z o12.2) (W.runV (C := RX4) (b := (z 0)) (As := [.int (8 : Int32), .int a1, .int (1 : Int32)]) (rest := []) ⟨hx, hb, hml, hown, hts⟩ (kX4_with l D k z w (8 : Int32) a1 (1 : Int32) o12 h_o12) (cwV 3 hts gX4_lookUp_X4_with rfl rfl rfl (by decide +kernel) ⟨Nat.le_of_ble_eq_true rfl, Nat.le_of_ble_eq_true rfl⟩) (wr_preV bl_T pr_T hK hP hD (va_recv hK hP (ci := 3) (q0 := 0) rfl rfl)) rfl rfl hl.1 rfl (lv_room (Nat.le_of_ble_eq_true rfl)) dX4_lookUp_151 ⟨Nat.zero_le _, Nat.zero_le _⟩) hP hD hS [0, 1, 2, 3, 4, 5, 6, 7, 8, 9] [] [0, 1, 2, 3, 4, 5, 6, 7, 8, 9] allM (by decide) prmM adrM (fun H locs hP hD hS => ?_)
              exact W.iret (v := o12.1) hx hb hr (wr_end (congrArg (fun t9 : Int32 × MD => some (Value.int t9.1)) ((show fX4_lookUp w a1 a2 = (o12.1, o12.2) from (by subst h_o12; exact (if_pos c_3).trans ((if_pos c_38).trans ((if_neg c_52).trans ((if_neg c_62).trans ((if_neg c_83).trans ((if_neg c_143).trans rfl))))))).symm.trans ho)) (congrArg (fun t9 : Int32 × MD => wM k z t9.2) ((show fX4_lookUp w a1 a2 = (o12.1, o12.2) from (by subst h_o12; exact (if_pos c_3).trans ((if_pos c_38).trans ((if_neg c_52).trans ((if_neg c_62).trans ((if_neg c_83).trans ((if_neg c_143).trans rfl))))))).symm.trans ho)) hP hS) hS.2.2 dX4_lookUp_154
          · refine lv_iload_n hx hb dX4_lookUp_86 rfl (lv_at hl 1 rfl) ?_
            refine lv_if_eq (tgt := 99) hx hb dX4_lookUp_87 (by decide) (fun c9 => absurd c9 (by decide)) (fun _ => ?_)
            refine lv_iload_n hx hb dX4_lookUp_90 rfl (lv_at hl 3 rfl) ?_
            refine lv_ldc (v := (268435455 : Int32)) hx hb hown (hts (.constant RX4 63 (268435455)) (by decide +kernel)) dX4_lookUp_91 ?_
            refine lv_iand hx hb dX4_lookUp_93 ?_
            refine lv_istore (lv' := [(4, .int (a1 &&& (268435455 : Int32))), (3, .int (1 : Int32)), (0, .ref (z 0)), (1, .int a1), (2, .int a2)]) hx hb dX4_lookUp_94 hl (by decide) rfl (fun ls hl => ?_)
            refine lv_goto (tgt := 134) hx hb dX4_lookUp_96 (by decide) ?_
            refine lv_iload hx hb dX4_lookUp_134 (lv_at hl 0 rfl) ?_
            refine lv_iconst (v := (0 : Int32)) hx hb dX4_lookUp_136 (by decide) ?_
            refine lv_sipush (v := (2047 : Int32)) hx hb dX4_lookUp_137 (by decide) ?_
            refine rd_call (r := (fX4_outside (a1 &&& (268435455 : Int32)) (0 : Int32) (2047 : Int32))) (W.runS (As := [.int (a1 &&& (268435455 : Int32)), .int (0 : Int32), .int (2047 : Int32)]) (rest := []) ⟨hx, hb, hml, hown, hts⟩ (kX4_outside l (a1 &&& (268435455 : Int32)) (0 : Int32) (2047 : Int32)) (va_cwS 3 hts gX4_lookUp_X4_outside rfl rfl rfl (by decide +kernel) ⟨Nat.le_of_ble_eq_true rfl, Nat.le_of_ble_eq_true rfl⟩) preEq rfl rfl hl.1 rfl (lv_room (Nat.le_of_ble_eq_true rfl)) dX4_lookUp_140 ⟨Nat.zero_le _, Nat.zero_le _⟩) ?_
            refine lv_if_eq (tgt := 155) hx hb dX4_lookUp_143 (by decide) (fun c_143 => ?_) (fun c_143 => ?_)
            · refine lv_aload_n hx hb dX4_lookUp_155 rfl (lv_at hl 2 rfl) ?_
              refine lv_iload hx hb dX4_lookUp_156 (lv_at hl 0 rfl) ?_
              refine lv_iconst (v := (4 : Int32)) hx hb dX4_lookUp_158 (by decide) ?_
              refine lv_idiv hx hb dX4_lookUp_159 (by decide) ?_
              refine va_put (D := D) (ci := 3) (v := .int ((a1 &&& (268435455 : Int32)) / (4 : Int32))) (ty := .int) (C := RX4) (T := TX4) (N := 20) hx hb hts (by decide +kernel) tyX4 tyX4_ok nmX4 hown hK hP hD hS 0 rfl rfl 18 (by decide) (hts (.fieldLink RX4 68 "TrapMachineModel" "found" "I") (by decide +kernel)) (fun _ h9 => h9) rfl (by decide +kernel) rfl rfl (Nat.le_of_ble_eq_true rfl) dX4_lookUp_160 (fun H locs hP hD hS => ?_)
              have hP : va_P D vwCl (wM k z (ms17 w ((a1 &&& (268435455 : Int32)) / (4 : Int32)))) H := hP
              have hD : va_D (in_W (wM k z w)) (wM k z (ms17 w ((a1 &&& (268435455 : Int32)) / (4 : Int32)))) := hD
              refine lv_iconst (v := (-1 : Int32)) hx hb dX4_lookUp_163 (by decide) ?_
              exact W.iret (v := (-1 : Int32)) hx hb hr (wr_end (congrArg (fun t9 : Int32 × MD => some (Value.int t9.1)) ((show fX4_lookUp w a1 a2 = ((-1 : Int32), (ms17 w ((a1 &&& (268435455 : Int32)) / (4 : Int32)))) from (if_pos c_3).trans ((if_pos c_38).trans ((if_neg c_52).trans ((if_neg c_62).trans ((if_pos c_83).trans ((if_pos c_143).trans rfl)))))).symm.trans ho)) (congrArg (fun t9 : Int32 × MD => wM k z t9.2) ((show fX4_lookUp w a1 a2 = ((-1 : Int32), (ms17 w ((a1 &&& (268435455 : Int32)) / (4 : Int32)))) from (if_pos c_3).trans ((if_pos c_38).trans ((if_neg c_52).trans ((if_neg c_62).trans ((if_pos c_83).trans ((if_pos c_143).trans rfl)))))).symm.trans ho)) hP hS) hS.2.2 dX4_lookUp_164
            · refine lv_aload_n hx hb dX4_lookUp_146 rfl (lv_at hl 2 rfl) ?_
              refine lv_bipush (v := (8 : Int32)) hx hb dX4_lookUp_147 (by decide) ?_
              refine lv_iload_n hx hb dX4_lookUp_149 rfl (lv_at hl 3 rfl) ?_
              refine lv_iconst (v := (1 : Int32)) hx hb dX4_lookUp_150 (by decide) ?_
              obtain ⟨o13, h_o13⟩ : ∃ o9, (fX4_with w (8 : Int32) a1 (1 : Int32)) = o9 := ⟨_, rfl⟩
              refine wr_call (r := (some (.int o13.1))) (ws' := wM k z o13.2) (W.runV (C := RX4) (b := (z 0)) (As := [.int (8 : Int32), .int a1, .int (1 : Int32)]) (rest := []) ⟨hx, hb, hml, hown, hts⟩ (kX4_with l D k z w (8 : Int32) a1 (1 : Int32) o13 h_o13) (cwV 3 hts gX4_lookUp_X4_with rfl rfl rfl (by decide +kernel) ⟨Nat.le_of_ble_eq_true rfl, Nat.le_of_ble_eq_true rfl⟩) (wr_preV bl_T pr_T hK hP hD (va_recv hK hP (ci := 3) (q0 := 0) rfl rfl)) rfl rfl hl.1 rfl (lv_room (Nat.le_of_ble_eq_true rfl)) dX4_lookUp_151 ⟨Nat.zero_le _, Nat.zero_le _⟩) hP hD hS [0, 1, 2, 3, 4, 5, 6, 7, 8, 9] [] [0, 1, 2, 3, 4, 5, 6, 7, 8, 9] allM (by decide) prmM adrM (fun H locs hP hD hS => ?_)
              exact W.iret (v := o13.1) hx hb hr (wr_end (congrArg (fun t9 : Int32 × MD => some (Value.int t9.1)) ((show fX4_lookUp w a1 a2 = (o13.1, o13.2) from (by subst h_o13; exact (if_pos c_3).trans ((if_pos c_38).trans ((if_neg c_52).trans ((if_neg c_62).trans ((if_pos c_83).trans ((if_neg c_143).trans rfl))))))).symm.trans ho)) (congrArg (fun t9 : Int32 × MD => wM k z t9.2) ((show fX4_lookUp w a1 a2 = (o13.1, o13.2) from (by subst h_o13; exact (if_pos c_3).trans ((if_pos c_38).trans ((if_neg c_52).trans ((if_neg c_62).trans ((if_pos c_83).trans ((if_neg c_143).trans rfl))))))).symm.trans ho)) hP hS) hS.2.2 dX4_lookUp_154
  · refine lv_aload_n hx hb dX4_lookUp_6 rfl (lv_at hl 0 rfl) ?_
    refine lv_iload_n hx hb dX4_lookUp_7 rfl (lv_at hl 2 rfl) ?_
    refine lv_if_ne (tgt := 16) hx hb dX4_lookUp_8 (by decide) (fun c_8 => ?_) (fun c_8 => ?_)
    · refine lv_bipush (v := (9 : Int32)) hx hb dX4_lookUp_16 (by decide) ?_
      refine lv_iload_n hx hb dX4_lookUp_18 rfl (lv_at hl 1 rfl) ?_
      refine lv_iconst (v := (1 : Int32)) hx hb dX4_lookUp_19 (by decide) ?_
      obtain ⟨o14, h_o14⟩ : ∃ o9, (fX4_with w (9 : Int32) a1 (1 : Int32)) = o9 := ⟨_, rfl⟩
      refine wr_call (r := (some (.int o14.1))) (ws' := wM k z o14.2) (W.runV (C := RX4) (b := (z 0)) (As := [.int (9 : Int32), .int a1, .int (1 : Int32)]) (rest := []) ⟨hx, hb, hml, hown, hts⟩ (kX4_with l D k z w (9 : Int32) a1 (1 : Int32) o14 h_o14) (cwV 3 hts gX4_lookUp_X4_with rfl rfl rfl (by decide +kernel) ⟨Nat.le_of_ble_eq_true rfl, Nat.le_of_ble_eq_true rfl⟩) (wr_preV bl_T pr_T hK hP hD (va_recv hK hP (ci := 3) (q0 := 0) rfl rfl)) rfl rfl hl.1 rfl (lv_room (Nat.le_of_ble_eq_true rfl)) dX4_lookUp_20 ⟨Nat.zero_le _, Nat.zero_le _⟩) hP hD hS [0, 1, 2, 3, 4, 5, 6, 7, 8, 9] [] [0, 1, 2, 3, 4, 5, 6, 7, 8, 9] allM (by decide) prmM adrM (fun H locs hP hD hS => ?_)
      exact W.iret (v := o14.1) hx hb hr (wr_end (congrArg (fun t9 : Int32 × MD => some (Value.int t9.1)) ((show fX4_lookUp w a1 a2 = (o14.1, o14.2) from (by subst h_o14; exact (if_neg c_3).trans ((if_neg c_8).trans rfl))).symm.trans ho)) (congrArg (fun t9 : Int32 × MD => wM k z t9.2) ((show fX4_lookUp w a1 a2 = (o14.1, o14.2) from (by subst h_o14; exact (if_neg c_3).trans ((if_neg c_8).trans rfl))).symm.trans ho)) hP hS) hS.2.2 dX4_lookUp_23
    · refine lv_bipush (v := (8 : Int32)) hx hb dX4_lookUp_11 (by decide) ?_
      refine lv_goto (tgt := 18) hx hb dX4_lookUp_13 (by decide) ?_
      refine lv_iload_n hx hb dX4_lookUp_18 rfl (lv_at hl 1 rfl) ?_
      refine lv_iconst (v := (1 : Int32)) hx hb dX4_lookUp_19 (by decide) ?_
      obtain ⟨o15, h_o15⟩ : ∃ o9, (fX4_with w (8 : Int32) a1 (1 : Int32)) = o9 := ⟨_, rfl⟩
      refine wr_call (r := (some (.int o15.1))) (ws' := wM k z o15.2) (W.runV (C := RX4) (b := (z 0)) (As := [.int (8 : Int32), .int a1, .int (1 : Int32)]) (rest := []) ⟨hx, hb, hml, hown, hts⟩ (kX4_with l D k z w (8 : Int32) a1 (1 : Int32) o15 h_o15) (cwV 3 hts gX4_lookUp_X4_with rfl rfl rfl (by decide +kernel) ⟨Nat.le_of_ble_eq_true rfl, Nat.le_of_ble_eq_true rfl⟩) (wr_preV bl_T pr_T hK hP hD (va_recv hK hP (ci := 3) (q0 := 0) rfl rfl)) rfl rfl hl.1 rfl (lv_room (Nat.le_of_ble_eq_true rfl)) dX4_lookUp_20 ⟨Nat.zero_le _, Nat.zero_le _⟩) hP hD hS [0, 1, 2, 3, 4, 5, 6, 7, 8, 9] [] [0, 1, 2, 3, 4, 5, 6, 7, 8, 9] allM (by decide) prmM adrM (fun H locs hP hD hS => ?_)
      exact W.iret (v := o15.1) hx hb hr (wr_end (congrArg (fun t9 : Int32 × MD => some (Value.int t9.1)) ((show fX4_lookUp w a1 a2 = (o15.1, o15.2) from (by subst h_o15; exact (if_neg c_3).trans ((if_pos c_8).trans rfl))).symm.trans ho)) (congrArg (fun t9 : Int32 × MD => wM k z t9.2) ((show fX4_lookUp w a1 a2 = (o15.1, o15.2) from (by subst h_o15; exact (if_neg c_3).trans ((if_pos c_8).trans rfl))).symm.trans ho)) hP hS) hS.2.2 dX4_lookUp_23
