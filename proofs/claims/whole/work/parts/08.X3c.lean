theorem find_in {u : TM} {a b : Int32} (h : (0 : Int32) ≤ fX3_find u a b) : vp_in (fX3_find u a b) 512 := by
  revert h
  unfold fX3_find
  split
  · split
    · split
      · unfold fX3_findMapped
        repeat' split
        all_goals first | (intro h; exact absurd h (by decide)) | (intro _; exact fr_in _ _)
      · split
        · intro h; exact absurd h (by decide)
        · rename_i q; intro _; exact mem_in q
    · split
      · intro h; exact absurd h (by decide)
      · rename_i q; intro _; exact mem_in q
  · split <;> (intro h; exact absurd h (by decide))
def fX3_loadWord (u : TM) (a1 : Int32) (a2 : Int32) : TM :=
  if (0 : Int32) ≤ (fX3_find u ((fX3_valueB u a2) + (fX3_imm a2)) (1 : Int32)) then
    if a1 = (10 : Int32) then
      (ts4 (ts5 (fX3_setA u a2 (u.1 (ix (fX3_find u ((fX3_valueB u a2) + (fX3_imm a2)) (1 : Int32))))) (1 : Int32)) ((fX3_setA u a2 (u.1 (ix (fX3_find u ((fX3_valueB u a2) + (fX3_imm a2)) (1 : Int32))))).2.2.2.2.1 + (4 : Int32)))
    else
      (ts4 (fX3_setA u a2 (u.1 (ix (fX3_find u ((fX3_valueB u a2) + (fX3_imm a2)) (1 : Int32))))) ((fX3_setA u a2 (u.1 (ix (fX3_find u ((fX3_valueB u a2) + (fX3_imm a2)) (1 : Int32))))).2.2.2.2.1 + (4 : Int32)))
  else
    (fX3_fail u (fX3_find u ((fX3_valueB u a2) + (fX3_imm a2)) (1 : Int32)) ((fX3_valueB u a2) + (fX3_imm a2)))
set_option maxHeartbeats 4000000 in
set_option maxRecDepth 100000 in
theorem kX3_loadWord (l : Launch) (D : va_G) (k : Nat → ClassId) (q : Nat → Nat) (u : TM) (a1 : Int32) (a2 : Int32)  (o : TM) (ho : fX3_loadWord u a1 a2 = o) : Met l yX3_loadWord wsX3_loadWord { frames := 3, cells := 0, slots := 0, locals := 76 } (wr_P D vwCl (tyL k) (wT k q u) NL [.ref (q 0), .int a1, .int a2]) (wr_Q D vwCl none (wT k q u) (wT k q o)) 0 0 (in_W (wT k q u)) := by
  refine Met.ofW (cc := cX3_loadWord) (maxL := 5) (ret := none) (by decide) rfl ?_
  intro p e s m args below meth c s₁ B hml hv0
  obtain ⟨rfl, hP, hK, hX, hD0⟩ := hv0
  have hx := B.exec
  have hb := B.bytes
  have hr := B.returns
  have hts := atoms_spec (ws := wsX3_loadWord) B.pre
  have hown : s.vm.findClass RX3 = some m.cls := findClass_of_methodNamed B.named
  have hlocks := B.notSynchronized
  have hD : va_D (in_W (wT k q u)) (wT k q u) := wD_self hD0
  have hS : va_S (in_W (wT k q u)) s.heap s.heap [] := va_S.rf
  have hl := lv_entry ([.ref (q 0), .int a1, .int a2]) (n := 5) (Nat.le_of_ble_eq_true rfl)
  rw [lg_entry_eq]
  generalize (lg_sl ([.ref (q 0), .int a1, .int a2]) ++ List.replicate (5 - (lg_sl ([.ref (q 0), .int a1, .int a2])).length) Slot.unset).toArray = ls at hl ⊢
  have hl : lv_has ls 5 [(0, .ref (q 0)), (1, .int a1), (2, .int a2)] := hl
  refine lv_aload_n hx hb dX3_loadWord_0 rfl (lv_at hl 0 rfl) ?_
  refine lv_iload_n hx hb dX3_loadWord_1 rfl (lv_at hl 2 rfl) ?_
  refine rd_call (r := (fX3_valueB u a2)) (W.runV (C := RX3) (b := (q 0)) (As := [.int a2]) (rest := []) ⟨hx, hb, hml, hown, hts⟩ (kX3_valueB l D k q u a2) (cwV 1 hts gX3_loadWord_X3_valueB rfl rfl rfl (by decide +kernel) ⟨Nat.le_of_ble_eq_true rfl, Nat.le_of_ble_eq_true rfl⟩) (rd_preV bl_T pr_T hK hP (va_recv hK hP (ci := 2) (q0 := 0) rfl rfl)) rfl rfl hl.1 rfl (lv_room (Nat.le_of_ble_eq_true rfl)) dX3_loadWord_2 ⟨Nat.zero_le _, Nat.zero_le _⟩) ?_
  refine lv_iload_n hx hb dX3_loadWord_5 rfl (lv_at hl 2 rfl) ?_
  refine rd_call (r := (fX3_imm a2)) (W.runS (As := [.int a2]) (rest := [.int (fX3_valueB u a2)]) ⟨hx, hb, hml, hown, hts⟩ (kX3_imm l a2) (va_cwS 1 hts gX3_loadWord_X3_imm rfl rfl rfl (by decide +kernel) ⟨Nat.le_of_ble_eq_true rfl, Nat.le_of_ble_eq_true rfl⟩) preEq rfl rfl hl.1 rfl (lv_room (Nat.le_of_ble_eq_true rfl)) dX3_loadWord_6 ⟨Nat.zero_le _, Nat.zero_le _⟩) ?_
  refine lv_iadd hx hb dX3_loadWord_9 ?_
  refine lv_istore_n (lv' := [(3, .int ((fX3_valueB u a2) + (fX3_imm a2))), (0, .ref (q 0)), (1, .int a1), (2, .int a2)]) hx hb dX3_loadWord_10 rfl hl (by decide) rfl (fun ls hl => ?_)
  refine lv_aload_n hx hb dX3_loadWord_11 rfl (lv_at hl 1 rfl) ?_
  refine lv_iload_n hx hb dX3_loadWord_12 rfl (lv_at hl 0 rfl) ?_
  refine lv_iconst (v := (1 : Int32)) hx hb dX3_loadWord_13 (by decide) ?_
  refine rd_call (r := (fX3_find u ((fX3_valueB u a2) + (fX3_imm a2)) (1 : Int32))) (W.runV (C := RX3) (b := (q 0)) (As := [.int ((fX3_valueB u a2) + (fX3_imm a2)), .int (1 : Int32)]) (rest := []) ⟨hx, hb, hml, hown, hts⟩ (kX3_find l D k q u ((fX3_valueB u a2) + (fX3_imm a2)) (1 : Int32)) (cwV 2 hts gX3_loadWord_X3_find rfl rfl rfl (by decide +kernel) ⟨Nat.le_of_ble_eq_true rfl, Nat.le_of_ble_eq_true rfl⟩) (rd_preV bl_N (pr_N hX) hK hP (va_recv hK hP (ci := 2) (q0 := 0) rfl rfl)) rfl rfl hl.1 rfl (lv_room (Nat.le_of_ble_eq_true rfl)) dX3_loadWord_14 ⟨Nat.zero_le _, Nat.zero_le _⟩) ?_
  refine lv_istore (lv' := [(4, .int (fX3_find u ((fX3_valueB u a2) + (fX3_imm a2)) (1 : Int32))), (3, .int ((fX3_valueB u a2) + (fX3_imm a2))), (0, .ref (q 0)), (1, .int a1), (2, .int a2)]) hx hb dX3_loadWord_17 hl (by decide) rfl (fun ls hl => ?_)
  refine lv_iload hx hb dX3_loadWord_19 (lv_at hl 0 rfl) ?_
  refine lv_if_ge (tgt := 32) hx hb dX3_loadWord_21 (by decide) (fun c_21 => ?_) (fun c_21 => ?_)
  · refine lv_aload_n hx hb dX3_loadWord_32 rfl (lv_at hl 2 rfl) ?_
    refine lv_iload_n hx hb dX3_loadWord_33 rfl (lv_at hl 4 rfl) ?_
    refine lv_aload_n hx hb dX3_loadWord_34 rfl (lv_at hl 2 rfl) ?_
    refine va_get (D := D) (ci := 2) (v := .ref (q 1)) (C := RX3) (T := TX3) (N := 9) hx hb hts (by decide +kernel) hown hK hP 0 rfl rfl 0 (by decide) (hts (.fieldLink RX3 9 "TrapMachine" "memory" "[I") (by decide +kernel)) (fun _ h9 => h9) rfl dX3_loadWord_35 ?_
    refine lv_iload hx hb dX3_loadWord_38 (lv_at hl 0 rfl) ?_
    refine q_iald (j := (ix (fX3_find u ((fX3_valueB u a2) + (fX3_imm a2)) (1 : Int32)))) (x9 := (u.1 (ix (fX3_find u ((fX3_valueB u a2) + (fX3_imm a2)) (1 : Int32))))) hx hb hK hP 1 0 rfl rfl (find_in c_21) rfl rfl dX3_loadWord_40 ?_
    obtain ⟨o1, h_o1⟩ : ∃ o9, (fX3_setA u a2 (u.1 (ix (fX3_find u ((fX3_valueB u a2) + (fX3_imm a2)) (1 : Int32))))) = o9 := ⟨_, rfl⟩
    refine wr_call (r := none) (ws' := wT k q o1) (W.runV (C := RX3) (b := (q 0)) (As := [.int a2, .int (u.1 (ix (fX3_find u ((fX3_valueB u a2) + (fX3_imm a2)) (1 : Int32))))]) (rest := []) ⟨hx, hb, hml, hown, hts⟩ (kX3_setA l D k q u a2 (u.1 (ix (fX3_find u ((fX3_valueB u a2) + (fX3_imm a2)) (1 : Int32)))) o1 h_o1) (cwV 2 hts gX3_loadWord_X3_setA rfl rfl rfl (by decide +kernel) ⟨Nat.le_of_ble_eq_true rfl, Nat.le_of_ble_eq_true rfl⟩) (wr_preV bl_T pr_T hK hP hD (va_recv hK hP (ci := 2) (q0 := 0) rfl rfl)) rfl rfl hl.1 rfl (lv_room (Nat.le_of_ble_eq_true rfl)) dX3_loadWord_41 ⟨Nat.zero_le _, Nat.zero_le _⟩) hP hD hS [0, 1, 2, 3, 4, 5, 6, 7, 8, 9, 10] [] [0, 1, 2, 3, 4, 5, 6, 7, 8, 9, 10] allT (by decide) prmT adrT (fun H locs hP hD hS => ?_)
    refine lv_iload_n hx hb dX3_loadWord_44 rfl (lv_at hl 3 rfl) ?_
    refine lv_bipush (v := (10 : Int32)) hx hb dX3_loadWord_45 (by decide) ?_
    refine lv_icmp_ne (tgt := 55) hx hb dX3_loadWord_47 (by decide) (fun c_47 => ?_) (fun c_47 => ?_)
    · refine lv_aload_n hx hb dX3_loadWord_55 rfl (lv_at hl 2 rfl) ?_
      refine lv_dup hx hb dX3_loadWord_56 rfl ?_
      refine va_get (D := D) (ci := 2) (v := .int o1.2.2.2.2.1) (C := RX3) (T := TX3) (N := 9) hx hb hts (by decide +kernel) hown hK hP 0 rfl rfl 4 (by decide) (hts (.fieldLink RX3 54 "TrapMachine" "place" "I") (by decide +kernel)) (fun _ h9 => h9) rfl dX3_loadWord_57 ?_
      refine lv_iconst (v := (4 : Int32)) hx hb dX3_loadWord_60 (by decide) ?_
      refine lv_iadd hx hb dX3_loadWord_61 ?_
      refine va_put (D := D) (ci := 2) (v := .int (o1.2.2.2.2.1 + (4 : Int32))) (ty := .int) (C := RX3) (T := TX3) (N := 9) hx hb hts (by decide +kernel) tyX3 tyX3_ok nmX3 hown hK hP hD hS 0 rfl rfl 4 (by decide) (hts (.fieldLink RX3 54 "TrapMachine" "place" "I") (by decide +kernel)) (fun _ h9 => h9) rfl (by decide +kernel) rfl rfl (Nat.le_of_ble_eq_true rfl) dX3_loadWord_62 (fun H locs hP hD hS => ?_)
      have hP : va_P D vwCl (wT k q (ts4 o1 (o1.2.2.2.2.1 + (4 : Int32)))) H := hP
      have hD : va_D (in_W (wT k q u)) (wT k q (ts4 o1 (o1.2.2.2.2.1 + (4 : Int32)))) := hD
      exact W.vret hx hb hr (wr_end rfl (congrArg (wT k q) ((show fX3_loadWord u a1 a2 = (ts4 o1 (o1.2.2.2.2.1 + (4 : Int32))) from (by subst h_o1; exact (if_pos c_21).trans ((if_neg c_47).trans rfl))).symm.trans ho)) hP hS) hS.2.2 dX3_loadWord_65
    · refine lv_aload_n hx hb dX3_loadWord_50 rfl (lv_at hl 2 rfl) ?_
      refine lv_iconst (v := (1 : Int32)) hx hb dX3_loadWord_51 (by decide) ?_
      refine va_put (D := D) (ci := 2) (v := .int (1 : Int32)) (ty := .boolean) (C := RX3) (T := TX3) (N := 9) hx hb hts (by decide +kernel) tyX3 tyX3_ok nmX3 hown hK hP hD hS 0 rfl rfl 5 (by decide) (hts (.fieldLink RX3 72 "TrapMachine" "linked" "Z") (by decide +kernel)) (fun _ h9 => h9) rfl (by decide +kernel) rfl rfl (Nat.le_of_ble_eq_true rfl) dX3_loadWord_52 (fun H locs hP hD hS => ?_)
      have hP : va_P D vwCl (wT k q (ts5 o1 (1 : Int32))) H := hP
      have hD : va_D (in_W (wT k q u)) (wT k q (ts5 o1 (1 : Int32))) := hD
      refine lv_aload_n hx hb dX3_loadWord_55 rfl (lv_at hl 2 rfl) ?_
      refine lv_dup hx hb dX3_loadWord_56 rfl ?_
      refine va_get (D := D) (ci := 2) (v := .int o1.2.2.2.2.1) (C := RX3) (T := TX3) (N := 9) hx hb hts (by decide +kernel) hown hK hP 0 rfl rfl 4 (by decide) (hts (.fieldLink RX3 54 "TrapMachine" "place" "I") (by decide +kernel)) (fun _ h9 => h9) rfl dX3_loadWord_57 ?_
      refine lv_iconst (v := (4 : Int32)) hx hb dX3_loadWord_60 (by decide) ?_
      refine lv_iadd hx hb dX3_loadWord_61 ?_
      refine va_put (D := D) (ci := 2) (v := .int (o1.2.2.2.2.1 + (4 : Int32))) (ty := .int) (C := RX3) (T := TX3) (N := 9) hx hb hts (by decide +kernel) tyX3 tyX3_ok nmX3 hown hK hP hD hS 0 rfl rfl 4 (by decide) (hts (.fieldLink RX3 54 "TrapMachine" "place" "I") (by decide +kernel)) (fun _ h9 => h9) rfl (by decide +kernel) rfl rfl (Nat.le_of_ble_eq_true rfl) dX3_loadWord_62 (fun H locs hP hD hS => ?_)
      have hP : va_P D vwCl (wT k q (ts4 (ts5 o1 (1 : Int32)) (o1.2.2.2.2.1 + (4 : Int32)))) H := hP
      have hD : va_D (in_W (wT k q u)) (wT k q (ts4 (ts5 o1 (1 : Int32)) (o1.2.2.2.2.1 + (4 : Int32)))) := hD
      exact W.vret hx hb hr (wr_end rfl (congrArg (wT k q) ((show fX3_loadWord u a1 a2 = (ts4 (ts5 o1 (1 : Int32)) (o1.2.2.2.2.1 + (4 : Int32))) from (by subst h_o1; exact (if_pos c_21).trans ((if_pos c_47).trans rfl))).symm.trans ho)) hP hS) hS.2.2 dX3_loadWord_65
  · refine lv_aload_n hx hb dX3_loadWord_24 rfl (lv_at hl 2 rfl) ?_
    refine lv_iload hx hb dX3_loadWord_25 (lv_at hl 0 rfl) ?_
    refine lv_iload_n hx hb dX3_loadWord_27 rfl (lv_at hl 1 rfl) ?_
    obtain ⟨o2, h_o2⟩ : ∃ o9, (fX3_fail u (fX3_find u ((fX3_valueB u a2) + (fX3_imm a2)) (1 : Int32)) ((fX3_valueB u a2) + (fX3_imm a2))) = o9 := ⟨_, rfl⟩
    refine wr_call (r := none) (ws' := wT k q o2) (W.runV (C := RX3) (b := (q 0)) (As := [.int (fX3_find u ((fX3_valueB u a2) + (fX3_imm a2)) (1 : Int32)), .int ((fX3_valueB u a2) + (fX3_imm a2))]) (rest := []) ⟨hx, hb, hml, hown, hts⟩ (kX3_fail l D k q u (fX3_find u ((fX3_valueB u a2) + (fX3_imm a2)) (1 : Int32)) ((fX3_valueB u a2) + (fX3_imm a2)) o2 h_o2) (cwV 2 hts gX3_loadWord_X3_fail rfl rfl rfl (by decide +kernel) ⟨Nat.le_of_ble_eq_true rfl, Nat.le_of_ble_eq_true rfl⟩) (wr_preV bl_N (pr_N hX) hK hP hD (va_recv hK hP (ci := 2) (q0 := 0) rfl rfl)) rfl rfl hl.1 rfl (lv_room (Nat.le_of_ble_eq_true rfl)) dX3_loadWord_28 ⟨Nat.zero_le _, Nat.zero_le _⟩) hP hD hS [0, 1, 2, 3, 4, 5, 6, 7, 8, 9, 10] [] [0, 1, 2, 3, 4, 5, 6, 7, 8, 9, 10] allT (by decide) prmT adrT (fun H locs hP hD hS => ?_)
    exact W.vret hx hb hr (wr_end rfl (congrArg (wT k q) ((show fX3_loadWord u a1 a2 = o2 from (by subst h_o2; exact (if_neg c_21).trans rfl)).symm.trans ho)) hP hS) hS.2.2 dX3_loadWord_31
def fX3_storeWord (u : TM) (a1 : Int32) (a2 : Int32) : TM :=
  if a1 = (11 : Int32) then
    if u.2.2.2.2.2.1 = (0 : Int32) then
      (ts4 (fX3_setA u a2 (0 : Int32)) ((fX3_setA u a2 (0 : Int32)).2.2.2.2.1 + (4 : Int32)))
    else
      if (0 : Int32) ≤ (fX3_find u ((fX3_valueB u a2) + (fX3_imm a2)) (2 : Int32)) then
        (ts4 (fX3_setA (ts5 (ts0 u (upd u.1 (ix (fX3_find u ((fX3_valueB u a2) + (fX3_imm a2)) (2 : Int32))) (fX3_valueA u a2))) (0 : Int32)) a2 (1 : Int32)) ((fX3_setA (ts5 (ts0 u (upd u.1 (ix (fX3_find u ((fX3_valueB u a2) + (fX3_imm a2)) (2 : Int32))) (fX3_valueA u a2))) (0 : Int32)) a2 (1 : Int32)).2.2.2.2.1 + (4 : Int32)))
      else
        (fX3_fail u (fX3_find u ((fX3_valueB u a2) + (fX3_imm a2)) (2 : Int32)) ((fX3_valueB u a2) + (fX3_imm a2)))
  else
    if (0 : Int32) ≤ (fX3_find u ((fX3_valueB u a2) + (fX3_imm a2)) (2 : Int32)) then
      (ts4 (ts0 u (upd u.1 (ix (fX3_find u ((fX3_valueB u a2) + (fX3_imm a2)) (2 : Int32))) (fX3_valueA u a2))) (u.2.2.2.2.1 + (4 : Int32)))
    else
      (fX3_fail u (fX3_find u ((fX3_valueB u a2) + (fX3_imm a2)) (2 : Int32)) ((fX3_valueB u a2) + (fX3_imm a2)))
set_option maxHeartbeats 4000000 in
set_option maxRecDepth 100000 in
theorem kX3_storeWord (l : Launch) (D : va_G) (k : Nat → ClassId) (q : Nat → Nat) (u : TM) (a1 : Int32) (a2 : Int32)  (o : TM) (ho : fX3_storeWord u a1 a2 = o) : Met l yX3_storeWord wsX3_storeWord { frames := 3, cells := 0, slots := 0, locals := 76 } (wr_P D vwCl (tyL k) (wT k q u) NL [.ref (q 0), .int a1, .int a2]) (wr_Q D vwCl none (wT k q u) (wT k q o)) 0 0 (in_W (wT k q u)) := by
  refine Met.ofW (cc := cX3_storeWord) (maxL := 5) (ret := none) (by decide) rfl ?_
  intro p e s m args below meth c s₁ B hml hv0
  obtain ⟨rfl, hP, hK, hX, hD0⟩ := hv0
  have hx := B.exec
  have hb := B.bytes
  have hr := B.returns
  have hts := atoms_spec (ws := wsX3_storeWord) B.pre
  have hown : s.vm.findClass RX3 = some m.cls := findClass_of_methodNamed B.named
  have hlocks := B.notSynchronized
  have hD : va_D (in_W (wT k q u)) (wT k q u) := wD_self hD0
  have hS : va_S (in_W (wT k q u)) s.heap s.heap [] := va_S.rf
  have hl := lv_entry ([.ref (q 0), .int a1, .int a2]) (n := 5) (Nat.le_of_ble_eq_true rfl)
  rw [lg_entry_eq]
  generalize (lg_sl ([.ref (q 0), .int a1, .int a2]) ++ List.replicate (5 - (lg_sl ([.ref (q 0), .int a1, .int a2])).length) Slot.unset).toArray = ls at hl ⊢
  have hl : lv_has ls 5 [(0, .ref (q 0)), (1, .int a1), (2, .int a2)] := hl
  refine lv_iload_n hx hb dX3_storeWord_0 rfl (lv_at hl 1 rfl) ?_
  refine lv_bipush (v := (11 : Int32)) hx hb dX3_storeWord_1 (by decide) ?_
  refine lv_icmp_ne (tgt := 30) hx hb dX3_storeWord_3 (by decide) (fun c_3 => ?_) (fun c_3 => ?_)
  · refine lv_aload_n hx hb dX3_storeWord_30 rfl (lv_at hl 0 rfl) ?_
    refine lv_iload_n hx hb dX3_storeWord_31 rfl (lv_at hl 2 rfl) ?_
    refine rd_call (r := (fX3_valueB u a2)) (W.runV (C := RX3) (b := (q 0)) (As := [.int a2]) (rest := []) ⟨hx, hb, hml, hown, hts⟩ (kX3_valueB l D k q u a2) (cwV 1 hts gX3_storeWord_X3_valueB rfl rfl rfl (by decide +kernel) ⟨Nat.le_of_ble_eq_true rfl, Nat.le_of_ble_eq_true rfl⟩) (rd_preV bl_T pr_T hK hP (va_recv hK hP (ci := 2) (q0 := 0) rfl rfl)) rfl rfl hl.1 rfl (lv_room (Nat.le_of_ble_eq_true rfl)) dX3_storeWord_32 ⟨Nat.zero_le _, Nat.zero_le _⟩) ?_
    refine lv_iload_n hx hb dX3_storeWord_35 rfl (lv_at hl 2 rfl) ?_
    refine rd_call (r := (fX3_imm a2)) (W.runS (As := [.int a2]) (rest := [.int (fX3_valueB u a2)]) ⟨hx, hb, hml, hown, hts⟩ (kX3_imm l a2) (va_cwS 1 hts gX3_storeWord_X3_imm rfl rfl rfl (by decide +kernel) ⟨Nat.le_of_ble_eq_true rfl, Nat.le_of_ble_eq_true rfl⟩) preEq rfl rfl hl.1 rfl (lv_room (Nat.le_of_ble_eq_true rfl)) dX3_storeWord_36 ⟨Nat.zero_le _, Nat.zero_le _⟩) ?_
    refine lv_iadd hx hb dX3_storeWord_39 ?_
    refine lv_istore_n (lv' := [(3, .int ((fX3_valueB u a2) + (fX3_imm a2))), (0, .ref (q 0)), (1, .int a1), (2, .int a2)]) hx hb dX3_storeWord_40 rfl hl (by decide) rfl (fun ls hl => ?_)
    refine lv_aload_n hx hb dX3_storeWord_41 rfl (lv_at hl 1 rfl) ?_
    refine lv_iload_n hx hb dX3_storeWord_42 rfl (lv_at hl 0 rfl) ?_
    refine lv_iconst (v := (2 : Int32)) hx hb dX3_storeWord_43 (by decide) ?_
    refine rd_call (r := (fX3_find u ((fX3_valueB u a2) + (fX3_imm a2)) (2 : Int32))) (W.runV (C := RX3) (b := (q 0)) (As := [.int ((fX3_valueB u a2) + (fX3_imm a2)), .int (2 : Int32)]) (rest := []) ⟨hx, hb, hml, hown, hts⟩ (kX3_find l D k q u ((fX3_valueB u a2) + (fX3_imm a2)) (2 : Int32)) (cwV 2 hts gX3_storeWord_X3_find rfl rfl rfl (by decide +kernel) ⟨Nat.le_of_ble_eq_true rfl, Nat.le_of_ble_eq_true rfl⟩) (rd_preV bl_N (pr_N hX) hK hP (va_recv hK hP (ci := 2) (q0 := 0) rfl rfl)) rfl rfl hl.1 rfl (lv_room (Nat.le_of_ble_eq_true rfl)) dX3_storeWord_44 ⟨Nat.zero_le _, Nat.zero_le _⟩) ?_
    refine lv_istore (lv' := [(4, .int (fX3_find u ((fX3_valueB u a2) + (fX3_imm a2)) (2 : Int32))), (3, .int ((fX3_valueB u a2) + (fX3_imm a2))), (0, .ref (q 0)), (1, .int a1), (2, .int a2)]) hx hb dX3_storeWord_47 hl (by decide) rfl (fun ls hl => ?_)
    refine lv_iload hx hb dX3_storeWord_49 (lv_at hl 0 rfl) ?_
    refine lv_if_ge (tgt := 62) hx hb dX3_storeWord_51 (by decide) (fun c_51 => ?_) (fun c_51 => ?_)
    · refine lv_aload_n hx hb dX3_storeWord_62 rfl (lv_at hl 2 rfl) ?_
      refine va_get (D := D) (ci := 2) (v := .ref (q 1)) (C := RX3) (T := TX3) (N := 9) hx hb hts (by decide +kernel) hown hK hP 0 rfl rfl 0 (by decide) (hts (.fieldLink RX3 9 "TrapMachine" "memory" "[I") (by decide +kernel)) (fun _ h9 => h9) rfl dX3_storeWord_63 ?_
      refine lv_iload hx hb dX3_storeWord_66 (lv_at hl 0 rfl) ?_
      refine lv_aload_n hx hb dX3_storeWord_68 rfl (lv_at hl 2 rfl) ?_
      refine lv_iload_n hx hb dX3_storeWord_69 rfl (lv_at hl 4 rfl) ?_
      refine rd_call (r := (fX3_valueA u a2)) (W.runV (C := RX3) (b := (q 0)) (As := [.int a2]) (rest := [.int (fX3_find u ((fX3_valueB u a2) + (fX3_imm a2)) (2 : Int32)), .ref (q 1)]) ⟨hx, hb, hml, hown, hts⟩ (kX3_valueA l D k q u a2) (cwV 1 hts gX3_storeWord_X3_valueA rfl rfl rfl (by decide +kernel) ⟨Nat.le_of_ble_eq_true rfl, Nat.le_of_ble_eq_true rfl⟩) (rd_preV bl_T pr_T hK hP (va_recv hK hP (ci := 2) (q0 := 0) rfl rfl)) rfl rfl hl.1 rfl (lv_room (Nat.le_of_ble_eq_true rfl)) dX3_storeWord_70 ⟨Nat.zero_le _, Nat.zero_le _⟩) ?_
      refine q_iast (j := (ix (fX3_find u ((fX3_valueB u a2) + (fX3_imm a2)) (2 : Int32)))) (ws' := wT k q (ts0 u (upd u.1 (ix (fX3_find u ((fX3_valueB u a2) + (fX3_imm a2)) (2 : Int32))) (fX3_valueA u a2)))) hx hb hK hP hD hS 1 0 rfl rfl (find_in c_51) rfl rfl dX3_storeWord_73 (fun H locs hP hD hS => ?_)
      refine lv_iload_n hx hb dX3_storeWord_74 rfl (lv_at hl 3 rfl) ?_
      refine lv_bipush (v := (11 : Int32)) hx hb dX3_storeWord_75 (by decide) ?_
      refine lv_icmp_ne (tgt := 91) hx hb dX3_storeWord_77 (by decide) (fun _ => ?_) (fun c9 => absurd c9 c_3)
      refine lv_aload_n hx hb dX3_storeWord_91 rfl (lv_at hl 2 rfl) ?_
      refine lv_dup hx hb dX3_storeWord_92 rfl ?_
      refine va_get (D := D) (ci := 2) (v := .int u.2.2.2.2.1) (C := RX3) (T := TX3) (N := 9) hx hb hts (by decide +kernel) hown hK hP 0 rfl rfl 4 (by decide) (hts (.fieldLink RX3 54 "TrapMachine" "place" "I") (by decide +kernel)) (fun _ h9 => h9) rfl dX3_storeWord_93 ?_
      refine lv_iconst (v := (4 : Int32)) hx hb dX3_storeWord_96 (by decide) ?_
      refine lv_iadd hx hb dX3_storeWord_97 ?_
      refine va_put (D := D) (ci := 2) (v := .int (u.2.2.2.2.1 + (4 : Int32))) (ty := .int) (C := RX3) (T := TX3) (N := 9) hx hb hts (by decide +kernel) tyX3 tyX3_ok nmX3 hown hK hP hD hS 0 rfl rfl 4 (by decide) (hts (.fieldLink RX3 54 "TrapMachine" "place" "I") (by decide +kernel)) (fun _ h9 => h9) rfl (by decide +kernel) rfl rfl (Nat.le_of_ble_eq_true rfl) dX3_storeWord_98 (fun H locs hP hD hS => ?_)
      have hP : va_P D vwCl (wT k q (ts4 (ts0 u (upd u.1 (ix (fX3_find u ((fX3_valueB u a2) + (fX3_imm a2)) (2 : Int32))) (fX3_valueA u a2))) (u.2.2.2.2.1 + (4 : Int32)))) H := hP
      have hD : va_D (in_W (wT k q u)) (wT k q (ts4 (ts0 u (upd u.1 (ix (fX3_find u ((fX3_valueB u a2) + (fX3_imm a2)) (2 : Int32))) (fX3_valueA u a2))) (u.2.2.2.2.1 + (4 : Int32)))) := hD
      exact W.vret hx hb hr (wr_end rfl (congrArg (wT k q) ((show fX3_storeWord u a1 a2 = (ts4 (ts0 u (upd u.1 (ix (fX3_find u ((fX3_valueB u a2) + (fX3_imm a2)) (2 : Int32))) (fX3_valueA u a2))) (u.2.2.2.2.1 + (4 : Int32))) from (if_neg c_3).trans ((if_pos c_51).trans rfl)).symm.trans ho)) hP hS) hS.2.2 dX3_storeWord_101
    · refine lv_aload_n hx hb dX3_storeWord_54 rfl (lv_at hl 2 rfl) ?_
      refine lv_iload hx hb dX3_storeWord_55 (lv_at hl 0 rfl) ?_
      refine lv_iload_n hx hb dX3_storeWord_57 rfl (lv_at hl 1 rfl) ?_
      obtain ⟨o1, h_o1⟩ : ∃ o9, (fX3_fail u (fX3_find u ((fX3_valueB u a2) + (fX3_imm a2)) (2 : Int32)) ((fX3_valueB u a2) + (fX3_imm a2))) = o9 := ⟨_, rfl⟩
      refine wr_call (r := none) (ws' := wT k q o1) (W.runV (C := RX3) (b := (q 0)) (As := [.int (fX3_find u ((fX3_valueB u a2) + (fX3_imm a2)) (2 : Int32)), .int ((fX3_valueB u a2) + (fX3_imm a2))]) (rest := []) ⟨hx, hb, hml, hown, hts⟩ (kX3_fail l D k q u (fX3_find u ((fX3_valueB u a2) + (fX3_imm a2)) (2 : Int32)) ((fX3_valueB u a2) + (fX3_imm a2)) o1 h_o1) (cwV 2 hts gX3_storeWord_X3_fail rfl rfl rfl (by decide +kernel) ⟨Nat.le_of_ble_eq_true rfl, Nat.le_of_ble_eq_true rfl⟩) (wr_preV bl_N (pr_N hX) hK hP hD (va_recv hK hP (ci := 2) (q0 := 0) rfl rfl)) rfl rfl hl.1 rfl (lv_room (Nat.le_of_ble_eq_true rfl)) dX3_storeWord_58 ⟨Nat.zero_le _, Nat.zero_le _⟩) hP hD hS [0, 1, 2, 3, 4, 5, 6, 7, 8, 9, 10] [] [0, 1, 2, 3, 4, 5, 6, 7, 8, 9, 10] allT (by decide) prmT adrT (fun H locs hP hD hS => ?_)
      exact W.vret hx hb hr (wr_end rfl (congrArg (wT k q) ((show fX3_storeWord u a1 a2 = o1 from (by subst h_o1; exact (if_neg c_3).trans ((if_neg c_51).trans rfl))).symm.trans ho)) hP hS) hS.2.2 dX3_storeWord_61
  · refine lv_aload_n hx hb dX3_storeWord_6 rfl (lv_at hl 0 rfl) ?_
    refine va_get (D := D) (ci := 2) (v := .int u.2.2.2.2.2.1) (C := RX3) (T := TX3) (N := 9) hx hb hts (by decide +kernel) hown hK hP 0 rfl rfl 5 (by decide) (hts (.fieldLink RX3 72 "TrapMachine" "linked" "Z") (by decide +kernel)) (fun _ h9 => h9) rfl dX3_storeWord_7 ?_
    refine lv_if_ne (tgt := 30) hx hb dX3_storeWord_10 (by decide) (fun c_10 => ?_) (fun c_10 => ?_)
    · refine lv_aload_n hx hb dX3_storeWord_30 rfl (lv_at hl 0 rfl) ?_
      refine lv_iload_n hx hb dX3_storeWord_31 rfl (lv_at hl 2 rfl) ?_
      refine rd_call (r := (fX3_valueB u a2)) (W.runV (C := RX3) (b := (q 0)) (As := [.int a2]) (rest := []) ⟨hx, hb, hml, hown, hts⟩ (kX3_valueB l D k q u a2) (cwV 1 hts gX3_storeWord_X3_valueB rfl rfl rfl (by decide +kernel) ⟨Nat.le_of_ble_eq_true rfl, Nat.le_of_ble_eq_true rfl⟩) (rd_preV bl_T pr_T hK hP (va_recv hK hP (ci := 2) (q0 := 0) rfl rfl)) rfl rfl hl.1 rfl (lv_room (Nat.le_of_ble_eq_true rfl)) dX3_storeWord_32 ⟨Nat.zero_le _, Nat.zero_le _⟩) ?_
      refine lv_iload_n hx hb dX3_storeWord_35 rfl (lv_at hl 2 rfl) ?_
      refine rd_call (r := (fX3_imm a2)) (W.runS (As := [.int a2]) (rest := [.int (fX3_valueB u a2)]) ⟨hx, hb, hml, hown, hts⟩ (kX3_imm l a2) (va_cwS 1 hts gX3_storeWord_X3_imm rfl rfl rfl (by decide +kernel) ⟨Nat.le_of_ble_eq_true rfl, Nat.le_of_ble_eq_true rfl⟩) preEq rfl rfl hl.1 rfl (lv_room (Nat.le_of_ble_eq_true rfl)) dX3_storeWord_36 ⟨Nat.zero_le _, Nat.zero_le _⟩) ?_
      refine lv_iadd hx hb dX3_storeWord_39 ?_
      refine lv_istore_n (lv' := [(3, .int ((fX3_valueB u a2) + (fX3_imm a2))), (0, .ref (q 0)), (1, .int a1), (2, .int a2)]) hx hb dX3_storeWord_40 rfl hl (by decide) rfl (fun ls hl => ?_)
      refine lv_aload_n hx hb dX3_storeWord_41 rfl (lv_at hl 1 rfl) ?_
      refine lv_iload_n hx hb dX3_storeWord_42 rfl (lv_at hl 0 rfl) ?_
      refine lv_iconst (v := (2 : Int32)) hx hb dX3_storeWord_43 (by decide) ?_
      refine rd_call (r := (fX3_find u ((fX3_valueB u a2) + (fX3_imm a2)) (2 : Int32))) (W.runV (C := RX3) (b := (q 0)) (As := [.int ((fX3_valueB u a2) + (fX3_imm a2)), .int (2 : Int32)]) (rest := []) ⟨hx, hb, hml, hown, hts⟩ (kX3_find l D k q u ((fX3_valueB u a2) + (fX3_imm a2)) (2 : Int32)) (cwV 2 hts gX3_storeWord_X3_find rfl rfl rfl (by decide +kernel) ⟨Nat.le_of_ble_eq_true rfl, Nat.le_of_ble_eq_true rfl⟩) (rd_preV bl_N (pr_N hX) hK hP (va_recv hK hP (ci := 2) (q0 := 0) rfl rfl)) rfl rfl hl.1 rfl (lv_room (Nat.le_of_ble_eq_true rfl)) dX3_storeWord_44 ⟨Nat.zero_le _, Nat.zero_le _⟩) ?_
      refine lv_istore (lv' := [(4, .int (fX3_find u ((fX3_valueB u a2) + (fX3_imm a2)) (2 : Int32))), (3, .int ((fX3_valueB u a2) + (fX3_imm a2))), (0, .ref (q 0)), (1, .int a1), (2, .int a2)]) hx hb dX3_storeWord_47 hl (by decide) rfl (fun ls hl => ?_)
      refine lv_iload hx hb dX3_storeWord_49 (lv_at hl 0 rfl) ?_
      refine lv_if_ge (tgt := 62) hx hb dX3_storeWord_51 (by decide) (fun c_51 => ?_) (fun c_51 => ?_)
      · refine lv_aload_n hx hb dX3_storeWord_62 rfl (lv_at hl 2 rfl) ?_
        refine va_get (D := D) (ci := 2) (v := .ref (q 1)) (C := RX3) (T := TX3) (N := 9) hx hb hts (by decide +kernel) hown hK hP 0 rfl rfl 0 (by decide) (hts (.fieldLink RX3 9 "TrapMachine" "memory" "[I") (by decide +kernel)) (fun _ h9 => h9) rfl dX3_storeWord_63 ?_
        refine lv_iload hx hb dX3_storeWord_66 (lv_at hl 0 rfl) ?_
        refine lv_aload_n hx hb dX3_storeWord_68 rfl (lv_at hl 2 rfl) ?_
        refine lv_iload_n hx hb dX3_storeWord_69 rfl (lv_at hl 4 rfl) ?_
        refine rd_call (r := (fX3_valueA u a2)) (W.runV (C := RX3) (b := (q 0)) (As := [.int a2]) (rest := [.int (fX3_find u ((fX3_valueB u a2) + (fX3_imm a2)) (2 : Int32)), .ref (q 1)]) ⟨hx, hb, hml, hown, hts⟩ (kX3_valueA l D k q u a2) (cwV 1 hts gX3_storeWord_X3_valueA rfl rfl rfl (by decide +kernel) ⟨Nat.le_of_ble_eq_true rfl, Nat.le_of_ble_eq_true rfl⟩) (rd_preV bl_T pr_T hK hP (va_recv hK hP (ci := 2) (q0 := 0) rfl rfl)) rfl rfl hl.1 rfl (lv_room (Nat.le_of_ble_eq_true rfl)) dX3_storeWord_70 ⟨Nat.zero_le _, Nat.zero_le _⟩) ?_
        refine q_iast (j := (ix (fX3_find u ((fX3_valueB u a2) + (fX3_imm a2)) (2 : Int32)))) (ws' := wT k q (ts0 u (upd u.1 (ix (fX3_find u ((fX3_valueB u a2) + (fX3_imm a2)) (2 : Int32))) (fX3_valueA u a2)))) hx hb hK hP hD hS 1 0 rfl rfl (find_in c_51) rfl rfl dX3_storeWord_73 (fun H locs hP hD hS => ?_)
        refine lv_iload_n hx hb dX3_storeWord_74 rfl (lv_at hl 3 rfl) ?_
        refine lv_bipush (v := (11 : Int32)) hx hb dX3_storeWord_75 (by decide) ?_
        refine lv_icmp_ne (tgt := 91) hx hb dX3_storeWord_77 (by decide) (fun c9 => absurd c_3 c9) (fun _ => ?_)
        refine lv_aload_n hx hb dX3_storeWord_80 rfl (lv_at hl 2 rfl) ?_
        refine lv_iconst (v := (0 : Int32)) hx hb dX3_storeWord_81 (by decide) ?_
        refine va_put (D := D) (ci := 2) (v := .int (0 : Int32)) (ty := .boolean) (C := RX3) (T := TX3) (N := 9) hx hb hts (by decide +kernel) tyX3 tyX3_ok nmX3 hown hK hP hD hS 0 rfl rfl 5 (by decide) (hts (.fieldLink RX3 72 "TrapMachine" "linked" "Z") (by decide +kernel)) (fun _ h9 => h9) rfl (by decide +kernel) rfl rfl (Nat.le_of_ble_eq_true rfl) dX3_storeWord_82 (fun H locs hP hD hS => ?_)
        have hP : va_P D vwCl (wT k q (ts5 (ts0 u (upd u.1 (ix (fX3_find u ((fX3_valueB u a2) + (fX3_imm a2)) (2 : Int32))) (fX3_valueA u a2))) (0 : Int32))) H := hP
        have hD : va_D (in_W (wT k q u)) (wT k q (ts5 (ts0 u (upd u.1 (ix (fX3_find u ((fX3_valueB u a2) + (fX3_imm a2)) (2 : Int32))) (fX3_valueA u a2))) (0 : Int32))) := hD
        refine lv_aload_n hx hb dX3_storeWord_85 rfl (lv_at hl 2 rfl) ?_
        refine lv_iload_n hx hb dX3_storeWord_86 rfl (lv_at hl 4 rfl) ?_
        refine lv_iconst (v := (1 : Int32)) hx hb dX3_storeWord_87 (by decide) ?_
        obtain ⟨o2, h_o2⟩ : ∃ o9, (fX3_setA (ts5 (ts0 u (upd u.1 (ix (fX3_find u ((fX3_valueB u a2) + (fX3_imm a2)) (2 : Int32))) (fX3_valueA u a2))) (0 : Int32)) a2 (1 : Int32)) = o9 := ⟨_, rfl⟩
        refine wr_call (r := none) (ws' := wT k q o2) (W.runV (C := RX3) (b := (q 0)) (As := [.int a2, .int (1 : Int32)]) (rest := []) ⟨hx, hb, hml, hown, hts⟩ (kX3_setA l D k q (ts5 (ts0 u (upd u.1 (ix (fX3_find u ((fX3_valueB u a2) + (fX3_imm a2)) (2 : Int32))) (fX3_valueA u a2))) (0 : Int32)) a2 (1 : Int32) o2 h_o2) (cwV 2 hts gX3_storeWord_X3_setA rfl rfl rfl (by decide +kernel) ⟨Nat.le_of_ble_eq_true rfl, Nat.le_of_ble_eq_true rfl⟩) (wr_preV bl_T pr_T hK hP hD (va_recv hK hP (ci := 2) (q0 := 0) rfl rfl)) rfl rfl hl.1 rfl (lv_room (Nat.le_of_ble_eq_true rfl)) dX3_storeWord_88 ⟨Nat.zero_le _, Nat.zero_le _⟩) hP hD hS [0, 1, 2, 3, 4, 5, 6, 7, 8, 9, 10] [] [0, 1, 2, 3, 4, 5, 6, 7, 8, 9, 10] allT (by decide) prmT adrT (fun H locs hP hD hS => ?_)
        refine lv_aload_n hx hb dX3_storeWord_91 rfl (lv_at hl 2 rfl) ?_
        refine lv_dup hx hb dX3_storeWord_92 rfl ?_
        refine va_get (D := D) (ci := 2) (v := .int o2.2.2.2.2.1) (C := RX3) (T := TX3) (N := 9) hx hb hts (by decide +kernel) hown hK hP 0 rfl rfl 4 (by decide) (hts (.fieldLink RX3 54 "TrapMachine" "place" "I") (by decide +kernel)) (fun _ h9 => h9) rfl dX3_storeWord_93 ?_
        refine lv_iconst (v := (4 : Int32)) hx hb dX3_storeWord_96 (by decide) ?_
        refine lv_iadd hx hb dX3_storeWord_97 ?_
        refine va_put (D := D) (ci := 2) (v := .int (o2.2.2.2.2.1 + (4 : Int32))) (ty := .int) (C := RX3) (T := TX3) (N := 9) hx hb hts (by decide +kernel) tyX3 tyX3_ok nmX3 hown hK hP hD hS 0 rfl rfl 4 (by decide) (hts (.fieldLink RX3 54 "TrapMachine" "place" "I") (by decide +kernel)) (fun _ h9 => h9) rfl (by decide +kernel) rfl rfl (Nat.le_of_ble_eq_true rfl) dX3_storeWord_98 (fun H locs hP hD hS => ?_)
        have hP : va_P D vwCl (wT k q (ts4 o2 (o2.2.2.2.2.1 + (4 : Int32)))) H := hP
        have hD : va_D (in_W (wT k q u)) (wT k q (ts4 o2 (o2.2.2.2.2.1 + (4 : Int32)))) := hD
        exact W.vret hx hb hr (wr_end rfl (congrArg (wT k q) ((show fX3_storeWord u a1 a2 = (ts4 o2 (o2.2.2.2.2.1 + (4 : Int32))) from (by subst h_o2; exact (if_pos c_3).trans ((if_neg c_10).trans ((if_pos c_51).trans rfl)))).symm.trans ho)) hP hS) hS.2.2 dX3_storeWord_101
      · refine lv_aload_n hx hb dX3_storeWord_54 rfl (lv_at hl 2 rfl) ?_
        refine lv_iload hx hb dX3_storeWord_55 (lv_at hl 0 rfl) ?_
        refine lv_iload_n hx hb dX3_storeWord_57 rfl (lv_at hl 1 rfl) ?_
        obtain ⟨o3, h_o3⟩ : ∃ o9, (fX3_fail u (fX3_find u ((fX3_valueB u a2) + (fX3_imm a2)) (2 : Int32)) ((fX3_valueB u a2) + (fX3_imm a2))) = o9 := ⟨_, rfl⟩
        refine wr_call (r := none) (ws' := wT k q o3) (W.runV (C := RX3) (b := (q 0)) (As := [.int (fX3_find u ((fX3_valueB u a2) + (fX3_imm a2)) (2 : Int32)), .int ((fX3_valueB u a2) + (fX3_imm a2))]) (rest := []) ⟨hx, hb, hml, hown, hts⟩ (kX3_fail l D k q u (fX3_find u ((fX3_valueB u a2) + (fX3_imm a2)) (2 : Int32)) ((fX3_valueB u a2) + (fX3_imm a2)) o3 h_o3) (cwV 2 hts gX3_storeWord_X3_fail rfl rfl rfl (by decide +kernel) ⟨Nat.le_of_ble_eq_true rfl, Nat.le_of_ble_eq_true rfl⟩) (wr_preV bl_N (pr_N hX) hK hP hD (va_recv hK hP (ci := 2) (q0 := 0) rfl rfl)) rfl rfl hl.1 rfl (lv_room (Nat.le_of_ble_eq_true rfl)) dX3_storeWord_58 ⟨Nat.zero_le _, Nat.zero_le _⟩) hP hD hS [0, 1, 2, 3, 4, 5, 6, 7, 8, 9, 10] [] [0, 1, 2, 3, 4, 5, 6, 7, 8, 9, 10] allT (by decide) prmT adrT (fun H locs hP hD hS => ?_)
        exact W.vret hx hb hr (wr_end rfl (congrArg (wT k q) ((show fX3_storeWord u a1 a2 = o3 from (by subst h_o3; exact (if_pos c_3).trans ((if_neg c_10).trans ((if_neg c_51).trans rfl)))).symm.trans ho)) hP hS) hS.2.2 dX3_storeWord_61
    · refine lv_aload_n hx hb dX3_storeWord_13 rfl (lv_at hl 0 rfl) ?_
      refine lv_iload_n hx hb dX3_storeWord_14 rfl (lv_at hl 2 rfl) ?_
      refine lv_iconst (v := (0 : Int32)) hx hb dX3_storeWord_15 (by decide) ?_
      obtain ⟨o4, h_o4⟩ : ∃ o9, (fX3_setA u a2 (0 : Int32)) = o9 := ⟨_, rfl⟩
      refine wr_call (r := none) (ws' := wT k q o4) (W.runV (C := RX3) (b := (q 0)) (As := [.int a2, .int (0 : Int32)]) (rest := []) ⟨hx, hb, hml, hown, hts⟩ (kX3_setA l D k q u a2 (0 : Int32) o4 h_o4) (cwV 2 hts gX3_storeWord_X3_setA rfl rfl rfl (by decide +kernel) ⟨Nat.le_of_ble_eq_true rfl, Nat.le_of_ble_eq_true rfl⟩) (wr_preV bl_T pr_T hK hP hD (va_recv hK hP (ci := 2) (q0 := 0) rfl rfl)) rfl rfl hl.1 rfl (lv_room (Nat.le_of_ble_eq_true rfl)) dX3_storeWord_16 ⟨Nat.zero_le _, Nat.zero_le _⟩) hP hD hS [0, 1, 2, 3, 4, 5, 6, 7, 8, 9, 10] [] [0, 1, 2, 3, 4, 5, 6, 7, 8, 9, 10] allT (by decide) prmT adrT (fun H locs hP hD hS => ?_)
      refine lv_aload_n hx hb dX3_storeWord_19 rfl (lv_at hl 0 rfl) ?_
      refine lv_dup hx hb dX3_storeWord_20 rfl ?_
      refine va_get (D := D) (ci := 2) (v := .int o4.2.2.2.2.1) (C := RX3) (T := TX3) (N := 9) hx hb hts (by decide +kernel) hown hK hP 0 rfl rfl 4 (by decide) (hts (.fieldLink RX3 54 "TrapMachine" "place" "I") (by decide +kernel)) (fun _ h9 => h9) rfl dX3_storeWord_21 ?_
      refine lv_iconst (v := (4 : Int32)) hx hb dX3_storeWord_24 (by decide) ?_
      refine lv_iadd hx hb dX3_storeWord_25 ?_
      refine va_put (D := D) (ci := 2) (v := .int (o4.2.2.2.2.1 + (4 : Int32))) (ty := .int) (C := RX3) (T := TX3) (N := 9) hx hb hts (by decide +kernel) tyX3 tyX3_ok nmX3 hown hK hP hD hS 0 rfl rfl 4 (by decide) (hts (.fieldLink RX3 54 "TrapMachine" "place" "I") (by decide +kernel)) (fun _ h9 => h9) rfl (by decide +kernel) rfl rfl (Nat.le_of_ble_eq_true rfl) dX3_storeWord_26 (fun H locs hP hD hS => ?_)
      have hP : va_P D vwCl (wT k q (ts4 o4 (o4.2.2.2.2.1 + (4 : Int32)))) H := hP
      have hD : va_D (in_W (wT k q u)) (wT k q (ts4 o4 (o4.2.2.2.2.1 + (4 : Int32)))) := hD
      exact W.vret hx hb hr (wr_end rfl (congrArg (wT k q) ((show fX3_storeWord u a1 a2 = (ts4 o4 (o4.2.2.2.2.1 + (4 : Int32))) from (by subst h_o4; exact (if_pos c_3).trans ((if_pos c_10).trans rfl))).symm.trans ho)) hP hS) hS.2.2 dX3_storeWord_29
def fX3_useControl (u : TM) (a1 : Int32) (a2 : Int32) : TM :=
  if (fX3_byteC a2) ≤ (17 : Int32) then
    if a1 = (19 : Int32) then
      (ts4 (fX3_setA (ts2 u (fX2_write u.2.2.1 (fX3_byteC a2) (fX3_valueA u a2) (-1 : Int32))) a2 (fX2_get u.2.2.1 (fX3_byteC a2))) ((fX3_setA (ts2 u (fX2_write u.2.2.1 (fX3_byteC a2) (fX3_valueA u a2) (-1 : Int32))) a2 (fX2_get u.2.2.1 (fX3_byteC a2))).2.2.2.2.1 + (4 : Int32)))
    else
      if a1 = (20 : Int32) then
        (ts4 (fX3_setA (ts2 u (fX2_write u.2.2.1 (fX3_byteC a2) (fX3_valueA u a2) (fX3_valueB u a2))) a2 (fX2_get u.2.2.1 (fX3_byteC a2))) ((fX3_setA (ts2 u (fX2_write u.2.2.1 (fX3_byteC a2) (fX3_valueA u a2) (fX3_valueB u a2))) a2 (fX2_get u.2.2.1 (fX3_byteC a2))).2.2.2.2.1 + (4 : Int32)))
      else
        (ts4 (fX3_setA u a2 (fX2_get u.2.2.1 (fX3_byteC a2))) ((fX3_setA u a2 (fX2_get u.2.2.1 (fX3_byteC a2))).2.2.2.2.1 + (4 : Int32)))
  else
    (fX3_raise u (13 : Int32))
set_option maxHeartbeats 4000000 in
set_option maxRecDepth 100000 in
theorem kX3_useControl (l : Launch) (D : va_G) (k : Nat → ClassId) (q : Nat → Nat) (u : TM) (tC tL : Nat) (a1 : Int32) (a2 : Int32)  (o : TM) (ho : fX3_useControl u a1 a2 = o) : Met l yX3_useControl wsX3_useControl { frames := 2, cells := 0, slots := 0, locals := 43 } (wr_P D vwCl (tyL k) (wT k q u) (fun U => NL U ∧ ST tC tL (in_W (wT k q u)) U U.heap) [.ref (q 0), .int a1, .int a2]) (wr_Q D vwCl none (wT k q u) (wT k q o)) 0 0 (in_W (wT k q u)) := by
  refine Met.ofW (cc := cX3_useControl) (maxL := 5) (ret := none) (by decide) rfl ?_
  intro p e s m args below meth c s₁ B hml hv0
  obtain ⟨rfl, hP, hK, hX, hD0⟩ := hv0
  have hx := B.exec
  have hb := B.bytes
  have hr := B.returns
  have hts := atoms_spec (ws := wsX3_useControl) B.pre
  have hown : s.vm.findClass RX3 = some m.cls := findClass_of_methodNamed B.named
  have hlocks := B.notSynchronized
  have hD : va_D (in_W (wT k q u)) (wT k q u) := wD_self hD0
  have hS : va_S (in_W (wT k q u)) s.heap s.heap [] := va_S.rf
  have hT := hX.2
  have hl := lv_entry ([.ref (q 0), .int a1, .int a2]) (n := 5) (Nat.le_of_ble_eq_true rfl)
  rw [lg_entry_eq]
  generalize (lg_sl ([.ref (q 0), .int a1, .int a2]) ++ List.replicate (5 - (lg_sl ([.ref (q 0), .int a1, .int a2])).length) Slot.unset).toArray = ls at hl ⊢
  have hl : lv_has ls 5 [(0, .ref (q 0)), (1, .int a1), (2, .int a2)] := hl
  refine lv_iload_n hx hb dX3_useControl_0 rfl (lv_at hl 2 rfl) ?_
  refine rd_call (r := (fX3_byteC a2)) (W.runS (As := [.int a2]) (rest := []) ⟨hx, hb, hml, hown, hts⟩ (kX3_byteC l a2) (va_cwS 1 hts gX3_useControl_X3_byteC rfl rfl rfl (by decide +kernel) ⟨Nat.le_of_ble_eq_true rfl, Nat.le_of_ble_eq_true rfl⟩) preEq rfl rfl hl.1 rfl (lv_room (Nat.le_of_ble_eq_true rfl)) dX3_useControl_1 ⟨Nat.zero_le _, Nat.zero_le _⟩) ?_
  refine lv_istore_n (lv' := [(3, .int (fX3_byteC a2)), (0, .ref (q 0)), (1, .int a1), (2, .int a2)]) hx hb dX3_useControl_4 rfl hl (by decide) rfl (fun ls hl => ?_)
  refine lv_iload_n hx hb dX3_useControl_5 rfl (lv_at hl 0 rfl) ?_
  refine lv_bipush (v := (17 : Int32)) hx hb dX3_useControl_6 (by decide) ?_
  refine lv_icmp_le (tgt := 18) hx hb dX3_useControl_8 (by decide) (fun c_8 => ?_) (fun c_8 => ?_)
  · refine lv_aload_n hx hb dX3_useControl_18 rfl (lv_at hl 1 rfl) ?_
    refine va_get (D := D) (ci := 2) (v := .ref (q 3)) (C := RX3) (T := TX3) (N := 9) hx hb hts (by decide +kernel) hown hK hP 0 rfl rfl 2 (by decide) (hts (.fieldLink RX3 19 "TrapMachine" "controls" "LTrapMachine$Controls;") (by decide +kernel)) (fun _ h9 => h9) rfl dX3_useControl_19 ?_
    refine lv_iload_n hx hb dX3_useControl_22 rfl (lv_at hl 0 rfl) ?_
    refine rd_call (r := (fX2_get u.2.2.1 (fX3_byteC a2))) (va_runVN (C := RX2) (b := (q 3)) (As := [.int (fX3_byteC a2)]) (rest := []) ⟨hx, hb, hml, hown, hts⟩ (kX2_get l D k (q 3) (q 4) u.2.2.1 (fX3_byteC a2) (byteC_in c_8)) ⟨va_cnB 1 hts gX3_useControl_X2_get_n77 rfl rfl rfl (hX.1.at 3 (q := (77, yX2_get)) rfl) (hts (.initialized RX2) (by decide +kernel)) (by decide +kernel) ⟨Nat.le_of_ble_eq_true rfl, Nat.le_of_ble_eq_true rfl⟩, (hts (.instanceMethod yX2_get) (by decide +kernel)), (hts (.selects RX2 yX2_get yX2_get) (by decide +kernel))⟩ (rd_preV bl_T pr_T hK (show va_P D vwCl (wC k (q 3) (q 4) u.2.2.1) _ from hP.sub [3, 4] fmTC) (va_recv hK (show va_P D vwCl (wC k (q 3) (q 4) u.2.2.1) _ from hP.sub [3, 4] fmTC) (ci := 1) (q0 := 0) rfl rfl)) rfl rfl hl.1 rfl (lv_room (Nat.le_of_ble_eq_true rfl)) dX3_useControl_23 ⟨Nat.zero_le _, Nat.zero_le _⟩).run ?_
    refine lv_istore (lv' := [(4, .int (fX2_get u.2.2.1 (fX3_byteC a2))), (3, .int (fX3_byteC a2)), (0, .ref (q 0)), (1, .int a1), (2, .int a2)]) hx hb dX3_useControl_26 hl (by decide) rfl (fun ls hl => ?_)
    refine lv_iload_n hx hb dX3_useControl_28 rfl (lv_at hl 3 rfl) ?_
    refine lv_bipush (v := (19 : Int32)) hx hb dX3_useControl_29 (by decide) ?_
    refine lv_icmp_ne (tgt := 51) hx hb dX3_useControl_31 (by decide) (fun c_31 => ?_) (fun c_31 => ?_)
    · refine lv_iload_n hx hb dX3_useControl_51 rfl (lv_at hl 3 rfl) ?_
      refine lv_bipush (v := (20 : Int32)) hx hb dX3_useControl_52 (by decide) ?_
      refine lv_icmp_ne (tgt := 75) hx hb dX3_useControl_54 (by decide) (fun c_54 => ?_) (fun c_54 => ?_)
      · refine lv_aload_n hx hb dX3_useControl_75 rfl (lv_at hl 2 rfl) ?_
        refine lv_iload_n hx hb dX3_useControl_76 rfl (lv_at hl 4 rfl) ?_
        refine lv_iload hx hb dX3_useControl_77 (lv_at hl 0 rfl) ?_
        obtain ⟨o1, h_o1⟩ : ∃ o9, (fX3_setA u a2 (fX2_get u.2.2.1 (fX3_byteC a2))) = o9 := ⟨_, rfl⟩
        refine wr_call (r := none) (ws' := wT k q o1) (W.runV (C := RX3) (b := (q 0)) (As := [.int a2, .int (fX2_get u.2.2.1 (fX3_byteC a2))]) (rest := []) ⟨hx, hb, hml, hown, hts⟩ (kX3_setA l D k q u a2 (fX2_get u.2.2.1 (fX3_byteC a2)) o1 h_o1) (cwV 2 hts gX3_useControl_X3_setA rfl rfl rfl (by decide +kernel) ⟨Nat.le_of_ble_eq_true rfl, Nat.le_of_ble_eq_true rfl⟩) (wr_preV bl_T pr_T hK hP hD (va_recv hK hP (ci := 2) (q0 := 0) rfl rfl)) rfl rfl hl.1 rfl (lv_room (Nat.le_of_ble_eq_true rfl)) dX3_useControl_79 ⟨Nat.zero_le _, Nat.zero_le _⟩) hP hD hS [0, 1, 2, 3, 4, 5, 6, 7, 8, 9, 10] [] [0, 1, 2, 3, 4, 5, 6, 7, 8, 9, 10] allT (by decide) prmT adrT (fun H locs hP hD hS => ?_)
        refine lv_aload_n hx hb dX3_useControl_82 rfl (lv_at hl 2 rfl) ?_
        refine lv_dup hx hb dX3_useControl_83 rfl ?_
        refine va_get (D := D) (ci := 2) (v := .int o1.2.2.2.2.1) (C := RX3) (T := TX3) (N := 9) hx hb hts (by decide +kernel) hown hK hP 0 rfl rfl 4 (by decide) (hts (.fieldLink RX3 54 "TrapMachine" "place" "I") (by decide +kernel)) (fun _ h9 => h9) rfl dX3_useControl_84 ?_
        refine lv_iconst (v := (4 : Int32)) hx hb dX3_useControl_87 (by decide) ?_
        refine lv_iadd hx hb dX3_useControl_88 ?_
        refine va_put (D := D) (ci := 2) (v := .int (o1.2.2.2.2.1 + (4 : Int32))) (ty := .int) (C := RX3) (T := TX3) (N := 9) hx hb hts (by decide +kernel) tyX3 tyX3_ok nmX3 hown hK hP hD hS 0 rfl rfl 4 (by decide) (hts (.fieldLink RX3 54 "TrapMachine" "place" "I") (by decide +kernel)) (fun _ h9 => h9) rfl (by decide +kernel) rfl rfl (Nat.le_of_ble_eq_true rfl) dX3_useControl_89 (fun H locs hP hD hS => ?_)
        have hP : va_P D vwCl (wT k q (ts4 o1 (o1.2.2.2.2.1 + (4 : Int32)))) H := hP
        have hD : va_D (in_W (wT k q u)) (wT k q (ts4 o1 (o1.2.2.2.2.1 + (4 : Int32)))) := hD
        exact W.vret hx hb hr (wr_end rfl (congrArg (wT k q) ((show fX3_useControl u a1 a2 = (ts4 o1 (o1.2.2.2.2.1 + (4 : Int32))) from (by subst h_o1; exact (if_pos c_8).trans ((if_neg c_31).trans ((if_neg c_54).trans rfl)))).symm.trans ho)) hP hS) hS.2.2 dX3_useControl_92
      · refine lv_aload_n hx hb dX3_useControl_57 rfl (lv_at hl 2 rfl) ?_
        refine va_get (D := D) (ci := 2) (v := .ref (q 3)) (C := RX3) (T := TX3) (N := 9) hx hb hts (by decide +kernel) hown hK hP 0 rfl rfl 2 (by decide) (hts (.fieldLink RX3 19 "TrapMachine" "controls" "LTrapMachine$Controls;") (by decide +kernel)) (fun _ h9 => h9) rfl dX3_useControl_58 ?_
        refine lv_iload_n hx hb dX3_useControl_61 rfl (lv_at hl 1 rfl) ?_
        refine lv_aload_n hx hb dX3_useControl_62 rfl (lv_at hl 2 rfl) ?_
        refine lv_iload_n hx hb dX3_useControl_63 rfl (lv_at hl 4 rfl) ?_
        refine rd_call (r := (fX3_valueA u a2)) (W.runV (C := RX3) (b := (q 0)) (As := [.int a2]) (rest := [.int (fX3_byteC a2), .ref (q 3)]) ⟨hx, hb, hml, hown, hts⟩ (kX3_valueA l D k q u a2) (cwV 1 hts gX3_useControl_X3_valueA rfl rfl rfl (by decide +kernel) ⟨Nat.le_of_ble_eq_true rfl, Nat.le_of_ble_eq_true rfl⟩) (rd_preV bl_T pr_T hK hP (va_recv hK hP (ci := 2) (q0 := 0) rfl rfl)) rfl rfl hl.1 rfl (lv_room (Nat.le_of_ble_eq_true rfl)) dX3_useControl_64 ⟨Nat.zero_le _, Nat.zero_le _⟩) ?_
        refine lv_aload_n hx hb dX3_useControl_67 rfl (lv_at hl 2 rfl) ?_
        refine lv_iload_n hx hb dX3_useControl_68 rfl (lv_at hl 4 rfl) ?_
        refine rd_call (r := (fX3_valueB u a2)) (W.runV (C := RX3) (b := (q 0)) (As := [.int a2]) (rest := [.int (fX3_valueA u a2), .int (fX3_byteC a2), .ref (q 3)]) ⟨hx, hb, hml, hown, hts⟩ (kX3_valueB l D k q u a2) (cwV 1 hts gX3_useControl_X3_valueB rfl rfl rfl (by decide +kernel) ⟨Nat.le_of_ble_eq_true rfl, Nat.le_of_ble_eq_true rfl⟩) (rd_preV bl_T pr_T hK hP (va_recv hK hP (ci := 2) (q0 := 0) rfl rfl)) rfl rfl hl.1 rfl (lv_room (Nat.le_of_ble_eq_true rfl)) dX3_useControl_69 ⟨Nat.zero_le _, Nat.zero_le _⟩) ?_
        obtain ⟨o2, h_o2⟩ : ∃ o9, (fX2_write u.2.2.1 (fX3_byteC a2) (fX3_valueA u a2) (fX3_valueB u a2)) = o9 := ⟨_, rfl⟩
        refine wr_call (r := none) (ws' := wT k q (ts2 u o2)) (va_runVN (C := RX2) (b := (q 3)) (As := [.int (fX3_byteC a2), .int (fX3_valueA u a2), .int (fX3_valueB u a2)]) (rest := []) ⟨hx, hb, hml, hown, hts⟩ (kX2_write l D k (q 3) (q 4) u.2.2.1 tC tL (fX3_byteC a2) (fX3_valueA u a2) (fX3_valueB u a2) (byteC_in c_8) o2 h_o2) ⟨va_cnB 3 hts gX3_useControl_X2_write_n171 rfl rfl rfl (hX.1.at 9 (q := (171, yX2_write)) rfl) (hts (.initialized RX2) (by decide +kernel)) (by decide +kernel) ⟨Nat.le_of_ble_eq_true rfl, Nat.le_of_ble_eq_true rfl⟩, (hts (.instanceMethod yX2_write) (by decide +kernel)), (hts (.selects RX2 yX2_write yX2_write) (by decide +kernel))⟩ (wr_preV bl_S (pr_S (ws := wT k q u) hX.2 hS (in_sub (ws := wT k q u) [3, 4] subTC adrT)) hK (show va_P D vwCl (wC k (q 3) (q 4) u.2.2.1) _ from hP.sub [3, 4] fmTC) (show va_D (in_W (wT k q u)) (wC k (q 3) (q 4) u.2.2.1) from hD.sub [3, 4] (by decide) subTC) (va_recv hK (show va_P D vwCl (wC k (q 3) (q 4) u.2.2.1) _ from hP.sub [3, 4] fmTC) (ci := 1) (q0 := 0) rfl rfl)) rfl rfl hl.1 rfl (lv_room (Nat.le_of_ble_eq_true rfl)) dX3_useControl_72 ⟨Nat.zero_le _, Nat.zero_le _⟩).run hP hD hS [3, 4] [0, 1, 2, 5, 6, 7, 8, 9, 10] [0, 1, 2, 9, 10, 3, 4, 5, 6, 7, 8] subTC (by decide) putTC adrT (fun H locs hP hD hS => ?_)
        refine lv_aload_n hx hb dX3_useControl_75 rfl (lv_at hl 2 rfl) ?_
        refine lv_iload_n hx hb dX3_useControl_76 rfl (lv_at hl 4 rfl) ?_
        refine lv_iload hx hb dX3_useControl_77 (lv_at hl 0 rfl) ?_
        obtain ⟨o3, h_o3⟩ : ∃ o9, (fX3_setA (ts2 u o2) a2 (fX2_get u.2.2.1 (fX3_byteC a2))) = o9 := ⟨_, rfl⟩
        refine wr_call (r := none) (ws' := wT k q o3) (W.runV (C := RX3) (b := (q 0)) (As := [.int a2, .int (fX2_get u.2.2.1 (fX3_byteC a2))]) (rest := []) ⟨hx, hb, hml, hown, hts⟩ (kX3_setA l D k q (ts2 u o2) a2 (fX2_get u.2.2.1 (fX3_byteC a2)) o3 h_o3) (cwV 2 hts gX3_useControl_X3_setA rfl rfl rfl (by decide +kernel) ⟨Nat.le_of_ble_eq_true rfl, Nat.le_of_ble_eq_true rfl⟩) (wr_preV bl_T pr_T hK hP hD (va_recv hK hP (ci := 2) (q0 := 0) rfl rfl)) rfl rfl hl.1 rfl (lv_room (Nat.le_of_ble_eq_true rfl)) dX3_useControl_79 ⟨Nat.zero_le _, Nat.zero_le _⟩) hP hD hS [0, 1, 2, 3, 4, 5, 6, 7, 8, 9, 10] [] [0, 1, 2, 3, 4, 5, 6, 7, 8, 9, 10] allT (by decide) prmT adrT (fun H locs hP hD hS => ?_)
        refine lv_aload_n hx hb dX3_useControl_82 rfl (lv_at hl 2 rfl) ?_
        refine lv_dup hx hb dX3_useControl_83 rfl ?_
        refine va_get (D := D) (ci := 2) (v := .int o3.2.2.2.2.1) (C := RX3) (T := TX3) (N := 9) hx hb hts (by decide +kernel) hown hK hP 0 rfl rfl 4 (by decide) (hts (.fieldLink RX3 54 "TrapMachine" "place" "I") (by decide +kernel)) (fun _ h9 => h9) rfl dX3_useControl_84 ?_
        refine lv_iconst (v := (4 : Int32)) hx hb dX3_useControl_87 (by decide) ?_
        refine lv_iadd hx hb dX3_useControl_88 ?_
        refine va_put (D := D) (ci := 2) (v := .int (o3.2.2.2.2.1 + (4 : Int32))) (ty := .int) (C := RX3) (T := TX3) (N := 9) hx hb hts (by decide +kernel) tyX3 tyX3_ok nmX3 hown hK hP hD hS 0 rfl rfl 4 (by decide) (hts (.fieldLink RX3 54 "TrapMachine" "place" "I") (by decide +kernel)) (fun _ h9 => h9) rfl (by decide +kernel) rfl rfl (Nat.le_of_ble_eq_true rfl) dX3_useControl_89 (fun H locs hP hD hS => ?_)
        have hP : va_P D vwCl (wT k q (ts4 o3 (o3.2.2.2.2.1 + (4 : Int32)))) H := hP
        have hD : va_D (in_W (wT k q u)) (wT k q (ts4 o3 (o3.2.2.2.2.1 + (4 : Int32)))) := hD
        exact W.vret hx hb hr (wr_end rfl (congrArg (wT k q) ((show fX3_useControl u a1 a2 = (ts4 o3 (o3.2.2.2.2.1 + (4 : Int32))) from (by subst h_o2; subst h_o3; exact (if_pos c_8).trans ((if_neg c_31).trans ((if_pos c_54).trans rfl)))).symm.trans ho)) hP hS) hS.2.2 dX3_useControl_92
    · refine lv_aload_n hx hb dX3_useControl_34 rfl (lv_at hl 2 rfl) ?_
      refine va_get (D := D) (ci := 2) (v := .ref (q 3)) (C := RX3) (T := TX3) (N := 9) hx hb hts (by decide +kernel) hown hK hP 0 rfl rfl 2 (by decide) (hts (.fieldLink RX3 19 "TrapMachine" "controls" "LTrapMachine$Controls;") (by decide +kernel)) (fun _ h9 => h9) rfl dX3_useControl_35 ?_
      refine lv_iload_n hx hb dX3_useControl_38 rfl (lv_at hl 1 rfl) ?_
      refine lv_aload_n hx hb dX3_useControl_39 rfl (lv_at hl 2 rfl) ?_
      refine lv_iload_n hx hb dX3_useControl_40 rfl (lv_at hl 4 rfl) ?_
      refine rd_call (r := (fX3_valueA u a2)) (W.runV (C := RX3) (b := (q 0)) (As := [.int a2]) (rest := [.int (fX3_byteC a2), .ref (q 3)]) ⟨hx, hb, hml, hown, hts⟩ (kX3_valueA l D k q u a2) (cwV 1 hts gX3_useControl_X3_valueA rfl rfl rfl (by decide +kernel) ⟨Nat.le_of_ble_eq_true rfl, Nat.le_of_ble_eq_true rfl⟩) (rd_preV bl_T pr_T hK hP (va_recv hK hP (ci := 2) (q0 := 0) rfl rfl)) rfl rfl hl.1 rfl (lv_room (Nat.le_of_ble_eq_true rfl)) dX3_useControl_41 ⟨Nat.zero_le _, Nat.zero_le _⟩) ?_
      refine lv_iconst (v := (-1 : Int32)) hx hb dX3_useControl_44 (by decide) ?_
      obtain ⟨o4, h_o4⟩ : ∃ o9, (fX2_write u.2.2.1 (fX3_byteC a2) (fX3_valueA u a2) (-1 : Int32)) = o9 := ⟨_, rfl⟩
      refine wr_call (r := none) (ws' := wT k q (ts2 u o4)) (va_runVN (C := RX2) (b := (q 3)) (As := [.int (fX3_byteC a2), .int (fX3_valueA u a2), .int (-1 : Int32)]) (rest := []) ⟨hx, hb, hml, hown, hts⟩ (kX2_write l D k (q 3) (q 4) u.2.2.1 tC tL (fX3_byteC a2) (fX3_valueA u a2) (-1 : Int32) (byteC_in c_8) o4 h_o4) ⟨va_cnB 3 hts gX3_useControl_X2_write_n171 rfl rfl rfl (hX.1.at 9 (q := (171, yX2_write)) rfl) (hts (.initialized RX2) (by decide +kernel)) (by decide +kernel) ⟨Nat.le_of_ble_eq_true rfl, Nat.le_of_ble_eq_true rfl⟩, (hts (.instanceMethod yX2_write) (by decide +kernel)), (hts (.selects RX2 yX2_write yX2_write) (by decide +kernel))⟩ (wr_preV bl_S (pr_S (ws := wT k q u) hX.2 hS (in_sub (ws := wT k q u) [3, 4] subTC adrT)) hK (show va_P D vwCl (wC k (q 3) (q 4) u.2.2.1) _ from hP.sub [3, 4] fmTC) (show va_D (in_W (wT k q u)) (wC k (q 3) (q 4) u.2.2.1) from hD.sub [3, 4] (by decide) subTC) (va_recv hK (show va_P D vwCl (wC k (q 3) (q 4) u.2.2.1) _ from hP.sub [3, 4] fmTC) (ci := 1) (q0 := 0) rfl rfl)) rfl rfl hl.1 rfl (lv_room (Nat.le_of_ble_eq_true rfl)) dX3_useControl_45 ⟨Nat.zero_le _, Nat.zero_le _⟩).run hP hD hS [3, 4] [0, 1, 2, 5, 6, 7, 8, 9, 10] [0, 1, 2, 9, 10, 3, 4, 5, 6, 7, 8] subTC (by decide) putTC adrT (fun H locs hP hD hS => ?_)
      refine lv_goto (tgt := 75) hx hb dX3_useControl_48 (by decide) ?_
      refine lv_aload_n hx hb dX3_useControl_75 rfl (lv_at hl 2 rfl) ?_
      refine lv_iload_n hx hb dX3_useControl_76 rfl (lv_at hl 4 rfl) ?_
      refine lv_iload hx hb dX3_useControl_77 (lv_at hl 0 rfl) ?_
      obtain ⟨o5, h_o5⟩ : ∃ o9, (fX3_setA (ts2 u o4) a2 (fX2_get u.2.2.1 (fX3_byteC a2))) = o9 := ⟨_, rfl⟩
      refine wr_call (r := none) (ws' := wT k q o5) (W.runV (C := RX3) (b := (q 0)) (As := [.int a2, .int (fX2_get u.2.2.1 (fX3_byteC a2))]) (rest := []) ⟨hx, hb, hml, hown, hts⟩ (kX3_setA l D k q (ts2 u o4) a2 (fX2_get u.2.2.1 (fX3_byteC a2)) o5 h_o5) (cwV 2 hts gX3_useControl_X3_setA rfl rfl rfl (by decide +kernel) ⟨Nat.le_of_ble_eq_true rfl, Nat.le_of_ble_eq_true rfl⟩) (wr_preV bl_T pr_T hK hP hD (va_recv hK hP (ci := 2) (q0 := 0) rfl rfl)) rfl rfl hl.1 rfl (lv_room (Nat.le_of_ble_eq_true rfl)) dX3_useControl_79 ⟨Nat.zero_le _, Nat.zero_le _⟩) hP hD hS [0, 1, 2, 3, 4, 5, 6, 7, 8, 9, 10] [] [0, 1, 2, 3, 4, 5, 6, 7, 8, 9, 10] allT (by decide) prmT adrT (fun H locs hP hD hS => ?_)
      refine lv_aload_n hx hb dX3_useControl_82 rfl (lv_at hl 2 rfl) ?_
      refine lv_dup hx hb dX3_useControl_83 rfl ?_
      refine va_get (D := D) (ci := 2) (v := .int o5.2.2.2.2.1) (C := RX3) (T := TX3) (N := 9) hx hb hts (by decide +kernel) hown hK hP 0 rfl rfl 4 (by decide) (hts (.fieldLink RX3 54 "TrapMachine" "place" "I") (by decide +kernel)) (fun _ h9 => h9) rfl dX3_useControl_84 ?_
      refine lv_iconst (v := (4 : Int32)) hx hb dX3_useControl_87 (by decide) ?_
      refine lv_iadd hx hb dX3_useControl_88 ?_
      refine va_put (D := D) (ci := 2) (v := .int (o5.2.2.2.2.1 + (4 : Int32))) (ty := .int) (C := RX3) (T := TX3) (N := 9) hx hb hts (by decide +kernel) tyX3 tyX3_ok nmX3 hown hK hP hD hS 0 rfl rfl 4 (by decide) (hts (.fieldLink RX3 54 "TrapMachine" "place" "I") (by decide +kernel)) (fun _ h9 => h9) rfl (by decide +kernel) rfl rfl (Nat.le_of_ble_eq_true rfl) dX3_useControl_89 (fun H locs hP hD hS => ?_)
      have hP : va_P D vwCl (wT k q (ts4 o5 (o5.2.2.2.2.1 + (4 : Int32)))) H := hP
      have hD : va_D (in_W (wT k q u)) (wT k q (ts4 o5 (o5.2.2.2.2.1 + (4 : Int32)))) := hD
      exact W.vret hx hb hr (wr_end rfl (congrArg (wT k q) ((show fX3_useControl u a1 a2 = (ts4 o5 (o5.2.2.2.2.1 + (4 : Int32))) from (by subst h_o4; subst h_o5; exact (if_pos c_8).trans ((if_pos c_31).trans rfl))).symm.trans ho)) hP hS) hS.2.2 dX3_useControl_92
  · refine lv_aload_n hx hb dX3_useControl_11 rfl (lv_at hl 1 rfl) ?_
    refine lv_bipush (v := (13 : Int32)) hx hb dX3_useControl_12 (by decide) ?_
    obtain ⟨o6, h_o6⟩ : ∃ o9, (fX3_raise u (13 : Int32)) = o9 := ⟨_, rfl⟩
    refine wr_call (r := none) (ws' := wT k q o6) (W.runV (C := RX3) (b := (q 0)) (As := [.int (13 : Int32)]) (rest := []) ⟨hx, hb, hml, hown, hts⟩ (kX3_raise l D k q u (13 : Int32) o6 h_o6) (cwV 1 hts gX3_useControl_X3_raise rfl rfl rfl (by decide +kernel) ⟨Nat.le_of_ble_eq_true rfl, Nat.le_of_ble_eq_true rfl⟩) (wr_preV bl_N (pr_N hX.1) hK hP hD (va_recv hK hP (ci := 2) (q0 := 0) rfl rfl)) rfl rfl hl.1 rfl (lv_room (Nat.le_of_ble_eq_true rfl)) dX3_useControl_14 ⟨Nat.zero_le _, Nat.zero_le _⟩) hP hD hS [0, 1, 2, 3, 4, 5, 6, 7, 8, 9, 10] [] [0, 1, 2, 3, 4, 5, 6, 7, 8, 9, 10] allT (by decide) prmT adrT (fun H locs hP hD hS => ?_)
    exact W.vret hx hb hr (wr_end rfl (congrArg (wT k q) ((show fX3_useControl u a1 a2 = o6 from (by subst h_o6; exact (if_neg c_8).trans rfl)).symm.trans ho)) hP hS) hS.2.2 dX3_useControl_17
def fX3_goBack (u : TM)  : TM :=
  (ts5 (ts4 (ts2 u (fX2_leave u.2.2.1)) (fX2_get (fX2_leave u.2.2.1) (4 : Int32))) (0 : Int32))
set_option maxHeartbeats 4000000 in
set_option maxRecDepth 100000 in
theorem kX3_goBack (l : Launch) (D : va_G) (k : Nat → ClassId) (q : Nat → Nat) (u : TM)   (o : TM) (ho : fX3_goBack u = o) : Met l yX3_goBack wsX3_goBack { frames := 2, cells := 0, slots := 0, locals := 40 } (wr_P D vwCl (tyL k) (wT k q u) NL [.ref (q 0)]) (wr_Q D vwCl none (wT k q u) (wT k q o)) 0 0 (in_W (wT k q u)) := by
  refine Met.ofW (cc := cX3_goBack) (maxL := 1) (ret := none) (by decide) rfl ?_
  intro p e s m args below meth c s₁ B hml hv0
  obtain ⟨rfl, hP, hK, hX, hD0⟩ := hv0
  have hx := B.exec
  have hb := B.bytes
  have hr := B.returns
  have hts := atoms_spec (ws := wsX3_goBack) B.pre
  have hown : s.vm.findClass RX3 = some m.cls := findClass_of_methodNamed B.named
  have hlocks := B.notSynchronized
  have hD : va_D (in_W (wT k q u)) (wT k q u) := wD_self hD0
  have hS : va_S (in_W (wT k q u)) s.heap s.heap [] := va_S.rf
  have hl := lv_entry ([.ref (q 0)]) (n := 1) (Nat.le_of_ble_eq_true rfl)
  rw [lg_entry_eq]
  generalize (lg_sl ([.ref (q 0)]) ++ List.replicate (1 - (lg_sl ([.ref (q 0)])).length) Slot.unset).toArray = ls at hl ⊢
  have hl : lv_has ls 1 [(0, .ref (q 0))] := hl
  refine lv_aload_n hx hb dX3_goBack_0 rfl (lv_at hl 0 rfl) ?_
  refine va_get (D := D) (ci := 2) (v := .ref (q 3)) (C := RX3) (T := TX3) (N := 9) hx hb hts (by decide +kernel) hown hK hP 0 rfl rfl 2 (by decide) (hts (.fieldLink RX3 19 "TrapMachine" "controls" "LTrapMachine$Controls;") (by decide +kernel)) (fun _ h9 => h9) rfl dX3_goBack_1 ?_
  obtain ⟨o1, h_o1⟩ : ∃ o9, (fX2_leave u.2.2.1) = o9 := ⟨_, rfl⟩
  refine wr_call (r := none) (ws' := wT k q (ts2 u o1)) (va_runVN (C := RX2) (b := (q 3)) (As := []) (rest := []) ⟨hx, hb, hml, hown, hts⟩ (kX2_leave l D k (q 3) (q 4) u.2.2.1 o1 h_o1) ⟨va_cnB 0 hts gX3_goBack_X2_leave_n175 rfl rfl rfl (hX.at 10 (q := (175, yX2_leave)) rfl) (hts (.initialized RX2) (by decide +kernel)) (by decide +kernel) ⟨Nat.le_of_ble_eq_true rfl, Nat.le_of_ble_eq_true rfl⟩, (hts (.instanceMethod yX2_leave) (by decide +kernel)), (hts (.selects RX2 yX2_leave yX2_leave) (by decide +kernel))⟩ (wr_preV bl_T pr_T hK (show va_P D vwCl (wC k (q 3) (q 4) u.2.2.1) _ from hP.sub [3, 4] fmTC) (show va_D (in_W (wT k q u)) (wC k (q 3) (q 4) u.2.2.1) from hD.sub [3, 4] (by decide) subTC) (va_recv hK (show va_P D vwCl (wC k (q 3) (q 4) u.2.2.1) _ from hP.sub [3, 4] fmTC) (ci := 1) (q0 := 0) rfl rfl)) rfl rfl hl.1 rfl (lv_room (Nat.le_of_ble_eq_true rfl)) dX3_goBack_4 ⟨Nat.zero_le _, Nat.zero_le _⟩).run hP hD hS [3, 4] [0, 1, 2, 5, 6, 7, 8, 9, 10] [0, 1, 2, 9, 10, 3, 4, 5, 6, 7, 8] subTC (by decide) putTC adrT (fun H locs hP hD hS => ?_)
  refine lv_aload_n hx hb dX3_goBack_7 rfl (lv_at hl 0 rfl) ?_
  refine lv_aload_n hx hb dX3_goBack_8 rfl (lv_at hl 0 rfl) ?_
  refine va_get (D := D) (ci := 2) (v := .ref (q 3)) (C := RX3) (T := TX3) (N := 9) hx hb hts (by decide +kernel) hown hK hP 0 rfl rfl 2 (by decide) (hts (.fieldLink RX3 19 "TrapMachine" "controls" "LTrapMachine$Controls;") (by decide +kernel)) (fun _ h9 => h9) rfl dX3_goBack_9 ?_
  refine lv_iconst (v := (4 : Int32)) hx hb dX3_goBack_12 (by decide) ?_
  refine rd_call (r := (fX2_get o1 (4 : Int32))) (va_runVN (C := RX2) (b := (q 3)) (As := [.int (4 : Int32)]) (rest := [.ref (q 0)]) ⟨hx, hb, hml, hown, hts⟩ (kX2_get l D k (q 3) (q 4) o1 (4 : Int32) (vi_k (by decide))) ⟨va_cnB 1 hts gX3_goBack_X2_get_n77 rfl rfl rfl (hX.at 3 (q := (77, yX2_get)) rfl) (hts (.initialized RX2) (by decide +kernel)) (by decide +kernel) ⟨Nat.le_of_ble_eq_true rfl, Nat.le_of_ble_eq_true rfl⟩, (hts (.instanceMethod yX2_get) (by decide +kernel)), (hts (.selects RX2 yX2_get yX2_get) (by decide +kernel))⟩ (rd_preV bl_T pr_T hK (show va_P D vwCl (wC k (q 3) (q 4) o1) _ from hP.sub [3, 4] fmTC) (va_recv hK (show va_P D vwCl (wC k (q 3) (q 4) o1) _ from hP.sub [3, 4] fmTC) (ci := 1) (q0 := 0) rfl rfl)) rfl rfl hl.1 rfl (lv_room (Nat.le_of_ble_eq_true rfl)) dX3_goBack_13 ⟨Nat.zero_le _, Nat.zero_le _⟩).run ?_
  refine va_put (D := D) (ci := 2) (v := .int (fX2_get o1 (4 : Int32))) (ty := .int) (C := RX3) (T := TX3) (N := 9) hx hb hts (by decide +kernel) tyX3 tyX3_ok nmX3 hown hK hP hD hS 0 rfl rfl 4 (by decide) (hts (.fieldLink RX3 54 "TrapMachine" "place" "I") (by decide +kernel)) (fun _ h9 => h9) rfl (by decide +kernel) rfl rfl (Nat.le_of_ble_eq_true rfl) dX3_goBack_16 (fun H locs hP hD hS => ?_)
  have hP : va_P D vwCl (wT k q (ts4 (ts2 u o1) (fX2_get o1 (4 : Int32)))) H := hP
  have hD : va_D (in_W (wT k q u)) (wT k q (ts4 (ts2 u o1) (fX2_get o1 (4 : Int32)))) := hD
  refine lv_aload_n hx hb dX3_goBack_19 rfl (lv_at hl 0 rfl) ?_
  refine lv_iconst (v := (0 : Int32)) hx hb dX3_goBack_20 (by decide) ?_
  refine va_put (D := D) (ci := 2) (v := .int (0 : Int32)) (ty := .boolean) (C := RX3) (T := TX3) (N := 9) hx hb hts (by decide +kernel) tyX3 tyX3_ok nmX3 hown hK hP hD hS 0 rfl rfl 5 (by decide) (hts (.fieldLink RX3 72 "TrapMachine" "linked" "Z") (by decide +kernel)) (fun _ h9 => h9) rfl (by decide +kernel) rfl rfl (Nat.le_of_ble_eq_true rfl) dX3_goBack_21 (fun H locs hP hD hS => ?_)
  have hP : va_P D vwCl (wT k q (ts5 (ts4 (ts2 u o1) (fX2_get o1 (4 : Int32))) (0 : Int32))) H := hP
  have hD : va_D (in_W (wT k q u)) (wT k q (ts5 (ts4 (ts2 u o1) (fX2_get o1 (4 : Int32))) (0 : Int32))) := hD
  exact W.vret hx hb hr (wr_end rfl (congrArg (wT k q) ((show fX3_goBack u = (ts5 (ts4 (ts2 u o1) (fX2_get o1 (4 : Int32))) (0 : Int32)) from (by subst h_o1; exact rfl)).symm.trans ho)) hP hS) hS.2.2 dX3_goBack_24
def fX3_searchEntry (u : TM)  : TM :=
  if (0 : Int32) ≤ (fX0_find u.2.2.2.1 (iu (fX2_get u.2.2.1 (8 : Int32)) (7 : Int32)) (fX2_get u.2.2.1 (11 : Int32)) (0 : Int32)) then
    (ts2 u (fX2_set u.2.2.1 (7 : Int32) (fX0_find u.2.2.2.1 (iu (fX2_get u.2.2.1 (8 : Int32)) (7 : Int32)) (fX2_get u.2.2.1 (11 : Int32)) (0 : Int32))))
  else
    (ts2 u (fX2_setEmpty u.2.2.1 (1 : Int32)))
set_option maxHeartbeats 4000000 in
set_option maxRecDepth 100000 in
theorem kX3_searchEntry (l : Launch) (D : va_G) (k : Nat → ClassId) (q : Nat → Nat) (u : TM)   (o : TM) (ho : fX3_searchEntry u = o) : Met l yX3_searchEntry wsX3_searchEntry { frames := 1, cells := 0, slots := 0, locals := 26 } (wr_P D vwCl (tyL k) (wT k q u) NL [.ref (q 0)]) (wr_Q D vwCl none (wT k q u) (wT k q o)) 0 0 (in_W (wT k q u)) := by
  refine Met.ofW (cc := cX3_searchEntry) (maxL := 3) (ret := none) (by decide) rfl ?_
  intro p e s m args below meth c s₁ B hml hv0
  obtain ⟨rfl, hP, hK, hX, hD0⟩ := hv0
  have hx := B.exec
  have hb := B.bytes
  have hr := B.returns
  have hts := atoms_spec (ws := wsX3_searchEntry) B.pre
  have hown : s.vm.findClass RX3 = some m.cls := findClass_of_methodNamed B.named
  have hlocks := B.notSynchronized
  have hD : va_D (in_W (wT k q u)) (wT k q u) := wD_self hD0
  have hS : va_S (in_W (wT k q u)) s.heap s.heap [] := va_S.rf
  have hl := lv_entry ([.ref (q 0)]) (n := 3) (Nat.le_of_ble_eq_true rfl)
  rw [lg_entry_eq]
  generalize (lg_sl ([.ref (q 0)]) ++ List.replicate (3 - (lg_sl ([.ref (q 0)])).length) Slot.unset).toArray = ls at hl ⊢
  have hl : lv_has ls 3 [(0, .ref (q 0))] := hl
  refine lv_aload_n hx hb dX3_searchEntry_0 rfl (lv_at hl 0 rfl) ?_
  refine va_get (D := D) (ci := 2) (v := .ref (q 3)) (C := RX3) (T := TX3) (N := 9) hx hb hts (by decide +kernel) hown hK hP 0 rfl rfl 2 (by decide) (hts (.fieldLink RX3 19 "TrapMachine" "controls" "LTrapMachine$Controls;") (by decide +kernel)) (fun _ h9 => h9) rfl dX3_searchEntry_1 ?_
  refine lv_bipush (v := (8 : Int32)) hx hb dX3_searchEntry_4 (by decide) ?_
  refine rd_call (r := (fX2_get u.2.2.1 (8 : Int32))) (va_runVN (C := RX2) (b := (q 3)) (As := [.int (8 : Int32)]) (rest := []) ⟨hx, hb, hml, hown, hts⟩ (kX2_get l D k (q 3) (q 4) u.2.2.1 (8 : Int32) (vi_k (by decide))) ⟨va_cnB 1 hts gX3_searchEntry_X2_get_n77 rfl rfl rfl (hX.at 3 (q := (77, yX2_get)) rfl) (hts (.initialized RX2) (by decide +kernel)) (by decide +kernel) ⟨Nat.le_of_ble_eq_true rfl, Nat.le_of_ble_eq_true rfl⟩, (hts (.instanceMethod yX2_get) (by decide +kernel)), (hts (.selects RX2 yX2_get yX2_get) (by decide +kernel))⟩ (rd_preV bl_T pr_T hK (show va_P D vwCl (wC k (q 3) (q 4) u.2.2.1) _ from hP.sub [3, 4] fmTC) (va_recv hK (show va_P D vwCl (wC k (q 3) (q 4) u.2.2.1) _ from hP.sub [3, 4] fmTC) (ci := 1) (q0 := 0) rfl rfl)) rfl rfl hl.1 rfl (lv_room (Nat.le_of_ble_eq_true rfl)) dX3_searchEntry_6 ⟨Nat.zero_le _, Nat.zero_le _⟩).run ?_
  refine lv_bipush (v := (7 : Int32)) hx hb dX3_searchEntry_9 (by decide) ?_
  refine lv_iushr (v := (iu (fX2_get u.2.2.1 (8 : Int32)) (7 : Int32))) hx hb dX3_searchEntry_11 rfl ?_
  refine lv_istore_n (lv' := [(1, .int (iu (fX2_get u.2.2.1 (8 : Int32)) (7 : Int32))), (0, .ref (q 0))]) hx hb dX3_searchEntry_12 rfl hl (by decide) rfl (fun ls hl => ?_)
  refine lv_aload_n hx hb dX3_searchEntry_13 rfl (lv_at hl 1 rfl) ?_
  refine va_get (D := D) (ci := 2) (v := .ref (q 5)) (C := RX3) (T := TX3) (N := 9) hx hb hts (by decide +kernel) hown hK hP 0 rfl rfl 3 (by decide) (hts (.fieldLink RX3 26 "TrapMachine" "buffer" "LTrapMachine$Buffer;") (by decide +kernel)) (fun _ h9 => h9) rfl dX3_searchEntry_14 ?_
  refine lv_iload_n hx hb dX3_searchEntry_17 rfl (lv_at hl 0 rfl) ?_
  refine lv_aload_n hx hb dX3_searchEntry_18 rfl (lv_at hl 1 rfl) ?_
  refine va_get (D := D) (ci := 2) (v := .ref (q 3)) (C := RX3) (T := TX3) (N := 9) hx hb hts (by decide +kernel) hown hK hP 0 rfl rfl 2 (by decide) (hts (.fieldLink RX3 19 "TrapMachine" "controls" "LTrapMachine$Controls;") (by decide +kernel)) (fun _ h9 => h9) rfl dX3_searchEntry_19 ?_
  refine lv_bipush (v := (11 : Int32)) hx hb dX3_searchEntry_22 (by decide) ?_
  refine rd_call (r := (fX2_get u.2.2.1 (11 : Int32))) (va_runVN (C := RX2) (b := (q 3)) (As := [.int (11 : Int32)]) (rest := [.int (iu (fX2_get u.2.2.1 (8 : Int32)) (7 : Int32)), .ref (q 5)]) ⟨hx, hb, hml, hown, hts⟩ (kX2_get l D k (q 3) (q 4) u.2.2.1 (11 : Int32) (vi_k (by decide))) ⟨va_cnB 1 hts gX3_searchEntry_X2_get_n77 rfl rfl rfl (hX.at 3 (q := (77, yX2_get)) rfl) (hts (.initialized RX2) (by decide +kernel)) (by decide +kernel) ⟨Nat.le_of_ble_eq_true rfl, Nat.le_of_ble_eq_true rfl⟩, (hts (.instanceMethod yX2_get) (by decide +kernel)), (hts (.selects RX2 yX2_get yX2_get) (by decide +kernel))⟩ (rd_preV bl_T pr_T hK (show va_P D vwCl (wC k (q 3) (q 4) u.2.2.1) _ from hP.sub [3, 4] fmTC) (va_recv hK (show va_P D vwCl (wC k (q 3) (q 4) u.2.2.1) _ from hP.sub [3, 4] fmTC) (ci := 1) (q0 := 0) rfl rfl)) rfl rfl hl.1 rfl (lv_room (Nat.le_of_ble_eq_true rfl)) dX3_searchEntry_24 ⟨Nat.zero_le _, Nat.zero_le _⟩).run ?_
  refine lv_iconst (v := (0 : Int32)) hx hb dX3_searchEntry_27 (by decide) ?_
  refine rd_call (r := (fX0_find u.2.2.2.1 (iu (fX2_get u.2.2.1 (8 : Int32)) (7 : Int32)) (fX2_get u.2.2.1 (11 : Int32)) (0 : Int32))) (va_runVN (C := RX0) (b := (q 5)) (As := [.int (iu (fX2_get u.2.2.1 (8 : Int32)) (7 : Int32)), .int (fX2_get u.2.2.1 (11 : Int32)), .int (0 : Int32)]) (rest := []) ⟨hx, hb, hml, hown, hts⟩ (kX0_find l D k (q 5) (q 6) (fun j => q (7 + j)) u.2.2.2.1 (iu (fX2_get u.2.2.1 (8 : Int32)) (7 : Int32)) (fX2_get u.2.2.1 (11 : Int32)) (0 : Int32) ⟨0, by omega, nI_0.symm⟩) ⟨va_cnB 3 hts gX3_searchEntry_X0_find_n187 rfl rfl rfl (hX.at 11 (q := (187, yX0_find)) rfl) (hts (.initialized RX0) (by decide +kernel)) (by decide +kernel) ⟨Nat.le_of_ble_eq_true rfl, Nat.le_of_ble_eq_true rfl⟩, (hts (.instanceMethod yX0_find) (by decide +kernel)), (hts (.selects RX0 yX0_find yX0_find) (by decide +kernel))⟩ (rd_preV bl_T pr_T hK (show va_P D vwCl (wB k (q 5) (q 6) (fun j => q (7 + j)) u.2.2.2.1) _ from hP.sub [5, 6, 7, 8, 9, 10] fmTB) (va_recv hK (show va_P D vwCl (wB k (q 5) (q 6) (fun j => q (7 + j)) u.2.2.2.1) _ from hP.sub [5, 6, 7, 8, 9, 10] fmTB) (ci := 0) (q0 := 0) rfl rfl)) rfl rfl hl.1 rfl (lv_room (Nat.le_of_ble_eq_true rfl)) dX3_searchEntry_28 ⟨Nat.zero_le _, Nat.zero_le _⟩).run ?_
  refine lv_istore_n (lv' := [(2, .int (fX0_find u.2.2.2.1 (iu (fX2_get u.2.2.1 (8 : Int32)) (7 : Int32)) (fX2_get u.2.2.1 (11 : Int32)) (0 : Int32))), (1, .int (iu (fX2_get u.2.2.1 (8 : Int32)) (7 : Int32))), (0, .ref (q 0))]) hx hb dX3_searchEntry_31 rfl hl (by decide) rfl (fun ls hl => ?_)
  refine lv_iload_n hx hb dX3_searchEntry_32 rfl (lv_at hl 0 rfl) ?_
  refine lv_if_ge (tgt := 47) hx hb dX3_searchEntry_33 (by decide) (fun c_33 => ?_) (fun c_33 => ?_)
  · refine lv_aload_n hx hb dX3_searchEntry_47 rfl (lv_at hl 2 rfl) ?_
    refine va_get (D := D) (ci := 2) (v := .ref (q 3)) (C := RX3) (T := TX3) (N := 9) hx hb hts (by decide +kernel) hown hK hP 0 rfl rfl 2 (by decide) (hts (.fieldLink RX3 19 "TrapMachine" "controls" "LTrapMachine$Controls;") (by decide +kernel)) (fun _ h9 => h9) rfl dX3_searchEntry_48 ?_
    refine lv_bipush (v := (7 : Int32)) hx hb dX3_searchEntry_51 (by decide) ?_
    refine lv_iload_n hx hb dX3_searchEntry_53 rfl (lv_at hl 0 rfl) ?_
    obtain ⟨o1, h_o1⟩ : ∃ o9, (fX2_set u.2.2.1 (7 : Int32) (fX0_find u.2.2.2.1 (iu (fX2_get u.2.2.1 (8 : Int32)) (7 : Int32)) (fX2_get u.2.2.1 (11 : Int32)) (0 : Int32))) = o9 := ⟨_, rfl⟩
    refine wr_call (r := none) (ws' := wT k q (ts2 u o1)) (va_runVN (C := RX2) (b := (q 3)) (As := [.int (7 : Int32), .int (fX0_find u.2.2.2.1 (iu (fX2_get u.2.2.1 (8 : Int32)) (7 : Int32)) (fX2_get u.2.2.1 (11 : Int32)) (0 : Int32))]) (rest := []) ⟨hx, hb, hml, hown, hts⟩ (kX2_set l D k (q 3) (q 4) u.2.2.1 (7 : Int32) (fX0_find u.2.2.2.1 (iu (fX2_get u.2.2.1 (8 : Int32)) (7 : Int32)) (fX2_get u.2.2.1 (11 : Int32)) (0 : Int32)) (vi_k (by decide)) o1 h_o1) ⟨va_cnB 2 hts gX3_searchEntry_X2_set_n194 rfl rfl rfl (hX.at 13 (q := (194, yX2_set)) rfl) (hts (.initialized RX2) (by decide +kernel)) (by decide +kernel) ⟨Nat.le_of_ble_eq_true rfl, Nat.le_of_ble_eq_true rfl⟩, (hts (.instanceMethod yX2_set) (by decide +kernel)), (hts (.selects RX2 yX2_set yX2_set) (by decide +kernel))⟩ (wr_preV bl_T pr_T hK (show va_P D vwCl (wC k (q 3) (q 4) u.2.2.1) _ from hP.sub [3, 4] fmTC) (show va_D (in_W (wT k q u)) (wC k (q 3) (q 4) u.2.2.1) from hD.sub [3, 4] (by decide) subTC) (va_recv hK (show va_P D vwCl (wC k (q 3) (q 4) u.2.2.1) _ from hP.sub [3, 4] fmTC) (ci := 1) (q0 := 0) rfl rfl)) rfl rfl hl.1 rfl (lv_room (Nat.le_of_ble_eq_true rfl)) dX3_searchEntry_54 ⟨Nat.zero_le _, Nat.zero_le _⟩).run hP hD hS [3, 4] [0, 1, 2, 5, 6, 7, 8, 9, 10] [0, 1, 2, 9, 10, 3, 4, 5, 6, 7, 8] subTC (by decide) putTC adrT (fun H locs hP hD hS => ?_)
    exact W.vret hx hb hr (wr_end rfl (congrArg (wT k q) ((show fX3_searchEntry u = (ts2 u o1) from (by subst h_o1; exact (if_pos c_33).trans rfl)).symm.trans ho)) hP hS) hS.2.2 dX3_searchEntry_57
  · refine lv_aload_n hx hb dX3_searchEntry_36 rfl (lv_at hl 2 rfl) ?_
    refine va_get (D := D) (ci := 2) (v := .ref (q 3)) (C := RX3) (T := TX3) (N := 9) hx hb hts (by decide +kernel) hown hK hP 0 rfl rfl 2 (by decide) (hts (.fieldLink RX3 19 "TrapMachine" "controls" "LTrapMachine$Controls;") (by decide +kernel)) (fun _ h9 => h9) rfl dX3_searchEntry_37 ?_
    refine lv_iconst (v := (1 : Int32)) hx hb dX3_searchEntry_40 (by decide) ?_
    obtain ⟨o2, h_o2⟩ : ∃ o9, (fX2_setEmpty u.2.2.1 (1 : Int32)) = o9 := ⟨_, rfl⟩
    refine wr_call (r := none) (ws' := wT k q (ts2 u o2)) (va_runVN (C := RX2) (b := (q 3)) (As := [.int (1 : Int32)]) (rest := []) ⟨hx, hb, hml, hown, hts⟩ (kX2_setEmpty l D k (q 3) (q 4) u.2.2.1 (1 : Int32) o2 h_o2) ⟨va_cnB 1 hts gX3_searchEntry_X2_setEmpty_n190 rfl rfl rfl (hX.at 12 (q := (190, yX2_setEmpty)) rfl) (hts (.initialized RX2) (by decide +kernel)) (by decide +kernel) ⟨Nat.le_of_ble_eq_true rfl, Nat.le_of_ble_eq_true rfl⟩, (hts (.instanceMethod yX2_setEmpty) (by decide +kernel)), (hts (.selects RX2 yX2_setEmpty yX2_setEmpty) (by decide +kernel))⟩ (wr_preV bl_T pr_T hK (show va_P D vwCl (wC k (q 3) (q 4) u.2.2.1) _ from hP.sub [3, 4] fmTC) (show va_D (in_W (wT k q u)) (wC k (q 3) (q 4) u.2.2.1) from hD.sub [3, 4] (by decide) subTC) (va_recv hK (show va_P D vwCl (wC k (q 3) (q 4) u.2.2.1) _ from hP.sub [3, 4] fmTC) (ci := 1) (q0 := 0) rfl rfl)) rfl rfl hl.1 rfl (lv_room (Nat.le_of_ble_eq_true rfl)) dX3_searchEntry_41 ⟨Nat.zero_le _, Nat.zero_le _⟩).run hP hD hS [3, 4] [0, 1, 2, 5, 6, 7, 8, 9, 10] [0, 1, 2, 9, 10, 3, 4, 5, 6, 7, 8] subTC (by decide) putTC adrT (fun H locs hP hD hS => ?_)
    refine lv_goto (tgt := 57) hx hb dX3_searchEntry_44 (by decide) ?_
    exact W.vret hx hb hr (wr_end rfl (congrArg (wT k q) ((show fX3_searchEntry u = (ts2 u o2) from (by subst h_o2; exact (if_neg c_33).trans rfl)).symm.trans ho)) hP hS) hS.2.2 dX3_searchEntry_57
def fX3_readEntry (u : TM) (a1 : Int32) : TM :=
  if (fX0_get u.2.2.2.1 a1 (0 : Int32)) = (1 : Int32) then
    if (fX0_get u.2.2.2.1 a1 (3 : Int32)) = (1 : Int32) then
      (ts2 (ts2 (ts2 (ts2 (ts2 u (fX2_setEmpty u.2.2.1 (0 : Int32))) (fX2_set (fX2_setEmpty u.2.2.1 (0 : Int32)) (8 : Int32) ((fX0_get u.2.2.2.1 a1 (1 : Int32)) <<< ((7 : Int32) &&& 31)))) (fX2_set (fX2_set (fX2_setEmpty u.2.2.1 (0 : Int32)) (8 : Int32) ((fX0_get u.2.2.2.1 a1 (1 : Int32)) <<< ((7 : Int32) &&& 31))) (9 : Int32) ((fX0_get u.2.2.2.1 a1 (4 : Int32)) ||| (16 : Int32)))) (fX2_set (fX2_set (fX2_set (fX2_setEmpty u.2.2.1 (0 : Int32)) (8 : Int32) ((fX0_get u.2.2.2.1 a1 (1 : Int32)) <<< ((7 : Int32) &&& 31))) (9 : Int32) ((fX0_get u.2.2.2.1 a1 (4 : Int32)) ||| (16 : Int32))) (10 : Int32) ((fX0_get u.2.2.2.1 a1 (5 : Int32)) ||| (16 : Int32)))) (fX2_set (fX2_set (fX2_set (fX2_set (fX2_setEmpty u.2.2.1 (0 : Int32)) (8 : Int32) ((fX0_get u.2.2.2.1 a1 (1 : Int32)) <<< ((7 : Int32) &&& 31))) (9 : Int32) ((fX0_get u.2.2.2.1 a1 (4 : Int32)) ||| (16 : Int32))) (10 : Int32) ((fX0_get u.2.2.2.1 a1 (5 : Int32)) ||| (16 : Int32))) (11 : Int32) (fX0_get u.2.2.2.1 a1 (2 : Int32))))
    else
      (ts2 (ts2 (ts2 (ts2 (ts2 u (fX2_setEmpty u.2.2.1 (0 : Int32))) (fX2_set (fX2_setEmpty u.2.2.1 (0 : Int32)) (8 : Int32) ((fX0_get u.2.2.2.1 a1 (1 : Int32)) <<< ((7 : Int32) &&& 31)))) (fX2_set (fX2_set (fX2_setEmpty u.2.2.1 (0 : Int32)) (8 : Int32) ((fX0_get u.2.2.2.1 a1 (1 : Int32)) <<< ((7 : Int32) &&& 31))) (9 : Int32) ((fX0_get u.2.2.2.1 a1 (4 : Int32)) ||| (0 : Int32)))) (fX2_set (fX2_set (fX2_set (fX2_setEmpty u.2.2.1 (0 : Int32)) (8 : Int32) ((fX0_get u.2.2.2.1 a1 (1 : Int32)) <<< ((7 : Int32) &&& 31))) (9 : Int32) ((fX0_get u.2.2.2.1 a1 (4 : Int32)) ||| (0 : Int32))) (10 : Int32) ((fX0_get u.2.2.2.1 a1 (5 : Int32)) ||| (0 : Int32)))) (fX2_set (fX2_set (fX2_set (fX2_set (fX2_setEmpty u.2.2.1 (0 : Int32)) (8 : Int32) ((fX0_get u.2.2.2.1 a1 (1 : Int32)) <<< ((7 : Int32) &&& 31))) (9 : Int32) ((fX0_get u.2.2.2.1 a1 (4 : Int32)) ||| (0 : Int32))) (10 : Int32) ((fX0_get u.2.2.2.1 a1 (5 : Int32)) ||| (0 : Int32))) (11 : Int32) (fX0_get u.2.2.2.1 a1 (2 : Int32))))
  else
    (ts2 (ts2 (ts2 (ts2 u (fX2_setEmpty u.2.2.1 (1 : Int32))) (fX2_set (fX2_setEmpty u.2.2.1 (1 : Int32)) (8 : Int32) (0 : Int32))) (fX2_set (fX2_set (fX2_setEmpty u.2.2.1 (1 : Int32)) (8 : Int32) (0 : Int32)) (9 : Int32) (0 : Int32))) (fX2_set (fX2_set (fX2_set (fX2_setEmpty u.2.2.1 (1 : Int32)) (8 : Int32) (0 : Int32)) (9 : Int32) (0 : Int32)) (10 : Int32) (0 : Int32)))
set_option maxHeartbeats 4000000 in
set_option maxRecDepth 100000 in
theorem kX3_readEntry (l : Launch) (D : va_G) (k : Nat → ClassId) (q : Nat → Nat) (u : TM) (a1 : Int32) (h1 : vp_in a1 4) (o : TM) (ho : fX3_readEntry u a1 = o) : Met l yX3_readEntry wsX3_readEntry { frames := 1, cells := 0, slots := 0, locals := 22 } (wr_P D vwCl (tyL k) (wT k q u) NL [.ref (q 0), .int a1]) (wr_Q D vwCl none (wT k q u) (wT k q o)) 0 0 (in_W (wT k q u)) := by
  refine Met.ofW (cc := cX3_readEntry) (maxL := 4) (ret := none) (by decide) rfl ?_
  intro p e s m args below meth c s₁ B hml hv0
  obtain ⟨rfl, hP, hK, hX, hD0⟩ := hv0
  have hx := B.exec
  have hb := B.bytes
  have hr := B.returns
  have hts := atoms_spec (ws := wsX3_readEntry) B.pre
  have hown : s.vm.findClass RX3 = some m.cls := findClass_of_methodNamed B.named
  have hlocks := B.notSynchronized
  have hD : va_D (in_W (wT k q u)) (wT k q u) := wD_self hD0
  have hS : va_S (in_W (wT k q u)) s.heap s.heap [] := va_S.rf
  have hl := lv_entry ([.ref (q 0), .int a1]) (n := 4) (Nat.le_of_ble_eq_true rfl)
  rw [lg_entry_eq]
  generalize (lg_sl ([.ref (q 0), .int a1]) ++ List.replicate (4 - (lg_sl ([.ref (q 0), .int a1])).length) Slot.unset).toArray = ls at hl ⊢
  have hl : lv_has ls 4 [(0, .ref (q 0)), (1, .int a1)] := hl
  refine lv_aload_n hx hb dX3_readEntry_0 rfl (lv_at hl 0 rfl) ?_
  refine va_get (D := D) (ci := 2) (v := .ref (q 5)) (C := RX3) (T := TX3) (N := 9) hx hb hts (by decide +kernel) hown hK hP 0 rfl rfl 3 (by decide) (hts (.fieldLink RX3 26 "TrapMachine" "buffer" "LTrapMachine$Buffer;") (by decide +kernel)) (fun _ h9 => h9) rfl dX3_readEntry_1 ?_
  refine lv_iload_n hx hb dX3_readEntry_4 rfl (lv_at hl 1 rfl) ?_
  refine lv_iconst (v := (0 : Int32)) hx hb dX3_readEntry_5 (by decide) ?_
  refine rd_call (r := (fX0_get u.2.2.2.1 a1 (0 : Int32))) (va_runVN (C := RX0) (b := (q 5)) (As := [.int a1, .int (0 : Int32)]) (rest := []) ⟨hx, hb, hml, hown, hts⟩ (kX0_get l D k (q 5) (q 6) (fun j => q (7 + j)) u.2.2.2.1 a1 (0 : Int32) h1 (vi_k (by decide))) ⟨va_cnB 2 hts gX3_readEntry_X0_get_n83 rfl rfl rfl (hX.at 4 (q := (83, yX0_get)) rfl) (hts (.initialized RX0) (by decide +kernel)) (by decide +kernel) ⟨Nat.le_of_ble_eq_true rfl, Nat.le_of_ble_eq_true rfl⟩, (hts (.instanceMethod yX0_get) (by decide +kernel)), (hts (.selects RX0 yX0_get yX0_get) (by decide +kernel))⟩ (rd_preV bl_T pr_T hK (show va_P D vwCl (wB k (q 5) (q 6) (fun j => q (7 + j)) u.2.2.2.1) _ from hP.sub [5, 6, 7, 8, 9, 10] fmTB) (va_recv hK (show va_P D vwCl (wB k (q 5) (q 6) (fun j => q (7 + j)) u.2.2.2.1) _ from hP.sub [5, 6, 7, 8, 9, 10] fmTB) (ci := 0) (q0 := 0) rfl rfl)) rfl rfl hl.1 rfl (lv_room (Nat.le_of_ble_eq_true rfl)) dX3_readEntry_6 ⟨Nat.zero_le _, Nat.zero_le _⟩).run ?_
  refine lv_iconst (v := (1 : Int32)) hx hb dX3_readEntry_9 (by decide) ?_
  refine lv_icmp_ne (tgt := 17) hx hb dX3_readEntry_10 (by decide) (fun c_10 => ?_) (fun c_10 => ?_)
  · refine lv_iconst (v := (0 : Int32)) hx hb dX3_readEntry_17 (by decide) ?_
    refine lv_istore_n (lv' := [(2, .int (0 : Int32)), (0, .ref (q 0)), (1, .int a1)]) hx hb dX3_readEntry_18 rfl hl (by decide) rfl (fun ls hl => ?_)
    refine lv_aload_n hx hb dX3_readEntry_19 rfl (lv_at hl 1 rfl) ?_
    refine va_get (D := D) (ci := 2) (v := .ref (q 3)) (C := RX3) (T := TX3) (N := 9) hx hb hts (by decide +kernel) hown hK hP 0 rfl rfl 2 (by decide) (hts (.fieldLink RX3 19 "TrapMachine" "controls" "LTrapMachine$Controls;") (by decide +kernel)) (fun _ h9 => h9) rfl dX3_readEntry_20 ?_
    refine lv_iload_n hx hb dX3_readEntry_23 rfl (lv_at hl 0 rfl) ?_
    refine lv_if_ne (tgt := 31) hx hb dX3_readEntry_24 (by decide) (fun c9 => absurd (by decide) c9) (fun _ => ?_)
    refine lv_iconst (v := (1 : Int32)) hx hb dX3_readEntry_27 (by decide) ?_
    refine lv_goto (tgt := 32) hx hb dX3_readEntry_28 (by decide) ?_
    obtain ⟨o1, h_o1⟩ : ∃ o9, (fX2_setEmpty u.2.2.1 (1 : Int32)) = o9 := ⟨_, rfl⟩
    refine wr_call (r := none) (ws' := wT k q (ts2 u o1)) (va_runVN (C := RX2) (b := (q 3)) (As := [.int (1 : Int32)]) (rest := []) ⟨hx, hb, hml, hown, hts⟩ (kX2_setEmpty l D k (q 3) (q 4) u.2.2.1 (1 : Int32) o1 h_o1) ⟨va_cnB 1 hts gX3_readEntry_X2_setEmpty_n190 rfl rfl rfl (hX.at 12 (q := (190, yX2_setEmpty)) rfl) (hts (.initialized RX2) (by decide +kernel)) (by decide +kernel) ⟨Nat.le_of_ble_eq_true rfl, Nat.le_of_ble_eq_true rfl⟩, (hts (.instanceMethod yX2_setEmpty) (by decide +kernel)), (hts (.selects RX2 yX2_setEmpty yX2_setEmpty) (by decide +kernel))⟩ (wr_preV bl_T pr_T hK (show va_P D vwCl (wC k (q 3) (q 4) u.2.2.1) _ from hP.sub [3, 4] fmTC) (show va_D (in_W (wT k q u)) (wC k (q 3) (q 4) u.2.2.1) from hD.sub [3, 4] (by decide) subTC) (va_recv hK (show va_P D vwCl (wC k (q 3) (q 4) u.2.2.1) _ from hP.sub [3, 4] fmTC) (ci := 1) (q0 := 0) rfl rfl)) rfl rfl hl.1 rfl (lv_room (Nat.le_of_ble_eq_true rfl)) dX3_readEntry_32 ⟨Nat.zero_le _, Nat.zero_le _⟩).run hP hD hS [3, 4] [0, 1, 2, 5, 6, 7, 8, 9, 10] [0, 1, 2, 9, 10, 3, 4, 5, 6, 7, 8] subTC (by decide) putTC adrT (fun H locs hP hD hS => ?_)
    refine lv_iload_n hx hb dX3_readEntry_35 rfl (lv_at hl 0 rfl) ?_
    refine lv_if_ne (tgt := 70) hx hb dX3_readEntry_36 (by decide) (fun c9 => absurd (by decide) c9) (fun _ => ?_)
    refine lv_aload_n hx hb dX3_readEntry_39 rfl (lv_at hl 1 rfl) ?_
    refine va_get (D := D) (ci := 2) (v := .ref (q 3)) (C := RX3) (T := TX3) (N := 9) hx hb hts (by decide +kernel) hown hK hP 0 rfl rfl 2 (by decide) (hts (.fieldLink RX3 19 "TrapMachine" "controls" "LTrapMachine$Controls;") (by decide +kernel)) (fun _ h9 => h9) rfl dX3_readEntry_40 ?_
    refine lv_bipush (v := (8 : Int32)) hx hb dX3_readEntry_43 (by decide) ?_
    refine lv_iconst (v := (0 : Int32)) hx hb dX3_readEntry_45 (by decide) ?_
    obtain ⟨o2, h_o2⟩ : ∃ o9, (fX2_set o1 (8 : Int32) (0 : Int32)) = o9 := ⟨_, rfl⟩
    refine wr_call (r := none) (ws' := wT k q (ts2 (ts2 u o1) o2)) (va_runVN (C := RX2) (b := (q 3)) (As := [.int (8 : Int32), .int (0 : Int32)]) (rest := []) ⟨hx, hb, hml, hown, hts⟩ (kX2_set l D k (q 3) (q 4) o1 (8 : Int32) (0 : Int32) (vi_k (by decide)) o2 h_o2) ⟨va_cnB 2 hts gX3_readEntry_X2_set_n194 rfl rfl rfl (hX.at 13 (q := (194, yX2_set)) rfl) (hts (.initialized RX2) (by decide +kernel)) (by decide +kernel) ⟨Nat.le_of_ble_eq_true rfl, Nat.le_of_ble_eq_true rfl⟩, (hts (.instanceMethod yX2_set) (by decide +kernel)), (hts (.selects RX2 yX2_set yX2_set) (by decide +kernel))⟩ (wr_preV bl_T pr_T hK (show va_P D vwCl (wC k (q 3) (q 4) o1) _ from hP.sub [3, 4] fmTC) (show va_D (in_W (wT k q u)) (wC k (q 3) (q 4) o1) from hD.sub [3, 4] (by decide) subTC) (va_recv hK (show va_P D vwCl (wC k (q 3) (q 4) o1) _ from hP.sub [3, 4] fmTC) (ci := 1) (q0 := 0) rfl rfl)) rfl rfl hl.1 rfl (lv_room (Nat.le_of_ble_eq_true rfl)) dX3_readEntry_46 ⟨Nat.zero_le _, Nat.zero_le _⟩).run hP hD hS [3, 4] [0, 1, 2, 5, 6, 7, 8, 9, 10] [0, 1, 2, 9, 10, 3, 4, 5, 6, 7, 8] subTC (by decide) putTC adrT (fun H locs hP hD hS => ?_)
    refine lv_aload_n hx hb dX3_readEntry_49 rfl (lv_at hl 1 rfl) ?_
    refine va_get (D := D) (ci := 2) (v := .ref (q 3)) (C := RX3) (T := TX3) (N := 9) hx hb hts (by decide +kernel) hown hK hP 0 rfl rfl 2 (by decide) (hts (.fieldLink RX3 19 "TrapMachine" "controls" "LTrapMachine$Controls;") (by decide +kernel)) (fun _ h9 => h9) rfl dX3_readEntry_50 ?_
    refine lv_bipush (v := (9 : Int32)) hx hb dX3_readEntry_53 (by decide) ?_
    refine lv_iconst (v := (0 : Int32)) hx hb dX3_readEntry_55 (by decide) ?_
    obtain ⟨o3, h_o3⟩ : ∃ o9, (fX2_set o2 (9 : Int32) (0 : Int32)) = o9 := ⟨_, rfl⟩
    refine wr_call (r := none) (ws' := wT k q (ts2 (ts2 (ts2 u o1) o2) o3)) (va_runVN (C := RX2) (b := (q 3)) (As := [.int (9 : Int32), .int (0 : Int32)]) (rest := []) ⟨hx, hb, hml, hown, hts⟩ (kX2_set l D k (q 3) (q 4) o2 (9 : Int32) (0 : Int32) (vi_k (by decide)) o3 h_o3) ⟨va_cnB 2 hts gX3_readEntry_X2_set_n194 rfl rfl rfl (hX.at 13 (q := (194, yX2_set)) rfl) (hts (.initialized RX2) (by decide +kernel)) (by decide +kernel) ⟨Nat.le_of_ble_eq_true rfl, Nat.le_of_ble_eq_true rfl⟩, (hts (.instanceMethod yX2_set) (by decide +kernel)), (hts (.selects RX2 yX2_set yX2_set) (by decide +kernel))⟩ (wr_preV bl_T pr_T hK (show va_P D vwCl (wC k (q 3) (q 4) o2) _ from hP.sub [3, 4] fmTC) (show va_D (in_W (wT k q u)) (wC k (q 3) (q 4) o2) from hD.sub [3, 4] (by decide) subTC) (va_recv hK (show va_P D vwCl (wC k (q 3) (q 4) o2) _ from hP.sub [3, 4] fmTC) (ci := 1) (q0 := 0) rfl rfl)) rfl rfl hl.1 rfl (lv_room (Nat.le_of_ble_eq_true rfl)) dX3_readEntry_56 ⟨Nat.zero_le _, Nat.zero_le _⟩).run hP hD hS [3, 4] [0, 1, 2, 5, 6, 7, 8, 9, 10] [0, 1, 2, 9, 10, 3, 4, 5, 6, 7, 8] subTC (by decide) putTC adrT (fun H locs hP hD hS => ?_)
    refine lv_aload_n hx hb dX3_readEntry_59 rfl (lv_at hl 1 rfl) ?_
    refine va_get (D := D) (ci := 2) (v := .ref (q 3)) (C := RX3) (T := TX3) (N := 9) hx hb hts (by decide +kernel) hown hK hP 0 rfl rfl 2 (by decide) (hts (.fieldLink RX3 19 "TrapMachine" "controls" "LTrapMachine$Controls;") (by decide +kernel)) (fun _ h9 => h9) rfl dX3_readEntry_60 ?_
    refine lv_bipush (v := (10 : Int32)) hx hb dX3_readEntry_63 (by decide) ?_
    refine lv_iconst (v := (0 : Int32)) hx hb dX3_readEntry_65 (by decide) ?_
    obtain ⟨o4, h_o4⟩ : ∃ o9, (fX2_set o3 (10 : Int32) (0 : Int32)) = o9 := ⟨_, rfl⟩
    refine wr_call (r := none) (ws' := wT k q (ts2 (ts2 (ts2 (ts2 u o1) o2) o3) o4)) (va_runVN (C := RX2) (b := (q 3)) (As := [.int (10 : Int32), .int (0 : Int32)]) (rest := []) ⟨hx, hb, hml, hown, hts⟩ (kX2_set l D k (q 3) (q 4) o3 (10 : Int32) (0 : Int32) (vi_k (by decide)) o4 h_o4) ⟨va_cnB 2 hts gX3_readEntry_X2_set_n194 rfl rfl rfl (hX.at 13 (q := (194, yX2_set)) rfl) (hts (.initialized RX2) (by decide +kernel)) (by decide +kernel) ⟨Nat.le_of_ble_eq_true rfl, Nat.le_of_ble_eq_true rfl⟩, (hts (.instanceMethod yX2_set) (by decide +kernel)), (hts (.selects RX2 yX2_set yX2_set) (by decide +kernel))⟩ (wr_preV bl_T pr_T hK (show va_P D vwCl (wC k (q 3) (q 4) o3) _ from hP.sub [3, 4] fmTC) (show va_D (in_W (wT k q u)) (wC k (q 3) (q 4) o3) from hD.sub [3, 4] (by decide) subTC) (va_recv hK (show va_P D vwCl (wC k (q 3) (q 4) o3) _ from hP.sub [3, 4] fmTC) (ci := 1) (q0 := 0) rfl rfl)) rfl rfl hl.1 rfl (lv_room (Nat.le_of_ble_eq_true rfl)) dX3_readEntry_66 ⟨Nat.zero_le _, Nat.zero_le _⟩).run hP hD hS [3, 4] [0, 1, 2, 5, 6, 7, 8, 9, 10] [0, 1, 2, 9, 10, 3, 4, 5, 6, 7, 8] subTC (by decide) putTC adrT (fun H locs hP hD hS => ?_)
    exact W.vret hx hb hr (wr_end rfl (congrArg (wT k q) ((show fX3_readEntry u a1 = (ts2 (ts2 (ts2 (ts2 u o1) o2) o3) o4) from (by subst h_o1; subst h_o2; subst h_o3; subst h_o4; exact (if_neg c_10).trans rfl)).symm.trans ho)) hP hS) hS.2.2 dX3_readEntry_69
  · refine lv_iconst (v := (1 : Int32)) hx hb dX3_readEntry_13 (by decide) ?_
    refine lv_goto (tgt := 18) hx hb dX3_readEntry_14 (by decide) ?_
    refine lv_istore_n (lv' := [(2, .int (1 : Int32)), (0, .ref (q 0)), (1, .int a1)]) hx hb dX3_readEntry_18 rfl hl (by decide) rfl (fun ls hl => ?_)
    refine lv_aload_n hx hb dX3_readEntry_19 rfl (lv_at hl 1 rfl) ?_
    refine va_get (D := D) (ci := 2) (v := .ref (q 3)) (C := RX3) (T := TX3) (N := 9) hx hb hts (by decide +kernel) hown hK hP 0 rfl rfl 2 (by decide) (hts (.fieldLink RX3 19 "TrapMachine" "controls" "LTrapMachine$Controls;") (by decide +kernel)) (fun _ h9 => h9) rfl dX3_readEntry_20 ?_
    refine lv_iload_n hx hb dX3_readEntry_23 rfl (lv_at hl 0 rfl) ?_
    refine lv_if_ne (tgt := 31) hx hb dX3_readEntry_24 (by decide) (fun _ => ?_) (fun c9 => absurd c9 (by decide))
    refine lv_iconst (v := (0 : Int32)) hx hb dX3_readEntry_31 (by decide) ?_
    obtain ⟨o5, h_o5⟩ : ∃ o9, (fX2_setEmpty u.2.2.1 (0 : Int32)) = o9 := ⟨_, rfl⟩
    refine wr_call (r := none) (ws' := wT k q (ts2 u o5)) (va_runVN (C := RX2) (b := (q 3)) (As := [.int (0 : Int32)]) (rest := []) ⟨hx, hb, hml, hown, hts⟩ (kX2_setEmpty l D k (q 3) (q 4) u.2.2.1 (0 : Int32) o5 h_o5) ⟨va_cnB 1 hts gX3_readEntry_X2_setEmpty_n190 rfl rfl rfl (hX.at 12 (q := (190, yX2_setEmpty)) rfl) (hts (.initialized RX2) (by decide +kernel)) (by decide +kernel) ⟨Nat.le_of_ble_eq_true rfl, Nat.le_of_ble_eq_true rfl⟩, (hts (.instanceMethod yX2_setEmpty) (by decide +kernel)), (hts (.selects RX2 yX2_setEmpty yX2_setEmpty) (by decide +kernel))⟩ (wr_preV bl_T pr_T hK (show va_P D vwCl (wC k (q 3) (q 4) u.2.2.1) _ from hP.sub [3, 4] fmTC) (show va_D (in_W (wT k q u)) (wC k (q 3) (q 4) u.2.2.1) from hD.sub [3, 4] (by decide) subTC) (va_recv hK (show va_P D vwCl (wC k (q 3) (q 4) u.2.2.1) _ from hP.sub [3, 4] fmTC) (ci := 1) (q0 := 0) rfl rfl)) rfl rfl hl.1 rfl (lv_room (Nat.le_of_ble_eq_true rfl)) dX3_readEntry_32 ⟨Nat.zero_le _, Nat.zero_le _⟩).run hP hD hS [3, 4] [0, 1, 2, 5, 6, 7, 8, 9, 10] [0, 1, 2, 9, 10, 3, 4, 5, 6, 7, 8] subTC (by decide) putTC adrT (fun H locs hP hD hS => ?_)
    refine lv_iload_n hx hb dX3_readEntry_35 rfl (lv_at hl 0 rfl) ?_
    refine lv_if_ne (tgt := 70) hx hb dX3_readEntry_36 (by decide) (fun _ => ?_) (fun c9 => absurd c9 (by decide))
    refine lv_aload_n hx hb dX3_readEntry_70 rfl (lv_at hl 1 rfl) ?_
    refine va_get (D := D) (ci := 2) (v := .ref (q 5)) (C := RX3) (T := TX3) (N := 9) hx hb hts (by decide +kernel) hown hK hP 0 rfl rfl 3 (by decide) (hts (.fieldLink RX3 26 "TrapMachine" "buffer" "LTrapMachine$Buffer;") (by decide +kernel)) (fun _ h9 => h9) rfl dX3_readEntry_71 ?_
    refine lv_iload_n hx hb dX3_readEntry_74 rfl (lv_at hl 2 rfl) ?_
    refine lv_iconst (v := (3 : Int32)) hx hb dX3_readEntry_75 (by decide) ?_
    refine rd_call (r := (fX0_get u.2.2.2.1 a1 (3 : Int32))) (va_runVN (C := RX0) (b := (q 5)) (As := [.int a1, .int (3 : Int32)]) (rest := []) ⟨hx, hb, hml, hown, hts⟩ (kX0_get l D k (q 5) (q 6) (fun j => q (7 + j)) u.2.2.2.1 a1 (3 : Int32) h1 (vi_k (by decide))) ⟨va_cnB 2 hts gX3_readEntry_X0_get_n83 rfl rfl rfl (hX.at 4 (q := (83, yX0_get)) rfl) (hts (.initialized RX0) (by decide +kernel)) (by decide +kernel) ⟨Nat.le_of_ble_eq_true rfl, Nat.le_of_ble_eq_true rfl⟩, (hts (.instanceMethod yX0_get) (by decide +kernel)), (hts (.selects RX0 yX0_get yX0_get) (by decide +kernel))⟩ (rd_preV bl_T pr_T hK (show va_P D vwCl (wB k (q 5) (q 6) (fun j => q (7 + j)) u.2.2.2.1) _ from hP.sub [5, 6, 7, 8, 9, 10] fmTB) (va_recv hK (show va_P D vwCl (wB k (q 5) (q 6) (fun j => q (7 + j)) u.2.2.2.1) _ from hP.sub [5, 6, 7, 8, 9, 10] fmTB) (ci := 0) (q0 := 0) rfl rfl)) rfl rfl hl.1 rfl (lv_room (Nat.le_of_ble_eq_true rfl)) dX3_readEntry_76 ⟨Nat.zero_le _, Nat.zero_le _⟩).run ?_
    refine lv_iconst (v := (1 : Int32)) hx hb dX3_readEntry_79 (by decide) ?_
    refine lv_icmp_ne (tgt := 88) hx hb dX3_readEntry_80 (by decide) (fun c_80 => ?_) (fun c_80 => ?_)
    · refine lv_iconst (v := (0 : Int32)) hx hb dX3_readEntry_88 (by decide) ?_
      refine lv_istore_n (lv' := [(3, .int (0 : Int32)), (2, .int (1 : Int32)), (0, .ref (q 0)), (1, .int a1)]) hx hb dX3_readEntry_89 rfl hl (by decide) rfl (fun ls hl => ?_)
      refine lv_aload_n hx hb dX3_readEntry_90 rfl (lv_at hl 2 rfl) ?_
      refine va_get (D := D) (ci := 2) (v := .ref (q 3)) (C := RX3) (T := TX3) (N := 9) hx hb hts (by decide +kernel) hown hK hP 0 rfl rfl 2 (by decide) (hts (.fieldLink RX3 19 "TrapMachine" "controls" "LTrapMachine$Controls;") (by decide +kernel)) (fun _ h9 => h9) rfl dX3_readEntry_91 ?_
      refine lv_bipush (v := (8 : Int32)) hx hb dX3_readEntry_94 (by decide) ?_
      refine lv_aload_n hx hb dX3_readEntry_96 rfl (lv_at hl 2 rfl) ?_
      refine va_get (D := D) (ci := 2) (v := .ref (q 5)) (C := RX3) (T := TX3) (N := 9) hx hb hts (by decide +kernel) hown hK hP 0 rfl rfl 3 (by decide) (hts (.fieldLink RX3 26 "TrapMachine" "buffer" "LTrapMachine$Buffer;") (by decide +kernel)) (fun _ h9 => h9) rfl dX3_readEntry_97 ?_
      refine lv_iload_n hx hb dX3_readEntry_100 rfl (lv_at hl 3 rfl) ?_
      refine lv_iconst (v := (1 : Int32)) hx hb dX3_readEntry_101 (by decide) ?_
      refine rd_call (r := (fX0_get u.2.2.2.1 a1 (1 : Int32))) (va_runVN (C := RX0) (b := (q 5)) (As := [.int a1, .int (1 : Int32)]) (rest := [.int (8 : Int32), .ref (q 3)]) ⟨hx, hb, hml, hown, hts⟩ (kX0_get l D k (q 5) (q 6) (fun j => q (7 + j)) u.2.2.2.1 a1 (1 : Int32) h1 (vi_k (by decide))) ⟨va_cnB 2 hts gX3_readEntry_X0_get_n83 rfl rfl rfl (hX.at 4 (q := (83, yX0_get)) rfl) (hts (.initialized RX0) (by decide +kernel)) (by decide +kernel) ⟨Nat.le_of_ble_eq_true rfl, Nat.le_of_ble_eq_true rfl⟩, (hts (.instanceMethod yX0_get) (by decide +kernel)), (hts (.selects RX0 yX0_get yX0_get) (by decide +kernel))⟩ (rd_preV bl_T pr_T hK (show va_P D vwCl (wB k (q 5) (q 6) (fun j => q (7 + j)) u.2.2.2.1) _ from hP.sub [5, 6, 7, 8, 9, 10] fmTB) (va_recv hK (show va_P D vwCl (wB k (q 5) (q 6) (fun j => q (7 + j)) u.2.2.2.1) _ from hP.sub [5, 6, 7, 8, 9, 10] fmTB) (ci := 0) (q0 := 0) rfl rfl)) rfl rfl hl.1 rfl (lv_room (Nat.le_of_ble_eq_true rfl)) dX3_readEntry_102 ⟨Nat.zero_le _, Nat.zero_le _⟩).run ?_
      refine lv_bipush (v := (7 : Int32)) hx hb dX3_readEntry_105 (by decide) ?_
      refine lv_ishl hx hb dX3_readEntry_107 ?_
      obtain ⟨o6, h_o6⟩ : ∃ o9, (fX2_set o5 (8 : Int32) ((fX0_get u.2.2.2.1 a1 (1 : Int32)) <<< ((7 : Int32) &&& 31))) = o9 := ⟨_, rfl⟩
      refine wr_call (r := none) (ws' := wT k q (ts2 (ts2 u o5) o6)) (va_runVN (C := RX2) (b := (q 3)) (As := [.int (8 : Int32), .int ((fX0_get u.2.2.2.1 a1 (1 : Int32)) <<< ((7 : Int32) &&& 31))]) (rest := []) ⟨hx, hb, hml, hown, hts⟩ (kX2_set l D k (q 3) (q 4) o5 (8 : Int32) ((fX0_get u.2.2.2.1 a1 (1 : Int32)) <<< ((7 : Int32) &&& 31)) (vi_k (by decide)) o6 h_o6) ⟨va_cnB 2 hts gX3_readEntry_X2_set_n194 rfl rfl rfl (hX.at 13 (q := (194, yX2_set)) rfl) (hts (.initialized RX2) (by decide +kernel)) (by decide +kernel) ⟨Nat.le_of_ble_eq_true rfl, Nat.le_of_ble_eq_true rfl⟩, (hts (.instanceMethod yX2_set) (by decide +kernel)), (hts (.selects RX2 yX2_set yX2_set) (by decide +kernel))⟩ (wr_preV bl_T pr_T hK (show va_P D vwCl (wC k (q 3) (q 4) o5) _ from hP.sub [3, 4] fmTC) (show va_D (in_W (wT k q u)) (wC k (q 3) (q 4) o5) from hD.sub [3, 4] (by decide) subTC) (va_recv hK (show va_P D vwCl (wC k (q 3) (q 4) o5) _ from hP.sub [3, 4] fmTC) (ci := 1) (q0 := 0) rfl rfl)) rfl rfl hl.1 rfl (lv_room (Nat.le_of_ble_eq_true rfl)) dX3_readEntry_108 ⟨Nat.zero_le _, Nat.zero_le _⟩).run hP hD hS [3, 4] [0, 1, 2, 5, 6, 7, 8, 9, 10] [0, 1, 2, 9, 10, 3, 4, 5, 6, 7, 8] subTC (by decide) putTC adrT (fun H locs hP hD hS => ?_)
      refine lv_aload_n hx hb dX3_readEntry_111 rfl (lv_at hl 2 rfl) ?_
      refine va_get (D := D) (ci := 2) (v := .ref (q 3)) (C := RX3) (T := TX3) (N := 9) hx hb hts (by decide +kernel) hown hK hP 0 rfl rfl 2 (by decide) (hts (.fieldLink RX3 19 "TrapMachine" "controls" "LTrapMachine$Controls;") (by decide +kernel)) (fun _ h9 => h9) rfl dX3_readEntry_112 ?_
      refine lv_bipush (v := (9 : Int32)) hx hb dX3_readEntry_115 (by decide) ?_
      refine lv_aload_n hx hb dX3_readEntry_117 rfl (lv_at hl 2 rfl) ?_
      refine va_get (D := D) (ci := 2) (v := .ref (q 5)) (C := RX3) (T := TX3) (N := 9) hx hb hts (by decide +kernel) hown hK hP 0 rfl rfl 3 (by decide) (hts (.fieldLink RX3 26 "TrapMachine" "buffer" "LTrapMachine$Buffer;") (by decide +kernel)) (fun _ h9 => h9) rfl dX3_readEntry_118 ?_
      refine lv_iload_n hx hb dX3_readEntry_121 rfl (lv_at hl 3 rfl) ?_
      refine lv_iconst (v := (4 : Int32)) hx hb dX3_readEntry_122 (by decide) ?_
      refine rd_call (r := (fX0_get u.2.2.2.1 a1 (4 : Int32))) (va_runVN (C := RX0) (b := (q 5)) (As := [.int a1, .int (4 : Int32)]) (rest := [.int (9 : Int32), .ref (q 3)]) ⟨hx, hb, hml, hown, hts⟩ (kX0_get l D k (q 5) (q 6) (fun j => q (7 + j)) u.2.2.2.1 a1 (4 : Int32) h1 (vi_k (by decide))) ⟨va_cnB 2 hts gX3_readEntry_X0_get_n83 rfl rfl rfl (hX.at 4 (q := (83, yX0_get)) rfl) (hts (.initialized RX0) (by decide +kernel)) (by decide +kernel) ⟨Nat.le_of_ble_eq_true rfl, Nat.le_of_ble_eq_true rfl⟩, (hts (.instanceMethod yX0_get) (by decide +kernel)), (hts (.selects RX0 yX0_get yX0_get) (by decide +kernel))⟩ (rd_preV bl_T pr_T hK (show va_P D vwCl (wB k (q 5) (q 6) (fun j => q (7 + j)) u.2.2.2.1) _ from hP.sub [5, 6, 7, 8, 9, 10] fmTB) (va_recv hK (show va_P D vwCl (wB k (q 5) (q 6) (fun j => q (7 + j)) u.2.2.2.1) _ from hP.sub [5, 6, 7, 8, 9, 10] fmTB) (ci := 0) (q0 := 0) rfl rfl)) rfl rfl hl.1 rfl (lv_room (Nat.le_of_ble_eq_true rfl)) dX3_readEntry_123 ⟨Nat.zero_le _, Nat.zero_le _⟩).run ?_
      refine lv_iload_n hx hb dX3_readEntry_126 rfl (lv_at hl 0 rfl) ?_
      refine lv_ior hx hb dX3_readEntry_127 ?_
      obtain ⟨o7, h_o7⟩ : ∃ o9, (fX2_set o6 (9 : Int32) ((fX0_get u.2.2.2.1 a1 (4 : Int32)) ||| (0 : Int32))) = o9 := ⟨_, rfl⟩
      refine wr_call (r := none) (ws' := wT k q (ts2 (ts2 (ts2 u o5) o6) o7)) (va_runVN (C := RX2) (b := (q 3)) (As := [.int (9 : Int32), .int ((fX0_get u.2.2.2.1 a1 (4 : Int32)) ||| (0 : Int32))]) (rest := []) ⟨hx, hb, hml, hown, hts⟩ (kX2_set l D k (q 3) (q 4) o6 (9 : Int32) ((fX0_get u.2.2.2.1 a1 (4 : Int32)) ||| (0 : Int32)) (vi_k (by decide)) o7 h_o7) ⟨va_cnB 2 hts gX3_readEntry_X2_set_n194 rfl rfl rfl (hX.at 13 (q := (194, yX2_set)) rfl) (hts (.initialized RX2) (by decide +kernel)) (by decide +kernel) ⟨Nat.le_of_ble_eq_true rfl, Nat.le_of_ble_eq_true rfl⟩, (hts (.instanceMethod yX2_set) (by decide +kernel)), (hts (.selects RX2 yX2_set yX2_set) (by decide +kernel))⟩ (wr_preV bl_T pr_T hK (show va_P D vwCl (wC k (q 3) (q 4) o6) _ from hP.sub [3, 4] fmTC) (show va_D (in_W (wT k q u)) (wC k (q 3) (q 4) o6) from hD.sub [3, 4] (by decide) subTC) (va_recv hK (show va_P D vwCl (wC k (q 3) (q 4) o6) _ from hP.sub [3, 4] fmTC) (ci := 1) (q0 := 0) rfl rfl)) rfl rfl hl.1 rfl (lv_room (Nat.le_of_ble_eq_true rfl)) dX3_readEntry_128 ⟨Nat.zero_le _, Nat.zero_le _⟩).run hP hD hS [3, 4] [0, 1, 2, 5, 6, 7, 8, 9, 10] [0, 1, 2, 9, 10, 3, 4, 5, 6, 7, 8] subTC (by decide) putTC adrT (fun H locs hP hD hS => ?_)
      refine lv_aload_n hx hb dX3_readEntry_131 rfl (lv_at hl 2 rfl) ?_
      refine va_get (D := D) (ci := 2) (v := .ref (q 3)) (C := RX3) (T := TX3) (N := 9) hx hb hts (by decide +kernel) hown hK hP 0 rfl rfl 2 (by decide) (hts (.fieldLink RX3 19 "TrapMachine" "controls" "LTrapMachine$Controls;") (by decide +kernel)) (fun _ h9 => h9) rfl dX3_readEntry_132 ?_
      refine lv_bipush (v := (10 : Int32)) hx hb dX3_readEntry_135 (by decide) ?_
      refine lv_aload_n hx hb dX3_readEntry_137 rfl (lv_at hl 2 rfl) ?_
      refine va_get (D := D) (ci := 2) (v := .ref (q 5)) (C := RX3) (T := TX3) (N := 9) hx hb hts (by decide +kernel) hown hK hP 0 rfl rfl 3 (by decide) (hts (.fieldLink RX3 26 "TrapMachine" "buffer" "LTrapMachine$Buffer;") (by decide +kernel)) (fun _ h9 => h9) rfl dX3_readEntry_138 ?_
      refine lv_iload_n hx hb dX3_readEntry_141 rfl (lv_at hl 3 rfl) ?_
      refine lv_iconst (v := (5 : Int32)) hx hb dX3_readEntry_142 (by decide) ?_
      refine rd_call (r := (fX0_get u.2.2.2.1 a1 (5 : Int32))) (va_runVN (C := RX0) (b := (q 5)) (As := [.int a1, .int (5 : Int32)]) (rest := [.int (10 : Int32), .ref (q 3)]) ⟨hx, hb, hml, hown, hts⟩ (kX0_get l D k (q 5) (q 6) (fun j => q (7 + j)) u.2.2.2.1 a1 (5 : Int32) h1 (vi_k (by decide))) ⟨va_cnB 2 hts gX3_readEntry_X0_get_n83 rfl rfl rfl (hX.at 4 (q := (83, yX0_get)) rfl) (hts (.initialized RX0) (by decide +kernel)) (by decide +kernel) ⟨Nat.le_of_ble_eq_true rfl, Nat.le_of_ble_eq_true rfl⟩, (hts (.instanceMethod yX0_get) (by decide +kernel)), (hts (.selects RX0 yX0_get yX0_get) (by decide +kernel))⟩ (rd_preV bl_T pr_T hK (show va_P D vwCl (wB k (q 5) (q 6) (fun j => q (7 + j)) u.2.2.2.1) _ from hP.sub [5, 6, 7, 8, 9, 10] fmTB) (va_recv hK (show va_P D vwCl (wB k (q 5) (q 6) (fun j => q (7 + j)) u.2.2.2.1) _ from hP.sub [5, 6, 7, 8, 9, 10] fmTB) (ci := 0) (q0 := 0) rfl rfl)) rfl rfl hl.1 rfl (lv_room (Nat.le_of_ble_eq_true rfl)) dX3_readEntry_143 ⟨Nat.zero_le _, Nat.zero_le _⟩).run ?_
      refine lv_iload_n hx hb dX3_readEntry_146 rfl (lv_at hl 0 rfl) ?_
      refine lv_ior hx hb dX3_readEntry_147 ?_
      obtain ⟨o8, h_o8⟩ : ∃ o9, (fX2_set o7 (10 : Int32) ((fX0_get u.2.2.2.1 a1 (5 : Int32)) ||| (0 : Int32))) = o9 := ⟨_, rfl⟩
      refine wr_call (r := none) (ws' := wT k q (ts2 (ts2 (ts2 (ts2 u o5) o6) o7) o8)) (va_runVN (C := RX2) (b := (q 3)) (As := [.int (10 : Int32), .int ((fX0_get u.2.2.2.1 a1 (5 : Int32)) ||| (0 : Int32))]) (rest := []) ⟨hx, hb, hml, hown, hts⟩ (kX2_set l D k (q 3) (q 4) o7 (10 : Int32) ((fX0_get u.2.2.2.1 a1 (5 : Int32)) ||| (0 : Int32)) (vi_k (by decide)) o8 h_o8) ⟨va_cnB 2 hts gX3_readEntry_X2_set_n194 rfl rfl rfl (hX.at 13 (q := (194, yX2_set)) rfl) (hts (.initialized RX2) (by decide +kernel)) (by decide +kernel) ⟨Nat.le_of_ble_eq_true rfl, Nat.le_of_ble_eq_true rfl⟩, (hts (.instanceMethod yX2_set) (by decide +kernel)), (hts (.selects RX2 yX2_set yX2_set) (by decide +kernel))⟩ (wr_preV bl_T pr_T hK (show va_P D vwCl (wC k (q 3) (q 4) o7) _ from hP.sub [3, 4] fmTC) (show va_D (in_W (wT k q u)) (wC k (q 3) (q 4) o7) from hD.sub [3, 4] (by decide) subTC) (va_recv hK (show va_P D vwCl (wC k (q 3) (q 4) o7) _ from hP.sub [3, 4] fmTC) (ci := 1) (q0 := 0) rfl rfl)) rfl rfl hl.1 rfl (lv_room (Nat.le_of_ble_eq_true rfl)) dX3_readEntry_148 ⟨Nat.zero_le _, Nat.zero_le _⟩).run hP hD hS [3, 4] [0, 1, 2, 5, 6, 7, 8, 9, 10] [0, 1, 2, 9, 10, 3, 4, 5, 6, 7, 8] subTC (by decide) putTC adrT (fun H locs hP hD hS => ?_)
      refine lv_aload_n hx hb dX3_readEntry_151 rfl (lv_at hl 2 rfl) ?_
      refine va_get (D := D) (ci := 2) (v := .ref (q 3)) (C := RX3) (T := TX3) (N := 9) hx hb hts (by decide +kernel) hown hK hP 0 rfl rfl 2 (by decide) (hts (.fieldLink RX3 19 "TrapMachine" "controls" "LTrapMachine$Controls;") (by decide +kernel)) (fun _ h9 => h9) rfl dX3_readEntry_152 ?_
      refine lv_bipush (v := (11 : Int32)) hx hb dX3_readEntry_155 (by decide) ?_
      refine lv_aload_n hx hb dX3_readEntry_157 rfl (lv_at hl 2 rfl) ?_
      refine va_get (D := D) (ci := 2) (v := .ref (q 5)) (C := RX3) (T := TX3) (N := 9) hx hb hts (by decide +kernel) hown hK hP 0 rfl rfl 3 (by decide) (hts (.fieldLink RX3 26 "TrapMachine" "buffer" "LTrapMachine$Buffer;") (by decide +kernel)) (fun _ h9 => h9) rfl dX3_readEntry_158 ?_
      refine lv_iload_n hx hb dX3_readEntry_161 rfl (lv_at hl 3 rfl) ?_
      refine lv_iconst (v := (2 : Int32)) hx hb dX3_readEntry_162 (by decide) ?_
      refine rd_call (r := (fX0_get u.2.2.2.1 a1 (2 : Int32))) (va_runVN (C := RX0) (b := (q 5)) (As := [.int a1, .int (2 : Int32)]) (rest := [.int (11 : Int32), .ref (q 3)]) ⟨hx, hb, hml, hown, hts⟩ (kX0_get l D k (q 5) (q 6) (fun j => q (7 + j)) u.2.2.2.1 a1 (2 : Int32) h1 (vi_k (by decide))) ⟨va_cnB 2 hts gX3_readEntry_X0_get_n83 rfl rfl rfl (hX.at 4 (q := (83, yX0_get)) rfl) (hts (.initialized RX0) (by decide +kernel)) (by decide +kernel) ⟨Nat.le_of_ble_eq_true rfl, Nat.le_of_ble_eq_true rfl⟩, (hts (.instanceMethod yX0_get) (by decide +kernel)), (hts (.selects RX0 yX0_get yX0_get) (by decide +kernel))⟩ (rd_preV bl_T pr_T hK (show va_P D vwCl (wB k (q 5) (q 6) (fun j => q (7 + j)) u.2.2.2.1) _ from hP.sub [5, 6, 7, 8, 9, 10] fmTB) (va_recv hK (show va_P D vwCl (wB k (q 5) (q 6) (fun j => q (7 + j)) u.2.2.2.1) _ from hP.sub [5, 6, 7, 8, 9, 10] fmTB) (ci := 0) (q0 := 0) rfl rfl)) rfl rfl hl.1 rfl (lv_room (Nat.le_of_ble_eq_true rfl)) dX3_readEntry_163 ⟨Nat.zero_le _, Nat.zero_le _⟩).run ?_
      obtain ⟨o9, h_o9⟩ : ∃ o9, (fX2_set o8 (11 : Int32) (fX0_get u.2.2.2.1 a1 (2 : Int32))) = o9 := ⟨_, rfl⟩
      refine wr_call (r := none) (ws' := wT k q (ts2 (ts2 (ts2 (ts2 (ts2 u o5) o6) o7) o8) o9)) (va_runVN (C := RX2) (b := (q 3)) (As := [.int (11 : Int32), .int (fX0_get u.2.2.2.1 a1 (2 : Int32))]) (rest := []) ⟨hx, hb, hml, hown, hts⟩ (kX2_set l D k (q 3) (q 4) o8 (11 : Int32) (fX0_get u.2.2.2.1 a1 (2 : Int32)) (vi_k (by decide)) o9 h_o9) ⟨va_cnB 2 hts gX3_readEntry_X2_set_n194 rfl rfl rfl (hX.at 13 (q := (194, yX2_set)) rfl) (hts (.initialized RX2) (by decide +kernel)) (by decide +kernel) ⟨Nat.le_of_ble_eq_true rfl, Nat.le_of_ble_eq_true rfl⟩, (hts (.instanceMethod yX2_set) (by decide +kernel)), (hts (.selects RX2 yX2_set yX2_set) (by decide +kernel))⟩ (wr_preV bl_T pr_T hK (show va_P D vwCl (wC k (q 3) (q 4) o8) _ from hP.sub [3, 4] fmTC) (show va_D (in_W (wT k q u)) (wC k (q 3) (q 4) o8) from hD.sub [3, 4] (by decide) subTC) (va_recv hK (show va_P D vwCl (wC k (q 3) (q 4) o8) _ from hP.sub [3, 4] fmTC) (ci := 1) (q0 := 0) rfl rfl)) rfl rfl hl.1 rfl (lv_room (Nat.le_of_ble_eq_true rfl)) dX3_readEntry_166 ⟨Nat.zero_le _, Nat.zero_le _⟩).run hP hD hS [3, 4] [0, 1, 2, 5, 6, 7, 8, 9, 10] [0, 1, 2, 9, 10, 3, 4, 5, 6, 7, 8] subTC (by decide) putTC adrT (fun H locs hP hD hS => ?_)
      exact W.vret hx hb hr (wr_end rfl (congrArg (wT k q) ((show fX3_readEntry u a1 = (ts2 (ts2 (ts2 (ts2 (ts2 u o5) o6) o7) o8) o9) from (by subst h_o5; subst h_o6; subst h_o7; subst h_o8; subst h_o9; exact (if_pos c_10).trans ((if_neg c_80).trans rfl))).symm.trans ho)) hP hS) hS.2.2 dX3_readEntry_169
    · refine lv_bipush (v := (16 : Int32)) hx hb dX3_readEntry_83 (by decide) ?_
      refine lv_goto (tgt := 89) hx hb dX3_readEntry_85 (by decide) ?_
      refine lv_istore_n (lv' := [(3, .int (16 : Int32)), (2, .int (1 : Int32)), (0, .ref (q 0)), (1, .int a1)]) hx hb dX3_readEntry_89 rfl hl (by decide) rfl (fun ls hl => ?_)
      refine lv_aload_n hx hb dX3_readEntry_90 rfl (lv_at hl 2 rfl) ?_
      refine va_get (D := D) (ci := 2) (v := .ref (q 3)) (C := RX3) (T := TX3) (N := 9) hx hb hts (by decide +kernel) hown hK hP 0 rfl rfl 2 (by decide) (hts (.fieldLink RX3 19 "TrapMachine" "controls" "LTrapMachine$Controls;") (by decide +kernel)) (fun _ h9 => h9) rfl dX3_readEntry_91 ?_
      refine lv_bipush (v := (8 : Int32)) hx hb dX3_readEntry_94 (by decide) ?_
      refine lv_aload_n hx hb dX3_readEntry_96 rfl (lv_at hl 2 rfl) ?_
      refine va_get (D := D) (ci := 2) (v := .ref (q 5)) (C := RX3) (T := TX3) (N := 9) hx hb hts (by decide +kernel) hown hK hP 0 rfl rfl 3 (by decide) (hts (.fieldLink RX3 26 "TrapMachine" "buffer" "LTrapMachine$Buffer;") (by decide +kernel)) (fun _ h9 => h9) rfl dX3_readEntry_97 ?_
      refine lv_iload_n hx hb dX3_readEntry_100 rfl (lv_at hl 3 rfl) ?_
      refine lv_iconst (v := (1 : Int32)) hx hb dX3_readEntry_101 (by decide) ?_
      refine rd_call (r := (fX0_get u.2.2.2.1 a1 (1 : Int32))) (va_runVN (C := RX0) (b := (q 5)) (As := [.int a1, .int (1 : Int32)]) (rest := [.int (8 : Int32), .ref (q 3)]) ⟨hx, hb, hml, hown, hts⟩ (kX0_get l D k (q 5) (q 6) (fun j => q (7 + j)) u.2.2.2.1 a1 (1 : Int32) h1 (vi_k (by decide))) ⟨va_cnB 2 hts gX3_readEntry_X0_get_n83 rfl rfl rfl (hX.at 4 (q := (83, yX0_get)) rfl) (hts (.initialized RX0) (by decide +kernel)) (by decide +kernel) ⟨Nat.le_of_ble_eq_true rfl, Nat.le_of_ble_eq_true rfl⟩, (hts (.instanceMethod yX0_get) (by decide +kernel)), (hts (.selects RX0 yX0_get yX0_get) (by decide +kernel))⟩ (rd_preV bl_T pr_T hK (show va_P D vwCl (wB k (q 5) (q 6) (fun j => q (7 + j)) u.2.2.2.1) _ from hP.sub [5, 6, 7, 8, 9, 10] fmTB) (va_recv hK (show va_P D vwCl (wB k (q 5) (q 6) (fun j => q (7 + j)) u.2.2.2.1) _ from hP.sub [5, 6, 7, 8, 9, 10] fmTB) (ci := 0) (q0 := 0) rfl rfl)) rfl rfl hl.1 rfl (lv_room (Nat.le_of_ble_eq_true rfl)) dX3_readEntry_102 ⟨Nat.zero_le _, Nat.zero_le _⟩).run ?_
      refine lv_bipush (v := (7 : Int32)) hx hb dX3_readEntry_105 (by decide) ?_
      refine lv_ishl hx hb dX3_readEntry_107 ?_
      obtain ⟨o10, h_o10⟩ : ∃ o9, (fX2_set o5 (8 : Int32) ((fX0_get u.2.2.2.1 a1 (1 : Int32)) <<< ((7 : Int32) &&& 31))) = o9 := ⟨_, rfl⟩
      refine wr_call (r := none) (ws' := wT k q (ts2 (ts2 u o5) o10)) (va_runVN (C := RX2) (b := (q 3)) (As := [.int (8 : Int32), .int ((fX0_get u.2.2.2.1 a1 (1 : Int32)) <<< ((7 : Int32) &&& 31))]) (rest := []) ⟨hx, hb, hml, hown, hts⟩ (kX2_set l D k (q 3) (q 4) o5 (8 : Int32) ((fX0_get u.2.2.2.1 a1 (1 : Int32)) <<< ((7 : Int32) &&& 31)) (vi_k (by decide)) o10 h_o10) ⟨va_cnB 2 hts gX3_readEntry_X2_set_n194 rfl rfl rfl (hX.at 13 (q := (194, yX2_set)) rfl) (hts (.initialized RX2) (by decide +kernel)) (by decide +kernel) ⟨Nat.le_of_ble_eq_true rfl, Nat.le_of_ble_eq_true rfl⟩, (hts (.instanceMethod yX2_set) (by decide +kernel)), (hts (.selects RX2 yX2_set yX2_set) (by decide +kernel))⟩ (wr_preV bl_T pr_T hK (show va_P D vwCl (wC k (q 3) (q 4) o5) _ from hP.sub [3, 4] fmTC) (show va_D (in_W (wT k q u)) (wC k (q 3) (q 4) o5) from hD.sub [3, 4] (by decide) subTC) (va_recv hK (show va_P D vwCl (wC k (q 3) (q 4) o5) _ from hP.sub [3, 4] fmTC) (ci := 1) (q0 := 0) rfl rfl)) rfl rfl hl.1 rfl (lv_room (Nat.le_of_ble_eq_true rfl)) dX3_readEntry_108 ⟨Nat.zero_le _, Nat.zero_le _⟩).run hP hD hS [3, 4] [0, 1, 2, 5, 6, 7, 8, 9, 10] [0, 1, 2, 9, 10, 3, 4, 5, 6, 7, 8] subTC (by decide) putTC adrT (fun H locs hP hD hS => ?_)
      refine lv_aload_n hx hb dX3_readEntry_111 rfl (lv_at hl 2 rfl) ?_
      refine va_get (D := D) (ci := 2) (v := .ref (q 3)) (C := RX3) (T := TX3) (N := 9) hx hb hts (by decide +kernel) hown hK hP 0 rfl rfl 2 (by decide) (hts (.fieldLink RX3 19 "TrapMachine" "controls" "LTrapMachine$Controls;") (by decide +kernel)) (fun _ h9 => h9) rfl dX3_readEntry_112 ?_
      refine lv_bipush (v := (9 : Int32)) hx hb dX3_readEntry_115 (by decide) ?_
      refine lv_aload_n hx hb dX3_readEntry_117 rfl (lv_at hl 2 rfl) ?_
      refine va_get (D := D) (ci := 2) (v := .ref (q 5)) (C := RX3) (T := TX3) (N := 9) hx hb hts (by decide +kernel) hown hK hP 0 rfl rfl 3 (by decide) (hts (.fieldLink RX3 26 "TrapMachine" "buffer" "LTrapMachine$Buffer;") (by decide +kernel)) (fun _ h9 => h9) rfl dX3_readEntry_118 ?_
      refine lv_iload_n hx hb dX3_readEntry_121 rfl (lv_at hl 3 rfl) ?_
      refine lv_iconst (v := (4 : Int32)) hx hb dX3_readEntry_122 (by decide) ?_
      refine rd_call (r := (fX0_get u.2.2.2.1 a1 (4 : Int32))) (va_runVN (C := RX0) (b := (q 5)) (As := [.int a1, .int (4 : Int32)]) (rest := [.int (9 : Int32), .ref (q 3)]) ⟨hx, hb, hml, hown, hts⟩ (kX0_get l D k (q 5) (q 6) (fun j => q (7 + j)) u.2.2.2.1 a1 (4 : Int32) h1 (vi_k (by decide))) ⟨va_cnB 2 hts gX3_readEntry_X0_get_n83 rfl rfl rfl (hX.at 4 (q := (83, yX0_get)) rfl) (hts (.initialized RX0) (by decide +kernel)) (by decide +kernel) ⟨Nat.le_of_ble_eq_true rfl, Nat.le_of_ble_eq_true rfl⟩, (hts (.instanceMethod yX0_get) (by decide +kernel)), (hts (.selects RX0 yX0_get yX0_get) (by decide +kernel))⟩ (rd_preV bl_T pr_T hK (show va_P D vwCl (wB k (q 5) (q 6) (fun j => q (7 + j)) u.2.2.2.1) _ from hP.sub [5, 6, 7, 8, 9, 10] fmTB) (va_recv hK (show va_P D vwCl (wB k (q 5) (q 6) (fun j => q (7 + j)) u.2.2.2.1) _ from hP.sub [5, 6, 7, 8, 9, 10] fmTB) (ci := 0) (q0 := 0) rfl rfl)) rfl rfl hl.1 rfl (lv_room (Nat.le_of_ble_eq_true rfl)) dX3_readEntry_123 ⟨Nat.zero_le _, Nat.zero_le _⟩).run ?_
      refine lv_iload_n hx hb dX3_readEntry_126 rfl (lv_at hl 0 rfl) ?_
      refine lv_ior hx hb dX3_readEntry_127 ?_
      obtain ⟨o11, h_o11⟩ : ∃ o9, (fX2_set o10 (9 : Int32) ((fX0_get u.2.2.2.1 a1 (4 : Int32)) ||| (16 : Int32))) = o9 := ⟨_, rfl⟩
      refine wr_call (r := none) (ws' := wT k q (ts2 (ts2 (ts2 u o5) o10) o11)) (va_runVN (C := RX2) (b := (q 3)) (As := [.int (9 : Int32), .int ((fX0_get u.2.2.2.1 a1 (4 : Int32)) ||| (16 : Int32))]) (rest := []) ⟨hx, hb, hml, hown, hts⟩ (kX2_set l D k (q 3) (q 4) o10 (9 : Int32) ((fX0_get u.2.2.2.1 a1 (4 : Int32)) ||| (16 : Int32)) (vi_k (by decide)) o11 h_o11) ⟨va_cnB 2 hts gX3_readEntry_X2_set_n194 rfl rfl rfl (hX.at 13 (q := (194, yX2_set)) rfl) (hts (.initialized RX2) (by decide +kernel)) (by decide +kernel) ⟨Nat.le_of_ble_eq_true rfl, Nat.le_of_ble_eq_true rfl⟩, (hts (.instanceMethod yX2_set) (by decide +kernel)), (hts (.selects RX2 yX2_set yX2_set) (by decide +kernel))⟩ (wr_preV bl_T pr_T hK (show va_P D vwCl (wC k (q 3) (q 4) o10) _ from hP.sub [3, 4] fmTC) (show va_D (in_W (wT k q u)) (wC k (q 3) (q 4) o10) from hD.sub [3, 4] (by decide) subTC) (va_recv hK (show va_P D vwCl (wC k (q 3) (q 4) o10) _ from hP.sub [3, 4] fmTC) (ci := 1) (q0 := 0) rfl rfl)) rfl rfl hl.1 rfl (lv_room (Nat.le_of_ble_eq_true rfl)) dX3_readEntry_128 ⟨Nat.zero_le _, Nat.zero_le _⟩).run hP hD hS [3, 4] [0, 1, 2, 5, 6, 7, 8, 9, 10] [0, 1, 2, 9, 10, 3, 4, 5, 6, 7, 8] subTC (by decide) putTC adrT (fun H locs hP hD hS => ?_)
      refine lv_aload_n hx hb dX3_readEntry_131 rfl (lv_at hl 2 rfl) ?_
      refine va_get (D := D) (ci := 2) (v := .ref (q 3)) (C := RX3) (T := TX3) (N := 9) hx hb hts (by decide +kernel) hown hK hP 0 rfl rfl 2 (by decide) (hts (.fieldLink RX3 19 "TrapMachine" "controls" "LTrapMachine$Controls;") (by decide +kernel)) (fun _ h9 => h9) rfl dX3_readEntry_132 ?_
      refine lv_bipush (v := (10 : Int32)) hx hb dX3_readEntry_135 (by decide) ?_
      refine lv_aload_n hx hb dX3_readEntry_137 rfl (lv_at hl 2 rfl) ?_
      refine va_get (D := D) (ci := 2) (v := .ref (q 5)) (C := RX3) (T := TX3) (N := 9) hx hb hts (by decide +kernel) hown hK hP 0 rfl rfl 3 (by decide) (hts (.fieldLink RX3 26 "TrapMachine" "buffer" "LTrapMachine$Buffer;") (by decide +kernel)) (fun _ h9 => h9) rfl dX3_readEntry_138 ?_
      refine lv_iload_n hx hb dX3_readEntry_141 rfl (lv_at hl 3 rfl) ?_
      refine lv_iconst (v := (5 : Int32)) hx hb dX3_readEntry_142 (by decide) ?_
      refine rd_call (r := (fX0_get u.2.2.2.1 a1 (5 : Int32))) (va_runVN (C := RX0) (b := (q 5)) (As := [.int a1, .int (5 : Int32)]) (rest := [.int (10 : Int32), .ref (q 3)]) ⟨hx, hb, hml, hown, hts⟩ (kX0_get l D k (q 5) (q 6) (fun j => q (7 + j)) u.2.2.2.1 a1 (5 : Int32) h1 (vi_k (by decide))) ⟨va_cnB 2 hts gX3_readEntry_X0_get_n83 rfl rfl rfl (hX.at 4 (q := (83, yX0_get)) rfl) (hts (.initialized RX0) (by decide +kernel)) (by decide +kernel) ⟨Nat.le_of_ble_eq_true rfl, Nat.le_of_ble_eq_true rfl⟩, (hts (.instanceMethod yX0_get) (by decide +kernel)), (hts (.selects RX0 yX0_get yX0_get) (by decide +kernel))⟩ (rd_preV bl_T pr_T hK (show va_P D vwCl (wB k (q 5) (q 6) (fun j => q (7 + j)) u.2.2.2.1) _ from hP.sub [5, 6, 7, 8, 9, 10] fmTB) (va_recv hK (show va_P D vwCl (wB k (q 5) (q 6) (fun j => q (7 + j)) u.2.2.2.1) _ from hP.sub [5, 6, 7, 8, 9, 10] fmTB) (ci := 0) (q0 := 0) rfl rfl)) rfl rfl hl.1 rfl (lv_room (Nat.le_of_ble_eq_true rfl)) dX3_readEntry_143 ⟨Nat.zero_le _, Nat.zero_le _⟩).run ?_
      refine lv_iload_n hx hb dX3_readEntry_146 rfl (lv_at hl 0 rfl) ?_
      refine lv_ior hx hb dX3_readEntry_147 ?_
      obtain ⟨o12, h_o12⟩ : ∃ o9, (fX2_set o11 (10 : Int32) ((fX0_get u.2.2.2.1 a1 (5 : Int32)) ||| (16 : Int32))) = o9 := ⟨_, rfl⟩
      refine wr_call (r := none) (ws' := wT k q (ts2 (ts2 (ts2 (ts2 u o5) o10) o11) o12)) (va_runVN (C := RX2) (b := (q 3)) (As := [.int (10 : Int32), .int ((fX0_get u.2.2.2.1 a1 (5 : Int32)) ||| (16 : Int32))]) (rest := []) ⟨hx, hb, hml, hown, hts⟩ (kX2_set l D k (q 3) (q 4) o11 (10 : Int32) ((fX0_get u.2.2.2.1 a1 (5 : Int32)) ||| (16 : Int32)) (vi_k (by decide)) o12 h_o12) ⟨va_cnB 2 hts gX3_readEntry_X2_set_n194 rfl rfl rfl (hX.at 13 (q := (194, yX2_set)) rfl) (hts (.initialized RX2) (by decide +kernel)) (by decide +kernel) ⟨Nat.le_of_ble_eq_true rfl, Nat.le_of_ble_eq_true rfl⟩, (hts (.instanceMethod yX2_set) (by decide +kernel)), (hts (.selects RX2 yX2_set yX2_set) (by decide +kernel))⟩ (wr_preV bl_T pr_T hK (show va_P D vwCl (wC k (q 3) (q 4) o11) _ from hP.sub [3, 4] fmTC) (show va_D (in_W (wT k q u)) (wC k (q 3) (q 4) o11) from hD.sub [3, 4] (by decide) subTC) (va_recv hK (show va_P D vwCl (wC k (q 3) (q 4) o11) _ from hP.sub [3, 4] fmTC) (ci := 1) (q0 := 0) rfl rfl)) rfl rfl hl.1 rfl (lv_room (Nat.le_of_ble_eq_true rfl)) dX3_readEntry_148 ⟨Nat.zero_le _, Nat.zero_le _⟩).run hP hD hS [3, 4] [0, 1, 2, 5, 6, 7, 8, 9, 10] [0, 1, 2, 9, 10, 3, 4, 5, 6, 7, 8] subTC (by decide) putTC adrT (fun H locs hP hD hS => ?_)
      refine lv_aload_n hx hb dX3_readEntry_151 rfl (lv_at hl 2 rfl) ?_
      refine va_get (D := D) (ci := 2) (v := .ref (q 3)) (C := RX3) (T := TX3) (N := 9) hx hb hts (by decide +kernel) hown hK hP 0 rfl rfl 2 (by decide) (hts (.fieldLink RX3 19 "TrapMachine" "controls" "LTrapMachine$Controls;") (by decide +kernel)) (fun _ h9 => h9) rfl dX3_readEntry_152 ?_
      refine lv_bipush (v := (11 : Int32)) hx hb dX3_readEntry_155 (by decide) ?_
      refine lv_aload_n hx hb dX3_readEntry_157 rfl (lv_at hl 2 rfl) ?_
      refine va_get (D := D) (ci := 2) (v := .ref (q 5)) (C := RX3) (T := TX3) (N := 9) hx hb hts (by decide +kernel) hown hK hP 0 rfl rfl 3 (by decide) (hts (.fieldLink RX3 26 "TrapMachine" "buffer" "LTrapMachine$Buffer;") (by decide +kernel)) (fun _ h9 => h9) rfl dX3_readEntry_158 ?_
      refine lv_iload_n hx hb dX3_readEntry_161 rfl (lv_at hl 3 rfl) ?_
      refine lv_iconst (v := (2 : Int32)) hx hb dX3_readEntry_162 (by decide) ?_
      refine rd_call (r := (fX0_get u.2.2.2.1 a1 (2 : Int32))) (va_runVN (C := RX0) (b := (q 5)) (As := [.int a1, .int (2 : Int32)]) (rest := [.int (11 : Int32), .ref (q 3)]) ⟨hx, hb, hml, hown, hts⟩ (kX0_get l D k (q 5) (q 6) (fun j => q (7 + j)) u.2.2.2.1 a1 (2 : Int32) h1 (vi_k (by decide))) ⟨va_cnB 2 hts gX3_readEntry_X0_get_n83 rfl rfl rfl (hX.at 4 (q := (83, yX0_get)) rfl) (hts (.initialized RX0) (by decide +kernel)) (by decide +kernel) ⟨Nat.le_of_ble_eq_true rfl, Nat.le_of_ble_eq_true rfl⟩, (hts (.instanceMethod yX0_get) (by decide +kernel)), (hts (.selects RX0 yX0_get yX0_get) (by decide +kernel))⟩ (rd_preV bl_T pr_T hK (show va_P D vwCl (wB k (q 5) (q 6) (fun j => q (7 + j)) u.2.2.2.1) _ from hP.sub [5, 6, 7, 8, 9, 10] fmTB) (va_recv hK (show va_P D vwCl (wB k (q 5) (q 6) (fun j => q (7 + j)) u.2.2.2.1) _ from hP.sub [5, 6, 7, 8, 9, 10] fmTB) (ci := 0) (q0 := 0) rfl rfl)) rfl rfl hl.1 rfl (lv_room (Nat.le_of_ble_eq_true rfl)) dX3_readEntry_163 ⟨Nat.zero_le _, Nat.zero_le _⟩).run ?_
      obtain ⟨o13, h_o13⟩ : ∃ o9, (fX2_set o12 (11 : Int32) (fX0_get u.2.2.2.1 a1 (2 : Int32))) = o9 := ⟨_, rfl⟩
      refine wr_call (r := none) (ws' := wT k q (ts2 (ts2 (ts2 (ts2 (ts2 u o5) o10) o11) o12) o13)) (va_runVN (C := RX2) (b := (q 3)) (As := [.int (11 : Int32), .int (fX0_get u.2.2.2.1 a1 (2 : Int32))]) (rest := []) ⟨hx, hb, hml, hown, hts⟩ (kX2_set l D k (q 3) (q 4) o12 (11 : Int32) (fX0_get u.2.2.2.1 a1 (2 : Int32)) (vi_k (by decide)) o13 h_o13) ⟨va_cnB 2 hts gX3_readEntry_X2_set_n194 rfl rfl rfl (hX.at 13 (q := (194, yX2_set)) rfl) (hts (.initialized RX2) (by decide +kernel)) (by decide +kernel) ⟨Nat.le_of_ble_eq_true rfl, Nat.le_of_ble_eq_true rfl⟩, (hts (.instanceMethod yX2_set) (by decide +kernel)), (hts (.selects RX2 yX2_set yX2_set) (by decide +kernel))⟩ (wr_preV bl_T pr_T hK (show va_P D vwCl (wC k (q 3) (q 4) o12) _ from hP.sub [3, 4] fmTC) (show va_D (in_W (wT k q u)) (wC k (q 3) (q 4) o12) from hD.sub [3, 4] (by decide) subTC) (va_recv hK (show va_P D vwCl (wC k (q 3) (q 4) o12) _ from hP.sub [3, 4] fmTC) (ci := 1) (q0 := 0) rfl rfl)) rfl rfl hl.1 rfl (lv_room (Nat.le_of_ble_eq_true rfl)) dX3_readEntry_166 ⟨Nat.zero_le _, Nat.zero_le _⟩).run hP hD hS [3, 4] [0, 1, 2, 5, 6, 7, 8, 9, 10] [0, 1, 2, 9, 10, 3, 4, 5, 6, 7, 8] subTC (by decide) putTC adrT (fun H locs hP hD hS => ?_)
      exact W.vret hx hb hr (wr_end rfl (congrArg (wT k q) ((show fX3_readEntry u a1 = (ts2 (ts2 (ts2 (ts2 (ts2 u o5) o10) o11) o12) o13) from (by subst h_o5; subst h_o10; subst h_o11; subst h_o12; subst h_o13; exact (if_pos c_10).trans ((if_pos c_80).trans rfl))).symm.trans ho)) hP hS) hS.2.2 dX3_readEntry_169
def fX3_writeEntry (u : TM) (a1 : Int32) : TM :=
  if (fX2_isEmpty u.2.2.1) = (0 : Int32) then
    (ts3 (ts3 u (fX0_set u.2.2.2.1 a1 (1 : Int32) (iu (fX2_get u.2.2.1 (8 : Int32)) (7 : Int32)) (fX2_get u.2.2.1 (11 : Int32)))) (fX0_setHalves (fX0_set u.2.2.2.1 a1 (1 : Int32) (iu (fX2_get u.2.2.1 (8 : Int32)) (7 : Int32)) (fX2_get u.2.2.1 (11 : Int32))) a1 (fX2_get u.2.2.1 (9 : Int32)) (fX2_get u.2.2.1 (10 : Int32))))
  else
    if (fX2_code u.2.2.1) = (63 : Int32) then
      (ts3 (ts3 u (fX0_set u.2.2.2.1 a1 (1 : Int32) (iu (fX2_get u.2.2.1 (8 : Int32)) (7 : Int32)) (fX2_get u.2.2.1 (11 : Int32)))) (fX0_setHalves (fX0_set u.2.2.2.1 a1 (1 : Int32) (iu (fX2_get u.2.2.1 (8 : Int32)) (7 : Int32)) (fX2_get u.2.2.1 (11 : Int32))) a1 (fX2_get u.2.2.1 (9 : Int32)) (fX2_get u.2.2.1 (10 : Int32))))
    else
      (ts3 (ts3 u (fX0_set u.2.2.2.1 a1 (0 : Int32) (iu (fX2_get u.2.2.1 (8 : Int32)) (7 : Int32)) (fX2_get u.2.2.1 (11 : Int32)))) (fX0_setHalves (fX0_set u.2.2.2.1 a1 (0 : Int32) (iu (fX2_get u.2.2.1 (8 : Int32)) (7 : Int32)) (fX2_get u.2.2.1 (11 : Int32))) a1 (fX2_get u.2.2.1 (9 : Int32)) (fX2_get u.2.2.1 (10 : Int32))))
set_option maxHeartbeats 4000000 in
set_option maxRecDepth 100000 in
theorem kX3_writeEntry (l : Launch) (D : va_G) (k : Nat → ClassId) (q : Nat → Nat) (u : TM) (a1 : Int32) (h1 : vp_in a1 4) (o : TM) (ho : fX3_writeEntry u a1 = o) : Met l yX3_writeEntry wsX3_writeEntry { frames := 1, cells := 0, slots := 0, locals := 24 } (wr_P D vwCl (tyL k) (wT k q u) NL [.ref (q 0), .int a1]) (wr_Q D vwCl none (wT k q u) (wT k q o)) 0 0 (in_W (wT k q u)) := by
  refine Met.ofW (cc := cX3_writeEntry) (maxL := 3) (ret := none) (by decide) rfl ?_
  intro p e s m args below meth c s₁ B hml hv0
  obtain ⟨rfl, hP, hK, hX, hD0⟩ := hv0
  have hx := B.exec
  have hb := B.bytes
  have hr := B.returns
  have hts := atoms_spec (ws := wsX3_writeEntry) B.pre
  have hown : s.vm.findClass RX3 = some m.cls := findClass_of_methodNamed B.named
  have hlocks := B.notSynchronized
  have hD : va_D (in_W (wT k q u)) (wT k q u) := wD_self hD0
  have hS : va_S (in_W (wT k q u)) s.heap s.heap [] := va_S.rf
  have hl := lv_entry ([.ref (q 0), .int a1]) (n := 3) (Nat.le_of_ble_eq_true rfl)
  rw [lg_entry_eq]
  generalize (lg_sl ([.ref (q 0), .int a1]) ++ List.replicate (3 - (lg_sl ([.ref (q 0), .int a1])).length) Slot.unset).toArray = ls at hl ⊢
  have hl : lv_has ls 3 [(0, .ref (q 0)), (1, .int a1)] := hl
  refine lv_aload_n hx hb dX3_writeEntry_0 rfl (lv_at hl 0 rfl) ?_
  refine va_get (D := D) (ci := 2) (v := .ref (q 3)) (C := RX3) (T := TX3) (N := 9) hx hb hts (by decide +kernel) hown hK hP 0 rfl rfl 2 (by decide) (hts (.fieldLink RX3 19 "TrapMachine" "controls" "LTrapMachine$Controls;") (by decide +kernel)) (fun _ h9 => h9) rfl dX3_writeEntry_1 ?_
  refine rd_call (r := (fX2_isEmpty u.2.2.1)) (va_runVN (C := RX2) (b := (q 3)) (As := []) (rest := []) ⟨hx, hb, hml, hown, hts⟩ (kX2_isEmpty l D k (q 3) (q 4) u.2.2.1) ⟨va_cnB 0 hts gX3_writeEntry_X2_isEmpty_n197 rfl rfl rfl (hX.at 14 (q := (197, yX2_isEmpty)) rfl) (hts (.initialized RX2) (by decide +kernel)) (by decide +kernel) ⟨Nat.le_of_ble_eq_true rfl, Nat.le_of_ble_eq_true rfl⟩, (hts (.instanceMethod yX2_isEmpty) (by decide +kernel)), (hts (.selects RX2 yX2_isEmpty yX2_isEmpty) (by decide +kernel))⟩ (rd_preV bl_T pr_T hK (show va_P D vwCl (wC k (q 3) (q 4) u.2.2.1) _ from hP.sub [3, 4] fmTC) (va_recv hK (show va_P D vwCl (wC k (q 3) (q 4) u.2.2.1) _ from hP.sub [3, 4] fmTC) (ci := 1) (q0 := 0) rfl rfl)) rfl rfl hl.1 rfl (lv_room (Nat.le_of_ble_eq_true rfl)) dX3_writeEntry_4 ⟨Nat.zero_le _, Nat.zero_le _⟩).run ?_
  refine lv_if_eq (tgt := 22) hx hb dX3_writeEntry_7 (by decide) (fun c_7 => ?_) (fun c_7 => ?_)
  · refine lv_iconst (v := (1 : Int32)) hx hb dX3_writeEntry_22 (by decide) ?_
    refine lv_goto (tgt := 27) hx hb dX3_writeEntry_23 (by decide) ?_
    refine lv_istore_n (lv' := [(2, .int (1 : Int32)), (0, .ref (q 0)), (1, .int a1)]) hx hb dX3_writeEntry_27 rfl hl (by decide) rfl (fun ls hl => ?_)
    refine lv_aload_n hx hb dX3_writeEntry_28 rfl (lv_at hl 1 rfl) ?_
    refine va_get (D := D) (ci := 2) (v := .ref (q 5)) (C := RX3) (T := TX3) (N := 9) hx hb hts (by decide +kernel) hown hK hP 0 rfl rfl 3 (by decide) (hts (.fieldLink RX3 26 "TrapMachine" "buffer" "LTrapMachine$Buffer;") (by decide +kernel)) (fun _ h9 => h9) rfl dX3_writeEntry_29 ?_
    refine lv_iload_n hx hb dX3_writeEntry_32 rfl (lv_at hl 2 rfl) ?_
    refine lv_iload_n hx hb dX3_writeEntry_33 rfl (lv_at hl 0 rfl) ?_
    refine lv_aload_n hx hb dX3_writeEntry_34 rfl (lv_at hl 1 rfl) ?_
    refine va_get (D := D) (ci := 2) (v := .ref (q 3)) (C := RX3) (T := TX3) (N := 9) hx hb hts (by decide +kernel) hown hK hP 0 rfl rfl 2 (by decide) (hts (.fieldLink RX3 19 "TrapMachine" "controls" "LTrapMachine$Controls;") (by decide +kernel)) (fun _ h9 => h9) rfl dX3_writeEntry_35 ?_
    refine lv_bipush (v := (8 : Int32)) hx hb dX3_writeEntry_38 (by decide) ?_
    refine rd_call (r := (fX2_get u.2.2.1 (8 : Int32))) (va_runVN (C := RX2) (b := (q 3)) (As := [.int (8 : Int32)]) (rest := [.int (1 : Int32), .int a1, .ref (q 5)]) ⟨hx, hb, hml, hown, hts⟩ (kX2_get l D k (q 3) (q 4) u.2.2.1 (8 : Int32) (vi_k (by decide))) ⟨va_cnB 1 hts gX3_writeEntry_X2_get_n77 rfl rfl rfl (hX.at 3 (q := (77, yX2_get)) rfl) (hts (.initialized RX2) (by decide +kernel)) (by decide +kernel) ⟨Nat.le_of_ble_eq_true rfl, Nat.le_of_ble_eq_true rfl⟩, (hts (.instanceMethod yX2_get) (by decide +kernel)), (hts (.selects RX2 yX2_get yX2_get) (by decide +kernel))⟩ (rd_preV bl_T pr_T hK (show va_P D vwCl (wC k (q 3) (q 4) u.2.2.1) _ from hP.sub [3, 4] fmTC) (va_recv hK (show va_P D vwCl (wC k (q 3) (q 4) u.2.2.1) _ from hP.sub [3, 4] fmTC) (ci := 1) (q0 := 0) rfl rfl)) rfl rfl hl.1 rfl (lv_room (Nat.le_of_ble_eq_true rfl)) dX3_writeEntry_40 ⟨Nat.zero_le _, Nat.zero_le _⟩).run ?_
    refine lv_bipush (v := (7 : Int32)) hx hb dX3_writeEntry_43 (by decide) ?_
    refine lv_iushr (v := (iu (fX2_get u.2.2.1 (8 : Int32)) (7 : Int32))) hx hb dX3_writeEntry_45 rfl ?_
    refine lv_aload_n hx hb dX3_writeEntry_46 rfl (lv_at hl 1 rfl) ?_
    refine va_get (D := D) (ci := 2) (v := .ref (q 3)) (C := RX3) (T := TX3) (N := 9) hx hb hts (by decide +kernel) hown hK hP 0 rfl rfl 2 (by decide) (hts (.fieldLink RX3 19 "TrapMachine" "controls" "LTrapMachine$Controls;") (by decide +kernel)) (fun _ h9 => h9) rfl dX3_writeEntry_47 ?_
    refine lv_bipush (v := (11 : Int32)) hx hb dX3_writeEntry_50 (by decide) ?_
    refine rd_call (r := (fX2_get u.2.2.1 (11 : Int32))) (va_runVN (C := RX2) (b := (q 3)) (As := [.int (11 : Int32)]) (rest := [.int (iu (fX2_get u.2.2.1 (8 : Int32)) (7 : Int32)), .int (1 : Int32), .int a1, .ref (q 5)]) ⟨hx, hb, hml, hown, hts⟩ (kX2_get l D k (q 3) (q 4) u.2.2.1 (11 : Int32) (vi_k (by decide))) ⟨va_cnB 1 hts gX3_writeEntry_X2_get_n77 rfl rfl rfl (hX.at 3 (q := (77, yX2_get)) rfl) (hts (.initialized RX2) (by decide +kernel)) (by decide +kernel) ⟨Nat.le_of_ble_eq_true rfl, Nat.le_of_ble_eq_true rfl⟩, (hts (.instanceMethod yX2_get) (by decide +kernel)), (hts (.selects RX2 yX2_get yX2_get) (by decide +kernel))⟩ (rd_preV bl_T pr_T hK (show va_P D vwCl (wC k (q 3) (q 4) u.2.2.1) _ from hP.sub [3, 4] fmTC) (va_recv hK (show va_P D vwCl (wC k (q 3) (q 4) u.2.2.1) _ from hP.sub [3, 4] fmTC) (ci := 1) (q0 := 0) rfl rfl)) rfl rfl hl.1 rfl (lv_room (Nat.le_of_ble_eq_true rfl)) dX3_writeEntry_52 ⟨Nat.zero_le _, Nat.zero_le _⟩).run ?_
    obtain ⟨o1, h_o1⟩ : ∃ o9, (fX0_set u.2.2.2.1 a1 (1 : Int32) (iu (fX2_get u.2.2.1 (8 : Int32)) (7 : Int32)) (fX2_get u.2.2.1 (11 : Int32))) = o9 := ⟨_, rfl⟩
    refine wr_call (r := none) (ws' := wT k q (ts3 u o1)) (va_runVN (C := RX0) (b := (q 5)) (As := [.int a1, .int (1 : Int32), .int (iu (fX2_get u.2.2.1 (8 : Int32)) (7 : Int32)), .int (fX2_get u.2.2.1 (11 : Int32))]) (rest := []) ⟨hx, hb, hml, hown, hts⟩ (kX0_set l D k (q 5) (q 6) (fun j => q (7 + j)) u.2.2.2.1 a1 (1 : Int32) (iu (fX2_get u.2.2.1 (8 : Int32)) (7 : Int32)) (fX2_get u.2.2.1 (11 : Int32)) h1 o1 h_o1) ⟨va_cnB 4 hts gX3_writeEntry_X0_set_n203 rfl rfl rfl (hX.at 16 (q := (203, yX0_set)) rfl) (hts (.initialized RX0) (by decide +kernel)) (by decide +kernel) ⟨Nat.le_of_ble_eq_true rfl, Nat.le_of_ble_eq_true rfl⟩, (hts (.instanceMethod yX0_set) (by decide +kernel)), (hts (.selects RX0 yX0_set yX0_set) (by decide +kernel))⟩ (wr_preV bl_T pr_T hK (show va_P D vwCl (wB k (q 5) (q 6) (fun j => q (7 + j)) u.2.2.2.1) _ from hP.sub [5, 6, 7, 8, 9, 10] fmTB) (show va_D (in_W (wT k q u)) (wB k (q 5) (q 6) (fun j => q (7 + j)) u.2.2.2.1) from hD.sub [5, 6, 7, 8, 9, 10] (by decide) subTB) (va_recv hK (show va_P D vwCl (wB k (q 5) (q 6) (fun j => q (7 + j)) u.2.2.2.1) _ from hP.sub [5, 6, 7, 8, 9, 10] fmTB) (ci := 0) (q0 := 0) rfl rfl)) rfl rfl hl.1 rfl (lv_room (Nat.le_of_ble_eq_true rfl)) dX3_writeEntry_55 ⟨Nat.zero_le _, Nat.zero_le _⟩).run hP hD hS [5, 6, 7, 8, 9, 10] [0, 1, 2, 3, 4] [0, 1, 2, 3, 4, 5, 6, 7, 8, 9, 10] subTB (by decide) putTB adrT (fun H locs hP hD hS => ?_)
    refine lv_aload_n hx hb dX3_writeEntry_58 rfl (lv_at hl 1 rfl) ?_
    refine va_get (D := D) (ci := 2) (v := .ref (q 5)) (C := RX3) (T := TX3) (N := 9) hx hb hts (by decide +kernel) hown hK hP 0 rfl rfl 3 (by decide) (hts (.fieldLink RX3 26 "TrapMachine" "buffer" "LTrapMachine$Buffer;") (by decide +kernel)) (fun _ h9 => h9) rfl dX3_writeEntry_59 ?_
    refine lv_iload_n hx hb dX3_writeEntry_62 rfl (lv_at hl 2 rfl) ?_
    refine lv_aload_n hx hb dX3_writeEntry_63 rfl (lv_at hl 1 rfl) ?_
    refine va_get (D := D) (ci := 2) (v := .ref (q 3)) (C := RX3) (T := TX3) (N := 9) hx hb hts (by decide +kernel) hown hK hP 0 rfl rfl 2 (by decide) (hts (.fieldLink RX3 19 "TrapMachine" "controls" "LTrapMachine$Controls;") (by decide +kernel)) (fun _ h9 => h9) rfl dX3_writeEntry_64 ?_
    refine lv_bipush (v := (9 : Int32)) hx hb dX3_writeEntry_67 (by decide) ?_
    refine rd_call (r := (fX2_get u.2.2.1 (9 : Int32))) (va_runVN (C := RX2) (b := (q 3)) (As := [.int (9 : Int32)]) (rest := [.int a1, .ref (q 5)]) ⟨hx, hb, hml, hown, hts⟩ (kX2_get l D k (q 3) (q 4) u.2.2.1 (9 : Int32) (vi_k (by decide))) ⟨va_cnB 1 hts gX3_writeEntry_X2_get_n77 rfl rfl rfl (hX.at 3 (q := (77, yX2_get)) rfl) (hts (.initialized RX2) (by decide +kernel)) (by decide +kernel) ⟨Nat.le_of_ble_eq_true rfl, Nat.le_of_ble_eq_true rfl⟩, (hts (.instanceMethod yX2_get) (by decide +kernel)), (hts (.selects RX2 yX2_get yX2_get) (by decide +kernel))⟩ (rd_preV bl_T pr_T hK (show va_P D vwCl (wC k (q 3) (q 4) u.2.2.1) _ from hP.sub [3, 4] fmTC) (va_recv hK (show va_P D vwCl (wC k (q 3) (q 4) u.2.2.1) _ from hP.sub [3, 4] fmTC) (ci := 1) (q0 := 0) rfl rfl)) rfl rfl hl.1 rfl (lv_room (Nat.le_of_ble_eq_true rfl)) dX3_writeEntry_69 ⟨Nat.zero_le _, Nat.zero_le _⟩).run ?_
    refine lv_aload_n hx hb dX3_writeEntry_72 rfl (lv_at hl 1 rfl) ?_
    refine va_get (D := D) (ci := 2) (v := .ref (q 3)) (C := RX3) (T := TX3) (N := 9) hx hb hts (by decide +kernel) hown hK hP 0 rfl rfl 2 (by decide) (hts (.fieldLink RX3 19 "TrapMachine" "controls" "LTrapMachine$Controls;") (by decide +kernel)) (fun _ h9 => h9) rfl dX3_writeEntry_73 ?_
    refine lv_bipush (v := (10 : Int32)) hx hb dX3_writeEntry_76 (by decide) ?_
    refine rd_call (r := (fX2_get u.2.2.1 (10 : Int32))) (va_runVN (C := RX2) (b := (q 3)) (As := [.int (10 : Int32)]) (rest := [.int (fX2_get u.2.2.1 (9 : Int32)), .int a1, .ref (q 5)]) ⟨hx, hb, hml, hown, hts⟩ (kX2_get l D k (q 3) (q 4) u.2.2.1 (10 : Int32) (vi_k (by decide))) ⟨va_cnB 1 hts gX3_writeEntry_X2_get_n77 rfl rfl rfl (hX.at 3 (q := (77, yX2_get)) rfl) (hts (.initialized RX2) (by decide +kernel)) (by decide +kernel) ⟨Nat.le_of_ble_eq_true rfl, Nat.le_of_ble_eq_true rfl⟩, (hts (.instanceMethod yX2_get) (by decide +kernel)), (hts (.selects RX2 yX2_get yX2_get) (by decide +kernel))⟩ (rd_preV bl_T pr_T hK (show va_P D vwCl (wC k (q 3) (q 4) u.2.2.1) _ from hP.sub [3, 4] fmTC) (va_recv hK (show va_P D vwCl (wC k (q 3) (q 4) u.2.2.1) _ from hP.sub [3, 4] fmTC) (ci := 1) (q0 := 0) rfl rfl)) rfl rfl hl.1 rfl (lv_room (Nat.le_of_ble_eq_true rfl)) dX3_writeEntry_78 ⟨Nat.zero_le _, Nat.zero_le _⟩).run ?_
    obtain ⟨o2, h_o2⟩ : ∃ o9, (fX0_setHalves o1 a1 (fX2_get u.2.2.1 (9 : Int32)) (fX2_get u.2.2.1 (10 : Int32))) = o9 := ⟨_, rfl⟩
    refine wr_call (r := none) (ws' := wT k q (ts3 (ts3 u o1) o2)) (va_runVN (C := RX0) (b := (q 5)) (As := [.int a1, .int (fX2_get u.2.2.1 (9 : Int32)), .int (fX2_get u.2.2.1 (10 : Int32))]) (rest := []) ⟨hx, hb, hml, hown, hts⟩ (kX0_setHalves l D k (q 5) (q 6) (fun j => q (7 + j)) o1 a1 (fX2_get u.2.2.1 (9 : Int32)) (fX2_get u.2.2.1 (10 : Int32)) h1 o2 h_o2) ⟨va_cnB 3 hts gX3_writeEntry_X0_setHalves_n206 rfl rfl rfl (hX.at 17 (q := (206, yX0_setHalves)) rfl) (hts (.initialized RX0) (by decide +kernel)) (by decide +kernel) ⟨Nat.le_of_ble_eq_true rfl, Nat.le_of_ble_eq_true rfl⟩, (hts (.instanceMethod yX0_setHalves) (by decide +kernel)), (hts (.selects RX0 yX0_setHalves yX0_setHalves) (by decide +kernel))⟩ (wr_preV bl_T pr_T hK (show va_P D vwCl (wB k (q 5) (q 6) (fun j => q (7 + j)) o1) _ from hP.sub [5, 6, 7, 8, 9, 10] fmTB) (show va_D (in_W (wT k q u)) (wB k (q 5) (q 6) (fun j => q (7 + j)) o1) from hD.sub [5, 6, 7, 8, 9, 10] (by decide) subTB) (va_recv hK (show va_P D vwCl (wB k (q 5) (q 6) (fun j => q (7 + j)) o1) _ from hP.sub [5, 6, 7, 8, 9, 10] fmTB) (ci := 0) (q0 := 0) rfl rfl)) rfl rfl hl.1 rfl (lv_room (Nat.le_of_ble_eq_true rfl)) dX3_writeEntry_81 ⟨Nat.zero_le _, Nat.zero_le _⟩).run hP hD hS [5, 6, 7, 8, 9, 10] [0, 1, 2, 3, 4] [0, 1, 2, 3, 4, 5, 6, 7, 8, 9, 10] subTB (by decide) putTB adrT (fun H locs hP hD hS => ?_)
    exact W.vret hx hb hr (wr_end rfl (congrArg (wT k q) ((show fX3_writeEntry u a1 = (ts3 (ts3 u o1) o2) from (by subst h_o1; subst h_o2; exact (if_pos c_7).trans rfl)).symm.trans ho)) hP hS) hS.2.2 dX3_writeEntry_84
  · refine lv_aload_n hx hb dX3_writeEntry_10 rfl (lv_at hl 0 rfl) ?_
    refine va_get (D := D) (ci := 2) (v := .ref (q 3)) (C := RX3) (T := TX3) (N := 9) hx hb hts (by decide +kernel) hown hK hP 0 rfl rfl 2 (by decide) (hts (.fieldLink RX3 19 "TrapMachine" "controls" "LTrapMachine$Controls;") (by decide +kernel)) (fun _ h9 => h9) rfl dX3_writeEntry_11 ?_
    refine rd_call (r := (fX2_code u.2.2.1)) (va_runVN (C := RX2) (b := (q 3)) (As := []) (rest := []) ⟨hx, hb, hml, hown, hts⟩ (kX2_code l D k (q 3) (q 4) u.2.2.1) ⟨va_cnB 0 hts gX3_writeEntry_X2_code_n200 rfl rfl rfl (hX.at 15 (q := (200, yX2_code)) rfl) (hts (.initialized RX2) (by decide +kernel)) (by decide +kernel) ⟨Nat.le_of_ble_eq_true rfl, Nat.le_of_ble_eq_true rfl⟩, (hts (.instanceMethod yX2_code) (by decide +kernel)), (hts (.selects RX2 yX2_code yX2_code) (by decide +kernel))⟩ (rd_preV bl_T pr_T hK (show va_P D vwCl (wC k (q 3) (q 4) u.2.2.1) _ from hP.sub [3, 4] fmTC) (va_recv hK (show va_P D vwCl (wC k (q 3) (q 4) u.2.2.1) _ from hP.sub [3, 4] fmTC) (ci := 1) (q0 := 0) rfl rfl)) rfl rfl hl.1 rfl (lv_room (Nat.le_of_ble_eq_true rfl)) dX3_writeEntry_14 ⟨Nat.zero_le _, Nat.zero_le _⟩).run ?_
    refine lv_bipush (v := (63 : Int32)) hx hb dX3_writeEntry_17 (by decide) ?_
    refine lv_icmp_ne (tgt := 26) hx hb dX3_writeEntry_19 (by decide) (fun c_19 => ?_) (fun c_19 => ?_)
    · refine lv_iconst (v := (0 : Int32)) hx hb dX3_writeEntry_26 (by decide) ?_
      refine lv_istore_n (lv' := [(2, .int (0 : Int32)), (0, .ref (q 0)), (1, .int a1)]) hx hb dX3_writeEntry_27 rfl hl (by decide) rfl (fun ls hl => ?_)
      refine lv_aload_n hx hb dX3_writeEntry_28 rfl (lv_at hl 1 rfl) ?_
      refine va_get (D := D) (ci := 2) (v := .ref (q 5)) (C := RX3) (T := TX3) (N := 9) hx hb hts (by decide +kernel) hown hK hP 0 rfl rfl 3 (by decide) (hts (.fieldLink RX3 26 "TrapMachine" "buffer" "LTrapMachine$Buffer;") (by decide +kernel)) (fun _ h9 => h9) rfl dX3_writeEntry_29 ?_
      refine lv_iload_n hx hb dX3_writeEntry_32 rfl (lv_at hl 2 rfl) ?_
      refine lv_iload_n hx hb dX3_writeEntry_33 rfl (lv_at hl 0 rfl) ?_
      refine lv_aload_n hx hb dX3_writeEntry_34 rfl (lv_at hl 1 rfl) ?_
      refine va_get (D := D) (ci := 2) (v := .ref (q 3)) (C := RX3) (T := TX3) (N := 9) hx hb hts (by decide +kernel) hown hK hP 0 rfl rfl 2 (by decide) (hts (.fieldLink RX3 19 "TrapMachine" "controls" "LTrapMachine$Controls;") (by decide +kernel)) (fun _ h9 => h9) rfl dX3_writeEntry_35 ?_
      refine lv_bipush (v := (8 : Int32)) hx hb dX3_writeEntry_38 (by decide) ?_
      refine rd_call (r := (fX2_get u.2.2.1 (8 : Int32))) (va_runVN (C := RX2) (b := (q 3)) (As := [.int (8 : Int32)]) (rest := [.int (0 : Int32), .int a1, .ref (q 5)]) ⟨hx, hb, hml, hown, hts⟩ (kX2_get l D k (q 3) (q 4) u.2.2.1 (8 : Int32) (vi_k (by decide))) ⟨va_cnB 1 hts gX3_writeEntry_X2_get_n77 rfl rfl rfl (hX.at 3 (q := (77, yX2_get)) rfl) (hts (.initialized RX2) (by decide +kernel)) (by decide +kernel) ⟨Nat.le_of_ble_eq_true rfl, Nat.le_of_ble_eq_true rfl⟩, (hts (.instanceMethod yX2_get) (by decide +kernel)), (hts (.selects RX2 yX2_get yX2_get) (by decide +kernel))⟩ (rd_preV bl_T pr_T hK (show va_P D vwCl (wC k (q 3) (q 4) u.2.2.1) _ from hP.sub [3, 4] fmTC) (va_recv hK (show va_P D vwCl (wC k (q 3) (q 4) u.2.2.1) _ from hP.sub [3, 4] fmTC) (ci := 1) (q0 := 0) rfl rfl)) rfl rfl hl.1 rfl (lv_room (Nat.le_of_ble_eq_true rfl)) dX3_writeEntry_40 ⟨Nat.zero_le _, Nat.zero_le _⟩).run ?_
      refine lv_bipush (v := (7 : Int32)) hx hb dX3_writeEntry_43 (by decide) ?_
      refine lv_iushr (v := (iu (fX2_get u.2.2.1 (8 : Int32)) (7 : Int32))) hx hb dX3_writeEntry_45 rfl ?_
      refine lv_aload_n hx hb dX3_writeEntry_46 rfl (lv_at hl 1 rfl) ?_
      refine va_get (D := D) (ci := 2) (v := .ref (q 3)) (C := RX3) (T := TX3) (N := 9) hx hb hts (by decide +kernel) hown hK hP 0 rfl rfl 2 (by decide) (hts (.fieldLink RX3 19 "TrapMachine" "controls" "LTrapMachine$Controls;") (by decide +kernel)) (fun _ h9 => h9) rfl dX3_writeEntry_47 ?_
      refine lv_bipush (v := (11 : Int32)) hx hb dX3_writeEntry_50 (by decide) ?_
      refine rd_call (r := (fX2_get u.2.2.1 (11 : Int32))) (va_runVN (C := RX2) (b := (q 3)) (As := [.int (11 : Int32)]) (rest := [.int (iu (fX2_get u.2.2.1 (8 : Int32)) (7 : Int32)), .int (0 : Int32), .int a1, .ref (q 5)]) ⟨hx, hb, hml, hown, hts⟩ (kX2_get l D k (q 3) (q 4) u.2.2.1 (11 : Int32) (vi_k (by decide))) ⟨va_cnB 1 hts gX3_writeEntry_X2_get_n77 rfl rfl rfl (hX.at 3 (q := (77, yX2_get)) rfl) (hts (.initialized RX2) (by decide +kernel)) (by decide +kernel) ⟨Nat.le_of_ble_eq_true rfl, Nat.le_of_ble_eq_true rfl⟩, (hts (.instanceMethod yX2_get) (by decide +kernel)), (hts (.selects RX2 yX2_get yX2_get) (by decide +kernel))⟩ (rd_preV bl_T pr_T hK (show va_P D vwCl (wC k (q 3) (q 4) u.2.2.1) _ from hP.sub [3, 4] fmTC) (va_recv hK (show va_P D vwCl (wC k (q 3) (q 4) u.2.2.1) _ from hP.sub [3, 4] fmTC) (ci := 1) (q0 := 0) rfl rfl)) rfl rfl hl.1 rfl (lv_room (Nat.le_of_ble_eq_true rfl)) dX3_writeEntry_52 ⟨Nat.zero_le _, Nat.zero_le _⟩).run ?_
      obtain ⟨o3, h_o3⟩ : ∃ o9, (fX0_set u.2.2.2.1 a1 (0 : Int32) (iu (fX2_get u.2.2.1 (8 : Int32)) (7 : Int32)) (fX2_get u.2.2.1 (11 : Int32))) = o9 := ⟨_, rfl⟩
      refine wr_call (r := none) (ws' := wT k q (ts3 u o3)) (va_runVN (C := RX0) (b := (q 5)) (As := [.int a1, .int (0 : Int32), .int (iu (fX2_get u.2.2.1 (8 : Int32)) (7 : Int32)), .int (fX2_get u.2.2.1 (11 : Int32))]) (rest := []) ⟨hx, hb, hml, hown, hts⟩ (kX0_set l D k (q 5) (q 6) (fun j => q (7 + j)) u.2.2.2.1 a1 (0 : Int32) (iu (fX2_get u.2.2.1 (8 : Int32)) (7 : Int32)) (fX2_get u.2.2.1 (11 : Int32)) h1 o3 h_o3) ⟨va_cnB 4 hts gX3_writeEntry_X0_set_n203 rfl rfl rfl (hX.at 16 (q := (203, yX0_set)) rfl) (hts (.initialized RX0) (by decide +kernel)) (by decide +kernel) ⟨Nat.le_of_ble_eq_true rfl, Nat.le_of_ble_eq_true rfl⟩, (hts (.instanceMethod yX0_set) (by decide +kernel)), (hts (.selects RX0 yX0_set yX0_set) (by decide +kernel))⟩ (wr_preV bl_T pr_T hK (show va_P D vwCl (wB k (q 5) (q 6) (fun j => q (7 + j)) u.2.2.2.1) _ from hP.sub [5, 6, 7, 8, 9, 10] fmTB) (show va_D (in_W (wT k q u)) (wB k (q 5) (q 6) (fun j => q (7 + j)) u.2.2.2.1) from hD.sub [5, 6, 7, 8, 9, 10] (by decide) subTB) (va_recv hK (show va_P D vwCl (wB k (q 5) (q 6) (fun j => q (7 + j)) u.2.2.2.1) _ from hP.sub [5, 6, 7, 8, 9, 10] fmTB) (ci := 0) (q0 := 0) rfl rfl)) rfl rfl hl.1 rfl (lv_room (Nat.le_of_ble_eq_true rfl)) dX3_writeEntry_55 ⟨Nat.zero_le _, Nat.zero_le _⟩).run hP hD hS [5, 6, 7, 8, 9, 10] [0, 1, 2, 3, 4] [0, 1, 2, 3, 4, 5, 6, 7, 8, 9, 10] subTB (by decide) putTB adrT (fun H locs hP hD hS => ?_)
      refine lv_aload_n hx hb dX3_writeEntry_58 rfl (lv_at hl 1 rfl) ?_
      refine va_get (D := D) (ci := 2) (v := .ref (q 5)) (C := RX3) (T := TX3) (N := 9) hx hb hts (by decide +kernel) hown hK hP 0 rfl rfl 3 (by decide) (hts (.fieldLink RX3 26 "TrapMachine" "buffer" "LTrapMachine$Buffer;") (by decide +kernel)) (fun _ h9 => h9) rfl dX3_writeEntry_59 ?_
      refine lv_iload_n hx hb dX3_writeEntry_62 rfl (lv_at hl 2 rfl) ?_
      refine lv_aload_n hx hb dX3_writeEntry_63 rfl (lv_at hl 1 rfl) ?_
      refine va_get (D := D) (ci := 2) (v := .ref (q 3)) (C := RX3) (T := TX3) (N := 9) hx hb hts (by decide +kernel) hown hK hP 0 rfl rfl 2 (by decide) (hts (.fieldLink RX3 19 "TrapMachine" "controls" "LTrapMachine$Controls;") (by decide +kernel)) (fun _ h9 => h9) rfl dX3_writeEntry_64 ?_
      refine lv_bipush (v := (9 : Int32)) hx hb dX3_writeEntry_67 (by decide) ?_
      refine rd_call (r := (fX2_get u.2.2.1 (9 : Int32))) (va_runVN (C := RX2) (b := (q 3)) (As := [.int (9 : Int32)]) (rest := [.int a1, .ref (q 5)]) ⟨hx, hb, hml, hown, hts⟩ (kX2_get l D k (q 3) (q 4) u.2.2.1 (9 : Int32) (vi_k (by decide))) ⟨va_cnB 1 hts gX3_writeEntry_X2_get_n77 rfl rfl rfl (hX.at 3 (q := (77, yX2_get)) rfl) (hts (.initialized RX2) (by decide +kernel)) (by decide +kernel) ⟨Nat.le_of_ble_eq_true rfl, Nat.le_of_ble_eq_true rfl⟩, (hts (.instanceMethod yX2_get) (by decide +kernel)), (hts (.selects RX2 yX2_get yX2_get) (by decide +kernel))⟩ (rd_preV bl_T pr_T hK (show va_P D vwCl (wC k (q 3) (q 4) u.2.2.1) _ from hP.sub [3, 4] fmTC) (va_recv hK (show va_P D vwCl (wC k (q 3) (q 4) u.2.2.1) _ from hP.sub [3, 4] fmTC) (ci := 1) (q0 := 0) rfl rfl)) rfl rfl hl.1 rfl (lv_room (Nat.le_of_ble_eq_true rfl)) dX3_writeEntry_69 ⟨Nat.zero_le _, Nat.zero_le _⟩).run ?_
      refine lv_aload_n hx hb dX3_writeEntry_72 rfl (lv_at hl 1 rfl) ?_
      refine va_get (D := D) (ci := 2) (v := .ref (q 3)) (C := RX3) (T := TX3) (N := 9) hx hb hts (by decide +kernel) hown hK hP 0 rfl rfl 2 (by decide) (hts (.fieldLink RX3 19 "TrapMachine" "controls" "LTrapMachine$Controls;") (by decide +kernel)) (fun _ h9 => h9) rfl dX3_writeEntry_73 ?_
      refine lv_bipush (v := (10 : Int32)) hx hb dX3_writeEntry_76 (by decide) ?_
      refine rd_call (r := (fX2_get u.2.2.1 (10 : Int32))) (va_runVN (C := RX2) (b := (q 3)) (As := [.int (10 : Int32)]) (rest := [.int (fX2_get u.2.2.1 (9 : Int32)), .int a1, .ref (q 5)]) ⟨hx, hb, hml, hown, hts⟩ (kX2_get l D k (q 3) (q 4) u.2.2.1 (10 : Int32) (vi_k (by decide))) ⟨va_cnB 1 hts gX3_writeEntry_X2_get_n77 rfl rfl rfl (hX.at 3 (q := (77, yX2_get)) rfl) (hts (.initialized RX2) (by decide +kernel)) (by decide +kernel) ⟨Nat.le_of_ble_eq_true rfl, Nat.le_of_ble_eq_true rfl⟩, (hts (.instanceMethod yX2_get) (by decide +kernel)), (hts (.selects RX2 yX2_get yX2_get) (by decide +kernel))⟩ (rd_preV bl_T pr_T hK (show va_P D vwCl (wC k (q 3) (q 4) u.2.2.1) _ from hP.sub [3, 4] fmTC) (va_recv hK (show va_P D vwCl (wC k (q 3) (q 4) u.2.2.1) _ from hP.sub [3, 4] fmTC) (ci := 1) (q0 := 0) rfl rfl)) rfl rfl hl.1 rfl (lv_room (Nat.le_of_ble_eq_true rfl)) dX3_writeEntry_78 ⟨Nat.zero_le _, Nat.zero_le _⟩).run ?_
      obtain ⟨o4, h_o4⟩ : ∃ o9, (fX0_setHalves o3 a1 (fX2_get u.2.2.1 (9 : Int32)) (fX2_get u.2.2.1 (10 : Int32))) = o9 := ⟨_, rfl⟩
      refine wr_call (r := none) (ws' := wT k q (ts3 (ts3 u o3) o4)) (va_runVN (C := RX0) (b := (q 5)) (As := [.int a1, .int (fX2_get u.2.2.1 (9 : Int32)), .int (fX2_get u.2.2.1 (10 : Int32))]) (rest := []) ⟨hx, hb, hml, hown, hts⟩ (kX0_setHalves l D k (q 5) (q 6) (fun j => q (7 + j)) o3 a1 (fX2_get u.2.2.1 (9 : Int32)) (fX2_get u.2.2.1 (10 : Int32)) h1 o4 h_o4) ⟨va_cnB 3 hts gX3_writeEntry_X0_setHalves_n206 rfl rfl rfl (hX.at 17 (q := (206, yX0_setHalves)) rfl) (hts (.initialized RX0) (by decide +kernel)) (by decide +kernel) ⟨Nat.le_of_ble_eq_true rfl, Nat.le_of_ble_eq_true rfl⟩, (hts (.instanceMethod yX0_setHalves) (by decide +kernel)), (hts (.selects RX0 yX0_setHalves yX0_setHalves) (by decide +kernel))⟩ (wr_preV bl_T pr_T hK (show va_P D vwCl (wB k (q 5) (q 6) (fun j => q (7 + j)) o3) _ from hP.sub [5, 6, 7, 8, 9, 10] fmTB) (show va_D (in_W (wT k q u)) (wB k (q 5) (q 6) (fun j => q (7 + j)) o3) from hD.sub [5, 6, 7, 8, 9, 10] (by decide) subTB) (va_recv hK (show va_P D vwCl (wB k (q 5) (q 6) (fun j => q (7 + j)) o3) _ from hP.sub [5, 6, 7, 8, 9, 10] fmTB) (ci := 0) (q0 := 0) rfl rfl)) rfl rfl hl.1 rfl (lv_room (Nat.le_of_ble_eq_true rfl)) dX3_writeEntry_81 ⟨Nat.zero_le _, Nat.zero_le _⟩).run hP hD hS [5, 6, 7, 8, 9, 10] [0, 1, 2, 3, 4] [0, 1, 2, 3, 4, 5, 6, 7, 8, 9, 10] subTB (by decide) putTB adrT (fun H locs hP hD hS => ?_)
      exact W.vret hx hb hr (wr_end rfl (congrArg (wT k q) ((show fX3_writeEntry u a1 = (ts3 (ts3 u o3) o4) from (by subst h_o3; subst h_o4; exact (if_neg c_7).trans ((if_neg c_19).trans rfl))).symm.trans ho)) hP hS) hS.2.2 dX3_writeEntry_84
    · refine lv_iconst (v := (1 : Int32)) hx hb dX3_writeEntry_22 (by decide) ?_
      refine lv_goto (tgt := 27) hx hb dX3_writeEntry_23 (by decide) ?_
      refine lv_istore_n (lv' := [(2, .int (1 : Int32)), (0, .ref (q 0)), (1, .int a1)]) hx hb dX3_writeEntry_27 rfl hl (by decide) rfl (fun ls hl => ?_)
      refine lv_aload_n hx hb dX3_writeEntry_28 rfl (lv_at hl 1 rfl) ?_
      refine va_get (D := D) (ci := 2) (v := .ref (q 5)) (C := RX3) (T := TX3) (N := 9) hx hb hts (by decide +kernel) hown hK hP 0 rfl rfl 3 (by decide) (hts (.fieldLink RX3 26 "TrapMachine" "buffer" "LTrapMachine$Buffer;") (by decide +kernel)) (fun _ h9 => h9) rfl dX3_writeEntry_29 ?_
      refine lv_iload_n hx hb dX3_writeEntry_32 rfl (lv_at hl 2 rfl) ?_
      refine lv_iload_n hx hb dX3_writeEntry_33 rfl (lv_at hl 0 rfl) ?_
      refine lv_aload_n hx hb dX3_writeEntry_34 rfl (lv_at hl 1 rfl) ?_
      refine va_get (D := D) (ci := 2) (v := .ref (q 3)) (C := RX3) (T := TX3) (N := 9) hx hb hts (by decide +kernel) hown hK hP 0 rfl rfl 2 (by decide) (hts (.fieldLink RX3 19 "TrapMachine" "controls" "LTrapMachine$Controls;") (by decide +kernel)) (fun _ h9 => h9) rfl dX3_writeEntry_35 ?_
      refine lv_bipush (v := (8 : Int32)) hx hb dX3_writeEntry_38 (by decide) ?_
      refine rd_call (r := (fX2_get u.2.2.1 (8 : Int32))) (va_runVN (C := RX2) (b := (q 3)) (As := [.int (8 : Int32)]) (rest := [.int (1 : Int32), .int a1, .ref (q 5)]) ⟨hx, hb, hml, hown, hts⟩ (kX2_get l D k (q 3) (q 4) u.2.2.1 (8 : Int32) (vi_k (by decide))) ⟨va_cnB 1 hts gX3_writeEntry_X2_get_n77 rfl rfl rfl (hX.at 3 (q := (77, yX2_get)) rfl) (hts (.initialized RX2) (by decide +kernel)) (by decide +kernel) ⟨Nat.le_of_ble_eq_true rfl, Nat.le_of_ble_eq_true rfl⟩, (hts (.instanceMethod yX2_get) (by decide +kernel)), (hts (.selects RX2 yX2_get yX2_get) (by decide +kernel))⟩ (rd_preV bl_T pr_T hK (show va_P D vwCl (wC k (q 3) (q 4) u.2.2.1) _ from hP.sub [3, 4] fmTC) (va_recv hK (show va_P D vwCl (wC k (q 3) (q 4) u.2.2.1) _ from hP.sub [3, 4] fmTC) (ci := 1) (q0 := 0) rfl rfl)) rfl rfl hl.1 rfl (lv_room (Nat.le_of_ble_eq_true rfl)) dX3_writeEntry_40 ⟨Nat.zero_le _, Nat.zero_le _⟩).run ?_
      refine lv_bipush (v := (7 : Int32)) hx hb dX3_writeEntry_43 (by decide) ?_
      refine lv_iushr (v := (iu (fX2_get u.2.2.1 (8 : Int32)) (7 : Int32))) hx hb dX3_writeEntry_45 rfl ?_
      refine lv_aload_n hx hb dX3_writeEntry_46 rfl (lv_at hl 1 rfl) ?_
      refine va_get (D := D) (ci := 2) (v := .ref (q 3)) (C := RX3) (T := TX3) (N := 9) hx hb hts (by decide +kernel) hown hK hP 0 rfl rfl 2 (by decide) (hts (.fieldLink RX3 19 "TrapMachine" "controls" "LTrapMachine$Controls;") (by decide +kernel)) (fun _ h9 => h9) rfl dX3_writeEntry_47 ?_
      refine lv_bipush (v := (11 : Int32)) hx hb dX3_writeEntry_50 (by decide) ?_
      refine rd_call (r := (fX2_get u.2.2.1 (11 : Int32))) (va_runVN (C := RX2) (b := (q 3)) (As := [.int (11 : Int32)]) (rest := [.int (iu (fX2_get u.2.2.1 (8 : Int32)) (7 : Int32)), .int (1 : Int32), .int a1, .ref (q 5)]) ⟨hx, hb, hml, hown, hts⟩ (kX2_get l D k (q 3) (q 4) u.2.2.1 (11 : Int32) (vi_k (by decide))) ⟨va_cnB 1 hts gX3_writeEntry_X2_get_n77 rfl rfl rfl (hX.at 3 (q := (77, yX2_get)) rfl) (hts (.initialized RX2) (by decide +kernel)) (by decide +kernel) ⟨Nat.le_of_ble_eq_true rfl, Nat.le_of_ble_eq_true rfl⟩, (hts (.instanceMethod yX2_get) (by decide +kernel)), (hts (.selects RX2 yX2_get yX2_get) (by decide +kernel))⟩ (rd_preV bl_T pr_T hK (show va_P D vwCl (wC k (q 3) (q 4) u.2.2.1) _ from hP.sub [3, 4] fmTC) (va_recv hK (show va_P D vwCl (wC k (q 3) (q 4) u.2.2.1) _ from hP.sub [3, 4] fmTC) (ci := 1) (q0 := 0) rfl rfl)) rfl rfl hl.1 rfl (lv_room (Nat.le_of_ble_eq_true rfl)) dX3_writeEntry_52 ⟨Nat.zero_le _, Nat.zero_le _⟩).run ?_
      obtain ⟨o5, h_o5⟩ : ∃ o9, (fX0_set u.2.2.2.1 a1 (1 : Int32) (iu (fX2_get u.2.2.1 (8 : Int32)) (7 : Int32)) (fX2_get u.2.2.1 (11 : Int32))) = o9 := ⟨_, rfl⟩
      refine wr_call (r := none) (ws' := wT k q (ts3 u o5)) (va_runVN (C := RX0) (b := (q 5)) (As := [.int a1, .int (1 : Int32), .int (iu (fX2_get u.2.2.1 (8 : Int32)) (7 : Int32)), .int (fX2_get u.2.2.1 (11 : Int32))]) (rest := []) ⟨hx, hb, hml, hown, hts⟩ (kX0_set l D k (q 5) (q 6) (fun j => q (7 + j)) u.2.2.2.1 a1 (1 : Int32) (iu (fX2_get u.2.2.1 (8 : Int32)) (7 : Int32)) (fX2_get u.2.2.1 (11 : Int32)) h1 o5 h_o5) ⟨va_cnB 4 hts gX3_writeEntry_X0_set_n203 rfl rfl rfl (hX.at 16 (q := (203, yX0_set)) rfl) (hts (.initialized RX0) (by decide +kernel)) (by decide +kernel) ⟨Nat.le_of_ble_eq_true rfl, Nat.le_of_ble_eq_true rfl⟩, (hts (.instanceMethod yX0_set) (by decide +kernel)), (hts (.selects RX0 yX0_set yX0_set) (by decide +kernel))⟩ (wr_preV bl_T pr_T hK (show va_P D vwCl (wB k (q 5) (q 6) (fun j => q (7 + j)) u.2.2.2.1) _ from hP.sub [5, 6, 7, 8, 9, 10] fmTB) (show va_D (in_W (wT k q u)) (wB k (q 5) (q 6) (fun j => q (7 + j)) u.2.2.2.1) from hD.sub [5, 6, 7, 8, 9, 10] (by decide) subTB) (va_recv hK (show va_P D vwCl (wB k (q 5) (q 6) (fun j => q (7 + j)) u.2.2.2.1) _ from hP.sub [5, 6, 7, 8, 9, 10] fmTB) (ci := 0) (q0 := 0) rfl rfl)) rfl rfl hl.1 rfl (lv_room (Nat.le_of_ble_eq_true rfl)) dX3_writeEntry_55 ⟨Nat.zero_le _, Nat.zero_le _⟩).run hP hD hS [5, 6, 7, 8, 9, 10] [0, 1, 2, 3, 4] [0, 1, 2, 3, 4, 5, 6, 7, 8, 9, 10] subTB (by decide) putTB adrT (fun H locs hP hD hS => ?_)
      refine lv_aload_n hx hb dX3_writeEntry_58 rfl (lv_at hl 1 rfl) ?_
      refine va_get (D := D) (ci := 2) (v := .ref (q 5)) (C := RX3) (T := TX3) (N := 9) hx hb hts (by decide +kernel) hown hK hP 0 rfl rfl 3 (by decide) (hts (.fieldLink RX3 26 "TrapMachine" "buffer" "LTrapMachine$Buffer;") (by decide +kernel)) (fun _ h9 => h9) rfl dX3_writeEntry_59 ?_
      refine lv_iload_n hx hb dX3_writeEntry_62 rfl (lv_at hl 2 rfl) ?_
      refine lv_aload_n hx hb dX3_writeEntry_63 rfl (lv_at hl 1 rfl) ?_
      refine va_get (D := D) (ci := 2) (v := .ref (q 3)) (C := RX3) (T := TX3) (N := 9) hx hb hts (by decide +kernel) hown hK hP 0 rfl rfl 2 (by decide) (hts (.fieldLink RX3 19 "TrapMachine" "controls" "LTrapMachine$Controls;") (by decide +kernel)) (fun _ h9 => h9) rfl dX3_writeEntry_64 ?_
      refine lv_bipush (v := (9 : Int32)) hx hb dX3_writeEntry_67 (by decide) ?_
      refine rd_call (r := (fX2_get u.2.2.1 (9 : Int32))) (va_runVN (C := RX2) (b := (q 3)) (As := [.int (9 : Int32)]) (rest := [.int a1, .ref (q 5)]) ⟨hx, hb, hml, hown, hts⟩ (kX2_get l D k (q 3) (q 4) u.2.2.1 (9 : Int32) (vi_k (by decide))) ⟨va_cnB 1 hts gX3_writeEntry_X2_get_n77 rfl rfl rfl (hX.at 3 (q := (77, yX2_get)) rfl) (hts (.initialized RX2) (by decide +kernel)) (by decide +kernel) ⟨Nat.le_of_ble_eq_true rfl, Nat.le_of_ble_eq_true rfl⟩, (hts (.instanceMethod yX2_get) (by decide +kernel)), (hts (.selects RX2 yX2_get yX2_get) (by decide +kernel))⟩ (rd_preV bl_T pr_T hK (show va_P D vwCl (wC k (q 3) (q 4) u.2.2.1) _ from hP.sub [3, 4] fmTC) (va_recv hK (show va_P D vwCl (wC k (q 3) (q 4) u.2.2.1) _ from hP.sub [3, 4] fmTC) (ci := 1) (q0 := 0) rfl rfl)) rfl rfl hl.1 rfl (lv_room (Nat.le_of_ble_eq_true rfl)) dX3_writeEntry_69 ⟨Nat.zero_le _, Nat.zero_le _⟩).run ?_
      refine lv_aload_n hx hb dX3_writeEntry_72 rfl (lv_at hl 1 rfl) ?_
      refine va_get (D := D) (ci := 2) (v := .ref (q 3)) (C := RX3) (T := TX3) (N := 9) hx hb hts (by decide +kernel) hown hK hP 0 rfl rfl 2 (by decide) (hts (.fieldLink RX3 19 "TrapMachine" "controls" "LTrapMachine$Controls;") (by decide +kernel)) (fun _ h9 => h9) rfl dX3_writeEntry_73 ?_
      refine lv_bipush (v := (10 : Int32)) hx hb dX3_writeEntry_76 (by decide) ?_
      refine rd_call (r := (fX2_get u.2.2.1 (10 : Int32))) (va_runVN (C := RX2) (b := (q 3)) (As := [.int (10 : Int32)]) (rest := [.int (fX2_get u.2.2.1 (9 : Int32)), .int a1, .ref (q 5)]) ⟨hx, hb, hml, hown, hts⟩ (kX2_get l D k (q 3) (q 4) u.2.2.1 (10 : Int32) (vi_k (by decide))) ⟨va_cnB 1 hts gX3_writeEntry_X2_get_n77 rfl rfl rfl (hX.at 3 (q := (77, yX2_get)) rfl) (hts (.initialized RX2) (by decide +kernel)) (by decide +kernel) ⟨Nat.le_of_ble_eq_true rfl, Nat.le_of_ble_eq_true rfl⟩, (hts (.instanceMethod yX2_get) (by decide +kernel)), (hts (.selects RX2 yX2_get yX2_get) (by decide +kernel))⟩ (rd_preV bl_T pr_T hK (show va_P D vwCl (wC k (q 3) (q 4) u.2.2.1) _ from hP.sub [3, 4] fmTC) (va_recv hK (show va_P D vwCl (wC k (q 3) (q 4) u.2.2.1) _ from hP.sub [3, 4] fmTC) (ci := 1) (q0 := 0) rfl rfl)) rfl rfl hl.1 rfl (lv_room (Nat.le_of_ble_eq_true rfl)) dX3_writeEntry_78 ⟨Nat.zero_le _, Nat.zero_le _⟩).run ?_
      obtain ⟨o6, h_o6⟩ : ∃ o9, (fX0_setHalves o5 a1 (fX2_get u.2.2.1 (9 : Int32)) (fX2_get u.2.2.1 (10 : Int32))) = o9 := ⟨_, rfl⟩
      refine wr_call (r := none) (ws' := wT k q (ts3 (ts3 u o5) o6)) (va_runVN (C := RX0) (b := (q 5)) (As := [.int a1, .int (fX2_get u.2.2.1 (9 : Int32)), .int (fX2_get u.2.2.1 (10 : Int32))]) (rest := []) ⟨hx, hb, hml, hown, hts⟩ (kX0_setHalves l D k (q 5) (q 6) (fun j => q (7 + j)) o5 a1 (fX2_get u.2.2.1 (9 : Int32)) (fX2_get u.2.2.1 (10 : Int32)) h1 o6 h_o6) ⟨va_cnB 3 hts gX3_writeEntry_X0_setHalves_n206 rfl rfl rfl (hX.at 17 (q := (206, yX0_setHalves)) rfl) (hts (.initialized RX0) (by decide +kernel)) (by decide +kernel) ⟨Nat.le_of_ble_eq_true rfl, Nat.le_of_ble_eq_true rfl⟩, (hts (.instanceMethod yX0_setHalves) (by decide +kernel)), (hts (.selects RX0 yX0_setHalves yX0_setHalves) (by decide +kernel))⟩ (wr_preV bl_T pr_T hK (show va_P D vwCl (wB k (q 5) (q 6) (fun j => q (7 + j)) o5) _ from hP.sub [5, 6, 7, 8, 9, 10] fmTB) (show va_D (in_W (wT k q u)) (wB k (q 5) (q 6) (fun j => q (7 + j)) o5) from hD.sub [5, 6, 7, 8, 9, 10] (by decide) subTB) (va_recv hK (show va_P D vwCl (wB k (q 5) (q 6) (fun j => q (7 + j)) o5) _ from hP.sub [5, 6, 7, 8, 9, 10] fmTB) (ci := 0) (q0 := 0) rfl rfl)) rfl rfl hl.1 rfl (lv_room (Nat.le_of_ble_eq_true rfl)) dX3_writeEntry_81 ⟨Nat.zero_le _, Nat.zero_le _⟩).run hP hD hS [5, 6, 7, 8, 9, 10] [0, 1, 2, 3, 4] [0, 1, 2, 3, 4, 5, 6, 7, 8, 9, 10] subTB (by decide) putTB adrT (fun H locs hP hD hS => ?_)
      exact W.vret hx hb hr (wr_end rfl (congrArg (wT k q) ((show fX3_writeEntry u a1 = (ts3 (ts3 u o5) o6) from (by subst h_o5; subst h_o6; exact (if_neg c_7).trans ((if_pos c_19).trans rfl))).symm.trans ho)) hP hS) hS.2.2 dX3_writeEntry_84
def fX3_useBuffer (u : TM) (a1 : Int32) : TM :=
  if a1 = (21 : Int32) then
    (ts4 (fX3_searchEntry u) ((fX3_searchEntry u).2.2.2.2.1 + (4 : Int32)))
  else
    if a1 = (22 : Int32) then
      (ts4 (fX3_readEntry u ((fX2_get u.2.2.1 (7 : Int32)) &&& (3 : Int32))) ((fX3_readEntry u ((fX2_get u.2.2.1 (7 : Int32)) &&& (3 : Int32))).2.2.2.2.1 + (4 : Int32)))
    else
      if a1 = (23 : Int32) then
        (ts4 (fX3_writeEntry u ((fX2_get u.2.2.1 (7 : Int32)) &&& (3 : Int32))) ((fX3_writeEntry u ((fX2_get u.2.2.1 (7 : Int32)) &&& (3 : Int32))).2.2.2.2.1 + (4 : Int32)))
      else
        (ts4 (ts6 (fX3_writeEntry u u.2.2.2.2.2.2.1) (((fX3_writeEntry u u.2.2.2.2.2.2.1).2.2.2.2.2.2.1 + (1 : Int32)) &&& (3 : Int32))) ((fX3_writeEntry u u.2.2.2.2.2.2.1).2.2.2.2.1 + (4 : Int32)))
set_option maxHeartbeats 4000000 in
set_option maxRecDepth 100000 in
theorem kX3_useBuffer (l : Launch) (D : va_G) (k : Nat → ClassId) (q : Nat → Nat) (u : TM) (a1 : Int32) (hn : vp_in u.2.2.2.2.2.2.1 4) (o : TM) (ho : fX3_useBuffer u a1 = o) : Met l yX3_useBuffer wsX3_useBuffer { frames := 2, cells := 0, slots := 0, locals := 48 } (wr_P D vwCl (tyL k) (wT k q u) NL [.ref (q 0), .int a1]) (wr_Q D vwCl none (wT k q u) (wT k q o)) 0 0 (in_W (wT k q u)) := by
  refine Met.ofW (cc := cX3_useBuffer) (maxL := 3) (ret := none) (by decide) rfl ?_
  intro p e s m args below meth c s₁ B hml hv0
  obtain ⟨rfl, hP, hK, hX, hD0⟩ := hv0
  have hx := B.exec
  have hb := B.bytes
  have hr := B.returns
  have hts := atoms_spec (ws := wsX3_useBuffer) B.pre
  have hown : s.vm.findClass RX3 = some m.cls := findClass_of_methodNamed B.named
  have hlocks := B.notSynchronized
  have hD : va_D (in_W (wT k q u)) (wT k q u) := wD_self hD0
  have hS : va_S (in_W (wT k q u)) s.heap s.heap [] := va_S.rf
  have hl := lv_entry ([.ref (q 0), .int a1]) (n := 3) (Nat.le_of_ble_eq_true rfl)
  rw [lg_entry_eq]
  generalize (lg_sl ([.ref (q 0), .int a1]) ++ List.replicate (3 - (lg_sl ([.ref (q 0), .int a1])).length) Slot.unset).toArray = ls at hl ⊢
  have hl : lv_has ls 3 [(0, .ref (q 0)), (1, .int a1)] := hl
  refine lv_aload_n hx hb dX3_useBuffer_0 rfl (lv_at hl 0 rfl) ?_
  refine va_get (D := D) (ci := 2) (v := .ref (q 3)) (C := RX3) (T := TX3) (N := 9) hx hb hts (by decide +kernel) hown hK hP 0 rfl rfl 2 (by decide) (hts (.fieldLink RX3 19 "TrapMachine" "controls" "LTrapMachine$Controls;") (by decide +kernel)) (fun _ h9 => h9) rfl dX3_useBuffer_1 ?_
  refine lv_bipush (v := (7 : Int32)) hx hb dX3_useBuffer_4 (by decide) ?_
  refine rd_call (r := (fX2_get u.2.2.1 (7 : Int32))) (va_runVN (C := RX2) (b := (q 3)) (As := [.int (7 : Int32)]) (rest := []) ⟨hx, hb, hml, hown, hts⟩ (kX2_get l D k (q 3) (q 4) u.2.2.1 (7 : Int32) (vi_k (by decide))) ⟨va_cnB 1 hts gX3_useBuffer_X2_get_n77 rfl rfl rfl (hX.at 3 (q := (77, yX2_get)) rfl) (hts (.initialized RX2) (by decide +kernel)) (by decide +kernel) ⟨Nat.le_of_ble_eq_true rfl, Nat.le_of_ble_eq_true rfl⟩, (hts (.instanceMethod yX2_get) (by decide +kernel)), (hts (.selects RX2 yX2_get yX2_get) (by decide +kernel))⟩ (rd_preV bl_T pr_T hK (show va_P D vwCl (wC k (q 3) (q 4) u.2.2.1) _ from hP.sub [3, 4] fmTC) (va_recv hK (show va_P D vwCl (wC k (q 3) (q 4) u.2.2.1) _ from hP.sub [3, 4] fmTC) (ci := 1) (q0 := 0) rfl rfl)) rfl rfl hl.1 rfl (lv_room (Nat.le_of_ble_eq_true rfl)) dX3_useBuffer_6 ⟨Nat.zero_le _, Nat.zero_le _⟩).run ?_
  refine lv_iconst (v := (3 : Int32)) hx hb dX3_useBuffer_9 (by decide) ?_
  refine lv_iand hx hb dX3_useBuffer_10 ?_
  refine lv_istore_n (lv' := [(2, .int ((fX2_get u.2.2.1 (7 : Int32)) &&& (3 : Int32))), (0, .ref (q 0)), (1, .int a1)]) hx hb dX3_useBuffer_11 rfl hl (by decide) rfl (fun ls hl => ?_)
  refine lv_iload_n hx hb dX3_useBuffer_12 rfl (lv_at hl 2 rfl) ?_
  refine lv_bipush (v := (21 : Int32)) hx hb dX3_useBuffer_13 (by decide) ?_
  refine lv_icmp_ne (tgt := 25) hx hb dX3_useBuffer_15 (by decide) (fun c_15 => ?_) (fun c_15 => ?_)
  · refine lv_iload_n hx hb dX3_useBuffer_25 rfl (lv_at hl 2 rfl) ?_
    refine lv_bipush (v := (22 : Int32)) hx hb dX3_useBuffer_26 (by decide) ?_
    refine lv_icmp_ne (tgt := 39) hx hb dX3_useBuffer_28 (by decide) (fun c_28 => ?_) (fun c_28 => ?_)
    · refine lv_iload_n hx hb dX3_useBuffer_39 rfl (lv_at hl 2 rfl) ?_
      refine lv_bipush (v := (23 : Int32)) hx hb dX3_useBuffer_40 (by decide) ?_
      refine lv_icmp_ne (tgt := 53) hx hb dX3_useBuffer_42 (by decide) (fun c_42 => ?_) (fun c_42 => ?_)
      · refine lv_aload_n hx hb dX3_useBuffer_53 rfl (lv_at hl 1 rfl) ?_
        refine lv_aload_n hx hb dX3_useBuffer_54 rfl (lv_at hl 1 rfl) ?_
        refine va_get (D := D) (ci := 2) (v := .int u.2.2.2.2.2.2.1) (C := RX3) (T := TX3) (N := 9) hx hb hts (by decide +kernel) hown hK hP 0 rfl rfl 6 (by decide) (hts (.fieldLink RX3 51 "TrapMachine" "nextFilled" "I") (by decide +kernel)) (fun _ h9 => h9) rfl dX3_useBuffer_55 ?_
        obtain ⟨o1, h_o1⟩ : ∃ o9, (fX3_writeEntry u u.2.2.2.2.2.2.1) = o9 := ⟨_, rfl⟩
        refine wr_call (r := none) (ws' := wT k q o1) (W.runV (C := RX3) (b := (q 0)) (As := [.int u.2.2.2.2.2.2.1]) (rest := []) ⟨hx, hb, hml, hown, hts⟩ (kX3_writeEntry l D k q u u.2.2.2.2.2.2.1 hn o1 h_o1) (cwV 1 hts gX3_useBuffer_X3_writeEntry rfl rfl rfl (by decide +kernel) ⟨Nat.le_of_ble_eq_true rfl, Nat.le_of_ble_eq_true rfl⟩) (wr_preV bl_N (pr_N hX) hK hP hD (va_recv hK hP (ci := 2) (q0 := 0) rfl rfl)) rfl rfl hl.1 rfl (lv_room (Nat.le_of_ble_eq_true rfl)) dX3_useBuffer_58 ⟨Nat.zero_le _, Nat.zero_le _⟩) hP hD hS [0, 1, 2, 3, 4, 5, 6, 7, 8, 9, 10] [] [0, 1, 2, 3, 4, 5, 6, 7, 8, 9, 10] allT (by decide) prmT adrT (fun H locs hP hD hS => ?_)
        refine lv_aload_n hx hb dX3_useBuffer_61 rfl (lv_at hl 1 rfl) ?_
        refine lv_aload_n hx hb dX3_useBuffer_62 rfl (lv_at hl 1 rfl) ?_
        refine va_get (D := D) (ci := 2) (v := .int o1.2.2.2.2.2.2.1) (C := RX3) (T := TX3) (N := 9) hx hb hts (by decide +kernel) hown hK hP 0 rfl rfl 6 (by decide) (hts (.fieldLink RX3 51 "TrapMachine" "nextFilled" "I") (by decide +kernel)) (fun _ h9 => h9) rfl dX3_useBuffer_63 ?_
        refine lv_iconst (v := (1 : Int32)) hx hb dX3_useBuffer_66 (by decide) ?_
        refine lv_iadd hx hb dX3_useBuffer_67 ?_
        refine lv_iconst (v := (3 : Int32)) hx hb dX3_useBuffer_68 (by decide) ?_
        refine lv_iand hx hb dX3_useBuffer_69 ?_
        refine va_put (D := D) (ci := 2) (v := .int ((o1.2.2.2.2.2.2.1 + (1 : Int32)) &&& (3 : Int32))) (ty := .int) (C := RX3) (T := TX3) (N := 9) hx hb hts (by decide +kernel) tyX3 tyX3_ok nmX3 hown hK hP hD hS 0 rfl rfl 6 (by decide) (hts (.fieldLink RX3 51 "TrapMachine" "nextFilled" "I") (by decide +kernel)) (fun _ h9 => h9) rfl (by decide +kernel) rfl rfl (Nat.le_of_ble_eq_true rfl) dX3_useBuffer_70 (fun H locs hP hD hS => ?_)
        have hP : va_P D vwCl (wT k q (ts6 o1 ((o1.2.2.2.2.2.2.1 + (1 : Int32)) &&& (3 : Int32)))) H := hP
        have hD : va_D (in_W (wT k q u)) (wT k q (ts6 o1 ((o1.2.2.2.2.2.2.1 + (1 : Int32)) &&& (3 : Int32)))) := hD
        refine lv_aload_n hx hb dX3_useBuffer_73 rfl (lv_at hl 1 rfl) ?_
        refine lv_dup hx hb dX3_useBuffer_74 rfl ?_
        refine va_get (D := D) (ci := 2) (v := .int o1.2.2.2.2.1) (C := RX3) (T := TX3) (N := 9) hx hb hts (by decide +kernel) hown hK hP 0 rfl rfl 4 (by decide) (hts (.fieldLink RX3 54 "TrapMachine" "place" "I") (by decide +kernel)) (fun _ h9 => h9) rfl dX3_useBuffer_75 ?_
        refine lv_iconst (v := (4 : Int32)) hx hb dX3_useBuffer_78 (by decide) ?_
        refine lv_iadd hx hb dX3_useBuffer_79 ?_
        refine va_put (D := D) (ci := 2) (v := .int (o1.2.2.2.2.1 + (4 : Int32))) (ty := .int) (C := RX3) (T := TX3) (N := 9) hx hb hts (by decide +kernel) tyX3 tyX3_ok nmX3 hown hK hP hD hS 0 rfl rfl 4 (by decide) (hts (.fieldLink RX3 54 "TrapMachine" "place" "I") (by decide +kernel)) (fun _ h9 => h9) rfl (by decide +kernel) rfl rfl (Nat.le_of_ble_eq_true rfl) dX3_useBuffer_80 (fun H locs hP hD hS => ?_)
        have hP : va_P D vwCl (wT k q (ts4 (ts6 o1 ((o1.2.2.2.2.2.2.1 + (1 : Int32)) &&& (3 : Int32))) (o1.2.2.2.2.1 + (4 : Int32)))) H := hP
        have hD : va_D (in_W (wT k q u)) (wT k q (ts4 (ts6 o1 ((o1.2.2.2.2.2.2.1 + (1 : Int32)) &&& (3 : Int32))) (o1.2.2.2.2.1 + (4 : Int32)))) := hD
        exact W.vret hx hb hr (wr_end rfl (congrArg (wT k q) ((show fX3_useBuffer u a1 = (ts4 (ts6 o1 ((o1.2.2.2.2.2.2.1 + (1 : Int32)) &&& (3 : Int32))) (o1.2.2.2.2.1 + (4 : Int32))) from (by subst h_o1; exact (if_neg c_15).trans ((if_neg c_28).trans ((if_neg c_42).trans rfl)))).symm.trans ho)) hP hS) hS.2.2 dX3_useBuffer_83
      · refine lv_aload_n hx hb dX3_useBuffer_45 rfl (lv_at hl 1 rfl) ?_
        refine lv_iload_n hx hb dX3_useBuffer_46 rfl (lv_at hl 0 rfl) ?_
        obtain ⟨o2, h_o2⟩ : ∃ o9, (fX3_writeEntry u ((fX2_get u.2.2.1 (7 : Int32)) &&& (3 : Int32))) = o9 := ⟨_, rfl⟩
        refine wr_call (r := none) (ws' := wT k q o2) (W.runV (C := RX3) (b := (q 0)) (As := [.int ((fX2_get u.2.2.1 (7 : Int32)) &&& (3 : Int32))]) (rest := []) ⟨hx, hb, hml, hown, hts⟩ (kX3_writeEntry l D k q u ((fX2_get u.2.2.1 (7 : Int32)) &&& (3 : Int32)) (vi3 _) o2 h_o2) (cwV 1 hts gX3_useBuffer_X3_writeEntry rfl rfl rfl (by decide +kernel) ⟨Nat.le_of_ble_eq_true rfl, Nat.le_of_ble_eq_true rfl⟩) (wr_preV bl_N (pr_N hX) hK hP hD (va_recv hK hP (ci := 2) (q0 := 0) rfl rfl)) rfl rfl hl.1 rfl (lv_room (Nat.le_of_ble_eq_true rfl)) dX3_useBuffer_47 ⟨Nat.zero_le _, Nat.zero_le _⟩) hP hD hS [0, 1, 2, 3, 4, 5, 6, 7, 8, 9, 10] [] [0, 1, 2, 3, 4, 5, 6, 7, 8, 9, 10] allT (by decide) prmT adrT (fun H locs hP hD hS => ?_)
        refine lv_goto (tgt := 73) hx hb dX3_useBuffer_50 (by decide) ?_
        refine lv_aload_n hx hb dX3_useBuffer_73 rfl (lv_at hl 1 rfl) ?_
        refine lv_dup hx hb dX3_useBuffer_74 rfl ?_
        refine va_get (D := D) (ci := 2) (v := .int o2.2.2.2.2.1) (C := RX3) (T := TX3) (N := 9) hx hb hts (by decide +kernel) hown hK hP 0 rfl rfl 4 (by decide) (hts (.fieldLink RX3 54 "TrapMachine" "place" "I") (by decide +kernel)) (fun _ h9 => h9) rfl dX3_useBuffer_75 ?_
        refine lv_iconst (v := (4 : Int32)) hx hb dX3_useBuffer_78 (by decide) ?_
        refine lv_iadd hx hb dX3_useBuffer_79 ?_
        refine va_put (D := D) (ci := 2) (v := .int (o2.2.2.2.2.1 + (4 : Int32))) (ty := .int) (C := RX3) (T := TX3) (N := 9) hx hb hts (by decide +kernel) tyX3 tyX3_ok nmX3 hown hK hP hD hS 0 rfl rfl 4 (by decide) (hts (.fieldLink RX3 54 "TrapMachine" "place" "I") (by decide +kernel)) (fun _ h9 => h9) rfl (by decide +kernel) rfl rfl (Nat.le_of_ble_eq_true rfl) dX3_useBuffer_80 (fun H locs hP hD hS => ?_)
        have hP : va_P D vwCl (wT k q (ts4 o2 (o2.2.2.2.2.1 + (4 : Int32)))) H := hP
        have hD : va_D (in_W (wT k q u)) (wT k q (ts4 o2 (o2.2.2.2.2.1 + (4 : Int32)))) := hD
        exact W.vret hx hb hr (wr_end rfl (congrArg (wT k q) ((show fX3_useBuffer u a1 = (ts4 o2 (o2.2.2.2.2.1 + (4 : Int32))) from (by subst h_o2; exact (if_neg c_15).trans ((if_neg c_28).trans ((if_pos c_42).trans rfl)))).symm.trans ho)) hP hS) hS.2.2 dX3_useBuffer_83
    · refine lv_aload_n hx hb dX3_useBuffer_31 rfl (lv_at hl 1 rfl) ?_
      refine lv_iload_n hx hb dX3_useBuffer_32 rfl (lv_at hl 0 rfl) ?_
      obtain ⟨o3, h_o3⟩ : ∃ o9, (fX3_readEntry u ((fX2_get u.2.2.1 (7 : Int32)) &&& (3 : Int32))) = o9 := ⟨_, rfl⟩
      refine wr_call (r := none) (ws' := wT k q o3) (W.runV (C := RX3) (b := (q 0)) (As := [.int ((fX2_get u.2.2.1 (7 : Int32)) &&& (3 : Int32))]) (rest := []) ⟨hx, hb, hml, hown, hts⟩ (kX3_readEntry l D k q u ((fX2_get u.2.2.1 (7 : Int32)) &&& (3 : Int32)) (vi3 _) o3 h_o3) (cwV 1 hts gX3_useBuffer_X3_readEntry rfl rfl rfl (by decide +kernel) ⟨Nat.le_of_ble_eq_true rfl, Nat.le_of_ble_eq_true rfl⟩) (wr_preV bl_N (pr_N hX) hK hP hD (va_recv hK hP (ci := 2) (q0 := 0) rfl rfl)) rfl rfl hl.1 rfl (lv_room (Nat.le_of_ble_eq_true rfl)) dX3_useBuffer_33 ⟨Nat.zero_le _, Nat.zero_le _⟩) hP hD hS [0, 1, 2, 3, 4, 5, 6, 7, 8, 9, 10] [] [0, 1, 2, 3, 4, 5, 6, 7, 8, 9, 10] allT (by decide) prmT adrT (fun H locs hP hD hS => ?_)
      refine lv_goto (tgt := 73) hx hb dX3_useBuffer_36 (by decide) ?_
      refine lv_aload_n hx hb dX3_useBuffer_73 rfl (lv_at hl 1 rfl) ?_
      refine lv_dup hx hb dX3_useBuffer_74 rfl ?_
      refine va_get (D := D) (ci := 2) (v := .int o3.2.2.2.2.1) (C := RX3) (T := TX3) (N := 9) hx hb hts (by decide +kernel) hown hK hP 0 rfl rfl 4 (by decide) (hts (.fieldLink RX3 54 "TrapMachine" "place" "I") (by decide +kernel)) (fun _ h9 => h9) rfl dX3_useBuffer_75 ?_
      refine lv_iconst (v := (4 : Int32)) hx hb dX3_useBuffer_78 (by decide) ?_
      refine lv_iadd hx hb dX3_useBuffer_79 ?_
      refine va_put (D := D) (ci := 2) (v := .int (o3.2.2.2.2.1 + (4 : Int32))) (ty := .int) (C := RX3) (T := TX3) (N := 9) hx hb hts (by decide +kernel) tyX3 tyX3_ok nmX3 hown hK hP hD hS 0 rfl rfl 4 (by decide) (hts (.fieldLink RX3 54 "TrapMachine" "place" "I") (by decide +kernel)) (fun _ h9 => h9) rfl (by decide +kernel) rfl rfl (Nat.le_of_ble_eq_true rfl) dX3_useBuffer_80 (fun H locs hP hD hS => ?_)
      have hP : va_P D vwCl (wT k q (ts4 o3 (o3.2.2.2.2.1 + (4 : Int32)))) H := hP
      have hD : va_D (in_W (wT k q u)) (wT k q (ts4 o3 (o3.2.2.2.2.1 + (4 : Int32)))) := hD
      exact W.vret hx hb hr (wr_end rfl (congrArg (wT k q) ((show fX3_useBuffer u a1 = (ts4 o3 (o3.2.2.2.2.1 + (4 : Int32))) from (by subst h_o3; exact (if_neg c_15).trans ((if_pos c_28).trans rfl))).symm.trans ho)) hP hS) hS.2.2 dX3_useBuffer_83
  · refine lv_aload_n hx hb dX3_useBuffer_18 rfl (lv_at hl 1 rfl) ?_
    obtain ⟨o4, h_o4⟩ : ∃ o9, (fX3_searchEntry u) = o9 := ⟨_, rfl⟩
    refine wr_call (r := none) (ws' := wT k q o4) (W.runV (C := RX3) (b := (q 0)) (As := []) (rest := []) ⟨hx, hb, hml, hown, hts⟩ (kX3_searchEntry l D k q u o4 h_o4) (cwV 0 hts gX3_useBuffer_X3_searchEntry rfl rfl rfl (by decide +kernel) ⟨Nat.le_of_ble_eq_true rfl, Nat.le_of_ble_eq_true rfl⟩) (wr_preV bl_N (pr_N hX) hK hP hD (va_recv hK hP (ci := 2) (q0 := 0) rfl rfl)) rfl rfl hl.1 rfl (lv_room (Nat.le_of_ble_eq_true rfl)) dX3_useBuffer_19 ⟨Nat.zero_le _, Nat.zero_le _⟩) hP hD hS [0, 1, 2, 3, 4, 5, 6, 7, 8, 9, 10] [] [0, 1, 2, 3, 4, 5, 6, 7, 8, 9, 10] allT (by decide) prmT adrT (fun H locs hP hD hS => ?_)
    refine lv_goto (tgt := 73) hx hb dX3_useBuffer_22 (by decide) ?_
    refine lv_aload_n hx hb dX3_useBuffer_73 rfl (lv_at hl 1 rfl) ?_
    refine lv_dup hx hb dX3_useBuffer_74 rfl ?_
    refine va_get (D := D) (ci := 2) (v := .int o4.2.2.2.2.1) (C := RX3) (T := TX3) (N := 9) hx hb hts (by decide +kernel) hown hK hP 0 rfl rfl 4 (by decide) (hts (.fieldLink RX3 54 "TrapMachine" "place" "I") (by decide +kernel)) (fun _ h9 => h9) rfl dX3_useBuffer_75 ?_
    refine lv_iconst (v := (4 : Int32)) hx hb dX3_useBuffer_78 (by decide) ?_
    refine lv_iadd hx hb dX3_useBuffer_79 ?_
    refine va_put (D := D) (ci := 2) (v := .int (o4.2.2.2.2.1 + (4 : Int32))) (ty := .int) (C := RX3) (T := TX3) (N := 9) hx hb hts (by decide +kernel) tyX3 tyX3_ok nmX3 hown hK hP hD hS 0 rfl rfl 4 (by decide) (hts (.fieldLink RX3 54 "TrapMachine" "place" "I") (by decide +kernel)) (fun _ h9 => h9) rfl (by decide +kernel) rfl rfl (Nat.le_of_ble_eq_true rfl) dX3_useBuffer_80 (fun H locs hP hD hS => ?_)
    have hP : va_P D vwCl (wT k q (ts4 o4 (o4.2.2.2.2.1 + (4 : Int32)))) H := hP
    have hD : va_D (in_W (wT k q u)) (wT k q (ts4 o4 (o4.2.2.2.2.1 + (4 : Int32)))) := hD
    exact W.vret hx hb hr (wr_end rfl (congrArg (wT k q) ((show fX3_useBuffer u a1 = (ts4 o4 (o4.2.2.2.2.1 + (4 : Int32))) from (by subst h_o4; exact (if_pos c_15).trans rfl)).symm.trans ho)) hP hS) hS.2.2 dX3_useBuffer_83
def fX3_emptyEntries (u : TM) (a1 : Int32) : TM :=
  if (fX3_byteC a1) ≤ (4 : Int32) then
    (ts4 (ts3 u (fX0_empty u.2.2.2.1 (fX3_byteC a1) ((fX3_valueA u a1) &&& (15 : Int32)) (iu (fX3_valueB u a1) (7 : Int32)))) (u.2.2.2.2.1 + (4 : Int32)))
  else
    (fX3_raise u (13 : Int32))
set_option maxHeartbeats 4000000 in
set_option maxRecDepth 100000 in
theorem kX3_emptyEntries (l : Launch) (D : va_G) (k : Nat → ClassId) (q : Nat → Nat) (u : TM) (a1 : Int32)  (o : TM) (ho : fX3_emptyEntries u a1 = o) : Met l yX3_emptyEntries wsX3_emptyEntries { frames := 2, cells := 0, slots := 0, locals := 50 } (wr_P D vwCl (tyL k) (wT k q u) NL [.ref (q 0), .int a1]) (wr_Q D vwCl none (wT k q u) (wT k q o)) 0 0 (in_W (wT k q u)) := by
  refine Met.ofW (cc := cX3_emptyEntries) (maxL := 3) (ret := none) (by decide) rfl ?_
  intro p e s m args below meth c s₁ B hml hv0
  obtain ⟨rfl, hP, hK, hX, hD0⟩ := hv0
  have hx := B.exec
  have hb := B.bytes
  have hr := B.returns
  have hts := atoms_spec (ws := wsX3_emptyEntries) B.pre
  have hown : s.vm.findClass RX3 = some m.cls := findClass_of_methodNamed B.named
  have hlocks := B.notSynchronized
  have hD : va_D (in_W (wT k q u)) (wT k q u) := wD_self hD0
  have hS : va_S (in_W (wT k q u)) s.heap s.heap [] := va_S.rf
  have hl := lv_entry ([.ref (q 0), .int a1]) (n := 3) (Nat.le_of_ble_eq_true rfl)
  rw [lg_entry_eq]
  generalize (lg_sl ([.ref (q 0), .int a1]) ++ List.replicate (3 - (lg_sl ([.ref (q 0), .int a1])).length) Slot.unset).toArray = ls at hl ⊢
  have hl : lv_has ls 3 [(0, .ref (q 0)), (1, .int a1)] := hl
  refine lv_iload_n hx hb dX3_emptyEntries_0 rfl (lv_at hl 1 rfl) ?_
  refine rd_call (r := (fX3_byteC a1)) (W.runS (As := [.int a1]) (rest := []) ⟨hx, hb, hml, hown, hts⟩ (kX3_byteC l a1) (va_cwS 1 hts gX3_emptyEntries_X3_byteC rfl rfl rfl (by decide +kernel) ⟨Nat.le_of_ble_eq_true rfl, Nat.le_of_ble_eq_true rfl⟩) preEq rfl rfl hl.1 rfl (lv_room (Nat.le_of_ble_eq_true rfl)) dX3_emptyEntries_1 ⟨Nat.zero_le _, Nat.zero_le _⟩) ?_
  refine lv_istore_n (lv' := [(2, .int (fX3_byteC a1)), (0, .ref (q 0)), (1, .int a1)]) hx hb dX3_emptyEntries_4 rfl hl (by decide) rfl (fun ls hl => ?_)
  refine lv_iload_n hx hb dX3_emptyEntries_5 rfl (lv_at hl 0 rfl) ?_
  refine lv_iconst (v := (4 : Int32)) hx hb dX3_emptyEntries_6 (by decide) ?_
  refine lv_icmp_le (tgt := 17) hx hb dX3_emptyEntries_7 (by decide) (fun c_7 => ?_) (fun c_7 => ?_)
  · refine lv_aload_n hx hb dX3_emptyEntries_17 rfl (lv_at hl 1 rfl) ?_
    refine va_get (D := D) (ci := 2) (v := .ref (q 5)) (C := RX3) (T := TX3) (N := 9) hx hb hts (by decide +kernel) hown hK hP 0 rfl rfl 3 (by decide) (hts (.fieldLink RX3 26 "TrapMachine" "buffer" "LTrapMachine$Buffer;") (by decide +kernel)) (fun _ h9 => h9) rfl dX3_emptyEntries_18 ?_
    refine lv_iload_n hx hb dX3_emptyEntries_21 rfl (lv_at hl 0 rfl) ?_
    refine lv_aload_n hx hb dX3_emptyEntries_22 rfl (lv_at hl 1 rfl) ?_
    refine lv_iload_n hx hb dX3_emptyEntries_23 rfl (lv_at hl 2 rfl) ?_
    refine rd_call (r := (fX3_valueA u a1)) (W.runV (C := RX3) (b := (q 0)) (As := [.int a1]) (rest := [.int (fX3_byteC a1), .ref (q 5)]) ⟨hx, hb, hml, hown, hts⟩ (kX3_valueA l D k q u a1) (cwV 1 hts gX3_emptyEntries_X3_valueA rfl rfl rfl (by decide +kernel) ⟨Nat.le_of_ble_eq_true rfl, Nat.le_of_ble_eq_true rfl⟩) (rd_preV bl_T pr_T hK hP (va_recv hK hP (ci := 2) (q0 := 0) rfl rfl)) rfl rfl hl.1 rfl (lv_room (Nat.le_of_ble_eq_true rfl)) dX3_emptyEntries_24 ⟨Nat.zero_le _, Nat.zero_le _⟩) ?_
    refine lv_bipush (v := (15 : Int32)) hx hb dX3_emptyEntries_27 (by decide) ?_
    refine lv_iand hx hb dX3_emptyEntries_29 ?_
    refine lv_aload_n hx hb dX3_emptyEntries_30 rfl (lv_at hl 1 rfl) ?_
    refine lv_iload_n hx hb dX3_emptyEntries_31 rfl (lv_at hl 2 rfl) ?_
    refine rd_call (r := (fX3_valueB u a1)) (W.runV (C := RX3) (b := (q 0)) (As := [.int a1]) (rest := [.int ((fX3_valueA u a1) &&& (15 : Int32)), .int (fX3_byteC a1), .ref (q 5)]) ⟨hx, hb, hml, hown, hts⟩ (kX3_valueB l D k q u a1) (cwV 1 hts gX3_emptyEntries_X3_valueB rfl rfl rfl (by decide +kernel) ⟨Nat.le_of_ble_eq_true rfl, Nat.le_of_ble_eq_true rfl⟩) (rd_preV bl_T pr_T hK hP (va_recv hK hP (ci := 2) (q0 := 0) rfl rfl)) rfl rfl hl.1 rfl (lv_room (Nat.le_of_ble_eq_true rfl)) dX3_emptyEntries_32 ⟨Nat.zero_le _, Nat.zero_le _⟩) ?_
    refine lv_bipush (v := (7 : Int32)) hx hb dX3_emptyEntries_35 (by decide) ?_
    refine lv_iushr (v := (iu (fX3_valueB u a1) (7 : Int32))) hx hb dX3_emptyEntries_37 rfl ?_
    obtain ⟨o1, h_o1⟩ : ∃ o9, (fX0_empty u.2.2.2.1 (fX3_byteC a1) ((fX3_valueA u a1) &&& (15 : Int32)) (iu (fX3_valueB u a1) (7 : Int32))) = o9 := ⟨_, rfl⟩
    refine wr_call (r := none) (ws' := wT k q (ts3 u o1)) (va_runVN (C := RX0) (b := (q 5)) (As := [.int (fX3_byteC a1), .int ((fX3_valueA u a1) &&& (15 : Int32)), .int (iu (fX3_valueB u a1) (7 : Int32))]) (rest := []) ⟨hx, hb, hml, hown, hts⟩ (kX0_empty l D k (q 5) (q 6) (fun j => q (7 + j)) u.2.2.2.1 (fX3_byteC a1) ((fX3_valueA u a1) &&& (15 : Int32)) (iu (fX3_valueB u a1) (7 : Int32)) o1 h_o1) ⟨va_cnB 3 hts gX3_emptyEntries_X0_empty_n209 rfl rfl rfl (hX.at 18 (q := (209, yX0_empty)) rfl) (hts (.initialized RX0) (by decide +kernel)) (by decide +kernel) ⟨Nat.le_of_ble_eq_true rfl, Nat.le_of_ble_eq_true rfl⟩, (hts (.instanceMethod yX0_empty) (by decide +kernel)), (hts (.selects RX0 yX0_empty yX0_empty) (by decide +kernel))⟩ (wr_preV bl_T pr_T hK (show va_P D vwCl (wB k (q 5) (q 6) (fun j => q (7 + j)) u.2.2.2.1) _ from hP.sub [5, 6, 7, 8, 9, 10] fmTB) (show va_D (in_W (wT k q u)) (wB k (q 5) (q 6) (fun j => q (7 + j)) u.2.2.2.1) from hD.sub [5, 6, 7, 8, 9, 10] (by decide) subTB) (va_recv hK (show va_P D vwCl (wB k (q 5) (q 6) (fun j => q (7 + j)) u.2.2.2.1) _ from hP.sub [5, 6, 7, 8, 9, 10] fmTB) (ci := 0) (q0 := 0) rfl rfl)) rfl rfl hl.1 rfl (lv_room (Nat.le_of_ble_eq_true rfl)) dX3_emptyEntries_38 ⟨Nat.zero_le _, Nat.zero_le _⟩).run hP hD hS [5, 6, 7, 8, 9, 10] [0, 1, 2, 3, 4] [0, 1, 2, 3, 4, 5, 6, 7, 8, 9, 10] subTB (by decide) putTB adrT (fun H locs hP hD hS => ?_)
    refine lv_aload_n hx hb dX3_emptyEntries_41 rfl (lv_at hl 1 rfl) ?_
    refine lv_dup hx hb dX3_emptyEntries_42 rfl ?_
    refine va_get (D := D) (ci := 2) (v := .int u.2.2.2.2.1) (C := RX3) (T := TX3) (N := 9) hx hb hts (by decide +kernel) hown hK hP 0 rfl rfl 4 (by decide) (hts (.fieldLink RX3 54 "TrapMachine" "place" "I") (by decide +kernel)) (fun _ h9 => h9) rfl dX3_emptyEntries_43 ?_
    refine lv_iconst (v := (4 : Int32)) hx hb dX3_emptyEntries_46 (by decide) ?_
    refine lv_iadd hx hb dX3_emptyEntries_47 ?_
    refine va_put (D := D) (ci := 2) (v := .int (u.2.2.2.2.1 + (4 : Int32))) (ty := .int) (C := RX3) (T := TX3) (N := 9) hx hb hts (by decide +kernel) tyX3 tyX3_ok nmX3 hown hK hP hD hS 0 rfl rfl 4 (by decide) (hts (.fieldLink RX3 54 "TrapMachine" "place" "I") (by decide +kernel)) (fun _ h9 => h9) rfl (by decide +kernel) rfl rfl (Nat.le_of_ble_eq_true rfl) dX3_emptyEntries_48 (fun H locs hP hD hS => ?_)
    have hP : va_P D vwCl (wT k q (ts4 (ts3 u o1) (u.2.2.2.2.1 + (4 : Int32)))) H := hP
    have hD : va_D (in_W (wT k q u)) (wT k q (ts4 (ts3 u o1) (u.2.2.2.2.1 + (4 : Int32)))) := hD
    exact W.vret hx hb hr (wr_end rfl (congrArg (wT k q) ((show fX3_emptyEntries u a1 = (ts4 (ts3 u o1) (u.2.2.2.2.1 + (4 : Int32))) from (by subst h_o1; exact (if_pos c_7).trans rfl)).symm.trans ho)) hP hS) hS.2.2 dX3_emptyEntries_51
  · refine lv_aload_n hx hb dX3_emptyEntries_10 rfl (lv_at hl 1 rfl) ?_
    refine lv_bipush (v := (13 : Int32)) hx hb dX3_emptyEntries_11 (by decide) ?_
    obtain ⟨o2, h_o2⟩ : ∃ o9, (fX3_raise u (13 : Int32)) = o9 := ⟨_, rfl⟩
    refine wr_call (r := none) (ws' := wT k q o2) (W.runV (C := RX3) (b := (q 0)) (As := [.int (13 : Int32)]) (rest := []) ⟨hx, hb, hml, hown, hts⟩ (kX3_raise l D k q u (13 : Int32) o2 h_o2) (cwV 1 hts gX3_emptyEntries_X3_raise rfl rfl rfl (by decide +kernel) ⟨Nat.le_of_ble_eq_true rfl, Nat.le_of_ble_eq_true rfl⟩) (wr_preV bl_N (pr_N hX) hK hP hD (va_recv hK hP (ci := 2) (q0 := 0) rfl rfl)) rfl rfl hl.1 rfl (lv_room (Nat.le_of_ble_eq_true rfl)) dX3_emptyEntries_13 ⟨Nat.zero_le _, Nat.zero_le _⟩) hP hD hS [0, 1, 2, 3, 4, 5, 6, 7, 8, 9, 10] [] [0, 1, 2, 3, 4, 5, 6, 7, 8, 9, 10] allT (by decide) prmT adrT (fun H locs hP hD hS => ?_)
    exact W.vret hx hb hr (wr_end rfl (congrArg (wT k q) ((show fX3_emptyEntries u a1 = o2 from (by subst h_o2; exact (if_neg c_7).trans rfl)).symm.trans ho)) hP hS) hS.2.2 dX3_emptyEntries_16
