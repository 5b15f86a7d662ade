def fX3_isInMemory (a1 : Int32) : Int32 :=
  if (a1 &&& (3 : Int32)) = (0 : Int32) then
    if (512 : Int32) ≤ (iu a1 (2 : Int32)) then
      (0 : Int32)
    else
      (1 : Int32)
  else
    (0 : Int32)
set_option maxHeartbeats 4000000 in
set_option maxRecDepth 100000 in
theorem kX3_isInMemory (l : Launch) (a1 : Int32)  : Met l yX3_isInMemory wsX3_isInMemory { frames := 0, cells := 0, slots := 0, locals := 0 } (fun v _ => v = ([.int a1] : List Value).toArray) (QcRead (fX3_isInMemory a1)) 0 0 (fun _ => False) := by
  refine Met.ofW (cc := cX3_isInMemory) (maxL := 1) (ret := (some .boolean)) (by decide) rfl ?_
  intro p e s m args below meth c s₁ B hml hv0
  obtain rfl := hv0
  have hx := B.exec
  have hb := B.bytes
  have hr := B.returns
  have hts := atoms_spec (ws := wsX3_isInMemory) B.pre
  have hown : s.vm.findClass RX3 = some m.cls := findClass_of_methodNamed B.named
  have hlocks := B.notSynchronized
  have hl := lv_entry ([.int a1]) (n := 1) (Nat.le_of_ble_eq_true rfl)
  rw [lg_entry_eq]
  generalize (lg_sl ([.int a1]) ++ List.replicate (1 - (lg_sl ([.int a1])).length) Slot.unset).toArray = ls at hl ⊢
  have hl : lv_has ls 1 [(0, .int a1)] := hl
  refine lv_iload_n hx hb dX3_isInMemory_0 rfl (lv_at hl 0 rfl) ?_
  refine lv_iconst (v := (3 : Int32)) hx hb dX3_isInMemory_1 (by decide) ?_
  refine lv_iand hx hb dX3_isInMemory_2 ?_
  refine lv_if_ne (tgt := 19) hx hb dX3_isInMemory_3 (by decide) (fun c_3 => ?_) (fun c_3 => ?_)
  · refine lv_iconst (v := (0 : Int32)) hx hb dX3_isInMemory_19 (by decide) ?_
    exact W.zret (v := (0 : Int32)) hx hb hr rfl (rd_end (show fX3_isInMemory a1 = (0 : Int32) from (if_neg c_3).trans rfl)) (fun q h => by cases h) dX3_isInMemory_20
  · refine lv_iload_n hx hb dX3_isInMemory_6 rfl (lv_at hl 0 rfl) ?_
    refine lv_iconst (v := (2 : Int32)) hx hb dX3_isInMemory_7 (by decide) ?_
    refine lv_iushr (v := (iu a1 (2 : Int32))) hx hb dX3_isInMemory_8 rfl ?_
    refine lv_sipush (v := (512 : Int32)) hx hb dX3_isInMemory_9 (by decide) ?_
    refine lv_icmp_ge (tgt := 19) hx hb dX3_isInMemory_12 (by decide) (fun c_12 => ?_) (fun c_12 => ?_)
    · refine lv_iconst (v := (0 : Int32)) hx hb dX3_isInMemory_19 (by decide) ?_
      exact W.zret (v := (0 : Int32)) hx hb hr rfl (rd_end (show fX3_isInMemory a1 = (0 : Int32) from (if_pos c_3).trans ((if_pos c_12).trans rfl))) (fun q h => by cases h) dX3_isInMemory_20
    · refine lv_iconst (v := (1 : Int32)) hx hb dX3_isInMemory_15 (by decide) ?_
      refine lv_goto (tgt := 20) hx hb dX3_isInMemory_16 (by decide) ?_
      exact W.zret (v := (1 : Int32)) hx hb hr rfl (rd_end (show fX3_isInMemory a1 = (1 : Int32) from (if_pos c_3).trans ((if_neg c_12).trans rfl))) (fun q h => by cases h) dX3_isInMemory_20
def fX3_byteB (a1 : Int32) : Int32 :=
  ((iu a1 (8 : Int32)) &&& (255 : Int32))
set_option maxHeartbeats 4000000 in
set_option maxRecDepth 100000 in
theorem kX3_byteB (l : Launch) (a1 : Int32)  : Met l yX3_byteB wsX3_byteB { frames := 0, cells := 0, slots := 0, locals := 0 } (fun v _ => v = ([.int a1] : List Value).toArray) (QcRead (fX3_byteB a1)) 0 0 (fun _ => False) := by
  refine Met.ofW (cc := cX3_byteB) (maxL := 1) (ret := (some .int)) (by decide) rfl ?_
  intro p e s m args below meth c s₁ B hml hv0
  obtain rfl := hv0
  have hx := B.exec
  have hb := B.bytes
  have hr := B.returns
  have hts := atoms_spec (ws := wsX3_byteB) B.pre
  have hown : s.vm.findClass RX3 = some m.cls := findClass_of_methodNamed B.named
  have hlocks := B.notSynchronized
  have hl := lv_entry ([.int a1]) (n := 1) (Nat.le_of_ble_eq_true rfl)
  rw [lg_entry_eq]
  generalize (lg_sl ([.int a1]) ++ List.replicate (1 - (lg_sl ([.int a1])).length) Slot.unset).toArray = ls at hl ⊢
  have hl : lv_has ls 1 [(0, .int a1)] := hl
  refine lv_iload_n hx hb dX3_byteB_0 rfl (lv_at hl 0 rfl) ?_
  refine lv_bipush (v := (8 : Int32)) hx hb dX3_byteB_1 (by decide) ?_
  refine lv_iushr (v := (iu a1 (8 : Int32))) hx hb dX3_byteB_3 rfl ?_
  refine lv_sipush (v := (255 : Int32)) hx hb dX3_byteB_4 (by decide) ?_
  refine lv_iand hx hb dX3_byteB_7 ?_
  exact W.iret (v := ((iu a1 (8 : Int32)) &&& (255 : Int32))) hx hb hr (rd_end (show fX3_byteB a1 = ((iu a1 (8 : Int32)) &&& (255 : Int32)) from rfl)) (fun q h => by cases h) dX3_byteB_8
def fX3_byteC (a1 : Int32) : Int32 :=
  (a1 &&& (255 : Int32))
set_option maxHeartbeats 4000000 in
set_option maxRecDepth 100000 in
theorem kX3_byteC (l : Launch) (a1 : Int32)  : Met l yX3_byteC wsX3_byteC { frames := 0, cells := 0, slots := 0, locals := 0 } (fun v _ => v = ([.int a1] : List Value).toArray) (QcRead (fX3_byteC a1)) 0 0 (fun _ => False) := by
  refine Met.ofW (cc := cX3_byteC) (maxL := 1) (ret := (some .int)) (by decide) rfl ?_
  intro p e s m args below meth c s₁ B hml hv0
  obtain rfl := hv0
  have hx := B.exec
  have hb := B.bytes
  have hr := B.returns
  have hts := atoms_spec (ws := wsX3_byteC) B.pre
  have hown : s.vm.findClass RX3 = some m.cls := findClass_of_methodNamed B.named
  have hlocks := B.notSynchronized
  have hl := lv_entry ([.int a1]) (n := 1) (Nat.le_of_ble_eq_true rfl)
  rw [lg_entry_eq]
  generalize (lg_sl ([.int a1]) ++ List.replicate (1 - (lg_sl ([.int a1])).length) Slot.unset).toArray = ls at hl ⊢
  have hl : lv_has ls 1 [(0, .int a1)] := hl
  refine lv_iload_n hx hb dX3_byteC_0 rfl (lv_at hl 0 rfl) ?_
  refine lv_sipush (v := (255 : Int32)) hx hb dX3_byteC_1 (by decide) ?_
  refine lv_iand hx hb dX3_byteC_4 ?_
  exact W.iret (v := (a1 &&& (255 : Int32))) hx hb hr (rd_end (show fX3_byteC a1 = (a1 &&& (255 : Int32)) from rfl)) (fun q h => by cases h) dX3_byteC_5
def fX3_imm (a1 : Int32) : Int32 :=
  (a1.toInt8.toInt32)
set_option maxHeartbeats 4000000 in
set_option maxRecDepth 100000 in
theorem kX3_imm (l : Launch) (a1 : Int32)  : Met l yX3_imm wsX3_imm { frames := 0, cells := 0, slots := 0, locals := 0 } (fun v _ => v = ([.int a1] : List Value).toArray) (QcRead (fX3_imm a1)) 0 0 (fun _ => False) := by
  refine Met.ofW (cc := cX3_imm) (maxL := 1) (ret := (some .int)) (by decide) rfl ?_
  intro p e s m args below meth c s₁ B hml hv0
  obtain rfl := hv0
  have hx := B.exec
  have hb := B.bytes
  have hr := B.returns
  have hts := atoms_spec (ws := wsX3_imm) B.pre
  have hown : s.vm.findClass RX3 = some m.cls := findClass_of_methodNamed B.named
  have hlocks := B.notSynchronized
  have hl := lv_entry ([.int a1]) (n := 1) (Nat.le_of_ble_eq_true rfl)
  rw [lg_entry_eq]
  generalize (lg_sl ([.int a1]) ++ List.replicate (1 - (lg_sl ([.int a1])).length) Slot.unset).toArray = ls at hl ⊢
  have hl : lv_has ls 1 [(0, .int a1)] := hl
  refine lv_iload_n hx hb dX3_imm_0 rfl (lv_at hl 0 rfl) ?_
  refine lv_i2b (v := (a1.toInt8.toInt32)) hx hb dX3_imm_1 rfl ?_
  exact W.iret (v := (a1.toInt8.toInt32)) hx hb hr (rd_end (show fX3_imm a1 = (a1.toInt8.toInt32) from rfl)) (fun q h => by cases h) dX3_imm_2
def fX3_holds (a1 : Int32) (a2 : Int32) (a3 : Int32) : Int32 :=
  if a1 = (12 : Int32) then
    if a2 = a3 then
      (1 : Int32)
    else
      (0 : Int32)
  else
    if a1 = (13 : Int32) then
      if a2 = a3 then
        (0 : Int32)
      else
        (1 : Int32)
    else
      if a3 ≤ a2 then
        (0 : Int32)
      else
        (1 : Int32)
set_option maxHeartbeats 4000000 in
set_option maxRecDepth 100000 in
theorem kX3_holds (l : Launch) (a1 : Int32) (a2 : Int32) (a3 : Int32)  : Met l yX3_holds wsX3_holds { frames := 0, cells := 0, slots := 0, locals := 0 } (fun v _ => v = ([.int a1, .int a2, .int a3] : List Value).toArray) (QcRead (fX3_holds a1 a2 a3)) 0 0 (fun _ => False) := by
  refine Met.ofW (cc := cX3_holds) (maxL := 3) (ret := (some .boolean)) (by decide) rfl ?_
  intro p e s m args below meth c s₁ B hml hv0
  obtain rfl := hv0
  have hx := B.exec
  have hb := B.bytes
  have hr := B.returns
  have hts := atoms_spec (ws := wsX3_holds) B.pre
  have hown : s.vm.findClass RX3 = some m.cls := findClass_of_methodNamed B.named
  have hlocks := B.notSynchronized
  have hl := lv_entry ([.int a1, .int a2, .int a3]) (n := 3) (Nat.le_of_ble_eq_true rfl)
  rw [lg_entry_eq]
  generalize (lg_sl ([.int a1, .int a2, .int a3]) ++ List.replicate (3 - (lg_sl ([.int a1, .int a2, .int a3])).length) Slot.unset).toArray = ls at hl ⊢
  have hl : lv_has ls 3 [(0, .int a1), (1, .int a2), (2, .int a3)] := hl
  refine lv_iload_n hx hb dX3_holds_0 rfl (lv_at hl 0 rfl) ?_
  by_cases c_1_0 : a1 = (12 : Int32)
  · refine lv_lookup (off := (27 : Int)) (tgt := 28) hx hb dX3_holds_1 (by decide) (by rw [c_1_0]; rfl) (by decide) ?_
    refine lv_iload_n hx hb dX3_holds_28 rfl (lv_at hl 1 rfl) ?_
    refine lv_iload_n hx hb dX3_holds_29 rfl (lv_at hl 2 rfl) ?_
    refine lv_icmp_ne (tgt := 37) hx hb dX3_holds_30 (by decide) (fun c_30 => ?_) (fun c_30 => ?_)
    · refine lv_iconst (v := (0 : Int32)) hx hb dX3_holds_37 (by decide) ?_
      exact W.zret (v := (0 : Int32)) hx hb hr rfl (rd_end (show fX3_holds a1 a2 a3 = (0 : Int32) from (if_pos c_1_0).trans ((if_neg c_30).trans rfl))) (fun q h => by cases h) dX3_holds_38
    · refine lv_iconst (v := (1 : Int32)) hx hb dX3_holds_33 (by decide) ?_
      refine lv_goto (tgt := 38) hx hb dX3_holds_34 (by decide) ?_
      exact W.zret (v := (1 : Int32)) hx hb hr rfl (rd_end (show fX3_holds a1 a2 a3 = (1 : Int32) from (if_pos c_1_0).trans ((if_pos c_30).trans rfl))) (fun q h => by cases h) dX3_holds_38
  · by_cases c_1_1 : a1 = (13 : Int32)
    · refine lv_lookup (off := (38 : Int)) (tgt := 39) hx hb dX3_holds_1 (by decide) (by rw [c_1_1]; rfl) (by decide) ?_
      refine lv_iload_n hx hb dX3_holds_39 rfl (lv_at hl 1 rfl) ?_
      refine lv_iload_n hx hb dX3_holds_40 rfl (lv_at hl 2 rfl) ?_
      refine lv_icmp_eq (tgt := 48) hx hb dX3_holds_41 (by decide) (fun c_41 => ?_) (fun c_41 => ?_)
      · refine lv_iconst (v := (0 : Int32)) hx hb dX3_holds_48 (by decide) ?_
        exact W.zret (v := (0 : Int32)) hx hb hr rfl (rd_end (show fX3_holds a1 a2 a3 = (0 : Int32) from (if_neg c_1_0).trans ((if_pos c_1_1).trans ((if_pos c_41).trans rfl)))) (fun q h => by cases h) dX3_holds_49
      · refine lv_iconst (v := (1 : Int32)) hx hb dX3_holds_44 (by decide) ?_
        refine lv_goto (tgt := 49) hx hb dX3_holds_45 (by decide) ?_
        exact W.zret (v := (1 : Int32)) hx hb hr rfl (rd_end (show fX3_holds a1 a2 a3 = (1 : Int32) from (if_neg c_1_0).trans ((if_pos c_1_1).trans ((if_neg c_41).trans rfl)))) (fun q h => by cases h) dX3_holds_49
    · refine lv_lookup (off := (49 : Int)) (tgt := 50) hx hb dX3_holds_1 (by decide) ((lv_osw c_1_0 (by decide)).trans ((lv_osw c_1_1 (by decide)).trans (rfl))) (by decide) ?_
      refine lv_iload_n hx hb dX3_holds_50 rfl (lv_at hl 1 rfl) ?_
      refine lv_iload_n hx hb dX3_holds_51 rfl (lv_at hl 2 rfl) ?_
      refine lv_icmp_ge (tgt := 59) hx hb dX3_holds_52 (by decide) (fun c_52 => ?_) (fun c_52 => ?_)
      · refine lv_iconst (v := (0 : Int32)) hx hb dX3_holds_59 (by decide) ?_
        exact W.zret (v := (0 : Int32)) hx hb hr rfl (rd_end (show fX3_holds a1 a2 a3 = (0 : Int32) from (if_neg c_1_0).trans ((if_neg c_1_1).trans ((if_pos c_52).trans rfl)))) (fun q h => by cases h) dX3_holds_60
      · refine lv_iconst (v := (1 : Int32)) hx hb dX3_holds_55 (by decide) ?_
        refine lv_goto (tgt := 60) hx hb dX3_holds_56 (by decide) ?_
        exact W.zret (v := (1 : Int32)) hx hb hr rfl (rd_end (show fX3_holds a1 a2 a3 = (1 : Int32) from (if_neg c_1_0).trans ((if_neg c_1_1).trans ((if_neg c_52).trans rfl)))) (fun q h => by cases h) dX3_holds_60
def fX3_valueA (u : TM) (a1 : Int32) : Int32 :=
  (u.2.1 (ix ((iu a1 (16 : Int32)) &&& (7 : Int32))))
set_option maxHeartbeats 4000000 in
set_option maxRecDepth 100000 in
theorem kX3_valueA (l : Launch) (D : va_G) (k : Nat → ClassId) (q : Nat → Nat) (u : TM) (a1 : Int32)  : Met l yX3_valueA wsX3_valueA { frames := 0, cells := 0, slots := 0, locals := 0 } (rd_P D vwCl (tyL k) (wT k q u) (fun _ => True) [.ref (q 0), .int a1]) (QcRead (fX3_valueA u a1)) 0 0 (fun _ => False) := by
  refine Met.ofW (cc := cX3_valueA) (maxL := 2) (ret := (some .int)) (by decide) rfl ?_
  intro p e s m args below meth c s₁ B hml hv0
  obtain ⟨rfl, hP, hK, hX⟩ := hv0
  have hx := B.exec
  have hb := B.bytes
  have hr := B.returns
  have hts := atoms_spec (ws := wsX3_valueA) B.pre
  have hown : s.vm.findClass RX3 = some m.cls := findClass_of_methodNamed B.named
  have hlocks := B.notSynchronized
  have hl := lv_entry ([.ref (q 0), .int a1]) (n := 2) (Nat.le_of_ble_eq_true rfl)
  rw [lg_entry_eq]
  generalize (lg_sl ([.ref (q 0), .int a1]) ++ List.replicate (2 - (lg_sl ([.ref (q 0), .int a1])).length) Slot.unset).toArray = ls at hl ⊢
  have hl : lv_has ls 2 [(0, .ref (q 0)), (1, .int a1)] := hl
  refine lv_aload_n hx hb dX3_valueA_0 rfl (lv_at hl 0 rfl) ?_
  refine va_get (D := D) (ci := 2) (v := .ref (q 2)) (C := RX3) (T := TX3) (N := 9) hx hb hts (by decide +kernel) hown hK hP 0 rfl rfl 1 (by decide) (hts (.fieldLink RX3 13 "TrapMachine" "registers" "[I") (by decide +kernel)) (fun _ h9 => h9) rfl dX3_valueA_1 ?_
  refine lv_iload_n hx hb dX3_valueA_4 rfl (lv_at hl 1 rfl) ?_
  refine lv_bipush (v := (16 : Int32)) hx hb dX3_valueA_5 (by decide) ?_
  refine lv_iushr (v := (iu a1 (16 : Int32))) hx hb dX3_valueA_7 rfl ?_
  refine lv_bipush (v := (7 : Int32)) hx hb dX3_valueA_8 (by decide) ?_
  refine lv_iand hx hb dX3_valueA_10 ?_
  refine q_iald (j := (ix ((iu a1 (16 : Int32)) &&& (7 : Int32)))) (x9 := (u.2.1 (ix ((iu a1 (16 : Int32)) &&& (7 : Int32))))) hx hb hK hP 2 0 rfl rfl (vi7 _) rfl rfl dX3_valueA_11 ?_
  exact W.iret (v := (u.2.1 (ix ((iu a1 (16 : Int32)) &&& (7 : Int32))))) hx hb hr (rd_end (show fX3_valueA u a1 = (u.2.1 (ix ((iu a1 (16 : Int32)) &&& (7 : Int32)))) from rfl)) (fun q h => by cases h) dX3_valueA_12
def fX3_valueB (u : TM) (a1 : Int32) : Int32 :=
  (u.2.1 (ix ((iu a1 (8 : Int32)) &&& (7 : Int32))))
set_option maxHeartbeats 4000000 in
set_option maxRecDepth 100000 in
theorem kX3_valueB (l : Launch) (D : va_G) (k : Nat → ClassId) (q : Nat → Nat) (u : TM) (a1 : Int32)  : Met l yX3_valueB wsX3_valueB { frames := 0, cells := 0, slots := 0, locals := 0 } (rd_P D vwCl (tyL k) (wT k q u) (fun _ => True) [.ref (q 0), .int a1]) (QcRead (fX3_valueB u a1)) 0 0 (fun _ => False) := by
  refine Met.ofW (cc := cX3_valueB) (maxL := 2) (ret := (some .int)) (by decide) rfl ?_
  intro p e s m args below meth c s₁ B hml hv0
  obtain ⟨rfl, hP, hK, hX⟩ := hv0
  have hx := B.exec
  have hb := B.bytes
  have hr := B.returns
  have hts := atoms_spec (ws := wsX3_valueB) B.pre
  have hown : s.vm.findClass RX3 = some m.cls := findClass_of_methodNamed B.named
  have hlocks := B.notSynchronized
  have hl := lv_entry ([.ref (q 0), .int a1]) (n := 2) (Nat.le_of_ble_eq_true rfl)
  rw [lg_entry_eq]
  generalize (lg_sl ([.ref (q 0), .int a1]) ++ List.replicate (2 - (lg_sl ([.ref (q 0), .int a1])).length) Slot.unset).toArray = ls at hl ⊢
  have hl : lv_has ls 2 [(0, .ref (q 0)), (1, .int a1)] := hl
  refine lv_aload_n hx hb dX3_valueB_0 rfl (lv_at hl 0 rfl) ?_
  refine va_get (D := D) (ci := 2) (v := .ref (q 2)) (C := RX3) (T := TX3) (N := 9) hx hb hts (by decide +kernel) hown hK hP 0 rfl rfl 1 (by decide) (hts (.fieldLink RX3 13 "TrapMachine" "registers" "[I") (by decide +kernel)) (fun _ h9 => h9) rfl dX3_valueB_1 ?_
  refine lv_iload_n hx hb dX3_valueB_4 rfl (lv_at hl 1 rfl) ?_
  refine lv_bipush (v := (8 : Int32)) hx hb dX3_valueB_5 (by decide) ?_
  refine lv_iushr (v := (iu a1 (8 : Int32))) hx hb dX3_valueB_7 rfl ?_
  refine lv_bipush (v := (7 : Int32)) hx hb dX3_valueB_8 (by decide) ?_
  refine lv_iand hx hb dX3_valueB_10 ?_
  refine q_iald (j := (ix ((iu a1 (8 : Int32)) &&& (7 : Int32)))) (x9 := (u.2.1 (ix ((iu a1 (8 : Int32)) &&& (7 : Int32))))) hx hb hK hP 2 0 rfl rfl (vi7 _) rfl rfl dX3_valueB_11 ?_
  exact W.iret (v := (u.2.1 (ix ((iu a1 (8 : Int32)) &&& (7 : Int32))))) hx hb hr (rd_end (show fX3_valueB u a1 = (u.2.1 (ix ((iu a1 (8 : Int32)) &&& (7 : Int32)))) from rfl)) (fun q h => by cases h) dX3_valueB_12
def fX3_valueC (u : TM) (a1 : Int32) : Int32 :=
  (u.2.1 (ix (a1 &&& (7 : Int32))))
set_option maxHeartbeats 4000000 in
set_option maxRecDepth 100000 in
theorem kX3_valueC (l : Launch) (D : va_G) (k : Nat → ClassId) (q : Nat → Nat) (u : TM) (a1 : Int32)  : Met l yX3_valueC wsX3_valueC { frames := 0, cells := 0, slots := 0, locals := 0 } (rd_P D vwCl (tyL k) (wT k q u) (fun _ => True) [.ref (q 0), .int a1]) (QcRead (fX3_valueC u a1)) 0 0 (fun _ => False) := by
  refine Met.ofW (cc := cX3_valueC) (maxL := 2) (ret := (some .int)) (by decide) rfl ?_
  intro p e s m args below meth c s₁ B hml hv0
  obtain ⟨rfl, hP, hK, hX⟩ := hv0
  have hx := B.exec
  have hb := B.bytes
  have hr := B.returns
  have hts := atoms_spec (ws := wsX3_valueC) B.pre
  have hown : s.vm.findClass RX3 = some m.cls := findClass_of_methodNamed B.named
  have hlocks := B.notSynchronized
  have hl := lv_entry ([.ref (q 0), .int a1]) (n := 2) (Nat.le_of_ble_eq_true rfl)
  rw [lg_entry_eq]
  generalize (lg_sl ([.ref (q 0), .int a1]) ++ List.replicate (2 - (lg_sl ([.ref (q 0), .int a1])).length) Slot.unset).toArray = ls at hl ⊢
  have hl : lv_has ls 2 [(0, .ref (q 0)), (1, .int a1)] := hl
  refine lv_aload_n hx hb dX3_valueC_0 rfl (lv_at hl 0 rfl) ?_
  refine va_get (D := D) (ci := 2) (v := .ref (q 2)) (C := RX3) (T := TX3) (N := 9) hx hb hts (by decide +kernel) hown hK hP 0 rfl rfl 1 (by decide) (hts (.fieldLink RX3 13 "TrapMachine" "registers" "[I") (by decide +kernel)) (fun _ h9 => h9) rfl dX3_valueC_1 ?_
  refine lv_iload_n hx hb dX3_valueC_4 rfl (lv_at hl 1 rfl) ?_
  refine lv_bipush (v := (7 : Int32)) hx hb dX3_valueC_5 (by decide) ?_
  refine lv_iand hx hb dX3_valueC_7 ?_
  refine q_iald (j := (ix (a1 &&& (7 : Int32)))) (x9 := (u.2.1 (ix (a1 &&& (7 : Int32))))) hx hb hK hP 2 0 rfl rfl (vi7 _) rfl rfl dX3_valueC_8 ?_
  exact W.iret (v := (u.2.1 (ix (a1 &&& (7 : Int32))))) hx hb hr (rd_end (show fX3_valueC u a1 = (u.2.1 (ix (a1 &&& (7 : Int32)))) from rfl)) (fun q h => by cases h) dX3_valueC_9
def fX3_result (u : TM) (a1 : Int32) (a2 : Int32) : Int32 :=
  if a1 = (1 : Int32) then
    ((fX3_valueB u a2) + (fX3_valueC u a2))
  else
    if a1 = (2 : Int32) then
      ((fX3_valueB u a2) - (fX3_valueC u a2))
    else
      if a1 = (3 : Int32) then
        ((fX3_valueB u a2) &&& (fX3_valueC u a2))
      else
        if a1 = (4 : Int32) then
          ((fX3_valueB u a2) ||| (fX3_valueC u a2))
        else
          if a1 = (5 : Int32) then
            if (fX3_valueC u a2) ≤ (fX3_valueB u a2) then
              (0 : Int32)
            else
              (1 : Int32)
          else
            if a1 = (6 : Int32) then
              ((fX3_valueB u a2) + (fX3_imm a2))
            else
              (((65536 : Int32) * (fX3_byteB a2)) + ((256 : Int32) * (fX3_byteC a2)))
set_option maxHeartbeats 4000000 in
set_option maxRecDepth 100000 in
theorem kX3_result (l : Launch) (D : va_G) (k : Nat → ClassId) (q : Nat → Nat) (u : TM) (a1 : Int32) (a2 : Int32)  : Met l yX3_result wsX3_result { frames := 1, cells := 0, slots := 0, locals := 21 } (rd_P D vwCl (tyL k) (wT k q u) (fun _ => True) [.ref (q 0), .int a1, .int a2]) (QcRead (fX3_result u a1 a2)) 0 0 (fun _ => False) := by
  refine Met.ofW (cc := cX3_result) (maxL := 5) (ret := (some .int)) (by decide) rfl ?_
  intro p e s m args below meth c s₁ B hml hv0
  obtain ⟨rfl, hP, hK, hX⟩ := hv0
  have hx := B.exec
  have hb := B.bytes
  have hr := B.returns
  have hts := atoms_spec (ws := wsX3_result) B.pre
  have hown : s.vm.findClass RX3 = some m.cls := findClass_of_methodNamed B.named
  have hlocks := B.notSynchronized
  have hl := lv_entry ([.ref (q 0), .int a1, .int a2]) (n := 5) (Nat.le_of_ble_eq_true rfl)
  rw [lg_entry_eq]
  generalize (lg_sl ([.ref (q 0), .int a1, .int a2]) ++ List.replicate (5 - (lg_sl ([.ref (q 0), .int a1, .int a2])).length) Slot.unset).toArray = ls at hl ⊢
  have hl : lv_has ls 5 [(0, .ref (q 0)), (1, .int a1), (2, .int a2)] := hl
  refine lv_aload_n hx hb dX3_result_0 rfl (lv_at hl 0 rfl) ?_
  refine lv_iload_n hx hb dX3_result_1 rfl (lv_at hl 2 rfl) ?_
  refine rd_call (r := (fX3_valueB u a2)) (W.runV (C := RX3) (b := (q 0)) (As := [.int a2]) (rest := []) ⟨hx, hb, hml, hown, hts⟩ (kX3_valueB l D k q u a2) (cwV 1 hts gX3_result_X3_valueB rfl rfl rfl (by decide +kernel) ⟨Nat.le_of_ble_eq_true rfl, Nat.le_of_ble_eq_true rfl⟩) (rd_preV bl_T pr_T hK hP (va_recv hK hP (ci := 2) (q0 := 0) rfl rfl)) rfl rfl hl.1 rfl (lv_room (Nat.le_of_ble_eq_true rfl)) dX3_result_2 ⟨Nat.zero_le _, Nat.zero_le _⟩) ?_
  refine lv_istore_n (lv' := [(3, .int (fX3_valueB u a2)), (0, .ref (q 0)), (1, .int a1), (2, .int a2)]) hx hb dX3_result_5 rfl hl (by decide) rfl (fun ls hl => ?_)
  refine lv_aload_n hx hb dX3_result_6 rfl (lv_at hl 1 rfl) ?_
  refine lv_iload_n hx hb dX3_result_7 rfl (lv_at hl 3 rfl) ?_
  refine rd_call (r := (fX3_valueC u a2)) (W.runV (C := RX3) (b := (q 0)) (As := [.int a2]) (rest := []) ⟨hx, hb, hml, hown, hts⟩ (kX3_valueC l D k q u a2) (cwV 1 hts gX3_result_X3_valueC rfl rfl rfl (by decide +kernel) ⟨Nat.le_of_ble_eq_true rfl, Nat.le_of_ble_eq_true rfl⟩) (rd_preV bl_T pr_T hK hP (va_recv hK hP (ci := 2) (q0 := 0) rfl rfl)) rfl rfl hl.1 rfl (lv_room (Nat.le_of_ble_eq_true rfl)) dX3_result_8 ⟨Nat.zero_le _, Nat.zero_le _⟩) ?_
  refine lv_istore (lv' := [(4, .int (fX3_valueC u a2)), (3, .int (fX3_valueB u a2)), (0, .ref (q 0)), (1, .int a1), (2, .int a2)]) hx hb dX3_result_11 hl (by decide) rfl (fun ls hl => ?_)
  refine lv_iload_n hx hb dX3_result_13 rfl (lv_at hl 3 rfl) ?_
  by_cases c_14_0 : a1 = (1 : Int32)
  · refine lv_tableIn (off := (38 : Int)) (tgt := 52) hx hb dX3_result_14 (by rw [c_14_0]; decide) (by rw [c_14_0]; decide) (by rw [c_14_0]; rfl) (by decide) ?_
    refine lv_iload_n hx hb dX3_result_52 rfl (lv_at hl 1 rfl) ?_
    refine lv_iload hx hb dX3_result_53 (lv_at hl 0 rfl) ?_
    refine lv_iadd hx hb dX3_result_55 ?_
    exact W.iret (v := ((fX3_valueB u a2) + (fX3_valueC u a2))) hx hb hr (rd_end (show fX3_result u a1 a2 = ((fX3_valueB u a2) + (fX3_valueC u a2)) from (if_pos c_14_0).trans rfl)) (fun q h => by cases h) dX3_result_56
  · by_cases c_14_1 : a1 = (2 : Int32)
    · refine lv_tableIn (off := (43 : Int)) (tgt := 57) hx hb dX3_result_14 (by rw [c_14_1]; decide) (by rw [c_14_1]; decide) (by rw [c_14_1]; rfl) (by decide) ?_
      refine lv_iload_n hx hb dX3_result_57 rfl (lv_at hl 1 rfl) ?_
      refine lv_iload hx hb dX3_result_58 (lv_at hl 0 rfl) ?_
      refine lv_isub hx hb dX3_result_60 ?_
      exact W.iret (v := ((fX3_valueB u a2) - (fX3_valueC u a2))) hx hb hr (rd_end (show fX3_result u a1 a2 = ((fX3_valueB u a2) - (fX3_valueC u a2)) from (if_neg c_14_0).trans ((if_pos c_14_1).trans rfl))) (fun q h => by cases h) dX3_result_61
    · by_cases c_14_2 : a1 = (3 : Int32)
      · refine lv_tableIn (off := (48 : Int)) (tgt := 62) hx hb dX3_result_14 (by rw [c_14_2]; decide) (by rw [c_14_2]; decide) (by rw [c_14_2]; rfl) (by decide) ?_
        refine lv_iload_n hx hb dX3_result_62 rfl (lv_at hl 1 rfl) ?_
        refine lv_iload hx hb dX3_result_63 (lv_at hl 0 rfl) ?_
        refine lv_iand hx hb dX3_result_65 ?_
        exact W.iret (v := ((fX3_valueB u a2) &&& (fX3_valueC u a2))) hx hb hr (rd_end (show fX3_result u a1 a2 = ((fX3_valueB u a2) &&& (fX3_valueC u a2)) from (if_neg c_14_0).trans ((if_neg c_14_1).trans ((if_pos c_14_2).trans rfl)))) (fun q h => by cases h) dX3_result_66
      · by_cases c_14_3 : a1 = (4 : Int32)
        · refine lv_tableIn (off := (53 : Int)) (tgt := 67) hx hb dX3_result_14 (by rw [c_14_3]; decide) (by rw [c_14_3]; decide) (by rw [c_14_3]; rfl) (by decide) ?_
          refine lv_iload_n hx hb dX3_result_67 rfl (lv_at hl 1 rfl) ?_
          refine lv_iload hx hb dX3_result_68 (lv_at hl 0 rfl) ?_
          refine lv_ior hx hb dX3_result_70 ?_
          exact W.iret (v := ((fX3_valueB u a2) ||| (fX3_valueC u a2))) hx hb hr (rd_end (show fX3_result u a1 a2 = ((fX3_valueB u a2) ||| (fX3_valueC u a2)) from (if_neg c_14_0).trans ((if_neg c_14_1).trans ((if_neg c_14_2).trans ((if_pos c_14_3).trans rfl))))) (fun q h => by cases h) dX3_result_71
        · by_cases c_14_4 : a1 = (5 : Int32)
          · refine lv_tableIn (off := (58 : Int)) (tgt := 72) hx hb dX3_result_14 (by rw [c_14_4]; decide) (by rw [c_14_4]; decide) (by rw [c_14_4]; rfl) (by decide) ?_
            refine lv_iload_n hx hb dX3_result_72 rfl (lv_at hl 1 rfl) ?_
            refine lv_iload hx hb dX3_result_73 (lv_at hl 0 rfl) ?_
            refine lv_icmp_ge (tgt := 82) hx hb dX3_result_75 (by decide) (fun c_75 => ?_) (fun c_75 => ?_)
            · refine lv_iconst (v := (0 : Int32)) hx hb dX3_result_82 (by decide) ?_
              exact W.iret (v := (0 : Int32)) hx hb hr (rd_end (show fX3_result u a1 a2 = (0 : Int32) from (if_neg c_14_0).trans ((if_neg c_14_1).trans ((if_neg c_14_2).trans ((if_neg c_14_3).trans ((if_pos c_14_4).trans ((if_pos c_75).trans rfl))))))) (fun q h => by cases h) dX3_result_83
            · refine lv_iconst (v := (1 : Int32)) hx hb dX3_result_78 (by decide) ?_
              refine lv_goto (tgt := 83) hx hb dX3_result_79 (by decide) ?_
              exact W.iret (v := (1 : Int32)) hx hb hr (rd_end (show fX3_result u a1 a2 = (1 : Int32) from (if_neg c_14_0).trans ((if_neg c_14_1).trans ((if_neg c_14_2).trans ((if_neg c_14_3).trans ((if_pos c_14_4).trans ((if_neg c_75).trans rfl))))))) (fun q h => by cases h) dX3_result_83
          · by_cases c_14_5 : a1 = (6 : Int32)
            · refine lv_tableIn (off := (70 : Int)) (tgt := 84) hx hb dX3_result_14 (by rw [c_14_5]; decide) (by rw [c_14_5]; decide) (by rw [c_14_5]; rfl) (by decide) ?_
              refine lv_iload_n hx hb dX3_result_84 rfl (lv_at hl 1 rfl) ?_
              refine lv_iload_n hx hb dX3_result_85 rfl (lv_at hl 4 rfl) ?_
              refine rd_call (r := (fX3_imm a2)) (W.runS (As := [.int a2]) (rest := [.int (fX3_valueB u a2)]) ⟨hx, hb, hml, hown, hts⟩ (kX3_imm l a2) (va_cwS 1 hts gX3_result_X3_imm rfl rfl rfl (by decide +kernel) ⟨Nat.le_of_ble_eq_true rfl, Nat.le_of_ble_eq_true rfl⟩) preEq rfl rfl hl.1 rfl (lv_room (Nat.le_of_ble_eq_true rfl)) dX3_result_86 ⟨Nat.zero_le _, Nat.zero_le _⟩) ?_
              refine lv_iadd hx hb dX3_result_89 ?_
              exact W.iret (v := ((fX3_valueB u a2) + (fX3_imm a2))) hx hb hr (rd_end (show fX3_result u a1 a2 = ((fX3_valueB u a2) + (fX3_imm a2)) from (if_neg c_14_0).trans ((if_neg c_14_1).trans ((if_neg c_14_2).trans ((if_neg c_14_3).trans ((if_neg c_14_4).trans ((if_pos c_14_5).trans rfl))))))) (fun q h => by cases h) dX3_result_90
            · refine lv_tableOut (tgt := 91) hx hb dX3_result_14 (by have n1 := lv_neT c_14_0 (show (1 : Int32).toInt = 1 by decide); have n2 := lv_neT c_14_1 (show (2 : Int32).toInt = 2 by decide); have n3 := lv_neT c_14_2 (show (3 : Int32).toInt = 3 by decide); have n4 := lv_neT c_14_3 (show (4 : Int32).toInt = 4 by decide); have n5 := lv_neT c_14_4 (show (5 : Int32).toInt = 5 by decide); have n6 := lv_neT c_14_5 (show (6 : Int32).toInt = 6 by decide); omega) (by decide) ?_
              refine lv_ldc (v := (65536 : Int32)) hx hb hown (hts (.constant RX3 157 (65536)) (by decide +kernel)) dX3_result_91 ?_
              refine lv_iload_n hx hb dX3_result_93 rfl (lv_at hl 4 rfl) ?_
              refine rd_call (r := (fX3_byteB a2)) (W.runS (As := [.int a2]) (rest := [.int (65536 : Int32)]) ⟨hx, hb, hml, hown, hts⟩ (kX3_byteB l a2) (va_cwS 1 hts gX3_result_X3_byteB rfl rfl rfl (by decide +kernel) ⟨Nat.le_of_ble_eq_true rfl, Nat.le_of_ble_eq_true rfl⟩) preEq rfl rfl hl.1 rfl (lv_room (Nat.le_of_ble_eq_true rfl)) dX3_result_94 ⟨Nat.zero_le _, Nat.zero_le _⟩) ?_
              refine lv_imul hx hb dX3_result_97 ?_
              refine lv_sipush (v := (256 : Int32)) hx hb dX3_result_98 (by decide) ?_
              refine lv_iload_n hx hb dX3_result_101 rfl (lv_at hl 4 rfl) ?_
              refine rd_call (r := (fX3_byteC a2)) (W.runS (As := [.int a2]) (rest := [.int (256 : Int32), .int ((65536 : Int32) * (fX3_byteB a2))]) ⟨hx, hb, hml, hown, hts⟩ (kX3_byteC l a2) (va_cwS 1 hts gX3_result_X3_byteC rfl rfl rfl (by decide +kernel) ⟨Nat.le_of_ble_eq_true rfl, Nat.le_of_ble_eq_true rfl⟩) preEq rfl rfl hl.1 rfl (lv_room (Nat.le_of_ble_eq_true rfl)) dX3_result_102 ⟨Nat.zero_le _, Nat.zero_le _⟩) ?_
              refine lv_imul hx hb dX3_result_105 ?_
              refine lv_iadd hx hb dX3_result_106 ?_
              exact W.iret (v := (((65536 : Int32) * (fX3_byteB a2)) + ((256 : Int32) * (fX3_byteC a2)))) hx hb hr (rd_end (show fX3_result u a1 a2 = (((65536 : Int32) * (fX3_byteB a2)) + ((256 : Int32) * (fX3_byteC a2))) from (if_neg c_14_0).trans ((if_neg c_14_1).trans ((if_neg c_14_2).trans ((if_neg c_14_3).trans ((if_neg c_14_4).trans ((if_neg c_14_5).trans rfl))))))) (fun q h => by cases h) dX3_result_107
def fX3_setA (u : TM) (a1 : Int32) (a2 : Int32) : TM :=
  if ((iu a1 (16 : Int32)) &&& (7 : Int32)) = (0 : Int32) then
    u
  else
    (ts1 u (upd u.2.1 (ix ((iu a1 (16 : Int32)) &&& (7 : Int32))) a2))
set_option maxHeartbeats 4000000 in
set_option maxRecDepth 100000 in
theorem kX3_setA (l : Launch) (D : va_G) (k : Nat → ClassId) (q : Nat → Nat) (u : TM) (a1 : Int32) (a2 : Int32)  (o : TM) (ho : fX3_setA u a1 a2 = o) : Met l yX3_setA wsX3_setA { frames := 0, cells := 0, slots := 0, locals := 0 } (wr_P D vwCl (tyL k) (wT k q u) (fun _ => True) [.ref (q 0), .int a1, .int a2]) (wr_Q D vwCl none (wT k q u) (wT k q o)) 0 0 (in_W (wT k q u)) := by
  refine Met.ofW (cc := cX3_setA) (maxL := 4) (ret := none) (by decide) rfl ?_
  intro p e s m args below meth c s₁ B hml hv0
  obtain ⟨rfl, hP, hK, hX, hD0⟩ := hv0
  have hx := B.exec
  have hb := B.bytes
  have hr := B.returns
  have hts := atoms_spec (ws := wsX3_setA) B.pre
  have hown : s.vm.findClass RX3 = some m.cls := findClass_of_methodNamed B.named
  have hlocks := B.notSynchronized
  have hD : va_D (in_W (wT k q u)) (wT k q u) := wD_self hD0
  have hS : va_S (in_W (wT k q u)) s.heap s.heap [] := va_S.rf
  have hl := lv_entry ([.ref (q 0), .int a1, .int a2]) (n := 4) (Nat.le_of_ble_eq_true rfl)
  rw [lg_entry_eq]
  generalize (lg_sl ([.ref (q 0), .int a1, .int a2]) ++ List.replicate (4 - (lg_sl ([.ref (q 0), .int a1, .int a2])).length) Slot.unset).toArray = ls at hl ⊢
  have hl : lv_has ls 4 [(0, .ref (q 0)), (1, .int a1), (2, .int a2)] := hl
  refine lv_iload_n hx hb dX3_setA_0 rfl (lv_at hl 1 rfl) ?_
  refine lv_bipush (v := (16 : Int32)) hx hb dX3_setA_1 (by decide) ?_
  refine lv_iushr (v := (iu a1 (16 : Int32))) hx hb dX3_setA_3 rfl ?_
  refine lv_bipush (v := (7 : Int32)) hx hb dX3_setA_4 (by decide) ?_
  refine lv_iand hx hb dX3_setA_6 ?_
  refine lv_istore_n (lv' := [(3, .int ((iu a1 (16 : Int32)) &&& (7 : Int32))), (0, .ref (q 0)), (1, .int a1), (2, .int a2)]) hx hb dX3_setA_7 rfl hl (by decide) rfl (fun ls hl => ?_)
  refine lv_iload_n hx hb dX3_setA_8 rfl (lv_at hl 0 rfl) ?_
  refine lv_if_eq (tgt := 19) hx hb dX3_setA_9 (by decide) (fun c_9 => ?_) (fun c_9 => ?_)
  · exact W.vret hx hb hr (wr_end rfl (congrArg (wT k q) ((show fX3_setA u a1 a2 = u from (if_pos c_9).trans rfl).symm.trans ho)) hP hS) hS.2.2 dX3_setA_19
  · refine lv_aload_n hx hb dX3_setA_12 rfl (lv_at hl 1 rfl) ?_
    refine va_get (D := D) (ci := 2) (v := .ref (q 2)) (C := RX3) (T := TX3) (N := 9) hx hb hts (by decide +kernel) hown hK hP 0 rfl rfl 1 (by decide) (hts (.fieldLink RX3 13 "TrapMachine" "registers" "[I") (by decide +kernel)) (fun _ h9 => h9) rfl dX3_setA_13 ?_
    refine lv_iload_n hx hb dX3_setA_16 rfl (lv_at hl 0 rfl) ?_
    refine lv_iload_n hx hb dX3_setA_17 rfl (lv_at hl 3 rfl) ?_
    refine q_iast (j := (ix ((iu a1 (16 : Int32)) &&& (7 : Int32)))) (ws' := wT k q (ts1 u (upd u.2.1 (ix ((iu a1 (16 : Int32)) &&& (7 : Int32))) a2))) hx hb hK hP hD hS 2 0 rfl rfl (vi7 _) rfl rfl dX3_setA_18 (fun H locs hP hD hS => ?_)
    exact W.vret hx hb hr (wr_end rfl (congrArg (wT k q) ((show fX3_setA u a1 a2 = (ts1 u (upd u.2.1 (ix ((iu a1 (16 : Int32)) &&& (7 : Int32))) a2)) from (if_neg c_9).trans rfl).symm.trans ho)) hP hS) hS.2.2 dX3_setA_19
def fX3_calculate (u : TM) (a1 : Int32) (a2 : Int32) : TM :=
  (ts4 (fX3_setA u a2 (fX3_result u a1 a2)) ((fX3_setA u a2 (fX3_result u a1 a2)).2.2.2.2.1 + (4 : Int32)))
set_option maxHeartbeats 4000000 in
set_option maxRecDepth 100000 in
theorem kX3_calculate (l : Launch) (D : va_G) (k : Nat → ClassId) (q : Nat → Nat) (u : TM) (a1 : Int32) (a2 : Int32)  (o : TM) (ho : fX3_calculate u a1 a2 = o) : Met l yX3_calculate wsX3_calculate { frames := 2, cells := 0, slots := 0, locals := 45 } (wr_P D vwCl (tyL k) (wT k q u) (fun _ => True) [.ref (q 0), .int a1, .int a2]) (wr_Q D vwCl none (wT k q u) (wT k q o)) 0 0 (in_W (wT k q u)) := by
  refine Met.ofW (cc := cX3_calculate) (maxL := 3) (ret := none) (by decide) rfl ?_
  intro p e s m args below meth c s₁ B hml hv0
  obtain ⟨rfl, hP, hK, hX, hD0⟩ := hv0
  have hx := B.exec
  have hb := B.bytes
  have hr := B.returns
  have hts := atoms_spec (ws := wsX3_calculate) B.pre
  have hown : s.vm.findClass RX3 = some m.cls := findClass_of_methodNamed B.named
  have hlocks := B.notSynchronized
  have hD : va_D (in_W (wT k q u)) (wT k q u) := wD_self hD0
  have hS : va_S (in_W (wT k q u)) s.heap s.heap [] := va_S.rf
  have hl := lv_entry ([.ref (q 0), .int a1, .int a2]) (n := 3) (Nat.le_of_ble_eq_true rfl)
  rw [lg_entry_eq]
  generalize (lg_sl ([.ref (q 0), .int a1, .int a2]) ++ List.replicate (3 - (lg_sl ([.ref (q 0), .int a1, .int a2])).length) Slot.unset).toArray = ls at hl ⊢
  have hl : lv_has ls 3 [(0, .ref (q 0)), (1, .int a1), (2, .int a2)] := hl
  refine lv_aload_n hx hb dX3_calculate_0 rfl (lv_at hl 0 rfl) ?_
  refine lv_iload_n hx hb dX3_calculate_1 rfl (lv_at hl 2 rfl) ?_
  refine lv_aload_n hx hb dX3_calculate_2 rfl (lv_at hl 0 rfl) ?_
  refine lv_iload_n hx hb dX3_calculate_3 rfl (lv_at hl 1 rfl) ?_
  refine lv_iload_n hx hb dX3_calculate_4 rfl (lv_at hl 2 rfl) ?_
  refine rd_call (r := (fX3_result u a1 a2)) (W.runV (C := RX3) (b := (q 0)) (As := [.int a1, .int a2]) (rest := [.int a2, .ref (q 0)]) ⟨hx, hb, hml, hown, hts⟩ (kX3_result l D k q u a1 a2) (cwV 2 hts gX3_calculate_X3_result rfl rfl rfl (by decide +kernel) ⟨Nat.le_of_ble_eq_true rfl, Nat.le_of_ble_eq_true rfl⟩) (rd_preV bl_T pr_T hK hP (va_recv hK hP (ci := 2) (q0 := 0) rfl rfl)) rfl rfl hl.1 rfl (lv_room (Nat.le_of_ble_eq_true rfl)) dX3_calculate_5 ⟨Nat.zero_le _, Nat.zero_le _⟩) ?_
  obtain ⟨o1, h_o1⟩ : ∃ o9, (fX3_setA u a2 (fX3_result u a1 a2)) = o9 := ⟨_, rfl⟩
  refine wr_call (r := none) (ws' := wT k q o1) (W.runV (C := RX3) (b := (q 0)) (As := [.int a2, .int (fX3_result u a1 a2)]) (rest := []) ⟨hx, hb, hml, hown, hts⟩ (kX3_setA l D k q u a2 (fX3_result u a1 a2) o1 h_o1) (cwV 2 hts gX3_calculate_X3_setA rfl rfl rfl (by decide +kernel) ⟨Nat.le_of_ble_eq_true rfl, Nat.le_of_ble_eq_true rfl⟩) (wr_preV bl_T pr_T hK hP hD (va_recv hK hP (ci := 2) (q0 := 0) rfl rfl)) rfl rfl hl.1 rfl (lv_room (Nat.le_of_ble_eq_true rfl)) dX3_calculate_8 ⟨Nat.zero_le _, Nat.zero_le _⟩) hP hD hS [0, 1, 2, 3, 4, 5, 6, 7, 8, 9, 10] [] [0, 1, 2, 3, 4, 5, 6, 7, 8, 9, 10] allT (by decide) prmT adrT (fun H locs hP hD hS => ?_)
  refine lv_aload_n hx hb dX3_calculate_11 rfl (lv_at hl 0 rfl) ?_
  refine lv_dup hx hb dX3_calculate_12 rfl ?_
  refine va_get (D := D) (ci := 2) (v := .int o1.2.2.2.2.1) (C := RX3) (T := TX3) (N := 9) hx hb hts (by decide +kernel) hown hK hP 0 rfl rfl 4 (by decide) (hts (.fieldLink RX3 54 "TrapMachine" "place" "I") (by decide +kernel)) (fun _ h9 => h9) rfl dX3_calculate_13 ?_
  refine lv_iconst (v := (4 : Int32)) hx hb dX3_calculate_16 (by decide) ?_
  refine lv_iadd hx hb dX3_calculate_17 ?_
  refine va_put (D := D) (ci := 2) (v := .int (o1.2.2.2.2.1 + (4 : Int32))) (ty := .int) (C := RX3) (T := TX3) (N := 9) hx hb hts (by decide +kernel) tyX3 tyX3_ok nmX3 hown hK hP hD hS 0 rfl rfl 4 (by decide) (hts (.fieldLink RX3 54 "TrapMachine" "place" "I") (by decide +kernel)) (fun _ h9 => h9) rfl (by decide +kernel) rfl rfl (Nat.le_of_ble_eq_true rfl) dX3_calculate_18 (fun H locs hP hD hS => ?_)
  have hP : va_P D vwCl (wT k q (ts4 o1 (o1.2.2.2.2.1 + (4 : Int32)))) H := hP
  have hD : va_D (in_W (wT k q u)) (wT k q (ts4 o1 (o1.2.2.2.2.1 + (4 : Int32)))) := hD
  exact W.vret hx hb hr (wr_end rfl (congrArg (wT k q) ((show fX3_calculate u a1 a2 = (ts4 o1 (o1.2.2.2.2.1 + (4 : Int32))) from (by subst h_o1; exact rfl)).symm.trans ho)) hP hS) hS.2.2 dX3_calculate_21
def fX3_branch (u : TM) (a1 : Int32) (a2 : Int32) : TM :=
  if a1 = (15 : Int32) then
    (ts4 (fX3_setA u a2 (u.2.2.2.2.1 + (4 : Int32))) ((fX3_valueB u a2) + ((4 : Int32) * (fX3_imm a2))))
  else
    if (fX3_holds a1 (fX3_valueA u a2) (fX3_valueB u a2)) = (0 : Int32) then
      (ts4 u (u.2.2.2.2.1 + (4 : Int32)))
    else
      (ts4 u (u.2.2.2.2.1 + ((4 : Int32) * (fX3_imm a2))))
set_option maxHeartbeats 4000000 in
set_option maxRecDepth 100000 in
theorem kX3_branch (l : Launch) (D : va_G) (k : Nat → ClassId) (q : Nat → Nat) (u : TM) (a1 : Int32) (a2 : Int32)  (o : TM) (ho : fX3_branch u a1 a2 = o) : Met l yX3_branch wsX3_branch { frames := 1, cells := 0, slots := 0, locals := 23 } (wr_P D vwCl (tyL k) (wT k q u) (fun _ => True) [.ref (q 0), .int a1, .int a2]) (wr_Q D vwCl none (wT k q u) (wT k q o)) 0 0 (in_W (wT k q u)) := by
  refine Met.ofW (cc := cX3_branch) (maxL := 5) (ret := none) (by decide) rfl ?_
  intro p e s m args below meth c s₁ B hml hv0
  obtain ⟨rfl, hP, hK, hX, hD0⟩ := hv0
  have hx := B.exec
  have hb := B.bytes
  have hr := B.returns
  have hts := atoms_spec (ws := wsX3_branch) B.pre
  have hown : s.vm.findClass RX3 = some m.cls := findClass_of_methodNamed B.named
  have hlocks := B.notSynchronized
  have hD : va_D (in_W (wT k q u)) (wT k q u) := wD_self hD0
  have hS : va_S (in_W (wT k q u)) s.heap s.heap [] := va_S.rf
  have hl := lv_entry ([.ref (q 0), .int a1, .int a2]) (n := 5) (Nat.le_of_ble_eq_true rfl)
  rw [lg_entry_eq]
  generalize (lg_sl ([.ref (q 0), .int a1, .int a2]) ++ List.replicate (5 - (lg_sl ([.ref (q 0), .int a1, .int a2])).length) Slot.unset).toArray = ls at hl ⊢
  have hl : lv_has ls 5 [(0, .ref (q 0)), (1, .int a1), (2, .int a2)] := hl
  refine lv_aload_n hx hb dX3_branch_0 rfl (lv_at hl 0 rfl) ?_
  refine lv_iload_n hx hb dX3_branch_1 rfl (lv_at hl 2 rfl) ?_
  refine rd_call (r := (fX3_valueB u a2)) (W.runV (C := RX3) (b := (q 0)) (As := [.int a2]) (rest := []) ⟨hx, hb, hml, hown, hts⟩ (kX3_valueB l D k q u a2) (cwV 1 hts gX3_branch_X3_valueB rfl rfl rfl (by decide +kernel) ⟨Nat.le_of_ble_eq_true rfl, Nat.le_of_ble_eq_true rfl⟩) (rd_preV bl_T pr_T hK hP (va_recv hK hP (ci := 2) (q0 := 0) rfl rfl)) rfl rfl hl.1 rfl (lv_room (Nat.le_of_ble_eq_true rfl)) dX3_branch_2 ⟨Nat.zero_le _, Nat.zero_le _⟩) ?_
  refine lv_istore_n (lv' := [(3, .int (fX3_valueB u a2)), (0, .ref (q 0)), (1, .int a1), (2, .int a2)]) hx hb dX3_branch_5 rfl hl (by decide) rfl (fun ls hl => ?_)
  refine lv_iconst (v := (4 : Int32)) hx hb dX3_branch_6 (by decide) ?_
  refine lv_iload_n hx hb dX3_branch_7 rfl (lv_at hl 3 rfl) ?_
  refine rd_call (r := (fX3_imm a2)) (W.runS (As := [.int a2]) (rest := [.int (4 : Int32)]) ⟨hx, hb, hml, hown, hts⟩ (kX3_imm l a2) (va_cwS 1 hts gX3_branch_X3_imm rfl rfl rfl (by decide +kernel) ⟨Nat.le_of_ble_eq_true rfl, Nat.le_of_ble_eq_true rfl⟩) preEq rfl rfl hl.1 rfl (lv_room (Nat.le_of_ble_eq_true rfl)) dX3_branch_8 ⟨Nat.zero_le _, Nat.zero_le _⟩) ?_
  refine lv_imul hx hb dX3_branch_11 ?_
  refine lv_istore (lv' := [(4, .int ((4 : Int32) * (fX3_imm a2))), (3, .int (fX3_valueB u a2)), (0, .ref (q 0)), (1, .int a1), (2, .int a2)]) hx hb dX3_branch_12 hl (by decide) rfl (fun ls hl => ?_)
  refine lv_iload_n hx hb dX3_branch_14 rfl (lv_at hl 3 rfl) ?_
  refine lv_bipush (v := (15 : Int32)) hx hb dX3_branch_15 (by decide) ?_
  refine lv_icmp_ne (tgt := 42) hx hb dX3_branch_17 (by decide) (fun c_17 => ?_) (fun c_17 => ?_)
  · refine lv_aload_n hx hb dX3_branch_42 rfl (lv_at hl 2 rfl) ?_
    refine lv_dup hx hb dX3_branch_43 rfl ?_
    refine va_get (D := D) (ci := 2) (v := .int u.2.2.2.2.1) (C := RX3) (T := TX3) (N := 9) hx hb hts (by decide +kernel) hown hK hP 0 rfl rfl 4 (by decide) (hts (.fieldLink RX3 54 "TrapMachine" "place" "I") (by decide +kernel)) (fun _ h9 => h9) rfl dX3_branch_44 ?_
    refine lv_iload_n hx hb dX3_branch_47 rfl (lv_at hl 3 rfl) ?_
    refine lv_aload_n hx hb dX3_branch_48 rfl (lv_at hl 2 rfl) ?_
    refine lv_iload_n hx hb dX3_branch_49 rfl (lv_at hl 4 rfl) ?_
    refine rd_call (r := (fX3_valueA u a2)) (W.runV (C := RX3) (b := (q 0)) (As := [.int a2]) (rest := [.int a1, .int u.2.2.2.2.1, .ref (q 0)]) ⟨hx, hb, hml, hown, hts⟩ (kX3_valueA l D k q u a2) (cwV 1 hts gX3_branch_X3_valueA rfl rfl rfl (by decide +kernel) ⟨Nat.le_of_ble_eq_true rfl, Nat.le_of_ble_eq_true rfl⟩) (rd_preV bl_T pr_T hK hP (va_recv hK hP (ci := 2) (q0 := 0) rfl rfl)) rfl rfl hl.1 rfl (lv_room (Nat.le_of_ble_eq_true rfl)) dX3_branch_50 ⟨Nat.zero_le _, Nat.zero_le _⟩) ?_
    refine lv_iload_n hx hb dX3_branch_53 rfl (lv_at hl 1 rfl) ?_
    refine rd_call (r := (fX3_holds a1 (fX3_valueA u a2) (fX3_valueB u a2))) (W.runS (As := [.int a1, .int (fX3_valueA u a2), .int (fX3_valueB u a2)]) (rest := [.int u.2.2.2.2.1, .ref (q 0)]) ⟨hx, hb, hml, hown, hts⟩ (kX3_holds l a1 (fX3_valueA u a2) (fX3_valueB u a2)) (va_cwS 3 hts gX3_branch_X3_holds rfl rfl rfl (by decide +kernel) ⟨Nat.le_of_ble_eq_true rfl, Nat.le_of_ble_eq_true rfl⟩) preEq rfl rfl hl.1 rfl (lv_room (Nat.le_of_ble_eq_true rfl)) dX3_branch_54 ⟨Nat.zero_le _, Nat.zero_le _⟩) ?_
    refine lv_if_eq (tgt := 65) hx hb dX3_branch_57 (by decide) (fun c_57 => ?_) (fun c_57 => ?_)
    · refine lv_iconst (v := (4 : Int32)) hx hb dX3_branch_65 (by decide) ?_
      refine lv_iadd hx hb dX3_branch_66 ?_
      refine va_put (D := D) (ci := 2) (v := .int (u.2.2.2.2.1 + (4 : Int32))) (ty := .int) (C := RX3) (T := TX3) (N := 9) hx hb hts (by decide +kernel) tyX3 tyX3_ok nmX3 hown hK hP hD hS 0 rfl rfl 4 (by decide) (hts (.fieldLink RX3 54 "TrapMachine" "place" "I") (by decide +kernel)) (fun _ h9 => h9) rfl (by decide +kernel) rfl rfl (Nat.le_of_ble_eq_true rfl) dX3_branch_67 (fun H locs hP hD hS => ?_)
      have hP : va_P D vwCl (wT k q (ts4 u (u.2.2.2.2.1 + (4 : Int32)))) H := hP
      have hD : va_D (in_W (wT k q u)) (wT k q (ts4 u (u.2.2.2.2.1 + (4 : Int32)))) := hD
      exact W.vret hx hb hr (wr_end rfl (congrArg (wT k q) ((show fX3_branch u a1 a2 = (ts4 u (u.2.2.2.2.1 + (4 : Int32))) from (if_neg c_17).trans ((if_pos c_57).trans rfl)).symm.trans ho)) hP hS) hS.2.2 dX3_branch_70
    · refine lv_iload hx hb dX3_branch_60 (lv_at hl 0 rfl) ?_
      refine lv_goto (tgt := 66) hx hb dX3_branch_62 (by decide) ?_
      refine lv_iadd hx hb dX3_branch_66 ?_
      refine va_put (D := D) (ci := 2) (v := .int (u.2.2.2.2.1 + ((4 : Int32) * (fX3_imm a2)))) (ty := .int) (C := RX3) (T := TX3) (N := 9) hx hb hts (by decide +kernel) tyX3 tyX3_ok nmX3 hown hK hP hD hS 0 rfl rfl 4 (by decide) (hts (.fieldLink RX3 54 "TrapMachine" "place" "I") (by decide +kernel)) (fun _ h9 => h9) rfl (by decide +kernel) rfl rfl (Nat.le_of_ble_eq_true rfl) dX3_branch_67 (fun H locs hP hD hS => ?_)
      have hP : va_P D vwCl (wT k q (ts4 u (u.2.2.2.2.1 + ((4 : Int32) * (fX3_imm a2))))) H := hP
      have hD : va_D (in_W (wT k q u)) (wT k q (ts4 u (u.2.2.2.2.1 + ((4 : Int32) * (fX3_imm a2))))) := hD
      exact W.vret hx hb hr (wr_end rfl (congrArg (wT k q) ((show fX3_branch u a1 a2 = (ts4 u (u.2.2.2.2.1 + ((4 : Int32) * (fX3_imm a2)))) from (if_neg c_17).trans ((if_neg c_57).trans rfl)).symm.trans ho)) hP hS) hS.2.2 dX3_branch_70
  · refine lv_aload_n hx hb dX3_branch_20 rfl (lv_at hl 2 rfl) ?_
    refine lv_iload_n hx hb dX3_branch_21 rfl (lv_at hl 4 rfl) ?_
    refine lv_aload_n hx hb dX3_branch_22 rfl (lv_at hl 2 rfl) ?_
    refine va_get (D := D) (ci := 2) (v := .int u.2.2.2.2.1) (C := RX3) (T := TX3) (N := 9) hx hb hts (by decide +kernel) hown hK hP 0 rfl rfl 4 (by decide) (hts (.fieldLink RX3 54 "TrapMachine" "place" "I") (by decide +kernel)) (fun _ h9 => h9) rfl dX3_branch_23 ?_
    refine lv_iconst (v := (4 : Int32)) hx hb dX3_branch_26 (by decide) ?_
    refine lv_iadd hx hb dX3_branch_27 ?_
    obtain ⟨o1, h_o1⟩ : ∃ o9, (fX3_setA u a2 (u.2.2.2.2.1 + (4 : Int32))) = o9 := ⟨_, rfl⟩
    refine wr_call (r := none) (ws' := wT k q o1) (W.runV (C := RX3) (b := (q 0)) (As := [.int a2, .int (u.2.2.2.2.1 + (4 : Int32))]) (rest := []) ⟨hx, hb, hml, hown, hts⟩ (kX3_setA l D k q u a2 (u.2.2.2.2.1 + (4 : Int32)) o1 h_o1) (cwV 2 hts gX3_branch_X3_setA rfl rfl rfl (by decide +kernel) ⟨Nat.le_of_ble_eq_true rfl, Nat.le_of_ble_eq_true rfl⟩) (wr_preV bl_T pr_T hK hP hD (va_recv hK hP (ci := 2) (q0 := 0) rfl rfl)) rfl rfl hl.1 rfl (lv_room (Nat.le_of_ble_eq_true rfl)) dX3_branch_28 ⟨Nat.zero_le _, Nat.zero_le _⟩) hP hD hS [0, 1, 2, 3, 4, 5, 6, 7, 8, 9, 10] [] [0, 1, 2, 3, 4, 5, 6, 7, 8, 9, 10] allT (by decide) prmT adrT (fun H locs hP hD hS => ?_)
    refine lv_aload_n hx hb dX3_branch_31 rfl (lv_at hl 2 rfl) ?_
    refine lv_iload_n hx hb dX3_branch_32 rfl (lv_at hl 1 rfl) ?_
    refine lv_iload hx hb dX3_branch_33 (lv_at hl 0 rfl) ?_
    refine lv_iadd hx hb dX3_branch_35 ?_
    refine va_put (D := D) (ci := 2) (v := .int ((fX3_valueB u a2) + ((4 : Int32) * (fX3_imm a2)))) (ty := .int) (C := RX3) (T := TX3) (N := 9) hx hb hts (by decide +kernel) tyX3 tyX3_ok nmX3 hown hK hP hD hS 0 rfl rfl 4 (by decide) (hts (.fieldLink RX3 54 "TrapMachine" "place" "I") (by decide +kernel)) (fun _ h9 => h9) rfl (by decide +kernel) rfl rfl (Nat.le_of_ble_eq_true rfl) dX3_branch_36 (fun H locs hP hD hS => ?_)
    have hP : va_P D vwCl (wT k q (ts4 o1 ((fX3_valueB u a2) + ((4 : Int32) * (fX3_imm a2))))) H := hP
    have hD : va_D (in_W (wT k q u)) (wT k q (ts4 o1 ((fX3_valueB u a2) + ((4 : Int32) * (fX3_imm a2))))) := hD
    refine lv_goto (tgt := 70) hx hb dX3_branch_39 (by decide) ?_
    exact W.vret hx hb hr (wr_end rfl (congrArg (wT k q) ((show fX3_branch u a1 a2 = (ts4 o1 ((fX3_valueB u a2) + ((4 : Int32) * (fX3_imm a2)))) from (by subst h_o1; exact (if_pos c_17).trans rfl)).symm.trans ho)) hP hS) hS.2.2 dX3_branch_70
def fX3_raise (u : TM) (a1 : Int32) : TM :=
  if a1 = (63 : Int32) then
    (ts8 (ts4 (ts2 (ts2 u (fX2_enter u.2.2.1 a1 u.2.2.2.2.1)) (fX2_setDirect (fX2_enter u.2.2.1 a1 u.2.2.2.2.1))) (fX2_get (fX2_setDirect (fX2_enter u.2.2.1 a1 u.2.2.2.2.1)) (16 : Int32))) (1 : Int32))
  else
    (ts8 (ts4 (ts2 u (fX2_enter u.2.2.1 a1 u.2.2.2.2.1)) (fX2_get (fX2_enter u.2.2.1 a1 u.2.2.2.2.1) (6 : Int32))) (1 : Int32))
set_option maxHeartbeats 4000000 in
set_option maxRecDepth 100000 in
theorem kX3_raise (l : Launch) (D : va_G) (k : Nat → ClassId) (q : Nat → Nat) (u : TM) (a1 : Int32)  (o : TM) (ho : fX3_raise u a1 = o) : Met l yX3_raise wsX3_raise { frames := 1, cells := 0, slots := 0, locals := 22 } (wr_P D vwCl (tyL k) (wT k q u) NL [.ref (q 0), .int a1]) (wr_Q D vwCl none (wT k q u) (wT k q o)) 0 0 (in_W (wT k q u)) := by
  refine Met.ofW (cc := cX3_raise) (maxL := 2) (ret := none) (by decide) rfl ?_
  intro p e s m args below meth c s₁ B hml hv0
  obtain ⟨rfl, hP, hK, hX, hD0⟩ := hv0
  have hx := B.exec
  have hb := B.bytes
  have hr := B.returns
  have hts := atoms_spec (ws := wsX3_raise) B.pre
  have hown : s.vm.findClass RX3 = some m.cls := findClass_of_methodNamed B.named
  have hlocks := B.notSynchronized
  have hD : va_D (in_W (wT k q u)) (wT k q u) := wD_self hD0
  have hS : va_S (in_W (wT k q u)) s.heap s.heap [] := va_S.rf
  have hl := lv_entry ([.ref (q 0), .int a1]) (n := 2) (Nat.le_of_ble_eq_true rfl)
  rw [lg_entry_eq]
  generalize (lg_sl ([.ref (q 0), .int a1]) ++ List.replicate (2 - (lg_sl ([.ref (q 0), .int a1])).length) Slot.unset).toArray = ls at hl ⊢
  have hl : lv_has ls 2 [(0, .ref (q 0)), (1, .int a1)] := hl
  refine lv_aload_n hx hb dX3_raise_0 rfl (lv_at hl 0 rfl) ?_
  refine va_get (D := D) (ci := 2) (v := .ref (q 3)) (C := RX3) (T := TX3) (N := 9) hx hb hts (by decide +kernel) hown hK hP 0 rfl rfl 2 (by decide) (hts (.fieldLink RX3 19 "TrapMachine" "controls" "LTrapMachine$Controls;") (by decide +kernel)) (fun _ h9 => h9) rfl dX3_raise_1 ?_
  refine lv_iload_n hx hb dX3_raise_4 rfl (lv_at hl 1 rfl) ?_
  refine lv_aload_n hx hb dX3_raise_5 rfl (lv_at hl 0 rfl) ?_
  refine va_get (D := D) (ci := 2) (v := .int u.2.2.2.2.1) (C := RX3) (T := TX3) (N := 9) hx hb hts (by decide +kernel) hown hK hP 0 rfl rfl 4 (by decide) (hts (.fieldLink RX3 54 "TrapMachine" "place" "I") (by decide +kernel)) (fun _ h9 => h9) rfl dX3_raise_6 ?_
  obtain ⟨o1, h_o1⟩ : ∃ o9, (fX2_enter u.2.2.1 a1 u.2.2.2.2.1) = o9 := ⟨_, rfl⟩
  refine wr_call (r := none) (ws' := wT k q (ts2 u o1)) (va_runVN (C := RX2) (b := (q 3)) (As := [.int a1, .int u.2.2.2.2.1]) (rest := []) ⟨hx, hb, hml, hown, hts⟩ (kX2_enter l D k (q 3) (q 4) u.2.2.1 a1 u.2.2.2.2.1 o1 h_o1) ⟨va_cnB 2 hts gX3_raise_X2_enter_n222 rfl rfl rfl (hX.at 21 (q := (222, yX2_enter)) rfl) (hts (.initialized RX2) (by decide +kernel)) (by decide +kernel) ⟨Nat.le_of_ble_eq_true rfl, Nat.le_of_ble_eq_true rfl⟩, (hts (.instanceMethod yX2_enter) (by decide +kernel)), (hts (.selects RX2 yX2_enter yX2_enter) (by decide +kernel))⟩ (wr_preV bl_T pr_T hK (show va_P D vwCl (wC k (q 3) (q 4) u.2.2.1) _ from hP.sub [3, 4] fmTC) (show va_D (in_W (wT k q u)) (wC k (q 3) (q 4) u.2.2.1) from hD.sub [3, 4] (by decide) subTC) (va_recv hK (show va_P D vwCl (wC k (q 3) (q 4) u.2.2.1) _ from hP.sub [3, 4] fmTC) (ci := 1) (q0 := 0) rfl rfl)) rfl rfl hl.1 rfl (lv_room (Nat.le_of_ble_eq_true rfl)) dX3_raise_9 ⟨Nat.zero_le _, Nat.zero_le _⟩).run hP hD hS [3, 4] [0, 1, 2, 5, 6, 7, 8, 9, 10] [0, 1, 2, 9, 10, 3, 4, 5, 6, 7, 8] subTC (by decide) putTC adrT (fun H locs hP hD hS => ?_)
  refine lv_iload_n hx hb dX3_raise_12 rfl (lv_at hl 1 rfl) ?_
  refine lv_bipush (v := (63 : Int32)) hx hb dX3_raise_13 (by decide) ?_
  refine lv_icmp_ne (tgt := 41) hx hb dX3_raise_15 (by decide) (fun c_15 => ?_) (fun c_15 => ?_)
  · refine lv_aload_n hx hb dX3_raise_41 rfl (lv_at hl 0 rfl) ?_
    refine lv_aload_n hx hb dX3_raise_42 rfl (lv_at hl 0 rfl) ?_
    refine va_get (D := D) (ci := 2) (v := .ref (q 3)) (C := RX3) (T := TX3) (N := 9) hx hb hts (by decide +kernel) hown hK hP 0 rfl rfl 2 (by decide) (hts (.fieldLink RX3 19 "TrapMachine" "controls" "LTrapMachine$Controls;") (by decide +kernel)) (fun _ h9 => h9) rfl dX3_raise_43 ?_
    refine lv_bipush (v := (6 : Int32)) hx hb dX3_raise_46 (by decide) ?_
    refine rd_call (r := (fX2_get o1 (6 : Int32))) (va_runVN (C := RX2) (b := (q 3)) (As := [.int (6 : Int32)]) (rest := [.ref (q 0)]) ⟨hx, hb, hml, hown, hts⟩ (kX2_get l D k (q 3) (q 4) o1 (6 : Int32) (vi_k (by decide))) ⟨va_cnB 1 hts gX3_raise_X2_get_n77 rfl rfl rfl (hX.at 3 (q := (77, yX2_get)) rfl) (hts (.initialized RX2) (by decide +kernel)) (by decide +kernel) ⟨Nat.le_of_ble_eq_true rfl, Nat.le_of_ble_eq_true rfl⟩, (hts (.instanceMethod yX2_get) (by decide +kernel)), (hts (.selects RX2 yX2_get yX2_get) (by decide +kernel))⟩ (rd_preV bl_T pr_T hK (show va_P D vwCl (wC k (q 3) (q 4) o1) _ from hP.sub [3, 4] fmTC) (va_recv hK (show va_P D vwCl (wC k (q 3) (q 4) o1) _ from hP.sub [3, 4] fmTC) (ci := 1) (q0 := 0) rfl rfl)) rfl rfl hl.1 rfl (lv_room (Nat.le_of_ble_eq_true rfl)) dX3_raise_48 ⟨Nat.zero_le _, Nat.zero_le _⟩).run ?_
    refine va_put (D := D) (ci := 2) (v := .int (fX2_get o1 (6 : Int32))) (ty := .int) (C := RX3) (T := TX3) (N := 9) hx hb hts (by decide +kernel) tyX3 tyX3_ok nmX3 hown hK hP hD hS 0 rfl rfl 4 (by decide) (hts (.fieldLink RX3 54 "TrapMachine" "place" "I") (by decide +kernel)) (fun _ h9 => h9) rfl (by decide +kernel) rfl rfl (Nat.le_of_ble_eq_true rfl) dX3_raise_51 (fun H locs hP hD hS => ?_)
    have hP : va_P D vwCl (wT k q (ts4 (ts2 u o1) (fX2_get o1 (6 : Int32)))) H := hP
    have hD : va_D (in_W (wT k q u)) (wT k q (ts4 (ts2 u o1) (fX2_get o1 (6 : Int32)))) := hD
    refine lv_aload_n hx hb dX3_raise_54 rfl (lv_at hl 0 rfl) ?_
    refine lv_iconst (v := (1 : Int32)) hx hb dX3_raise_55 (by decide) ?_
    refine va_put (D := D) (ci := 2) (v := .int (1 : Int32)) (ty := .boolean) (C := RX3) (T := TX3) (N := 9) hx hb hts (by decide +kernel) tyX3 tyX3_ok nmX3 hown hK hP hD hS 0 rfl rfl 8 (by decide) (hts (.fieldLink RX3 63 "TrapMachine" "trapped" "Z") (by decide +kernel)) (fun _ h9 => h9) rfl (by decide +kernel) rfl rfl (Nat.le_of_ble_eq_true rfl) dX3_raise_56 (fun H locs hP hD hS => ?_)
    have hP : va_P D vwCl (wT k q (ts8 (ts4 (ts2 u o1) (fX2_get o1 (6 : Int32))) (1 : Int32))) H := hP
    have hD : va_D (in_W (wT k q u)) (wT k q (ts8 (ts4 (ts2 u o1) (fX2_get o1 (6 : Int32))) (1 : Int32))) := hD
    exact W.vret hx hb hr (wr_end rfl (congrArg (wT k q) ((show fX3_raise u a1 = (ts8 (ts4 (ts2 u o1) (fX2_get o1 (6 : Int32))) (1 : Int32)) from (by subst h_o1; exact (if_neg c_15).trans rfl)).symm.trans ho)) hP hS) hS.2.2 dX3_raise_59
  · refine lv_aload_n hx hb dX3_raise_18 rfl (lv_at hl 0 rfl) ?_
    refine va_get (D := D) (ci := 2) (v := .ref (q 3)) (C := RX3) (T := TX3) (N := 9) hx hb hts (by decide +kernel) hown hK hP 0 rfl rfl 2 (by decide) (hts (.fieldLink RX3 19 "TrapMachine" "controls" "LTrapMachine$Controls;") (by decide +kernel)) (fun _ h9 => h9) rfl dX3_raise_19 ?_
    obtain ⟨o2, h_o2⟩ : ∃ o9, (fX2_setDirect o1) = o9 := ⟨_, rfl⟩
    refine wr_call (r := none) (ws' := wT k q (ts2 (ts2 u o1) o2)) (va_runVN (C := RX2) (b := (q 3)) (As := []) (rest := []) ⟨hx, hb, hml, hown, hts⟩ (kX2_setDirect l D k (q 3) (q 4) o1 o2 h_o2) ⟨va_cnB 0 hts gX3_raise_X2_setDirect_n225 rfl rfl rfl (hX.at 22 (q := (225, yX2_setDirect)) rfl) (hts (.initialized RX2) (by decide +kernel)) (by decide +kernel) ⟨Nat.le_of_ble_eq_true rfl, Nat.le_of_ble_eq_true rfl⟩, (hts (.instanceMethod yX2_setDirect) (by decide +kernel)), (hts (.selects RX2 yX2_setDirect yX2_setDirect) (by decide +kernel))⟩ (wr_preV bl_T pr_T hK (show va_P D vwCl (wC k (q 3) (q 4) o1) _ from hP.sub [3, 4] fmTC) (show va_D (in_W (wT k q u)) (wC k (q 3) (q 4) o1) from hD.sub [3, 4] (by decide) subTC) (va_recv hK (show va_P D vwCl (wC k (q 3) (q 4) o1) _ from hP.sub [3, 4] fmTC) (ci := 1) (q0 := 0) rfl rfl)) rfl rfl hl.1 rfl (lv_room (Nat.le_of_ble_eq_true rfl)) dX3_raise_22 ⟨Nat.zero_le _, Nat.zero_le _⟩).run hP hD hS [3, 4] [0, 1, 2, 5, 6, 7, 8, 9, 10] [0, 1, 2, 9, 10, 3, 4, 5, 6, 7, 8] subTC (by decide) putTC adrT (fun H locs hP hD hS => ?_)
    refine lv_aload_n hx hb dX3_raise_25 rfl (lv_at hl 0 rfl) ?_
    refine lv_aload_n hx hb dX3_raise_26 rfl (lv_at hl 0 rfl) ?_
    refine va_get (D := D) (ci := 2) (v := .ref (q 3)) (C := RX3) (T := TX3) (N := 9) hx hb hts (by decide +kernel) hown hK hP 0 rfl rfl 2 (by decide) (hts (.fieldLink RX3 19 "TrapMachine" "controls" "LTrapMachine$Controls;") (by decide +kernel)) (fun _ h9 => h9) rfl dX3_raise_27 ?_
    refine lv_bipush (v := (16 : Int32)) hx hb dX3_raise_30 (by decide) ?_
    refine rd_call (r := (fX2_get o2 (16 : Int32))) (va_runVN (C := RX2) (b := (q 3)) (As := [.int (16 : Int32)]) (rest := [.ref (q 0)]) ⟨hx, hb, hml, hown, hts⟩ (kX2_get l D k (q 3) (q 4) o2 (16 : Int32) (vi_k (by decide))) ⟨va_cnB 1 hts gX3_raise_X2_get_n77 rfl rfl rfl (hX.at 3 (q := (77, yX2_get)) rfl) (hts (.initialized RX2) (by decide +kernel)) (by decide +kernel) ⟨Nat.le_of_ble_eq_true rfl, Nat.le_of_ble_eq_true rfl⟩, (hts (.instanceMethod yX2_get) (by decide +kernel)), (hts (.selects RX2 yX2_get yX2_get) (by decide +kernel))⟩ (rd_preV bl_T pr_T hK (show va_P D vwCl (wC k (q 3) (q 4) o2) _ from hP.sub [3, 4] fmTC) (va_recv hK (show va_P D vwCl (wC k (q 3) (q 4) o2) _ from hP.sub [3, 4] fmTC) (ci := 1) (q0 := 0) rfl rfl)) rfl rfl hl.1 rfl (lv_room (Nat.le_of_ble_eq_true rfl)) dX3_raise_32 ⟨Nat.zero_le _, Nat.zero_le _⟩).run ?_
    refine va_put (D := D) (ci := 2) (v := .int (fX2_get o2 (16 : Int32))) (ty := .int) (C := RX3) (T := TX3) (N := 9) hx hb hts (by decide +kernel) tyX3 tyX3_ok nmX3 hown hK hP hD hS 0 rfl rfl 4 (by decide) (hts (.fieldLink RX3 54 "TrapMachine" "place" "I") (by decide +kernel)) (fun _ h9 => h9) rfl (by decide +kernel) rfl rfl (Nat.le_of_ble_eq_true rfl) dX3_raise_35 (fun H locs hP hD hS => ?_)
    have hP : va_P D vwCl (wT k q (ts4 (ts2 (ts2 u o1) o2) (fX2_get o2 (16 : Int32)))) H := hP
    have hD : va_D (in_W (wT k q u)) (wT k q (ts4 (ts2 (ts2 u o1) o2) (fX2_get o2 (16 : Int32)))) := hD
    refine lv_goto (tgt := 54) hx hb dX3_raise_38 (by decide) ?_
    refine lv_aload_n hx hb dX3_raise_54 rfl (lv_at hl 0 rfl) ?_
    refine lv_iconst (v := (1 : Int32)) hx hb dX3_raise_55 (by decide) ?_
    refine va_put (D := D) (ci := 2) (v := .int (1 : Int32)) (ty := .boolean) (C := RX3) (T := TX3) (N := 9) hx hb hts (by decide +kernel) tyX3 tyX3_ok nmX3 hown hK hP hD hS 0 rfl rfl 8 (by decide) (hts (.fieldLink RX3 63 "TrapMachine" "trapped" "Z") (by decide +kernel)) (fun _ h9 => h9) rfl (by decide +kernel) rfl rfl (Nat.le_of_ble_eq_true rfl) dX3_raise_56 (fun H locs hP hD hS => ?_)
    have hP : va_P D vwCl (wT k q (ts8 (ts4 (ts2 (ts2 u o1) o2) (fX2_get o2 (16 : Int32))) (1 : Int32))) H := hP
    have hD : va_D (in_W (wT k q u)) (wT k q (ts8 (ts4 (ts2 (ts2 u o1) o2) (fX2_get o2 (16 : Int32))) (1 : Int32))) := hD
    exact W.vret hx hb hr (wr_end rfl (congrArg (wT k q) ((show fX3_raise u a1 = (ts8 (ts4 (ts2 (ts2 u o1) o2) (fX2_get o2 (16 : Int32))) (1 : Int32)) from (by subst h_o1; subst h_o2; exact (if_pos c_15).trans rfl)).symm.trans ho)) hP hS) hS.2.2 dX3_raise_59
def fX3_fail (u : TM) (a1 : Int32) (a2 : Int32) : TM :=
  if a1 = (-64 : Int32) then
    (ts7 u (2 : Int32))
  else
    if (-a1) = (8 : Int32) then
      (fX3_raise (ts2 u (fX2_set u.2.2.1 (5 : Int32) a2)) (-a1))
    else
      if (-a1) = (9 : Int32) then
        (fX3_raise (ts2 u (fX2_set u.2.2.1 (5 : Int32) a2)) (-a1))
      else
        (fX3_raise (ts2 (ts2 u (fX2_set u.2.2.1 (5 : Int32) a2)) (fX2_set (fX2_set u.2.2.1 (5 : Int32) a2) (8 : Int32) (a2 &&& (-128 : Int32)))) (-a1))
set_option maxHeartbeats 4000000 in
set_option maxRecDepth 100000 in
theorem kX3_fail (l : Launch) (D : va_G) (k : Nat → ClassId) (q : Nat → Nat) (u : TM) (a1 : Int32) (a2 : Int32)  (o : TM) (ho : fX3_fail u a1 a2 = o) : Met l yX3_fail wsX3_fail { frames := 2, cells := 0, slots := 0, locals := 43 } (wr_P D vwCl (tyL k) (wT k q u) NL [.ref (q 0), .int a1, .int a2]) (wr_Q D vwCl none (wT k q u) (wT k q o)) 0 0 (in_W (wT k q u)) := by
  refine Met.ofW (cc := cX3_fail) (maxL := 4) (ret := none) (by decide) rfl ?_
  intro p e s m args below meth c s₁ B hml hv0
  obtain ⟨rfl, hP, hK, hX, hD0⟩ := hv0
  have hx := B.exec
  have hb := B.bytes
  have hr := B.returns
  have hts := atoms_spec (ws := wsX3_fail) B.pre
  have hown : s.vm.findClass RX3 = some m.cls := findClass_of_methodNamed B.named
  have hlocks := B.notSynchronized
  have hD : va_D (in_W (wT k q u)) (wT k q u) := wD_self hD0
  have hS : va_S (in_W (wT k q u)) s.heap s.heap [] := va_S.rf
  have hl := lv_entry ([.ref (q 0), .int a1, .int a2]) (n := 4) (Nat.le_of_ble_eq_true rfl)
  rw [lg_entry_eq]
  generalize (lg_sl ([.ref (q 0), .int a1, .int a2]) ++ List.replicate (4 - (lg_sl ([.ref (q 0), .int a1, .int a2])).length) Slot.unset).toArray = ls at hl ⊢
  have hl : lv_has ls 4 [(0, .ref (q 0)), (1, .int a1), (2, .int a2)] := hl
  refine lv_iload_n hx hb dX3_fail_0 rfl (lv_at hl 1 rfl) ?_
  refine lv_bipush (v := (-64 : Int32)) hx hb dX3_fail_1 (by decide) ?_
  refine lv_icmp_ne (tgt := 12) hx hb dX3_fail_3 (by decide) (fun c_3 => ?_) (fun c_3 => ?_)
  · refine lv_iload_n hx hb dX3_fail_12 rfl (lv_at hl 1 rfl) ?_
    refine lv_ineg hx hb dX3_fail_13 ?_
    refine lv_istore_n (lv' := [(3, .int (-a1)), (0, .ref (q 0)), (1, .int a1), (2, .int a2)]) hx hb dX3_fail_14 rfl hl (by decide) rfl (fun ls hl => ?_)
    refine lv_aload_n hx hb dX3_fail_15 rfl (lv_at hl 1 rfl) ?_
    refine va_get (D := D) (ci := 2) (v := .ref (q 3)) (C := RX3) (T := TX3) (N := 9) hx hb hts (by decide +kernel) hown hK hP 0 rfl rfl 2 (by decide) (hts (.fieldLink RX3 19 "TrapMachine" "controls" "LTrapMachine$Controls;") (by decide +kernel)) (fun _ h9 => h9) rfl dX3_fail_16 ?_
    refine lv_iconst (v := (5 : Int32)) hx hb dX3_fail_19 (by decide) ?_
    refine lv_iload_n hx hb dX3_fail_20 rfl (lv_at hl 3 rfl) ?_
    obtain ⟨o1, h_o1⟩ : ∃ o9, (fX2_set u.2.2.1 (5 : Int32) a2) = o9 := ⟨_, rfl⟩
    refine wr_call (r := none) (ws' := wT k q (ts2 u o1)) (va_runVN (C := RX2) (b := (q 3)) (As := [.int (5 : Int32), .int a2]) (rest := []) ⟨hx, hb, hml, hown, hts⟩ (kX2_set l D k (q 3) (q 4) u.2.2.1 (5 : Int32) a2 (vi_k (by decide)) o1 h_o1) ⟨va_cnB 2 hts gX3_fail_X2_set_n194 rfl rfl rfl (hX.at 13 (q := (194, yX2_set)) rfl) (hts (.initialized RX2) (by decide +kernel)) (by decide +kernel) ⟨Nat.le_of_ble_eq_true rfl, Nat.le_of_ble_eq_true rfl⟩, (hts (.instanceMethod yX2_set) (by decide +kernel)), (hts (.selects RX2 yX2_set yX2_set) (by decide +kernel))⟩ (wr_preV bl_T pr_T hK (show va_P D vwCl (wC k (q 3) (q 4) u.2.2.1) _ from hP.sub [3, 4] fmTC) (show va_D (in_W (wT k q u)) (wC k (q 3) (q 4) u.2.2.1) from hD.sub [3, 4] (by decide) subTC) (va_recv hK (show va_P D vwCl (wC k (q 3) (q 4) u.2.2.1) _ from hP.sub [3, 4] fmTC) (ci := 1) (q0 := 0) rfl rfl)) rfl rfl hl.1 rfl (lv_room (Nat.le_of_ble_eq_true rfl)) dX3_fail_21 ⟨Nat.zero_le _, Nat.zero_le _⟩).run hP hD hS [3, 4] [0, 1, 2, 5, 6, 7, 8, 9, 10] [0, 1, 2, 9, 10, 3, 4, 5, 6, 7, 8] subTC (by decide) putTC adrT (fun H locs hP hD hS => ?_)
    refine lv_iload_n hx hb dX3_fail_24 rfl (lv_at hl 0 rfl) ?_
    refine lv_bipush (v := (8 : Int32)) hx hb dX3_fail_25 (by decide) ?_
    refine lv_icmp_eq (tgt := 49) hx hb dX3_fail_27 (by decide) (fun c_27 => ?_) (fun c_27 => ?_)
    · refine lv_aload_n hx hb dX3_fail_49 rfl (lv_at hl 1 rfl) ?_
      refine lv_iload_n hx hb dX3_fail_50 rfl (lv_at hl 0 rfl) ?_
      obtain ⟨o2, h_o2⟩ : ∃ o9, (fX3_raise (ts2 u o1) (-a1)) = o9 := ⟨_, rfl⟩
      refine wr_call (r := none) (ws' := wT k q o2) (W.runV (C := RX3) (b := (q 0)) (As := [.int (-a1)]) (rest := []) ⟨hx, hb, hml, hown, hts⟩ (kX3_raise l D k q (ts2 u o1) (-a1) o2 h_o2) (cwV 1 hts gX3_fail_X3_raise rfl rfl rfl (by decide +kernel) ⟨Nat.le_of_ble_eq_true rfl, Nat.le_of_ble_eq_true rfl⟩) (wr_preV bl_N (pr_N hX) hK hP hD (va_recv hK hP (ci := 2) (q0 := 0) rfl rfl)) rfl rfl hl.1 rfl (lv_room (Nat.le_of_ble_eq_true rfl)) dX3_fail_51 ⟨Nat.zero_le _, Nat.zero_le _⟩) hP hD hS [0, 1, 2, 3, 4, 5, 6, 7, 8, 9, 10] [] [0, 1, 2, 3, 4, 5, 6, 7, 8, 9, 10] allT (by decide) prmT adrT (fun H locs hP hD hS => ?_)
      exact W.vret hx hb hr (wr_end rfl (congrArg (wT k q) ((show fX3_fail u a1 a2 = o2 from (by subst h_o1; subst h_o2; exact (if_neg c_3).trans ((if_pos c_27).trans rfl))).symm.trans ho)) hP hS) hS.2.2 dX3_fail_54
    · refine lv_iload_n hx hb dX3_fail_30 rfl (lv_at hl 0 rfl) ?_
      refine lv_bipush (v := (9 : Int32)) hx hb dX3_fail_31 (by decide) ?_
      refine lv_icmp_eq (tgt := 49) hx hb dX3_fail_33 (by decide) (fun c_33 => ?_) (fun c_33 => ?_)
      · refine lv_aload_n hx hb dX3_fail_49 rfl (lv_at hl 1 rfl) ?_
        refine lv_iload_n hx hb dX3_fail_50 rfl (lv_at hl 0 rfl) ?_
        obtain ⟨o3, h_o3⟩ : ∃ o9, (fX3_raise (ts2 u o1) (-a1)) = o9 := ⟨_, rfl⟩
        refine wr_call (r := none) (ws' := wT k q o3) (W.runV (C := RX3) (b := (q 0)) (As := [.int (-a1)]) (rest := []) ⟨hx, hb, hml, hown, hts⟩ (kX3_raise l D k q (ts2 u o1) (-a1) o3 h_o3) (cwV 1 hts gX3_fail_X3_raise rfl rfl rfl (by decide +kernel) ⟨Nat.le_of_ble_eq_true rfl, Nat.le_of_ble_eq_true rfl⟩) (wr_preV bl_N (pr_N hX) hK hP hD (va_recv hK hP (ci := 2) (q0 := 0) rfl rfl)) rfl rfl hl.1 rfl (lv_room (Nat.le_of_ble_eq_true rfl)) dX3_fail_51 ⟨Nat.zero_le _, Nat.zero_le _⟩) hP hD hS [0, 1, 2, 3, 4, 5, 6, 7, 8, 9, 10] [] [0, 1, 2, 3, 4, 5, 6, 7, 8, 9, 10] allT (by decide) prmT adrT (fun H locs hP hD hS => ?_)
        exact W.vret hx hb hr (wr_end rfl (congrArg (wT k q) ((show fX3_fail u a1 a2 = o3 from (by subst h_o1; subst h_o3; exact (if_neg c_3).trans ((if_neg c_27).trans ((if_pos c_33).trans rfl)))).symm.trans ho)) hP hS) hS.2.2 dX3_fail_54
      · refine lv_aload_n hx hb dX3_fail_36 rfl (lv_at hl 1 rfl) ?_
        refine va_get (D := D) (ci := 2) (v := .ref (q 3)) (C := RX3) (T := TX3) (N := 9) hx hb hts (by decide +kernel) hown hK hP 0 rfl rfl 2 (by decide) (hts (.fieldLink RX3 19 "TrapMachine" "controls" "LTrapMachine$Controls;") (by decide +kernel)) (fun _ h9 => h9) rfl dX3_fail_37 ?_
        refine lv_bipush (v := (8 : Int32)) hx hb dX3_fail_40 (by decide) ?_
        refine lv_iload_n hx hb dX3_fail_42 rfl (lv_at hl 3 rfl) ?_
        refine lv_bipush (v := (-128 : Int32)) hx hb dX3_fail_43 (by decide) ?_
        refine lv_iand hx hb dX3_fail_45 ?_
        obtain ⟨o4, h_o4⟩ : ∃ o9, (fX2_set o1 (8 : Int32) (a2 &&& (-128 : Int32))) = o9 := ⟨_, rfl⟩
        refine wr_call (r := none) (ws' := wT k q (ts2 (ts2 u o1) o4)) (va_runVN (C := RX2) (b := (q 3)) (As := [.int (8 : Int32), .int (a2 &&& (-128 : Int32))]) (rest := []) ⟨hx, hb, hml, hown, hts⟩ (kX2_set l D k (q 3) (q 4) o1 (8 : Int32) (a2 &&& (-128 : Int32)) (vi_k (by decide)) o4 h_o4) ⟨va_cnB 2 hts gX3_fail_X2_set_n194 rfl rfl rfl (hX.at 13 (q := (194, yX2_set)) rfl) (hts (.initialized RX2) (by decide +kernel)) (by decide +kernel) ⟨Nat.le_of_ble_eq_true rfl, Nat.le_of_ble_eq_true rfl⟩, (hts (.instanceMethod yX2_set) (by decide +kernel)), (hts (.selects RX2 yX2_set yX2_set) (by decide +kernel))⟩ (wr_preV bl_T pr_T hK (show va_P D vwCl (wC k (q 3) (q 4) o1) _ from hP.sub [3, 4] fmTC) (show va_D (in_W (wT k q u)) (wC k (q 3) (q 4) o1) from hD.sub [3, 4] (by decide) subTC) (va_recv hK (show va_P D vwCl (wC k (q 3) (q 4) o1) _ from hP.sub [3, 4] fmTC) (ci := 1) (q0 := 0) rfl rfl)) rfl rfl hl.1 rfl (lv_room (Nat.le_of_ble_eq_true rfl)) dX3_fail_46 ⟨Nat.zero_le _, Nat.zero_le _⟩).run hP hD hS [3, 4] [0, 1, 2, 5, 6, 7, 8, 9, 10] [0, 1, 2, 9, 10, 3, 4, 5, 6, 7, 8] subTC (by decide) putTC adrT (fun H locs hP hD hS => ?_)
        refine lv_aload_n hx hb dX3_fail_49 rfl (lv_at hl 1 rfl) ?_
        refine lv_iload_n hx hb dX3_fail_50 rfl (lv_at hl 0 rfl) ?_
        obtain ⟨o5, h_o5⟩ : ∃ o9, (fX3_raise (ts2 (ts2 u o1) o4) (-a1)) = o9 := ⟨_, rfl⟩
        refine wr_call (r := none) (ws' := wT k q o5) (W.runV (C := RX3) (b := (q 0)) (As := [.int (-a1)]) (rest := []) ⟨hx, hb, hml, hown, hts⟩ (kX3_raise l D k q (ts2 (ts2 u o1) o4) (-a1) o5 h_o5) (cwV 1 hts gX3_fail_X3_raise rfl rfl rfl (by decide +kernel) ⟨Nat.le_of_ble_eq_true rfl, Nat.le_of_ble_eq_true rfl⟩) (wr_preV bl_N (pr_N hX) hK hP hD (va_recv hK hP (ci := 2) (q0 := 0) rfl rfl)) rfl rfl hl.1 rfl (lv_room (Nat.le_of_ble_eq_true rfl)) dX3_fail_51 ⟨Nat.zero_le _, Nat.zero_le _⟩) hP hD hS [0, 1, 2, 3, 4, 5, 6, 7, 8, 9, 10] [] [0, 1, 2, 3, 4, 5, 6, 7, 8, 9, 10] allT (by decide) prmT adrT (fun H locs hP hD hS => ?_)
        exact W.vret hx hb hr (wr_end rfl (congrArg (wT k q) ((show fX3_fail u a1 a2 = o5 from (by subst h_o1; subst h_o4; subst h_o5; exact (if_neg c_3).trans ((if_neg c_27).trans ((if_neg c_33).trans rfl)))).symm.trans ho)) hP hS) hS.2.2 dX3_fail_54
  · refine lv_aload_n hx hb dX3_fail_6 rfl (lv_at hl 0 rfl) ?_
    refine lv_iconst (v := (2 : Int32)) hx hb dX3_fail_7 (by decide) ?_
    refine va_put (D := D) (ci := 2) (v := .int (2 : Int32)) (ty := .int) (C := RX3) (T := TX3) (N := 9) hx hb hts (by decide +kernel) tyX3 tyX3_ok nmX3 hown hK hP hD hS 0 rfl rfl 7 (by decide) (hts (.fieldLink RX3 30 "TrapMachine" "condition" "I") (by decide +kernel)) (fun _ h9 => h9) rfl (by decide +kernel) rfl rfl (Nat.le_of_ble_eq_true rfl) dX3_fail_8 (fun H locs hP hD hS => ?_)
    have hP : va_P D vwCl (wT k q (ts7 u (2 : Int32))) H := hP
    have hD : va_D (in_W (wT k q u)) (wT k q (ts7 u (2 : Int32))) := hD
    exact W.vret hx hb hr (wr_end rfl (congrArg (wT k q) ((show fX3_fail u a1 a2 = (ts7 u (2 : Int32)) from (if_pos c_3).trans rfl).symm.trans ho)) hP hS) hS.2.2 dX3_fail_11
