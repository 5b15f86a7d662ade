def fX3_performPrivileged (u : TM) (a1 : Int32) (a2 : Int32) : TM :=
  if (fX2_level u.2.2.1) = (0 : Int32) then
    if (20 : Int32) < a1 then
      if (24 : Int32) < a1 then
        if a1 = (25 : Int32) then
          (fX3_emptyEntries u a2)
        else
          if a1 = (26 : Int32) then
            (fX3_goBack u)
          else
            (ts4 (ts7 u (1 : Int32)) (u.2.2.2.2.1 + (4 : Int32)))
      else
        (fX3_useBuffer u a1)
    else
      (fX3_useControl u a1 a2)
  else
    (fX3_raise u (14 : Int32))
set_option maxHeartbeats 4000000 in
set_option maxRecDepth 100000 in
theorem kX3_performPrivileged (l : Launch) (D : va_G) (k : Nat → ClassId) (q : Nat → Nat) (u : TM) (tC tL : Nat) (a1 : Int32) (a2 : Int32) (hn : vp_in u.2.2.2.2.2.2.1 4) (o : TM) (ho : fX3_performPrivileged u a1 a2 = o) : Met l yX3_performPrivileged wsX3_performPrivileged { frames := 3, cells := 0, slots := 0, locals := 72 } (wr_P D vwCl (tyL k) (wT k q u) (fun U => NL U ∧ ST tC tL (in_W (wT k q u)) U U.heap) [.ref (q 0), .int a1, .int a2]) (wr_Q D vwCl none (wT k q u) (wT k q o)) 0 0 (in_W (wT k q u)) := by
  refine Met.ofW (cc := cX3_performPrivileged) (maxL := 3) (ret := none) (by decide) rfl ?_
  intro p e s m args below meth c s₁ B hml hv0
  obtain ⟨rfl, hP, hK, hX, hD0⟩ := hv0
  have hx := B.exec
  have hb := B.bytes
  have hr := B.returns
  have hts := atoms_spec (ws := wsX3_performPrivileged) B.pre
  have hown : s.vm.findClass RX3 = some m.cls := findClass_of_methodNamed B.named
  have hlocks := B.notSynchronized
  have hD : va_D (in_W (wT k q u)) (wT k q u) := wD_self hD0
  have hS : va_S (in_W (wT k q u)) s.heap s.heap [] := va_S.rf
  have hT := hX.2
  have hl := lv_entry ([.ref (q 0), .int a1, .int a2]) (n := 3) (Nat.le_of_ble_eq_true rfl)
  rw [lg_entry_eq]
  generalize (lg_sl ([.ref (q 0), .int a1, .int a2]) ++ List.replicate (3 - (lg_sl ([.ref (q 0), .int a1, .int a2])).length) Slot.unset).toArray = ls at hl ⊢
  have hl : lv_has ls 3 [(0, .ref (q 0)), (1, .int a1), (2, .int a2)] := hl
  refine lv_aload_n hx hb dX3_performPrivileged_0 rfl (lv_at hl 0 rfl) ?_
  refine va_get (D := D) (ci := 2) (v := .ref (q 3)) (C := RX3) (T := TX3) (N := 9) hx hb hts (by decide +kernel) hown hK hP 0 rfl rfl 2 (by decide) (hts (.fieldLink RX3 19 "TrapMachine" "controls" "LTrapMachine$Controls;") (by decide +kernel)) (fun _ h9 => h9) rfl dX3_performPrivileged_1 ?_
  refine rd_call (r := (fX2_level u.2.2.1)) (va_runVN (C := RX2) (b := (q 3)) (As := []) (rest := []) ⟨hx, hb, hml, hown, hts⟩ (kX2_level l D k (q 3) (q 4) u.2.2.1) ⟨va_cnB 0 hts gX3_performPrivileged_X2_level_n126 rfl rfl rfl (hX.1.at 8 (q := (126, yX2_level)) rfl) (hts (.initialized RX2) (by decide +kernel)) (by decide +kernel) ⟨Nat.le_of_ble_eq_true rfl, Nat.le_of_ble_eq_true rfl⟩, (hts (.instanceMethod yX2_level) (by decide +kernel)), (hts (.selects RX2 yX2_level yX2_level) (by decide +kernel))⟩ (rd_preV bl_T pr_T hK (show va_P D vwCl (wC k (q 3) (q 4) u.2.2.1) _ from hP.sub [3, 4] fmTC) (va_recv hK (show va_P D vwCl (wC k (q 3) (q 4) u.2.2.1) _ from hP.sub [3, 4] fmTC) (ci := 1) (q0 := 0) rfl rfl)) rfl rfl hl.1 rfl (lv_room (Nat.le_of_ble_eq_true rfl)) dX3_performPrivileged_4 ⟨Nat.zero_le _, Nat.zero_le _⟩).run ?_
  refine lv_if_eq (tgt := 19) hx hb dX3_performPrivileged_7 (by decide) (fun c_7 => ?_) (fun c_7 => ?_)
  · refine lv_iload_n hx hb dX3_performPrivileged_19 rfl (lv_at hl 1 rfl) ?_
    refine lv_bipush (v := (20 : Int32)) hx hb dX3_performPrivileged_20 (by decide) ?_
    refine lv_icmp_gt (tgt := 34) hx hb dX3_performPrivileged_22 (by decide) (fun c_22 => ?_) (fun c_22 => ?_)
    · refine lv_iload_n hx hb dX3_performPrivileged_34 rfl (lv_at hl 1 rfl) ?_
      refine lv_bipush (v := (24 : Int32)) hx hb dX3_performPrivileged_35 (by decide) ?_
      refine lv_icmp_gt (tgt := 48) hx hb dX3_performPrivileged_37 (by decide) (fun c_37 => ?_) (fun c_37 => ?_)
      · refine lv_iload_n hx hb dX3_performPrivileged_48 rfl (lv_at hl 1 rfl) ?_
        refine lv_bipush (v := (25 : Int32)) hx hb dX3_performPrivileged_49 (by decide) ?_
        refine lv_icmp_ne (tgt := 62) hx hb dX3_performPrivileged_51 (by decide) (fun c_51 => ?_) (fun c_51 => ?_)
        · refine lv_iload_n hx hb dX3_performPrivileged_62 rfl (lv_at hl 1 rfl) ?_
          refine lv_bipush (v := (26 : Int32)) hx hb dX3_performPrivileged_63 (by decide) ?_
          refine lv_icmp_ne (tgt := 75) hx hb dX3_performPrivileged_65 (by decide) (fun c_65 => ?_) (fun c_65 => ?_)
          · refine lv_aload_n hx hb dX3_performPrivileged_75 rfl (lv_at hl 0 rfl) ?_
            refine lv_iconst (v := (1 : Int32)) hx hb dX3_performPrivileged_76 (by decide) ?_
            refine va_put (D := D) (ci := 2) (v := .int (1 : Int32)) (ty := .int) (C := RX3) (T := TX3) (N := 9) hx hb hts (by decide +kernel) tyX3 tyX3_ok nmX3 hown hK hP hD hS 0 rfl rfl 7 (by decide) (hts (.fieldLink RX3 30 "TrapMachine" "condition" "I") (by decide +kernel)) (fun _ h9 => h9) rfl (by decide +kernel) rfl rfl (Nat.le_of_ble_eq_true rfl) dX3_performPrivileged_77 (fun H locs hP hD hS => ?_)
            have hP : va_P D vwCl (wT k q (ts7 u (1 : Int32))) H := hP
            have hD : va_D (in_W (wT k q u)) (wT k q (ts7 u (1 : Int32))) := hD
            refine lv_aload_n hx hb dX3_performPrivileged_80 rfl (lv_at hl 0 rfl) ?_
            refine lv_dup hx hb dX3_performPrivileged_81 rfl ?_
            refine va_get (D := D) (ci := 2) (v := .int u.2.2.2.2.1) (C := RX3) (T := TX3) (N := 9) hx hb hts (by decide +kernel) hown hK hP 0 rfl rfl 4 (by decide) (hts (.fieldLink RX3 54 "TrapMachine" "place" "I") (by decide +kernel)) (fun _ h9 => h9) rfl dX3_performPrivileged_82 ?_
            refine lv_iconst (v := (4 : Int32)) hx hb dX3_performPrivileged_85 (by decide) ?_
            refine lv_iadd hx hb dX3_performPrivileged_86 ?_
            refine va_put (D := D) (ci := 2) (v := .int (u.2.2.2.2.1 + (4 : Int32))) (ty := .int) (C := RX3) (T := TX3) (N := 9) hx hb hts (by decide +kernel) tyX3 tyX3_ok nmX3 hown hK hP hD hS 0 rfl rfl 4 (by decide) (hts (.fieldLink RX3 54 "TrapMachine" "place" "I") (by decide +kernel)) (fun _ h9 => h9) rfl (by decide +kernel) rfl rfl (Nat.le_of_ble_eq_true rfl) dX3_performPrivileged_87 (fun H locs hP hD hS => ?_)
            have hP : va_P D vwCl (wT k q (ts4 (ts7 u (1 : Int32)) (u.2.2.2.2.1 + (4 : Int32)))) H := hP
            have hD : va_D (in_W (wT k q u)) (wT k q (ts4 (ts7 u (1 : Int32)) (u.2.2.2.2.1 + (4 : Int32)))) := hD
            exact W.vret hx hb hr (wr_end rfl (congrArg (wT k q) ((show fX3_performPrivileged u a1 a2 = (ts4 (ts7 u (1 : Int32)) (u.2.2.2.2.1 + (4 : Int32))) from (if_pos c_7).trans ((if_pos c_22).trans ((if_pos c_37).trans ((if_neg c_51).trans ((if_neg c_65).trans rfl))))).symm.trans ho)) hP hS) hS.2.2 dX3_performPrivileged_90
          · refine lv_aload_n hx hb dX3_performPrivileged_68 rfl (lv_at hl 0 rfl) ?_
            obtain ⟨o1, h_o1⟩ : ∃ o9, (fX3_goBack u) = o9 := ⟨_, rfl⟩
            refine wr_call (r := none) (ws' := wT k q o1) (W.runV (C := RX3) (b := (q 0)) (As := []) (rest := []) ⟨hx, hb, hml, hown, hts⟩ (kX3_goBack l D k q u o1 h_o1) (cwV 0 hts gX3_performPrivileged_X3_goBack rfl rfl rfl (by decide +kernel) ⟨Nat.le_of_ble_eq_true rfl, Nat.le_of_ble_eq_true rfl⟩) (wr_preV bl_N (pr_N hX.1) hK hP hD (va_recv hK hP (ci := 2) (q0 := 0) rfl rfl)) rfl rfl hl.1 rfl (lv_room (Nat.le_of_ble_eq_true rfl)) dX3_performPrivileged_69 ⟨Nat.zero_le _, Nat.zero_le _⟩) hP hD hS [0, 1, 2, 3, 4, 5, 6, 7, 8, 9, 10] [] [0, 1, 2, 3, 4, 5, 6, 7, 8, 9, 10] allT (by decide) prmT adrT (fun H locs hP hD hS => ?_)
            refine lv_goto (tgt := 90) hx hb dX3_performPrivileged_72 (by decide) ?_
            exact W.vret hx hb hr (wr_end rfl (congrArg (wT k q) ((show fX3_performPrivileged u a1 a2 = o1 from (by subst h_o1; exact (if_pos c_7).trans ((if_pos c_22).trans ((if_pos c_37).trans ((if_neg c_51).trans ((if_pos c_65).trans rfl)))))).symm.trans ho)) hP hS) hS.2.2 dX3_performPrivileged_90
        · refine lv_aload_n hx hb dX3_performPrivileged_54 rfl (lv_at hl 0 rfl) ?_
          refine lv_iload_n hx hb dX3_performPrivileged_55 rfl (lv_at hl 2 rfl) ?_
          obtain ⟨o2, h_o2⟩ : ∃ o9, (fX3_emptyEntries u a2) = o9 := ⟨_, rfl⟩
          refine wr_call (r := none) (ws' := wT k q o2) (W.runV (C := RX3) (b := (q 0)) (As := [.int a2]) (rest := []) ⟨hx, hb, hml, hown, hts⟩ (kX3_emptyEntries l D k q u a2 o2 h_o2) (cwV 1 hts gX3_performPrivileged_X3_emptyEntries rfl rfl rfl (by decide +kernel) ⟨Nat.le_of_ble_eq_true rfl, Nat.le_of_ble_eq_true rfl⟩) (wr_preV bl_N (pr_N hX.1) hK hP hD (va_recv hK hP (ci := 2) (q0 := 0) rfl rfl)) rfl rfl hl.1 rfl (lv_room (Nat.le_of_ble_eq_true rfl)) dX3_performPrivileged_56 ⟨Nat.zero_le _, Nat.zero_le _⟩) hP hD hS [0, 1, 2, 3, 4, 5, 6, 7, 8, 9, 10] [] [0, 1, 2, 3, 4, 5, 6, 7, 8, 9, 10] allT (by decide) prmT adrT (fun H locs hP hD hS => ?_)
          refine lv_goto (tgt := 90) hx hb dX3_performPrivileged_59 (by decide) ?_
          exact W.vret hx hb hr (wr_end rfl (congrArg (wT k q) ((show fX3_performPrivileged u a1 a2 = o2 from (by subst h_o2; exact (if_pos c_7).trans ((if_pos c_22).trans ((if_pos c_37).trans ((if_pos c_51).trans rfl))))).symm.trans ho)) hP hS) hS.2.2 dX3_performPrivileged_90
      · refine lv_aload_n hx hb dX3_performPrivileged_40 rfl (lv_at hl 0 rfl) ?_
        refine lv_iload_n hx hb dX3_performPrivileged_41 rfl (lv_at hl 1 rfl) ?_
        obtain ⟨o3, h_o3⟩ : ∃ o9, (fX3_useBuffer u a1) = o9 := ⟨_, rfl⟩
        refine wr_call (r := none) (ws' := wT k q o3) (W.runV (C := RX3) (b := (q 0)) (As := [.int a1]) (rest := []) ⟨hx, hb, hml, hown, hts⟩ (kX3_useBuffer l D k q u a1 hn o3 h_o3) (cwV 1 hts gX3_performPrivileged_X3_useBuffer rfl rfl rfl (by decide +kernel) ⟨Nat.le_of_ble_eq_true rfl, Nat.le_of_ble_eq_true rfl⟩) (wr_preV bl_N (pr_N hX.1) hK hP hD (va_recv hK hP (ci := 2) (q0 := 0) rfl rfl)) rfl rfl hl.1 rfl (lv_room (Nat.le_of_ble_eq_true rfl)) dX3_performPrivileged_42 ⟨Nat.zero_le _, Nat.zero_le _⟩) hP hD hS [0, 1, 2, 3, 4, 5, 6, 7, 8, 9, 10] [] [0, 1, 2, 3, 4, 5, 6, 7, 8, 9, 10] allT (by decide) prmT adrT (fun H locs hP hD hS => ?_)
        refine lv_goto (tgt := 90) hx hb dX3_performPrivileged_45 (by decide) ?_
        exact W.vret hx hb hr (wr_end rfl (congrArg (wT k q) ((show fX3_performPrivileged u a1 a2 = o3 from (by subst h_o3; exact (if_pos c_7).trans ((if_pos c_22).trans ((if_neg c_37).trans rfl)))).symm.trans ho)) hP hS) hS.2.2 dX3_performPrivileged_90
    · refine lv_aload_n hx hb dX3_performPrivileged_25 rfl (lv_at hl 0 rfl) ?_
      refine lv_iload_n hx hb dX3_performPrivileged_26 rfl (lv_at hl 1 rfl) ?_
      refine lv_iload_n hx hb dX3_performPrivileged_27 rfl (lv_at hl 2 rfl) ?_
      obtain ⟨o4, h_o4⟩ : ∃ o9, (fX3_useControl u a1 a2) = o9 := ⟨_, rfl⟩
      refine wr_call (r := none) (ws' := wT k q o4) (W.runV (C := RX3) (b := (q 0)) (As := [.int a1, .int a2]) (rest := []) ⟨hx, hb, hml, hown, hts⟩ (kX3_useControl l D k q u tC tL a1 a2 o4 h_o4) (cwV 2 hts gX3_performPrivileged_X3_useControl rfl rfl rfl (by decide +kernel) ⟨Nat.le_of_ble_eq_true rfl, Nat.le_of_ble_eq_true rfl⟩) (wr_preV bl_NS (pr_NS (ws := wT k q u) hX.1 hX.2 hS (in_adr adrT)) hK hP hD (va_recv hK hP (ci := 2) (q0 := 0) rfl rfl)) rfl rfl hl.1 rfl (lv_room (Nat.le_of_ble_eq_true rfl)) dX3_performPrivileged_28 ⟨Nat.zero_le _, Nat.zero_le _⟩) hP hD hS [0, 1, 2, 3, 4, 5, 6, 7, 8, 9, 10] [] [0, 1, 2, 3, 4, 5, 6, 7, 8, 9, 10] allT (by decide) prmT adrT (fun H locs hP hD hS => ?_)
      refine lv_goto (tgt := 90) hx hb dX3_performPrivileged_31 (by decide) ?_
      exact W.vret hx hb hr (wr_end rfl (congrArg (wT k q) ((show fX3_performPrivileged u a1 a2 = o4 from (by subst h_o4; exact (if_pos c_7).trans ((if_neg c_22).trans rfl))).symm.trans ho)) hP hS) hS.2.2 dX3_performPrivileged_90
  · refine lv_aload_n hx hb dX3_performPrivileged_10 rfl (lv_at hl 0 rfl) ?_
    refine lv_bipush (v := (14 : Int32)) hx hb dX3_performPrivileged_11 (by decide) ?_
    obtain ⟨o5, h_o5⟩ : ∃ o9, (fX3_raise u (14 : Int32)) = o9 := ⟨_, rfl⟩
    refine wr_call (r := none) (ws' := wT k q o5) (W.runV (C := RX3) (b := (q 0)) (As := [.int (14 : Int32)]) (rest := []) ⟨hx, hb, hml, hown, hts⟩ (kX3_raise l D k q u (14 : Int32) o5 h_o5) (cwV 1 hts gX3_performPrivileged_X3_raise rfl rfl rfl (by decide +kernel) ⟨Nat.le_of_ble_eq_true rfl, Nat.le_of_ble_eq_true rfl⟩) (wr_preV bl_N (pr_N hX.1) hK hP hD (va_recv hK hP (ci := 2) (q0 := 0) rfl rfl)) rfl rfl hl.1 rfl (lv_room (Nat.le_of_ble_eq_true rfl)) dX3_performPrivileged_13 ⟨Nat.zero_le _, Nat.zero_le _⟩) hP hD hS [0, 1, 2, 3, 4, 5, 6, 7, 8, 9, 10] [] [0, 1, 2, 3, 4, 5, 6, 7, 8, 9, 10] allT (by decide) prmT adrT (fun H locs hP hD hS => ?_)
    refine lv_goto (tgt := 90) hx hb dX3_performPrivileged_16 (by decide) ?_
    exact W.vret hx hb hr (wr_end rfl (congrArg (wT k q) ((show fX3_performPrivileged u a1 a2 = o5 from (by subst h_o5; exact (if_neg c_7).trans rfl)).symm.trans ho)) hP hS) hS.2.2 dX3_performPrivileged_90
def fX3_perform (u : TM)  : TM :=
  if (0 : Int32) ≤ (fX3_find u u.2.2.2.2.1 (0 : Int32)) then
    if (iu (u.1 (ix (fX3_find u u.2.2.2.2.1 (0 : Int32)))) (24 : Int32)) < (1 : Int32) then
      if (iu (u.1 (ix (fX3_find u u.2.2.2.2.1 (0 : Int32)))) (24 : Int32)) = (8 : Int32) then
        (fX3_loadWord u (iu (u.1 (ix (fX3_find u u.2.2.2.2.1 (0 : Int32)))) (24 : Int32)) (u.1 (ix (fX3_find u u.2.2.2.2.1 (0 : Int32)))))
      else
        if (iu (u.1 (ix (fX3_find u u.2.2.2.2.1 (0 : Int32)))) (24 : Int32)) = (10 : Int32) then
          (fX3_loadWord u (iu (u.1 (ix (fX3_find u u.2.2.2.2.1 (0 : Int32)))) (24 : Int32)) (u.1 (ix (fX3_find u u.2.2.2.2.1 (0 : Int32)))))
        else
          if (iu (u.1 (ix (fX3_find u u.2.2.2.2.1 (0 : Int32)))) (24 : Int32)) = (9 : Int32) then
            (fX3_storeWord u (iu (u.1 (ix (fX3_find u u.2.2.2.2.1 (0 : Int32)))) (24 : Int32)) (u.1 (ix (fX3_find u u.2.2.2.2.1 (0 : Int32)))))
          else
            if (iu (u.1 (ix (fX3_find u u.2.2.2.2.1 (0 : Int32)))) (24 : Int32)) = (11 : Int32) then
              (fX3_storeWord u (iu (u.1 (ix (fX3_find u u.2.2.2.2.1 (0 : Int32)))) (24 : Int32)) (u.1 (ix (fX3_find u u.2.2.2.2.1 (0 : Int32)))))
            else
              if (iu (u.1 (ix (fX3_find u u.2.2.2.2.1 (0 : Int32)))) (24 : Int32)) < (12 : Int32) then
                if (iu (u.1 (ix (fX3_find u u.2.2.2.2.1 (0 : Int32)))) (24 : Int32)) = (16 : Int32) then
                  (fX3_raise u (11 : Int32))
                else
                  if (iu (u.1 (ix (fX3_find u u.2.2.2.2.1 (0 : Int32)))) (24 : Int32)) = (17 : Int32) then
                    (fX3_raise u (12 : Int32))
                  else
                    if (iu (u.1 (ix (fX3_find u u.2.2.2.2.1 (0 : Int32)))) (24 : Int32)) < (18 : Int32) then
                      (fX3_raise u (13 : Int32))
                    else
                      if (27 : Int32) < (iu (u.1 (ix (fX3_find u u.2.2.2.2.1 (0 : Int32)))) (24 : Int32)) then
                        (fX3_raise u (13 : Int32))
                      else
                        (fX3_performPrivileged u (iu (u.1 (ix (fX3_find u u.2.2.2.2.1 (0 : Int32)))) (24 : Int32)) (u.1 (ix (fX3_find u u.2.2.2.2.1 (0 : Int32)))))
              else
                if (15 : Int32) < (iu (u.1 (ix (fX3_find u u.2.2.2.2.1 (0 : Int32)))) (24 : Int32)) then
                  if (iu (u.1 (ix (fX3_find u u.2.2.2.2.1 (0 : Int32)))) (24 : Int32)) = (16 : Int32) then
                    (fX3_raise u (11 : Int32))
                  else
                    if (iu (u.1 (ix (fX3_find u u.2.2.2.2.1 (0 : Int32)))) (24 : Int32)) = (17 : Int32) then
                      (fX3_raise u (12 : Int32))
                    else
                      if (iu (u.1 (ix (fX3_find u u.2.2.2.2.1 (0 : Int32)))) (24 : Int32)) < (18 : Int32) then
                        (fX3_raise u (13 : Int32))
                      else
                        if (27 : Int32) < (iu (u.1 (ix (fX3_find u u.2.2.2.2.1 (0 : Int32)))) (24 : Int32)) then
                          (fX3_raise u (13 : Int32))
                        else
                          (fX3_performPrivileged u (iu (u.1 (ix (fX3_find u u.2.2.2.2.1 (0 : Int32)))) (24 : Int32)) (u.1 (ix (fX3_find u u.2.2.2.2.1 (0 : Int32)))))
                else
                  (fX3_branch u (iu (u.1 (ix (fX3_find u u.2.2.2.2.1 (0 : Int32)))) (24 : Int32)) (u.1 (ix (fX3_find u u.2.2.2.2.1 (0 : Int32)))))
    else
      if (7 : Int32) < (iu (u.1 (ix (fX3_find u u.2.2.2.2.1 (0 : Int32)))) (24 : Int32)) then
        if (iu (u.1 (ix (fX3_find u u.2.2.2.2.1 (0 : Int32)))) (24 : Int32)) = (8 : Int32) then
          (fX3_loadWord u (iu (u.1 (ix (fX3_find u u.2.2.2.2.1 (0 : Int32)))) (24 : Int32)) (u.1 (ix (fX3_find u u.2.2.2.2.1 (0 : Int32)))))
        else
          if (iu (u.1 (ix (fX3_find u u.2.2.2.2.1 (0 : Int32)))) (24 : Int32)) = (10 : Int32) then
            (fX3_loadWord u (iu (u.1 (ix (fX3_find u u.2.2.2.2.1 (0 : Int32)))) (24 : Int32)) (u.1 (ix (fX3_find u u.2.2.2.2.1 (0 : Int32)))))
          else
            if (iu (u.1 (ix (fX3_find u u.2.2.2.2.1 (0 : Int32)))) (24 : Int32)) = (9 : Int32) then
              (fX3_storeWord u (iu (u.1 (ix (fX3_find u u.2.2.2.2.1 (0 : Int32)))) (24 : Int32)) (u.1 (ix (fX3_find u u.2.2.2.2.1 (0 : Int32)))))
            else
              if (iu (u.1 (ix (fX3_find u u.2.2.2.2.1 (0 : Int32)))) (24 : Int32)) = (11 : Int32) then
                (fX3_storeWord u (iu (u.1 (ix (fX3_find u u.2.2.2.2.1 (0 : Int32)))) (24 : Int32)) (u.1 (ix (fX3_find u u.2.2.2.2.1 (0 : Int32)))))
              else
                if (iu (u.1 (ix (fX3_find u u.2.2.2.2.1 (0 : Int32)))) (24 : Int32)) < (12 : Int32) then
                  if (iu (u.1 (ix (fX3_find u u.2.2.2.2.1 (0 : Int32)))) (24 : Int32)) = (16 : Int32) then
                    (fX3_raise u (11 : Int32))
                  else
                    if (iu (u.1 (ix (fX3_find u u.2.2.2.2.1 (0 : Int32)))) (24 : Int32)) = (17 : Int32) then
                      (fX3_raise u (12 : Int32))
                    else
                      if (iu (u.1 (ix (fX3_find u u.2.2.2.2.1 (0 : Int32)))) (24 : Int32)) < (18 : Int32) then
                        (fX3_raise u (13 : Int32))
                      else
                        if (27 : Int32) < (iu (u.1 (ix (fX3_find u u.2.2.2.2.1 (0 : Int32)))) (24 : Int32)) then
                          (fX3_raise u (13 : Int32))
                        else
                          (fX3_performPrivileged u (iu (u.1 (ix (fX3_find u u.2.2.2.2.1 (0 : Int32)))) (24 : Int32)) (u.1 (ix (fX3_find u u.2.2.2.2.1 (0 : Int32)))))
                else
                  if (15 : Int32) < (iu (u.1 (ix (fX3_find u u.2.2.2.2.1 (0 : Int32)))) (24 : Int32)) then
                    if (iu (u.1 (ix (fX3_find u u.2.2.2.2.1 (0 : Int32)))) (24 : Int32)) = (16 : Int32) then
                      (fX3_raise u (11 : Int32))
                    else
                      if (iu (u.1 (ix (fX3_find u u.2.2.2.2.1 (0 : Int32)))) (24 : Int32)) = (17 : Int32) then
                        (fX3_raise u (12 : Int32))
                      else
                        if (iu (u.1 (ix (fX3_find u u.2.2.2.2.1 (0 : Int32)))) (24 : Int32)) < (18 : Int32) then
                          (fX3_raise u (13 : Int32))
                        else
                          if (27 : Int32) < (iu (u.1 (ix (fX3_find u u.2.2.2.2.1 (0 : Int32)))) (24 : Int32)) then
                            (fX3_raise u (13 : Int32))
                          else
                            (fX3_performPrivileged u (iu (u.1 (ix (fX3_find u u.2.2.2.2.1 (0 : Int32)))) (24 : Int32)) (u.1 (ix (fX3_find u u.2.2.2.2.1 (0 : Int32)))))
                  else
                    (fX3_branch u (iu (u.1 (ix (fX3_find u u.2.2.2.2.1 (0 : Int32)))) (24 : Int32)) (u.1 (ix (fX3_find u u.2.2.2.2.1 (0 : Int32)))))
      else
        (fX3_calculate u (iu (u.1 (ix (fX3_find u u.2.2.2.2.1 (0 : Int32)))) (24 : Int32)) (u.1 (ix (fX3_find u u.2.2.2.2.1 (0 : Int32)))))
  else
    (fX3_fail u (fX3_find u u.2.2.2.2.1 (0 : Int32)) u.2.2.2.2.1)
set_option maxHeartbeats 4000000 in
set_option maxRecDepth 100000 in
theorem kX3_perform (l : Launch) (D : va_G) (k : Nat → ClassId) (q : Nat → Nat) (u : TM) (tC tL : Nat)  (hn : vp_in u.2.2.2.2.2.2.1 4) (o : TM) (ho : fX3_perform u = o) : Met l yX3_perform wsX3_perform { frames := 4, cells := 0, slots := 0, locals := 100 } (wr_P D vwCl (tyL k) (wT k q u) (fun U => NL U ∧ ST tC tL (in_W (wT k q u)) U U.heap) [.ref (q 0)]) (wr_Q D vwCl none (wT k q u) (wT k q o)) 0 0 (in_W (wT k q u)) := by
  refine Met.ofW (cc := cX3_perform) (maxL := 4) (ret := none) (by decide) rfl ?_
  intro p e s m args below meth c s₁ B hml hv0
  obtain ⟨rfl, hP, hK, hX, hD0⟩ := hv0
  have hx := B.exec
  have hb := B.bytes
  have hr := B.returns
  have hts := atoms_spec (ws := wsX3_perform) B.pre
  have hown : s.vm.findClass RX3 = some m.cls := findClass_of_methodNamed B.named
  have hlocks := B.notSynchronized
  have hD : va_D (in_W (wT k q u)) (wT k q u) := wD_self hD0
  have hS : va_S (in_W (wT k q u)) s.heap s.heap [] := va_S.rf
  have hT := hX.2
  have hl := lv_entry ([.ref (q 0)]) (n := 4) (Nat.le_of_ble_eq_true rfl)
  rw [lg_entry_eq]
  generalize (lg_sl ([.ref (q 0)]) ++ List.replicate (4 - (lg_sl ([.ref (q 0)])).length) Slot.unset).toArray = ls at hl ⊢
  have hl : lv_has ls 4 [(0, .ref (q 0))] := hl
  refine lv_aload_n hx hb dX3_perform_0 rfl (lv_at hl 0 rfl) ?_
  refine lv_aload_n hx hb dX3_perform_1 rfl (lv_at hl 0 rfl) ?_
  refine va_get (D := D) (ci := 2) (v := .int u.2.2.2.2.1) (C := RX3) (T := TX3) (N := 9) hx hb hts (by decide +kernel) hown hK hP 0 rfl rfl 4 (by decide) (hts (.fieldLink RX3 54 "TrapMachine" "place" "I") (by decide +kernel)) (fun _ h9 => h9) rfl dX3_perform_2 ?_
  refine lv_iconst (v := (0 : Int32)) hx hb dX3_perform_5 (by decide) ?_
  refine rd_call (r := (fX3_find u u.2.2.2.2.1 (0 : Int32))) (W.runV (C := RX3) (b := (q 0)) (As := [.int u.2.2.2.2.1, .int (0 : Int32)]) (rest := []) ⟨hx, hb, hml, hown, hts⟩ (kX3_find l D k q u u.2.2.2.2.1 (0 : Int32)) (cwV 2 hts gX3_perform_X3_find rfl rfl rfl (by decide +kernel) ⟨Nat.le_of_ble_eq_true rfl, Nat.le_of_ble_eq_true rfl⟩) (rd_preV bl_N (pr_N hX.1) hK hP (va_recv hK hP (ci := 2) (q0 := 0) rfl rfl)) rfl rfl hl.1 rfl (lv_room (Nat.le_of_ble_eq_true rfl)) dX3_perform_6 ⟨Nat.zero_le _, Nat.zero_le _⟩) ?_
  refine lv_istore_n (lv' := [(1, .int (fX3_find u u.2.2.2.2.1 (0 : Int32))), (0, .ref (q 0))]) hx hb dX3_perform_9 rfl hl (by decide) rfl (fun ls hl => ?_)
  refine lv_iload_n hx hb dX3_perform_10 rfl (lv_at hl 0 rfl) ?_
  refine lv_if_ge (tgt := 24) hx hb dX3_perform_11 (by decide) (fun c_11 => ?_) (fun c_11 => ?_)
  · refine lv_aload_n hx hb dX3_perform_24 rfl (lv_at hl 1 rfl) ?_
    refine va_get (D := D) (ci := 2) (v := .ref (q 1)) (C := RX3) (T := TX3) (N := 9) hx hb hts (by decide +kernel) hown hK hP 0 rfl rfl 0 (by decide) (hts (.fieldLink RX3 9 "TrapMachine" "memory" "[I") (by decide +kernel)) (fun _ h9 => h9) rfl dX3_perform_25 ?_
    refine lv_iload_n hx hb dX3_perform_28 rfl (lv_at hl 0 rfl) ?_
    refine q_iald (j := (ix (fX3_find u u.2.2.2.2.1 (0 : Int32)))) (x9 := (u.1 (ix (fX3_find u u.2.2.2.2.1 (0 : Int32))))) hx hb hK hP 1 0 rfl rfl (find_in c_11) rfl rfl dX3_perform_29 ?_
    refine lv_istore_n (lv' := [(2, .int (u.1 (ix (fX3_find u u.2.2.2.2.1 (0 : Int32))))), (1, .int (fX3_find u u.2.2.2.2.1 (0 : Int32))), (0, .ref (q 0))]) hx hb dX3_perform_30 rfl hl (by decide) rfl (fun ls hl => ?_)
    refine lv_iload_n hx hb dX3_perform_31 rfl (lv_at hl 0 rfl) ?_
    refine lv_bipush (v := (24 : Int32)) hx hb dX3_perform_32 (by decide) ?_
    refine lv_iushr (v := (iu (u.1 (ix (fX3_find u u.2.2.2.2.1 (0 : Int32)))) (24 : Int32))) hx hb dX3_perform_34 rfl ?_
    refine lv_istore_n (lv' := [(3, .int (iu (u.1 (ix (fX3_find u u.2.2.2.2.1 (0 : Int32)))) (24 : Int32))), (2, .int (u.1 (ix (fX3_find u u.2.2.2.2.1 (0 : Int32))))), (1, .int (fX3_find u u.2.2.2.2.1 (0 : Int32))), (0, .ref (q 0))]) hx hb dX3_perform_35 rfl hl (by decide) rfl (fun ls hl => ?_)
    refine lv_iload_n hx hb dX3_perform_36 rfl (lv_at hl 0 rfl) ?_
    refine lv_iconst (v := (1 : Int32)) hx hb dX3_perform_37 (by decide) ?_
    refine lv_icmp_lt (tgt := 56) hx hb dX3_perform_38 (by decide) (fun c_38 => ?_) (fun c_38 => ?_)
    · refine lv_iload_n hx hb dX3_perform_56 rfl (lv_at hl 0 rfl) ?_
      refine lv_bipush (v := (8 : Int32)) hx hb dX3_perform_57 (by decide) ?_
      refine lv_icmp_eq (tgt := 68) hx hb dX3_perform_59 (by decide) (fun c_59 => ?_) (fun c_59 => ?_)
      · refine lv_aload_n hx hb dX3_perform_68 rfl (lv_at hl 3 rfl) ?_
        refine lv_iload_n hx hb dX3_perform_69 rfl (lv_at hl 0 rfl) ?_
        refine lv_iload_n hx hb dX3_perform_70 rfl (lv_at hl 1 rfl) ?_
        obtain ⟨o1, h_o1⟩ : ∃ o9, (fX3_loadWord u (iu (u.1 (ix (fX3_find u u.2.2.2.2.1 (0 : Int32)))) (24 : Int32)) (u.1 (ix (fX3_find u u.2.2.2.2.1 (0 : Int32))))) = o9 := ⟨_, rfl⟩
        refine wr_call (r := none) (ws' := wT k q o1) (W.runV (C := RX3) (b := (q 0)) (As := [.int (iu (u.1 (ix (fX3_find u u.2.2.2.2.1 (0 : Int32)))) (24 : Int32)), .int (u.1 (ix (fX3_find u u.2.2.2.2.1 (0 : Int32))))]) (rest := []) ⟨hx, hb, hml, hown, hts⟩ (kX3_loadWord l D k q u (iu (u.1 (ix (fX3_find u u.2.2.2.2.1 (0 : Int32)))) (24 : Int32)) (u.1 (ix (fX3_find u u.2.2.2.2.1 (0 : Int32)))) o1 h_o1) (cwV 2 hts gX3_perform_X3_loadWord rfl rfl rfl (by decide +kernel) ⟨Nat.le_of_ble_eq_true rfl, Nat.le_of_ble_eq_true rfl⟩) (wr_preV bl_N (pr_N hX.1) hK hP hD (va_recv hK hP (ci := 2) (q0 := 0) rfl rfl)) rfl rfl hl.1 rfl (lv_room (Nat.le_of_ble_eq_true rfl)) dX3_perform_71 ⟨Nat.zero_le _, Nat.zero_le _⟩) hP hD hS [0, 1, 2, 3, 4, 5, 6, 7, 8, 9, 10] [] [0, 1, 2, 3, 4, 5, 6, 7, 8, 9, 10] allT (by decide) prmT adrT (fun H locs hP hD hS => ?_)
        refine lv_goto (tgt := 176) hx hb dX3_perform_74 (by decide) ?_
        exact W.vret hx hb hr (wr_end rfl (congrArg (wT k q) ((show fX3_perform u = o1 from (by subst h_o1; exact (if_pos c_11).trans ((if_pos c_38).trans ((if_pos c_59).trans rfl)))).symm.trans ho)) hP hS) hS.2.2 dX3_perform_176
      · refine lv_iload_n hx hb dX3_perform_62 rfl (lv_at hl 0 rfl) ?_
        refine lv_bipush (v := (10 : Int32)) hx hb dX3_perform_63 (by decide) ?_
        refine lv_icmp_ne (tgt := 77) hx hb dX3_perform_65 (by decide) (fun c_65 => ?_) (fun c_65 => ?_)
        · refine lv_iload_n hx hb dX3_perform_77 rfl (lv_at hl 0 rfl) ?_
          refine lv_bipush (v := (9 : Int32)) hx hb dX3_perform_78 (by decide) ?_
          refine lv_icmp_eq (tgt := 89) hx hb dX3_perform_80 (by decide) (fun c_80 => ?_) (fun c_80 => ?_)
          · refine lv_aload_n hx hb dX3_perform_89 rfl (lv_at hl 3 rfl) ?_
            refine lv_iload_n hx hb dX3_perform_90 rfl (lv_at hl 0 rfl) ?_
            refine lv_iload_n hx hb dX3_perform_91 rfl (lv_at hl 1 rfl) ?_
            obtain ⟨o2, h_o2⟩ : ∃ o9, (fX3_storeWord u (iu (u.1 (ix (fX3_find u u.2.2.2.2.1 (0 : Int32)))) (24 : Int32)) (u.1 (ix (fX3_find u u.2.2.2.2.1 (0 : Int32))))) = o9 := ⟨_, rfl⟩
            refine wr_call (r := none) (ws' := wT k q o2) (W.runV (C := RX3) (b := (q 0)) (As := [.int (iu (u.1 (ix (fX3_find u u.2.2.2.2.1 (0 : Int32)))) (24 : Int32)), .int (u.1 (ix (fX3_find u u.2.2.2.2.1 (0 : Int32))))]) (rest := []) ⟨hx, hb, hml, hown, hts⟩ (kX3_storeWord l D k q u (iu (u.1 (ix (fX3_find u u.2.2.2.2.1 (0 : Int32)))) (24 : Int32)) (u.1 (ix (fX3_find u u.2.2.2.2.1 (0 : Int32)))) o2 h_o2) (cwV 2 hts gX3_perform_X3_storeWord rfl rfl rfl (by decide +kernel) ⟨Nat.le_of_ble_eq_true rfl, Nat.le_of_ble_eq_true rfl⟩) (wr_preV bl_N (pr_N hX.1) hK hP hD (va_recv hK hP (ci := 2) (q0 := 0) rfl rfl)) rfl rfl hl.1 rfl (lv_room (Nat.le_of_ble_eq_true rfl)) dX3_perform_92 ⟨Nat.zero_le _, Nat.zero_le _⟩) hP hD hS [0, 1, 2, 3, 4, 5, 6, 7, 8, 9, 10] [] [0, 1, 2, 3, 4, 5, 6, 7, 8, 9, 10] allT (by decide) prmT adrT (fun H locs hP hD hS => ?_)
            refine lv_goto (tgt := 176) hx hb dX3_perform_95 (by decide) ?_
            exact W.vret hx hb hr (wr_end rfl (congrArg (wT k q) ((show fX3_perform u = o2 from (by subst h_o2; exact (if_pos c_11).trans ((if_pos c_38).trans ((if_neg c_59).trans ((if_neg c_65).trans ((if_pos c_80).trans rfl)))))).symm.trans ho)) hP hS) hS.2.2 dX3_perform_176
          · refine lv_iload_n hx hb dX3_perform_83 rfl (lv_at hl 0 rfl) ?_
            refine lv_bipush (v := (11 : Int32)) hx hb dX3_perform_84 (by decide) ?_
            refine lv_icmp_ne (tgt := 98) hx hb dX3_perform_86 (by decide) (fun c_86 => ?_) (fun c_86 => ?_)
            · refine lv_iload_n hx hb dX3_perform_98 rfl (lv_at hl 0 rfl) ?_
              refine lv_bipush (v := (12 : Int32)) hx hb dX3_perform_99 (by decide) ?_
              refine lv_icmp_lt (tgt := 119) hx hb dX3_perform_101 (by decide) (fun c_101 => ?_) (fun c_101 => ?_)
              · refine lv_iload_n hx hb dX3_perform_119 rfl (lv_at hl 0 rfl) ?_
                refine lv_bipush (v := (16 : Int32)) hx hb dX3_perform_120 (by decide) ?_
                refine lv_icmp_ne (tgt := 134) hx hb dX3_perform_122 (by decide) (fun c_122 => ?_) (fun c_122 => ?_)
                · refine lv_iload_n hx hb dX3_perform_134 rfl (lv_at hl 0 rfl) ?_
                  refine lv_bipush (v := (17 : Int32)) hx hb dX3_perform_135 (by decide) ?_
                  refine lv_icmp_ne (tgt := 149) hx hb dX3_perform_137 (by decide) (fun c_137 => ?_) (fun c_137 => ?_)
                  · refine lv_iload_n hx hb dX3_perform_149 rfl (lv_at hl 0 rfl) ?_
                    refine lv_bipush (v := (18 : Int32)) hx hb dX3_perform_150 (by decide) ?_
                    refine lv_icmp_lt (tgt := 170) hx hb dX3_perform_152 (by decide) (fun c_152 => ?_) (fun c_152 => ?_)
                    · refine lv_aload_n hx hb dX3_perform_170 rfl (lv_at hl 3 rfl) ?_
                      refine lv_bipush (v := (13 : Int32)) hx hb dX3_perform_171 (by decide) ?_
                      obtain ⟨o3, h_o3⟩ : ∃ o9, (fX3_raise u (13 : Int32)) = o9 := ⟨_, rfl⟩
                      refine wr_call (r := none) (ws' := wT k q o3) (W.runV (C := RX3) (b := (q 0)) (As := [.int (13 : Int32)]) (rest := []) ⟨hx, hb, hml, hown, hts⟩ (kX3_raise l D k q u (13 : Int32) o3 h_o3) (cwV 1 hts gX3_perform_X3_raise rfl rfl rfl (by decide +kernel) ⟨Nat.le_of_ble_eq_true rfl, Nat.le_of_ble_eq_true rfl⟩) (wr_preV bl_N (pr_N hX.1) hK hP hD (va_recv hK hP (ci := 2) (q0 := 0) rfl rfl)) rfl rfl hl.1 rfl (lv_room (Nat.le_of_ble_eq_true rfl)) dX3_perform_173 ⟨Nat.zero_le _, Nat.zero_le _⟩) hP hD hS [0, 1, 2, 3, 4, 5, 6, 7, 8, 9, 10] [] [0, 1, 2, 3, 4, 5, 6, 7, 8, 9, 10] allT (by decide) prmT adrT (fun H locs hP hD hS => ?_)
                      exact W.vret hx hb hr (wr_end rfl (congrArg (wT k q) ((show fX3_perform u = o3 from (by subst h_o3; exact (if_pos c_11).trans ((if_pos c_38).trans ((if_neg c_59).trans ((if_neg c_65).trans ((if_neg c_80).trans ((if_neg c_86).trans ((if_pos c_101).trans ((if_neg c_122).trans ((if_neg c_137).trans ((if_pos c_152).trans rfl))))))))))).symm.trans ho)) hP hS) hS.2.2 dX3_perform_176
                    · refine lv_iload_n hx hb dX3_perform_155 rfl (lv_at hl 0 rfl) ?_
                      refine lv_bipush (v := (27 : Int32)) hx hb dX3_perform_156 (by decide) ?_
                      refine lv_icmp_gt (tgt := 170) hx hb dX3_perform_158 (by decide) (fun c_158 => ?_) (fun c_158 => ?_)
                      · refine lv_aload_n hx hb dX3_perform_170 rfl (lv_at hl 3 rfl) ?_
                        refine lv_bipush (v := (13 : Int32)) hx hb dX3_perform_171 (by decide) ?_
                        obtain ⟨o4, h_o4⟩ : ∃ o9, (fX3_raise u (13 : Int32)) = o9 := ⟨_, rfl⟩
                        refine wr_call (r := none) (ws' := wT k q o4) (W.runV (C := RX3) (b := (q 0)) (As := [.int (13 : Int32)]) (rest := []) ⟨hx, hb, hml, hown, hts⟩ (kX3_raise l D k q u (13 : Int32) o4 h_o4) (cwV 1 hts gX3_perform_X3_raise rfl rfl rfl (by decide +kernel) ⟨Nat.le_of_ble_eq_true rfl, Nat.le_of_ble_eq_true rfl⟩) (wr_preV bl_N (pr_N hX.1) hK hP hD (va_recv hK hP (ci := 2) (q0 := 0) rfl rfl)) rfl rfl hl.1 rfl (lv_room (Nat.le_of_ble_eq_true rfl)) dX3_perform_173 ⟨Nat.zero_le _, Nat.zero_le _⟩) hP hD hS [0, 1, 2, 3, 4, 5, 6, 7, 8, 9, 10] [] [0, 1, 2, 3, 4, 5, 6, 7, 8, 9, 10] allT (by decide) prmT adrT (fun H locs hP hD hS => ?_)
                        exact W.vret hx hb hr (wr_end rfl (congrArg (wT k q) ((show fX3_perform u = o4 from (by subst h_o4; exact (if_pos c_11).trans ((if_pos c_38).trans ((if_neg c_59).trans ((if_neg c_65).trans ((if_neg c_80).trans ((if_neg c_86).trans ((if_pos c_101).trans ((if_neg c_122).trans ((if_neg c_137).trans ((if_neg c_152).trans ((if_pos c_158).trans rfl)))))))))))).symm.trans ho)) hP hS) hS.2.2 dX3_perform_176
                      · refine lv_aload_n hx hb dX3_perform_161 rfl (lv_at hl 3 rfl) ?_
                        refine lv_iload_n hx hb dX3_perform_162 rfl (lv_at hl 0 rfl) ?_
                        refine lv_iload_n hx hb dX3_perform_163 rfl (lv_at hl 1 rfl) ?_
                        obtain ⟨o5, h_o5⟩ : ∃ o9, (fX3_performPrivileged u (iu (u.1 (ix (fX3_find u u.2.2.2.2.1 (0 : Int32)))) (24 : Int32)) (u.1 (ix (fX3_find u u.2.2.2.2.1 (0 : Int32))))) = o9 := ⟨_, rfl⟩
                        refine wr_call (r := none) (ws' := wT k q o5) (W.runV (C := RX3) (b := (q 0)) (As := [.int (iu (u.1 (ix (fX3_find u u.2.2.2.2.1 (0 : Int32)))) (24 : Int32)), .int (u.1 (ix (fX3_find u u.2.2.2.2.1 (0 : Int32))))]) (rest := []) ⟨hx, hb, hml, hown, hts⟩ (kX3_performPrivileged l D k q u tC tL (iu (u.1 (ix (fX3_find u u.2.2.2.2.1 (0 : Int32)))) (24 : Int32)) (u.1 (ix (fX3_find u u.2.2.2.2.1 (0 : Int32)))) hn o5 h_o5) (cwV 2 hts gX3_perform_X3_performPrivileged rfl rfl rfl (by decide +kernel) ⟨Nat.le_of_ble_eq_true rfl, Nat.le_of_ble_eq_true rfl⟩) (wr_preV bl_NS (pr_NS (ws := wT k q u) hX.1 hX.2 hS (in_adr adrT)) hK hP hD (va_recv hK hP (ci := 2) (q0 := 0) rfl rfl)) rfl rfl hl.1 rfl (lv_room (Nat.le_of_ble_eq_true rfl)) dX3_perform_164 ⟨Nat.zero_le _, Nat.zero_le _⟩) hP hD hS [0, 1, 2, 3, 4, 5, 6, 7, 8, 9, 10] [] [0, 1, 2, 3, 4, 5, 6, 7, 8, 9, 10] allT (by decide) prmT adrT (fun H locs hP hD hS => ?_)
                        refine lv_goto (tgt := 176) hx hb dX3_perform_167 (by decide) ?_
                        exact W.vret hx hb hr (wr_end rfl (congrArg (wT k q) ((show fX3_perform u = o5 from (by subst h_o5; exact (if_pos c_11).trans ((if_pos c_38).trans ((if_neg c_59).trans ((if_neg c_65).trans ((if_neg c_80).trans ((if_neg c_86).trans ((if_pos c_101).trans ((if_neg c_122).trans ((if_neg c_137).trans ((if_neg c_152).trans ((if_neg c_158).trans rfl)))))))))))).symm.trans ho)) hP hS) hS.2.2 dX3_perform_176
                  · refine lv_aload_n hx hb dX3_perform_140 rfl (lv_at hl 3 rfl) ?_
                    refine lv_bipush (v := (12 : Int32)) hx hb dX3_perform_141 (by decide) ?_
                    obtain ⟨o6, h_o6⟩ : ∃ o9, (fX3_raise u (12 : Int32)) = o9 := ⟨_, rfl⟩
                    refine wr_call (r := none) (ws' := wT k q o6) (W.runV (C := RX3) (b := (q 0)) (As := [.int (12 : Int32)]) (rest := []) ⟨hx, hb, hml, hown, hts⟩ (kX3_raise l D k q u (12 : Int32) o6 h_o6) (cwV 1 hts gX3_perform_X3_raise rfl rfl rfl (by decide +kernel) ⟨Nat.le_of_ble_eq_true rfl, Nat.le_of_ble_eq_true rfl⟩) (wr_preV bl_N (pr_N hX.1) hK hP hD (va_recv hK hP (ci := 2) (q0 := 0) rfl rfl)) rfl rfl hl.1 rfl (lv_room (Nat.le_of_ble_eq_true rfl)) dX3_perform_143 ⟨Nat.zero_le _, Nat.zero_le _⟩) hP hD hS [0, 1, 2, 3, 4, 5, 6, 7, 8, 9, 10] [] [0, 1, 2, 3, 4, 5, 6, 7, 8, 9, 10] allT (by decide) prmT adrT (fun H locs hP hD hS => ?_)
                    refine lv_goto (tgt := 176) hx hb dX3_perform_146 (by decide) ?_
                    exact W.vret hx hb hr (wr_end rfl (congrArg (wT k q) ((show fX3_perform u = o6 from (by subst h_o6; exact (if_pos c_11).trans ((if_pos c_38).trans ((if_neg c_59).trans ((if_neg c_65).trans ((if_neg c_80).trans ((if_neg c_86).trans ((if_pos c_101).trans ((if_neg c_122).trans ((if_pos c_137).trans rfl)))))))))).symm.trans ho)) hP hS) hS.2.2 dX3_perform_176
                · refine lv_aload_n hx hb dX3_perform_125 rfl (lv_at hl 3 rfl) ?_
                  refine lv_bipush (v := (11 : Int32)) hx hb dX3_perform_126 (by decide) ?_
                  obtain ⟨o7, h_o7⟩ : ∃ o9, (fX3_raise u (11 : Int32)) = o9 := ⟨_, rfl⟩
                  refine wr_call (r := none) (ws' := wT k q o7) (W.runV (C := RX3) (b := (q 0)) (As := [.int (11 : Int32)]) (rest := []) ⟨hx, hb, hml, hown, hts⟩ (kX3_raise l D k q u (11 : Int32) o7 h_o7) (cwV 1 hts gX3_perform_X3_raise rfl rfl rfl (by decide +kernel) ⟨Nat.le_of_ble_eq_true rfl, Nat.le_of_ble_eq_true rfl⟩) (wr_preV bl_N (pr_N hX.1) hK hP hD (va_recv hK hP (ci := 2) (q0 := 0) rfl rfl)) rfl rfl hl.1 rfl (lv_room (Nat.le_of_ble_eq_true rfl)) dX3_perform_128 ⟨Nat.zero_le _, Nat.zero_le _⟩) hP hD hS [0, 1, 2, 3, 4, 5, 6, 7, 8, 9, 10] [] [0, 1, 2, 3, 4, 5, 6, 7, 8, 9, 10] allT (by decide) prmT adrT (fun H locs hP hD hS => ?_)
                  refine lv_goto (tgt := 176) hx hb dX3_perform_131 (by decide) ?_
                  exact W.vret hx hb hr (wr_end rfl (congrArg (wT k q) ((show fX3_perform u = o7 from (by subst h_o7; exact (if_pos c_11).trans ((if_pos c_38).trans ((if_neg c_59).trans ((if_neg c_65).trans ((if_neg c_80).trans ((if_neg c_86).trans ((if_pos c_101).trans ((if_pos c_122).trans rfl))))))))).symm.trans ho)) hP hS) hS.2.2 dX3_perform_176
              · refine lv_iload_n hx hb dX3_perform_104 rfl (lv_at hl 0 rfl) ?_
                refine lv_bipush (v := (15 : Int32)) hx hb dX3_perform_105 (by decide) ?_
                refine lv_icmp_gt (tgt := 119) hx hb dX3_perform_107 (by decide) (fun c_107 => ?_) (fun c_107 => ?_)
                · refine lv_iload_n hx hb dX3_perform_119 rfl (lv_at hl 0 rfl) ?_
                  refine lv_bipush (v := (16 : Int32)) hx hb dX3_perform_120 (by decide) ?_
                  refine lv_icmp_ne (tgt := 134) hx hb dX3_perform_122 (by decide) (fun c_122 => ?_) (fun c_122 => ?_)
                  · refine lv_iload_n hx hb dX3_perform_134 rfl (lv_at hl 0 rfl) ?_
                    refine lv_bipush (v := (17 : Int32)) hx hb dX3_perform_135 (by decide) ?_
                    refine lv_icmp_ne (tgt := 149) hx hb dX3_perform_137 (by decide) (fun c_137 => ?_) (fun c_137 => ?_)
                    · refine lv_iload_n hx hb dX3_perform_149 rfl (lv_at hl 0 rfl) ?_
                      refine lv_bipush (v := (18 : Int32)) hx hb dX3_perform_150 (by decide) ?_
                      refine lv_icmp_lt (tgt := 170) hx hb dX3_perform_152 (by decide) (fun c_152 => ?_) (fun c_152 => ?_)
                      · refine lv_aload_n hx hb dX3_perform_170 rfl (lv_at hl 3 rfl) ?_
                        refine lv_bipush (v := (13 : Int32)) hx hb dX3_perform_171 (by decide) ?_
                        obtain ⟨o8, h_o8⟩ : ∃ o9, (fX3_raise u (13 : Int32)) = o9 := ⟨_, rfl⟩
                        refine wr_call (r := none) (ws' := wT k q o8) (W.runV (C := RX3) (b := (q 0)) (As := [.int (13 : Int32)]) (rest := []) ⟨hx, hb, hml, hown, hts⟩ (kX3_raise l D k q u (13 : Int32) o8 h_o8) (cwV 1 hts gX3_perform_X3_raise rfl rfl rfl (by decide +kernel) ⟨Nat.le_of_ble_eq_true rfl, Nat.le_of_ble_eq_true rfl⟩) (wr_preV bl_N (pr_N hX.1) hK hP hD (va_recv hK hP (ci := 2) (q0 := 0) rfl rfl)) rfl rfl hl.1 rfl (lv_room (Nat.le_of_ble_eq_true rfl)) dX3_perform_173 ⟨Nat.zero_le _, Nat.zero_le _⟩) hP hD hS [0, 1, 2, 3, 4, 5, 6, 7, 8, 9, 10] [] [0, 1, 2, 3, 4, 5, 6, 7, 8, 9, 10] allT (by decide) prmT adrT (fun H locs hP hD hS => ?_)
                        exact W.vret hx hb hr (wr_end rfl (congrArg (wT k q) ((show fX3_perform u = o8 from (by subst h_o8; exact (if_pos c_11).trans ((if_pos c_38).trans ((if_neg c_59).trans ((if_neg c_65).trans ((if_neg c_80).trans ((if_neg c_86).trans ((if_neg c_101).trans ((if_pos c_107).trans ((if_neg c_122).trans ((if_neg c_137).trans ((if_pos c_152).trans rfl)))))))))))).symm.trans ho)) hP hS) hS.2.2 dX3_perform_176
                      · refine lv_iload_n hx hb dX3_perform_155 rfl (lv_at hl 0 rfl) ?_
                        refine lv_bipush (v := (27 : Int32)) hx hb dX3_perform_156 (by decide) ?_
                        refine lv_icmp_gt (tgt := 170) hx hb dX3_perform_158 (by decide) (fun c_158 => ?_) (fun c_158 => ?_)
                        · refine lv_aload_n hx hb dX3_perform_170 rfl (lv_at hl 3 rfl) ?_
                          refine lv_bipush (v := (13 : Int32)) hx hb dX3_perform_171 (by decide) ?_
                          obtain ⟨o9, h_o9⟩ : ∃ o9, (fX3_raise u (13 : Int32)) = o9 := ⟨_, rfl⟩
                          refine wr_call (r := none) (ws' := wT k q o9) (W.runV (C := RX3) (b := (q 0)) (As := [.int (13 : Int32)]) (rest := []) ⟨hx, hb, hml, hown, hts⟩ (kX3_raise l D k q u (13 : Int32) o9 h_o9) (cwV 1 hts gX3_perform_X3_raise rfl rfl rfl (by decide +kernel) ⟨Nat.le_of_ble_eq_true rfl, Nat.le_of_ble_eq_true rfl⟩) (wr_preV bl_N (pr_N hX.1) hK hP hD (va_recv hK hP (ci := 2) (q0 := 0) rfl rfl)) rfl rfl hl.1 rfl (lv_room (Nat.le_of_ble_eq_true rfl)) dX3_perform_173 ⟨Nat.zero_le _, Nat.zero_le _⟩) hP hD hS [0, 1, 2, 3, 4, 5, 6, 7, 8, 9, 10] [] [0, 1, 2, 3, 4, 5, 6, 7, 8, 9, 10] allT (by decide) prmT adrT (fun H locs hP hD hS => ?_)
                          exact W.vret hx hb hr (wr_end rfl (congrArg (wT k q) ((show fX3_perform u = o9 from (by subst h_o9; exact (if_pos c_11).trans ((if_pos c_38).trans ((if_neg c_59).trans ((if_neg c_65).trans ((if_neg c_80).trans ((if_neg c_86).trans ((if_neg c_101).trans ((if_pos c_107).trans ((if_neg c_122).trans ((if_neg c_137).trans ((if_neg c_152).trans ((if_pos c_158).trans rfl))))))))))))).symm.trans ho)) hP hS) hS.2.2 dX3_perform_176
                        · refine lv_aload_n hx hb dX3_perform_161 rfl (lv_at hl 3 rfl) ?_
                          refine lv_iload_n hx hb dX3_perform_162 rfl (lv_at hl 0 rfl) ?_
                          refine lv_iload_n hx hb dX3_perform_163 rfl (lv_at hl 1 rfl) ?_
                          obtain ⟨o10, h_o10⟩ : ∃ o9, (fX3_performPrivileged u (iu (u.1 (ix (fX3_find u u.2.2.2.2.1 (0 : Int32)))) (24 : Int32)) (u.1 (ix (fX3_find u u.2.2.2.2.1 (0 : Int32))))) = o9 := ⟨_, rfl⟩
                          refine wr_call (r := none) (ws' := wT k q o10) (W.runV (C := RX3) (b := (q 0)) (As := [.int (iu (u.1 (ix (fX3_find u u.2.2.2.2.1 (0 : Int32)))) (24 : Int32)), .int (u.1 (ix (fX3_find u u.2.2.2.2.1 (0 : Int32))))]) (rest := []) ⟨hx, hb, hml, hown, hts⟩ (kX3_performPrivileged l D k q u tC tL (iu (u.1 (ix (fX3_find u u.2.2.2.2.1 (0 : Int32)))) (24 : Int32)) (u.1 (ix (fX3_find u u.2.2.2.2.1 (0 : Int32)))) hn o10 h_o10) (cwV 2 hts gX3_perform_X3_performPrivileged rfl rfl rfl (by decide +kernel) ⟨Nat.le_of_ble_eq_true rfl, Nat.le_of_ble_eq_true rfl⟩) (wr_preV bl_NS (pr_NS (ws := wT k q u) hX.1 hX.2 hS (in_adr adrT)) hK hP hD (va_recv hK hP (ci := 2) (q0 := 0) rfl rfl)) rfl rfl hl.1 rfl (lv_room (Nat.le_of_ble_eq_true rfl)) dX3_perform_164 ⟨Nat.zero_le _, Nat.zero_le _⟩) hP hD hS [0, 1, 2, 3, 4, 5, 6, 7, 8, 9, 10] [] [0, 1, 2, 3, 4, 5, 6, 7, 8, 9, 10] allT (by decide) prmT adrT (fun H locs hP hD hS => ?_)
                          refine lv_goto (tgt := 176) hx hb dX3_perform_167 (by decide) ?_
                          exact W.vret hx hb hr (wr_end rfl (congrArg (wT k q) ((show fX3_perform u = o10 from (by subst h_o10; exact (if_pos c_11).trans ((if_pos c_38).trans ((if_neg c_59).trans ((if_neg c_65).trans ((if_neg c_80).trans ((if_neg c_86).trans ((if_neg c_101).trans ((if_pos c_107).trans ((if_neg c_122).trans ((if_neg c_137).trans ((if_neg c_152).trans ((if_neg c_158).trans rfl))))))))))))).symm.trans ho)) hP hS) hS.2.2 dX3_perform_176
                    · refine lv_aload_n hx hb dX3_perform_140 rfl (lv_at hl 3 rfl) ?_
                      refine lv_bipush (v := (12 : Int32)) hx hb dX3_perform_141 (by decide) ?_
                      obtain ⟨o11, h_o11⟩ : ∃ o9, (fX3_raise u (12 : Int32)) = o9 := ⟨_, rfl⟩
                      refine wr_call (r := none) (ws' := wT k q o11) (W.runV (C := RX3) (b := (q 0)) (As := [.int (12 : Int32)]) (rest := []) ⟨hx, hb, hml, hown, hts⟩ (kX3_raise l D k q u (12 : Int32) o11 h_o11) (cwV 1 hts gX3_perform_X3_raise rfl rfl rfl (by decide +kernel) ⟨Nat.le_of_ble_eq_true rfl, Nat.le_of_ble_eq_true rfl⟩) (wr_preV bl_N (pr_N hX.1) hK hP hD (va_recv hK hP (ci := 2) (q0 := 0) rfl rfl)) rfl rfl hl.1 rfl (lv_room (Nat.le_of_ble_eq_true rfl)) dX3_perform_143 ⟨Nat.zero_le _, Nat.zero_le _⟩) hP hD hS [0, 1, 2, 3, 4, 5, 6, 7, 8, 9, 10] [] [0, 1, 2, 3, 4, 5, 6, 7, 8, 9, 10] allT (by decide) prmT adrT (fun H locs hP hD hS => ?_)
                      refine lv_goto (tgt := 176) hx hb dX3_perform_146 (by decide) ?_
                      exact W.vret hx hb hr (wr_end rfl (congrArg (wT k q) ((show fX3_perform u = o11 from (by subst h_o11; exact (if_pos c_11).trans ((if_pos c_38).trans ((if_neg c_59).trans ((if_neg c_65).trans ((if_neg c_80).trans ((if_neg c_86).trans ((if_neg c_101).trans ((if_pos c_107).trans ((if_neg c_122).trans ((if_pos c_137).trans rfl))))))))))).symm.trans ho)) hP hS) hS.2.2 dX3_perform_176
                  · refine lv_aload_n hx hb dX3_perform_125 rfl (lv_at hl 3 rfl) ?_
                    refine lv_bipush (v := (11 : Int32)) hx hb dX3_perform_126 (by decide) ?_
                    obtain ⟨o12, h_o12⟩ : ∃ o9, (fX3_raise u (11 : Int32)) = o9 := ⟨_, rfl⟩
                    refine wr_call (r := none) (ws' := wT k q o12) (W.runV (C := RX3) (b := (q 0)) (As := [.int (11 : Int32)]) (rest := []) ⟨hx, hb, hml, hown, hts⟩ (kX3_raise l D k q u (11 : Int32) o12 h_o12) (cwV 1 hts gX3_perform_X3_raise rfl rfl rfl (by decide +kernel) ⟨Nat.le_of_ble_eq_true rfl, Nat.le_of_ble_eq_true rfl⟩) (wr_preV bl_N (pr_N hX.1) hK hP hD (va_recv hK hP (ci := 2) (q0 := 0) rfl rfl)) rfl rfl hl.1 rfl (lv_room (Nat.le_of_ble_eq_true rfl)) dX3_perform_128 ⟨Nat.zero_le _, Nat.zero_le _⟩) hP hD hS [0, 1, 2, 3, 4, 5, 6, 7, 8, 9, 10] [] [0, 1, 2, 3, 4, 5, 6, 7, 8, 9, 10] allT (by decide) prmT adrT (fun H locs hP hD hS => ?_)
                    refine lv_goto (tgt := 176) hx hb dX3_perform_131 (by decide) ?_
                    exact W.vret hx hb hr (wr_end rfl (congrArg (wT k q) ((show fX3_perform u = o12 from (by subst h_o12; exact (if_pos c_11).trans ((if_pos c_38).trans ((if_neg c_59).trans ((if_neg c_65).trans ((if_neg c_80).trans ((if_neg c_86).trans ((if_neg c_101).trans ((if_pos c_107).trans ((if_pos c_122).trans rfl)))))))))).symm.trans ho)) hP hS) hS.2.2 dX3_perform_176
                · refine lv_aload_n hx hb dX3_perform_110 rfl (lv_at hl 3 rfl) ?_
                  refine lv_iload_n hx hb dX3_perform_111 rfl (lv_at hl 0 rfl) ?_
                  refine lv_iload_n hx hb dX3_perform_112 rfl (lv_at hl 1 rfl) ?_
                  obtain ⟨o13, h_o13⟩ : ∃ o9, (fX3_branch u (iu (u.1 (ix (fX3_find u u.2.2.2.2.1 (0 : Int32)))) (24 : Int32)) (u.1 (ix (fX3_find u u.2.2.2.2.1 (0 : Int32))))) = o9 := ⟨_, rfl⟩
                  refine wr_call (r := none) (ws' := wT k q o13) (W.runV (C := RX3) (b := (q 0)) (As := [.int (iu (u.1 (ix (fX3_find u u.2.2.2.2.1 (0 : Int32)))) (24 : Int32)), .int (u.1 (ix (fX3_find u u.2.2.2.2.1 (0 : Int32))))]) (rest := []) ⟨hx, hb, hml, hown, hts⟩ (kX3_branch l D k q u (iu (u.1 (ix (fX3_find u u.2.2.2.2.1 (0 : Int32)))) (24 : Int32)) (u.1 (ix (fX3_find u u.2.2.2.2.1 (0 : Int32)))) o13 h_o13) (cwV 2 hts gX3_perform_X3_branch rfl rfl rfl (by decide +kernel) ⟨Nat.le_of_ble_eq_true rfl, Nat.le_of_ble_eq_true rfl⟩) (wr_preV bl_T pr_T hK hP hD (va_recv hK hP (ci := 2) (q0 := 0) rfl rfl)) rfl rfl hl.1 rfl (lv_room (Nat.le_of_ble_eq_true rfl)) dX3_perform_113 ⟨Nat.zero_le _, Nat.zero_le _⟩) hP hD hS [0, 1, 2, 3, 4, 5, 6, 7, 8, 9, 10] [] [0, 1, 2, 3, 4, 5, 6, 7, 8, 9, 10] allT (by decide) prmT adrT (fun H locs hP hD hS => ?_)
                  refine lv_goto (tgt := 176) hx hb dX3_perform_116 (by decide) ?_
                  exact W.vret hx hb hr (wr_end rfl (congrArg (wT k q) ((show fX3_perform u = o13 from (by subst h_o13; exact (if_pos c_11).trans ((if_pos c_38).trans ((if_neg c_59).trans ((if_neg c_65).trans ((if_neg c_80).trans ((if_neg c_86).trans ((if_neg c_101).trans ((if_neg c_107).trans rfl))))))))).symm.trans ho)) hP hS) hS.2.2 dX3_perform_176
            · refine lv_aload_n hx hb dX3_perform_89 rfl (lv_at hl 3 rfl) ?_
              refine lv_iload_n hx hb dX3_perform_90 rfl (lv_at hl 0 rfl) ?_
              refine lv_iload_n hx hb dX3_perform_91 rfl (lv_at hl 1 rfl) ?_
              obtain ⟨o14, h_o14⟩ : ∃ o9, (fX3_storeWord u (iu (u.1 (ix (fX3_find u u.2.2.2.2.1 (0 : Int32)))) (24 : Int32)) (u.1 (ix (fX3_find u u.2.2.2.2.1 (0 : Int32))))) = o9 := ⟨_, rfl⟩
              refine wr_call (r := none) (ws' := wT k q o14) (W.runV (C := RX3) (b := (q 0)) (As := [.int (iu (u.1 (ix (fX3_find u u.2.2.2.2.1 (0 : Int32)))) (24 : Int32)), .int (u.1 (ix (fX3_find u u.2.2.2.2.1 (0 : Int32))))]) (rest := []) ⟨hx, hb, hml, hown, hts⟩ (kX3_storeWord l D k q u (iu (u.1 (ix (fX3_find u u.2.2.2.2.1 (0 : Int32)))) (24 : Int32)) (u.1 (ix (fX3_find u u.2.2.2.2.1 (0 : Int32)))) o14 h_o14) (cwV 2 hts gX3_perform_X3_storeWord rfl rfl rfl (by decide +kernel) ⟨Nat.le_of_ble_eq_true rfl, Nat.le_of_ble_eq_true rfl⟩) (wr_preV bl_N (pr_N hX.1) hK hP hD (va_recv hK hP (ci := 2) (q0 := 0) rfl rfl)) rfl rfl hl.1 rfl (lv_room (Nat.le_of_ble_eq_true rfl)) dX3_perform_92 ⟨Nat.zero_le _, Nat.zero_le _⟩) hP hD hS [0, 1, 2, 3, 4, 5, 6, 7, 8, 9, 10] [] [0, 1, 2, 3, 4, 5, 6, 7, 8, 9, 10] allT (by decide) prmT adrT (fun H locs hP hD hS => ?_)
              refine lv_goto (tgt := 176) hx hb dX3_perform_95 (by decide) ?_
              exact W.vret hx hb hr (wr_end rfl (congrArg (wT k q) ((show fX3_perform u = o14 from (by subst h_o14; exact (if_pos c_11).trans ((if_pos c_38).trans ((if_neg c_59).trans ((if_neg c_65).trans ((if_neg c_80).trans ((if_pos c_86).trans rfl))))))).symm.trans ho)) hP hS) hS.2.2 dX3_perform_176
        · refine lv_aload_n hx hb dX3_perform_68 rfl (lv_at hl 3 rfl) ?_
          refine lv_iload_n hx hb dX3_perform_69 rfl (lv_at hl 0 rfl) ?_
          refine lv_iload_n hx hb dX3_perform_70 rfl (lv_at hl 1 rfl) ?_
          obtain ⟨o15, h_o15⟩ : ∃ o9, (fX3_loadWord u (iu (u.1 (ix (fX3_find u u.2.2.2.2.1 (0 : Int32)))) (24 : Int32)) (u.1 (ix (fX3_find u u.2.2.2.2.1 (0 : Int32))))) = o9 := ⟨_, rfl⟩
          refine wr_call (r := none) (ws' := wT k q o15) (W.runV (C := RX3) (b := (q 0)) (As := [.int (iu (u.1 (ix (fX3_find u u.2.2.2.2.1 (0 : Int32)))) (24 : Int32)), .int (u.1 (ix (fX3_find u u.2.2.2.2.1 (0 : Int32))))]) (rest := []) ⟨hx, hb, hml, hown, hts⟩ (kX3_loadWord l D k q u (iu (u.1 (ix (fX3_find u u.2.2.2.2.1 (0 : Int32)))) (24 : Int32)) (u.1 (ix (fX3_find u u.2.2.2.2.1 (0 : Int32)))) o15 h_o15) (cwV 2 hts gX3_perform_X3_loadWord rfl rfl rfl (by decide +kernel) ⟨Nat.le_of_ble_eq_true rfl, Nat.le_of_ble_eq_true rfl⟩) (wr_preV bl_N (pr_N hX.1) hK hP hD (va_recv hK hP (ci := 2) (q0 := 0) rfl rfl)) rfl rfl hl.1 rfl (lv_room (Nat.le_of_ble_eq_true rfl)) dX3_perform_71 ⟨Nat.zero_le _, Nat.zero_le _⟩) hP hD hS [0, 1, 2, 3, 4, 5, 6, 7, 8, 9, 10] [] [0, 1, 2, 3, 4, 5, 6, 7, 8, 9, 10] allT (by decide) prmT adrT (fun H locs hP hD hS => ?_)
          refine lv_goto (tgt := 176) hx hb dX3_perform_74 (by decide) ?_
          exact W.vret hx hb hr (wr_end rfl (congrArg (wT k q) ((show fX3_perform u = o15 from (by subst h_o15; exact (if_pos c_11).trans ((if_pos c_38).trans ((if_neg c_59).trans ((if_pos c_65).trans rfl))))).symm.trans ho)) hP hS) hS.2.2 dX3_perform_176
    · refine lv_iload_n hx hb dX3_perform_41 rfl (lv_at hl 0 rfl) ?_
      refine lv_bipush (v := (7 : Int32)) hx hb dX3_perform_42 (by decide) ?_
      refine lv_icmp_gt (tgt := 56) hx hb dX3_perform_44 (by decide) (fun c_44 => ?_) (fun c_44 => ?_)
      · refine lv_iload_n hx hb dX3_perform_56 rfl (lv_at hl 0 rfl) ?_
        refine lv_bipush (v := (8 : Int32)) hx hb dX3_perform_57 (by decide) ?_
        refine lv_icmp_eq (tgt := 68) hx hb dX3_perform_59 (by decide) (fun c_59 => ?_) (fun c_59 => ?_)
        · refine lv_aload_n hx hb dX3_perform_68 rfl (lv_at hl 3 rfl) ?_
          refine lv_iload_n hx hb dX3_perform_69 rfl (lv_at hl 0 rfl) ?_
          refine lv_iload_n hx hb dX3_perform_70 rfl (lv_at hl 1 rfl) ?_
          obtain ⟨o16, h_o16⟩ : ∃ o9, (fX3_loadWord u (iu (u.1 (ix (fX3_find u u.2.2.2.2.1 (0 : Int32)))) (24 : Int32)) (u.1 (ix (fX3_find u u.2.2.2.2.1 (0 : Int32))))) = o9 := ⟨_, rfl⟩
          refine wr_call (r := none) (ws' := wT k q o16) (W.runV (C := RX3) (b := (q 0)) (As := [.int (iu (u.1 (ix (fX3_find u u.2.2.2.2.1 (0 : Int32)))) (24 : Int32)), .int (u.1 (ix (fX3_find u u.2.2.2.2.1 (0 : Int32))))]) (rest := []) ⟨hx, hb, hml, hown, hts⟩ (kX3_loadWord l D k q u (iu (u.1 (ix (fX3_find u u.2.2.2.2.1 (0 : Int32)))) (24 : Int32)) (u.1 (ix (fX3_find u u.2.2.2.2.1 (0 : Int32)))) o16 h_o16) (cwV 2 hts gX3_perform_X3_loadWord rfl rfl rfl (by decide +kernel) ⟨Nat.le_of_ble_eq_true rfl, Nat.le_of_ble_eq_true rfl⟩) (wr_preV bl_N (pr_N hX.1) hK hP hD (va_recv hK hP (ci := 2) (q0 := 0) rfl rfl)) rfl rfl hl.1 rfl (lv_room (Nat.le_of_ble_eq_true rfl)) dX3_perform_71 ⟨Nat.zero_le _, Nat.zero_le _⟩) hP hD hS [0, 1, 2, 3, 4, 5, 6, 7, 8, 9, 10] [] [0, 1, 2, 3, 4, 5, 6, 7, 8, 9, 10] allT (by decide) prmT adrT (fun H locs hP hD hS => ?_)
          refine lv_goto (tgt := 176) hx hb dX3_perform_74 (by decide) ?_
          exact W.vret hx hb hr (wr_end rfl (congrArg (wT k q) ((show fX3_perform u = o16 from (by subst h_o16; exact (if_pos c_11).trans ((if_neg c_38).trans ((if_pos c_44).trans ((if_pos c_59).trans rfl))))).symm.trans ho)) hP hS) hS.2.2 dX3_perform_176
        · refine lv_iload_n hx hb dX3_perform_62 rfl (lv_at hl 0 rfl) ?_
          refine lv_bipush (v := (10 : Int32)) hx hb dX3_perform_63 (by decide) ?_
          refine lv_icmp_ne (tgt := 77) hx hb dX3_perform_65 (by decide) (fun c_65 => ?_) (fun c_65 => ?_)
          · refine lv_iload_n hx hb dX3_perform_77 rfl (lv_at hl 0 rfl) ?_
            refine lv_bipush (v := (9 : Int32)) hx hb dX3_perform_78 (by decide) ?_
            refine lv_icmp_eq (tgt := 89) hx hb dX3_perform_80 (by decide) (fun c_80 => ?_) (fun c_80 => ?_)
            · refine lv_aload_n hx hb dX3_perform_89 rfl (lv_at hl 3 rfl) ?_
              refine lv_iload_n hx hb dX3_perform_90 rfl (lv_at hl 0 rfl) ?_
              refine lv_iload_n hx hb dX3_perform_91 rfl (lv_at hl 1 rfl) ?_
              obtain ⟨o17, h_o17⟩ : ∃ o9, (fX3_storeWord u (iu (u.1 (ix (fX3_find u u.2.2.2.2.1 (0 : Int32)))) (24 : Int32)) (u.1 (ix (fX3_find u u.2.2.2.2.1 (0 : Int32))))) = o9 := ⟨_, rfl⟩
              refine wr_call (r := none) (ws' := wT k q o17) (W.runV (C := RX3) (b := (q 0)) (As := [.int (iu (u.1 (ix (fX3_find u u.2.2.2.2.1 (0 : Int32)))) (24 : Int32)), .int (u.1 (ix (fX3_find u u.2.2.2.2.1 (0 : Int32))))]) (rest := []) ⟨hx, hb, hml, hown, hts⟩ (kX3_storeWord l D k q u (iu (u.1 (ix (fX3_find u u.2.2.2.2.1 (0 : Int32)))) (24 : Int32)) (u.1 (ix (fX3_find u u.2.2.2.2.1 (0 : Int32)))) o17 h_o17) (cwV 2 hts gX3_perform_X3_storeWord rfl rfl rfl (by decide +kernel) ⟨Nat.le_of_ble_eq_true rfl, Nat.le_of_ble_eq_true rfl⟩) (wr_preV bl_N (pr_N hX.1) hK hP hD (va_recv hK hP (ci := 2) (q0 := 0) rfl rfl)) rfl rfl hl.1 rfl (lv_room (Nat.le_of_ble_eq_true rfl)) dX3_perform_92 ⟨Nat.zero_le _, Nat.zero_le _⟩) hP hD hS [0, 1, 2, 3, 4, 5, 6, 7, 8, 9, 10] [] [0, 1, 2, 3, 4, 5, 6, 7, 8, 9, 10] allT (by decide) prmT adrT (fun H locs hP hD hS => ?_)
              refine lv_goto (tgt := 176) hx hb dX3_perform_95 (by decide) ?_
              exact W.vret hx hb hr (wr_end rfl (congrArg (wT k q) ((show fX3_perform u = o17 from (by subst h_o17; exact (if_pos c_11).trans ((if_neg c_38).trans ((if_pos c_44).trans ((if_neg c_59).trans ((if_neg c_65).trans ((if_pos c_80).trans rfl))))))).symm.trans ho)) hP hS) hS.2.2 dX3_perform_176
            · refine lv_iload_n hx hb dX3_perform_83 rfl (lv_at hl 0 rfl) ?_
              refine lv_bipush (v := (11 : Int32)) hx hb dX3_perform_84 (by decide) ?_
              refine lv_icmp_ne (tgt := 98) hx hb dX3_perform_86 (by decide) (fun c_86 => ?_) (fun c_86 => ?_)
              · refine lv_iload_n hx hb dX3_perform_98 rfl (lv_at hl 0 rfl) ?_
                refine lv_bipush (v := (12 : Int32)) hx hb dX3_perform_99 (by decide) ?_
                refine lv_icmp_lt (tgt := 119) hx hb dX3_perform_101 (by decide) (fun c_101 => ?_) (fun c_101 => ?_)
                · refine lv_iload_n hx hb dX3_perform_119 rfl (lv_at hl 0 rfl) ?_
                  refine lv_bipush (v := (16 : Int32)) hx hb dX3_perform_120 (by decide) ?_
                  refine lv_icmp_ne (tgt := 134) hx hb dX3_perform_122 (by decide) (fun c_122 => ?_) (fun c_122 => ?_)
                  · refine lv_iload_n hx hb dX3_perform_134 rfl (lv_at hl 0 rfl) ?_
                    refine lv_bipush (v := (17 : Int32)) hx hb dX3_perform_135 (by decide) ?_
                    refine lv_icmp_ne (tgt := 149) hx hb dX3_perform_137 (by decide) (fun c_137 => ?_) (fun c_137 => ?_)
                    · refine lv_iload_n hx hb dX3_perform_149 rfl (lv_at hl 0 rfl) ?_
                      refine lv_bipush (v := (18 : Int32)) hx hb dX3_perform_150 (by decide) ?_
                      refine lv_icmp_lt (tgt := 170) hx hb dX3_perform_152 (by decide) (fun c_152 => ?_) (fun c_152 => ?_)
                      · refine lv_aload_n hx hb dX3_perform_170 rfl (lv_at hl 3 rfl) ?_
                        refine lv_bipush (v := (13 : Int32)) hx hb dX3_perform_171 (by decide) ?_
                        obtain ⟨o18, h_o18⟩ : ∃ o9, (fX3_raise u (13 : Int32)) = o9 := ⟨_, rfl⟩
                        refine wr_call (r := none) (ws' := wT k q o18) (W.runV (C := RX3) (b := (q 0)) (As := [.int (13 : Int32)]) (rest := []) ⟨hx, hb, hml, hown, hts⟩ (kX3_raise l D k q u (13 : Int32) o18 h_o18) (cwV 1 hts gX3_perform_X3_raise rfl rfl rfl (by decide +kernel) ⟨Nat.le_of_ble_eq_true rfl, Nat.le_of_ble_eq_true rfl⟩) (wr_preV bl_N (pr_N hX.1) hK hP hD (va_recv hK hP (ci := 2) (q0 := 0) rfl rfl)) rfl rfl hl.1 rfl (lv_room (Nat.le_of_ble_eq_true rfl)) dX3_perform_173 ⟨Nat.zero_le _, Nat.zero_le _⟩) hP hD hS [0, 1, 2, 3, 4, 5, 6, 7, 8, 9, 10] [] [0, 1, 2, 3, 4, 5, 6, 7, 8, 9, 10] allT (by decide) prmT adrT (fun H locs hP hD hS => ?_)
                        exact W.vret hx hb hr (wr_end rfl (congrArg (wT k q) ((show fX3_perform u = o18 from (by subst h_o18; exact (if_pos c_11).trans ((if_neg c_38).trans ((if_pos c_44).trans ((if_neg c_59).trans ((if_neg c_65).trans ((if_neg c_80).trans ((if_neg c_86).trans ((if_pos c_101).trans ((if_neg c_122).trans ((if_neg c_137).trans ((if_pos c_152).trans rfl)))))))))))).symm.trans ho)) hP hS) hS.2.2 dX3_perform_176
                      · refine lv_iload_n hx hb dX3_perform_155 rfl (lv_at hl 0 rfl) ?_
                        refine lv_bipush (v := (27 : Int32)) hx hb dX3_perform_156 (by decide) ?_
                        refine lv_icmp_gt (tgt := 170) hx hb dX3_perform_158 (by decide) (fun c_158 => ?_) (fun c_158 => ?_)
                        · refine lv_aload_n hx hb dX3_perform_170 rfl (lv_at hl 3 rfl) ?_
                          refine lv_bipush (v := (13 : Int32)) hx hb dX3_perform_171 (by decide) ?_
                          obtain ⟨o19, h_o19⟩ : ∃ o9, (fX3_raise u (13 : Int32)) = o9 := ⟨_, rfl⟩
                          refine wr_call (r := none) (ws' := wT k q o19) (W.runV (C := RX3) (b := (q 0)) (As := [.int (13 : Int32)]) (rest := []) ⟨hx, hb, hml, hown, hts⟩ (kX3_raise l D k q u (13 : Int32) o19 h_o19) (cwV 1 hts gX3_perform_X3_raise rfl rfl rfl (by decide +kernel) ⟨Nat.le_of_ble_eq_true rfl, Nat.le_of_ble_eq_true rfl⟩) (wr_preV bl_N (pr_N hX.1) hK hP hD (va_recv hK hP (ci := 2) (q0 := 0) rfl rfl)) rfl rfl hl.1 rfl (lv_room (Nat.le_of_ble_eq_true rfl)) dX3_perform_173 ⟨Nat.zero_le _, Nat.zero_le _⟩) hP hD hS [0, 1, 2, 3, 4, 5, 6, 7, 8, 9, 10] [] [0, 1, 2, 3, 4, 5, 6, 7, 8, 9, 10] allT (by decide) prmT adrT (fun H locs hP hD hS => ?_)
                          exact W.vret hx hb hr (wr_end rfl (congrArg (wT k q) ((show fX3_perform u = o19 from (by subst h_o19; exact (if_pos c_11).trans ((if_neg c_38).trans ((if_pos c_44).trans ((if_neg c_59).trans ((if_neg c_65).trans ((if_neg c_80).trans ((if_neg c_86).trans ((if_pos c_101).trans ((if_neg c_122).trans ((if_neg c_137).trans ((if_neg c_152).trans ((if_pos c_158).trans rfl))))))))))))).symm.trans ho)) hP hS) hS.2.2 dX3_perform_176
                        · refine lv_aload_n hx hb dX3_perform_161 rfl (lv_at hl 3 rfl) ?_
                          refine lv_iload_n hx hb dX3_perform_162 rfl (lv_at hl 0 rfl) ?_
                          refine lv_iload_n hx hb dX3_perform_163 rfl (lv_at hl 1 rfl) ?_
                          obtain ⟨o20, h_o20⟩ : ∃ o9, (fX3_performPrivileged u (iu (u.1 (ix (fX3_find u u.2.2.2.2.1 (0 : Int32)))) (24 : Int32)) (u.1 (ix (fX3_find u u.2.2.2.2.1 (0 : Int32))))) = o9 := ⟨_, rfl⟩
                          refine wr_call (r := none) (ws' := wT k q o20) (W.runV (C := RX3) (b := (q 0)) (As := [.int (iu (u.1 (ix (fX3_find u u.2.2.2.2.1 (0 : Int32)))) (24 : Int32)), .int (u.1 (ix (fX3_find u u.2.2.2.2.1 (0 : Int32))))]) (rest := []) ⟨hx, hb, hml, hown, hts⟩ (kX3_performPrivileged l D k q u tC tL (iu (u.1 (ix (fX3_find u u.2.2.2.2.1 (0 : Int32)))) (24 : Int32)) (u.1 (ix (fX3_find u u.2.2.2.2.1 (0 : Int32)))) hn o20 h_o20) (cwV 2 hts gX3_perform_X3_performPrivileged rfl rfl rfl (by decide +kernel) ⟨Nat.le_of_ble_eq_true rfl, Nat.le_of_ble_eq_true rfl⟩) (wr_preV bl_NS (pr_NS (ws := wT k q u) hX.1 hX.2 hS (in_adr adrT)) hK hP hD (va_recv hK hP (ci := 2) (q0 := 0) rfl rfl)) rfl rfl hl.1 rfl (lv_room (Nat.le_of_ble_eq_true rfl)) dX3_perform_164 ⟨Nat.zero_le _, Nat.zero_le _⟩) hP hD hS [0, 1, 2, 3, 4, 5, 6, 7, 8, 9, 10] [] [0, 1, 2, 3, 4, 5, 6, 7, 8, 9, 10] allT (by decide) prmT adrT (fun H locs hP hD hS => ?_)
                          refine lv_goto (tgt := 176) hx hb dX3_perform_167 (by decide) ?_
                          exact W.vret hx hb hr (wr_end rfl (congrArg (wT k q) ((show fX3_perform u = o20 from (by subst h_o20; exact (if_pos c_11).trans ((if_neg c_38).trans ((if_pos c_44).trans ((if_neg c_59).trans ((if_neg c_65).trans ((if_neg c_80).trans ((if_neg c_86).trans ((if_pos c_101).trans ((if_neg c_122).trans ((if_neg c_137).trans ((if_neg c_152).trans ((if_neg c_158).trans rfl))))))))))))).symm.trans ho)) hP hS) hS.2.2 dX3_perform_176
                    · refine lv_aload_n hx hb dX3_perform_140 rfl (lv_at hl 3 rfl) ?_
                      refine lv_bipush (v := (12 : Int32)) hx hb dX3_perform_141 (by decide) ?_
                      obtain ⟨o21, h_o21⟩ : ∃ o9, (fX3_raise u (12 : Int32)) = o9 := ⟨_, rfl⟩
                      refine wr_call (r := none) (ws' := wT k q o21) (W.runV (C := RX3) (b := (q 0)) (As := [.int (12 : Int32)]) (rest := []) ⟨hx, hb, hml, hown, hts⟩ (kX3_raise l D k q u (12 : Int32) o21 h_o21) (cwV 1 hts gX3_perform_X3_raise rfl rfl rfl (by decide +kernel) ⟨Nat.le_of_ble_eq_true rfl, Nat.le_of_ble_eq_true rfl⟩) (wr_preV bl_N (pr_N hX.1) hK hP hD (va_recv hK hP (ci := 2) (q0 := 0) rfl rfl)) rfl rfl hl.1 rfl (lv_room (Nat.le_of_ble_eq_true rfl)) dX3_perform_143 ⟨Nat.zero_le _, Nat.zero_le _⟩) hP hD hS [0, 1, 2, 3, 4, 5, 6, 7, 8, 9, 10] [] [0, 1, 2, 3, 4, 5, 6, 7, 8, 9, 10] allT (by decide) prmT adrT (fun H locs hP hD hS => ?_)
                      refine lv_goto (tgt := 176) hx hb dX3_perform_146 (by decide) ?_
                      exact W.vret hx hb hr (wr_end rfl (congrArg (wT k q) ((show fX3_perform u = o21 from (by subst h_o21; exact (if_pos c_11).trans ((if_neg c_38).trans ((if_pos c_44).trans ((if_neg c_59).trans ((if_neg c_65).trans ((if_neg c_80).trans ((if_neg c_86).trans ((if_pos c_101).trans ((if_neg c_122).trans ((if_pos c_137).trans rfl))))))))))).symm.trans ho)) hP hS) hS.2.2 dX3_perform_176
                  · refine lv_aload_n hx hb dX3_perform_125 rfl (lv_at hl 3 rfl) ?_
                    refine lv_bipush (v := (11 : Int32)) hx hb dX3_perform_126 (by decide) ?_
                    obtain ⟨o22, h_o22⟩ : ∃ o9, (fX3_raise u (11 : Int32)) = o9 := ⟨_, rfl⟩
                    refine wr_call (r := none) (ws' := wT k q o22) (W.runV (C := RX3) (b := (q 0)) (As := [.int (11 : Int32)]) (rest := []) ⟨hx, hb, hml, hown, hts⟩ (kX3_raise l D k q u (11 : Int32) o22 h_o22) (cwV 1 hts gX3_perform_X3_raise rfl rfl rfl (by decide +kernel) ⟨Nat.le_of_ble_eq_true rfl, Nat.le_of_ble_eq_true rfl⟩) (wr_preV bl_N (pr_N hX.1) hK hP hD (va_recv hK hP (ci := 2) (q0 := 0) rfl rfl)) rfl rfl hl.1 rfl (lv_room (Nat.le_of_ble_eq_true rfl)) dX3_perform_128 ⟨Nat.zero_le _, Nat.zero_le _⟩) hP hD hS [0, 1, 2, 3, 4, 5, 6, 7, 8, 9, 10] [] [0, 1, 2, 3, 4, 5, 6, 7, 8, 9, 10] allT (by decide) prmT adrT (fun H locs hP hD hS => ?_)
                    refine lv_goto (tgt := 176) hx hb dX3_perform_131 (by decide) ?_
                    exact W.vret hx hb hr (wr_end rfl (congrArg (wT k q) ((show fX3_perform u = o22 from (by subst h_o22; exact (if_pos c_11).trans ((if_neg c_38).trans ((if_pos c_44).trans ((if_neg c_59).trans ((if_neg c_65).trans ((if_neg c_80).trans ((if_neg c_86).trans ((if_pos c_101).trans ((if_pos c_122).trans rfl)))))))))).symm.trans ho)) hP hS) hS.2.2 dX3_perform_176
                · refine lv_iload_n hx hb dX3_perform_104 rfl (lv_at hl 0 rfl) ?_
                  refine lv_bipush (v := (15 : Int32)) hx hb dX3_perform_105 (by decide) ?_
                  refine lv_icmp_gt (tgt := 119) hx hb dX3_perform_107 (by decide) (fun c_107 => ?_) (fun c_107 => ?_)
                  · refine lv_iload_n hx hb dX3_perform_119 rfl (lv_at hl 0 rfl) ?_
                    refine lv_bipush (v := (16 : Int32)) hx hb dX3_perform_120 (by decide) ?_
                    refine lv_icmp_ne (tgt := 134) hx hb dX3_perform_122 (by decide) (fun c_122 => ?_) (fun c_122 => ?_)
                    · refine lv_iload_n hx hb dX3_perform_134 rfl (lv_at hl 0 rfl) ?_
                      refine lv_bipush (v := (17 : Int32)) hx hb dX3_perform_135 (by decide) ?_
                      refine lv_icmp_ne (tgt := 149) hx hb dX3_perform_137 (by decide) (fun c_137 => ?_) (fun c_137 => ?_)
                      · refine lv_iload_n hx hb dX3_perform_149 rfl (lv_at hl 0 rfl) ?_
                        refine lv_bipush (v := (18 : Int32)) hx hb dX3_perform_150 (by decide) ?_
                        refine lv_icmp_lt (tgt := 170) hx hb dX3_perform_152 (by decide) (fun c_152 => ?_) (fun c_152 => ?_)
                        · refine lv_aload_n hx hb dX3_perform_170 rfl (lv_at hl 3 rfl) ?_
                          refine lv_bipush (v := (13 : Int32)) hx hb dX3_perform_171 (by decide) ?_
                          obtain ⟨o23, h_o23⟩ : ∃ o9, (fX3_raise u (13 : Int32)) = o9 := ⟨_, rfl⟩
                          refine wr_call (r := none) (ws' := wT k q o23) (W.runV (C := RX3) (b := (q 0)) (As := [.int (13 : Int32)]) (rest := []) ⟨hx, hb, hml, hown, hts⟩ (kX3_raise l D k q u (13 : Int32) o23 h_o23) (cwV 1 hts gX3_perform_X3_raise rfl rfl rfl (by decide +kernel) ⟨Nat.le_of_ble_eq_true rfl, Nat.le_of_ble_eq_true rfl⟩) (wr_preV bl_N (pr_N hX.1) hK hP hD (va_recv hK hP (ci := 2) (q0 := 0) rfl rfl)) rfl rfl hl.1 rfl (lv_room (Nat.le_of_ble_eq_true rfl)) dX3_perform_173 ⟨Nat.zero_le _, Nat.zero_le _⟩) hP hD hS [0, 1, 2, 3, 4, 5, 6, 7, 8, 9, 10] [] [0, 1, 2, 3, 4, 5, 6, 7, 8, 9, 10] allT (by decide) prmT adrT (fun H locs hP hD hS => ?_)
                          exact W.vret hx hb hr (wr_end rfl (congrArg (wT k q) ((show fX3_perform u = o23 from (by subst h_o23; exact (if_pos c_11).trans ((if_neg c_38).trans ((if_pos c_44).trans ((if_neg c_59).trans ((if_neg c_65).trans ((if_neg c_80).trans ((if_neg c_86).trans ((if_neg c_101).trans ((if_pos c_107).trans ((if_neg c_122).trans ((if_neg c_137).trans ((if_pos c_152).trans rfl))))))))))))).symm.trans ho)) hP hS) hS.2.2 dX3_perform_176
                        · refine lv_iload_n hx hb dX3_perform_155 rfl (lv_at hl 0 rfl) ?_
                          refine lv_bipush (v := (27 : Int32)) hx hb dX3_perform_156 (by decide) ?_
                          refine lv_icmp_gt (tgt := 170) hx hb dX3_perform_158 (by decide) (fun c_158 => ?_) (fun c_158 => ?_)
                          · refine lv_aload_n hx hb dX3_perform_170 rfl (lv_at hl 3 rfl) ?_
                            refine lv_bipush (v := (13 : Int32)) hx hb dX3_perform_171 (by decide) ?_
                            obtain ⟨o24, h_o24⟩ : ∃ o9, (fX3_raise u (13 : Int32)) = o9 := ⟨_, rfl⟩
                            refine wr_call (r := none) (ws' := wT k q o24) (W.runV (C := RX3) (b := (q 0)) (As := [.int (13 : Int32)]) (rest := []) ⟨hx, hb, hml, hown, hts⟩ (kX3_raise l D k q u (13 : Int32) o24 h_o24) (cwV 1 hts gX3_perform_X3_raise rfl rfl rfl (by decide +kernel) ⟨Nat.le_of_ble_eq_true rfl, Nat.le_of_ble_eq_true rfl⟩) (wr_preV bl_N (pr_N hX.1) hK hP hD (va_recv hK hP (ci := 2) (q0 := 0) rfl rfl)) rfl rfl hl.1 rfl (lv_room (Nat.le_of_ble_eq_true rfl)) dX3_perform_173 ⟨Nat.zero_le _, Nat.zero_le _⟩) hP hD hS [0, 1, 2, 3, 4, 5, 6, 7, 8, 9, 10] [] [0, 1, 2, 3, 4, 5, 6, 7, 8, 9, 10] allT (by decide) prmT adrT (fun H locs hP hD hS => ?_)
                            exact W.vret hx hb hr (wr_end rfl (congrArg (wT k q) ((show fX3_perform u = o24 from (by subst h_o24; exact (if_pos c_11).trans ((if_neg c_38).trans ((if_pos c_44).trans ((if_neg c_59).trans ((if_neg c_65).trans ((if_neg c_80).trans ((if_neg c_86).trans ((if_neg c_101).trans ((if_pos c_107).trans ((if_neg c_122).trans ((if_neg c_137).trans ((if_neg c_152).trans ((if_pos c_158).trans rfl)))))))))))))).symm.trans ho)) hP hS) hS.2.2 dX3_perform_176
                          · refine lv_aload_n hx hb dX3_perform_161 rfl (lv_at hl 3 rfl) ?_
                            refine lv_iload_n hx hb dX3_perform_162 rfl (lv_at hl 0 rfl) ?_
                            refine lv_iload_n hx hb dX3_perform_163 rfl (lv_at hl 1 rfl) ?_
                            obtain ⟨o25, h_o25⟩ : ∃ o9, (fX3_performPrivileged u (iu (u.1 (ix (fX3_find u u.2.2.2.2.1 (0 : Int32)))) (24 : Int32)) (u.1 (ix (fX3_find u u.2.2.2.2.1 (0 : Int32))))) = o9 := ⟨_, rfl⟩
                            refine wr_call (r := none) (ws' := wT k q o25) (W.runV (C := RX3) (b := (q 0)) (As := [.int (iu (u.1 (ix (fX3_find u u.2.2.2.2.1 (0 : Int32)))) (24 : Int32)), .int (u.1 (ix (fX3_find u u.2.2.2.2.1 (0 : Int32))))]) (rest := []) ⟨hx, hb, hml, hown, hts⟩ (kX3_performPrivileged l D k q u tC tL (iu (u.1 (ix (fX3_find u u.2.2.2.2.1 (0 : Int32)))) (24 : Int32)) (u.1 (ix (fX3_find u u.2.2.2.2.1 (0 : Int32)))) hn o25 h_o25) (cwV 2 hts gX3_perform_X3_performPrivileged rfl rfl rfl (by decide +kernel) ⟨Nat.le_of_ble_eq_true rfl, Nat.le_of_ble_eq_true rfl⟩) (wr_preV bl_NS (pr_NS (ws := wT k q u) hX.1 hX.2 hS (in_adr adrT)) hK hP hD (va_recv hK hP (ci := 2) (q0 := 0) rfl rfl)) rfl rfl hl.1 rfl (lv_room (Nat.le_of_ble_eq_true rfl)) dX3_perform_164 ⟨Nat.zero_le _, Nat.zero_le _⟩) hP hD hS [0, 1, 2, 3, 4, 5, 6, 7, 8, 9, 10] [] [0, 1, 2, 3, 4, 5, 6, 7, 8, 9, 10] allT (by decide) prmT adrT (fun H locs hP hD hS => ?_)
                            refine lv_goto (tgt := 176) hx hb dX3_perform_167 (by decide) ?_
                            exact W.vret hx hb hr (wr_end rfl (congrArg (wT k q) ((show fX3_perform u = o25 from (by subst h_o25; exact (if_pos c_11).trans ((if_neg c_38).trans ((if_pos c_44).trans ((if_neg c_59).trans ((if_neg c_65).trans ((if_neg c_80).trans ((if_neg c_86).trans ((if_neg c_101).trans ((if_pos c_107).trans ((if_neg c_122).trans ((if_neg c_137).trans ((if_neg c_152).trans ((if_neg c_158).trans rfl)))))))))))))).symm.trans ho)) hP hS) hS.2.2 dX3_perform_176
                      · refine lv_aload_n hx hb dX3_perform_140 rfl (lv_at hl 3 rfl) ?_
                        refine lv_bipush (v := (12 : Int32)) hx hb dX3_perform_141 (by decide) ?_
                        obtain ⟨o26, h_o26⟩ : ∃ o9, (fX3_raise u (12 : Int32)) = o9 := ⟨_, rfl⟩
                        refine wr_call (r := none) (ws' := wT k q o26) (W.runV (C := RX3) (b := (q 0)) (As := [.int (12 : Int32)]) (rest := []) ⟨hx, hb, hml, hown, hts⟩ (kX3_raise l D k q u (12 : Int32) o26 h_o26) (cwV 1 hts gX3_perform_X3_raise rfl rfl rfl (by decide +kernel) ⟨Nat.le_of_ble_eq_true rfl, Nat.le_of_ble_eq_true rfl⟩) (wr_preV bl_N (pr_N hX.1) hK hP hD (va_recv hK hP (ci := 2) (q0 := 0) rfl rfl)) rfl rfl hl.1 rfl (lv_room (Nat.le_of_ble_eq_true rfl)) dX3_perform_143 ⟨Nat.zero_le _, Nat.zero_le _⟩) hP hD hS [0, 1, 2, 3, 4, 5, 6, 7, 8, 9, 10] [] [0, 1, 2, 3, 4, 5, 6, 7, 8, 9, 10] allT (by decide) prmT adrT (fun H locs hP hD hS => ?_)
                        refine lv_goto (tgt := 176) hx hb dX3_perform_146 (by decide) ?_
                        exact W.vret hx hb hr (wr_end rfl (congrArg (wT k q) ((show fX3_perform u = o26 from (by subst h_o26; exact (if_pos c_11).trans ((if_neg c_38).trans ((if_pos c_44).trans ((if_neg c_59).trans ((if_neg c_65).trans ((if_neg c_80).trans ((if_neg c_86).trans ((if_neg c_101).trans ((if_pos c_107).trans ((if_neg c_122).trans ((if_pos c_137).trans rfl)))))))))))).symm.trans ho)) hP hS) hS.2.2 dX3_perform_176
                    · refine lv_aload_n hx hb dX3_perform_125 rfl (lv_at hl 3 rfl) ?_
                      refine lv_bipush (v := (11 : Int32)) hx hb dX3_perform_126 (by decide) ?_
                      obtain ⟨o27, h_o27⟩ : ∃ o9, (fX3_raise u (11 : Int32)) = o9 := ⟨_, rfl⟩
                      refine wr_call (r := none) (ws' := wT k q o27) (W.runV (C := RX3) (b := (q 0)) (As := [.int (11 : Int32)]) (rest := []) ⟨hx, hb, hml, hown, hts⟩ (kX3_raise l D k q u (11 : Int32) o27 h_o27) (cwV 1 hts gX3_perform_X3_raise rfl rfl rfl (by decide +kernel) ⟨Nat.le_of_ble_eq_true rfl, Nat.le_of_ble_eq_true rfl⟩) (wr_preV bl_N (pr_N hX.1) hK hP hD (va_recv hK hP (ci := 2) (q0 := 0) rfl rfl)) rfl rfl hl.1 rfl (lv_room (Nat.le_of_ble_eq_true rfl)) dX3_perform_128 ⟨Nat.zero_le _, Nat.zero_le _⟩) hP hD hS [0, 1, 2, 3, 4, 5, 6, 7, 8, 9, 10] [] [0, 1, 2, 3, 4, 5, 6, 7, 8, 9, 10] allT (by decide) prmT adrT (fun H locs hP hD hS => ?_)
                      refine lv_goto (tgt := 176) hx hb dX3_perform_131 (by decide) ?_
                      exact W.vret hx hb hr (wr_end rfl (congrArg (wT k q) ((show fX3_perform u = o27 from (by subst h_o27; exact (if_pos c_11).trans ((if_neg c_38).trans ((if_pos c_44).trans ((if_neg c_59).trans ((if_neg c_65).trans ((if_neg c_80).trans ((if_neg c_86).trans ((if_neg c_101).trans ((if_pos c_107).trans ((if_pos c_122).trans rfl))))))))))).symm.trans ho)) hP hS) hS.2.2 dX3_perform_176
                  · refine lv_aload_n hx hb dX3_perform_110 rfl (lv_at hl 3 rfl) ?_
                    refine lv_iload_n hx hb dX3_perform_111 rfl (lv_at hl 0 rfl) ?_
                    refine lv_iload_n hx hb dX3_perform_112 rfl (lv_at hl 1 rfl) ?_
                    obtain ⟨o28, h_o28⟩ : ∃ o9, (fX3_branch u (iu (u.1 (ix (fX3_find u u.2.2.2.2.1 (0 : Int32)))) (24 : Int32)) (u.1 (ix (fX3_find u u.2.2.2.2.1 (0 : Int32))))) = o9 := ⟨_, rfl⟩
                    refine wr_call (r := none) (ws' := wT k q o28) (W.runV (C := RX3) (b := (q 0)) (As := [.int (iu (u.1 (ix (fX3_find u u.2.2.2.2.1 (0 : Int32)))) (24 : Int32)), .int (u.1 (ix (fX3_find u u.2.2.2.2.1 (0 : Int32))))]) (rest := []) ⟨hx, hb, hml, hown, hts⟩ (kX3_branch l D k q u (iu (u.1 (ix (fX3_find u u.2.2.2.2.1 (0 : Int32)))) (24 : Int32)) (u.1 (ix (fX3_find u u.2.2.2.2.1 (0 : Int32)))) o28 h_o28) (cwV 2 hts gX3_perform_X3_branch rfl rfl rfl (by decide +kernel) ⟨Nat.le_of_ble_eq_true rfl, Nat.le_of_ble_eq_true rfl⟩) (wr_preV bl_T pr_T hK hP hD (va_recv hK hP (ci := 2) (q0 := 0) rfl rfl)) rfl rfl hl.1 rfl (lv_room (Nat.le_of_ble_eq_true rfl)) dX3_perform_113 ⟨Nat.zero_le _, Nat.zero_le _⟩) hP hD hS [0, 1, 2, 3, 4, 5, 6, 7, 8, 9, 10] [] [0, 1, 2, 3, 4, 5, 6, 7, 8, 9, 10] allT (by decide) prmT adrT (fun H locs hP hD hS => ?_)
                    refine lv_goto (tgt := 176) hx hb dX3_perform_116 (by decide) ?_
                    exact W.vret hx hb hr (wr_end rfl (congrArg (wT k q) ((show fX3_perform u = o28 from (by subst h_o28; exact (if_pos c_11).trans ((if_neg c_38).trans ((if_pos c_44).trans ((if_neg c_59).trans ((if_neg c_65).trans ((if_neg c_80).trans ((if_neg c_86).trans ((if_neg c_101).trans ((if_neg c_107).trans rfl)))))))))).symm.trans ho)) hP hS) hS.2.2 dX3_perform_176
              · refine lv_aload_n hx hb dX3_perform_89 rfl (lv_at hl 3 rfl) ?_
                refine lv_iload_n hx hb dX3_perform_90 rfl (lv_at hl 0 rfl) ?_
                refine lv_iload_n hx hb dX3_perform_91 rfl (lv_at hl 1 rfl) ?_
                obtain ⟨o29, h_o29⟩ : ∃ o9, (fX3_storeWord u (iu (u.1 (ix (fX3_find u u.2.2.2.2.1 (0 : Int32)))) (24 : Int32)) (u.1 (ix (fX3_find u u.2.2.2.2.1 (0 : Int32))))) = o9 := ⟨_, rfl⟩
                refine wr_call (r := none) (ws' := wT k q o29) (W.runV (C := RX3) (b := (q 0)) (As := [.int (iu (u.1 (ix (fX3_find u u.2.2.2.2.1 (0 : Int32)))) (24 : Int32)), .int (u.1 (ix (fX3_find u u.2.2.2.2.1 (0 : Int32))))]) (rest := []) ⟨hx, hb, hml, hown, hts⟩ (kX3_storeWord l D k q u (iu (u.1 (ix (fX3_find u u.2.2.2.2.1 (0 : Int32)))) (24 : Int32)) (u.1 (ix (fX3_find u u.2.2.2.2.1 (0 : Int32)))) o29 h_o29) (cwV 2 hts gX3_perform_X3_storeWord rfl rfl rfl (by decide +kernel) ⟨Nat.le_of_ble_eq_true rfl, Nat.le_of_ble_eq_true rfl⟩) (wr_preV bl_N (pr_N hX.1) hK hP hD (va_recv hK hP (ci := 2) (q0 := 0) rfl rfl)) rfl rfl hl.1 rfl (lv_room (Nat.le_of_ble_eq_true rfl)) dX3_perform_92 ⟨Nat.zero_le _, Nat.zero_le _⟩) hP hD hS [0, 1, 2, 3, 4, 5, 6, 7, 8, 9, 10] [] [0, 1, 2, 3, 4, 5, 6, 7, 8, 9, 10] allT (by decide) prmT adrT (fun H locs hP hD hS => ?_)
                refine lv_goto (tgt := 176) hx hb dX3_perform_95 (by decide) ?_
                exact W.vret hx hb hr (wr_end rfl (congrArg (wT k q) ((show fX3_perform u = o29 from (by subst h_o29; exact (if_pos c_11).trans ((if_neg c_38).trans ((if_pos c_44).trans ((if_neg c_59).trans ((if_neg c_65).trans ((if_neg c_80).trans ((if_pos c_86).trans rfl)))))))).symm.trans ho)) hP hS) hS.2.2 dX3_perform_176
          · refine lv_aload_n hx hb dX3_perform_68 rfl (lv_at hl 3 rfl) ?_
            refine lv_iload_n hx hb dX3_perform_69 rfl (lv_at hl 0 rfl) ?_
            refine lv_iload_n hx hb dX3_perform_70 rfl (lv_at hl 1 rfl) ?_
            obtain ⟨o30, h_o30⟩ : ∃ o9, (fX3_loadWord u (iu (u.1 (ix (fX3_find u u.2.2.2.2.1 (0 : Int32)))) (24 : Int32)) (u.1 (ix (fX3_find u u.2.2.2.2.1 (0 : Int32))))) = o9 := ⟨_, rfl⟩
            refine wr_call (r := none) (ws' := wT k q o30) (W.runV (C := RX3) (b := (q 0)) (As := [.int (iu (u.1 (ix (fX3_find u u.2.2.2.2.1 (0 : Int32)))) (24 : Int32)), .int (u.1 (ix (fX3_find u u.2.2.2.2.1 (0 : Int32))))]) (rest := []) ⟨hx, hb, hml, hown, hts⟩ (kX3_loadWord l D k q u (iu (u.1 (ix (fX3_find u u.2.2.2.2.1 (0 : Int32)))) (24 : Int32)) (u.1 (ix (fX3_find u u.2.2.2.2.1 (0 : Int32)))) o30 h_o30) (cwV 2 hts gX3_perform_X3_loadWord rfl rfl rfl (by decide +kernel) ⟨Nat.le_of_ble_eq_true rfl, Nat.le_of_ble_eq_true rfl⟩) (wr_preV bl_N (pr_N hX.1) hK hP hD (va_recv hK hP (ci := 2) (q0 := 0) rfl rfl)) rfl rfl hl.1 rfl (lv_room (Nat.le_of_ble_eq_true rfl)) dX3_perform_71 ⟨Nat.zero_le _, Nat.zero_le _⟩) hP hD hS [0, 1, 2, 3, 4, 5, 6, 7, 8, 9, 10] [] [0, 1, 2, 3, 4, 5, 6, 7, 8, 9, 10] allT (by decide) prmT adrT (fun H locs hP hD hS => ?_)
            refine lv_goto (tgt := 176) hx hb dX3_perform_74 (by decide) ?_
            exact W.vret hx hb hr (wr_end rfl (congrArg (wT k q) ((show fX3_perform u = o30 from (by subst h_o30; exact (if_pos c_11).trans ((if_neg c_38).trans ((if_pos c_44).trans ((if_neg c_59).trans ((if_pos c_65).trans rfl)))))).symm.trans ho)) hP hS) hS.2.2 dX3_perform_176
      · refine lv_aload_n hx hb dX3_perform_47 rfl (lv_at hl 3 rfl) ?_
        refine lv_iload_n hx hb dX3_perform_48 rfl (lv_at hl 0 rfl) ?_
        refine lv_iload_n hx hb dX3_perform_49 rfl (lv_at hl 1 rfl) ?_
        obtain ⟨o31, h_o31⟩ : ∃ o9, (fX3_calculate u (iu (u.1 (ix (fX3_find u u.2.2.2.2.1 (0 : Int32)))) (24 : Int32)) (u.1 (ix (fX3_find u u.2.2.2.2.1 (0 : Int32))))) = o9 := ⟨_, rfl⟩
        refine wr_call (r := none) (ws' := wT k q o31) (W.runV (C := RX3) (b := (q 0)) (As := [.int (iu (u.1 (ix (fX3_find u u.2.2.2.2.1 (0 : Int32)))) (24 : Int32)), .int (u.1 (ix (fX3_find u u.2.2.2.2.1 (0 : Int32))))]) (rest := []) ⟨hx, hb, hml, hown, hts⟩ (kX3_calculate l D k q u (iu (u.1 (ix (fX3_find u u.2.2.2.2.1 (0 : Int32)))) (24 : Int32)) (u.1 (ix (fX3_find u u.2.2.2.2.1 (0 : Int32)))) o31 h_o31) (cwV 2 hts gX3_perform_X3_calculate rfl rfl rfl (by decide +kernel) ⟨Nat.le_of_ble_eq_true rfl, Nat.le_of_ble_eq_true rfl⟩) (wr_preV bl_T pr_T hK hP hD (va_recv hK hP (ci := 2) (q0 := 0) rfl rfl)) rfl rfl hl.1 rfl (lv_room (Nat.le_of_ble_eq_true rfl)) dX3_perform_50 ⟨Nat.zero_le _, Nat.zero_le _⟩) hP hD hS [0, 1, 2, 3, 4, 5, 6, 7, 8, 9, 10] [] [0, 1, 2, 3, 4, 5, 6, 7, 8, 9, 10] allT (by decide) prmT adrT (fun H locs hP hD hS => ?_)
        refine lv_goto (tgt := 176) hx hb dX3_perform_53 (by decide) ?_
        exact W.vret hx hb hr (wr_end rfl (congrArg (wT k q) ((show fX3_perform u = o31 from (by subst h_o31; exact (if_pos c_11).trans ((if_neg c_38).trans ((if_neg c_44).trans rfl)))).symm.trans ho)) hP hS) hS.2.2 dX3_perform_176
  · refine lv_aload_n hx hb dX3_perform_14 rfl (lv_at hl 1 rfl) ?_
    refine lv_iload_n hx hb dX3_perform_15 rfl (lv_at hl 0 rfl) ?_
    refine lv_aload_n hx hb dX3_perform_16 rfl (lv_at hl 1 rfl) ?_
    refine va_get (D := D) (ci := 2) (v := .int u.2.2.2.2.1) (C := RX3) (T := TX3) (N := 9) hx hb hts (by decide +kernel) hown hK hP 0 rfl rfl 4 (by decide) (hts (.fieldLink RX3 54 "TrapMachine" "place" "I") (by decide +kernel)) (fun _ h9 => h9) rfl dX3_perform_17 ?_
    obtain ⟨o32, h_o32⟩ : ∃ o9, (fX3_fail u (fX3_find u u.2.2.2.2.1 (0 : Int32)) u.2.2.2.2.1) = o9 := ⟨_, rfl⟩
    refine wr_call (r := none) (ws' := wT k q o32) (W.runV (C := RX3) (b := (q 0)) (As := [.int (fX3_find u u.2.2.2.2.1 (0 : Int32)), .int u.2.2.2.2.1]) (rest := []) ⟨hx, hb, hml, hown, hts⟩ (kX3_fail l D k q u (fX3_find u u.2.2.2.2.1 (0 : Int32)) u.2.2.2.2.1 o32 h_o32) (cwV 2 hts gX3_perform_X3_fail rfl rfl rfl (by decide +kernel) ⟨Nat.le_of_ble_eq_true rfl, Nat.le_of_ble_eq_true rfl⟩) (wr_preV bl_N (pr_N hX.1) hK hP hD (va_recv hK hP (ci := 2) (q0 := 0) rfl rfl)) rfl rfl hl.1 rfl (lv_room (Nat.le_of_ble_eq_true rfl)) dX3_perform_20 ⟨Nat.zero_le _, Nat.zero_le _⟩) hP hD hS [0, 1, 2, 3, 4, 5, 6, 7, 8, 9, 10] [] [0, 1, 2, 3, 4, 5, 6, 7, 8, 9, 10] allT (by decide) prmT adrT (fun H locs hP hD hS => ?_)
    exact W.vret hx hb hr (wr_end rfl (congrArg (wT k q) ((show fX3_perform u = o32 from (by subst h_o32; exact (if_neg c_11).trans rfl)).symm.trans ho)) hP hS) hS.2.2 dX3_perform_23
def fX3_step (u : TM)  : TM :=
  if u.2.2.2.2.2.2.2.1 = (1 : Int32) then
    if (fX2_isAsked u.2.2.1) = (0 : Int32) then
      (ts2 u (fX2_tick u.2.2.1))
    else
      (ts2 (ts7 u (0 : Int32)) (fX2_tick u.2.2.1))
  else
    if (fX2_isEnabled u.2.2.1) = (0 : Int32) then
      if (fX3_perform u).2.2.2.2.2.2.2.1 = (2 : Int32) then
        (fX3_perform u)
      else
        (ts2 (fX3_perform u) (fX2_tick (fX3_perform u).2.2.1))
    else
      if (fX2_isAsked u.2.2.1) = (0 : Int32) then
        if (fX3_perform u).2.2.2.2.2.2.2.1 = (2 : Int32) then
          (fX3_perform u)
        else
          (ts2 (fX3_perform u) (fX2_tick (fX3_perform u).2.2.1))
      else
        if (fX3_raise u (0 : Int32)).2.2.2.2.2.2.2.1 = (2 : Int32) then
          (fX3_raise u (0 : Int32))
        else
          (ts2 (fX3_raise u (0 : Int32)) (fX2_tick (fX3_raise u (0 : Int32)).2.2.1))
set_option maxHeartbeats 4000000 in
set_option maxRecDepth 100000 in
theorem kX3_step (l : Launch) (D : va_G) (k : Nat → ClassId) (q : Nat → Nat) (u : TM) (tC tL : Nat)  (hn : vp_in u.2.2.2.2.2.2.1 4) (o : TM) (ho : fX3_step u = o) : Met l yX3_step wsX3_step { frames := 5, cells := 0, slots := 0, locals := 123 } (wr_P D vwCl (tyL k) (wT k q u) (fun U => NL U ∧ ST tC tL (in_W (wT k q u)) U U.heap) [.ref (q 0)]) (wr_Q D vwCl none (wT k q u) (wT k q o)) 0 0 (in_W (wT k q u)) := by
  refine Met.ofW (cc := cX3_step) (maxL := 1) (ret := none) (by decide) rfl ?_
  intro p e s m args below meth c s₁ B hml hv0
  obtain ⟨rfl, hP, hK, hX, hD0⟩ := hv0
  have hx := B.exec
  have hb := B.bytes
  have hr := B.returns
  have hts := atoms_spec (ws := wsX3_step) B.pre
  have hown : s.vm.findClass RX3 = some m.cls := findClass_of_methodNamed B.named
  have hlocks := B.notSynchronized
  have hD : va_D (in_W (wT k q u)) (wT k q u) := wD_self hD0
  have hS : va_S (in_W (wT k q u)) s.heap s.heap [] := va_S.rf
  have hT := hX.2
  have hl := lv_entry ([.ref (q 0)]) (n := 1) (Nat.le_of_ble_eq_true rfl)
  rw [lg_entry_eq]
  generalize (lg_sl ([.ref (q 0)]) ++ List.replicate (1 - (lg_sl ([.ref (q 0)])).length) Slot.unset).toArray = ls at hl ⊢
  have hl : lv_has ls 1 [(0, .ref (q 0))] := hl
  refine lv_aload_n hx hb dX3_step_0 rfl (lv_at hl 0 rfl) ?_
  refine va_get (D := D) (ci := 2) (v := .int u.2.2.2.2.2.2.2.1) (C := RX3) (T := TX3) (N := 9) hx hb hts (by decide +kernel) hown hK hP 0 rfl rfl 7 (by decide) (hts (.fieldLink RX3 30 "TrapMachine" "condition" "I") (by decide +kernel)) (fun _ h9 => h9) rfl dX3_step_1 ?_
  refine lv_iconst (v := (1 : Int32)) hx hb dX3_step_4 (by decide) ?_
  refine lv_icmp_ne (tgt := 26) hx hb dX3_step_5 (by decide) (fun c_5 => ?_) (fun c_5 => ?_)
  · refine lv_aload_n hx hb dX3_step_26 rfl (lv_at hl 0 rfl) ?_
    refine va_get (D := D) (ci := 2) (v := .ref (q 3)) (C := RX3) (T := TX3) (N := 9) hx hb hts (by decide +kernel) hown hK hP 0 rfl rfl 2 (by decide) (hts (.fieldLink RX3 19 "TrapMachine" "controls" "LTrapMachine$Controls;") (by decide +kernel)) (fun _ h9 => h9) rfl dX3_step_27 ?_
    refine rd_call (r := (fX2_isEnabled u.2.2.1)) (va_runVN (C := RX2) (b := (q 3)) (As := []) (rest := []) ⟨hx, hb, hml, hown, hts⟩ (kX2_isEnabled l D k (q 3) (q 4) u.2.2.1) ⟨va_cnB 0 hts gX3_step_X2_isEnabled_n89 rfl rfl rfl (hX.1.at 6 (q := (89, yX2_isEnabled)) rfl) (hts (.initialized RX2) (by decide +kernel)) (by decide +kernel) ⟨Nat.le_of_ble_eq_true rfl, Nat.le_of_ble_eq_true rfl⟩, (hts (.instanceMethod yX2_isEnabled) (by decide +kernel)), (hts (.selects RX2 yX2_isEnabled yX2_isEnabled) (by decide +kernel))⟩ (rd_preV bl_T pr_T hK (show va_P D vwCl (wC k (q 3) (q 4) u.2.2.1) _ from hP.sub [3, 4] fmTC) (va_recv hK (show va_P D vwCl (wC k (q 3) (q 4) u.2.2.1) _ from hP.sub [3, 4] fmTC) (ci := 1) (q0 := 0) rfl rfl)) rfl rfl hl.1 rfl (lv_room (Nat.le_of_ble_eq_true rfl)) dX3_step_30 ⟨Nat.zero_le _, Nat.zero_le _⟩).run ?_
    refine lv_if_eq (tgt := 54) hx hb dX3_step_33 (by decide) (fun c_33 => ?_) (fun c_33 => ?_)
    · refine lv_aload_n hx hb dX3_step_54 rfl (lv_at hl 0 rfl) ?_
      obtain ⟨o1, h_o1⟩ : ∃ o9, (fX3_perform u) = o9 := ⟨_, rfl⟩
      refine wr_call (r := none) (ws' := wT k q o1) (W.runV (C := RX3) (b := (q 0)) (As := []) (rest := []) ⟨hx, hb, hml, hown, hts⟩ (kX3_perform l D k q u tC tL hn o1 h_o1) (cwV 0 hts gX3_step_X3_perform rfl rfl rfl (by decide +kernel) ⟨Nat.le_of_ble_eq_true rfl, Nat.le_of_ble_eq_true rfl⟩) (wr_preV bl_NS (pr_NS (ws := wT k q u) hX.1 hX.2 hS (in_adr adrT)) hK hP hD (va_recv hK hP (ci := 2) (q0 := 0) rfl rfl)) rfl rfl hl.1 rfl (lv_room (Nat.le_of_ble_eq_true rfl)) dX3_step_55 ⟨Nat.zero_le _, Nat.zero_le _⟩) hP hD hS [0, 1, 2, 3, 4, 5, 6, 7, 8, 9, 10] [] [0, 1, 2, 3, 4, 5, 6, 7, 8, 9, 10] allT (by decide) prmT adrT (fun H locs hP hD hS => ?_)
      refine lv_aload_n hx hb dX3_step_58 rfl (lv_at hl 0 rfl) ?_
      refine va_get (D := D) (ci := 2) (v := .int o1.2.2.2.2.2.2.2.1) (C := RX3) (T := TX3) (N := 9) hx hb hts (by decide +kernel) hown hK hP 0 rfl rfl 7 (by decide) (hts (.fieldLink RX3 30 "TrapMachine" "condition" "I") (by decide +kernel)) (fun _ h9 => h9) rfl dX3_step_59 ?_
      refine lv_iconst (v := (2 : Int32)) hx hb dX3_step_62 (by decide) ?_
      refine lv_icmp_eq (tgt := 73) hx hb dX3_step_63 (by decide) (fun c_63 => ?_) (fun c_63 => ?_)
      · exact W.vret hx hb hr (wr_end rfl (congrArg (wT k q) ((show fX3_step u = o1 from (by subst h_o1; exact (if_neg c_5).trans ((if_pos c_33).trans ((if_pos c_63).trans rfl)))).symm.trans ho)) hP hS) hS.2.2 dX3_step_73
      · refine lv_aload_n hx hb dX3_step_66 rfl (lv_at hl 0 rfl) ?_
        refine va_get (D := D) (ci := 2) (v := .ref (q 3)) (C := RX3) (T := TX3) (N := 9) hx hb hts (by decide +kernel) hown hK hP 0 rfl rfl 2 (by decide) (hts (.fieldLink RX3 19 "TrapMachine" "controls" "LTrapMachine$Controls;") (by decide +kernel)) (fun _ h9 => h9) rfl dX3_step_67 ?_
        obtain ⟨o2, h_o2⟩ : ∃ o9, (fX2_tick o1.2.2.1) = o9 := ⟨_, rfl⟩
        refine wr_call (r := none) (ws' := wT k q (ts2 o1 o2)) (va_runVN (C := RX2) (b := (q 3)) (As := []) (rest := []) ⟨hx, hb, hml, hown, hts⟩ (kX2_tick l D k (q 3) (q 4) o1.2.2.1 o2 h_o2) ⟨va_cnB 0 hts gX3_step_X2_tick_n99 rfl rfl rfl (hX.1.at 7 (q := (99, yX2_tick)) rfl) (hts (.initialized RX2) (by decide +kernel)) (by decide +kernel) ⟨Nat.le_of_ble_eq_true rfl, Nat.le_of_ble_eq_true rfl⟩, (hts (.instanceMethod yX2_tick) (by decide +kernel)), (hts (.selects RX2 yX2_tick yX2_tick) (by decide +kernel))⟩ (wr_preV bl_T pr_T hK (show va_P D vwCl (wC k (q 3) (q 4) o1.2.2.1) _ from hP.sub [3, 4] fmTC) (show va_D (in_W (wT k q u)) (wC k (q 3) (q 4) o1.2.2.1) from hD.sub [3, 4] (by decide) subTC) (va_recv hK (show va_P D vwCl (wC k (q 3) (q 4) o1.2.2.1) _ from hP.sub [3, 4] fmTC) (ci := 1) (q0 := 0) rfl rfl)) rfl rfl hl.1 rfl (lv_room (Nat.le_of_ble_eq_true rfl)) dX3_step_70 ⟨Nat.zero_le _, Nat.zero_le _⟩).run hP hD hS [3, 4] [0, 1, 2, 5, 6, 7, 8, 9, 10] [0, 1, 2, 9, 10, 3, 4, 5, 6, 7, 8] subTC (by decide) putTC adrT (fun H locs hP hD hS => ?_)
        exact W.vret hx hb hr (wr_end rfl (congrArg (wT k q) ((show fX3_step u = (ts2 o1 o2) from (by subst h_o1; subst h_o2; exact (if_neg c_5).trans ((if_pos c_33).trans ((if_neg c_63).trans rfl)))).symm.trans ho)) hP hS) hS.2.2 dX3_step_73
    · refine lv_aload_n hx hb dX3_step_36 rfl (lv_at hl 0 rfl) ?_
      refine va_get (D := D) (ci := 2) (v := .ref (q 3)) (C := RX3) (T := TX3) (N := 9) hx hb hts (by decide +kernel) hown hK hP 0 rfl rfl 2 (by decide) (hts (.fieldLink RX3 19 "TrapMachine" "controls" "LTrapMachine$Controls;") (by decide +kernel)) (fun _ h9 => h9) rfl dX3_step_37 ?_
      refine rd_call (r := (fX2_isAsked u.2.2.1)) (va_runVN (C := RX2) (b := (q 3)) (As := []) (rest := []) ⟨hx, hb, hml, hown, hts⟩ (kX2_isAsked l D k (q 3) (q 4) u.2.2.1) ⟨va_cnB 0 hts gX3_step_X2_isAsked_n85 rfl rfl rfl (hX.1.at 5 (q := (85, yX2_isAsked)) rfl) (hts (.initialized RX2) (by decide +kernel)) (by decide +kernel) ⟨Nat.le_of_ble_eq_true rfl, Nat.le_of_ble_eq_true rfl⟩, (hts (.instanceMethod yX2_isAsked) (by decide +kernel)), (hts (.selects RX2 yX2_isAsked yX2_isAsked) (by decide +kernel))⟩ (rd_preV bl_T pr_T hK (show va_P D vwCl (wC k (q 3) (q 4) u.2.2.1) _ from hP.sub [3, 4] fmTC) (va_recv hK (show va_P D vwCl (wC k (q 3) (q 4) u.2.2.1) _ from hP.sub [3, 4] fmTC) (ci := 1) (q0 := 0) rfl rfl)) rfl rfl hl.1 rfl (lv_room (Nat.le_of_ble_eq_true rfl)) dX3_step_40 ⟨Nat.zero_le _, Nat.zero_le _⟩).run ?_
      refine lv_if_eq (tgt := 54) hx hb dX3_step_43 (by decide) (fun c_43 => ?_) (fun c_43 => ?_)
      · refine lv_aload_n hx hb dX3_step_54 rfl (lv_at hl 0 rfl) ?_
        obtain ⟨o3, h_o3⟩ : ∃ o9, (fX3_perform u) = o9 := ⟨_, rfl⟩
        refine wr_call (r := none) (ws' := wT k q o3) (W.runV (C := RX3) (b := (q 0)) (As := []) (rest := []) ⟨hx, hb, hml, hown, hts⟩ (kX3_perform l D k q u tC tL hn o3 h_o3) (cwV 0 hts gX3_step_X3_perform rfl rfl rfl (by decide +kernel) ⟨Nat.le_of_ble_eq_true rfl, Nat.le_of_ble_eq_true rfl⟩) (wr_preV bl_NS (pr_NS (ws := wT k q u) hX.1 hX.2 hS (in_adr adrT)) hK hP hD (va_recv hK hP (ci := 2) (q0 := 0) rfl rfl)) rfl rfl hl.1 rfl (lv_room (Nat.le_of_ble_eq_true rfl)) dX3_step_55 ⟨Nat.zero_le _, Nat.zero_le _⟩) hP hD hS [0, 1, 2, 3, 4, 5, 6, 7, 8, 9, 10] [] [0, 1, 2, 3, 4, 5, 6, 7, 8, 9, 10] allT (by decide) prmT adrT (fun H locs hP hD hS => ?_)
        refine lv_aload_n hx hb dX3_step_58 rfl (lv_at hl 0 rfl) ?_
        refine va_get (D := D) (ci := 2) (v := .int o3.2.2.2.2.2.2.2.1) (C := RX3) (T := TX3) (N := 9) hx hb hts (by decide +kernel) hown hK hP 0 rfl rfl 7 (by decide) (hts (.fieldLink RX3 30 "TrapMachine" "condition" "I") (by decide +kernel)) (fun _ h9 => h9) rfl dX3_step_59 ?_
        refine lv_iconst (v := (2 : Int32)) hx hb dX3_step_62 (by decide) ?_
        refine lv_icmp_eq (tgt := 73) hx hb dX3_step_63 (by decide) (fun c_63 => ?_) (fun c_63 => ?_)
        · exact W.vret hx hb hr (wr_end rfl (congrArg (wT k q) ((show fX3_step u = o3 from (by subst h_o3; exact (if_neg c_5).trans ((if_neg c_33).trans ((if_pos c_43).trans ((if_pos c_63).trans rfl))))).symm.trans ho)) hP hS) hS.2.2 dX3_step_73
        · refine lv_aload_n hx hb dX3_step_66 rfl (lv_at hl 0 rfl) ?_
          refine va_get (D := D) (ci := 2) (v := .ref (q 3)) (C := RX3) (T := TX3) (N := 9) hx hb hts (by decide +kernel) hown hK hP 0 rfl rfl 2 (by decide) (hts (.fieldLink RX3 19 "TrapMachine" "controls" "LTrapMachine$Controls;") (by decide +kernel)) (fun _ h9 => h9) rfl dX3_step_67 ?_
          obtain ⟨o4, h_o4⟩ : ∃ o9, (fX2_tick o3.2.2.1) = o9 := ⟨_, rfl⟩
          refine wr_call (r := none) (ws' := wT k q (ts2 o3 o4)) (va_runVN (C := RX2) (b := (q 3)) (As := []) (rest := []) ⟨hx, hb, hml, hown, hts⟩ (kX2_tick l D k (q 3) (q 4) o3.2.2.1 o4 h_o4) ⟨va_cnB 0 hts gX3_step_X2_tick_n99 rfl rfl rfl (hX.1.at 7 (q := (99, yX2_tick)) rfl) (hts (.initialized RX2) (by decide +kernel)) (by decide +kernel) ⟨Nat.le_of_ble_eq_true rfl, Nat.le_of_ble_eq_true rfl⟩, (hts (.instanceMethod yX2_tick) (by decide +kernel)), (hts (.selects RX2 yX2_tick yX2_tick) (by decide +kernel))⟩ (wr_preV bl_T pr_T hK (show va_P D vwCl (wC k (q 3) (q 4) o3.2.2.1) _ from hP.sub [3, 4] fmTC) (show va_D (in_W (wT k q u)) (wC k (q 3) (q 4) o3.2.2.1) from hD.sub [3, 4] (by decide) subTC) (va_recv hK (show va_P D vwCl (wC k (q 3) (q 4) o3.2.2.1) _ from hP.sub [3, 4] fmTC) (ci := 1) (q0 := 0) rfl rfl)) rfl rfl hl.1 rfl (lv_room (Nat.le_of_ble_eq_true rfl)) dX3_step_70 ⟨Nat.zero_le _, Nat.zero_le _⟩).run hP hD hS [3, 4] [0, 1, 2, 5, 6, 7, 8, 9, 10] [0, 1, 2, 9, 10, 3, 4, 5, 6, 7, 8] subTC (by decide) putTC adrT (fun H locs hP hD hS => ?_)
          exact W.vret hx hb hr (wr_end rfl (congrArg (wT k q) ((show fX3_step u = (ts2 o3 o4) from (by subst h_o3; subst h_o4; exact (if_neg c_5).trans ((if_neg c_33).trans ((if_pos c_43).trans ((if_neg c_63).trans rfl))))).symm.trans ho)) hP hS) hS.2.2 dX3_step_73
      · refine lv_aload_n hx hb dX3_step_46 rfl (lv_at hl 0 rfl) ?_
        refine lv_iconst (v := (0 : Int32)) hx hb dX3_step_47 (by decide) ?_
        obtain ⟨o5, h_o5⟩ : ∃ o9, (fX3_raise u (0 : Int32)) = o9 := ⟨_, rfl⟩
        refine wr_call (r := none) (ws' := wT k q o5) (W.runV (C := RX3) (b := (q 0)) (As := [.int (0 : Int32)]) (rest := []) ⟨hx, hb, hml, hown, hts⟩ (kX3_raise l D k q u (0 : Int32) o5 h_o5) (cwV 1 hts gX3_step_X3_raise rfl rfl rfl (by decide +kernel) ⟨Nat.le_of_ble_eq_true rfl, Nat.le_of_ble_eq_true rfl⟩) (wr_preV bl_N (pr_N hX.1) hK hP hD (va_recv hK hP (ci := 2) (q0 := 0) rfl rfl)) rfl rfl hl.1 rfl (lv_room (Nat.le_of_ble_eq_true rfl)) dX3_step_48 ⟨Nat.zero_le _, Nat.zero_le _⟩) hP hD hS [0, 1, 2, 3, 4, 5, 6, 7, 8, 9, 10] [] [0, 1, 2, 3, 4, 5, 6, 7, 8, 9, 10] allT (by decide) prmT adrT (fun H locs hP hD hS => ?_)
        refine lv_goto (tgt := 58) hx hb dX3_step_51 (by decide) ?_
        refine lv_aload_n hx hb dX3_step_58 rfl (lv_at hl 0 rfl) ?_
        refine va_get (D := D) (ci := 2) (v := .int o5.2.2.2.2.2.2.2.1) (C := RX3) (T := TX3) (N := 9) hx hb hts (by decide +kernel) hown hK hP 0 rfl rfl 7 (by decide) (hts (.fieldLink RX3 30 "TrapMachine" "condition" "I") (by decide +kernel)) (fun _ h9 => h9) rfl dX3_step_59 ?_
        refine lv_iconst (v := (2 : Int32)) hx hb dX3_step_62 (by decide) ?_
        refine lv_icmp_eq (tgt := 73) hx hb dX3_step_63 (by decide) (fun c_63 => ?_) (fun c_63 => ?_)
        · exact W.vret hx hb hr (wr_end rfl (congrArg (wT k q) ((show fX3_step u = o5 from (by subst h_o5; exact (if_neg c_5).trans ((if_neg c_33).trans ((if_neg c_43).trans ((if_pos c_63).trans rfl))))).symm.trans ho)) hP hS) hS.2.2 dX3_step_73
        · refine lv_aload_n hx hb dX3_step_66 rfl (lv_at hl 0 rfl) ?_
          refine va_get (D := D) (ci := 2) (v := .ref (q 3)) (C := RX3) (T := TX3) (N := 9) hx hb hts (by decide +kernel) hown hK hP 0 rfl rfl 2 (by decide) (hts (.fieldLink RX3 19 "TrapMachine" "controls" "LTrapMachine$Controls;") (by decide +kernel)) (fun _ h9 => h9) rfl dX3_step_67 ?_
          obtain ⟨o6, h_o6⟩ : ∃ o9, (fX2_tick o5.2.2.1) = o9 := ⟨_, rfl⟩
          refine wr_call (r := none) (ws' := wT k q (ts2 o5 o6)) (va_runVN (C := RX2) (b := (q 3)) (As := []) (rest := []) ⟨hx, hb, hml, hown, hts⟩ (kX2_tick l D k (q 3) (q 4) o5.2.2.1 o6 h_o6) ⟨va_cnB 0 hts gX3_step_X2_tick_n99 rfl rfl rfl (hX.1.at 7 (q := (99, yX2_tick)) rfl) (hts (.initialized RX2) (by decide +kernel)) (by decide +kernel) ⟨Nat.le_of_ble_eq_true rfl, Nat.le_of_ble_eq_true rfl⟩, (hts (.instanceMethod yX2_tick) (by decide +kernel)), (hts (.selects RX2 yX2_tick yX2_tick) (by decide +kernel))⟩ (wr_preV bl_T pr_T hK (show va_P D vwCl (wC k (q 3) (q 4) o5.2.2.1) _ from hP.sub [3, 4] fmTC) (show va_D (in_W (wT k q u)) (wC k (q 3) (q 4) o5.2.2.1) from hD.sub [3, 4] (by decide) subTC) (va_recv hK (show va_P D vwCl (wC k (q 3) (q 4) o5.2.2.1) _ from hP.sub [3, 4] fmTC) (ci := 1) (q0 := 0) rfl rfl)) rfl rfl hl.1 rfl (lv_room (Nat.le_of_ble_eq_true rfl)) dX3_step_70 ⟨Nat.zero_le _, Nat.zero_le _⟩).run hP hD hS [3, 4] [0, 1, 2, 5, 6, 7, 8, 9, 10] [0, 1, 2, 9, 10, 3, 4, 5, 6, 7, 8] subTC (by decide) putTC adrT (fun H locs hP hD hS => ?_)
          exact W.vret hx hb hr (wr_end rfl (congrArg (wT k q) ((show fX3_step u = (ts2 o5 o6) from (by subst h_o5; subst h_o6; exact (if_neg c_5).trans ((if_neg c_33).trans ((if_neg c_43).trans ((if_neg c_63).trans rfl))))).symm.trans ho)) hP hS) hS.2.2 dX3_step_73
  · refine lv_aload_n hx hb dX3_step_8 rfl (lv_at hl 0 rfl) ?_
    refine va_get (D := D) (ci := 2) (v := .ref (q 3)) (C := RX3) (T := TX3) (N := 9) hx hb hts (by decide +kernel) hown hK hP 0 rfl rfl 2 (by decide) (hts (.fieldLink RX3 19 "TrapMachine" "controls" "LTrapMachine$Controls;") (by decide +kernel)) (fun _ h9 => h9) rfl dX3_step_9 ?_
    refine rd_call (r := (fX2_isAsked u.2.2.1)) (va_runVN (C := RX2) (b := (q 3)) (As := []) (rest := []) ⟨hx, hb, hml, hown, hts⟩ (kX2_isAsked l D k (q 3) (q 4) u.2.2.1) ⟨va_cnB 0 hts gX3_step_X2_isAsked_n85 rfl rfl rfl (hX.1.at 5 (q := (85, yX2_isAsked)) rfl) (hts (.initialized RX2) (by decide +kernel)) (by decide +kernel) ⟨Nat.le_of_ble_eq_true rfl, Nat.le_of_ble_eq_true rfl⟩, (hts (.instanceMethod yX2_isAsked) (by decide +kernel)), (hts (.selects RX2 yX2_isAsked yX2_isAsked) (by decide +kernel))⟩ (rd_preV bl_T pr_T hK (show va_P D vwCl (wC k (q 3) (q 4) u.2.2.1) _ from hP.sub [3, 4] fmTC) (va_recv hK (show va_P D vwCl (wC k (q 3) (q 4) u.2.2.1) _ from hP.sub [3, 4] fmTC) (ci := 1) (q0 := 0) rfl rfl)) rfl rfl hl.1 rfl (lv_room (Nat.le_of_ble_eq_true rfl)) dX3_step_12 ⟨Nat.zero_le _, Nat.zero_le _⟩).run ?_
    refine lv_if_eq (tgt := 58) hx hb dX3_step_15 (by decide) (fun c_15 => ?_) (fun c_15 => ?_)
    · refine lv_aload_n hx hb dX3_step_58 rfl (lv_at hl 0 rfl) ?_
      refine va_get (D := D) (ci := 2) (v := .int u.2.2.2.2.2.2.2.1) (C := RX3) (T := TX3) (N := 9) hx hb hts (by decide +kernel) hown hK hP 0 rfl rfl 7 (by decide) (hts (.fieldLink RX3 30 "TrapMachine" "condition" "I") (by decide +kernel)) (fun _ h9 => h9) rfl dX3_step_59 ?_
      refine lv_iconst (v := (2 : Int32)) hx hb dX3_step_62 (by decide) ?_
      refine lv_icmp_eq (tgt := 73) hx hb dX3_step_63 (by decide) (fun c9 => absurd c9 (show ¬ (u.2.2.2.2.2.2.2.1 = (2 : Int32)) by rw [c_5]; decide)) (fun _ => ?_)
      refine lv_aload_n hx hb dX3_step_66 rfl (lv_at hl 0 rfl) ?_
      refine va_get (D := D) (ci := 2) (v := .ref (q 3)) (C := RX3) (T := TX3) (N := 9) hx hb hts (by decide +kernel) hown hK hP 0 rfl rfl 2 (by decide) (hts (.fieldLink RX3 19 "TrapMachine" "controls" "LTrapMachine$Controls;") (by decide +kernel)) (fun _ h9 => h9) rfl dX3_step_67 ?_
      obtain ⟨o7, h_o7⟩ : ∃ o9, (fX2_tick u.2.2.1) = o9 := ⟨_, rfl⟩
      refine wr_call (r := none) (ws' := wT k q (ts2 u o7)) (va_runVN (C := RX2) (b := (q 3)) (As := []) (rest := []) ⟨hx, hb, hml, hown, hts⟩ (kX2_tick l D k (q 3) (q 4) u.2.2.1 o7 h_o7) ⟨va_cnB 0 hts gX3_step_X2_tick_n99 rfl rfl rfl (hX.1.at 7 (q := (99, yX2_tick)) rfl) (hts (.initialized RX2) (by decide +kernel)) (by decide +kernel) ⟨Nat.le_of_ble_eq_true rfl, Nat.le_of_ble_eq_true rfl⟩, (hts (.instanceMethod yX2_tick) (by decide +kernel)), (hts (.selects RX2 yX2_tick yX2_tick) (by decide +kernel))⟩ (wr_preV bl_T pr_T hK (show va_P D vwCl (wC k (q 3) (q 4) u.2.2.1) _ from hP.sub [3, 4] fmTC) (show va_D (in_W (wT k q u)) (wC k (q 3) (q 4) u.2.2.1) from hD.sub [3, 4] (by decide) subTC) (va_recv hK (show va_P D vwCl (wC k (q 3) (q 4) u.2.2.1) _ from hP.sub [3, 4] fmTC) (ci := 1) (q0 := 0) rfl rfl)) rfl rfl hl.1 rfl (lv_room (Nat.le_of_ble_eq_true rfl)) dX3_step_70 ⟨Nat.zero_le _, Nat.zero_le _⟩).run hP hD hS [3, 4] [0, 1, 2, 5, 6, 7, 8, 9, 10] [0, 1, 2, 9, 10, 3, 4, 5, 6, 7, 8] subTC (by decide) putTC adrT (fun H locs hP hD hS => ?_)
      exact W.vret hx hb hr (wr_end rfl (congrArg (wT k q) ((show fX3_step u = (ts2 u o7) from (by subst h_o7; exact (if_pos c_5).trans ((if_pos c_15).trans rfl))).symm.trans ho)) hP hS) hS.2.2 dX3_step_73
    · refine lv_aload_n hx hb dX3_step_18 rfl (lv_at hl 0 rfl) ?_
      refine lv_iconst (v := (0 : Int32)) hx hb dX3_step_19 (by decide) ?_
      refine va_put (D := D) (ci := 2) (v := .int (0 : Int32)) (ty := .int) (C := RX3) (T := TX3) (N := 9) hx hb hts (by decide +kernel) tyX3 tyX3_ok nmX3 hown hK hP hD hS 0 rfl rfl 7 (by decide) (hts (.fieldLink RX3 30 "TrapMachine" "condition" "I") (by decide +kernel)) (fun _ h9 => h9) rfl (by decide +kernel) rfl rfl (Nat.le_of_ble_eq_true rfl) dX3_step_20 (fun H locs hP hD hS => ?_)
      have hP : va_P D vwCl (wT k q (ts7 u (0 : Int32))) H := hP
      have hD : va_D (in_W (wT k q u)) (wT k q (ts7 u (0 : Int32))) := hD
      refine lv_goto (tgt := 58) hx hb dX3_step_23 (by decide) ?_
      refine lv_aload_n hx hb dX3_step_58 rfl (lv_at hl 0 rfl) ?_
      refine va_get (D := D) (ci := 2) (v := .int (0 : Int32)) (C := RX3) (T := TX3) (N := 9) hx hb hts (by decide +kernel) hown hK hP 0 rfl rfl 7 (by decide) (hts (.fieldLink RX3 30 "TrapMachine" "condition" "I") (by decide +kernel)) (fun _ h9 => h9) rfl dX3_step_59 ?_
      refine lv_iconst (v := (2 : Int32)) hx hb dX3_step_62 (by decide) ?_
      refine lv_icmp_eq (tgt := 73) hx hb dX3_step_63 (by decide) (fun c9 => absurd c9 (by decide)) (fun _ => ?_)
      refine lv_aload_n hx hb dX3_step_66 rfl (lv_at hl 0 rfl) ?_
      refine va_get (D := D) (ci := 2) (v := .ref (q 3)) (C := RX3) (T := TX3) (N := 9) hx hb hts (by decide +kernel) hown hK hP 0 rfl rfl 2 (by decide) (hts (.fieldLink RX3 19 "TrapMachine" "controls" "LTrapMachine$Controls;") (by decide +kernel)) (fun _ h9 => h9) rfl dX3_step_67 ?_
      obtain ⟨o8, h_o8⟩ : ∃ o9, (fX2_tick u.2.2.1) = o9 := ⟨_, rfl⟩
      refine wr_call (r := none) (ws' := wT k q (ts2 (ts7 u (0 : Int32)) o8)) (va_runVN (C := RX2) (b := (q 3)) (As := []) (rest := []) ⟨hx, hb, hml, hown, hts⟩ (kX2_tick l D k (q 3) (q 4) u.2.2.1 o8 h_o8) ⟨va_cnB 0 hts gX3_step_X2_tick_n99 rfl rfl rfl (hX.1.at 7 (q := (99, yX2_tick)) rfl) (hts (.initialized RX2) (by decide +kernel)) (by decide +kernel) ⟨Nat.le_of_ble_eq_true rfl, Nat.le_of_ble_eq_true rfl⟩, (hts (.instanceMethod yX2_tick) (by decide +kernel)), (hts (.selects RX2 yX2_tick yX2_tick) (by decide +kernel))⟩ (wr_preV bl_T pr_T hK (show va_P D vwCl (wC k (q 3) (q 4) u.2.2.1) _ from hP.sub [3, 4] fmTC) (show va_D (in_W (wT k q u)) (wC k (q 3) (q 4) u.2.2.1) from hD.sub [3, 4] (by decide) subTC) (va_recv hK (show va_P D vwCl (wC k (q 3) (q 4) u.2.2.1) _ from hP.sub [3, 4] fmTC) (ci := 1) (q0 := 0) rfl rfl)) rfl rfl hl.1 rfl (lv_room (Nat.le_of_ble_eq_true rfl)) dX3_step_70 ⟨Nat.zero_le _, Nat.zero_le _⟩).run hP hD hS [3, 4] [0, 1, 2, 5, 6, 7, 8, 9, 10] [0, 1, 2, 9, 10, 3, 4, 5, 6, 7, 8] subTC (by decide) putTC adrT (fun H locs hP hD hS => ?_)
      exact W.vret hx hb hr (wr_end rfl (congrArg (wT k q) ((show fX3_step u = (ts2 (ts7 u (0 : Int32)) o8) from (by subst h_o8; exact (if_pos c_5).trans ((if_neg c_15).trans rfl))).symm.trans ho)) hP hS) hS.2.2 dX3_step_73
