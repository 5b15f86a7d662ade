def fX4_reach (w : MD) (a1 : Int32) (a2 : Int32) (a3 : Int32) : Int32 × MD :=
  if a1 = (11 : Int32) then
    if w.2.2.2.2.2.2.2.2.2.2.2.2.1 = (0 : Int32) then
      ((-1 : Int32), (fX4_put w a2 (0 : Int32)))
    else
      if (fX4_lookUp w a3 (2 : Int32)).1 = (-1 : Int32) then
        ((-1 : Int32), (fX4_put (ms12 (ms1 (fX4_lookUp w a3 (2 : Int32)).2 (upd (fX4_lookUp w a3 (2 : Int32)).2.2.1 (ix (fX4_lookUp w a3 (2 : Int32)).2.2.2.2.2.2.2.2.2.2.2.2.2.2.2.2.2.2.1) ((fX4_lookUp w a3 (2 : Int32)).2.2.2.1 (ix (a2 - a2 / (8 : Int32) * (8 : Int32)))))) (0 : Int32)) a2 (1 : Int32)))
      else
        ((fX4_lookUp w a3 (2 : Int32)).1, (fX4_lookUp w a3 (2 : Int32)).2)
  else
    if a1 = (9 : Int32) then
      if (fX4_lookUp w a3 (2 : Int32)).1 = (-1 : Int32) then
        ((-1 : Int32), (ms1 (fX4_lookUp w a3 (2 : Int32)).2 (upd (fX4_lookUp w a3 (2 : Int32)).2.2.1 (ix (fX4_lookUp w a3 (2 : Int32)).2.2.2.2.2.2.2.2.2.2.2.2.2.2.2.2.2.2.1) ((fX4_lookUp w a3 (2 : Int32)).2.2.2.1 (ix (a2 - a2 / (8 : Int32) * (8 : Int32)))))))
      else
        ((fX4_lookUp w a3 (2 : Int32)).1, (fX4_lookUp w a3 (2 : Int32)).2)
    else
      if (fX4_lookUp w a3 (1 : Int32)).1 = (-1 : Int32) then
        if a1 = (10 : Int32) then
          ((-1 : Int32), (ms12 (fX4_put (fX4_lookUp w a3 (1 : Int32)).2 a2 ((fX4_lookUp w a3 (1 : Int32)).2.2.1 (ix (fX4_lookUp w a3 (1 : Int32)).2.2.2.2.2.2.2.2.2.2.2.2.2.2.2.2.2.2.1))) (1 : Int32)))
        else
          ((-1 : Int32), (fX4_put (fX4_lookUp w a3 (1 : Int32)).2 a2 ((fX4_lookUp w a3 (1 : Int32)).2.2.1 (ix (fX4_lookUp w a3 (1 : Int32)).2.2.2.2.2.2.2.2.2.2.2.2.2.2.2.2.2.2.1))))
      else
        ((fX4_lookUp w a3 (1 : Int32)).1, (fX4_lookUp w a3 (1 : Int32)).2)
set_option maxHeartbeats 4000000 in
set_option maxRecDepth 100000 in
theorem kX4_reach (l : Launch) (D : va_G) (k : Nat → ClassId) (z : Nat → Nat) (w : MD) (a1 : Int32) (a2 : Int32) (a3 : Int32) (h2 : vp_in a2 256) (o : Int32 × (MD)) (ho : fX4_reach w a1 a2 a3 = o) : Met l yX4_reach wsX4_reach { frames := 3, cells := 0, slots := 0, locals := 74 } (wr_P D vwCl (tyL k) (wM k z w) (fun _ => True) [.ref (z 0), .int a1, .int a2, .int a3]) (wr_Q D vwCl (some (.int o.1)) (wM k z w) (wM k z o.2)) 0 0 (in_W (wM k z w)) := by
  refine Met.ofW (cc := cX4_reach) (maxL := 6) (ret := (some .int)) (by decide) rfl ?_
  intro p e s m args below meth c s₁ B hml hv0
  obtain ⟨rfl, hP, hK, hX, hD0⟩ := hv0
  have hx := B.exec
  have hb := B.bytes
  have hr := B.returns
  have hts := atoms_spec (ws := wsX4_reach) B.pre
  have hown : s.vm.findClass RX4 = some m.cls := findClass_of_methodNamed B.named
  have hlocks := B.notSynchronized
  have hD : va_D (in_W (wM k z w)) (wM k z w) := wD_self hD0
  have hS : va_S (in_W (wM k z w)) s.heap s.heap [] := va_S.rf
  have hl := lv_entry ([.ref (z 0), .int a1, .int a2, .int a3]) (n := 6) (Nat.le_of_ble_eq_true rfl)
  rw [lg_entry_eq]
  generalize (lg_sl ([.ref (z 0), .int a1, .int a2, .int a3]) ++ List.replicate (6 - (lg_sl ([.ref (z 0), .int a1, .int a2, .int a3])).length) Slot.unset).toArray = ls at hl ⊢
  have hl : lv_has ls 6 [(0, .ref (z 0)), (1, .int a1), (2, .int a2), (3, .int a3)] := hl
  refine lv_iload_n hx hb dX4_reach_0 rfl (lv_at hl 1 rfl) ?_
  refine lv_bipush (v := (11 : Int32)) hx hb dX4_reach_1 (by decide) ?_
  refine lv_icmp_ne (tgt := 21) hx hb dX4_reach_3 (by decide) (fun c_3 => ?_) (fun c_3 => ?_)
  · refine lv_iload_n hx hb dX4_reach_21 rfl (lv_at hl 1 rfl) ?_
    refine lv_bipush (v := (9 : Int32)) hx hb dX4_reach_22 (by decide) ?_
    refine lv_icmp_eq (tgt := 33) hx hb dX4_reach_24 (by decide) (fun c_24 => ?_) (fun c_24 => ?_)
    · refine lv_iconst (v := (1 : Int32)) hx hb dX4_reach_33 (by decide) ?_
      refine lv_goto (tgt := 38) hx hb dX4_reach_34 (by decide) ?_
      refine lv_istore (lv' := [(4, .int (1 : Int32)), (0, .ref (z 0)), (1, .int a1), (2, .int a2), (3, .int a3)]) hx hb dX4_reach_38 hl (by decide) rfl (fun ls hl => ?_)
      refine lv_aload_n hx hb dX4_reach_40 rfl (lv_at hl 1 rfl) ?_
      refine lv_iload_n hx hb dX4_reach_41 rfl (lv_at hl 4 rfl) ?_
      refine lv_iload hx hb dX4_reach_42 (lv_at hl 0 rfl) ?_
      refine lv_if_eq (tgt := 51) hx hb dX4_reach_44 (by decide) (fun c9 => absurd c9 (by decide)) (fun _ => ?_)
      refine lv_iconst (v := (2 : Int32)) hx hb dX4_reach_47 (by decide) ?_
      refine lv_goto (tgt := 52) hx hb dX4_reach_48 (by decide) ?_
      obtain ⟨o1, h_o1⟩ : ∃ o9, (fX4_lookUp w a3 (2 : Int32)) = o9 := ⟨_, rfl⟩
      refine wr_call (r := (some (.int o1.1))) (ws' := wM k z o1.2) (W.runV (C := RX4) (b := (z 0)) (As := [.int a3, .int (2 : Int32)]) (rest := []) ⟨hx, hb, hml, hown, hts⟩ (kX4_lookUp l D k z w a3 (2 : Int32) o1 h_o1) (cwV 2 hts gX4_reach_X4_lookUp rfl rfl rfl (by decide +kernel) ⟨Nat.le_of_ble_eq_true rfl, Nat.le_of_ble_eq_true rfl⟩) (wr_preV bl_T pr_T hK hP hD (va_recv hK hP (ci := 3) (q0 := 0) rfl rfl)) rfl rfl hl.1 rfl (lv_room (Nat.le_of_ble_eq_true rfl)) dX4_reach_52 ⟨Nat.zero_le _, Nat.zero_le _⟩) hP hD hS [0, 1, 2, 3, 4, 5, 6, 7, 8, 9] [] [0, 1, 2, 3, 4, 5, 6, 7, 8, 9] allM (by decide) prmM adrM (fun H locs hP hD hS => ?_)
      refine lv_istore (lv' := [(5, .int o1.1), (4, .int (1 : Int32)), (0, .ref (z 0)), (1, .int a1), (2, .int a2), (3, .int a3)]) hx hb dX4_reach_55 hl (by decide) rfl (fun ls hl => ?_)
      refine lv_iload hx hb dX4_reach_57 (lv_at hl 0 rfl) ?_
      refine lv_iconst (v := (-1 : Int32)) hx hb dX4_reach_59 (by decide) ?_
      refine lv_icmp_eq (tgt := 66) hx hb dX4_reach_60 (by decide) (fun c_60 => ?_) (fun c_60 => ?_)
      · refine lv_iload hx hb dX4_reach_66 (lv_at hl 1 rfl) ?_
        refine lv_if_eq (tgt := 92) hx hb dX4_reach_68 (by decide) (fun c9 => absurd c9 (by decide)) (fun _ => ?_)
        refine lv_aload_n hx hb dX4_reach_71 rfl (lv_at hl 2 rfl) ?_
        refine va_get (D := D) (ci := 3) (v := .ref (z 1)) (C := RX4) (T := TX4) (N := 20) hx hb hts (by decide +kernel) hown hK hP 0 rfl rfl 1 (by decide) (hts (.fieldLink RX4 7 "TrapMachineModel" "memory" "[I") (by decide +kernel)) (fun _ h9 => h9) rfl dX4_reach_72 ?_
        refine lv_aload_n hx hb dX4_reach_75 rfl (lv_at hl 2 rfl) ?_
        refine va_get (D := D) (ci := 3) (v := .int o1.2.2.2.2.2.2.2.2.2.2.2.2.2.2.2.2.2.2.1) (C := RX4) (T := TX4) (N := 20) hx hb hts (by decide +kernel) hown hK hP 0 rfl rfl 18 (by decide) (hts (.fieldLink RX4 68 "TrapMachineModel" "found" "I") (by decide +kernel)) (fun _ h9 => h9) rfl dX4_reach_76 ?_
        refine lv_aload_n hx hb dX4_reach_79 rfl (lv_at hl 2 rfl) ?_
        refine va_get (D := D) (ci := 3) (v := .ref (z 2)) (C := RX4) (T := TX4) (N := 20) hx hb hts (by decide +kernel) hown hK hP 0 rfl rfl 2 (by decide) (hts (.fieldLink RX4 13 "TrapMachineModel" "register" "[I") (by decide +kernel)) (fun _ h9 => h9) rfl dX4_reach_80 ?_
        refine lv_iload_n hx hb dX4_reach_83 rfl (lv_at hl 4 rfl) ?_
        refine lv_bipush (v := (8 : Int32)) hx hb dX4_reach_84 (by decide) ?_
        refine lv_irem hx hb dX4_reach_86 (by decide) ?_
        refine q_iald (j := (ix (a2 - a2 / (8 : Int32) * (8 : Int32)))) (x9 := (o1.2.2.2.1 (ix (a2 - a2 / (8 : Int32) * (8 : Int32))))) hx hb hK hP 2 0 rfl rfl (rem8_in h2) rfl rfl dX4_reach_87 ?_
        refine q_iast (j := (ix o1.2.2.2.2.2.2.2.2.2.2.2.2.2.2.2.2.2.2.1)) (ws' := wM k z (ms1 o1.2 (upd o1.2.2.1 (ix o1.2.2.2.2.2.2.2.2.2.2.2.2.2.2.2.2.2.2.1) (o1.2.2.2.1 (ix (a2 - a2 / (8 : Int32) * (8 : Int32))))))) hx hb hK hP hD hS 1 0 rfl rfl (found_in h_o1 c_60) rfl rfl dX4_reach_88 (fun H locs hP hD hS => ?_)
        refine lv_goto (tgt := 106) hx hb dX4_reach_89 (by decide) ?_
        refine lv_iload_n hx hb dX4_reach_106 rfl (lv_at hl 3 rfl) ?_
        refine lv_bipush (v := (10 : Int32)) hx hb dX4_reach_107 (by decide) ?_
        refine lv_icmp_ne (tgt := 117) hx hb dX4_reach_109 (by decide) (fun _ => ?_) (fun c9 => absurd c9 (show ¬ (a1 = (10 : Int32)) by rw [c_24]; decide))
        refine lv_iload_n hx hb dX4_reach_117 rfl (lv_at hl 3 rfl) ?_
        refine lv_bipush (v := (11 : Int32)) hx hb dX4_reach_118 (by decide) ?_
        refine lv_icmp_ne (tgt := 134) hx hb dX4_reach_120 (by decide) (fun _ => ?_) (fun c9 => absurd c9 c_3)
        refine lv_iconst (v := (-1 : Int32)) hx hb dX4_reach_134 (by decide) ?_
        exact W.iret (v := (-1 : Int32)) hx hb hr (wr_end (congrArg (fun t9 : Int32 × MD => some (Value.int t9.1)) ((show fX4_reach w a1 a2 a3 = ((-1 : Int32), (ms1 o1.2 (upd o1.2.2.1 (ix o1.2.2.2.2.2.2.2.2.2.2.2.2.2.2.2.2.2.2.1) (o1.2.2.2.1 (ix (a2 - a2 / (8 : Int32) * (8 : Int32))))))) from (by subst h_o1; exact (if_neg c_3).trans ((if_pos c_24).trans ((if_pos c_60).trans rfl)))).symm.trans ho)) (congrArg (fun t9 : Int32 × MD => wM k z t9.2) ((show fX4_reach w a1 a2 a3 = ((-1 : Int32), (ms1 o1.2 (upd o1.2.2.1 (ix o1.2.2.2.2.2.2.2.2.2.2.2.2.2.2.2.2.2.2.1) (o1.2.2.2.1 (ix (a2 - a2 / (8 : Int32) * (8 : Int32))))))) from (by subst h_o1; exact (if_neg c_3).trans ((if_pos c_24).trans ((if_pos c_60).trans rfl)))).symm.trans ho)) hP hS) hS.2.2 dX4_reach_135
      · refine lv_iload hx hb dX4_reach_63 (lv_at hl 0 rfl) ?_
        exact W.iret (v := o1.1) hx hb hr (wr_end (congrArg (fun t9 : Int32 × MD => some (Value.int t9.1)) ((show fX4_reach w a1 a2 a3 = (o1.1, o1.2) from (by subst h_o1; exact (if_neg c_3).trans ((if_pos c_24).trans ((if_neg c_60).trans rfl)))).symm.trans ho)) (congrArg (fun t9 : Int32 × MD => wM k z t9.2) ((show fX4_reach w a1 a2 a3 = (o1.1, o1.2) from (by subst h_o1; exact (if_neg c_3).trans ((if_pos c_24).trans ((if_neg c_60).trans rfl)))).symm.trans ho)) hP hS) hS.2.2 dX4_reach_65
    · refine lv_iload_n hx hb dX4_reach_27 rfl (lv_at hl 1 rfl) ?_
      refine lv_bipush (v := (11 : Int32)) hx hb dX4_reach_28 (by decide) ?_
      refine lv_icmp_ne (tgt := 37) hx hb dX4_reach_30 (by decide) (fun _ => ?_) (fun c9 => absurd c9 c_3)
      refine lv_iconst (v := (0 : Int32)) hx hb dX4_reach_37 (by decide) ?_
      refine lv_istore (lv' := [(4, .int (0 : Int32)), (0, .ref (z 0)), (1, .int a1), (2, .int a2), (3, .int a3)]) hx hb dX4_reach_38 hl (by decide) rfl (fun ls hl => ?_)
      refine lv_aload_n hx hb dX4_reach_40 rfl (lv_at hl 1 rfl) ?_
      refine lv_iload_n hx hb dX4_reach_41 rfl (lv_at hl 4 rfl) ?_
      refine lv_iload hx hb dX4_reach_42 (lv_at hl 0 rfl) ?_
      refine lv_if_eq (tgt := 51) hx hb dX4_reach_44 (by decide) (fun _ => ?_) (fun c9 => absurd (by decide) c9)
      refine lv_iconst (v := (1 : Int32)) hx hb dX4_reach_51 (by decide) ?_
      obtain ⟨o2, h_o2⟩ : ∃ o9, (fX4_lookUp w a3 (1 : Int32)) = o9 := ⟨_, rfl⟩
      refine wr_call (r := (some (.int o2.1))) (ws' := wM k z o2.2) (W.runV (C := RX4) (b := (z 0)) (As := [.int a3, .int (1 : Int32)]) (rest := []) ⟨hx, hb, hml, hown, hts⟩ (kX4_lookUp l D k z w a3 (1 : Int32) o2 h_o2) (cwV 2 hts gX4_reach_X4_lookUp rfl rfl rfl (by decide +kernel) ⟨Nat.le_of_ble_eq_true rfl, Nat.le_of_ble_eq_true rfl⟩) (wr_preV bl_T pr_T hK hP hD (va_recv hK hP (ci := 3) (q0 := 0) rfl rfl)) rfl rfl hl.1 rfl (lv_room (Nat.le_of_ble_eq_true rfl)) dX4_reach_52 ⟨Nat.zero_le _, Nat.zero_le _⟩) hP hD hS [0, 1, 2, 3, 4, 5, 6, 7, 8, 9] [] [0, 1, 2, 3, 4, 5, 6, 7, 8, 9] allM (by decide) prmM adrM (fun H locs hP hD hS => ?_)
      refine lv_istore (lv' := [(5, .int o2.1), (4, .int (0 : Int32)), (0, .ref (z 0)), (1, .int a1), (2, .int a2), (3, .int a3)]) hx hb dX4_reach_55 hl (by decide) rfl (fun ls hl => ?_)
      refine lv_iload hx hb dX4_reach_57 (lv_at hl 0 rfl) ?_
      refine lv_iconst (v := (-1 : Int32)) hx hb dX4_reach_59 (by decide) ?_
      refine lv_icmp_eq (tgt := 66) hx hb dX4_reach_60 (by decide) (fun c_60 => ?_) (fun c_60 => ?_)
      · refine lv_iload hx hb dX4_reach_66 (lv_at hl 1 rfl) ?_
        refine lv_if_eq (tgt := 92) hx hb dX4_reach_68 (by decide) (fun _ => ?_) (fun c9 => absurd (by decide) c9)
        refine lv_aload_n hx hb dX4_reach_92 rfl (lv_at hl 2 rfl) ?_
        refine lv_iload_n hx hb dX4_reach_93 rfl (lv_at hl 4 rfl) ?_
        refine lv_aload_n hx hb dX4_reach_94 rfl (lv_at hl 2 rfl) ?_
        refine va_get (D := D) (ci := 3) (v := .ref (z 1)) (C := RX4) (T := TX4) (N := 20) hx hb hts (by decide +kernel) hown hK hP 0 rfl rfl 1 (by decide) (hts (.fieldLink RX4 7 "TrapMachineModel" "memory" "[I") (by decide +kernel)) (fun _ h9 => h9) rfl dX4_reach_95 ?_
        refine lv_aload_n hx hb dX4_reach_98 rfl (lv_at hl 2 rfl) ?_
        refine va_get (D := D) (ci := 3) (v := .int o2.2.2.2.2.2.2.2.2.2.2.2.2.2.2.2.2.2.2.1) (C := RX4) (T := TX4) (N := 20) hx hb hts (by decide +kernel) hown hK hP 0 rfl rfl 18 (by decide) (hts (.fieldLink RX4 68 "TrapMachineModel" "found" "I") (by decide +kernel)) (fun _ h9 => h9) rfl dX4_reach_99 ?_
        refine q_iald (j := (ix o2.2.2.2.2.2.2.2.2.2.2.2.2.2.2.2.2.2.2.1)) (x9 := (o2.2.2.1 (ix o2.2.2.2.2.2.2.2.2.2.2.2.2.2.2.2.2.2.2.1))) hx hb hK hP 1 0 rfl rfl (found_in h_o2 c_60) rfl rfl dX4_reach_102 ?_
        obtain ⟨o3, h_o3⟩ : ∃ o9, (fX4_put o2.2 a2 (o2.2.2.1 (ix o2.2.2.2.2.2.2.2.2.2.2.2.2.2.2.2.2.2.2.1))) = o9 := ⟨_, rfl⟩
        refine wr_call (r := none) (ws' := wM k z o3) (W.runV (C := RX4) (b := (z 0)) (As := [.int a2, .int (o2.2.2.1 (ix o2.2.2.2.2.2.2.2.2.2.2.2.2.2.2.2.2.2.2.1))]) (rest := []) ⟨hx, hb, hml, hown, hts⟩ (kX4_put l D k z o2.2 a2 (o2.2.2.1 (ix o2.2.2.2.2.2.2.2.2.2.2.2.2.2.2.2.2.2.2.1)) h2 o3 h_o3) (cwV 2 hts gX4_reach_X4_put rfl rfl rfl (by decide +kernel) ⟨Nat.le_of_ble_eq_true rfl, Nat.le_of_ble_eq_true rfl⟩) (wr_preV bl_T pr_T hK hP hD (va_recv hK hP (ci := 3) (q0 := 0) rfl rfl)) rfl rfl hl.1 rfl (lv_room (Nat.le_of_ble_eq_true rfl)) dX4_reach_103 ⟨Nat.zero_le _, Nat.zero_le _⟩) hP hD hS [0, 1, 2, 3, 4, 5, 6, 7, 8, 9] [] [0, 1, 2, 3, 4, 5, 6, 7, 8, 9] allM (by decide) prmM adrM (fun H locs hP hD hS => ?_)
        refine lv_iload_n hx hb dX4_reach_106 rfl (lv_at hl 3 rfl) ?_
        refine lv_bipush (v := (10 : Int32)) hx hb dX4_reach_107 (by decide) ?_
        refine lv_icmp_ne (tgt := 117) hx hb dX4_reach_109 (by decide) (fun c_109 => ?_) (fun c_109 => ?_)
        · refine lv_iload_n hx hb dX4_reach_117 rfl (lv_at hl 3 rfl) ?_
          refine lv_bipush (v := (11 : Int32)) hx hb dX4_reach_118 (by decide) ?_
          refine lv_icmp_ne (tgt := 134) hx hb dX4_reach_120 (by decide) (fun _ => ?_) (fun c9 => absurd c9 c_3)
          refine lv_iconst (v := (-1 : Int32)) hx hb dX4_reach_134 (by decide) ?_
          exact W.iret (v := (-1 : Int32)) hx hb hr (wr_end (congrArg (fun t9 : Int32 × MD => some (Value.int t9.1)) ((show fX4_reach w a1 a2 a3 = ((-1 : Int32), o3) from (by subst h_o2; subst h_o3; exact (if_neg c_3).trans ((if_neg c_24).trans ((if_pos c_60).trans ((if_neg c_109).trans rfl))))).symm.trans ho)) (congrArg (fun t9 : Int32 × MD => wM k z t9.2) ((show fX4_reach w a1 a2 a3 = ((-1 : Int32), o3) from (by subst h_o2; subst h_o3; exact (if_neg c_3).trans ((if_neg c_24).trans ((if_pos c_60).trans ((if_neg c_109).trans rfl))))).symm.trans ho)) hP hS) hS.2.2 dX4_reach_135
        · refine lv_aload_n hx hb dX4_reach_112 rfl (lv_at hl 2 rfl) ?_
          refine lv_iconst (v := (1 : Int32)) hx hb dX4_reach_113 (by decide) ?_
          refine va_put (D := D) (ci := 3) (v := .int (1 : Int32)) (ty := .boolean) (C := RX4) (T := TX4) (N := 20) hx hb hts (by decide +kernel) tyX4 tyX4_ok nmX4 hown hK hP hD hS 0 rfl rfl 13 (by decide) (hts (.fieldLink RX4 89 "TrapMachineModel" "link" "Z") (by decide +kernel)) (fun _ h9 => h9) rfl (by decide +kernel) rfl rfl (Nat.le_of_ble_eq_true rfl) dX4_reach_114 (fun H locs hP hD hS => ?_)
          have hP : va_P D vwCl (wM k z (ms12 o3 (1 : Int32))) H := hP
          have hD : va_D (in_W (wM k z w)) (wM k z (ms12 o3 (1 : Int32))) := hD
          refine lv_iload_n hx hb dX4_reach_117 rfl (lv_at hl 3 rfl) ?_
          refine lv_bipush (v := (11 : Int32)) hx hb dX4_reach_118 (by decide) ?_
          refine lv_icmp_ne (tgt := 134) hx hb dX4_reach_120 (by decide) (fun _ => ?_) (fun c9 => absurd c9 c_3)
          refine lv_iconst (v := (-1 : Int32)) hx hb dX4_reach_134 (by decide) ?_
          exact W.iret (v := (-1 : Int32)) hx hb hr (wr_end (congrArg (fun t9 : Int32 × MD => some (Value.int t9.1)) ((show fX4_reach w a1 a2 a3 = ((-1 : Int32), (ms12 o3 (1 : Int32))) from (by subst h_o2; subst h_o3; exact (if_neg c_3).trans ((if_neg c_24).trans ((if_pos c_60).trans ((if_pos c_109).trans rfl))))).symm.trans ho)) (congrArg (fun t9 : Int32 × MD => wM k z t9.2) ((show fX4_reach w a1 a2 a3 = ((-1 : Int32), (ms12 o3 (1 : Int32))) from (by subst h_o2; subst h_o3; exact (if_neg c_3).trans ((if_neg c_24).trans ((if_pos c_60).trans ((if_pos c_109).trans rfl))))).symm.trans ho)) hP hS) hS.2.2 dX4_reach_135
      · refine lv_iload hx hb dX4_reach_63 (lv_at hl 0 rfl) ?_
        exact W.iret (v := o2.1) hx hb hr (wr_end (congrArg (fun t9 : Int32 × MD => some (Value.int t9.1)) ((show fX4_reach w a1 a2 a3 = (o2.1, o2.2) from (by subst h_o2; exact (if_neg c_3).trans ((if_neg c_24).trans ((if_neg c_60).trans rfl)))).symm.trans ho)) (congrArg (fun t9 : Int32 × MD => wM k z t9.2) ((show fX4_reach w a1 a2 a3 = (o2.1, o2.2) from (by subst h_o2; exact (if_neg c_3).trans ((if_neg c_24).trans ((if_neg c_60).trans rfl)))).symm.trans ho)) hP hS) hS.2.2 dX4_reach_65
  · refine lv_aload_n hx hb dX4_reach_6 rfl (lv_at hl 0 rfl) ?_
    refine va_get (D := D) (ci := 3) (v := .int w.2.2.2.2.2.2.2.2.2.2.2.2.1) (C := RX4) (T := TX4) (N := 20) hx hb hts (by decide +kernel) hown hK hP 0 rfl rfl 13 (by decide) (hts (.fieldLink RX4 89 "TrapMachineModel" "link" "Z") (by decide +kernel)) (fun _ h9 => h9) rfl dX4_reach_7 ?_
    refine lv_if_ne (tgt := 21) hx hb dX4_reach_10 (by decide) (fun c_10 => ?_) (fun c_10 => ?_)
    · refine lv_iload_n hx hb dX4_reach_21 rfl (lv_at hl 1 rfl) ?_
      refine lv_bipush (v := (9 : Int32)) hx hb dX4_reach_22 (by decide) ?_
      refine lv_icmp_eq (tgt := 33) hx hb dX4_reach_24 (by decide) (fun c9 => absurd c9 (show ¬ (a1 = (9 : Int32)) by rw [c_3]; decide)) (fun _ => ?_)
      refine lv_iload_n hx hb dX4_reach_27 rfl (lv_at hl 1 rfl) ?_
      refine lv_bipush (v := (11 : Int32)) hx hb dX4_reach_28 (by decide) ?_
      refine lv_icmp_ne (tgt := 37) hx hb dX4_reach_30 (by decide) (fun c9 => absurd c_3 c9) (fun _ => ?_)
      refine lv_iconst (v := (1 : Int32)) hx hb dX4_reach_33 (by decide) ?_
      refine lv_goto (tgt := 38) hx hb dX4_reach_34 (by decide) ?_
      refine lv_istore (lv' := [(4, .int (1 : Int32)), (0, .ref (z 0)), (1, .int a1), (2, .int a2), (3, .int a3)]) hx hb dX4_reach_38 hl (by decide) rfl (fun ls hl => ?_)
      refine lv_aload_n hx hb dX4_reach_40 rfl (lv_at hl 1 rfl) ?_
      refine lv_iload_n hx hb dX4_reach_41 rfl (lv_at hl 4 rfl) ?_
      refine lv_iload hx hb dX4_reach_42 (lv_at hl 0 rfl) ?_
      refine lv_if_eq (tgt := 51) hx hb dX4_reach_44 (by decide) (fun c9 => absurd c9 (by decide)) (fun _ => ?_)
      refine lv_iconst (v := (2 : Int32)) hx hb dX4_reach_47 (by decide) ?_
      refine lv_goto (tgt := 52) hx hb dX4_reach_48 (by decide) ?_
      obtain ⟨o4, h_o4⟩ : ∃ o9, (fX4_lookUp w a3 (2 : Int32)) = o9 := ⟨_, rfl⟩
      refine wr_call (r := (some (.int o4.1))) (ws' := wM k z o4.2) (W.runV (C := RX4) (b := (z 0)) (As := [.int a3, .int (2 : Int32)]) (rest := []) ⟨hx, hb, hml, hown, hts⟩ (kX4_lookUp l D k z w a3 (2 : Int32) o4 h_o4) (cwV 2 hts gX4_reach_X4_lookUp rfl rfl rfl (by decide +kernel) ⟨Nat.le_of_ble_eq_true rfl, Nat.le_of_ble_eq_true rfl⟩) (wr_preV bl_T pr_T hK hP hD (va_recv hK hP (ci := 3) (q0 := 0) rfl rfl)) rfl rfl hl.1 rfl (lv_room (Nat.le_of_ble_eq_true rfl)) dX4_reach_52 ⟨Nat.zero_le _, Nat.zero_le _⟩) hP hD hS [0, 1, 2, 3, 4, 5, 6, 7, 8, 9] [] [0, 1, 2, 3, 4, 5, 6, 7, 8, 9] allM (by decide) prmM adrM (fun H locs hP hD hS => ?_)
      refine lv_istore (lv' := [(5, .int o4.1), (4, .int (1 : Int32)), (0, .ref (z 0)), (1, .int a1), (2, .int a2), (3, .int a3)]) hx hb dX4_reach_55 hl (by decide) rfl (fun ls hl => ?_)
      refine lv_iload hx hb dX4_reach_57 (lv_at hl 0 rfl) ?_
      refine lv_iconst (v := (-1 : Int32)) hx hb dX4_reach_59 (by decide) ?_
      refine lv_icmp_eq (tgt := 66) hx hb dX4_reach_60 (by decide) (fun c_60 => ?_) (fun c_60 => ?_)
      · refine lv_iload hx hb dX4_reach_66 (lv_at hl 1 rfl) ?_
        refine lv_if_eq (tgt := 92) hx hb dX4_reach_68 (by decide) (fun c9 => absurd c9 (by decide)) (fun _ => ?_)
        refine lv_aload_n hx hb dX4_reach_71 rfl (lv_at hl 2 rfl) ?_
        refine va_get (D := D) (ci := 3) (v := .ref (z 1)) (C := RX4) (T := TX4) (N := 20) hx hb hts (by decide +kernel) hown hK hP 0 rfl rfl 1 (by decide) (hts (.fieldLink RX4 7 "TrapMachineModel" "memory" "[I") (by decide +kernel)) (fun _ h9 => h9) rfl dX4_reach_72 ?_
        refine lv_aload_n hx hb dX4_reach_75 rfl (lv_at hl 2 rfl) ?_
        refine va_get (D := D) (ci := 3) (v := .int o4.2.2.2.2.2.2.2.2.2.2.2.2.2.2.2.2.2.2.1) (C := RX4) (T := TX4) (N := 20) hx hb hts (by decide +kernel) hown hK hP 0 rfl rfl 18 (by decide) (hts (.fieldLink RX4 68 "TrapMachineModel" "found" "I") (by decide +kernel)) (fun _ h9 => h9) rfl dX4_reach_76 ?_
        refine lv_aload_n hx hb dX4_reach_79 rfl (lv_at hl 2 rfl) ?_
        refine va_get (D := D) (ci := 3) (v := .ref (z 2)) (C := RX4) (T := TX4) (N := 20) hx hb hts (by decide +kernel) hown hK hP 0 rfl rfl 2 (by decide) (hts (.fieldLink RX4 13 "TrapMachineModel" "register" "[I") (by decide +kernel)) (fun _ h9 => h9) rfl dX4_reach_80 ?_
        refine lv_iload_n hx hb dX4_reach_83 rfl (lv_at hl 4 rfl) ?_
        refine lv_bipush (v := (8 : Int32)) hx hb dX4_reach_84 (by decide) ?_
        refine lv_irem hx hb dX4_reach_86 (by decide) ?_
        refine q_iald (j := (ix (a2 - a2 / (8 : Int32) * (8 : Int32)))) (x9 := (o4.2.2.2.1 (ix (a2 - a2 / (8 : Int32) * (8 : Int32))))) hx hb hK hP 2 0 rfl rfl (rem8_in h2) rfl rfl dX4_reach_87 ?_
        refine q_iast (j := (ix o4.2.2.2.2.2.2.2.2.2.2.2.2.2.2.2.2.2.2.1)) (ws' := wM k z (ms1 o4.2 (upd o4.2.2.1 (ix o4.2.2.2.2.2.2.2.2.2.2.2.2.2.2.2.2.2.2.1) (o4.2.2.2.1 (ix (a2 - a2 / (8 : Int32) * (8 : Int32))))))) hx hb hK hP hD hS 1 0 rfl rfl (found_in h_o4 c_60) rfl rfl dX4_reach_88 (fun H locs hP hD hS => ?_)
        refine lv_goto (tgt := 106) hx hb dX4_reach_89 (by decide) ?_
        refine lv_iload_n hx hb dX4_reach_106 rfl (lv_at hl 3 rfl) ?_
        refine lv_bipush (v := (10 : Int32)) hx hb dX4_reach_107 (by decide) ?_
        refine lv_icmp_ne (tgt := 117) hx hb dX4_reach_109 (by decide) (fun _ => ?_) (fun c9 => absurd c9 (show ¬ (a1 = (10 : Int32)) by rw [c_3]; decide))
        refine lv_iload_n hx hb dX4_reach_117 rfl (lv_at hl 3 rfl) ?_
        refine lv_bipush (v := (11 : Int32)) hx hb dX4_reach_118 (by decide) ?_
        refine lv_icmp_ne (tgt := 134) hx hb dX4_reach_120 (by decide) (fun c9 => absurd c_3 c9) (fun _ => ?_)
        refine lv_aload_n hx hb dX4_reach_123 rfl (lv_at hl 2 rfl) ?_
        refine lv_iconst (v := (0 : Int32)) hx hb dX4_reach_124 (by decide) ?_
        refine va_put (D := D) (ci := 3) (v := .int (0 : Int32)) (ty := .boolean) (C := RX4) (T := TX4) (N := 20) hx hb hts (by decide +kernel) tyX4 tyX4_ok nmX4 hown hK hP hD hS 0 rfl rfl 13 (by decide) (hts (.fieldLink RX4 89 "TrapMachineModel" "link" "Z") (by decide +kernel)) (fun _ h9 => h9) rfl (by decide +kernel) rfl rfl (Nat.le_of_ble_eq_true rfl) dX4_reach_125 (fun H locs hP hD hS => ?_)
        have hP : va_P D vwCl (wM k z (ms12 (ms1 o4.2 (upd o4.2.2.1 (ix o4.2.2.2.2.2.2.2.2.2.2.2.2.2.2.2.2.2.2.1) (o4.2.2.2.1 (ix (a2 - a2 / (8 : Int32) * (8 : Int32)))))) (0 : Int32))) H := hP
        have hD : va_D (in_W (wM k z w)) (wM k z (ms12 (ms1 o4.2 (upd o4.2.2.1 (ix o4.2.2.2.2.2.2.2.2.2.2.2.2.2.2.2.2.2.2.1) (o4.2.2.2.1 (ix (a2 - a2 / (8 : Int32) * (8 : Int32)))))) (0 : Int32))) := hD
        refine lv_aload_n hx hb dX4_reach_128 rfl (lv_at hl 2 rfl) ?_
        refine lv_iload_n hx hb dX4_reach_129 rfl (lv_at hl 4 rfl) ?_
        refine lv_iconst (v := (1 : Int32)) hx hb dX4_reach_130 (by decide) ?_
        obtain ⟨o5, h_o5⟩ : ∃ o9, (fX4_put (ms12 (ms1 o4.2 (upd o4.2.2.1 (ix o4.2.2.2.2.2.2.2.2.2.2.2.2.2.2.2.2.2.2.1) (o4.2.2.2.1 (ix (a2 - a2 / (8 : Int32) * (8 : Int32)))))) (0 : Int32)) a2 (1 : Int32)) = o9 := ⟨_, rfl⟩
        refine wr_call (r := none) (ws' := wM k z o5) (W.runV (C := RX4) (b := (z 0)) (As := [.int a2, .int (1 : Int32)]) (rest := []) ⟨hx, hb, hml, hown, hts⟩ (kX4_put l D k z (ms12 (ms1 o4.2 (upd o4.2.2.1 (ix o4.2.2.2.2.2.2.2.2.2.2.2.2.2.2.2.2.2.2.1) (o4.2.2.2.1 (ix (a2 - a2 / (8 : Int32) * (8 : Int32)))))) (0 : Int32)) a2 (1 : Int32) h2 o5 h_o5) (cwV 2 hts gX4_reach_X4_put rfl rfl rfl (by decide +kernel) ⟨Nat.le_of_ble_eq_true rfl, Nat.le_of_ble_eq_true rfl⟩) (wr_preV bl_T pr_T hK hP hD (va_recv hK hP (ci := 3) (q0 := 0) rfl rfl)) rfl rfl hl.1 rfl (lv_room (Nat.le_of_ble_eq_true rfl)) dX4_reach_131 ⟨Nat.zero_le _, Nat.zero_le _⟩) hP hD hS [0, 1, 2, 3, 4, 5, 6, 7, 8, 9] [] [0, 1, 2, 3, 4, 5, 6, 7, 8, 9] allM (by decide) prmM adrM (fun H locs hP hD hS => ?_)
        refine lv_iconst (v := (-1 : Int32)) hx hb dX4_reach_134 (by decide) ?_
        exact W.iret (v := (-1 : Int32)) hx hb hr (wr_end (congrArg (fun t9 : Int32 × MD => some (Value.int t9.1)) ((show fX4_reach w a1 a2 a3 = ((-1 : Int32), o5) from (by subst h_o4; subst h_o5; exact (if_pos c_3).trans ((if_neg c_10).trans ((if_pos c_60).trans rfl)))).symm.trans ho)) (congrArg (fun t9 : Int32 × MD => wM k z t9.2) ((show fX4_reach w a1 a2 a3 = ((-1 : Int32), o5) from (by subst h_o4; subst h_o5; exact (if_pos c_3).trans ((if_neg c_10).trans ((if_pos c_60).trans rfl)))).symm.trans ho)) hP hS) hS.2.2 dX4_reach_135
      · refine lv_iload hx hb dX4_reach_63 (lv_at hl 0 rfl) ?_
        exact W.iret (v := o4.1) hx hb hr (wr_end (congrArg (fun t9 : Int32 × MD => some (Value.int t9.1)) ((show fX4_reach w a1 a2 a3 = (o4.1, o4.2) from (by subst h_o4; exact (if_pos c_3).trans ((if_neg c_10).trans ((if_neg c_60).trans rfl)))).symm.trans ho)) (congrArg (fun t9 : Int32 × MD => wM k z t9.2) ((show fX4_reach w a1 a2 a3 = (o4.1, o4.2) from (by subst h_o4; exact (if_pos c_3).trans ((if_neg c_10).trans ((if_neg c_60).trans rfl)))).symm.trans ho)) hP hS) hS.2.2 dX4_reach_65
    · refine lv_aload_n hx hb dX4_reach_13 rfl (lv_at hl 0 rfl) ?_
      refine lv_iload_n hx hb dX4_reach_14 rfl (lv_at hl 2 rfl) ?_
      refine lv_iconst (v := (0 : Int32)) hx hb dX4_reach_15 (by decide) ?_
      obtain ⟨o6, h_o6⟩ : ∃ o9, (fX4_put w a2 (0 : Int32)) = o9 := ⟨_, rfl⟩
      refine wr_call (r := none) (ws' := wM k z o6) (W.runV (C := RX4) (b := (z 0)) (As := [.int a2, .int (0 : Int32)]) (rest := []) ⟨hx, hb, hml, hown, hts⟩ (kX4_put l D k z w a2 (0 : Int32) h2 o6 h_o6) (cwV 2 hts gX4_reach_X4_put rfl rfl rfl (by decide +kernel) ⟨Nat.le_of_ble_eq_true rfl, Nat.le_of_ble_eq_true rfl⟩) (wr_preV bl_T pr_T hK hP hD (va_recv hK hP (ci := 3) (q0 := 0) rfl rfl)) rfl rfl hl.1 rfl (lv_room (Nat.le_of_ble_eq_true rfl)) dX4_reach_16 ⟨Nat.zero_le _, Nat.zero_le _⟩) hP hD hS [0, 1, 2, 3, 4, 5, 6, 7, 8, 9] [] [0, 1, 2, 3, 4, 5, 6, 7, 8, 9] allM (by decide) prmM adrM (fun H locs hP hD hS => ?_)
      refine lv_iconst (v := (-1 : Int32)) hx hb dX4_reach_19 (by decide) ?_
      exact W.iret (v := (-1 : Int32)) hx hb hr (wr_end (congrArg (fun t9 : Int32 × MD => some (Value.int t9.1)) ((show fX4_reach w a1 a2 a3 = ((-1 : Int32), o6) from (by subst h_o6; exact (if_pos c_3).trans ((if_pos c_10).trans rfl))).symm.trans ho)) (congrArg (fun t9 : Int32 × MD => wM k z t9.2) ((show fX4_reach w a1 a2 a3 = ((-1 : Int32), o6) from (by subst h_o6; exact (if_pos c_3).trans ((if_pos c_10).trans rfl))).symm.trans ho)) hP hS) hS.2.2 dX4_reach_20
def fX4_go (w : MD) (a1 : Int32) (a2 : Int32) (a3 : Int32) (a4 : Int32) : Int32 × MD :=
  if a1 = (16 : Int32) then
    ((fX4_with w (a1 - (5 : Int32)) (0 : Int32) (0 : Int32)).1, (fX4_with w (a1 - (5 : Int32)) (0 : Int32) (0 : Int32)).2)
  else
    if a1 = (17 : Int32) then
      ((fX4_with w (a1 - (5 : Int32)) (0 : Int32) (0 : Int32)).1, (fX4_with w (a1 - (5 : Int32)) (0 : Int32) (0 : Int32)).2)
    else
      if a1 = (12 : Int32) then
        if (w.2.2.1 (ix (a2 - a2 / (8 : Int32) * (8 : Int32)))) = (w.2.2.1 (ix (a3 - a3 / (8 : Int32) * (8 : Int32)))) then
          ((-1 : Int32), (ms10 w (w.2.2.2.2.2.2.2.2.2.1 + ((4 : Int32) * a4))))
        else
          ((-1 : Int32), (ms10 w w.2.2.2.2.2.2.2.2.2.2.1))
      else
        if a1 = (13 : Int32) then
          if (w.2.2.1 (ix (a2 - a2 / (8 : Int32) * (8 : Int32)))) = (w.2.2.1 (ix (a3 - a3 / (8 : Int32) * (8 : Int32)))) then
            ((-1 : Int32), (ms10 w w.2.2.2.2.2.2.2.2.2.2.1))
          else
            ((-1 : Int32), (ms10 w (w.2.2.2.2.2.2.2.2.2.1 + ((4 : Int32) * a4))))
        else
          if a1 = (14 : Int32) then
            if (w.2.2.1 (ix (a3 - a3 / (8 : Int32) * (8 : Int32)))) ≤ (w.2.2.1 (ix (a2 - a2 / (8 : Int32) * (8 : Int32)))) then
              ((-1 : Int32), (ms10 w w.2.2.2.2.2.2.2.2.2.2.1))
            else
              ((-1 : Int32), (ms10 w (w.2.2.2.2.2.2.2.2.2.1 + ((4 : Int32) * a4))))
          else
            if a1 = (15 : Int32) then
              ((-1 : Int32), (fX4_put (ms10 w ((w.2.2.1 (ix (a3 - a3 / (8 : Int32) * (8 : Int32)))) + ((4 : Int32) * a4))) a2 (w.2.2.2.2.2.2.2.2.2.1 + (4 : Int32))))
            else
              ((-1 : Int32), (ms10 w w.2.2.2.2.2.2.2.2.2.2.1))
set_option maxHeartbeats 4000000 in
set_option maxRecDepth 100000 in
theorem kX4_go (l : Launch) (D : va_G) (k : Nat → ClassId) (z : Nat → Nat) (w : MD) (a1 : Int32) (a2 : Int32) (a3 : Int32) (a4 : Int32) (h2 : vp_in a2 256) (h3 : vp_in a3 256) (o : Int32 × (MD)) (ho : fX4_go w a1 a2 a3 a4 = o) : Met l yX4_go wsX4_go { frames := 1, cells := 0, slots := 0, locals := 23 } (wr_P D vwCl (tyL k) (wM k z w) (fun _ => True) [.ref (z 0), .int a1, .int a2, .int a3, .int a4]) (wr_Q D vwCl (some (.int o.1)) (wM k z w) (wM k z o.2)) 0 0 (in_W (wM k z w)) := by
  refine Met.ofW (cc := cX4_go) (maxL := 8) (ret := (some .int)) (by decide) rfl ?_
  intro p e s m args below meth c s₁ B hml hv0
  obtain ⟨rfl, hP, hK, hX, hD0⟩ := hv0
  have hx := B.exec
  have hb := B.bytes
  have hr := B.returns
  have hts := atoms_spec (ws := wsX4_go) B.pre
  have hown : s.vm.findClass RX4 = some m.cls := findClass_of_methodNamed B.named
  have hlocks := B.notSynchronized
  have hD : va_D (in_W (wM k z w)) (wM k z w) := wD_self hD0
  have hS : va_S (in_W (wM k z w)) s.heap s.heap [] := va_S.rf
  have hl := lv_entry ([.ref (z 0), .int a1, .int a2, .int a3, .int a4]) (n := 8) (Nat.le_of_ble_eq_true rfl)
  rw [lg_entry_eq]
  generalize (lg_sl ([.ref (z 0), .int a1, .int a2, .int a3, .int a4]) ++ List.replicate (8 - (lg_sl ([.ref (z 0), .int a1, .int a2, .int a3, .int a4])).length) Slot.unset).toArray = ls at hl ⊢
  have hl : lv_has ls 8 [(0, .ref (z 0)), (1, .int a1), (2, .int a2), (3, .int a3), (4, .int a4)] := hl
  refine lv_aload_n hx hb dX4_go_0 rfl (lv_at hl 0 rfl) ?_
  refine va_get (D := D) (ci := 3) (v := .ref (z 2)) (C := RX4) (T := TX4) (N := 20) hx hb hts (by decide +kernel) hown hK hP 0 rfl rfl 2 (by decide) (hts (.fieldLink RX4 13 "TrapMachineModel" "register" "[I") (by decide +kernel)) (fun _ h9 => h9) rfl dX4_go_1 ?_
  refine lv_iload_n hx hb dX4_go_4 rfl (lv_at hl 2 rfl) ?_
  refine lv_bipush (v := (8 : Int32)) hx hb dX4_go_5 (by decide) ?_
  refine lv_irem hx hb dX4_go_7 (by decide) ?_
  refine q_iald (j := (ix (a2 - a2 / (8 : Int32) * (8 : Int32)))) (x9 := (w.2.2.1 (ix (a2 - a2 / (8 : Int32) * (8 : Int32))))) hx hb hK hP 2 0 rfl rfl (rem8_in h2) rfl rfl dX4_go_8 ?_
  refine lv_istore (lv' := [(5, .int (w.2.2.1 (ix (a2 - a2 / (8 : Int32) * (8 : Int32))))), (0, .ref (z 0)), (1, .int a1), (2, .int a2), (3, .int a3), (4, .int a4)]) hx hb dX4_go_9 hl (by decide) rfl (fun ls hl => ?_)
  refine lv_aload_n hx hb dX4_go_11 rfl (lv_at hl 1 rfl) ?_
  refine va_get (D := D) (ci := 3) (v := .ref (z 2)) (C := RX4) (T := TX4) (N := 20) hx hb hts (by decide +kernel) hown hK hP 0 rfl rfl 2 (by decide) (hts (.fieldLink RX4 13 "TrapMachineModel" "register" "[I") (by decide +kernel)) (fun _ h9 => h9) rfl dX4_go_12 ?_
  refine lv_iload_n hx hb dX4_go_15 rfl (lv_at hl 4 rfl) ?_
  refine lv_bipush (v := (8 : Int32)) hx hb dX4_go_16 (by decide) ?_
  refine lv_irem hx hb dX4_go_18 (by decide) ?_
  refine q_iald (j := (ix (a3 - a3 / (8 : Int32) * (8 : Int32)))) (x9 := (w.2.2.1 (ix (a3 - a3 / (8 : Int32) * (8 : Int32))))) hx hb hK hP 2 0 rfl rfl (rem8_in h3) rfl rfl dX4_go_19 ?_
  refine lv_istore (lv' := [(6, .int (w.2.2.1 (ix (a3 - a3 / (8 : Int32) * (8 : Int32))))), (5, .int (w.2.2.1 (ix (a2 - a2 / (8 : Int32) * (8 : Int32))))), (0, .ref (z 0)), (1, .int a1), (2, .int a2), (3, .int a3), (4, .int a4)]) hx hb dX4_go_20 hl (by decide) rfl (fun ls hl => ?_)
  refine lv_iload_n hx hb dX4_go_22 rfl (lv_at hl 3 rfl) ?_
  refine lv_bipush (v := (16 : Int32)) hx hb dX4_go_23 (by decide) ?_
  refine lv_icmp_eq (tgt := 34) hx hb dX4_go_25 (by decide) (fun c_25 => ?_) (fun c_25 => ?_)
  · refine lv_aload_n hx hb dX4_go_34 rfl (lv_at hl 2 rfl) ?_
    refine lv_iload_n hx hb dX4_go_35 rfl (lv_at hl 3 rfl) ?_
    refine lv_iconst (v := (5 : Int32)) hx hb dX4_go_36 (by decide) ?_
    refine lv_isub hx hb dX4_go_37 ?_
    refine lv_iconst (v := (0 : Int32)) hx hb dX4_go_38 (by decide) ?_
    refine lv_iconst (v := (0 : Int32)) hx hb dX4_go_39 (by decide) ?_
    obtain ⟨o1, h_o1⟩ : ∃ o9, (fX4_with w (a1 - (5 : Int32)) (0 : Int32) (0 : Int32)) = o9 := ⟨_, rfl⟩
    refine wr_call (r := (some (.int o1.1))) (ws' := wM k z o1.2) (W.runV (C := RX4) (b := (z 0)) (As := [.int (a1 - (5 : Int32)), .int (0 : Int32), .int (0 : Int32)]) (rest := []) ⟨hx, hb, hml, hown, hts⟩ (kX4_with l D k z w (a1 - (5 : Int32)) (0 : Int32) (0 : Int32) o1 h_o1) (cwV 3 hts gX4_go_X4_with rfl rfl rfl (by decide +kernel) ⟨Nat.le_of_ble_eq_true rfl, Nat.le_of_ble_eq_true rfl⟩) (wr_preV bl_T pr_T hK hP hD (va_recv hK hP (ci := 3) (q0 := 0) rfl rfl)) rfl rfl hl.1 rfl (lv_room (Nat.le_of_ble_eq_true rfl)) dX4_go_40 ⟨Nat.zero_le _, Nat.zero_le _⟩) hP hD hS [0, 1, 2, 3, 4, 5, 6, 7, 8, 9] [] [0, 1, 2, 3, 4, 5, 6, 7, 8, 9] allM (by decide) prmM adrM (fun H locs hP hD hS => ?_)
    exact W.iret (v := o1.1) hx hb hr (wr_end (congrArg (fun t9 : Int32 × MD => some (Value.int t9.1)) ((show fX4_go w a1 a2 a3 a4 = (o1.1, o1.2) from (by subst h_o1; exact (if_pos c_25).trans rfl)).symm.trans ho)) (congrArg (fun t9 : Int32 × MD => wM k z t9.2) ((show fX4_go w a1 a2 a3 a4 = (o1.1, o1.2) from (by subst h_o1; exact (if_pos c_25).trans rfl)).symm.trans ho)) hP hS) hS.2.2 dX4_go_43
  · refine lv_iload_n hx hb dX4_go_28 rfl (lv_at hl 3 rfl) ?_
    refine lv_bipush (v := (17 : Int32)) hx hb dX4_go_29 (by decide) ?_
    refine lv_icmp_ne (tgt := 44) hx hb dX4_go_31 (by decide) (fun c_31 => ?_) (fun c_31 => ?_)
    · refine lv_iload_n hx hb dX4_go_44 rfl (lv_at hl 3 rfl) ?_
      refine lv_bipush (v := (12 : Int32)) hx hb dX4_go_45 (by decide) ?_
      refine lv_icmp_ne (tgt := 57) hx hb dX4_go_47 (by decide) (fun c_47 => ?_) (fun c_47 => ?_)
      · refine lv_iload_n hx hb dX4_go_57 rfl (lv_at hl 3 rfl) ?_
        refine lv_bipush (v := (13 : Int32)) hx hb dX4_go_58 (by decide) ?_
        refine lv_icmp_ne (tgt := 70) hx hb dX4_go_60 (by decide) (fun c_60 => ?_) (fun c_60 => ?_)
        · refine lv_iload_n hx hb dX4_go_70 rfl (lv_at hl 3 rfl) ?_
          refine lv_bipush (v := (14 : Int32)) hx hb dX4_go_71 (by decide) ?_
          refine lv_icmp_ne (tgt := 87) hx hb dX4_go_73 (by decide) (fun c_73 => ?_) (fun c_73 => ?_)
          · refine lv_iconst (v := (0 : Int32)) hx hb dX4_go_87 (by decide) ?_
            refine lv_istore (lv' := [(7, .int (0 : Int32)), (6, .int (w.2.2.1 (ix (a3 - a3 / (8 : Int32) * (8 : Int32))))), (5, .int (w.2.2.1 (ix (a2 - a2 / (8 : Int32) * (8 : Int32))))), (0, .ref (z 0)), (1, .int a1), (2, .int a2), (3, .int a3), (4, .int a4)]) hx hb dX4_go_88 hl (by decide) rfl (fun ls hl => ?_)
            refine lv_aload_n hx hb dX4_go_90 rfl (lv_at hl 3 rfl) ?_
            refine lv_iload_n hx hb dX4_go_91 rfl (lv_at hl 4 rfl) ?_
            refine lv_bipush (v := (15 : Int32)) hx hb dX4_go_92 (by decide) ?_
            refine lv_icmp_ne (tgt := 107) hx hb dX4_go_94 (by decide) (fun c_94 => ?_) (fun c_94 => ?_)
            · refine lv_iload hx hb dX4_go_107 (lv_at hl 0 rfl) ?_
              refine lv_if_eq (tgt := 124) hx hb dX4_go_109 (by decide) (fun _ => ?_) (fun c9 => absurd (by decide) c9)
              refine lv_aload_n hx hb dX4_go_124 rfl (lv_at hl 3 rfl) ?_
              refine va_get (D := D) (ci := 3) (v := .int w.2.2.2.2.2.2.2.2.2.2.1) (C := RX4) (T := TX4) (N := 20) hx hb hts (by decide +kernel) hown hK hP 0 rfl rfl 11 (by decide) (hts (.fieldLink RX4 100 "TrapMachineModel" "next" "I") (by decide +kernel)) (fun _ h9 => h9) rfl dX4_go_125 ?_
              refine va_put (D := D) (ci := 3) (v := .int w.2.2.2.2.2.2.2.2.2.2.1) (ty := .int) (C := RX4) (T := TX4) (N := 20) hx hb hts (by decide +kernel) tyX4 tyX4_ok nmX4 hown hK hP hD hS 0 rfl rfl 11 (by decide) (hts (.fieldLink RX4 100 "TrapMachineModel" "next" "I") (by decide +kernel)) (fun _ h9 => h9) rfl (by decide +kernel) rfl rfl (Nat.le_of_ble_eq_true rfl) dX4_go_128 (fun H locs hP hD hS => ?_)
              have hP : va_P D vwCl (wM k z (ms10 w w.2.2.2.2.2.2.2.2.2.2.1)) H := hP
              have hD : va_D (in_W (wM k z w)) (wM k z (ms10 w w.2.2.2.2.2.2.2.2.2.2.1)) := hD
              refine lv_iload_n hx hb dX4_go_131 rfl (lv_at hl 4 rfl) ?_
              refine lv_bipush (v := (15 : Int32)) hx hb dX4_go_132 (by decide) ?_
              refine lv_icmp_ne (tgt := 148) hx hb dX4_go_134 (by decide) (fun _ => ?_) (fun c9 => absurd c9 c_94)
              refine lv_iconst (v := (-1 : Int32)) hx hb dX4_go_148 (by decide) ?_
              exact W.iret (v := (-1 : Int32)) hx hb hr (wr_end (congrArg (fun t9 : Int32 × MD => some (Value.int t9.1)) ((show fX4_go w a1 a2 a3 a4 = ((-1 : Int32), (ms10 w w.2.2.2.2.2.2.2.2.2.2.1)) from (if_neg c_25).trans ((if_neg c_31).trans ((if_neg c_47).trans ((if_neg c_60).trans ((if_neg c_73).trans ((if_neg c_94).trans rfl)))))).symm.trans ho)) (congrArg (fun t9 : Int32 × MD => wM k z t9.2) ((show fX4_go w a1 a2 a3 a4 = ((-1 : Int32), (ms10 w w.2.2.2.2.2.2.2.2.2.2.1)) from (if_neg c_25).trans ((if_neg c_31).trans ((if_neg c_47).trans ((if_neg c_60).trans ((if_neg c_73).trans ((if_neg c_94).trans rfl)))))).symm.trans ho)) hP hS) hS.2.2 dX4_go_149
            · refine lv_iload hx hb dX4_go_97 (lv_at hl 1 rfl) ?_
              refine lv_iconst (v := (4 : Int32)) hx hb dX4_go_99 (by decide) ?_
              refine lv_iload hx hb dX4_go_100 (lv_at hl 7 rfl) ?_
              refine lv_imul hx hb dX4_go_102 ?_
              refine lv_iadd hx hb dX4_go_103 ?_
              refine lv_goto (tgt := 128) hx hb dX4_go_104 (by decide) ?_
              refine va_put (D := D) (ci := 3) (v := .int ((w.2.2.1 (ix (a3 - a3 / (8 : Int32) * (8 : Int32)))) + ((4 : Int32) * a4))) (ty := .int) (C := RX4) (T := TX4) (N := 20) hx hb hts (by decide +kernel) tyX4 tyX4_ok nmX4 hown hK hP hD hS 0 rfl rfl 11 (by decide) (hts (.fieldLink RX4 100 "TrapMachineModel" "next" "I") (by decide +kernel)) (fun _ h9 => h9) rfl (by decide +kernel) rfl rfl (Nat.le_of_ble_eq_true rfl) dX4_go_128 (fun H locs hP hD hS => ?_)
              have hP : va_P D vwCl (wM k z (ms10 w ((w.2.2.1 (ix (a3 - a3 / (8 : Int32) * (8 : Int32)))) + ((4 : Int32) * a4)))) H := hP
              have hD : va_D (in_W (wM k z w)) (wM k z (ms10 w ((w.2.2.1 (ix (a3 - a3 / (8 : Int32) * (8 : Int32)))) + ((4 : Int32) * a4)))) := hD
              refine lv_iload_n hx hb dX4_go_131 rfl (lv_at hl 4 rfl) ?_
              refine lv_bipush (v := (15 : Int32)) hx hb dX4_go_132 (by decide) ?_
              refine lv_icmp_ne (tgt := 148) hx hb dX4_go_134 (by decide) (fun c9 => absurd c_94 c9) (fun _ => ?_)
              refine lv_aload_n hx hb dX4_go_137 rfl (lv_at hl 3 rfl) ?_
              refine lv_iload_n hx hb dX4_go_138 rfl (lv_at hl 5 rfl) ?_
              refine lv_aload_n hx hb dX4_go_139 rfl (lv_at hl 3 rfl) ?_
              refine va_get (D := D) (ci := 3) (v := .int w.2.2.2.2.2.2.2.2.2.1) (C := RX4) (T := TX4) (N := 20) hx hb hts (by decide +kernel) hown hK hP 0 rfl rfl 10 (by decide) (hts (.fieldLink RX4 51 "TrapMachineModel" "place" "I") (by decide +kernel)) (fun _ h9 => h9) rfl dX4_go_140 ?_
              refine lv_iconst (v := (4 : Int32)) hx hb dX4_go_143 (by decide) ?_
              refine lv_iadd hx hb dX4_go_144 ?_
              obtain ⟨o2, h_o2⟩ : ∃ o9, (fX4_put (ms10 w ((w.2.2.1 (ix (a3 - a3 / (8 : Int32) * (8 : Int32)))) + ((4 : Int32) * a4))) a2 (w.2.2.2.2.2.2.2.2.2.1 + (4 : Int32))) = o9 := ⟨_, rfl⟩
              refine wr_call (r := none) (ws' := wM k z o2) (W.runV (C := RX4) (b := (z 0)) (As := [.int a2, .int (w.2.2.2.2.2.2.2.2.2.1 + (4 : Int32))]) (rest := []) ⟨hx, hb, hml, hown, hts⟩ (kX4_put l D k z (ms10 w ((w.2.2.1 (ix (a3 - a3 / (8 : Int32) * (8 : Int32)))) + ((4 : Int32) * a4))) a2 (w.2.2.2.2.2.2.2.2.2.1 + (4 : Int32)) h2 o2 h_o2) (cwV 2 hts gX4_go_X4_put rfl rfl rfl (by decide +kernel) ⟨Nat.le_of_ble_eq_true rfl, Nat.le_of_ble_eq_true rfl⟩) (wr_preV bl_T pr_T hK hP hD (va_recv hK hP (ci := 3) (q0 := 0) rfl rfl)) rfl rfl hl.1 rfl (lv_room (Nat.le_of_ble_eq_true rfl)) dX4_go_145 ⟨Nat.zero_le _, Nat.zero_le _⟩) hP hD hS [0, 1, 2, 3, 4, 5, 6, 7, 8, 9] [] [0, 1, 2, 3, 4, 5, 6, 7, 8, 9] allM (by decide) prmM adrM (fun H locs hP hD hS => ?_)
              refine lv_iconst (v := (-1 : Int32)) hx hb dX4_go_148 (by decide) ?_
              exact W.iret (v := (-1 : Int32)) hx hb hr (wr_end (congrArg (fun t9 : Int32 × MD => some (Value.int t9.1)) ((show fX4_go w a1 a2 a3 a4 = ((-1 : Int32), o2) from (by subst h_o2; exact (if_neg c_25).trans ((if_neg c_31).trans ((if_neg c_47).trans ((if_neg c_60).trans ((if_neg c_73).trans ((if_pos c_94).trans rfl))))))).symm.trans ho)) (congrArg (fun t9 : Int32 × MD => wM k z t9.2) ((show fX4_go w a1 a2 a3 a4 = ((-1 : Int32), o2) from (by subst h_o2; exact (if_neg c_25).trans ((if_neg c_31).trans ((if_neg c_47).trans ((if_neg c_60).trans ((if_neg c_73).trans ((if_pos c_94).trans rfl))))))).symm.trans ho)) hP hS) hS.2.2 dX4_go_149
          · refine lv_iload hx hb dX4_go_76 (lv_at hl 1 rfl) ?_
            refine lv_iload hx hb dX4_go_78 (lv_at hl 0 rfl) ?_
            refine lv_icmp_ge (tgt := 87) hx hb dX4_go_80 (by decide) (fun c_80 => ?_) (fun c_80 => ?_)
            · refine lv_iconst (v := (0 : Int32)) hx hb dX4_go_87 (by decide) ?_
              refine lv_istore (lv' := [(7, .int (0 : Int32)), (6, .int (w.2.2.1 (ix (a3 - a3 / (8 : Int32) * (8 : Int32))))), (5, .int (w.2.2.1 (ix (a2 - a2 / (8 : Int32) * (8 : Int32))))), (0, .ref (z 0)), (1, .int a1), (2, .int a2), (3, .int a3), (4, .int a4)]) hx hb dX4_go_88 hl (by decide) rfl (fun ls hl => ?_)
              refine lv_aload_n hx hb dX4_go_90 rfl (lv_at hl 3 rfl) ?_
              refine lv_iload_n hx hb dX4_go_91 rfl (lv_at hl 4 rfl) ?_
              refine lv_bipush (v := (15 : Int32)) hx hb dX4_go_92 (by decide) ?_
              refine lv_icmp_ne (tgt := 107) hx hb dX4_go_94 (by decide) (fun _ => ?_) (fun c9 => absurd c9 (show ¬ (a1 = (15 : Int32)) by rw [c_73]; decide))
              refine lv_iload hx hb dX4_go_107 (lv_at hl 0 rfl) ?_
              refine lv_if_eq (tgt := 124) hx hb dX4_go_109 (by decide) (fun _ => ?_) (fun c9 => absurd (by decide) c9)
              refine lv_aload_n hx hb dX4_go_124 rfl (lv_at hl 3 rfl) ?_
              refine va_get (D := D) (ci := 3) (v := .int w.2.2.2.2.2.2.2.2.2.2.1) (C := RX4) (T := TX4) (N := 20) hx hb hts (by decide +kernel) hown hK hP 0 rfl rfl 11 (by decide) (hts (.fieldLink RX4 100 "TrapMachineModel" "next" "I") (by decide +kernel)) (fun _ h9 => h9) rfl dX4_go_125 ?_
              refine va_put (D := D) (ci := 3) (v := .int w.2.2.2.2.2.2.2.2.2.2.1) (ty := .int) (C := RX4) (T := TX4) (N := 20) hx hb hts (by decide +kernel) tyX4 tyX4_ok nmX4 hown hK hP hD hS 0 rfl rfl 11 (by decide) (hts (.fieldLink RX4 100 "TrapMachineModel" "next" "I") (by decide +kernel)) (fun _ h9 => h9) rfl (by decide +kernel) rfl rfl (Nat.le_of_ble_eq_true rfl) dX4_go_128 (fun H locs hP hD hS => ?_)
              have hP : va_P D vwCl (wM k z (ms10 w w.2.2.2.2.2.2.2.2.2.2.1)) H := hP
              have hD : va_D (in_W (wM k z w)) (wM k z (ms10 w w.2.2.2.2.2.2.2.2.2.2.1)) := hD
              refine lv_iload_n hx hb dX4_go_131 rfl (lv_at hl 4 rfl) ?_
              refine lv_bipush (v := (15 : Int32)) hx hb dX4_go_132 (by decide) ?_
              refine lv_icmp_ne (tgt := 148) hx hb dX4_go_134 (by decide) (fun _ => ?_) (fun c9 => absurd c9 (show ¬ (a1 = (15 : Int32)) by rw [c_73]; decide))
              refine lv_iconst (v := (-1 : Int32)) hx hb dX4_go_148 (by decide) ?_
              exact W.iret (v := (-1 : Int32)) hx hb hr (wr_end (congrArg (fun t9 : Int32 × MD => some (Value.int t9.1)) ((show fX4_go w a1 a2 a3 a4 = ((-1 : Int32), (ms10 w w.2.2.2.2.2.2.2.2.2.2.1)) from (if_neg c_25).trans ((if_neg c_31).trans ((if_neg c_47).trans ((if_neg c_60).trans ((if_pos c_73).trans ((if_pos c_80).trans rfl)))))).symm.trans ho)) (congrArg (fun t9 : Int32 × MD => wM k z t9.2) ((show fX4_go w a1 a2 a3 a4 = ((-1 : Int32), (ms10 w w.2.2.2.2.2.2.2.2.2.2.1)) from (if_neg c_25).trans ((if_neg c_31).trans ((if_neg c_47).trans ((if_neg c_60).trans ((if_pos c_73).trans ((if_pos c_80).trans rfl)))))).symm.trans ho)) hP hS) hS.2.2 dX4_go_149
            · refine lv_iconst (v := (1 : Int32)) hx hb dX4_go_83 (by decide) ?_
              refine lv_goto (tgt := 88) hx hb dX4_go_84 (by decide) ?_
              refine lv_istore (lv' := [(7, .int (1 : Int32)), (6, .int (w.2.2.1 (ix (a3 - a3 / (8 : Int32) * (8 : Int32))))), (5, .int (w.2.2.1 (ix (a2 - a2 / (8 : Int32) * (8 : Int32))))), (0, .ref (z 0)), (1, .int a1), (2, .int a2), (3, .int a3), (4, .int a4)]) hx hb dX4_go_88 hl (by decide) rfl (fun ls hl => ?_)
              refine lv_aload_n hx hb dX4_go_90 rfl (lv_at hl 3 rfl) ?_
              refine lv_iload_n hx hb dX4_go_91 rfl (lv_at hl 4 rfl) ?_
              refine lv_bipush (v := (15 : Int32)) hx hb dX4_go_92 (by decide) ?_
              refine lv_icmp_ne (tgt := 107) hx hb dX4_go_94 (by decide) (fun _ => ?_) (fun c9 => absurd c9 (show ¬ (a1 = (15 : Int32)) by rw [c_73]; decide))
              refine lv_iload hx hb dX4_go_107 (lv_at hl 0 rfl) ?_
              refine lv_if_eq (tgt := 124) hx hb dX4_go_109 (by decide) (fun c9 => absurd c9 (by decide)) (fun _ => ?_)
              refine lv_aload_n hx hb dX4_go_112 rfl (lv_at hl 3 rfl) ?_
              refine va_get (D := D) (ci := 3) (v := .int w.2.2.2.2.2.2.2.2.2.1) (C := RX4) (T := TX4) (N := 20) hx hb hts (by decide +kernel) hown hK hP 0 rfl rfl 10 (by decide) (hts (.fieldLink RX4 51 "TrapMachineModel" "place" "I") (by decide +kernel)) (fun _ h9 => h9) rfl dX4_go_113 ?_
              refine lv_iconst (v := (4 : Int32)) hx hb dX4_go_116 (by decide) ?_
              refine lv_iload hx hb dX4_go_117 (lv_at hl 7 rfl) ?_
              refine lv_imul hx hb dX4_go_119 ?_
              refine lv_iadd hx hb dX4_go_120 ?_
              refine lv_goto (tgt := 128) hx hb dX4_go_121 (by decide) ?_
              refine va_put (D := D) (ci := 3) (v := .int (w.2.2.2.2.2.2.2.2.2.1 + ((4 : Int32) * a4))) (ty := .int) (C := RX4) (T := TX4) (N := 20) hx hb hts (by decide +kernel) tyX4 tyX4_ok nmX4 hown hK hP hD hS 0 rfl rfl 11 (by decide) (hts (.fieldLink RX4 100 "TrapMachineModel" "next" "I") (by decide +kernel)) (fun _ h9 => h9) rfl (by decide +kernel) rfl rfl (Nat.le_of_ble_eq_true rfl) dX4_go_128 (fun H locs hP hD hS => ?_)
              have hP : va_P D vwCl (wM k z (ms10 w (w.2.2.2.2.2.2.2.2.2.1 + ((4 : Int32) * a4)))) H := hP
              have hD : va_D (in_W (wM k z w)) (wM k z (ms10 w (w.2.2.2.2.2.2.2.2.2.1 + ((4 : Int32) * a4)))) := hD
              refine lv_iload_n hx hb dX4_go_131 rfl (lv_at hl 4 rfl) ?_
              refine lv_bipush (v := (15 : Int32)) hx hb dX4_go_132 (by decide) ?_
              refine lv_icmp_ne (tgt := 148) hx hb dX4_go_134 (by decide) (fun _ => ?_) (fun c9 => absurd c9 (show ¬ (a1 = (15 : Int32)) by rw [c_73]; decide))
              refine lv_iconst (v := (-1 : Int32)) hx hb dX4_go_148 (by decide) ?_
              exact W.iret (v := (-1 : Int32)) hx hb hr (wr_end (congrArg (fun t9 : Int32 × MD => some (Value.int t9.1)) ((show fX4_go w a1 a2 a3 a4 = ((-1 : Int32), (ms10 w (w.2.2.2.2.2.2.2.2.2.1 + ((4 : Int32) * a4)))) from (if_neg c_25).trans ((if_neg c_31).trans ((if_neg c_47).trans ((if_neg c_60).trans ((if_pos c_73).trans ((if_neg c_80).trans rfl)))))).symm.trans ho)) (congrArg (fun t9 : Int32 × MD => wM k z t9.2) ((show fX4_go w a1 a2 a3 a4 = ((-1 : Int32), (ms10 w (w.2.2.2.2.2.2.2.2.2.1 + ((4 : Int32) * a4)))) from (if_neg c_25).trans ((if_neg c_31).trans ((if_neg c_47).trans ((if_neg c_60).trans ((if_pos c_73).trans ((if_neg c_80).trans rfl)))))).symm.trans ho)) hP hS) hS.2.2 dX4_go_149
        · refine lv_iload hx hb dX4_go_63 (lv_at hl 1 rfl) ?_
          refine lv_iload hx hb dX4_go_65 (lv_at hl 0 rfl) ?_
          refine lv_icmp_ne (tgt := 83) hx hb dX4_go_67 (by decide) (fun c_67 => ?_) (fun c_67 => ?_)
          · refine lv_iconst (v := (1 : Int32)) hx hb dX4_go_83 (by decide) ?_
            refine lv_goto (tgt := 88) hx hb dX4_go_84 (by decide) ?_
            refine lv_istore (lv' := [(7, .int (1 : Int32)), (6, .int (w.2.2.1 (ix (a3 - a3 / (8 : Int32) * (8 : Int32))))), (5, .int (w.2.2.1 (ix (a2 - a2 / (8 : Int32) * (8 : Int32))))), (0, .ref (z 0)), (1, .int a1), (2, .int a2), (3, .int a3), (4, .int a4)]) hx hb dX4_go_88 hl (by decide) rfl (fun ls hl => ?_)
            refine lv_aload_n hx hb dX4_go_90 rfl (lv_at hl 3 rfl) ?_
            refine lv_iload_n hx hb dX4_go_91 rfl (lv_at hl 4 rfl) ?_
            refine lv_bipush (v := (15 : Int32)) hx hb dX4_go_92 (by decide) ?_
            refine lv_icmp_ne (tgt := 107) hx hb dX4_go_94 (by decide) (fun _ => ?_) (fun c9 => absurd c9 (show ¬ (a1 = (15 : Int32)) by rw [c_60]; decide))
            refine lv_iload hx hb dX4_go_107 (lv_at hl 0 rfl) ?_
            refine lv_if_eq (tgt := 124) hx hb dX4_go_109 (by decide) (fun c9 => absurd c9 (by decide)) (fun _ => ?_)
            refine lv_aload_n hx hb dX4_go_112 rfl (lv_at hl 3 rfl) ?_
            refine va_get (D := D) (ci := 3) (v := .int w.2.2.2.2.2.2.2.2.2.1) (C := RX4) (T := TX4) (N := 20) hx hb hts (by decide +kernel) hown hK hP 0 rfl rfl 10 (by decide) (hts (.fieldLink RX4 51 "TrapMachineModel" "place" "I") (by decide +kernel)) (fun _ h9 => h9) rfl dX4_go_113 ?_
            refine lv_iconst (v := (4 : Int32)) hx hb dX4_go_116 (by decide) ?_
            refine lv_iload hx hb dX4_go_117 (lv_at hl 7 rfl) ?_
            refine lv_imul hx hb dX4_go_119 ?_
            refine lv_iadd hx hb dX4_go_120 ?_
            refine lv_goto (tgt := 128) hx hb dX4_go_121 (by decide) ?_
            refine va_put (D := D) (ci := 3) (v := .int (w.2.2.2.2.2.2.2.2.2.1 + ((4 : Int32) * a4))) (ty := .int) (C := RX4) (T := TX4) (N := 20) hx hb hts (by decide +kernel) tyX4 tyX4_ok nmX4 hown hK hP hD hS 0 rfl rfl 11 (by decide) (hts (.fieldLink RX4 100 "TrapMachineModel" "next" "I") (by decide +kernel)) (fun _ h9 => h9) rfl (by decide +kernel) rfl rfl (Nat.le_of_ble_eq_true rfl) dX4_go_128 (fun H locs hP hD hS => ?_)
            have hP : va_P D vwCl (wM k z (ms10 w (w.2.2.2.2.2.2.2.2.2.1 + ((4 : Int32) * a4)))) H := hP
            have hD : va_D (in_W (wM k z w)) (wM k z (ms10 w (w.2.2.2.2.2.2.2.2.2.1 + ((4 : Int32) * a4)))) := hD
            refine lv_iload_n hx hb dX4_go_131 rfl (lv_at hl 4 rfl) ?_
            refine lv_bipush (v := (15 : Int32)) hx hb dX4_go_132 (by decide) ?_
            refine lv_icmp_ne (tgt := 148) hx hb dX4_go_134 (by decide) (fun _ => ?_) (fun c9 => absurd c9 (show ¬ (a1 = (15 : Int32)) by rw [c_60]; decide))
            refine lv_iconst (v := (-1 : Int32)) hx hb dX4_go_148 (by decide) ?_
            exact W.iret (v := (-1 : Int32)) hx hb hr (wr_end (congrArg (fun t9 : Int32 × MD => some (Value.int t9.1)) ((show fX4_go w a1 a2 a3 a4 = ((-1 : Int32), (ms10 w (w.2.2.2.2.2.2.2.2.2.1 + ((4 : Int32) * a4)))) from (if_neg c_25).trans ((if_neg c_31).trans ((if_neg c_47).trans ((if_pos c_60).trans ((if_neg c_67).trans rfl))))).symm.trans ho)) (congrArg (fun t9 : Int32 × MD => wM k z t9.2) ((show fX4_go w a1 a2 a3 a4 = ((-1 : Int32), (ms10 w (w.2.2.2.2.2.2.2.2.2.1 + ((4 : Int32) * a4)))) from (if_neg c_25).trans ((if_neg c_31).trans ((if_neg c_47).trans ((if_pos c_60).trans ((if_neg c_67).trans rfl))))).symm.trans ho)) hP hS) hS.2.2 dX4_go_149
          · refine lv_iload_n hx hb dX4_go_70 rfl (lv_at hl 3 rfl) ?_
            refine lv_bipush (v := (14 : Int32)) hx hb dX4_go_71 (by decide) ?_
            refine lv_icmp_ne (tgt := 87) hx hb dX4_go_73 (by decide) (fun _ => ?_) (fun c9 => absurd c9 (show ¬ (a1 = (14 : Int32)) by rw [c_60]; decide))
            refine lv_iconst (v := (0 : Int32)) hx hb dX4_go_87 (by decide) ?_
            refine lv_istore (lv' := [(7, .int (0 : Int32)), (6, .int (w.2.2.1 (ix (a3 - a3 / (8 : Int32) * (8 : Int32))))), (5, .int (w.2.2.1 (ix (a2 - a2 / (8 : Int32) * (8 : Int32))))), (0, .ref (z 0)), (1, .int a1), (2, .int a2), (3, .int a3), (4, .int a4)]) hx hb dX4_go_88 hl (by decide) rfl (fun ls hl => ?_)
            refine lv_aload_n hx hb dX4_go_90 rfl (lv_at hl 3 rfl) ?_
            refine lv_iload_n hx hb dX4_go_91 rfl (lv_at hl 4 rfl) ?_
            refine lv_bipush (v := (15 : Int32)) hx hb dX4_go_92 (by decide) ?_
            refine lv_icmp_ne (tgt := 107) hx hb dX4_go_94 (by decide) (fun _ => ?_) (fun c9 => absurd c9 (show ¬ (a1 = (15 : Int32)) by rw [c_60]; decide))
            refine lv_iload hx hb dX4_go_107 (lv_at hl 0 rfl) ?_
            refine lv_if_eq (tgt := 124) hx hb dX4_go_109 (by decide) (fun _ => ?_) (fun c9 => absurd (by decide) c9)
            refine lv_aload_n hx hb dX4_go_124 rfl (lv_at hl 3 rfl) ?_
            refine va_get (D := D) (ci := 3) (v := .int w.2.2.2.2.2.2.2.2.2.2.1) (C := RX4) (T := TX4) (N := 20) hx hb hts (by decide +kernel) hown hK hP 0 rfl rfl 11 (by decide) (hts (.fieldLink RX4 100 "TrapMachineModel" "next" "I") (by decide +kernel)) (fun _ h9 => h9) rfl dX4_go_125 ?_
            refine va_put (D := D) (ci := 3) (v := .int w.2.2.2.2.2.2.2.2.2.2.1) (ty := .int) (C := RX4) (T := TX4) (N := 20) hx hb hts (by decide +kernel) tyX4 tyX4_ok nmX4 hown hK hP hD hS 0 rfl rfl 11 (by decide) (hts (.fieldLink RX4 100 "TrapMachineModel" "next" "I") (by decide +kernel)) (fun _ h9 => h9) rfl (by decide +kernel) rfl rfl (Nat.le_of_ble_eq_true rfl) dX4_go_128 (fun H locs hP hD hS => ?_)
            have hP : va_P D vwCl (wM k z (ms10 w w.2.2.2.2.2.2.2.2.2.2.1)) H := hP
            have hD : va_D (in_W (wM k z w)) (wM k z (ms10 w w.2.2.2.2.2.2.2.2.2.2.1)) := hD
            refine lv_iload_n hx hb dX4_go_131 rfl (lv_at hl 4 rfl) ?_
            refine lv_bipush (v := (15 : Int32)) hx hb dX4_go_132 (by decide) ?_
            refine lv_icmp_ne (tgt := 148) hx hb dX4_go_134 (by decide) (fun _ => ?_) (fun c9 => absurd c9 (show ¬ (a1 = (15 : Int32)) by rw [c_60]; decide))
            refine lv_iconst (v := (-1 : Int32)) hx hb dX4_go_148 (by decide) ?_
            exact W.iret (v := (-1 : Int32)) hx hb hr (wr_end (congrArg (fun t9 : Int32 × MD => some (Value.int t9.1)) ((show fX4_go w a1 a2 a3 a4 = ((-1 : Int32), (ms10 w w.2.2.2.2.2.2.2.2.2.2.1)) from (if_neg c_25).trans ((if_neg c_31).trans ((if_neg c_47).trans ((if_pos c_60).trans ((if_pos c_67).trans rfl))))).symm.trans ho)) (congrArg (fun t9 : Int32 × MD => wM k z t9.2) ((show fX4_go w a1 a2 a3 a4 = ((-1 : Int32), (ms10 w w.2.2.2.2.2.2.2.2.2.2.1)) from (if_neg c_25).trans ((if_neg c_31).trans ((if_neg c_47).trans ((if_pos c_60).trans ((if_pos c_67).trans rfl))))).symm.trans ho)) hP hS) hS.2.2 dX4_go_149
      · refine lv_iload hx hb dX4_go_50 (lv_at hl 1 rfl) ?_
        refine lv_iload hx hb dX4_go_52 (lv_at hl 0 rfl) ?_
        refine lv_icmp_eq (tgt := 83) hx hb dX4_go_54 (by decide) (fun c_54 => ?_) (fun c_54 => ?_)
        · refine lv_iconst (v := (1 : Int32)) hx hb dX4_go_83 (by decide) ?_
          refine lv_goto (tgt := 88) hx hb dX4_go_84 (by decide) ?_
          refine lv_istore (lv' := [(7, .int (1 : Int32)), (6, .int (w.2.2.1 (ix (a3 - a3 / (8 : Int32) * (8 : Int32))))), (5, .int (w.2.2.1 (ix (a2 - a2 / (8 : Int32) * (8 : Int32))))), (0, .ref (z 0)), (1, .int a1), (2, .int a2), (3, .int a3), (4, .int a4)]) hx hb dX4_go_88 hl (by decide) rfl (fun ls hl => ?_)
          refine lv_aload_n hx hb dX4_go_90 rfl (lv_at hl 3 rfl) ?_
          refine lv_iload_n hx hb dX4_go_91 rfl (lv_at hl 4 rfl) ?_
          refine lv_bipush (v := (15 : Int32)) hx hb dX4_go_92 (by decide) ?_
          refine lv_icmp_ne (tgt := 107) hx hb dX4_go_94 (by decide) (fun _ => ?_) (fun c9 => absurd c9 (show ¬ (a1 = (15 : Int32)) by rw [c_47]; decide))
          refine lv_iload hx hb dX4_go_107 (lv_at hl 0 rfl) ?_
          refine lv_if_eq (tgt := 124) hx hb dX4_go_109 (by decide) (fun c9 => absurd c9 (by decide)) (fun _ => ?_)
          refine lv_aload_n hx hb dX4_go_112 rfl (lv_at hl 3 rfl) ?_
          refine va_get (D := D) (ci := 3) (v := .int w.2.2.2.2.2.2.2.2.2.1) (C := RX4) (T := TX4) (N := 20) hx hb hts (by decide +kernel) hown hK hP 0 rfl rfl 10 (by decide) (hts (.fieldLink RX4 51 "TrapMachineModel" "place" "I") (by decide +kernel)) (fun _ h9 => h9) rfl dX4_go_113 ?_
          refine lv_iconst (v := (4 : Int32)) hx hb dX4_go_116 (by decide) ?_
          refine lv_iload hx hb dX4_go_117 (lv_at hl 7 rfl) ?_
          refine lv_imul hx hb dX4_go_119 ?_
          refine lv_iadd hx hb dX4_go_120 ?_
          refine lv_goto (tgt := 128) hx hb dX4_go_121 (by decide) ?_
          refine va_put (D := D) (ci := 3) (v := .int (w.2.2.2.2.2.2.2.2.2.1 + ((4 : Int32) * a4))) (ty := .int) (C := RX4) (T := TX4) (N := 20) hx hb hts (by decide +kernel) tyX4 tyX4_ok nmX4 hown hK hP hD hS 0 rfl rfl 11 (by decide) (hts (.fieldLink RX4 100 "TrapMachineModel" "next" "I") (by decide +kernel)) (fun _ h9 => h9) rfl (by decide +kernel) rfl rfl (Nat.le_of_ble_eq_true rfl) dX4_go_128 (fun H locs hP hD hS => ?_)
          have hP : va_P D vwCl (wM k z (ms10 w (w.2.2.2.2.2.2.2.2.2.1 + ((4 : Int32) * a4)))) H := hP
          have hD : va_D (in_W (wM k z w)) (wM k z (ms10 w (w.2.2.2.2.2.2.2.2.2.1 + ((4 : Int32) * a4)))) := hD
          refine lv_iload_n hx hb dX4_go_131 rfl (lv_at hl 4 rfl) ?_
          refine lv_bipush (v := (15 : Int32)) hx hb dX4_go_132 (by decide) ?_
          refine lv_icmp_ne (tgt := 148) hx hb dX4_go_134 (by decide) (fun _ => ?_) (fun c9 => absurd c9 (show ¬ (a1 = (15 : Int32)) by rw [c_47]; decide))
          refine lv_iconst (v := (-1 : Int32)) hx hb dX4_go_148 (by decide) ?_
          exact W.iret (v := (-1 : Int32)) hx hb hr (wr_end (congrArg (fun t9 : Int32 × MD => some (Value.int t9.1)) ((show fX4_go w a1 a2 a3 a4 = ((-1 : Int32), (ms10 w (w.2.2.2.2.2.2.2.2.2.1 + ((4 : Int32) * a4)))) from (if_neg c_25).trans ((if_neg c_31).trans ((if_pos c_47).trans ((if_pos c_54).trans rfl)))).symm.trans ho)) (congrArg (fun t9 : Int32 × MD => wM k z t9.2) ((show fX4_go w a1 a2 a3 a4 = ((-1 : Int32), (ms10 w (w.2.2.2.2.2.2.2.2.2.1 + ((4 : Int32) * a4)))) from (if_neg c_25).trans ((if_neg c_31).trans ((if_pos c_47).trans ((if_pos c_54).trans rfl)))).symm.trans ho)) hP hS) hS.2.2 dX4_go_149
        · refine lv_iload_n hx hb dX4_go_57 rfl (lv_at hl 3 rfl) ?_
          refine lv_bipush (v := (13 : Int32)) hx hb dX4_go_58 (by decide) ?_
          refine lv_icmp_ne (tgt := 70) hx hb dX4_go_60 (by decide) (fun _ => ?_) (fun c9 => absurd c9 (show ¬ (a1 = (13 : Int32)) by rw [c_47]; decide))
          refine lv_iload_n hx hb dX4_go_70 rfl (lv_at hl 3 rfl) ?_
          refine lv_bipush (v := (14 : Int32)) hx hb dX4_go_71 (by decide) ?_
          refine lv_icmp_ne (tgt := 87) hx hb dX4_go_73 (by decide) (fun _ => ?_) (fun c9 => absurd c9 (show ¬ (a1 = (14 : Int32)) by rw [c_47]; decide))
          refine lv_iconst (v := (0 : Int32)) hx hb dX4_go_87 (by decide) ?_
          refine lv_istore (lv' := [(7, .int (0 : Int32)), (6, .int (w.2.2.1 (ix (a3 - a3 / (8 : Int32) * (8 : Int32))))), (5, .int (w.2.2.1 (ix (a2 - a2 / (8 : Int32) * (8 : Int32))))), (0, .ref (z 0)), (1, .int a1), (2, .int a2), (3, .int a3), (4, .int a4)]) hx hb dX4_go_88 hl (by decide) rfl (fun ls hl => ?_)
          refine lv_aload_n hx hb dX4_go_90 rfl (lv_at hl 3 rfl) ?_
          refine lv_iload_n hx hb dX4_go_91 rfl (lv_at hl 4 rfl) ?_
          refine lv_bipush (v := (15 : Int32)) hx hb dX4_go_92 (by decide) ?_
          refine lv_icmp_ne (tgt := 107) hx hb dX4_go_94 (by decide) (fun _ => ?_) (fun c9 => absurd c9 (show ¬ (a1 = (15 : Int32)) by rw [c_47]; decide))
          refine lv_iload hx hb dX4_go_107 (lv_at hl 0 rfl) ?_
          refine lv_if_eq (tgt := 124) hx hb dX4_go_109 (by decide) (fun _ => ?_) (fun c9 => absurd (by decide) c9)
          refine lv_aload_n hx hb dX4_go_124 rfl (lv_at hl 3 rfl) ?_
          refine va_get (D := D) (ci := 3) (v := .int w.2.2.2.2.2.2.2.2.2.2.1) (C := RX4) (T := TX4) (N := 20) hx hb hts (by decide +kernel) hown hK hP 0 rfl rfl 11 (by decide) (hts (.fieldLink RX4 100 "TrapMachineModel" "next" "I") (by decide +kernel)) (fun _ h9 => h9) rfl dX4_go_125 ?_
          refine va_put (D := D) (ci := 3) (v := .int w.2.2.2.2.2.2.2.2.2.2.1) (ty := .int) (C := RX4) (T := TX4) (N := 20) hx hb hts (by decide +kernel) tyX4 tyX4_ok nmX4 hown hK hP hD hS 0 rfl rfl 11 (by decide) (hts (.fieldLink RX4 100 "TrapMachineModel" "next" "I") (by decide +kernel)) (fun _ h9 => h9) rfl (by decide +kernel) rfl rfl (Nat.le_of_ble_eq_true rfl) dX4_go_128 (fun H locs hP hD hS => ?_)
          have hP : va_P D vwCl (wM k z (ms10 w w.2.2.2.2.2.2.2.2.2.2.1)) H := hP
          have hD : va_D (in_W (wM k z w)) (wM k z (ms10 w w.2.2.2.2.2.2.2.2.2.2.1)) := hD
          refine lv_iload_n hx hb dX4_go_131 rfl (lv_at hl 4 rfl) ?_
          refine lv_bipush (v := (15 : Int32)) hx hb dX4_go_132 (by decide) ?_
          refine lv_icmp_ne (tgt := 148) hx hb dX4_go_134 (by decide) (fun _ => ?_) (fun c9 => absurd c9 (show ¬ (a1 = (15 : Int32)) by rw [c_47]; decide))
          refine lv_iconst (v := (-1 : Int32)) hx hb dX4_go_148 (by decide) ?_
          exact W.iret (v := (-1 : Int32)) hx hb hr (wr_end (congrArg (fun t9 : Int32 × MD => some (Value.int t9.1)) ((show fX4_go w a1 a2 a3 a4 = ((-1 : Int32), (ms10 w w.2.2.2.2.2.2.2.2.2.2.1)) from (if_neg c_25).trans ((if_neg c_31).trans ((if_pos c_47).trans ((if_neg c_54).trans rfl)))).symm.trans ho)) (congrArg (fun t9 : Int32 × MD => wM k z t9.2) ((show fX4_go w a1 a2 a3 a4 = ((-1 : Int32), (ms10 w w.2.2.2.2.2.2.2.2.2.2.1)) from (if_neg c_25).trans ((if_neg c_31).trans ((if_pos c_47).trans ((if_neg c_54).trans rfl)))).symm.trans ho)) hP hS) hS.2.2 dX4_go_149
    · refine lv_aload_n hx hb dX4_go_34 rfl (lv_at hl 2 rfl) ?_
      refine lv_iload_n hx hb dX4_go_35 rfl (lv_at hl 3 rfl) ?_
      refine lv_iconst (v := (5 : Int32)) hx hb dX4_go_36 (by decide) ?_
      refine lv_isub hx hb dX4_go_37 ?_
      refine lv_iconst (v := (0 : Int32)) hx hb dX4_go_38 (by decide) ?_
      refine lv_iconst (v := (0 : Int32)) hx hb dX4_go_39 (by decide) ?_
      obtain ⟨o3, h_o3⟩ : ∃ o9, (fX4_with w (a1 - (5 : Int32)) (0 : Int32) (0 : Int32)) = o9 := ⟨_, rfl⟩
      refine wr_call (r := (some (.int o3.1))) (ws' := wM k z o3.2) (W.runV (C := RX4) (b := (z 0)) (As := [.int (a1 - (5 : Int32)), .int (0 : Int32), .int (0 : Int32)]) (rest := []) ⟨hx, hb, hml, hown, hts⟩ (kX4_with l D k z w (a1 - (5 : Int32)) (0 : Int32) (0 : Int32) o3 h_o3) (cwV 3 hts gX4_go_X4_with rfl rfl rfl (by decide +kernel) ⟨Nat.le_of_ble_eq_true rfl, Nat.le_of_ble_eq_true rfl⟩) (wr_preV bl_T pr_T hK hP hD (va_recv hK hP (ci := 3) (q0 := 0) rfl rfl)) rfl rfl hl.1 rfl (lv_room (Nat.le_of_ble_eq_true rfl)) dX4_go_40 ⟨Nat.zero_le _, Nat.zero_le _⟩) hP hD hS [0, 1, 2, 3, 4, 5, 6, 7, 8, 9] [] [0, 1, 2, 3, 4, 5, 6, 7, 8, 9] allM (by decide) prmM adrM (fun H locs hP hD hS => ?_)
      exact W.iret (v := o3.1) hx hb hr (wr_end (congrArg (fun t9 : Int32 × MD => some (Value.int t9.1)) ((show fX4_go w a1 a2 a3 a4 = (o3.1, o3.2) from (by subst h_o3; exact (if_neg c_25).trans ((if_pos c_31).trans rfl))).symm.trans ho)) (congrArg (fun t9 : Int32 × MD => wM k z t9.2) ((show fX4_go w a1 a2 a3 a4 = (o3.1, o3.2) from (by subst h_o3; exact (if_neg c_25).trans ((if_pos c_31).trans rfl))).symm.trans ho)) hP hS) hS.2.2 dX4_go_43
def fX4_controls (w : MD) (a1 : Int32) (a2 : Int32) (a3 : Int32) (a4 : Int32) : Int32 × MD :=
  if a4 ≤ (17 : Int32) then
    if a1 = (19 : Int32) then
      ((-1 : Int32), (fX4_put (fX4_write w a4 (-1 : Int32) (w.2.2.1 (ix (a2 - a2 / (8 : Int32) * (8 : Int32))))) a2 (w.2.2.2.1 (ix a4))))
    else
      if a1 = (20 : Int32) then
        ((-1 : Int32), (fX4_put (fX4_write w a4 (w.2.2.1 (ix (a3 - a3 / (8 : Int32) * (8 : Int32)))) (w.2.2.1 (ix (a2 - a2 / (8 : Int32) * (8 : Int32))))) a2 (w.2.2.2.1 (ix a4))))
      else
        ((-1 : Int32), (fX4_put w a2 (w.2.2.2.1 (ix a4))))
  else
    ((fX4_with w (13 : Int32) (0 : Int32) (0 : Int32)).1, (fX4_with w (13 : Int32) (0 : Int32) (0 : Int32)).2)
set_option maxHeartbeats 4000000 in
set_option maxRecDepth 100000 in
theorem kX4_controls (l : Launch) (D : va_G) (k : Nat → ClassId) (z : Nat → Nat) (w : MD) (a1 : Int32) (a2 : Int32) (a3 : Int32) (a4 : Int32) (h2 : vp_in a2 256) (h3 : vp_in a3 256) (h4 : vp_in a4 256) (o : Int32 × (MD)) (ho : fX4_controls w a1 a2 a3 a4 = o) : Met l yX4_controls wsX4_controls { frames := 1, cells := 0, slots := 0, locals := 24 } (wr_P D vwCl (tyL k) (wM k z w) (fun _ => True) [.ref (z 0), .int a1, .int a2, .int a3, .int a4]) (wr_Q D vwCl (some (.int o.1)) (wM k z w) (wM k z o.2)) 0 0 (in_W (wM k z w)) := by
  refine Met.ofW (cc := cX4_controls) (maxL := 6) (ret := (some .int)) (by decide) rfl ?_
  intro p e s m args below meth c s₁ B hml hv0
  obtain ⟨rfl, hP, hK, hX, hD0⟩ := hv0
  have hx := B.exec
  have hb := B.bytes
  have hr := B.returns
  have hts := atoms_spec (ws := wsX4_controls) B.pre
  have hown : s.vm.findClass RX4 = some m.cls := findClass_of_methodNamed B.named
  have hlocks := B.notSynchronized
  have hD : va_D (in_W (wM k z w)) (wM k z w) := wD_self hD0
  have hS : va_S (in_W (wM k z w)) s.heap s.heap [] := va_S.rf
  have hl := lv_entry ([.ref (z 0), .int a1, .int a2, .int a3, .int a4]) (n := 6) (Nat.le_of_ble_eq_true rfl)
  rw [lg_entry_eq]
  generalize (lg_sl ([.ref (z 0), .int a1, .int a2, .int a3, .int a4]) ++ List.replicate (6 - (lg_sl ([.ref (z 0), .int a1, .int a2, .int a3, .int a4])).length) Slot.unset).toArray = ls at hl ⊢
  have hl : lv_has ls 6 [(0, .ref (z 0)), (1, .int a1), (2, .int a2), (3, .int a3), (4, .int a4)] := hl
  refine lv_iload hx hb dX4_controls_0 (lv_at hl 4 rfl) ?_
  refine lv_bipush (v := (17 : Int32)) hx hb dX4_controls_2 (by decide) ?_
  refine lv_icmp_le (tgt := 16) hx hb dX4_controls_4 (by decide) (fun c_4 => ?_) (fun c_4 => ?_)
  · refine lv_aload_n hx hb dX4_controls_16 rfl (lv_at hl 0 rfl) ?_
    refine va_get (D := D) (ci := 3) (v := .ref (z 3)) (C := RX4) (T := TX4) (N := 20) hx hb hts (by decide +kernel) hown hK hP 0 rfl rfl 3 (by decide) (hts (.fieldLink RX4 16 "TrapMachineModel" "control" "[I") (by decide +kernel)) (fun _ h9 => h9) rfl dX4_controls_17 ?_
    refine lv_iload hx hb dX4_controls_20 (lv_at hl 4 rfl) ?_
    refine q_iald (j := (ix a4)) (x9 := (w.2.2.2.1 (ix a4))) hx hb hK hP 3 0 rfl rfl (vi_lo h4 c_4) rfl rfl dX4_controls_22 ?_
    refine lv_istore (lv' := [(5, .int (w.2.2.2.1 (ix a4))), (0, .ref (z 0)), (1, .int a1), (2, .int a2), (3, .int a3), (4, .int a4)]) hx hb dX4_controls_23 hl (by decide) rfl (fun ls hl => ?_)
    refine lv_iload_n hx hb dX4_controls_25 rfl (lv_at hl 2 rfl) ?_
    refine lv_bipush (v := (19 : Int32)) hx hb dX4_controls_26 (by decide) ?_
    refine lv_icmp_ne (tgt := 47) hx hb dX4_controls_28 (by decide) (fun c_28 => ?_) (fun c_28 => ?_)
    · refine lv_iload_n hx hb dX4_controls_47 rfl (lv_at hl 2 rfl) ?_
      refine lv_bipush (v := (20 : Int32)) hx hb dX4_controls_48 (by decide) ?_
      refine lv_icmp_ne (tgt := 77) hx hb dX4_controls_50 (by decide) (fun c_50 => ?_) (fun c_50 => ?_)
      · refine lv_aload_n hx hb dX4_controls_77 rfl (lv_at hl 1 rfl) ?_
        refine lv_iload_n hx hb dX4_controls_78 rfl (lv_at hl 3 rfl) ?_
        refine lv_iload hx hb dX4_controls_79 (lv_at hl 0 rfl) ?_
        obtain ⟨o1, h_o1⟩ : ∃ o9, (fX4_put w a2 (w.2.2.2.1 (ix a4))) = o9 := ⟨_, rfl⟩
        refine wr_call (r := none) (ws' := wM k z o1) (W.runV (C := RX4) (b := (z 0)) (As := [.int a2, .int (w.2.2.2.1 (ix a4))]) (rest := []) ⟨hx, hb, hml, hown, hts⟩ (kX4_put l D k z w a2 (w.2.2.2.1 (ix a4)) h2 o1 h_o1) (cwV 2 hts gX4_controls_X4_put rfl rfl rfl (by decide +kernel) ⟨Nat.le_of_ble_eq_true rfl, Nat.le_of_ble_eq_true rfl⟩) (wr_preV bl_T pr_T hK hP hD (va_recv hK hP (ci := 3) (q0 := 0) rfl rfl)) rfl rfl hl.1 rfl (lv_room (Nat.le_of_ble_eq_true rfl)) dX4_controls_81 ⟨Nat.zero_le _, Nat.zero_le _⟩) hP hD hS [0, 1, 2, 3, 4, 5, 6, 7, 8, 9] [] [0, 1, 2, 3, 4, 5, 6, 7, 8, 9] allM (by decide) prmM adrM (fun H locs hP hD hS => ?_)
        refine lv_iconst (v := (-1 : Int32)) hx hb dX4_controls_84 (by decide) ?_
        exact W.iret (v := (-1 : Int32)) hx hb hr (wr_end (congrArg (fun t9 : Int32 × MD => some (Value.int t9.1)) ((show fX4_controls w a1 a2 a3 a4 = ((-1 : Int32), o1) from (by subst h_o1; exact (if_pos c_4).trans ((if_neg c_28).trans ((if_neg c_50).trans rfl)))).symm.trans ho)) (congrArg (fun t9 : Int32 × MD => wM k z t9.2) ((show fX4_controls w a1 a2 a3 a4 = ((-1 : Int32), o1) from (by subst h_o1; exact (if_pos c_4).trans ((if_neg c_28).trans ((if_neg c_50).trans rfl)))).symm.trans ho)) hP hS) hS.2.2 dX4_controls_85
      · refine lv_aload_n hx hb dX4_controls_53 rfl (lv_at hl 1 rfl) ?_
        refine lv_iload hx hb dX4_controls_54 (lv_at hl 5 rfl) ?_
        refine lv_aload_n hx hb dX4_controls_56 rfl (lv_at hl 1 rfl) ?_
        refine va_get (D := D) (ci := 3) (v := .ref (z 2)) (C := RX4) (T := TX4) (N := 20) hx hb hts (by decide +kernel) hown hK hP 0 rfl rfl 2 (by decide) (hts (.fieldLink RX4 13 "TrapMachineModel" "register" "[I") (by decide +kernel)) (fun _ h9 => h9) rfl dX4_controls_57 ?_
        refine lv_iload_n hx hb dX4_controls_60 rfl (lv_at hl 4 rfl) ?_
        refine lv_bipush (v := (8 : Int32)) hx hb dX4_controls_61 (by decide) ?_
        refine lv_irem hx hb dX4_controls_63 (by decide) ?_
        refine q_iald (j := (ix (a3 - a3 / (8 : Int32) * (8 : Int32)))) (x9 := (w.2.2.1 (ix (a3 - a3 / (8 : Int32) * (8 : Int32))))) hx hb hK hP 2 0 rfl rfl (rem8_in h3) rfl rfl dX4_controls_64 ?_
        refine lv_aload_n hx hb dX4_controls_65 rfl (lv_at hl 1 rfl) ?_
        refine va_get (D := D) (ci := 3) (v := .ref (z 2)) (C := RX4) (T := TX4) (N := 20) hx hb hts (by decide +kernel) hown hK hP 0 rfl rfl 2 (by decide) (hts (.fieldLink RX4 13 "TrapMachineModel" "register" "[I") (by decide +kernel)) (fun _ h9 => h9) rfl dX4_controls_66 ?_
        refine lv_iload_n hx hb dX4_controls_69 rfl (lv_at hl 3 rfl) ?_
        refine lv_bipush (v := (8 : Int32)) hx hb dX4_controls_70 (by decide) ?_
        refine lv_irem hx hb dX4_controls_72 (by decide) ?_
        refine q_iald (j := (ix (a2 - a2 / (8 : Int32) * (8 : Int32)))) (x9 := (w.2.2.1 (ix (a2 - a2 / (8 : Int32) * (8 : Int32))))) hx hb hK hP 2 0 rfl rfl (rem8_in h2) rfl rfl dX4_controls_73 ?_
        obtain ⟨o2, h_o2⟩ : ∃ o9, (fX4_write w a4 (w.2.2.1 (ix (a3 - a3 / (8 : Int32) * (8 : Int32)))) (w.2.2.1 (ix (a2 - a2 / (8 : Int32) * (8 : Int32))))) = o9 := ⟨_, rfl⟩
        refine wr_call (r := none) (ws' := wM k z o2) (W.runV (C := RX4) (b := (z 0)) (As := [.int a4, .int (w.2.2.1 (ix (a3 - a3 / (8 : Int32) * (8 : Int32)))), .int (w.2.2.1 (ix (a2 - a2 / (8 : Int32) * (8 : Int32))))]) (rest := []) ⟨hx, hb, hml, hown, hts⟩ (kX4_write l D k z w a4 (w.2.2.1 (ix (a3 - a3 / (8 : Int32) * (8 : Int32)))) (w.2.2.1 (ix (a2 - a2 / (8 : Int32) * (8 : Int32)))) (vi_lo h4 c_4) o2 h_o2) (cwV 3 hts gX4_controls_X4_write rfl rfl rfl (by decide +kernel) ⟨Nat.le_of_ble_eq_true rfl, Nat.le_of_ble_eq_true rfl⟩) (wr_preV bl_T pr_T hK hP hD (va_recv hK hP (ci := 3) (q0 := 0) rfl rfl)) rfl rfl hl.1 rfl (lv_room (Nat.le_of_ble_eq_true rfl)) dX4_controls_74 ⟨Nat.zero_le _, Nat.zero_le _⟩) hP hD hS [0, 1, 2, 3, 4, 5, 6, 7, 8, 9] [] [0, 1, 2, 3, 4, 5, 6, 7, 8, 9] allM (by decide) prmM adrM (fun H locs hP hD hS => ?_)
        refine lv_aload_n hx hb dX4_controls_77 rfl (lv_at hl 1 rfl) ?_
        refine lv_iload_n hx hb dX4_controls_78 rfl (lv_at hl 3 rfl) ?_
        refine lv_iload hx hb dX4_controls_79 (lv_at hl 0 rfl) ?_
        obtain ⟨o3, h_o3⟩ : ∃ o9, (fX4_put o2 a2 (w.2.2.2.1 (ix a4))) = o9 := ⟨_, rfl⟩
        refine wr_call (r := none) (ws' := wM k z o3) (W.runV (C := RX4) (b := (z 0)) (As := [.int a2, .int (w.2.2.2.1 (ix a4))]) (rest := []) ⟨hx, hb, hml, hown, hts⟩ (kX4_put l D k z o2 a2 (w.2.2.2.1 (ix a4)) h2 o3 h_o3) (cwV 2 hts gX4_controls_X4_put rfl rfl rfl (by decide +kernel) ⟨Nat.le_of_ble_eq_true rfl, Nat.le_of_ble_eq_true rfl⟩) (wr_preV bl_T pr_T hK hP hD (va_recv hK hP (ci := 3) (q0 := 0) rfl rfl)) rfl rfl hl.1 rfl (lv_room (Nat.le_of_ble_eq_true rfl)) dX4_controls_81 ⟨Nat.zero_le _, Nat.zero_le _⟩) hP hD hS [0, 1, 2, 3, 4, 5, 6, 7, 8, 9] [] [0, 1, 2, 3, 4, 5, 6, 7, 8, 9] allM (by decide) prmM adrM (fun H locs hP hD hS => ?_)
        refine lv_iconst (v := (-1 : Int32)) hx hb dX4_controls_84 (by decide) ?_
        exact W.iret (v := (-1 : Int32)) hx hb hr (wr_end (congrArg (fun t9 : Int32 × MD => some (Value.int t9.1)) ((show fX4_controls w a1 a2 a3 a4 = ((-1 : Int32), o3) from (by subst h_o2; subst h_o3; exact (if_pos c_4).trans ((if_neg c_28).trans ((if_pos c_50).trans rfl)))).symm.trans ho)) (congrArg (fun t9 : Int32 × MD => wM k z t9.2) ((show fX4_controls w a1 a2 a3 a4 = ((-1 : Int32), o3) from (by subst h_o2; subst h_o3; exact (if_pos c_4).trans ((if_neg c_28).trans ((if_pos c_50).trans rfl)))).symm.trans ho)) hP hS) hS.2.2 dX4_controls_85
    · refine lv_aload_n hx hb dX4_controls_31 rfl (lv_at hl 1 rfl) ?_
      refine lv_iload hx hb dX4_controls_32 (lv_at hl 5 rfl) ?_
      refine lv_iconst (v := (-1 : Int32)) hx hb dX4_controls_34 (by decide) ?_
      refine lv_aload_n hx hb dX4_controls_35 rfl (lv_at hl 1 rfl) ?_
      refine va_get (D := D) (ci := 3) (v := .ref (z 2)) (C := RX4) (T := TX4) (N := 20) hx hb hts (by decide +kernel) hown hK hP 0 rfl rfl 2 (by decide) (hts (.fieldLink RX4 13 "TrapMachineModel" "register" "[I") (by decide +kernel)) (fun _ h9 => h9) rfl dX4_controls_36 ?_
      refine lv_iload_n hx hb dX4_controls_39 rfl (lv_at hl 3 rfl) ?_
      refine lv_bipush (v := (8 : Int32)) hx hb dX4_controls_40 (by decide) ?_
      refine lv_irem hx hb dX4_controls_42 (by decide) ?_
      refine q_iald (j := (ix (a2 - a2 / (8 : Int32) * (8 : Int32)))) (x9 := (w.2.2.1 (ix (a2 - a2 / (8 : Int32) * (8 : Int32))))) hx hb hK hP 2 0 rfl rfl (rem8_in h2) rfl rfl dX4_controls_43 ?_
      obtain ⟨o4, h_o4⟩ : ∃ o9, (fX4_write w a4 (-1 : Int32) (w.2.2.1 (ix (a2 - a2 / (8 : Int32) * (8 : Int32))))) = o9 := ⟨_, rfl⟩
      refine wr_call (r := none) (ws' := wM k z o4) (W.runV (C := RX4) (b := (z 0)) (As := [.int a4, .int (-1 : Int32), .int (w.2.2.1 (ix (a2 - a2 / (8 : Int32) * (8 : Int32))))]) (rest := []) ⟨hx, hb, hml, hown, hts⟩ (kX4_write l D k z w a4 (-1 : Int32) (w.2.2.1 (ix (a2 - a2 / (8 : Int32) * (8 : Int32)))) (vi_lo h4 c_4) o4 h_o4) (cwV 3 hts gX4_controls_X4_write rfl rfl rfl (by decide +kernel) ⟨Nat.le_of_ble_eq_true rfl, Nat.le_of_ble_eq_true rfl⟩) (wr_preV bl_T pr_T hK hP hD (va_recv hK hP (ci := 3) (q0 := 0) rfl rfl)) rfl rfl hl.1 rfl (lv_room (Nat.le_of_ble_eq_true rfl)) dX4_controls_44 ⟨Nat.zero_le _, Nat.zero_le _⟩) hP hD hS [0, 1, 2, 3, 4, 5, 6, 7, 8, 9] [] [0, 1, 2, 3, 4, 5, 6, 7, 8, 9] allM (by decide) prmM adrM (fun H locs hP hD hS => ?_)
      refine lv_iload_n hx hb dX4_controls_47 rfl (lv_at hl 2 rfl) ?_
      refine lv_bipush (v := (20 : Int32)) hx hb dX4_controls_48 (by decide) ?_
      refine lv_icmp_ne (tgt := 77) hx hb dX4_controls_50 (by decide) (fun _ => ?_) (fun c9 => absurd c9 (show ¬ (a1 = (20 : Int32)) by rw [c_28]; decide))
      refine lv_aload_n hx hb dX4_controls_77 rfl (lv_at hl 1 rfl) ?_
      refine lv_iload_n hx hb dX4_controls_78 rfl (lv_at hl 3 rfl) ?_
      refine lv_iload hx hb dX4_controls_79 (lv_at hl 0 rfl) ?_
      obtain ⟨o5, h_o5⟩ : ∃ o9, (fX4_put o4 a2 (w.2.2.2.1 (ix a4))) = o9 := ⟨_, rfl⟩
      refine wr_call (r := none) (ws' := wM k z o5) (W.runV (C := RX4) (b := (z 0)) (As := [.int a2, .int (w.2.2.2.1 (ix a4))]) (rest := []) ⟨hx, hb, hml, hown, hts⟩ (kX4_put l D k z o4 a2 (w.2.2.2.1 (ix a4)) h2 o5 h_o5) (cwV 2 hts gX4_controls_X4_put rfl rfl rfl (by decide +kernel) ⟨Nat.le_of_ble_eq_true rfl, Nat.le_of_ble_eq_true rfl⟩) (wr_preV bl_T pr_T hK hP hD (va_recv hK hP (ci := 3) (q0 := 0) rfl rfl)) rfl rfl hl.1 rfl (lv_room (Nat.le_of_ble_eq_true rfl)) dX4_controls_81 ⟨Nat.zero_le _, Nat.zero_le _⟩) hP hD hS [0, 1, 2, 3, 4, 5, 6, 7, 8, 9] [] [0, 1, 2, 3, 4, 5, 6, 7, 8, 9] allM (by decide) prmM adrM (fun H locs hP hD hS => ?_)
      refine lv_iconst (v := (-1 : Int32)) hx hb dX4_controls_84 (by decide) ?_
      exact W.iret (v := (-1 : Int32)) hx hb hr (wr_end (congrArg (fun t9 : Int32 × MD => some (Value.int t9.1)) ((show fX4_controls w a1 a2 a3 a4 = ((-1 : Int32), o5) from (by subst h_o4; subst h_o5; exact (if_pos c_4).trans ((if_pos c_28).trans rfl))).symm.trans ho)) (congrArg (fun t9 : Int32 × MD => wM k z t9.2) ((show fX4_controls w a1 a2 a3 a4 = ((-1 : Int32), o5) from (by subst h_o4; subst h_o5; exact (if_pos c_4).trans ((if_pos c_28).trans rfl))).symm.trans ho)) hP hS) hS.2.2 dX4_controls_85
  · refine lv_aload_n hx hb dX4_controls_7 rfl (lv_at hl 0 rfl) ?_
    refine lv_bipush (v := (13 : Int32)) hx hb dX4_controls_8 (by decide) ?_
    refine lv_iconst (v := (0 : Int32)) hx hb dX4_controls_10 (by decide) ?_
    refine lv_iconst (v := (0 : Int32)) hx hb dX4_controls_11 (by decide) ?_
    obtain ⟨o6, h_o6⟩ : ∃ o9, (fX4_with w (13 : Int32) (0 : Int32) (0 : Int32)) = o9 := ⟨_, rfl⟩
    refine wr_call (r := (some (.int o6.1))) (ws' := wM k z o6.2) (W.runV (C := RX4) (b := (z 0)) (As := [.int (13 : Int32), .int (0 : Int32), .int (0 : Int32)]) (rest := []) ⟨hx, hb, hml, hown, hts⟩ (kX4_with l D k z w (13 : Int32) (0 : Int32) (0 : Int32) o6 h_o6) (cwV 3 hts gX4_controls_X4_with rfl rfl rfl (by decide +kernel) ⟨Nat.le_of_ble_eq_true rfl, Nat.le_of_ble_eq_true rfl⟩) (wr_preV bl_T pr_T hK hP hD (va_recv hK hP (ci := 3) (q0 := 0) rfl rfl)) rfl rfl hl.1 rfl (lv_room (Nat.le_of_ble_eq_true rfl)) dX4_controls_12 ⟨Nat.zero_le _, Nat.zero_le _⟩) hP hD hS [0, 1, 2, 3, 4, 5, 6, 7, 8, 9] [] [0, 1, 2, 3, 4, 5, 6, 7, 8, 9] allM (by decide) prmM adrM (fun H locs hP hD hS => ?_)
    exact W.iret (v := o6.1) hx hb hr (wr_end (congrArg (fun t9 : Int32 × MD => some (Value.int t9.1)) ((show fX4_controls w a1 a2 a3 a4 = (o6.1, o6.2) from (by subst h_o6; exact (if_neg c_4).trans rfl)).symm.trans ho)) (congrArg (fun t9 : Int32 × MD => wM k z t9.2) ((show fX4_controls w a1 a2 a3 a4 = (o6.1, o6.2) from (by subst h_o6; exact (if_neg c_4).trans rfl)).symm.trans ho)) hP hS) hS.2.2 dX4_controls_15
