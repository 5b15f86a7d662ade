def fX4_write (w : MD) (a1 : Int32) (a2 : Int32) (a3 : Int32) : MD :=
  if a1 = (3 : Int32) then
    if ((a2 &&& a3) &&& (16 : Int32)) = (0 : Int32) then
      (ms3 w (upd w.2.2.2.1 3 (w.2.2.2.1 3)))
    else
      (ms3 w (upd w.2.2.2.1 3 ((w.2.2.2.1 3) &&& (-17 : Int32))))
  else
    if (2 : Int32) ≤ a1 then
      if a1 = (9 : Int32) then
        if ((((w.2.2.2.1 (ix a1)) &&& (a2 ^^^ (-1 : Int32))) ||| (a3 &&& a2)) &&& (12 : Int32)) = (0 : Int32) then
          (ms3 w (upd w.2.2.2.1 (ix a1) (((w.2.2.2.1 (ix a1)) &&& ((wr0 (ix a1)) ^^^ (-1 : Int32))) ||| ((((w.2.2.2.1 (ix a1)) &&& (a2 ^^^ (-1 : Int32))) ||| (a3 &&& a2)) &&& (wr0 (ix a1))))))
        else
          (ms3 w (upd w.2.2.2.1 (ix a1) (((w.2.2.2.1 (ix a1)) &&& ((wr0 (ix a1)) ^^^ (-1 : Int32))) ||| (((((w.2.2.2.1 (ix a1)) &&& (a2 ^^^ (-1 : Int32))) ||| (a3 &&& a2)) ||| (12 : Int32)) &&& (wr0 (ix a1))))))
      else
        if a1 = (10 : Int32) then
          if ((((w.2.2.2.1 (ix a1)) &&& (a2 ^^^ (-1 : Int32))) ||| (a3 &&& a2)) &&& (12 : Int32)) = (0 : Int32) then
            (ms3 w (upd w.2.2.2.1 (ix a1) (((w.2.2.2.1 (ix a1)) &&& ((wr0 (ix a1)) ^^^ (-1 : Int32))) ||| ((((w.2.2.2.1 (ix a1)) &&& (a2 ^^^ (-1 : Int32))) ||| (a3 &&& a2)) &&& (wr0 (ix a1))))))
          else
            (ms3 w (upd w.2.2.2.1 (ix a1) (((w.2.2.2.1 (ix a1)) &&& ((wr0 (ix a1)) ^^^ (-1 : Int32))) ||| (((((w.2.2.2.1 (ix a1)) &&& (a2 ^^^ (-1 : Int32))) ||| (a3 &&& a2)) ||| (12 : Int32)) &&& (wr0 (ix a1))))))
        else
          if a1 = (14 : Int32) then
            (ms3 (ms3 w (upd w.2.2.2.1 (ix a1) (((w.2.2.2.1 (ix a1)) &&& ((wr0 (ix a1)) ^^^ (-1 : Int32))) ||| ((((w.2.2.2.1 (ix a1)) &&& (a2 ^^^ (-1 : Int32))) ||| (a3 &&& a2)) &&& (wr0 (ix a1)))))) (upd (upd w.2.2.2.1 (ix a1) (((w.2.2.2.1 (ix a1)) &&& ((wr0 (ix a1)) ^^^ (-1 : Int32))) ||| ((((w.2.2.2.1 (ix a1)) &&& (a2 ^^^ (-1 : Int32))) ||| (a3 &&& a2)) &&& (wr0 (ix a1))))) 15 (((upd w.2.2.2.1 (ix a1) (((w.2.2.2.1 (ix a1)) &&& ((wr0 (ix a1)) ^^^ (-1 : Int32))) ||| ((((w.2.2.2.1 (ix a1)) &&& (a2 ^^^ (-1 : Int32))) ||| (a3 &&& a2)) &&& (wr0 (ix a1))))) 14) &&& (65532 : Int32))))
          else
            (ms3 w (upd w.2.2.2.1 (ix a1) (((w.2.2.2.1 (ix a1)) &&& ((wr0 (ix a1)) ^^^ (-1 : Int32))) ||| ((((w.2.2.2.1 (ix a1)) &&& (a2 ^^^ (-1 : Int32))) ||| (a3 &&& a2)) &&& (wr0 (ix a1))))))
    else
      if ((((w.2.2.2.1 (ix a1)) &&& (a2 ^^^ (-1 : Int32))) ||| (a3 &&& a2)) &&& (3 : Int32)) = (0 : Int32) then
        if a1 = (9 : Int32) then
          if ((((w.2.2.2.1 (ix a1)) &&& (a2 ^^^ (-1 : Int32))) ||| (a3 &&& a2)) &&& (12 : Int32)) = (0 : Int32) then
            (ms3 w (upd w.2.2.2.1 (ix a1) (((w.2.2.2.1 (ix a1)) &&& ((wr0 (ix a1)) ^^^ (-1 : Int32))) ||| ((((w.2.2.2.1 (ix a1)) &&& (a2 ^^^ (-1 : Int32))) ||| (a3 &&& a2)) &&& (wr0 (ix a1))))))
          else
            (ms3 w (upd w.2.2.2.1 (ix a1) (((w.2.2.2.1 (ix a1)) &&& ((wr0 (ix a1)) ^^^ (-1 : Int32))) ||| (((((w.2.2.2.1 (ix a1)) &&& (a2 ^^^ (-1 : Int32))) ||| (a3 &&& a2)) ||| (12 : Int32)) &&& (wr0 (ix a1))))))
        else
          if a1 = (10 : Int32) then
            if ((((w.2.2.2.1 (ix a1)) &&& (a2 ^^^ (-1 : Int32))) ||| (a3 &&& a2)) &&& (12 : Int32)) = (0 : Int32) then
              (ms3 w (upd w.2.2.2.1 (ix a1) (((w.2.2.2.1 (ix a1)) &&& ((wr0 (ix a1)) ^^^ (-1 : Int32))) ||| ((((w.2.2.2.1 (ix a1)) &&& (a2 ^^^ (-1 : Int32))) ||| (a3 &&& a2)) &&& (wr0 (ix a1))))))
            else
              (ms3 w (upd w.2.2.2.1 (ix a1) (((w.2.2.2.1 (ix a1)) &&& ((wr0 (ix a1)) ^^^ (-1 : Int32))) ||| (((((w.2.2.2.1 (ix a1)) &&& (a2 ^^^ (-1 : Int32))) ||| (a3 &&& a2)) ||| (12 : Int32)) &&& (wr0 (ix a1))))))
          else
            if a1 = (14 : Int32) then
              (ms3 (ms3 w (upd w.2.2.2.1 (ix a1) (((w.2.2.2.1 (ix a1)) &&& ((wr0 (ix a1)) ^^^ (-1 : Int32))) ||| ((((w.2.2.2.1 (ix a1)) &&& (a2 ^^^ (-1 : Int32))) ||| (a3 &&& a2)) &&& (wr0 (ix a1)))))) (upd (upd w.2.2.2.1 (ix a1) (((w.2.2.2.1 (ix a1)) &&& ((wr0 (ix a1)) ^^^ (-1 : Int32))) ||| ((((w.2.2.2.1 (ix a1)) &&& (a2 ^^^ (-1 : Int32))) ||| (a3 &&& a2)) &&& (wr0 (ix a1))))) 15 (((upd w.2.2.2.1 (ix a1) (((w.2.2.2.1 (ix a1)) &&& ((wr0 (ix a1)) ^^^ (-1 : Int32))) ||| ((((w.2.2.2.1 (ix a1)) &&& (a2 ^^^ (-1 : Int32))) ||| (a3 &&& a2)) &&& (wr0 (ix a1))))) 14) &&& (65532 : Int32))))
            else
              (ms3 w (upd w.2.2.2.1 (ix a1) (((w.2.2.2.1 (ix a1)) &&& ((wr0 (ix a1)) ^^^ (-1 : Int32))) ||| ((((w.2.2.2.1 (ix a1)) &&& (a2 ^^^ (-1 : Int32))) ||| (a3 &&& a2)) &&& (wr0 (ix a1))))))
      else
        if a1 = (9 : Int32) then
          if (((((w.2.2.2.1 (ix a1)) &&& (a2 ^^^ (-1 : Int32))) ||| (a3 &&& a2)) ||| (3 : Int32)) &&& (12 : Int32)) = (0 : Int32) then
            (ms3 w (upd w.2.2.2.1 (ix a1) (((w.2.2.2.1 (ix a1)) &&& ((wr0 (ix a1)) ^^^ (-1 : Int32))) ||| (((((w.2.2.2.1 (ix a1)) &&& (a2 ^^^ (-1 : Int32))) ||| (a3 &&& a2)) ||| (3 : Int32)) &&& (wr0 (ix a1))))))
          else
            (ms3 w (upd w.2.2.2.1 (ix a1) (((w.2.2.2.1 (ix a1)) &&& ((wr0 (ix a1)) ^^^ (-1 : Int32))) ||| ((((((w.2.2.2.1 (ix a1)) &&& (a2 ^^^ (-1 : Int32))) ||| (a3 &&& a2)) ||| (3 : Int32)) ||| (12 : Int32)) &&& (wr0 (ix a1))))))
        else
          if a1 = (10 : Int32) then
            if (((((w.2.2.2.1 (ix a1)) &&& (a2 ^^^ (-1 : Int32))) ||| (a3 &&& a2)) ||| (3 : Int32)) &&& (12 : Int32)) = (0 : Int32) then
              (ms3 w (upd w.2.2.2.1 (ix a1) (((w.2.2.2.1 (ix a1)) &&& ((wr0 (ix a1)) ^^^ (-1 : Int32))) ||| (((((w.2.2.2.1 (ix a1)) &&& (a2 ^^^ (-1 : Int32))) ||| (a3 &&& a2)) ||| (3 : Int32)) &&& (wr0 (ix a1))))))
            else
              (ms3 w (upd w.2.2.2.1 (ix a1) (((w.2.2.2.1 (ix a1)) &&& ((wr0 (ix a1)) ^^^ (-1 : Int32))) ||| ((((((w.2.2.2.1 (ix a1)) &&& (a2 ^^^ (-1 : Int32))) ||| (a3 &&& a2)) ||| (3 : Int32)) ||| (12 : Int32)) &&& (wr0 (ix a1))))))
          else
            if a1 = (14 : Int32) then
              (ms3 (ms3 w (upd w.2.2.2.1 (ix a1) (((w.2.2.2.1 (ix a1)) &&& ((wr0 (ix a1)) ^^^ (-1 : Int32))) ||| (((((w.2.2.2.1 (ix a1)) &&& (a2 ^^^ (-1 : Int32))) ||| (a3 &&& a2)) ||| (3 : Int32)) &&& (wr0 (ix a1)))))) (upd (upd w.2.2.2.1 (ix a1) (((w.2.2.2.1 (ix a1)) &&& ((wr0 (ix a1)) ^^^ (-1 : Int32))) ||| (((((w.2.2.2.1 (ix a1)) &&& (a2 ^^^ (-1 : Int32))) ||| (a3 &&& a2)) ||| (3 : Int32)) &&& (wr0 (ix a1))))) 15 (((upd w.2.2.2.1 (ix a1) (((w.2.2.2.1 (ix a1)) &&& ((wr0 (ix a1)) ^^^ (-1 : Int32))) ||| (((((w.2.2.2.1 (ix a1)) &&& (a2 ^^^ (-1 : Int32))) ||| (a3 &&& a2)) ||| (3 : Int32)) &&& (wr0 (ix a1))))) 14) &&& (65532 : Int32))))
            else
              (ms3 w (upd w.2.2.2.1 (ix a1) (((w.2.2.2.1 (ix a1)) &&& ((wr0 (ix a1)) ^^^ (-1 : Int32))) ||| (((((w.2.2.2.1 (ix a1)) &&& (a2 ^^^ (-1 : Int32))) ||| (a3 &&& a2)) ||| (3 : Int32)) &&& (wr0 (ix a1))))))
set_option maxHeartbeats 4000000 in
set_option maxRecDepth 100000 in
theorem kX4_write (l : Launch) (D : va_G) (k : Nat → ClassId) (z : Nat → Nat) (w : MD) (a1 : Int32) (a2 : Int32) (a3 : Int32) (h1 : vp_in a1 18) (o : MD) (ho : fX4_write w a1 a2 a3 = o) : Met l yX4_write wsX4_write { frames := 0, cells := 0, slots := 0, locals := 0 } (wr_P D vwCl (tyL k) (wM k z w) (fun _ => True) [.ref (z 0), .int a1, .int a2, .int a3]) (wr_Q D vwCl none (wM k z w) (wM k z o)) 0 0 (in_W (wM k z w)) := by
  refine Met.ofW (cc := cX4_write) (maxL := 5) (ret := none) (by decide) rfl ?_
  intro p e s m args below meth c s₁ B hml hv0
  obtain ⟨rfl, hP, hK, hX, hD0⟩ := hv0
  have hx := B.exec
  have hb := B.bytes
  have hr := B.returns
  have hts := atoms_spec (ws := wsX4_write) B.pre
  have hown : s.vm.findClass RX4 = some m.cls := findClass_of_methodNamed B.named
  have hlocks := B.notSynchronized
  have hD : va_D (in_W (wM k z w)) (wM k z w) := wD_self hD0
  have hS : va_S (in_W (wM k z w)) s.heap s.heap [] := va_S.rf
  have hl := lv_entry ([.ref (z 0), .int a1, .int a2, .int a3]) (n := 5) (Nat.le_of_ble_eq_true rfl)
  rw [lg_entry_eq]
  generalize (lg_sl ([.ref (z 0), .int a1, .int a2, .int a3]) ++ List.replicate (5 - (lg_sl ([.ref (z 0), .int a1, .int a2, .int a3])).length) Slot.unset).toArray = ls at hl ⊢
  have hl : lv_has ls 5 [(0, .ref (z 0)), (1, .int a1), (2, .int a2), (3, .int a3)] := hl
  refine lv_iload_n hx hb dX4_write_0 rfl (lv_at hl 1 rfl) ?_
  refine lv_iconst (v := (3 : Int32)) hx hb dX4_write_1 (by decide) ?_
  refine lv_icmp_ne (tgt := 39) hx hb dX4_write_2 (by decide) (fun c_2 => ?_) (fun c_2 => ?_)
  · refine lv_aload_n hx hb dX4_write_39 rfl (lv_at hl 0 rfl) ?_
    refine va_get (D := D) (ci := 3) (v := .ref (z 3)) (C := RX4) (T := TX4) (N := 20) hx hb hts (by decide +kernel) hown hK hP 0 rfl rfl 3 (by decide) (hts (.fieldLink RX4 16 "TrapMachineModel" "control" "[I") (by decide +kernel)) (fun _ h9 => h9) rfl dX4_write_40 ?_
    refine lv_iload_n hx hb dX4_write_43 rfl (lv_at hl 1 rfl) ?_
    refine q_iald (j := (ix a1)) (x9 := (w.2.2.2.1 (ix a1))) hx hb hK hP 3 0 rfl rfl h1 rfl rfl dX4_write_44 ?_
    refine lv_iload_n hx hb dX4_write_45 rfl (lv_at hl 2 rfl) ?_
    refine lv_iconst (v := (-1 : Int32)) hx hb dX4_write_46 (by decide) ?_
    refine lv_ixor hx hb dX4_write_47 ?_
    refine lv_iand hx hb dX4_write_48 ?_
    refine lv_iload_n hx hb dX4_write_49 rfl (lv_at hl 3 rfl) ?_
    refine lv_iload_n hx hb dX4_write_50 rfl (lv_at hl 2 rfl) ?_
    refine lv_iand hx hb dX4_write_51 ?_
    refine lv_ior hx hb dX4_write_52 ?_
    refine lv_istore (lv' := [(4, .int (((w.2.2.2.1 (ix a1)) &&& (a2 ^^^ (-1 : Int32))) ||| (a3 &&& a2))), (0, .ref (z 0)), (1, .int a1), (2, .int a2), (3, .int a3)]) hx hb dX4_write_53 hl (by decide) rfl (fun ls hl => ?_)
    refine lv_iload_n hx hb dX4_write_55 rfl (lv_at hl 2 rfl) ?_
    refine lv_iconst (v := (2 : Int32)) hx hb dX4_write_56 (by decide) ?_
    refine lv_icmp_ge (tgt := 73) hx hb dX4_write_57 (by decide) (fun c_57 => ?_) (fun c_57 => ?_)
    · refine lv_iload_n hx hb dX4_write_73 rfl (lv_at hl 2 rfl) ?_
      refine lv_bipush (v := (9 : Int32)) hx hb dX4_write_74 (by decide) ?_
      refine lv_icmp_eq (tgt := 85) hx hb dX4_write_76 (by decide) (fun c_76 => ?_) (fun c_76 => ?_)
      · refine lv_iload hx hb dX4_write_85 (lv_at hl 0 rfl) ?_
        refine lv_bipush (v := (12 : Int32)) hx hb dX4_write_87 (by decide) ?_
        refine lv_iand hx hb dX4_write_89 ?_
        refine lv_if_eq (tgt := 100) hx hb dX4_write_90 (by decide) (fun c_90 => ?_) (fun c_90 => ?_)
        · refine lv_aload_n hx hb dX4_write_100 rfl (lv_at hl 1 rfl) ?_
          refine va_get (D := D) (ci := 3) (v := .ref (z 3)) (C := RX4) (T := TX4) (N := 20) hx hb hts (by decide +kernel) hown hK hP 0 rfl rfl 3 (by decide) (hts (.fieldLink RX4 16 "TrapMachineModel" "control" "[I") (by decide +kernel)) (fun _ h9 => h9) rfl dX4_write_101 ?_
          refine lv_iload_n hx hb dX4_write_104 rfl (lv_at hl 2 rfl) ?_
          refine lv_aload_n hx hb dX4_write_105 rfl (lv_at hl 1 rfl) ?_
          refine va_get (D := D) (ci := 3) (v := .ref (z 3)) (C := RX4) (T := TX4) (N := 20) hx hb hts (by decide +kernel) hown hK hP 0 rfl rfl 3 (by decide) (hts (.fieldLink RX4 16 "TrapMachineModel" "control" "[I") (by decide +kernel)) (fun _ h9 => h9) rfl dX4_write_106 ?_
          refine lv_iload_n hx hb dX4_write_109 rfl (lv_at hl 2 rfl) ?_
          refine q_iald (j := (ix a1)) (x9 := (w.2.2.2.1 (ix a1))) hx hb hK hP 3 0 rfl rfl h1 rfl rfl dX4_write_110 ?_
          refine lv_aload_n hx hb dX4_write_111 rfl (lv_at hl 1 rfl) ?_
          refine va_get (D := D) (ci := 3) (v := .ref (z 4)) (C := RX4) (T := TX4) (N := 20) hx hb hts (by decide +kernel) hown hK hP 0 rfl rfl 4 (by decide) (hts (.fieldLink RX4 22 "TrapMachineModel" "written" "[I") (by decide +kernel)) (fun _ h9 => h9) rfl dX4_write_112 ?_
          refine lv_iload_n hx hb dX4_write_115 rfl (lv_at hl 2 rfl) ?_
          refine q_iald (j := (ix a1)) (x9 := (wr0 (ix a1))) hx hb hK hP 4 0 rfl rfl h1 rfl rfl dX4_write_116 ?_
          refine lv_iconst (v := (-1 : Int32)) hx hb dX4_write_117 (by decide) ?_
          refine lv_ixor hx hb dX4_write_118 ?_
          refine lv_iand hx hb dX4_write_119 ?_
          refine lv_iload hx hb dX4_write_120 (lv_at hl 0 rfl) ?_
          refine lv_aload_n hx hb dX4_write_122 rfl (lv_at hl 1 rfl) ?_
          refine va_get (D := D) (ci := 3) (v := .ref (z 4)) (C := RX4) (T := TX4) (N := 20) hx hb hts (by decide +kernel) hown hK hP 0 rfl rfl 4 (by decide) (hts (.fieldLink RX4 22 "TrapMachineModel" "written" "[I") (by decide +kernel)) (fun _ h9 => h9) rfl dX4_write_123 ?_
          refine lv_iload_n hx hb dX4_write_126 rfl (lv_at hl 2 rfl) ?_
          refine q_iald (j := (ix a1)) (x9 := (wr0 (ix a1))) hx hb hK hP 4 0 rfl rfl h1 rfl rfl dX4_write_127 ?_
          refine lv_iand hx hb dX4_write_128 ?_
          refine lv_ior hx hb dX4_write_129 ?_
          refine q_iast (j := (ix a1)) (ws' := wM k z (ms3 w (upd w.2.2.2.1 (ix a1) (((w.2.2.2.1 (ix a1)) &&& ((wr0 (ix a1)) ^^^ (-1 : Int32))) ||| ((((w.2.2.2.1 (ix a1)) &&& (a2 ^^^ (-1 : Int32))) ||| (a3 &&& a2)) &&& (wr0 (ix a1))))))) hx hb hK hP hD hS 3 0 rfl rfl h1 rfl rfl dX4_write_130 (fun H locs hP hD hS => ?_)
          refine lv_iload_n hx hb dX4_write_131 rfl (lv_at hl 2 rfl) ?_
          refine lv_bipush (v := (14 : Int32)) hx hb dX4_write_132 (by decide) ?_
          refine lv_icmp_ne (tgt := 154) hx hb dX4_write_134 (by decide) (fun _ => ?_) (fun c9 => absurd c9 (show ¬ (a1 = (14 : Int32)) by rw [c_76]; decide))
          exact W.vret hx hb hr (wr_end rfl (congrArg (wM k z) ((show fX4_write w a1 a2 a3 = (ms3 w (upd w.2.2.2.1 (ix a1) (((w.2.2.2.1 (ix a1)) &&& ((wr0 (ix a1)) ^^^ (-1 : Int32))) ||| ((((w.2.2.2.1 (ix a1)) &&& (a2 ^^^ (-1 : Int32))) ||| (a3 &&& a2)) &&& (wr0 (ix a1)))))) from (if_neg c_2).trans ((if_pos c_57).trans ((if_pos c_76).trans ((if_pos c_90).trans rfl)))).symm.trans ho)) hP hS) hS.2.2 dX4_write_154
        · refine lv_iload hx hb dX4_write_93 (lv_at hl 0 rfl) ?_
          refine lv_bipush (v := (12 : Int32)) hx hb dX4_write_95 (by decide) ?_
          refine lv_ior hx hb dX4_write_97 ?_
          refine lv_istore (lv' := [(4, .int ((((w.2.2.2.1 (ix a1)) &&& (a2 ^^^ (-1 : Int32))) ||| (a3 &&& a2)) ||| (12 : Int32))), (0, .ref (z 0)), (1, .int a1), (2, .int a2), (3, .int a3)]) hx hb dX4_write_98 hl (by decide) rfl (fun ls hl => ?_)
          refine lv_aload_n hx hb dX4_write_100 rfl (lv_at hl 1 rfl) ?_
          refine va_get (D := D) (ci := 3) (v := .ref (z 3)) (C := RX4) (T := TX4) (N := 20) hx hb hts (by decide +kernel) hown hK hP 0 rfl rfl 3 (by decide) (hts (.fieldLink RX4 16 "TrapMachineModel" "control" "[I") (by decide +kernel)) (fun _ h9 => h9) rfl dX4_write_101 ?_
          refine lv_iload_n hx hb dX4_write_104 rfl (lv_at hl 2 rfl) ?_
          refine lv_aload_n hx hb dX4_write_105 rfl (lv_at hl 1 rfl) ?_
          refine va_get (D := D) (ci := 3) (v := .ref (z 3)) (C := RX4) (T := TX4) (N := 20) hx hb hts (by decide +kernel) hown hK hP 0 rfl rfl 3 (by decide) (hts (.fieldLink RX4 16 "TrapMachineModel" "control" "[I") (by decide +kernel)) (fun _ h9 => h9) rfl dX4_write_106 ?_
          refine lv_iload_n hx hb dX4_write_109 rfl (lv_at hl 2 rfl) ?_
          refine q_iald (j := (ix a1)) (x9 := (w.2.2.2.1 (ix a1))) hx hb hK hP 3 0 rfl rfl h1 rfl rfl dX4_write_110 ?_
          refine lv_aload_n hx hb dX4_write_111 rfl (lv_at hl 1 rfl) ?_
          refine va_get (D := D) (ci := 3) (v := .ref (z 4)) (C := RX4) (T := TX4) (N := 20) hx hb hts (by decide +kernel) hown hK hP 0 rfl rfl 4 (by decide) (hts (.fieldLink RX4 22 "TrapMachineModel" "written" "[I") (by decide +kernel)) (fun _ h9 => h9) rfl dX4_write_112 ?_
          refine lv_iload_n hx hb dX4_write_115 rfl (lv_at hl 2 rfl) ?_
          refine q_iald (j := (ix a1)) (x9 := (wr0 (ix a1))) hx hb hK hP 4 0 rfl rfl h1 rfl rfl dX4_write_116 ?_
          refine lv_iconst (v := (-1 : Int32)) hx hb dX4_write_117 (by decide) ?_
          refine lv_ixor hx hb dX4_write_118 ?_
          refine lv_iand hx hb dX4_write_119 ?_
          refine lv_iload hx hb dX4_write_120 (lv_at hl 0 rfl) ?_
          refine lv_aload_n hx hb dX4_write_122 rfl (lv_at hl 1 rfl) ?_
          refine va_get (D := D) (ci := 3) (v := .ref (z 4)) (C := RX4) (T := TX4) (N := 20) hx hb hts (by decide +kernel) hown hK hP 0 rfl rfl 4 (by decide) (hts (.fieldLink RX4 22 "TrapMachineModel" "written" "[I") (by decide +kernel)) (fun _ h9 => h9) rfl dX4_write_123 ?_
          refine lv_iload_n hx hb dX4_write_126 rfl (lv_at hl 2 rfl) ?_
          refine q_iald (j := (ix a1)) (x9 := (wr0 (ix a1))) hx hb hK hP 4 0 rfl rfl h1 rfl rfl dX4_write_127 ?_
          refine lv_iand hx hb dX4_write_128 ?_
          refine lv_ior hx hb dX4_write_129 ?_
          refine q_iast (j := (ix a1)) (ws' := wM k z (ms3 w (upd w.2.2.2.1 (ix a1) (((w.2.2.2.1 (ix a1)) &&& ((wr0 (ix a1)) ^^^ (-1 : Int32))) ||| (((((w.2.2.2.1 (ix a1)) &&& (a2 ^^^ (-1 : Int32))) ||| (a3 &&& a2)) ||| (12 : Int32)) &&& (wr0 (ix a1))))))) hx hb hK hP hD hS 3 0 rfl rfl h1 rfl rfl dX4_write_130 (fun H locs hP hD hS => ?_)
          refine lv_iload_n hx hb dX4_write_131 rfl (lv_at hl 2 rfl) ?_
          refine lv_bipush (v := (14 : Int32)) hx hb dX4_write_132 (by decide) ?_
          refine lv_icmp_ne (tgt := 154) hx hb dX4_write_134 (by decide) (fun _ => ?_) (fun c9 => absurd c9 (show ¬ (a1 = (14 : Int32)) by rw [c_76]; decide))
          exact W.vret hx hb hr (wr_end rfl (congrArg (wM k z) ((show fX4_write w a1 a2 a3 = (ms3 w (upd w.2.2.2.1 (ix a1) (((w.2.2.2.1 (ix a1)) &&& ((wr0 (ix a1)) ^^^ (-1 : Int32))) ||| (((((w.2.2.2.1 (ix a1)) &&& (a2 ^^^ (-1 : Int32))) ||| (a3 &&& a2)) ||| (12 : Int32)) &&& (wr0 (ix a1)))))) from (if_neg c_2).trans ((if_pos c_57).trans ((if_pos c_76).trans ((if_neg c_90).trans rfl)))).symm.trans ho)) hP hS) hS.2.2 dX4_write_154
      · refine lv_iload_n hx hb dX4_write_79 rfl (lv_at hl 2 rfl) ?_
        refine lv_bipush (v := (10 : Int32)) hx hb dX4_write_80 (by decide) ?_
        refine lv_icmp_ne (tgt := 100) hx hb dX4_write_82 (by decide) (fun c_82 => ?_) (fun c_82 => ?_)
        · refine lv_aload_n hx hb dX4_write_100 rfl (lv_at hl 1 rfl) ?_
          refine va_get (D := D) (ci := 3) (v := .ref (z 3)) (C := RX4) (T := TX4) (N := 20) hx hb hts (by decide +kernel) hown hK hP 0 rfl rfl 3 (by decide) (hts (.fieldLink RX4 16 "TrapMachineModel" "control" "[I") (by decide +kernel)) (fun _ h9 => h9) rfl dX4_write_101 ?_
          refine lv_iload_n hx hb dX4_write_104 rfl (lv_at hl 2 rfl) ?_
          refine lv_aload_n hx hb dX4_write_105 rfl (lv_at hl 1 rfl) ?_
          refine va_get (D := D) (ci := 3) (v := .ref (z 3)) (C := RX4) (T := TX4) (N := 20) hx hb hts (by decide +kernel) hown hK hP 0 rfl rfl 3 (by decide) (hts (.fieldLink RX4 16 "TrapMachineModel" "control" "[I") (by decide +kernel)) (fun _ h9 => h9) rfl dX4_write_106 ?_
          refine lv_iload_n hx hb dX4_write_109 rfl (lv_at hl 2 rfl) ?_
          refine q_iald (j := (ix a1)) (x9 := (w.2.2.2.1 (ix a1))) hx hb hK hP 3 0 rfl rfl h1 rfl rfl dX4_write_110 ?_
          refine lv_aload_n hx hb dX4_write_111 rfl (lv_at hl 1 rfl) ?_
          refine va_get (D := D) (ci := 3) (v := .ref (z 4)) (C := RX4) (T := TX4) (N := 20) hx hb hts (by decide +kernel) hown hK hP 0 rfl rfl 4 (by decide) (hts (.fieldLink RX4 22 "TrapMachineModel" "written" "[I") (by decide +kernel)) (fun _ h9 => h9) rfl dX4_write_112 ?_
          refine lv_iload_n hx hb dX4_write_115 rfl (lv_at hl 2 rfl) ?_
          refine q_iald (j := (ix a1)) (x9 := (wr0 (ix a1))) hx hb hK hP 4 0 rfl rfl h1 rfl rfl dX4_write_116 ?_
          refine lv_iconst (v := (-1 : Int32)) hx hb dX4_write_117 (by decide) ?_
          refine lv_ixor hx hb dX4_write_118 ?_
          refine lv_iand hx hb dX4_write_119 ?_
          refine lv_iload hx hb dX4_write_120 (lv_at hl 0 rfl) ?_
          refine lv_aload_n hx hb dX4_write_122 rfl (lv_at hl 1 rfl) ?_
          refine va_get (D := D) (ci := 3) (v := .ref (z 4)) (C := RX4) (T := TX4) (N := 20) hx hb hts (by decide +kernel) hown hK hP 0 rfl rfl 4 (by decide) (hts (.fieldLink RX4 22 "TrapMachineModel" "written" "[I") (by decide +kernel)) (fun _ h9 => h9) rfl dX4_write_123 ?_
          refine lv_iload_n hx hb dX4_write_126 rfl (lv_at hl 2 rfl) ?_
          refine q_iald (j := (ix a1)) (x9 := (wr0 (ix a1))) hx hb hK hP 4 0 rfl rfl h1 rfl rfl dX4_write_127 ?_
          refine lv_iand hx hb dX4_write_128 ?_
          refine lv_ior hx hb dX4_write_129 ?_
          refine q_iast (j := (ix a1)) (ws' := wM k z (ms3 w (upd w.2.2.2.1 (ix a1) (((w.2.2.2.1 (ix a1)) &&& ((wr0 (ix a1)) ^^^ (-1 : Int32))) ||| ((((w.2.2.2.1 (ix a1)) &&& (a2 ^^^ (-1 : Int32))) ||| (a3 &&& a2)) &&& (wr0 (ix a1))))))) hx hb hK hP hD hS 3 0 rfl rfl h1 rfl rfl dX4_write_130 (fun H locs hP hD hS => ?_)
          refine lv_iload_n hx hb dX4_write_131 rfl (lv_at hl 2 rfl) ?_
          refine lv_bipush (v := (14 : Int32)) hx hb dX4_write_132 (by decide) ?_
          refine lv_icmp_ne (tgt := 154) hx hb dX4_write_134 (by decide) (fun c_134 => ?_) (fun c_134 => ?_)
          · exact W.vret hx hb hr (wr_end rfl (congrArg (wM k z) ((show fX4_write w a1 a2 a3 = (ms3 w (upd w.2.2.2.1 (ix a1) (((w.2.2.2.1 (ix a1)) &&& ((wr0 (ix a1)) ^^^ (-1 : Int32))) ||| ((((w.2.2.2.1 (ix a1)) &&& (a2 ^^^ (-1 : Int32))) ||| (a3 &&& a2)) &&& (wr0 (ix a1)))))) from (if_neg c_2).trans ((if_pos c_57).trans ((if_neg c_76).trans ((if_neg c_82).trans ((if_neg c_134).trans rfl))))).symm.trans ho)) hP hS) hS.2.2 dX4_write_154
          · refine lv_aload_n hx hb dX4_write_137 rfl (lv_at hl 1 rfl) ?_
            refine va_get (D := D) (ci := 3) (v := .ref (z 3)) (C := RX4) (T := TX4) (N := 20) hx hb hts (by decide +kernel) hown hK hP 0 rfl rfl 3 (by decide) (hts (.fieldLink RX4 16 "TrapMachineModel" "control" "[I") (by decide +kernel)) (fun _ h9 => h9) rfl dX4_write_138 ?_
            refine lv_bipush (v := (15 : Int32)) hx hb dX4_write_141 (by decide) ?_
            refine lv_aload_n hx hb dX4_write_143 rfl (lv_at hl 1 rfl) ?_
            refine va_get (D := D) (ci := 3) (v := .ref (z 3)) (C := RX4) (T := TX4) (N := 20) hx hb hts (by decide +kernel) hown hK hP 0 rfl rfl 3 (by decide) (hts (.fieldLink RX4 16 "TrapMachineModel" "control" "[I") (by decide +kernel)) (fun _ h9 => h9) rfl dX4_write_144 ?_
            refine lv_bipush (v := (14 : Int32)) hx hb dX4_write_147 (by decide) ?_
            refine q_iald (j := 14) (x9 := ((upd w.2.2.2.1 (ix a1) (((w.2.2.2.1 (ix a1)) &&& ((wr0 (ix a1)) ^^^ (-1 : Int32))) ||| ((((w.2.2.2.1 (ix a1)) &&& (a2 ^^^ (-1 : Int32))) ||| (a3 &&& a2)) &&& (wr0 (ix a1))))) 14)) hx hb hK hP 3 0 rfl rfl (vi_k (by decide)) rfl rfl dX4_write_149 ?_
            refine lv_ldc (v := (65532 : Int32)) hx hb hown (hts (.constant RX4 82 (65532)) (by decide +kernel)) dX4_write_150 ?_
            refine lv_iand hx hb dX4_write_152 ?_
            refine q_iast (j := 15) (ws' := wM k z (ms3 (ms3 w (upd w.2.2.2.1 (ix a1) (((w.2.2.2.1 (ix a1)) &&& ((wr0 (ix a1)) ^^^ (-1 : Int32))) ||| ((((w.2.2.2.1 (ix a1)) &&& (a2 ^^^ (-1 : Int32))) ||| (a3 &&& a2)) &&& (wr0 (ix a1)))))) (upd (upd w.2.2.2.1 (ix a1) (((w.2.2.2.1 (ix a1)) &&& ((wr0 (ix a1)) ^^^ (-1 : Int32))) ||| ((((w.2.2.2.1 (ix a1)) &&& (a2 ^^^ (-1 : Int32))) ||| (a3 &&& a2)) &&& (wr0 (ix a1))))) 15 (((upd w.2.2.2.1 (ix a1) (((w.2.2.2.1 (ix a1)) &&& ((wr0 (ix a1)) ^^^ (-1 : Int32))) ||| ((((w.2.2.2.1 (ix a1)) &&& (a2 ^^^ (-1 : Int32))) ||| (a3 &&& a2)) &&& (wr0 (ix a1))))) 14) &&& (65532 : Int32))))) hx hb hK hP hD hS 3 0 rfl rfl (vi_k (by decide)) rfl rfl dX4_write_153 (fun H locs hP hD hS => ?_)
            exact W.vret hx hb hr (wr_end rfl (congrArg (wM k z) ((show fX4_write w a1 a2 a3 = (ms3 (ms3 w (upd w.2.2.2.1 (ix a1) (((w.2.2.2.1 (ix a1)) &&& ((wr0 (ix a1)) ^^^ (-1 : Int32))) ||| ((((w.2.2.2.1 (ix a1)) &&& (a2 ^^^ (-1 : Int32))) ||| (a3 &&& a2)) &&& (wr0 (ix a1)))))) (upd (upd w.2.2.2.1 (ix a1) (((w.2.2.2.1 (ix a1)) &&& ((wr0 (ix a1)) ^^^ (-1 : Int32))) ||| ((((w.2.2.2.1 (ix a1)) &&& (a2 ^^^ (-1 : Int32))) ||| (a3 &&& a2)) &&& (wr0 (ix a1))))) 15 (((upd w.2.2.2.1 (ix a1) (((w.2.2.2.1 (ix a1)) &&& ((wr0 (ix a1)) ^^^ (-1 : Int32))) ||| ((((w.2.2.2.1 (ix a1)) &&& (a2 ^^^ (-1 : Int32))) ||| (a3 &&& a2)) &&& (wr0 (ix a1))))) 14) &&& (65532 : Int32)))) from (if_neg c_2).trans ((if_pos c_57).trans ((if_neg c_76).trans ((if_neg c_82).trans ((if_pos c_134).trans rfl))))).symm.trans ho)) hP hS) hS.2.2 dX4_write_154
        · refine lv_iload hx hb dX4_write_85 (lv_at hl 0 rfl) ?_
          refine lv_bipush (v := (12 : Int32)) hx hb dX4_write_87 (by decide) ?_
          refine lv_iand hx hb dX4_write_89 ?_
          refine lv_if_eq (tgt := 100) hx hb dX4_write_90 (by decide) (fun c_90 => ?_) (fun c_90 => ?_)
          · refine lv_aload_n hx hb dX4_write_100 rfl (lv_at hl 1 rfl) ?_
            refine va_get (D := D) (ci := 3) (v := .ref (z 3)) (C := RX4) (T := TX4) (N := 20) hx hb hts (by decide +kernel) hown hK hP 0 rfl rfl 3 (by decide) (hts (.fieldLink RX4 16 "TrapMachineModel" "control" "[I") (by decide +kernel)) (fun _ h9 => h9) rfl dX4_write_101 ?_
            refine lv_iload_n hx hb dX4_write_104 rfl (lv_at hl 2 rfl) ?_
            refine lv_aload_n hx hb dX4_write_105 rfl (lv_at hl 1 rfl) ?_
            refine va_get (D := D) (ci := 3) (v := .ref (z 3)) (C := RX4) (T := TX4) (N := 20) hx hb hts (by decide +kernel) hown hK hP 0 rfl rfl 3 (by decide) (hts (.fieldLink RX4 16 "TrapMachineModel" "control" "[I") (by decide +kernel)) (fun _ h9 => h9) rfl dX4_write_106 ?_
            refine lv_iload_n hx hb dX4_write_109 rfl (lv_at hl 2 rfl) ?_
            refine q_iald (j := (ix a1)) (x9 := (w.2.2.2.1 (ix a1))) hx hb hK hP 3 0 rfl rfl h1 rfl rfl dX4_write_110 ?_
            refine lv_aload_n hx hb dX4_write_111 rfl (lv_at hl 1 rfl) ?_
            refine va_get (D := D) (ci := 3) (v := .ref (z 4)) (C := RX4) (T := TX4) (N := 20) hx hb hts (by decide +kernel) hown hK hP 0 rfl rfl 4 (by decide) (hts (.fieldLink RX4 22 "TrapMachineModel" "written" "[I") (by decide +kernel)) (fun _ h9 => h9) rfl dX4_write_112 ?_
            refine lv_iload_n hx hb dX4_write_115 rfl (lv_at hl 2 rfl) ?_
            refine q_iald (j := (ix a1)) (x9 := (wr0 (ix a1))) hx hb hK hP 4 0 rfl rfl h1 rfl rfl dX4_write_116 ?_
            refine lv_iconst (v := (-1 : Int32)) hx hb dX4_write_117 (by decide) ?_
            refine lv_ixor hx hb dX4_write_118 ?_
            refine lv_iand hx hb dX4_write_119 ?_
            refine lv_iload hx hb dX4_write_120 (lv_at hl 0 rfl) ?_
            refine lv_aload_n hx hb dX4_write_122 rfl (lv_at hl 1 rfl) ?_
            refine va_get (D := D) (ci := 3) (v := .ref (z 4)) (C := RX4) (T := TX4) (N := 20) hx hb hts (by decide +kernel) hown hK hP 0 rfl rfl 4 (by decide) (hts (.fieldLink RX4 22 "TrapMachineModel" "written" "[I") (by decide +kernel)) (fun _ h9 => h9) rfl dX4_write_123 ?_
            refine lv_iload_n hx hb dX4_write_126 rfl (lv_at hl 2 rfl) ?_
            refine q_iald (j := (ix a1)) (x9 := (wr0 (ix a1))) hx hb hK hP 4 0 rfl rfl h1 rfl rfl dX4_write_127 ?_
            refine lv_iand hx hb dX4_write_128 ?_
            refine lv_ior hx hb dX4_write_129 ?_
            refine q_iast (j := (ix a1)) (ws' := wM k z (ms3 w (upd w.2.2.2.1 (ix a1) (((w.2.2.2.1 (ix a1)) &&& ((wr0 (ix a1)) ^^^ (-1 : Int32))) ||| ((((w.2.2.2.1 (ix a1)) &&& (a2 ^^^ (-1 : Int32))) ||| (a3 &&& a2)) &&& (wr0 (ix a1))))))) hx hb hK hP hD hS 3 0 rfl rfl h1 rfl rfl dX4_write_130 (fun H locs hP hD hS => ?_)
            refine lv_iload_n hx hb dX4_write_131 rfl (lv_at hl 2 rfl) ?_
            refine lv_bipush (v := (14 : Int32)) hx hb dX4_write_132 (by decide) ?_
            refine lv_icmp_ne (tgt := 154) hx hb dX4_write_134 (by decide) (fun _ => ?_) (fun c9 => absurd c9 (show ¬ (a1 = (14 : Int32)) by rw [c_82]; decide))
            exact W.vret hx hb hr (wr_end rfl (congrArg (wM k z) ((show fX4_write w a1 a2 a3 = (ms3 w (upd w.2.2.2.1 (ix a1) (((w.2.2.2.1 (ix a1)) &&& ((wr0 (ix a1)) ^^^ (-1 : Int32))) ||| ((((w.2.2.2.1 (ix a1)) &&& (a2 ^^^ (-1 : Int32))) ||| (a3 &&& a2)) &&& (wr0 (ix a1)))))) from (if_neg c_2).trans ((if_pos c_57).trans ((if_neg c_76).trans ((if_pos c_82).trans ((if_pos c_90).trans rfl))))).symm.trans ho)) hP hS) hS.2.2 dX4_write_154
          · refine lv_iload hx hb dX4_write_93 (lv_at hl 0 rfl) ?_
            refine lv_bipush (v := (12 : Int32)) hx hb dX4_write_95 (by decide) ?_
            refine lv_ior hx hb dX4_write_97 ?_
            refine lv_istore (lv' := [(4, .int ((((w.2.2.2.1 (ix a1)) &&& (a2 ^^^ (-1 : Int32))) ||| (a3 &&& a2)) ||| (12 : Int32))), (0, .ref (z 0)), (1, .int a1), (2, .int a2), (3, .int a3)]) hx hb dX4_write_98 hl (by decide) rfl (fun ls hl => ?_)
            refine lv_aload_n hx hb dX4_write_100 rfl (lv_at hl 1 rfl) ?_
            refine va_get (D := D) (ci := 3) (v := .ref (z 3)) (C := RX4) (T := TX4) (N := 20) hx hb hts (by decide +kernel) hown hK hP 0 rfl rfl 3 (by decide) (hts (.fieldLink RX4 16 "TrapMachineModel" "control" "[I") (by decide +kernel)) (fun _ h9 => h9) rfl dX4_write_101 ?_
            refine lv_iload_n hx hb dX4_write_104 rfl (lv_at hl 2 rfl) ?_
            refine lv_aload_n hx hb dX4_write_105 rfl (lv_at hl 1 rfl) ?_
            refine va_get (D := D) (ci := 3) (v := .ref (z 3)) (C := RX4) (T := TX4) (N := 20) hx hb hts (by decide +kernel) hown hK hP 0 rfl rfl 3 (by decide) (hts (.fieldLink RX4 16 "TrapMachineModel" "control" "[I") (by decide +kernel)) (fun _ h9 => h9) rfl dX4_write_106 ?_
            refine lv_iload_n hx hb dX4_write_109 rfl (lv_at hl 2 rfl) ?_
            refine q_iald (j := (ix a1)) (x9 := (w.2.2.2.1 (ix a1))) hx hb hK hP 3 0 rfl rfl h1 rfl rfl dX4_write_110 ?_
            refine lv_aload_n hx hb dX4_write_111 rfl (lv_at hl 1 rfl) ?_
            refine va_get (D := D) (ci := 3) (v := .ref (z 4)) (C := RX4) (T := TX4) (N := 20) hx hb hts (by decide +kernel) hown hK hP 0 rfl rfl 4 (by decide) (hts (.fieldLink RX4 22 "TrapMachineModel" "written" "[I") (by decide +kernel)) (fun _ h9 => h9) rfl dX4_write_112 ?_
            refine lv_iload_n hx hb dX4_write_115 rfl (lv_at hl 2 rfl) ?_
            refine q_iald (j := (ix a1)) (x9 := (wr0 (ix a1))) hx hb hK hP 4 0 rfl rfl h1 rfl rfl dX4_write_116 ?_
            refine lv_iconst (v := (-1 : Int32)) hx hb dX4_write_117 (by decide) ?_
            refine lv_ixor hx hb dX4_write_118 ?_
            refine lv_iand hx hb dX4_write_119 ?_
            refine lv_iload hx hb dX4_write_120 (lv_at hl 0 rfl) ?_
            refine lv_aload_n hx hb dX4_write_122 rfl (lv_at hl 1 rfl) ?_
            refine va_get (D := D) (ci := 3) (v := .ref (z 4)) (C := RX4) (T := TX4) (N := 20) hx hb hts (by decide +kernel) hown hK hP 0 rfl rfl 4 (by decide) (hts (.fieldLink RX4 22 "TrapMachineModel" "written" "[I") (by decide +kernel)) (fun _ h9 => h9) rfl dX4_write_123 ?_
            refine lv_iload_n hx hb dX4_write_126 rfl (lv_at hl 2 rfl) ?_
            refine q_iald (j := (ix a1)) (x9 := (wr0 (ix a1))) hx hb hK hP 4 0 rfl rfl h1 rfl rfl dX4_write_127 ?_
            refine lv_iand hx hb dX4_write_128 ?_
            refine lv_ior hx hb dX4_write_129 ?_
            refine q_iast (j := (ix a1)) (ws' := wM k z (ms3 w (upd w.2.2.2.1 (ix a1) (((w.2.2.2.1 (ix a1)) &&& ((wr0 (ix a1)) ^^^ (-1 : Int32))) ||| (((((w.2.2.2.1 (ix a1)) &&& (a2 ^^^ (-1 : Int32))) ||| (a3 &&& a2)) ||| (12 : Int32)) &&& (wr0 (ix a1))))))) hx hb hK hP hD hS 3 0 rfl rfl h1 rfl rfl dX4_write_130 (fun H locs hP hD hS => ?_)
            refine lv_iload_n hx hb dX4_write_131 rfl (lv_at hl 2 rfl) ?_
            refine lv_bipush (v := (14 : Int32)) hx hb dX4_write_132 (by decide) ?_
            refine lv_icmp_ne (tgt := 154) hx hb dX4_write_134 (by decide) (fun _ => ?_) (fun c9 => absurd c9 (show ¬ (a1 = (14 : Int32)) by rw [c_82]; decide))
            exact W.vret hx hb hr (wr_end rfl (congrArg (wM k z) ((show fX4_write w a1 a2 a3 = (ms3 w (upd w.2.2.2.1 (ix a1) (((w.2.2.2.1 (ix a1)) &&& ((wr0 (ix a1)) ^^^ (-1 : Int32))) ||| (((((w.2.2.2.1 (ix a1)) &&& (a2 ^^^ (-1 : Int32))) ||| (a3 &&& a2)) ||| (12 : Int32)) &&& (wr0 (ix a1)))))) from (if_neg c_2).trans ((if_pos c_57).trans ((if_neg c_76).trans ((if_pos c_82).trans ((if_neg c_90).trans rfl))))).symm.trans ho)) hP hS) hS.2.2 dX4_write_154
    · refine lv_iload hx hb dX4_write_60 (lv_at hl 0 rfl) ?_
      refine lv_iconst (v := (3 : Int32)) hx hb dX4_write_62 (by decide) ?_
      refine lv_iand hx hb dX4_write_63 ?_
      refine lv_if_eq (tgt := 73) hx hb dX4_write_64 (by decide) (fun c_64 => ?_) (fun c_64 => ?_)
      · refine lv_iload_n hx hb dX4_write_73 rfl (lv_at hl 2 rfl) ?_
        refine lv_bipush (v := (9 : Int32)) hx hb dX4_write_74 (by decide) ?_
        refine lv_icmp_eq (tgt := 85) hx hb dX4_write_76 (by decide) (fun c_76 => ?_) (fun c_76 => ?_)
        · refine lv_iload hx hb dX4_write_85 (lv_at hl 0 rfl) ?_
          refine lv_bipush (v := (12 : Int32)) hx hb dX4_write_87 (by decide) ?_
          refine lv_iand hx hb dX4_write_89 ?_
          refine lv_if_eq (tgt := 100) hx hb dX4_write_90 (by decide) (fun c_90 => ?_) (fun c_90 => ?_)
          · refine lv_aload_n hx hb dX4_write_100 rfl (lv_at hl 1 rfl) ?_
            refine va_get (D := D) (ci := 3) (v := .ref (z 3)) (C := RX4) (T := TX4) (N := 20) hx hb hts (by decide +kernel) hown hK hP 0 rfl rfl 3 (by decide) (hts (.fieldLink RX4 16 "TrapMachineModel" "control" "[I") (by decide +kernel)) (fun _ h9 => h9) rfl dX4_write_101 ?_
            refine lv_iload_n hx hb dX4_write_104 rfl (lv_at hl 2 rfl) ?_
            refine lv_aload_n hx hb dX4_write_105 rfl (lv_at hl 1 rfl) ?_
            refine va_get (D := D) (ci := 3) (v := .ref (z 3)) (C := RX4) (T := TX4) (N := 20) hx hb hts (by decide +kernel) hown hK hP 0 rfl rfl 3 (by decide) (hts (.fieldLink RX4 16 "TrapMachineModel" "control" "[I") (by decide +kernel)) (fun _ h9 => h9) rfl dX4_write_106 ?_
            refine lv_iload_n hx hb dX4_write_109 rfl (lv_at hl 2 rfl) ?_
            refine q_iald (j := (ix a1)) (x9 := (w.2.2.2.1 (ix a1))) hx hb hK hP 3 0 rfl rfl h1 rfl rfl dX4_write_110 ?_
            refine lv_aload_n hx hb dX4_write_111 rfl (lv_at hl 1 rfl) ?_
            refine va_get (D := D) (ci := 3) (v := .ref (z 4)) (C := RX4) (T := TX4) (N := 20) hx hb hts (by decide +kernel) hown hK hP 0 rfl rfl 4 (by decide) (hts (.fieldLink RX4 22 "TrapMachineModel" "written" "[I") (by decide +kernel)) (fun _ h9 => h9) rfl dX4_write_112 ?_
            refine lv_iload_n hx hb dX4_write_115 rfl (lv_at hl 2 rfl) ?_
            refine q_iald (j := (ix a1)) (x9 := (wr0 (ix a1))) hx hb hK hP 4 0 rfl rfl h1 rfl rfl dX4_write_116 ?_
            refine lv_iconst (v := (-1 : Int32)) hx hb dX4_write_117 (by decide) ?_
            refine lv_ixor hx hb dX4_write_118 ?_
            refine lv_iand hx hb dX4_write_119 ?_
            refine lv_iload hx hb dX4_write_120 (lv_at hl 0 rfl) ?_
            refine lv_aload_n hx hb dX4_write_122 rfl (lv_at hl 1 rfl) ?_
            refine va_get (D := D) (ci := 3) (v := .ref (z 4)) (C := RX4) (T := TX4) (N := 20) hx hb hts (by decide +kernel) hown hK hP 0 rfl rfl 4 (by decide) (hts (.fieldLink RX4 22 "TrapMachineModel" "written" "[I") (by decide +kernel)) (fun _ h9 => h9) rfl dX4_write_123 ?_
            refine lv_iload_n hx hb dX4_write_126 rfl (lv_at hl 2 rfl) ?_
            refine q_iald (j := (ix a1)) (x9 := (wr0 (ix a1))) hx hb hK hP 4 0 rfl rfl h1 rfl rfl dX4_write_127 ?_
            refine lv_iand hx hb dX4_write_128 ?_
            refine lv_ior hx hb dX4_write_129 ?_
            refine q_iast (j := (ix a1)) (ws' := wM k z (ms3 w (upd w.2.2.2.1 (ix a1) (((w.2.2.2.1 (ix a1)) &&& ((wr0 (ix a1)) ^^^ (-1 : Int32))) ||| ((((w.2.2.2.1 (ix a1)) &&& (a2 ^^^ (-1 : Int32))) ||| (a3 &&& a2)) &&& (wr0 (ix a1))))))) hx hb hK hP hD hS 3 0 rfl rfl h1 rfl rfl dX4_write_130 (fun H locs hP hD hS => ?_)
            refine lv_iload_n hx hb dX4_write_131 rfl (lv_at hl 2 rfl) ?_
            refine lv_bipush (v := (14 : Int32)) hx hb dX4_write_132 (by decide) ?_
            refine lv_icmp_ne (tgt := 154) hx hb dX4_write_134 (by decide) (fun _ => ?_) (fun c9 => absurd c9 (show ¬ (a1 = (14 : Int32)) by rw [c_76]; decide))
            exact W.vret hx hb hr (wr_end rfl (congrArg (wM k z) ((show fX4_write w a1 a2 a3 = (ms3 w (upd w.2.2.2.1 (ix a1) (((w.2.2.2.1 (ix a1)) &&& ((wr0 (ix a1)) ^^^ (-1 : Int32))) ||| ((((w.2.2.2.1 (ix a1)) &&& (a2 ^^^ (-1 : Int32))) ||| (a3 &&& a2)) &&& (wr0 (ix a1)))))) from (if_neg c_2).trans ((if_neg c_57).trans ((if_pos c_64).trans ((if_pos c_76).trans ((if_pos c_90).trans rfl))))).symm.trans ho)) hP hS) hS.2.2 dX4_write_154
          · refine lv_iload hx hb dX4_write_93 (lv_at hl 0 rfl) ?_
            refine lv_bipush (v := (12 : Int32)) hx hb dX4_write_95 (by decide) ?_
            refine lv_ior hx hb dX4_write_97 ?_
            refine lv_istore (lv' := [(4, .int ((((w.2.2.2.1 (ix a1)) &&& (a2 ^^^ (-1 : Int32))) ||| (a3 &&& a2)) ||| (12 : Int32))), (0, .ref (z 0)), (1, .int a1), (2, .int a2), (3, .int a3)]) hx hb dX4_write_98 hl (by decide) rfl (fun ls hl => ?_)
            refine lv_aload_n hx hb dX4_write_100 rfl (lv_at hl 1 rfl) ?_
            refine va_get (D := D) (ci := 3) (v := .ref (z 3)) (C := RX4) (T := TX4) (N := 20) hx hb hts (by decide +kernel) hown hK hP 0 rfl rfl 3 (by decide) (hts (.fieldLink RX4 16 "TrapMachineModel" "control" "[I") (by decide +kernel)) (fun _ h9 => h9) rfl dX4_write_101 ?_
            refine lv_iload_n hx hb dX4_write_104 rfl (lv_at hl 2 rfl) ?_
            refine lv_aload_n hx hb dX4_write_105 rfl (lv_at hl 1 rfl) ?_
            refine va_get (D := D) (ci := 3) (v := .ref (z 3)) (C := RX4) (T := TX4) (N := 20) hx hb hts (by decide +kernel) hown hK hP 0 rfl rfl 3 (by decide) (hts (.fieldLink RX4 16 "TrapMachineModel" "control" "[I") (by decide +kernel)) (fun _ h9 => h9) rfl dX4_write_106 ?_
            refine lv_iload_n hx hb dX4_write_109 rfl (lv_at hl 2 rfl) ?_
            refine q_iald (j := (ix a1)) (x9 := (w.2.2.2.1 (ix a1))) hx hb hK hP 3 0 rfl rfl h1 rfl rfl dX4_write_110 ?_
            refine lv_aload_n hx hb dX4_write_111 rfl (lv_at hl 1 rfl) ?_
            refine va_get (D := D) (ci := 3) (v := .ref (z 4)) (C := RX4) (T := TX4) (N := 20) hx hb hts (by decide +kernel) hown hK hP 0 rfl rfl 4 (by decide) (hts (.fieldLink RX4 22 "TrapMachineModel" "written" "[I") (by decide +kernel)) (fun _ h9 => h9) rfl dX4_write_112 ?_
            refine lv_iload_n hx hb dX4_write_115 rfl (lv_at hl 2 rfl) ?_
            refine q_iald (j := (ix a1)) (x9 := (wr0 (ix a1))) hx hb hK hP 4 0 rfl rfl h1 rfl rfl dX4_write_116 ?_
            refine lv_iconst (v := (-1 : Int32)) hx hb dX4_write_117 (by decide) ?_
            refine lv_ixor hx hb dX4_write_118 ?_
            refine lv_iand hx hb dX4_write_119 ?_
            refine lv_iload hx hb dX4_write_120 (lv_at hl 0 rfl) ?_
            refine lv_aload_n hx hb dX4_write_122 rfl (lv_at hl 1 rfl) ?_
            refine va_get (D := D) (ci := 3) (v := .ref (z 4)) (C := RX4) (T := TX4) (N := 20) hx hb hts (by decide +kernel) hown hK hP 0 rfl rfl 4 (by decide) (hts (.fieldLink RX4 22 "TrapMachineModel" "written" "[I") (by decide +kernel)) (fun _ h9 => h9) rfl dX4_write_123 ?_
            refine lv_iload_n hx hb dX4_write_126 rfl (lv_at hl 2 rfl) ?_
            refine q_iald (j := (ix a1)) (x9 := (wr0 (ix a1))) hx hb hK hP 4 0 rfl rfl h1 rfl rfl dX4_write_127 ?_
            refine lv_iand hx hb dX4_write_128 ?_
            refine lv_ior hx hb dX4_write_129 ?_
            refine q_iast (j := (ix a1)) (ws' := wM k z (ms3 w (upd w.2.2.2.1 (ix a1) (((w.2.2.2.1 (ix a1)) &&& ((wr0 (ix a1)) ^^^ (-1 : Int32))) ||| (((((w.2.2.2.1 (ix a1)) &&& (a2 ^^^ (-1 : Int32))) ||| (a3 &&& a2)) ||| (12 : Int32)) &&& (wr0 (ix a1))))))) hx hb hK hP hD hS 3 0 rfl rfl h1 rfl rfl dX4_write_130 (fun H locs hP hD hS => ?_)
            refine lv_iload_n hx hb dX4_write_131 rfl (lv_at hl 2 rfl) ?_
            refine lv_bipush (v := (14 : Int32)) hx hb dX4_write_132 (by decide) ?_
            refine lv_icmp_ne (tgt := 154) hx hb dX4_write_134 (by decide) (fun _ => ?_) (fun c9 => absurd c9 (show ¬ (a1 = (14 : Int32)) by rw [c_76]; decide))
            exact W.vret hx hb hr (wr_end rfl (congrArg (wM k z) ((show fX4_write w a1 a2 a3 = (ms3 w (upd w.2.2.2.1 (ix a1) (((w.2.2.2.1 (ix a1)) &&& ((wr0 (ix a1)) ^^^ (-1 : Int32))) ||| (((((w.2.2.2.1 (ix a1)) &&& (a2 ^^^ (-1 : Int32))) ||| (a3 &&& a2)) ||| (12 : Int32)) &&& (wr0 (ix a1)))))) from (if_neg c_2).trans ((if_neg c_57).trans ((if_pos c_64).trans ((if_pos c_76).trans ((if_neg c_90).trans rfl))))).symm.trans ho)) hP hS) hS.2.2 dX4_write_154
        · refine lv_iload_n hx hb dX4_write_79 rfl (lv_at hl 2 rfl) ?_
          refine lv_bipush (v := (10 : Int32)) hx hb dX4_write_80 (by decide) ?_
          refine lv_icmp_ne (tgt := 100) hx hb dX4_write_82 (by decide) (fun c_82 => ?_) (fun c_82 => ?_)
          · refine lv_aload_n hx hb dX4_write_100 rfl (lv_at hl 1 rfl) ?_
            refine va_get (D := D) (ci := 3) (v := .ref (z 3)) (C := RX4) (T := TX4) (N := 20) hx hb hts (by decide +kernel) hown hK hP 0 rfl rfl 3 (by decide) (hts (.fieldLink RX4 16 "TrapMachineModel" "control" "[I") (by decide +kernel)) (fun _ h9 => h9) rfl dX4_write_101 ?_
            refine lv_iload_n hx hb dX4_write_104 rfl (lv_at hl 2 rfl) ?_
            refine lv_aload_n hx hb dX4_write_105 rfl (lv_at hl 1 rfl) ?_
            refine va_get (D := D) (ci := 3) (v := .ref (z 3)) (C := RX4) (T := TX4) (N := 20) hx hb hts (by decide +kernel) hown hK hP 0 rfl rfl 3 (by decide) (hts (.fieldLink RX4 16 "TrapMachineModel" "control" "[I") (by decide +kernel)) (fun _ h9 => h9) rfl dX4_write_106 ?_
            refine lv_iload_n hx hb dX4_write_109 rfl (lv_at hl 2 rfl) ?_
            refine q_iald (j := (ix a1)) (x9 := (w.2.2.2.1 (ix a1))) hx hb hK hP 3 0 rfl rfl h1 rfl rfl dX4_write_110 ?_
            refine lv_aload_n hx hb dX4_write_111 rfl (lv_at hl 1 rfl) ?_
            refine va_get (D := D) (ci := 3) (v := .ref (z 4)) (C := RX4) (T := TX4) (N := 20) hx hb hts (by decide +kernel) hown hK hP 0 rfl rfl 4 (by decide) (hts (.fieldLink RX4 22 "TrapMachineModel" "written" "[I") (by decide +kernel)) (fun _ h9 => h9) rfl dX4_write_112 ?_
            refine lv_iload_n hx hb dX4_write_115 rfl (lv_at hl 2 rfl) ?_
            refine q_iald (j := (ix a1)) (x9 := (wr0 (ix a1))) hx hb hK hP 4 0 rfl rfl h1 rfl rfl dX4_write_116 ?_
            refine lv_iconst (v := (-1 : Int32)) hx hb dX4_write_117 (by decide) ?_
            refine lv_ixor hx hb dX4_write_118 ?_
            refine lv_iand hx hb dX4_write_119 ?_
            refine lv_iload hx hb dX4_write_120 (lv_at hl 0 rfl) ?_
            refine lv_aload_n hx hb dX4_write_122 rfl (lv_at hl 1 rfl) ?_
            refine va_get (D := D) (ci := 3) (v := .ref (z 4)) (C := RX4) (T := TX4) (N := 20) hx hb hts (by decide +kernel) hown hK hP 0 rfl rfl 4 (by decide) (hts (.fieldLink RX4 22 "TrapMachineModel" "written" "[I") (by decide +kernel)) (fun _ h9 => h9) rfl dX4_write_123 ?_
            refine lv_iload_n hx hb dX4_write_126 rfl (lv_at hl 2 rfl) ?_
            refine q_iald (j := (ix a1)) (x9 := (wr0 (ix a1))) hx hb hK hP 4 0 rfl rfl h1 rfl rfl dX4_write_127 ?_
            refine lv_iand hx hb dX4_write_128 ?_
            refine lv_ior hx hb dX4_write_129 ?_
            refine q_iast (j := (ix a1)) (ws' := wM k z (ms3 w (upd w.2.2.2.1 (ix a1) (((w.2.2.2.1 (ix a1)) &&& ((wr0 (ix a1)) ^^^ (-1 : Int32))) ||| ((((w.2.2.2.1 (ix a1)) &&& (a2 ^^^ (-1 : Int32))) ||| (a3 &&& a2)) &&& (wr0 (ix a1))))))) hx hb hK hP hD hS 3 0 rfl rfl h1 rfl rfl dX4_write_130 (fun H locs hP hD hS => ?_)
            refine lv_iload_n hx hb dX4_write_131 rfl (lv_at hl 2 rfl) ?_
            refine lv_bipush (v := (14 : Int32)) hx hb dX4_write_132 (by decide) ?_
            refine lv_icmp_ne (tgt := 154) hx hb dX4_write_134 (by decide) (fun c_134 => ?_) (fun c_134 => ?_)
            · exact W.vret hx hb hr (wr_end rfl (congrArg (wM k z) ((show fX4_write w a1 a2 a3 = (ms3 w (upd w.2.2.2.1 (ix a1) (((w.2.2.2.1 (ix a1)) &&& ((wr0 (ix a1)) ^^^ (-1 : Int32))) ||| ((((w.2.2.2.1 (ix a1)) &&& (a2 ^^^ (-1 : Int32))) ||| (a3 &&& a2)) &&& (wr0 (ix a1)))))) from (if_neg c_2).trans ((if_neg c_57).trans ((if_pos c_64).trans ((if_neg c_76).trans ((if_neg c_82).trans ((if_neg c_134).trans rfl)))))).symm.trans ho)) hP hS) hS.2.2 dX4_write_154
            · refine lv_aload_n hx hb dX4_write_137 rfl (lv_at hl 1 rfl) ?_
              refine va_get (D := D) (ci := 3) (v := .ref (z 3)) (C := RX4) (T := TX4) (N := 20) hx hb hts (by decide +kernel) hown hK hP 0 rfl rfl 3 (by decide) (hts (.fieldLink RX4 16 "TrapMachineModel" "control" "[I") (by decide +kernel)) (fun _ h9 => h9) rfl dX4_write_138 ?_
              refine lv_bipush (v := (15 : Int32)) hx hb dX4_write_141 (by decide) ?_
              refine lv_aload_n hx hb dX4_write_143 rfl (lv_at hl 1 rfl) ?_
              refine va_get (D := D) (ci := 3) (v := .ref (z 3)) (C := RX4) (T := TX4) (N := 20) hx hb hts (by decide +kernel) hown hK hP 0 rfl rfl 3 (by decide) (hts (.fieldLink RX4 16 "TrapMachineModel" "control" "[I") (by decide +kernel)) (fun _ h9 => h9) rfl dX4_write_144 ?_
              refine lv_bipush (v := (14 : Int32)) hx hb dX4_write_147 (by decide) ?_
              refine q_iald (j := 14) (x9 := ((upd w.2.2.2.1 (ix a1) (((w.2.2.2.1 (ix a1)) &&& ((wr0 (ix a1)) ^^^ (-1 : Int32))) ||| ((((w.2.2.2.1 (ix a1)) &&& (a2 ^^^ (-1 : Int32))) ||| (a3 &&& a2)) &&& (wr0 (ix a1))))) 14)) hx hb hK hP 3 0 rfl rfl (vi_k (by decide)) rfl rfl dX4_write_149 ?_
              refine lv_ldc (v := (65532 : Int32)) hx hb hown (hts (.constant RX4 82 (65532)) (by decide +kernel)) dX4_write_150 ?_
              refine lv_iand hx hb dX4_write_152 ?_
              refine q_iast (j := 15) (ws' := wM k z (ms3 (ms3 w (upd w.2.2.2.1 (ix a1) (((w.2.2.2.1 (ix a1)) &&& ((wr0 (ix a1)) ^^^ (-1 : Int32))) ||| ((((w.2.2.2.1 (ix a1)) &&& (a2 ^^^ (-1 : Int32))) ||| (a3 &&& a2)) &&& (wr0 (ix a1)))))) (upd (upd w.2.2.2.1 (ix a1) (((w.2.2.2.1 (ix a1)) &&& ((wr0 (ix a1)) ^^^ (-1 : Int32))) ||| ((((w.2.2.2.1 (ix a1)) &&& (a2 ^^^ (-1 : Int32))) ||| (a3 &&& a2)) &&& (wr0 (ix a1))))) 15 (((upd w.2.2.2.1 (ix a1) (((w.2.2.2.1 (ix a1)) &&& ((wr0 (ix a1)) ^^^ (-1 : Int32))) ||| ((((w.2.2.2.1 (ix a1)) &&& (a2 ^^^ (-1 : Int32))) ||| (a3 &&& a2)) &&& (wr0 (ix a1))))) 14) &&& (65532 : Int32))))) hx hb hK hP hD hS 3 0 rfl rfl (vi_k (by decide)) rfl rfl dX4_write_153 (fun H locs hP hD hS => ?_)
              exact W.vret hx hb hr (wr_end rfl (congrArg (wM k z) ((show fX4_write w a1 a2 a3 = (ms3 (ms3 w (upd w.2.2.2.1 (ix a1) (((w.2.2.2.1 (ix a1)) &&& ((wr0 (ix a1)) ^^^ (-1 : Int32))) ||| ((((w.2.2.2.1 (ix a1)) &&& (a2 ^^^ (-1 : Int32))) ||| (a3 &&& a2)) &&& (wr0 (ix a1)))))) (upd (upd w.2.2.2.1 (ix a1) (((w.2.2.2.1 (ix a1)) &&& ((wr0 (ix a1)) ^^^ (-1 : Int32))) ||| ((((w.2.2.2.1 (ix a1)) &&& (a2 ^^^ (-1 : Int32))) ||| (a3 &&& a2)) &&& (wr0 (ix a1))))) 15 (((upd w.2.2.2.1 (ix a1) (((w.2.2.2.1 (ix a1)) &&& ((wr0 (ix a1)) ^^^ (-1 : Int32))) ||| ((((w.2.2.2.1 (ix a1)) &&& (a2 ^^^ (-1 : Int32))) ||| (a3 &&& a2)) &&& (wr0 (ix a1))))) 14) &&& (65532 : Int32)))) from (if_neg c_2).trans ((if_neg c_57).trans ((if_pos c_64).trans ((if_neg c_76).trans ((if_neg c_82).trans ((if_pos c_134).trans rfl)))))).symm.trans ho)) hP hS) hS.2.2 dX4_write_154
          · refine lv_iload hx hb dX4_write_85 (lv_at hl 0 rfl) ?_
            refine lv_bipush (v := (12 : Int32)) hx hb dX4_write_87 (by decide) ?_
            refine lv_iand hx hb dX4_write_89 ?_
            refine lv_if_eq (tgt := 100) hx hb dX4_write_90 (by decide) (fun c_90 => ?_) (fun c_90 => ?_)
            · refine lv_aload_n hx hb dX4_write_100 rfl (lv_at hl 1 rfl) ?_
              refine va_get (D := D) (ci := 3) (v := .ref (z 3)) (C := RX4) (T := TX4) (N := 20) hx hb hts (by decide +kernel) hown hK hP 0 rfl rfl 3 (by decide) (hts (.fieldLink RX4 16 "TrapMachineModel" "control" "[I") (by decide +kernel)) (fun _ h9 => h9) rfl dX4_write_101 ?_
              refine lv_iload_n hx hb dX4_write_104 rfl (lv_at hl 2 rfl) ?_
              refine lv_aload_n hx hb dX4_write_105 rfl (lv_at hl 1 rfl) ?_
              refine va_get (D := D) (ci := 3) (v := .ref (z 3)) (C := RX4) (T := TX4) (N := 20) hx hb hts (by decide +kernel) hown hK hP 0 rfl rfl 3 (by decide) (hts (.fieldLink RX4 16 "TrapMachineModel" "control" "[I") (by decide +kernel)) (fun _ h9 => h9) rfl dX4_write_106 ?_
              refine lv_iload_n hx hb dX4_write_109 rfl (lv_at hl 2 rfl) ?_
              refine q_iald (j := (ix a1)) (x9 := (w.2.2.2.1 (ix a1))) hx hb hK hP 3 0 rfl rfl h1 rfl rfl dX4_write_110 ?_
              refine lv_aload_n hx hb dX4_write_111 rfl (lv_at hl 1 rfl) ?_
              refine va_get (D := D) (ci := 3) (v := .ref (z 4)) (C := RX4) (T := TX4) (N := 20) hx hb hts (by decide +kernel) hown hK hP 0 rfl rfl 4 (by decide) (hts (.fieldLink RX4 22 "TrapMachineModel" "written" "[I") (by decide +kernel)) (fun _ h9 => h9) rfl dX4_write_112 ?_
              refine lv_iload_n hx hb dX4_write_115 rfl (lv_at hl 2 rfl) ?_
              refine q_iald (j := (ix a1)) (x9 := (wr0 (ix a1))) hx hb hK hP 4 0 rfl rfl h1 rfl rfl dX4_write_116 ?_
              refine lv_iconst (v := (-1 : Int32)) hx hb dX4_write_117 (by decide) ?_
              refine lv_ixor hx hb dX4_write_118 ?_
              refine lv_iand hx hb dX4_write_119 ?_
              refine lv_iload hx hb dX4_write_120 (lv_at hl 0 rfl) ?_
              refine lv_aload_n hx hb dX4_write_122 rfl (lv_at hl 1 rfl) ?_
              refine va_get (D := D) (ci := 3) (v := .ref (z 4)) (C := RX4) (T := TX4) (N := 20) hx hb hts (by decide +kernel) hown hK hP 0 rfl rfl 4 (by decide) (hts (.fieldLink RX4 22 "TrapMachineModel" "written" "[I") (by decide +kernel)) (fun _ h9 => h9) rfl dX4_write_123 ?_
              refine lv_iload_n hx hb dX4_write_126 rfl (lv_at hl 2 rfl) ?_
              refine q_iald (j := (ix a1)) (x9 := (wr0 (ix a1))) hx hb hK hP 4 0 rfl rfl h1 rfl rfl dX4_write_127 ?_
              refine lv_iand hx hb dX4_write_128 ?_
              refine lv_ior hx hb dX4_write_129 ?_
              refine q_iast (j := (ix a1)) (ws' := wM k z (ms3 w (upd w.2.2.2.1 (ix a1) (((w.2.2.2.1 (ix a1)) &&& ((wr0 (ix a1)) ^^^ (-1 : Int32))) ||| ((((w.2.2.2.1 (ix a1)) &&& (a2 ^^^ (-1 : Int32))) ||| (a3 &&& a2)) &&& (wr0 (ix a1))))))) hx hb hK hP hD hS 3 0 rfl rfl h1 rfl rfl dX4_write_130 (fun H locs hP hD hS => ?_)
              refine lv_iload_n hx hb dX4_write_131 rfl (lv_at hl 2 rfl) ?_
              refine lv_bipush (v := (14 : Int32)) hx hb dX4_write_132 (by decide) ?_
              refine lv_icmp_ne (tgt := 154) hx hb dX4_write_134 (by decide) (fun _ => ?_) (fun c9 => absurd c9 (show ¬ (a1 = (14 : Int32)) by rw [c_82]; decide))
              exact W.vret hx hb hr (wr_end rfl (congrArg (wM k z) ((show fX4_write w a1 a2 a3 = (ms3 w (upd w.2.2.2.1 (ix a1) (((w.2.2.2.1 (ix a1)) &&& ((wr0 (ix a1)) ^^^ (-1 : Int32))) ||| ((((w.2.2.2.1 (ix a1)) &&& (a2 ^^^ (-1 : Int32))) ||| (a3 &&& a2)) &&& (wr0 (ix a1)))))) from (if_neg c_2).trans ((if_neg c_57).trans ((if_pos c_64).trans ((if_neg c_76).trans ((if_pos c_82).trans ((if_pos c_90).trans rfl)))))).symm.trans ho)) hP hS) hS.2.2 dX4_write_154
            · refine lv_iload hx hb dX4_write_93 (lv_at hl 0 rfl) ?_
              refine lv_bipush (v := (12 : Int32)) hx hb dX4_write_95 (by decide) ?_
              refine lv_ior hx hb dX4_write_97 ?_
              refine lv_istore (lv' := [(4, .int ((((w.2.2.2.1 (ix a1)) &&& (a2 ^^^ (-1 : Int32))) ||| (a3 &&& a2)) ||| (12 : Int32))), (0, .ref (z 0)), (1, .int a1), (2, .int a2), (3, .int a3)]) hx hb dX4_write_98 hl (by decide) rfl (fun ls hl => ?_)
              refine lv_aload_n hx hb dX4_write_100 rfl (lv_at hl 1 rfl) ?_
              refine va_get (D := D) (ci := 3) (v := .ref (z 3)) (C := RX4) (T := TX4) (N := 20) hx hb hts (by decide +kernel) hown hK hP 0 rfl rfl 3 (by decide) (hts (.fieldLink RX4 16 "TrapMachineModel" "control" "[I") (by decide +kernel)) (fun _ h9 => h9) rfl dX4_write_101 ?_
              refine lv_iload_n hx hb dX4_write_104 rfl (lv_at hl 2 rfl) ?_
              refine lv_aload_n hx hb dX4_write_105 rfl (lv_at hl 1 rfl) ?_
              refine va_get (D := D) (ci := 3) (v := .ref (z 3)) (C := RX4) (T := TX4) (N := 20) hx hb hts (by decide +kernel) hown hK hP 0 rfl rfl 3 (by decide) (hts (.fieldLink RX4 16 "TrapMachineModel" "control" "[I") (by decide +kernel)) (fun _ h9 => h9) rfl dX4_write_106 ?_
              refine lv_iload_n hx hb dX4_write_109 rfl (lv_at hl 2 rfl) ?_
              refine q_iald (j := (ix a1)) (x9 := (w.2.2.2.1 (ix a1))) hx hb hK hP 3 0 rfl rfl h1 rfl rfl dX4_write_110 ?_
              refine lv_aload_n hx hb dX4_write_111 rfl (lv_at hl 1 rfl) ?_
              refine va_get (D := D) (ci := 3) (v := .ref (z 4)) (C := RX4) (T := TX4) (N := 20) hx hb hts (by decide +kernel) hown hK hP 0 rfl rfl 4 (by decide) (hts (.fieldLink RX4 22 "TrapMachineModel" "written" "[I") (by decide +kernel)) (fun _ h9 => h9) rfl dX4_write_112 ?_
              refine lv_iload_n hx hb dX4_write_115 rfl (lv_at hl 2 rfl) ?_
              refine q_iald (j := (ix a1)) (x9 := (wr0 (ix a1))) hx hb hK hP 4 0 rfl rfl h1 rfl rfl dX4_write_116 ?_
              refine lv_iconst (v := (-1 : Int32)) hx hb dX4_write_117 (by decide) ?_
              refine lv_ixor hx hb dX4_write_118 ?_
              refine lv_iand hx hb dX4_write_119 ?_
              refine lv_iload hx hb dX4_write_120 (lv_at hl 0 rfl) ?_
              refine lv_aload_n hx hb dX4_write_122 rfl (lv_at hl 1 rfl) ?_
              refine va_get (D := D) (ci := 3) (v := .ref (z 4)) (C := RX4) (T := TX4) (N := 20) hx hb hts (by decide +kernel) hown hK hP 0 rfl rfl 4 (by decide) (hts (.fieldLink RX4 22 "TrapMachineModel" "written" "[I") (by decide +kernel)) (fun _ h9 => h9) rfl dX4_write_123 ?_
              refine lv_iload_n hx hb dX4_write_126 rfl (lv_at hl 2 rfl) ?_
              refine q_iald (j := (ix a1)) (x9 := (wr0 (ix a1))) hx hb hK hP 4 0 rfl rfl h1 rfl rfl dX4_write_127 ?_
              refine lv_iand hx hb dX4_write_128 ?_
              refine lv_ior hx hb dX4_write_129 ?_
              refine q_iast (j := (ix a1)) (ws' := wM k z (ms3 w (upd w.2.2.2.1 (ix a1) (((w.2.2.2.1 (ix a1)) &&& ((wr0 (ix a1)) ^^^ (-1 : Int32))) ||| (((((w.2.2.2.1 (ix a1)) &&& (a2 ^^^ (-1 : Int32))) ||| (a3 &&& a2)) ||| (12 : Int32)) &&& (wr0 (ix a1))))))) hx hb hK hP hD hS 3 0 rfl rfl h1 rfl rfl dX4_write_130 (fun H locs hP hD hS => ?_)
              refine lv_iload_n hx hb dX4_write_131 rfl (lv_at hl 2 rfl) ?_
              refine lv_bipush (v := (14 : Int32)) hx hb dX4_write_132 (by decide) ?_
              refine lv_icmp_ne (tgt := 154) hx hb dX4_write_134 (by decide) (fun _ => ?_) (fun c9 => absurd c9 (show ¬ (a1 = (14 : Int32)) by rw [c_82]; decide))
              exact W.vret hx hb hr (wr_end rfl (congrArg (wM k z) ((show fX4_write w a1 a2 a3 = (ms3 w (upd w.2.2.2.1 (ix a1) (((w.2.2.2.1 (ix a1)) &&& ((wr0 (ix a1)) ^^^ (-1 : Int32))) ||| (((((w.2.2.2.1 (ix a1)) &&& (a2 ^^^ (-1 : Int32))) ||| (a3 &&& a2)) ||| (12 : Int32)) &&& (wr0 (ix a1)))))) from (if_neg c_2).trans ((if_neg c_57).trans ((if_pos c_64).trans ((if_neg c_76).trans ((if_pos c_82).trans ((if_neg c_90).trans rfl)))))).symm.trans ho)) hP hS) hS.2.2 dX4_write_154
      · refine lv_iload hx hb dX4_write_67 (lv_at hl 0 rfl) ?_
        refine lv_iconst (v := (3 : Int32)) hx hb dX4_write_69 (by decide) ?_
        refine lv_ior hx hb dX4_write_70 ?_
        refine lv_istore (lv' := [(4, .int ((((w.2.2.2.1 (ix a1)) &&& (a2 ^^^ (-1 : Int32))) ||| (a3 &&& a2)) ||| (3 : Int32))), (0, .ref (z 0)), (1, .int a1), (2, .int a2), (3, .int a3)]) hx hb dX4_write_71 hl (by decide) rfl (fun ls hl => ?_)
        refine lv_iload_n hx hb dX4_write_73 rfl (lv_at hl 2 rfl) ?_
        refine lv_bipush (v := (9 : Int32)) hx hb dX4_write_74 (by decide) ?_
        refine lv_icmp_eq (tgt := 85) hx hb dX4_write_76 (by decide) (fun c_76 => ?_) (fun c_76 => ?_)
        · refine lv_iload hx hb dX4_write_85 (lv_at hl 0 rfl) ?_
          refine lv_bipush (v := (12 : Int32)) hx hb dX4_write_87 (by decide) ?_
          refine lv_iand hx hb dX4_write_89 ?_
          refine lv_if_eq (tgt := 100) hx hb dX4_write_90 (by decide) (fun c_90 => ?_) (fun c_90 => ?_)
          · refine lv_aload_n hx hb dX4_write_100 rfl (lv_at hl 1 rfl) ?_
            refine va_get (D := D) (ci := 3) (v := .ref (z 3)) (C := RX4) (T := TX4) (N := 20) hx hb hts (by decide +kernel) hown hK hP 0 rfl rfl 3 (by decide) (hts (.fieldLink RX4 16 "TrapMachineModel" "control" "[I") (by decide +kernel)) (fun _ h9 => h9) rfl dX4_write_101 ?_
            refine lv_iload_n hx hb dX4_write_104 rfl (lv_at hl 2 rfl) ?_
            refine lv_aload_n hx hb dX4_write_105 rfl (lv_at hl 1 rfl) ?_
            refine va_get (D := D) (ci := 3) (v := .ref (z 3)) (C := RX4) (T := TX4) (N := 20) hx hb hts (by decide +kernel) hown hK hP 0 rfl rfl 3 (by decide) (hts (.fieldLink RX4 16 "TrapMachineModel" "control" "[I") (by decide +kernel)) (fun _ h9 => h9) rfl dX4_write_106 ?_
            refine lv_iload_n hx hb dX4_write_109 rfl (lv_at hl 2 rfl) ?_
            refine q_iald (j := (ix a1)) (x9 := (w.2.2.2.1 (ix a1))) hx hb hK hP 3 0 rfl rfl h1 rfl rfl dX4_write_110 ?_
            refine lv_aload_n hx hb dX4_write_111 rfl (lv_at hl 1 rfl) ?_
            refine va_get (D := D) (ci := 3) (v := .ref (z 4)) (C := RX4) (T := TX4) (N := 20) hx hb hts (by decide +kernel) hown hK hP 0 rfl rfl 4 (by decide) (hts (.fieldLink RX4 22 "TrapMachineModel" "written" "[I") (by decide +kernel)) (fun _ h9 => h9) rfl dX4_write_112 ?_
            refine lv_iload_n hx hb dX4_write_115 rfl (lv_at hl 2 rfl) ?_
            refine q_iald (j := (ix a1)) (x9 := (wr0 (ix a1))) hx hb hK hP 4 0 rfl rfl h1 rfl rfl dX4_write_116 ?_
            refine lv_iconst (v := (-1 : Int32)) hx hb dX4_write_117 (by decide) ?_
            refine lv_ixor hx hb dX4_write_118 ?_
            refine lv_iand hx hb dX4_write_119 ?_
            refine lv_iload hx hb dX4_write_120 (lv_at hl 0 rfl) ?_
            refine lv_aload_n hx hb dX4_write_122 rfl (lv_at hl 1 rfl) ?_
            refine va_get (D := D) (ci := 3) (v := .ref (z 4)) (C := RX4) (T := TX4) (N := 20) hx hb hts (by decide +kernel) hown hK hP 0 rfl rfl 4 (by decide) (hts (.fieldLink RX4 22 "TrapMachineModel" "written" "[I") (by decide +kernel)) (fun _ h9 => h9) rfl dX4_write_123 ?_
            refine lv_iload_n hx hb dX4_write_126 rfl (lv_at hl 2 rfl) ?_
            refine q_iald (j := (ix a1)) (x9 := (wr0 (ix a1))) hx hb hK hP 4 0 rfl rfl h1 rfl rfl dX4_write_127 ?_
            refine lv_iand hx hb dX4_write_128 ?_
            refine lv_ior hx hb dX4_write_129 ?_
            refine q_iast (j := (ix a1)) (ws' := wM k z (ms3 w (upd w.2.2.2.1 (ix a1) (((w.2.2.2.1 (ix a1)) &&& ((wr0 (ix a1)) ^^^ (-1 : Int32))) ||| (((((w.2.2.2.1 (ix a1)) &&& (a2 ^^^ (-1 : Int32))) ||| (a3 &&& a2)) ||| (3 : Int32)) &&& (wr0 (ix a1))))))) hx hb hK hP hD hS 3 0 rfl rfl h1 rfl rfl dX4_write_130 (fun H locs hP hD hS => ?_)
            refine lv_iload_n hx hb dX4_write_131 rfl (lv_at hl 2 rfl) ?_
            refine lv_bipush (v := (14 : Int32)) hx hb dX4_write_132 (by decide) ?_
            refine lv_icmp_ne (tgt := 154) hx hb dX4_write_134 (by decide) (fun _ => ?_) (fun c9 => absurd c9 (show ¬ (a1 = (14 : Int32)) by rw [c_76]; decide))
            exact W.vret hx hb hr (wr_end rfl (congrArg (wM k z) ((show fX4_write w a1 a2 a3 = (ms3 w (upd w.2.2.2.1 (ix a1) (((w.2.2.2.1 (ix a1)) &&& ((wr0 (ix a1)) ^^^ (-1 : Int32))) ||| (((((w.2.2.2.1 (ix a1)) &&& (a2 ^^^ (-1 : Int32))) ||| (a3 &&& a2)) ||| (3 : Int32)) &&& (wr0 (ix a1)))))) from (if_neg c_2).trans ((if_neg c_57).trans ((if_neg c_64).trans ((if_pos c_76).trans ((if_pos c_90).trans rfl))))).symm.trans ho)) hP hS) hS.2.2 dX4_write_154
          · refine lv_iload hx hb dX4_write_93 (lv_at hl 0 rfl) ?_
            refine lv_bipush (v := (12 : Int32)) hx hb dX4_write_95 (by decide) ?_
            refine lv_ior hx hb dX4_write_97 ?_
            refine lv_istore (lv' := [(4, .int (((((w.2.2.2.1 (ix a1)) &&& (a2 ^^^ (-1 : Int32))) ||| (a3 &&& a2)) ||| (3 : Int32)) ||| (12 : Int32))), (0, .ref (z 0)), (1, .int a1), (2, .int a2), (3, .int a3)]) hx hb dX4_write_98 hl (by decide) rfl (fun ls hl => ?_)
            refine lv_aload_n hx hb dX4_write_100 rfl (lv_at hl 1 rfl) ?_
            refine va_get (D := D) (ci := 3) (v := .ref (z 3)) (C := RX4) (T := TX4) (N := 20) hx hb hts (by decide +kernel) hown hK hP 0 rfl rfl 3 (by decide) (hts (.fieldLink RX4 16 "TrapMachineModel" "control" "[I") (by decide +kernel)) (fun _ h9 => h9) rfl dX4_write_101 ?_
            refine lv_iload_n hx hb dX4_write_104 rfl (lv_at hl 2 rfl) ?_
            refine lv_aload_n hx hb dX4_write_105 rfl (lv_at hl 1 rfl) ?_
            refine va_get (D := D) (ci := 3) (v := .ref (z 3)) (C := RX4) (T := TX4) (N := 20) hx hb hts (by decide +kernel) hown hK hP 0 rfl rfl 3 (by decide) (hts (.fieldLink RX4 16 "TrapMachineModel" "control" "[I") (by decide +kernel)) (fun _ h9 => h9) rfl dX4_write_106 ?_
            refine lv_iload_n hx hb dX4_write_109 rfl (lv_at hl 2 rfl) ?_
            refine q_iald (j := (ix a1)) (x9 := (w.2.2.2.1 (ix a1))) hx hb hK hP 3 0 rfl rfl h1 rfl rfl dX4_write_110 ?_
            refine lv_aload_n hx hb dX4_write_111 rfl (lv_at hl 1 rfl) ?_
            refine va_get (D := D) (ci := 3) (v := .ref (z 4)) (C := RX4) (T := TX4) (N := 20) hx hb hts (by decide +kernel) hown hK hP 0 rfl rfl 4 (by decide) (hts (.fieldLink RX4 22 "TrapMachineModel" "written" "[I") (by decide +kernel)) (fun _ h9 => h9) rfl dX4_write_112 ?_
            refine lv_iload_n hx hb dX4_write_115 rfl (lv_at hl 2 rfl) ?_
            refine q_iald (j := (ix a1)) (x9 := (wr0 (ix a1))) hx hb hK hP 4 0 rfl rfl h1 rfl rfl dX4_write_116 ?_
            refine lv_iconst (v := (-1 : Int32)) hx hb dX4_write_117 (by decide) ?_
            refine lv_ixor hx hb dX4_write_118 ?_
            refine lv_iand hx hb dX4_write_119 ?_
            refine lv_iload hx hb dX4_write_120 (lv_at hl 0 rfl) ?_
            refine lv_aload_n hx hb dX4_write_122 rfl (lv_at hl 1 rfl) ?_
            refine va_get (D := D) (ci := 3) (v := .ref (z 4)) (C := RX4) (T := TX4) (N := 20) hx hb hts (by decide +kernel) hown hK hP 0 rfl rfl 4 (by decide) (hts (.fieldLink RX4 22 "TrapMachineModel" "written" "[I") (by decide +kernel)) (fun _ h9 => h9) rfl dX4_write_123 ?_
            refine lv_iload_n hx hb dX4_write_126 rfl (lv_at hl 2 rfl) ?_
            refine q_iald (j := (ix a1)) (x9 := (wr0 (ix a1))) hx hb hK hP 4 0 rfl rfl h1 rfl rfl dX4_write_127 ?_
            refine lv_iand hx hb dX4_write_128 ?_
            refine lv_ior hx hb dX4_write_129 ?_
            refine q_iast (j := (ix a1)) (ws' := wM k z (ms3 w (upd w.2.2.2.1 (ix a1) (((w.2.2.2.1 (ix a1)) &&& ((wr0 (ix a1)) ^^^ (-1 : Int32))) ||| ((((((w.2.2.2.1 (ix a1)) &&& (a2 ^^^ (-1 : Int32))) ||| (a3 &&& a2)) ||| (3 : Int32)) ||| (12 : Int32)) &&& (wr0 (ix a1))))))) hx hb hK hP hD hS 3 0 rfl rfl h1 rfl rfl dX4_write_130 (fun H locs hP hD hS => ?_)
            refine lv_iload_n hx hb dX4_write_131 rfl (lv_at hl 2 rfl) ?_
            refine lv_bipush (v := (14 : Int32)) hx hb dX4_write_132 (by decide) ?_
            refine lv_icmp_ne (tgt := 154) hx hb dX4_write_134 (by decide) (fun _ => ?_) (fun c9 => absurd c9 (show ¬ (a1 = (14 : Int32)) by rw [c_76]; decide))
            exact W.vret hx hb hr (wr_end rfl (congrArg (wM k z) ((show fX4_write w a1 a2 a3 = (ms3 w (upd w.2.2.2.1 (ix a1) (((w.2.2.2.1 (ix a1)) &&& ((wr0 (ix a1)) ^^^ (-1 : Int32))) ||| ((((((w.2.2.2.1 (ix a1)) &&& (a2 ^^^ (-1 : Int32))) ||| (a3 &&& a2)) ||| (3 : Int32)) ||| (12 : Int32)) &&& (wr0 (ix a1)))))) from (if_neg c_2).trans ((if_neg c_57).trans ((if_neg c_64).trans ((if_pos c_76).trans ((if_neg c_90).trans rfl))))).symm.trans ho)) hP hS) hS.2.2 dX4_write_154
        · refine lv_iload_n hx hb dX4_write_79 rfl (lv_at hl 2 rfl) ?_
          refine lv_bipush (v := (10 : Int32)) hx hb dX4_write_80 (by decide) ?_
          refine lv_icmp_ne (tgt := 100) hx hb dX4_write_82 (by decide) (fun c_82 => ?_) (fun c_82 => ?_)
          · refine lv_aload_n hx hb dX4_write_100 rfl (lv_at hl 1 rfl) ?_
            refine va_get (D := D) (ci := 3) (v := .ref (z 3)) (C := RX4) (T := TX4) (N := 20) hx hb hts (by decide +kernel) hown hK hP 0 rfl rfl 3 (by decide) (hts (.fieldLink RX4 16 "TrapMachineModel" "control" "[I") (by decide +kernel)) (fun _ h9 => h9) rfl dX4_write_101 ?_
            refine lv_iload_n hx hb dX4_write_104 rfl (lv_at hl 2 rfl) ?_
            refine lv_aload_n hx hb dX4_write_105 rfl (lv_at hl 1 rfl) ?_
            refine va_get (D := D) (ci := 3) (v := .ref (z 3)) (C := RX4) (T := TX4) (N := 20) hx hb hts (by decide +kernel) hown hK hP 0 rfl rfl 3 (by decide) (hts (.fieldLink RX4 16 "TrapMachineModel" "control" "[I") (by decide +kernel)) (fun _ h9 => h9) rfl dX4_write_106 ?_
            refine lv_iload_n hx hb dX4_write_109 rfl (lv_at hl 2 rfl) ?_
            refine q_iald (j := (ix a1)) (x9 := (w.2.2.2.1 (ix a1))) hx hb hK hP 3 0 rfl rfl h1 rfl rfl dX4_write_110 ?_
            refine lv_aload_n hx hb dX4_write_111 rfl (lv_at hl 1 rfl) ?_
            refine va_get (D := D) (ci := 3) (v := .ref (z 4)) (C := RX4) (T := TX4) (N := 20) hx hb hts (by decide +kernel) hown hK hP 0 rfl rfl 4 (by decide) (hts (.fieldLink RX4 22 "TrapMachineModel" "written" "[I") (by decide +kernel)) (fun _ h9 => h9) rfl dX4_write_112 ?_
            refine lv_iload_n hx hb dX4_write_115 rfl (lv_at hl 2 rfl) ?_
            refine q_iald (j := (ix a1)) (x9 := (wr0 (ix a1))) hx hb hK hP 4 0 rfl rfl h1 rfl rfl dX4_write_116 ?_
            refine lv_iconst (v := (-1 : Int32)) hx hb dX4_write_117 (by decide) ?_
            refine lv_ixor hx hb dX4_write_118 ?_
            refine lv_iand hx hb dX4_write_119 ?_
            refine lv_iload hx hb dX4_write_120 (lv_at hl 0 rfl) ?_
            refine lv_aload_n hx hb dX4_write_122 rfl (lv_at hl 1 rfl) ?_
            refine va_get (D := D) (ci := 3) (v := .ref (z 4)) (C := RX4) (T := TX4) (N := 20) hx hb hts (by decide +kernel) hown hK hP 0 rfl rfl 4 (by decide) (hts (.fieldLink RX4 22 "TrapMachineModel" "written" "[I") (by decide +kernel)) (fun _ h9 => h9) rfl dX4_write_123 ?_
            refine lv_iload_n hx hb dX4_write_126 rfl (lv_at hl 2 rfl) ?_
            refine q_iald (j := (ix a1)) (x9 := (wr0 (ix a1))) hx hb hK hP 4 0 rfl rfl h1 rfl rfl dX4_write_127 ?_
            refine lv_iand hx hb dX4_write_128 ?_
            refine lv_ior hx hb dX4_write_129 ?_
            refine q_iast (j := (ix a1)) (ws' := wM k z (ms3 w (upd w.2.2.2.1 (ix a1) (((w.2.2.2.1 (ix a1)) &&& ((wr0 (ix a1)) ^^^ (-1 : Int32))) ||| (((((w.2.2.2.1 (ix a1)) &&& (a2 ^^^ (-1 : Int32))) ||| (a3 &&& a2)) ||| (3 : Int32)) &&& (wr0 (ix a1))))))) hx hb hK hP hD hS 3 0 rfl rfl h1 rfl rfl dX4_write_130 (fun H locs hP hD hS => ?_)
            refine lv_iload_n hx hb dX4_write_131 rfl (lv_at hl 2 rfl) ?_
            refine lv_bipush (v := (14 : Int32)) hx hb dX4_write_132 (by decide) ?_
            refine lv_icmp_ne (tgt := 154) hx hb dX4_write_134 (by decide) (fun c_134 => ?_) (fun c_134 => ?_)
            · exact W.vret hx hb hr (wr_end rfl (congrArg (wM k z) ((show fX4_write w a1 a2 a3 = (ms3 w (upd w.2.2.2.1 (ix a1) (((w.2.2.2.1 (ix a1)) &&& ((wr0 (ix a1)) ^^^ (-1 : Int32))) ||| (((((w.2.2.2.1 (ix a1)) &&& (a2 ^^^ (-1 : Int32))) ||| (a3 &&& a2)) ||| (3 : Int32)) &&& (wr0 (ix a1)))))) from (if_neg c_2).trans ((if_neg c_57).trans ((if_neg c_64).trans ((if_neg c_76).trans ((if_neg c_82).trans ((if_neg c_134).trans rfl)))))).symm.trans ho)) hP hS) hS.2.2 dX4_write_154
            · refine lv_aload_n hx hb dX4_write_137 rfl (lv_at hl 1 rfl) ?_
              refine va_get (D := D) (ci := 3) (v := .ref (z 3)) (C := RX4) (T := TX4) (N := 20) hx hb hts (by decide +kernel) hown hK hP 0 rfl rfl 3 (by decide) (hts (.fieldLink RX4 16 "TrapMachineModel" "control" "[I") (by decide +kernel)) (fun _ h9 => h9) rfl dX4_write_138 ?_
              refine lv_bipush (v := (15 : Int32)) hx hb dX4_write_141 (by decide) ?_
              refine lv_aload_n hx hb dX4_write_143 rfl (lv_at hl 1 rfl) ?_
              refine va_get (D := D) (ci := 3) (v := .ref (z 3)) (C := RX4) (T := TX4) (N := 20) hx hb hts (by decide +kernel) hown hK hP 0 rfl rfl 3 (by decide) (hts (.fieldLink RX4 16 "TrapMachineModel" "control" "[I") (by decide +kernel)) (fun _ h9 => h9) rfl dX4_write_144 ?_
              refine lv_bipush (v := (14 : Int32)) hx hb dX4_write_147 (by decide) ?_
              refine q_iald (j := 14) (x9 := ((upd w.2.2.2.1 (ix a1) (((w.2.2.2.1 (ix a1)) &&& ((wr0 (ix a1)) ^^^ (-1 : Int32))) ||| (((((w.2.2.2.1 (ix a1)) &&& (a2 ^^^ (-1 : Int32))) ||| (a3 &&& a2)) ||| (3 : Int32)) &&& (wr0 (ix a1))))) 14)) hx hb hK hP 3 0 rfl rfl (vi_k (by decide)) rfl rfl dX4_write_149 ?_
              refine lv_ldc (v := (65532 : Int32)) hx hb hown (hts (.constant RX4 82 (65532)) (by decide +kernel)) dX4_write_150 ?_
              refine lv_iand hx hb dX4_write_152 ?_
              refine q_iast (j := 15) (ws' := wM k z (ms3 (ms3 w (upd w.2.2.2.1 (ix a1) (((w.2.2.2.1 (ix a1)) &&& ((wr0 (ix a1)) ^^^ (-1 : Int32))) ||| (((((w.2.2.2.1 (ix a1)) &&& (a2 ^^^ (-1 : Int32))) ||| (a3 &&& a2)) ||| (3 : Int32)) &&& (wr0 (ix a1)))))) (upd (upd w.2.2.2.1 (ix a1) (((w.2.2.2.1 (ix a1)) &&& ((wr0 (ix a1)) ^^^ (-1 : Int32))) ||| (((((w.2.2.2.1 (ix a1)) &&& (a2 ^^^ (-1 : Int32))) ||| (a3 &&& a2)) ||| (3 : Int32)) &&& (wr0 (ix a1))))) 15 (((upd w.2.2.2.1 (ix a1) (((w.2.2.2.1 (ix a1)) &&& ((wr0 (ix a1)) ^^^ (-1 : Int32))) ||| (((((w.2.2.2.1 (ix a1)) &&& (a2 ^^^ (-1 : Int32))) ||| (a3 &&& a2)) ||| (3 : Int32)) &&& (wr0 (ix a1))))) 14) &&& (65532 : Int32))))) hx hb hK hP hD hS 3 0 rfl rfl (vi_k (by decide)) rfl rfl dX4_write_153 (fun H locs hP hD hS => ?_)
              exact W.vret hx hb hr (wr_end rfl (congrArg (wM k z) ((show fX4_write w a1 a2 a3 = (ms3 (ms3 w (upd w.2.2.2.1 (ix a1) (((w.2.2.2.1 (ix a1)) &&& ((wr0 (ix a1)) ^^^ (-1 : Int32))) ||| (((((w.2.2.2.1 (ix a1)) &&& (a2 ^^^ (-1 : Int32))) ||| (a3 &&& a2)) ||| (3 : Int32)) &&& (wr0 (ix a1)))))) (upd (upd w.2.2.2.1 (ix a1) (((w.2.2.2.1 (ix a1)) &&& ((wr0 (ix a1)) ^^^ (-1 : Int32))) ||| (((((w.2.2.2.1 (ix a1)) &&& (a2 ^^^ (-1 : Int32))) ||| (a3 &&& a2)) ||| (3 : Int32)) &&& (wr0 (ix a1))))) 15 (((upd w.2.2.2.1 (ix a1) (((w.2.2.2.1 (ix a1)) &&& ((wr0 (ix a1)) ^^^ (-1 : Int32))) ||| (((((w.2.2.2.1 (ix a1)) &&& (a2 ^^^ (-1 : Int32))) ||| (a3 &&& a2)) ||| (3 : Int32)) &&& (wr0 (ix a1))))) 14) &&& (65532 : Int32)))) from (if_neg c_2).trans ((if_neg c_57).trans ((if_neg c_64).trans ((if_neg c_76).trans ((if_neg c_82).trans ((if_pos c_134).trans rfl)))))).symm.trans ho)) hP hS) hS.2.2 dX4_write_154
          · refine lv_iload hx hb dX4_write_85 (lv_at hl 0 rfl) ?_
            refine lv_bipush (v := (12 : Int32)) hx hb dX4_write_87 (by decide) ?_
            refine lv_iand hx hb dX4_write_89 ?_
            refine lv_if_eq (tgt := 100) hx hb dX4_write_90 (by decide) (fun c_90 => ?_) (fun c_90 => ?_)
            · refine lv_aload_n hx hb dX4_write_100 rfl (lv_at hl 1 rfl) ?_
              refine va_get (D := D) (ci := 3) (v := .ref (z 3)) (C := RX4) (T := TX4) (N := 20) hx hb hts (by decide +kernel) hown hK hP 0 rfl rfl 3 (by decide) (hts (.fieldLink RX4 16 "TrapMachineModel" "control" "[I") (by decide +kernel)) (fun _ h9 => h9) rfl dX4_write_101 ?_
              refine lv_iload_n hx hb dX4_write_104 rfl (lv_at hl 2 rfl) ?_
              refine lv_aload_n hx hb dX4_write_105 rfl (lv_at hl 1 rfl) ?_
              refine va_get (D := D) (ci := 3) (v := .ref (z 3)) (C := RX4) (T := TX4) (N := 20) hx hb hts (by decide +kernel) hown hK hP 0 rfl rfl 3 (by decide) (hts (.fieldLink RX4 16 "TrapMachineModel" "control" "[I") (by decide +kernel)) (fun _ h9 => h9) rfl dX4_write_106 ?_
              refine lv_iload_n hx hb dX4_write_109 rfl (lv_at hl 2 rfl) ?_
              refine q_iald (j := (ix a1)) (x9 := (w.2.2.2.1 (ix a1))) hx hb hK hP 3 0 rfl rfl h1 rfl rfl dX4_write_110 ?_
              refine lv_aload_n hx hb dX4_write_111 rfl (lv_at hl 1 rfl) ?_
              refine va_get (D := D) (ci := 3) (v := .ref (z 4)) (C := RX4) (T := TX4) (N := 20) hx hb hts (by decide +kernel) hown hK hP 0 rfl rfl 4 (by decide) (hts (.fieldLink RX4 22 "TrapMachineModel" "written" "[I") (by decide +kernel)) (fun _ h9 => h9) rfl dX4_write_112 ?_
              refine lv_iload_n hx hb dX4_write_115 rfl (lv_at hl 2 rfl) ?_
              refine q_iald (j := (ix a1)) (x9 := (wr0 (ix a1))) hx hb hK hP 4 0 rfl rfl h1 rfl rfl dX4_write_116 ?_
              refine lv_iconst (v := (-1 : Int32)) hx hb dX4_write_117 (by decide) ?_
              refine lv_ixor hx hb dX4_write_118 ?_
              refine lv_iand hx hb dX4_write_119 ?_
              refine lv_iload hx hb dX4_write_120 (lv_at hl 0 rfl) ?_
              refine lv_aload_n hx hb dX4_write_122 rfl (lv_at hl 1 rfl) ?_
              refine va_get (D := D) (ci := 3) (v := .ref (z 4)) (C := RX4) (T := TX4) (N := 20) hx hb hts (by decide +kernel) hown hK hP 0 rfl rfl 4 (by decide) (hts (.fieldLink RX4 22 "TrapMachineModel" "written" "[I") (by decide +kernel)) (fun _ h9 => h9) rfl dX4_write_123 ?_
              refine lv_iload_n hx hb dX4_write_126 rfl (lv_at hl 2 rfl) ?_
              refine q_iald (j := (ix a1)) (x9 := (wr0 (ix a1))) hx hb hK hP 4 0 rfl rfl h1 rfl rfl dX4_write_127 ?_
              refine lv_iand hx hb dX4_write_128 ?_
              refine lv_ior hx hb dX4_write_129 ?_
              refine q_iast (j := (ix a1)) (ws' := wM k z (ms3 w (upd w.2.2.2.1 (ix a1) (((w.2.2.2.1 (ix a1)) &&& ((wr0 (ix a1)) ^^^ (-1 : Int32))) ||| (((((w.2.2.2.1 (ix a1)) &&& (a2 ^^^ (-1 : Int32))) ||| (a3 &&& a2)) ||| (3 : Int32)) &&& (wr0 (ix a1))))))) hx hb hK hP hD hS 3 0 rfl rfl h1 rfl rfl dX4_write_130 (fun H locs hP hD hS => ?_)
              refine lv_iload_n hx hb dX4_write_131 rfl (lv_at hl 2 rfl) ?_
              refine lv_bipush (v := (14 : Int32)) hx hb dX4_write_132 (by decide) ?_
              refine lv_icmp_ne (tgt := 154) hx hb dX4_write_134 (by decide) (fun _ => ?_) (fun c9 => absurd c9 (show ¬ (a1 = (14 : Int32)) by rw [c_82]; decide))
              exact W.vret hx hb hr (wr_end rfl (congrArg (wM k z) ((show fX4_write w a1 a2 a3 = (ms3 w (upd w.2.2.2.1 (ix a1) (((w.2.2.2.1 (ix a1)) &&& ((wr0 (ix a1)) ^^^ (-1 : Int32))) ||| (((((w.2.2.2.1 (ix a1)) &&& (a2 ^^^ (-1 : Int32))) ||| (a3 &&& a2)) ||| (3 : Int32)) &&& (wr0 (ix a1)))))) from (if_neg c_2).trans ((if_neg c_57).trans ((if_neg c_64).trans ((if_neg c_76).trans ((if_pos c_82).trans ((if_pos c_90).trans rfl)))))).symm.trans ho)) hP hS) hS.2.2 dX4_write_154
            · refine lv_iload hx hb dX4_write_93 (lv_at hl 0 rfl) ?_
              refine lv_bipush (v := (12 : Int32)) hx hb dX4_write_95 (by decide) ?_
              refine lv_ior hx hb dX4_write_97 ?_
              refine lv_istore (lv' := [(4, .int (((((w.2.2.2.1 (ix a1)) &&& (a2 ^^^ (-1 : Int32))) ||| (a3 &&& a2)) ||| (3 : Int32)) ||| (12 : Int32))), (0, .ref (z 0)), (1, .int a1), (2, .int a2), (3, .int a3)]) hx hb dX4_write_98 hl (by decide) rfl (fun ls hl => ?_)
              refine lv_aload_n hx hb dX4_write_100 rfl (lv_at hl 1 rfl) ?_
              refine va_get (D := D) (ci := 3) (v := .ref (z 3)) (C := RX4) (T := TX4) (N := 20) hx hb hts (by decide +kernel) hown hK hP 0 rfl rfl 3 (by decide) (hts (.fieldLink RX4 16 "TrapMachineModel" "control" "[I") (by decide +kernel)) (fun _ h9 => h9) rfl dX4_write_101 ?_
              refine lv_iload_n hx hb dX4_write_104 rfl (lv_at hl 2 rfl) ?_
              refine lv_aload_n hx hb dX4_write_105 rfl (lv_at hl 1 rfl) ?_
              refine va_get (D := D) (ci := 3) (v := .ref (z 3)) (C := RX4) (T := TX4) (N := 20) hx hb hts (by decide +kernel) hown hK hP 0 rfl rfl 3 (by decide) (hts (.fieldLink RX4 16 "TrapMachineModel" "control" "[I") (by decide +kernel)) (fun _ h9 => h9) rfl dX4_write_106 ?_
              refine lv_iload_n hx hb dX4_write_109 rfl (lv_at hl 2 rfl) ?_
              refine q_iald (j := (ix a1)) (x9 := (w.2.2.2.1 (ix a1))) hx hb hK hP 3 0 rfl rfl h1 rfl rfl dX4_write_110 ?_
              refine lv_aload_n hx hb dX4_write_111 rfl (lv_at hl 1 rfl) ?_
              refine va_get (D := D) (ci := 3) (v := .ref (z 4)) (C := RX4) (T := TX4) (N := 20) hx hb hts (by decide +kernel) hown hK hP 0 rfl rfl 4 (by decide) (hts (.fieldLink RX4 22 "TrapMachineModel" "written" "[I") (by decide +kernel)) (fun _ h9 => h9) rfl dX4_write_112 ?_
              refine lv_iload_n hx hb dX4_write_115 rfl (lv_at hl 2 rfl) ?_
              refine q_iald (j := (ix a1)) (x9 := (wr0 (ix a1))) hx hb hK hP 4 0 rfl rfl h1 rfl rfl dX4_write_116 ?_
              refine lv_iconst (v := (-1 : Int32)) hx hb dX4_write_117 (by decide) ?_
              refine lv_ixor hx hb dX4_write_118 ?_
              refine lv_iand hx hb dX4_write_119 ?_
              refine lv_iload hx hb dX4_write_120 (lv_at hl 0 rfl) ?_
              refine lv_aload_n hx hb dX4_write_122 rfl (lv_at hl 1 rfl) ?_
              refine va_get (D := D) (ci := 3) (v := .ref (z 4)) (C := RX4) (T := TX4) (N := 20) hx hb hts (by decide +kernel) hown hK hP 0 rfl rfl 4 (by decide) (hts (.fieldLink RX4 22 "TrapMachineModel" "written" "[I") (by decide +kernel)) (fun _ h9 => h9) rfl dX4_write_123 ?_
              refine lv_iload_n hx hb dX4_write_126 rfl (lv_at hl 2 rfl) ?_
              refine q_iald (j := (ix a1)) (x9 := (wr0 (ix a1))) hx hb hK hP 4 0 rfl rfl h1 rfl rfl dX4_write_127 ?_
              refine lv_iand hx hb dX4_write_128 ?_
              refine lv_ior hx hb dX4_write_129 ?_
              refine q_iast (j := (ix a1)) (ws' := wM k z (ms3 w (upd w.2.2.2.1 (ix a1) (((w.2.2.2.1 (ix a1)) &&& ((wr0 (ix a1)) ^^^ (-1 : Int32))) ||| ((((((w.2.2.2.1 (ix a1)) &&& (a2 ^^^ (-1 : Int32))) ||| (a3 &&& a2)) ||| (3 : Int32)) ||| (12 : Int32)) &&& (wr0 (ix a1))))))) hx hb hK hP hD hS 3 0 rfl rfl h1 rfl rfl dX4_write_130 (fun H locs hP hD hS => ?_)
              refine lv_iload_n hx hb dX4_write_131 rfl (lv_at hl 2 rfl) ?_
              refine lv_bipush (v := (14 : Int32)) hx hb dX4_write_132 (by decide) ?_
              refine lv_icmp_ne (tgt := 154) hx hb dX4_write_134 (by decide) (fun _ => ?_) (fun c9 => absurd c9 (show ¬ (a1 = (14 : Int32)) by rw [c_82]; decide))
              exact W.vret hx hb hr (wr_end rfl (congrArg (wM k z) ((show fX4_write w a1 a2 a3 = (ms3 w (upd w.2.2.2.1 (ix a1) (((w.2.2.2.1 (ix a1)) &&& ((wr0 (ix a1)) ^^^ (-1 : Int32))) ||| ((((((w.2.2.2.1 (ix a1)) &&& (a2 ^^^ (-1 : Int32))) ||| (a3 &&& a2)) ||| (3 : Int32)) ||| (12 : Int32)) &&& (wr0 (ix a1)))))) from (if_neg c_2).trans ((if_neg c_57).trans ((if_neg c_64).trans ((if_neg c_76).trans ((if_pos c_82).trans ((if_neg c_90).trans rfl)))))).symm.trans ho)) hP hS) hS.2.2 dX4_write_154
  · refine lv_aload_n hx hb dX4_write_5 rfl (lv_at hl 0 rfl) ?_
    refine va_get (D := D) (ci := 3) (v := .ref (z 3)) (C := RX4) (T := TX4) (N := 20) hx hb hts (by decide +kernel) hown hK hP 0 rfl rfl 3 (by decide) (hts (.fieldLink RX4 16 "TrapMachineModel" "control" "[I") (by decide +kernel)) (fun _ h9 => h9) rfl dX4_write_6 ?_
    refine lv_iconst (v := (3 : Int32)) hx hb dX4_write_9 (by decide) ?_
    refine lv_iload_n hx hb dX4_write_10 rfl (lv_at hl 2 rfl) ?_
    refine lv_iload_n hx hb dX4_write_11 rfl (lv_at hl 3 rfl) ?_
    refine lv_iand hx hb dX4_write_12 ?_
    refine lv_bipush (v := (16 : Int32)) hx hb dX4_write_13 (by decide) ?_
    refine lv_iand hx hb dX4_write_15 ?_
    refine lv_if_eq (tgt := 31) hx hb dX4_write_16 (by decide) (fun c_16 => ?_) (fun c_16 => ?_)
    · refine lv_aload_n hx hb dX4_write_31 rfl (lv_at hl 0 rfl) ?_
      refine va_get (D := D) (ci := 3) (v := .ref (z 3)) (C := RX4) (T := TX4) (N := 20) hx hb hts (by decide +kernel) hown hK hP 0 rfl rfl 3 (by decide) (hts (.fieldLink RX4 16 "TrapMachineModel" "control" "[I") (by decide +kernel)) (fun _ h9 => h9) rfl dX4_write_32 ?_
      refine lv_iconst (v := (3 : Int32)) hx hb dX4_write_35 (by decide) ?_
      refine q_iald (j := 3) (x9 := (w.2.2.2.1 3)) hx hb hK hP 3 0 rfl rfl (vi_k (by decide)) rfl rfl dX4_write_36 ?_
      refine q_iast (j := 3) (ws' := wM k z (ms3 w (upd w.2.2.2.1 3 (w.2.2.2.1 3)))) hx hb hK hP hD hS 3 0 rfl rfl (vi_k (by decide)) rfl rfl dX4_write_37 (fun H locs hP hD hS => ?_)
      exact W.vret hx hb hr (wr_end rfl (congrArg (wM k z) ((show fX4_write w a1 a2 a3 = (ms3 w (upd w.2.2.2.1 3 (w.2.2.2.1 3))) from (if_pos c_2).trans ((if_pos c_16).trans rfl)).symm.trans ho)) hP hS) hS.2.2 dX4_write_38
    · refine lv_aload_n hx hb dX4_write_19 rfl (lv_at hl 0 rfl) ?_
      refine va_get (D := D) (ci := 3) (v := .ref (z 3)) (C := RX4) (T := TX4) (N := 20) hx hb hts (by decide +kernel) hown hK hP 0 rfl rfl 3 (by decide) (hts (.fieldLink RX4 16 "TrapMachineModel" "control" "[I") (by decide +kernel)) (fun _ h9 => h9) rfl dX4_write_20 ?_
      refine lv_iconst (v := (3 : Int32)) hx hb dX4_write_23 (by decide) ?_
      refine q_iald (j := 3) (x9 := (w.2.2.2.1 3)) hx hb hK hP 3 0 rfl rfl (vi_k (by decide)) rfl rfl dX4_write_24 ?_
      refine lv_bipush (v := (-17 : Int32)) hx hb dX4_write_25 (by decide) ?_
      refine lv_iand hx hb dX4_write_27 ?_
      refine lv_goto (tgt := 37) hx hb dX4_write_28 (by decide) ?_
      refine q_iast (j := 3) (ws' := wM k z (ms3 w (upd w.2.2.2.1 3 ((w.2.2.2.1 3) &&& (-17 : Int32))))) hx hb hK hP hD hS 3 0 rfl rfl (vi_k (by decide)) rfl rfl dX4_write_37 (fun H locs hP hD hS => ?_)
      exact W.vret hx hb hr (wr_end rfl (congrArg (wM k z) ((show fX4_write w a1 a2 a3 = (ms3 w (upd w.2.2.2.1 3 ((w.2.2.2.1 3) &&& (-17 : Int32)))) from (if_pos c_2).trans ((if_neg c_16).trans rfl)).symm.trans ho)) hP hS) hS.2.2 dX4_write_38
def fX4_search_lp  : Nat → Nat → (MD) → Int32 → MD
  | 0, i, m9, x1 => if x1 = (-1 : Int32) then
      (ms3 m9 (upd m9.2.2.2.1 7 ((m9.2.2.2.1 7) ||| (-2147483648 : Int32))))
    else
      (ms3 m9 (upd m9.2.2.2.1 7 x1))
  | n + 1, i, m9, x1 =>
    if (fX4_fits m9 (nI n) (fX4_pairOf (m9.2.2.2.1 8)) (m9.2.2.2.1 11)) = (0 : Int32) then
      fX4_search_lp n i m9 x1
    else
      fX4_search_lp n i m9 (nI n)
def fX4_search (w : MD)  : MD :=
  fX4_search_lp 4 0 w (-1)
set_option maxHeartbeats 4000000 in
set_option maxRecDepth 100000 in
theorem kX4_search (l : Launch) (D : va_G) (k : Nat → ClassId) (z : Nat → Nat) (w : MD)   (o : MD) (ho : fX4_search w = o) : Met l yX4_search wsX4_search { frames := 1, cells := 0, slots := 0, locals := 23 } (wr_P D vwCl (tyL k) (wM k z w) (fun _ => True) [.ref (z 0)]) (wr_Q D vwCl none (wM k z w) (wM k z o)) 0 0 (in_W (wM k z w)) := by
  refine Met.ofW (cc := cX4_search) (maxL := 3) (ret := none) (by decide) rfl ?_
  intro p e s m args below meth c s₁ B hml hv0
  obtain ⟨rfl, hP, hK, hX, hD0⟩ := hv0
  have hx := B.exec
  have hb := B.bytes
  have hr := B.returns
  have hts := atoms_spec (ws := wsX4_search) B.pre
  have hown : s.vm.findClass RX4 = some m.cls := findClass_of_methodNamed B.named
  have hlocks := B.notSynchronized
  have hD : va_D (in_W (wM k z w)) (wM k z w) := wD_self hD0
  have hS : va_S (in_W (wM k z w)) s.heap s.heap [] := va_S.rf
  have hl := lv_entry ([.ref (z 0)]) (n := 3) (Nat.le_of_ble_eq_true rfl)
  rw [lg_entry_eq]
  generalize (lg_sl ([.ref (z 0)]) ++ List.replicate (3 - (lg_sl ([.ref (z 0)])).length) Slot.unset).toArray = ls at hl ⊢
  have hl : lv_has ls 3 [(0, .ref (z 0))] := hl
  have lp : ∀ (n i : Nat) (m9 : MD) (x1 : Int32) (H : Heap) (locs : List Loc), n ≤ 4 → fX4_search_lp n i m9 x1 = fX4_search w → va_P D vwCl (wM k z m9) H → va_D (in_W (wM k z w)) (wM k z m9) → va_S (in_W (wM k z w)) s.heap H locs → ∀ ls : Array Slot, lv_has ls 3 [(0, .ref (z 0)), (1, .int x1), (2, .int (nI n - 1))] → W p l e (headSpec wsX4_search { frames := 1, cells := 0, slots := 0, locals := 23 }).room s m ([.ref (z 0)] : List Value).toArray below meth c H locs 0 0 (MQ below (wr_Q D vwCl none (wM k z w) (wM k z o)) ([.ref (z 0)] : List Value).toArray s 0 0 (in_W (wM k z w))) (F0 m 4 ls []) := by
    intro n
    induction n with
    | zero =>
      intro i m9 x1 H locs hin heq hP hD hS  ls hl
      have hl : lv_has ls 3 [(0, .ref (z 0)), (1, .int x1), (2, .int (-1 : Int32))] := hl
      refine lv_iload_n hx hb dX4_search_4 rfl (lv_at hl 2 rfl) ?_
      refine lv_if_lt (tgt := 45) hx hb dX4_search_5 (by decide) (fun _ => ?_) (fun c9 => absurd (by decide) c9)
      refine lv_aload_n hx hb dX4_search_45 rfl (lv_at hl 0 rfl) ?_
      refine va_get (D := D) (ci := 3) (v := .ref (z 3)) (C := RX4) (T := TX4) (N := 20) hx hb hts (by decide +kernel) hown hK hP 0 rfl rfl 3 (by decide) (hts (.fieldLink RX4 16 "TrapMachineModel" "control" "[I") (by decide +kernel)) (fun _ h9 => h9) rfl dX4_search_46 ?_
      refine lv_bipush (v := (7 : Int32)) hx hb dX4_search_49 (by decide) ?_
      refine lv_iload_n hx hb dX4_search_51 rfl (lv_at hl 1 rfl) ?_
      refine lv_iconst (v := (-1 : Int32)) hx hb dX4_search_52 (by decide) ?_
      refine lv_icmp_ne (tgt := 69) hx hb dX4_search_53 (by decide) (fun c_53 => ?_) (fun c_53 => ?_)
      · refine lv_iload_n hx hb dX4_search_69 rfl (lv_at hl 1 rfl) ?_
        refine q_iast (j := 7) (ws' := wM k z (ms3 m9 (upd m9.2.2.2.1 7 x1))) hx hb hK hP hD hS 3 0 rfl rfl (vi_k (by decide)) rfl rfl dX4_search_70 (fun H locs hP hD hS => ?_)
        exact W.vret hx hb hr (wr_end rfl (congrArg (wM k z) ((show fX4_search w = (ms3 m9 (upd m9.2.2.2.1 7 x1)) from heq.symm.trans (show fX4_search_lp 0 i m9 x1 = (ms3 m9 (upd m9.2.2.2.1 7 x1)) from (if_neg c_53).trans rfl)).symm.trans ho)) hP hS) hS.2.2 dX4_search_71
      · refine lv_aload_n hx hb dX4_search_56 rfl (lv_at hl 0 rfl) ?_
        refine va_get (D := D) (ci := 3) (v := .ref (z 3)) (C := RX4) (T := TX4) (N := 20) hx hb hts (by decide +kernel) hown hK hP 0 rfl rfl 3 (by decide) (hts (.fieldLink RX4 16 "TrapMachineModel" "control" "[I") (by decide +kernel)) (fun _ h9 => h9) rfl dX4_search_57 ?_
        refine lv_bipush (v := (7 : Int32)) hx hb dX4_search_60 (by decide) ?_
        refine q_iald (j := 7) (x9 := (m9.2.2.2.1 7)) hx hb hK hP 3 0 rfl rfl (vi_k (by decide)) rfl rfl dX4_search_62 ?_
        refine lv_ldc (v := (-2147483648 : Int32)) hx hb hown (hts (.constant RX4 83 (-2147483648)) (by decide +kernel)) dX4_search_63 ?_
        refine lv_ior hx hb dX4_search_65 ?_
        refine lv_goto (tgt := 70) hx hb dX4_search_66 (by decide) ?_
        refine q_iast (j := 7) (ws' := wM k z (ms3 m9 (upd m9.2.2.2.1 7 ((m9.2.2.2.1 7) ||| (-2147483648 : Int32))))) hx hb hK hP hD hS 3 0 rfl rfl (vi_k (by decide)) rfl rfl dX4_search_70 (fun H locs hP hD hS => ?_)
        exact W.vret hx hb hr (wr_end rfl (congrArg (wM k z) ((show fX4_search w = (ms3 m9 (upd m9.2.2.2.1 7 ((m9.2.2.2.1 7) ||| (-2147483648 : Int32)))) from heq.symm.trans (show fX4_search_lp 0 i m9 x1 = (ms3 m9 (upd m9.2.2.2.1 7 ((m9.2.2.2.1 7) ||| (-2147483648 : Int32)))) from (if_pos c_53).trans rfl)).symm.trans ho)) hP hS) hS.2.2 dX4_search_71
    | succ n ih =>
      intro i m9 x1 H locs hin heq hP hD hS  ls hl
      rw [nI_pred] at hl
      refine lv_iload_n hx hb dX4_search_4 rfl (lv_at hl 2 rfl) ?_
      refine lv_if_lt (tgt := 45) hx hb dX4_search_5 (by decide) (fun c9 => absurd c9 (nI_pos (by omega))) (fun _ => ?_)
      refine lv_aload_n hx hb dX4_search_8 rfl (lv_at hl 0 rfl) ?_
      refine lv_iload_n hx hb dX4_search_9 rfl (lv_at hl 2 rfl) ?_
      refine lv_aload_n hx hb dX4_search_10 rfl (lv_at hl 0 rfl) ?_
      refine va_get (D := D) (ci := 3) (v := .ref (z 3)) (C := RX4) (T := TX4) (N := 20) hx hb hts (by decide +kernel) hown hK hP 0 rfl rfl 3 (by decide) (hts (.fieldLink RX4 16 "TrapMachineModel" "control" "[I") (by decide +kernel)) (fun _ h9 => h9) rfl dX4_search_11 ?_
      refine lv_bipush (v := (8 : Int32)) hx hb dX4_search_14 (by decide) ?_
      refine q_iald (j := 8) (x9 := (m9.2.2.2.1 8)) hx hb hK hP 3 0 rfl rfl (vi_k (by decide)) rfl rfl dX4_search_16 ?_
      refine rd_call (r := (fX4_pairOf (m9.2.2.2.1 8))) (W.runS (As := [.int (m9.2.2.2.1 8)]) (rest := [.int (nI n), .ref (z 0)]) ⟨hx, hb, hml, hown, hts⟩ (kX4_pairOf l (m9.2.2.2.1 8)) (va_cwS 1 hts gX4_search_X4_pairOf rfl rfl rfl (by decide +kernel) ⟨Nat.le_of_ble_eq_true rfl, Nat.le_of_ble_eq_true rfl⟩) preEq rfl rfl hl.1 rfl (lv_room (Nat.le_of_ble_eq_true rfl)) dX4_search_17 ⟨Nat.zero_le _, Nat.zero_le _⟩) ?_
      refine lv_aload_n hx hb dX4_search_20 rfl (lv_at hl 0 rfl) ?_
      refine va_get (D := D) (ci := 3) (v := .ref (z 3)) (C := RX4) (T := TX4) (N := 20) hx hb hts (by decide +kernel) hown hK hP 0 rfl rfl 3 (by decide) (hts (.fieldLink RX4 16 "TrapMachineModel" "control" "[I") (by decide +kernel)) (fun _ h9 => h9) rfl dX4_search_21 ?_
      refine lv_bipush (v := (11 : Int32)) hx hb dX4_search_24 (by decide) ?_
      refine q_iald (j := 11) (x9 := (m9.2.2.2.1 11)) hx hb hK hP 3 0 rfl rfl (vi_k (by decide)) rfl rfl dX4_search_26 ?_
      refine rd_call (r := (fX4_fits m9 (nI n) (fX4_pairOf (m9.2.2.2.1 8)) (m9.2.2.2.1 11))) (W.runV (C := RX4) (b := (z 0)) (As := [.int (nI n), .int (fX4_pairOf (m9.2.2.2.1 8)), .int (m9.2.2.2.1 11)]) (rest := []) ⟨hx, hb, hml, hown, hts⟩ (kX4_fits l D k z m9 (nI n) (fX4_pairOf (m9.2.2.2.1 8)) (m9.2.2.2.1 11) (vp_in_nI (by omega) (by omega))) (cwV 3 hts gX4_search_X4_fits rfl rfl rfl (by decide +kernel) ⟨Nat.le_of_ble_eq_true rfl, Nat.le_of_ble_eq_true rfl⟩) (rd_preV bl_T pr_T hK hP (va_recv hK hP (ci := 3) (q0 := 0) rfl rfl)) rfl rfl hl.1 rfl (lv_room (Nat.le_of_ble_eq_true rfl)) dX4_search_27 ⟨Nat.zero_le _, Nat.zero_le _⟩) ?_
      refine lv_if_eq (tgt := 37) hx hb dX4_search_30 (by decide) (fun c_30 => ?_) (fun c_30 => ?_)
      · refine lv_iload_n hx hb dX4_search_37 rfl (lv_at hl 1 rfl) ?_
        refine lv_istore_n (lv' := [(1, .int x1), (0, .ref (z 0)), (2, .int (nI n))]) hx hb dX4_search_38 rfl hl (by decide) rfl (fun ls hl => ?_)
        refine lv_iinc (v := ((nI n) + (-1 : Int32))) (lv' := [(2, .int ((nI n) + (-1 : Int32))), (1, .int x1), (0, .ref (z 0))]) hx hb dX4_search_39 hl (k := 2) rfl rfl (by decide) rfl (fun ls hl => ?_)
        refine lv_goto (tgt := 4) hx hb dX4_search_42 (by decide) ?_
        exact ih i m9 x1 H locs (by omega) ((show fX4_search_lp (n + 1) i m9 x1 = fX4_search_lp n i m9 x1 from (if_pos c_30).trans rfl).symm.trans heq) hP hD hS ls (by rw [show nI n - 1 = nI n + (-1 : Int32) from Int32.sub_eq_add_neg _ _]; exact lv_sub hl [2, 1, 0] rfl)
      · refine lv_iload_n hx hb dX4_search_33 rfl (lv_at hl 2 rfl) ?_
        refine lv_goto (tgt := 38) hx hb dX4_search_34 (by decide) ?_
        refine lv_istore_n (lv' := [(1, .int (nI n)), (0, .ref (z 0)), (2, .int (nI n))]) hx hb dX4_search_38 rfl hl (by decide) rfl (fun ls hl => ?_)
        refine lv_iinc (v := ((nI n) + (-1 : Int32))) (lv' := [(2, .int ((nI n) + (-1 : Int32))), (1, .int (nI n)), (0, .ref (z 0))]) hx hb dX4_search_39 hl (k := 2) rfl rfl (by decide) rfl (fun ls hl => ?_)
        refine lv_goto (tgt := 4) hx hb dX4_search_42 (by decide) ?_
        exact ih i m9 (nI n) H locs (by omega) ((show fX4_search_lp (n + 1) i m9 x1 = fX4_search_lp n i m9 (nI n) from (if_neg c_30).trans rfl).symm.trans heq) hP hD hS ls (by rw [show nI n - 1 = nI n + (-1 : Int32) from Int32.sub_eq_add_neg _ _]; exact lv_sub hl [2, 1, 0] rfl)
  refine lv_iconst (v := (-1 : Int32)) hx hb dX4_search_0 (by decide) ?_
  refine lv_istore_n (lv' := [(1, .int (-1 : Int32)), (0, .ref (z 0))]) hx hb dX4_search_1 rfl hl (by decide) rfl (fun ls hl => ?_)
  refine lv_iconst (v := (3 : Int32)) hx hb dX4_search_2 (by decide) ?_
  refine lv_istore_n (lv' := [(2, .int (3 : Int32)), (1, .int (-1 : Int32)), (0, .ref (z 0))]) hx hb dX4_search_3 rfl hl (by decide) rfl (fun ls hl => ?_)
  exact lp 4 0 w (-1) _ _ (by omega) rfl hP hD hS ls (lv_sub hl [2, 1, 0] rfl)
def fX4_read (w : MD) (a1 : Int32) : MD :=
  if (w.2.2.2.2.2.1 (ix a1)) = (0 : Int32) then
    if (w.2.2.2.2.1 (ix a1)) = (0 : Int32) then
      (ms3 (ms3 (ms3 (ms3 (ms3 w (upd w.2.2.2.1 7 (a1 ||| (-2147483648 : Int32)))) (upd (upd w.2.2.2.1 7 (a1 ||| (-2147483648 : Int32))) 8 (0 : Int32))) (upd (upd (upd w.2.2.2.1 7 (a1 ||| (-2147483648 : Int32))) 8 (0 : Int32)) 9 (0 : Int32))) (upd (upd (upd (upd w.2.2.2.1 7 (a1 ||| (-2147483648 : Int32))) 8 (0 : Int32)) 9 (0 : Int32)) 10 (0 : Int32))) (upd (upd (upd (upd (upd w.2.2.2.1 7 (a1 ||| (-2147483648 : Int32))) 8 (0 : Int32)) 9 (0 : Int32)) 10 (0 : Int32)) 11 (w.2.2.2.1 11)))
    else
      (ms3 (ms3 (ms3 (ms3 (ms3 w (upd w.2.2.2.1 7 a1)) (upd (upd w.2.2.2.1 7 a1) 8 ((w.2.2.2.2.2.2.1 (ix a1)) <<< ((7 : Int32) &&& 31)))) (upd (upd (upd w.2.2.2.1 7 a1) 8 ((w.2.2.2.2.2.2.1 (ix a1)) <<< ((7 : Int32) &&& 31))) 9 ((w.2.2.2.2.2.2.2.2.1 (ix ((2 : Int32) * a1))) + (0 : Int32)))) (upd (upd (upd (upd w.2.2.2.1 7 a1) 8 ((w.2.2.2.2.2.2.1 (ix a1)) <<< ((7 : Int32) &&& 31))) 9 ((w.2.2.2.2.2.2.2.2.1 (ix ((2 : Int32) * a1))) + (0 : Int32))) 10 ((w.2.2.2.2.2.2.2.2.1 (ix (((2 : Int32) * a1) + (1 : Int32)))) + (0 : Int32)))) (upd (upd (upd (upd (upd w.2.2.2.1 7 a1) 8 ((w.2.2.2.2.2.2.1 (ix a1)) <<< ((7 : Int32) &&& 31))) 9 ((w.2.2.2.2.2.2.2.2.1 (ix ((2 : Int32) * a1))) + (0 : Int32))) 10 ((w.2.2.2.2.2.2.2.2.1 (ix (((2 : Int32) * a1) + (1 : Int32)))) + (0 : Int32))) 11 (w.2.2.2.2.2.2.2.1 (ix a1))))
  else
    if (w.2.2.2.2.1 (ix a1)) = (0 : Int32) then
      (ms3 (ms3 (ms3 (ms3 (ms3 w (upd w.2.2.2.1 7 (a1 ||| (-2147483648 : Int32)))) (upd (upd w.2.2.2.1 7 (a1 ||| (-2147483648 : Int32))) 8 (0 : Int32))) (upd (upd (upd w.2.2.2.1 7 (a1 ||| (-2147483648 : Int32))) 8 (0 : Int32)) 9 (0 : Int32))) (upd (upd (upd (upd w.2.2.2.1 7 (a1 ||| (-2147483648 : Int32))) 8 (0 : Int32)) 9 (0 : Int32)) 10 (0 : Int32))) (upd (upd (upd (upd (upd w.2.2.2.1 7 (a1 ||| (-2147483648 : Int32))) 8 (0 : Int32)) 9 (0 : Int32)) 10 (0 : Int32)) 11 (w.2.2.2.1 11)))
    else
      (ms3 (ms3 (ms3 (ms3 (ms3 w (upd w.2.2.2.1 7 a1)) (upd (upd w.2.2.2.1 7 a1) 8 ((w.2.2.2.2.2.2.1 (ix a1)) <<< ((7 : Int32) &&& 31)))) (upd (upd (upd w.2.2.2.1 7 a1) 8 ((w.2.2.2.2.2.2.1 (ix a1)) <<< ((7 : Int32) &&& 31))) 9 ((w.2.2.2.2.2.2.2.2.1 (ix ((2 : Int32) * a1))) + (16 : Int32)))) (upd (upd (upd (upd w.2.2.2.1 7 a1) 8 ((w.2.2.2.2.2.2.1 (ix a1)) <<< ((7 : Int32) &&& 31))) 9 ((w.2.2.2.2.2.2.2.2.1 (ix ((2 : Int32) * a1))) + (16 : Int32))) 10 ((w.2.2.2.2.2.2.2.2.1 (ix (((2 : Int32) * a1) + (1 : Int32)))) + (16 : Int32)))) (upd (upd (upd (upd (upd w.2.2.2.1 7 a1) 8 ((w.2.2.2.2.2.2.1 (ix a1)) <<< ((7 : Int32) &&& 31))) 9 ((w.2.2.2.2.2.2.2.2.1 (ix ((2 : Int32) * a1))) + (16 : Int32))) 10 ((w.2.2.2.2.2.2.2.2.1 (ix (((2 : Int32) * a1) + (1 : Int32)))) + (16 : Int32))) 11 (w.2.2.2.2.2.2.2.1 (ix a1))))
set_option maxHeartbeats 4000000 in
set_option maxRecDepth 100000 in
theorem kX4_read (l : Launch) (D : va_G) (k : Nat → ClassId) (z : Nat → Nat) (w : MD) (a1 : Int32) (h1 : vp_in a1 4) (o : MD) (ho : fX4_read w a1 = o) : Met l yX4_read wsX4_read { frames := 0, cells := 0, slots := 0, locals := 0 } (wr_P D vwCl (tyL k) (wM k z w) (fun _ => True) [.ref (z 0), .int a1]) (wr_Q D vwCl none (wM k z w) (wM k z o)) 0 0 (in_W (wM k z w)) := by
  refine Met.ofW (cc := cX4_read) (maxL := 3) (ret := none) (by decide) rfl ?_
  intro p e s m args below meth c s₁ B hml hv0
  obtain ⟨rfl, hP, hK, hX, hD0⟩ := hv0
  have hx := B.exec
  have hb := B.bytes
  have hr := B.returns
  have hts := atoms_spec (ws := wsX4_read) B.pre
  have hown : s.vm.findClass RX4 = some m.cls := findClass_of_methodNamed B.named
  have hlocks := B.notSynchronized
  have hD : va_D (in_W (wM k z w)) (wM k z w) := wD_self hD0
  have hS : va_S (in_W (wM k z w)) s.heap s.heap [] := va_S.rf
  have hl := lv_entry ([.ref (z 0), .int a1]) (n := 3) (Nat.le_of_ble_eq_true rfl)
  rw [lg_entry_eq]
  generalize (lg_sl ([.ref (z 0), .int a1]) ++ List.replicate (3 - (lg_sl ([.ref (z 0), .int a1])).length) Slot.unset).toArray = ls at hl ⊢
  have hl : lv_has ls 3 [(0, .ref (z 0)), (1, .int a1)] := hl
  refine lv_aload_n hx hb dX4_read_0 rfl (lv_at hl 0 rfl) ?_
  refine va_get (D := D) (ci := 3) (v := .ref (z 6)) (C := RX4) (T := TX4) (N := 20) hx hb hts (by decide +kernel) hown hK hP 0 rfl rfl 6 (by decide) (hts (.fieldLink RX4 29 "TrapMachineModel" "global" "[Z") (by decide +kernel)) (fun _ h9 => h9) rfl dX4_read_1 ?_
  refine lv_iload_n hx hb dX4_read_4 rfl (lv_at hl 1 rfl) ?_
  refine q_zald (j := (ix a1)) (x9 := (w.2.2.2.2.2.1 (ix a1))) hx hb hK hP 6 2 rfl rfl h1 rfl rfl dX4_read_5 ?_
  refine lv_if_eq (tgt := 14) hx hb dX4_read_6 (by decide) (fun c_6 => ?_) (fun c_6 => ?_)
  · refine lv_iconst (v := (0 : Int32)) hx hb dX4_read_14 (by decide) ?_
    refine lv_istore_n (lv' := [(2, .int (0 : Int32)), (0, .ref (z 0)), (1, .int a1)]) hx hb dX4_read_15 rfl hl (by decide) rfl (fun ls hl => ?_)
    refine lv_aload_n hx hb dX4_read_16 rfl (lv_at hl 1 rfl) ?_
    refine va_get (D := D) (ci := 3) (v := .ref (z 3)) (C := RX4) (T := TX4) (N := 20) hx hb hts (by decide +kernel) hown hK hP 0 rfl rfl 3 (by decide) (hts (.fieldLink RX4 16 "TrapMachineModel" "control" "[I") (by decide +kernel)) (fun _ h9 => h9) rfl dX4_read_17 ?_
    refine lv_bipush (v := (7 : Int32)) hx hb dX4_read_20 (by decide) ?_
    refine lv_aload_n hx hb dX4_read_22 rfl (lv_at hl 1 rfl) ?_
    refine va_get (D := D) (ci := 3) (v := .ref (z 5)) (C := RX4) (T := TX4) (N := 20) hx hb hts (by decide +kernel) hown hK hP 0 rfl rfl 5 (by decide) (hts (.fieldLink RX4 25 "TrapMachineModel" "there" "[Z") (by decide +kernel)) (fun _ h9 => h9) rfl dX4_read_23 ?_
    refine lv_iload_n hx hb dX4_read_26 rfl (lv_at hl 2 rfl) ?_
    refine q_zald (j := (ix a1)) (x9 := (w.2.2.2.2.1 (ix a1))) hx hb hK hP 5 2 rfl rfl h1 rfl rfl dX4_read_27 ?_
    refine lv_if_eq (tgt := 35) hx hb dX4_read_28 (by decide) (fun c_28 => ?_) (fun c_28 => ?_)
    · refine lv_iload_n hx hb dX4_read_35 rfl (lv_at hl 2 rfl) ?_
      refine lv_ldc (v := (-2147483648 : Int32)) hx hb hown (hts (.constant RX4 83 (-2147483648)) (by decide +kernel)) dX4_read_36 ?_
      refine lv_ior hx hb dX4_read_38 ?_
      refine q_iast (j := 7) (ws' := wM k z (ms3 w (upd w.2.2.2.1 7 (a1 ||| (-2147483648 : Int32))))) hx hb hK hP hD hS 3 0 rfl rfl (vi_k (by decide)) rfl rfl dX4_read_39 (fun H locs hP hD hS => ?_)
      refine lv_aload_n hx hb dX4_read_40 rfl (lv_at hl 1 rfl) ?_
      refine va_get (D := D) (ci := 3) (v := .ref (z 3)) (C := RX4) (T := TX4) (N := 20) hx hb hts (by decide +kernel) hown hK hP 0 rfl rfl 3 (by decide) (hts (.fieldLink RX4 16 "TrapMachineModel" "control" "[I") (by decide +kernel)) (fun _ h9 => h9) rfl dX4_read_41 ?_
      refine lv_bipush (v := (8 : Int32)) hx hb dX4_read_44 (by decide) ?_
      refine lv_aload_n hx hb dX4_read_46 rfl (lv_at hl 1 rfl) ?_
      refine va_get (D := D) (ci := 3) (v := .ref (z 5)) (C := RX4) (T := TX4) (N := 20) hx hb hts (by decide +kernel) hown hK hP 0 rfl rfl 5 (by decide) (hts (.fieldLink RX4 25 "TrapMachineModel" "there" "[Z") (by decide +kernel)) (fun _ h9 => h9) rfl dX4_read_47 ?_
      refine lv_iload_n hx hb dX4_read_50 rfl (lv_at hl 2 rfl) ?_
      refine q_zald (j := (ix a1)) (x9 := (w.2.2.2.2.1 (ix a1))) hx hb hK hP 5 2 rfl rfl h1 rfl rfl dX4_read_51 ?_
      refine lv_if_eq (tgt := 67) hx hb dX4_read_52 (by decide) (fun _ => ?_) (fun c9 => absurd c_28 c9)
      refine lv_iconst (v := (0 : Int32)) hx hb dX4_read_67 (by decide) ?_
      refine q_iast (j := 8) (ws' := wM k z (ms3 (ms3 w (upd w.2.2.2.1 7 (a1 ||| (-2147483648 : Int32)))) (upd (upd w.2.2.2.1 7 (a1 ||| (-2147483648 : Int32))) 8 (0 : Int32)))) hx hb hK hP hD hS 3 0 rfl rfl (vi_k (by decide)) rfl rfl dX4_read_68 (fun H locs hP hD hS => ?_)
      refine lv_aload_n hx hb dX4_read_69 rfl (lv_at hl 1 rfl) ?_
      refine va_get (D := D) (ci := 3) (v := .ref (z 3)) (C := RX4) (T := TX4) (N := 20) hx hb hts (by decide +kernel) hown hK hP 0 rfl rfl 3 (by decide) (hts (.fieldLink RX4 16 "TrapMachineModel" "control" "[I") (by decide +kernel)) (fun _ h9 => h9) rfl dX4_read_70 ?_
      refine lv_bipush (v := (9 : Int32)) hx hb dX4_read_73 (by decide) ?_
      refine lv_aload_n hx hb dX4_read_75 rfl (lv_at hl 1 rfl) ?_
      refine va_get (D := D) (ci := 3) (v := .ref (z 5)) (C := RX4) (T := TX4) (N := 20) hx hb hts (by decide +kernel) hown hK hP 0 rfl rfl 5 (by decide) (hts (.fieldLink RX4 25 "TrapMachineModel" "there" "[Z") (by decide +kernel)) (fun _ h9 => h9) rfl dX4_read_76 ?_
      refine lv_iload_n hx hb dX4_read_79 rfl (lv_at hl 2 rfl) ?_
      refine q_zald (j := (ix a1)) (x9 := (w.2.2.2.2.1 (ix a1))) hx hb hK hP 5 2 rfl rfl h1 rfl rfl dX4_read_80 ?_
      refine lv_if_eq (tgt := 97) hx hb dX4_read_81 (by decide) (fun _ => ?_) (fun c9 => absurd c_28 c9)
      refine lv_iconst (v := (0 : Int32)) hx hb dX4_read_97 (by decide) ?_
      refine q_iast (j := 9) (ws' := wM k z (ms3 (ms3 (ms3 w (upd w.2.2.2.1 7 (a1 ||| (-2147483648 : Int32)))) (upd (upd w.2.2.2.1 7 (a1 ||| (-2147483648 : Int32))) 8 (0 : Int32))) (upd (upd (upd w.2.2.2.1 7 (a1 ||| (-2147483648 : Int32))) 8 (0 : Int32)) 9 (0 : Int32)))) hx hb hK hP hD hS 3 0 rfl rfl (vi_k (by decide)) rfl rfl dX4_read_98 (fun H locs hP hD hS => ?_)
      refine lv_aload_n hx hb dX4_read_99 rfl (lv_at hl 1 rfl) ?_
      refine va_get (D := D) (ci := 3) (v := .ref (z 3)) (C := RX4) (T := TX4) (N := 20) hx hb hts (by decide +kernel) hown hK hP 0 rfl rfl 3 (by decide) (hts (.fieldLink RX4 16 "TrapMachineModel" "control" "[I") (by decide +kernel)) (fun _ h9 => h9) rfl dX4_read_100 ?_
      refine lv_bipush (v := (10 : Int32)) hx hb dX4_read_103 (by decide) ?_
      refine lv_aload_n hx hb dX4_read_105 rfl (lv_at hl 1 rfl) ?_
      refine va_get (D := D) (ci := 3) (v := .ref (z 5)) (C := RX4) (T := TX4) (N := 20) hx hb hts (by decide +kernel) hown hK hP 0 rfl rfl 5 (by decide) (hts (.fieldLink RX4 25 "TrapMachineModel" "there" "[Z") (by decide +kernel)) (fun _ h9 => h9) rfl dX4_read_106 ?_
      refine lv_iload_n hx hb dX4_read_109 rfl (lv_at hl 2 rfl) ?_
      refine q_zald (j := (ix a1)) (x9 := (w.2.2.2.2.1 (ix a1))) hx hb hK hP 5 2 rfl rfl h1 rfl rfl dX4_read_110 ?_
      refine lv_if_eq (tgt := 129) hx hb dX4_read_111 (by decide) (fun _ => ?_) (fun c9 => absurd c_28 c9)
      refine lv_iconst (v := (0 : Int32)) hx hb dX4_read_129 (by decide) ?_
      refine q_iast (j := 10) (ws' := wM k z (ms3 (ms3 (ms3 (ms3 w (upd w.2.2.2.1 7 (a1 ||| (-2147483648 : Int32)))) (upd (upd w.2.2.2.1 7 (a1 ||| (-2147483648 : Int32))) 8 (0 : Int32))) (upd (upd (upd w.2.2.2.1 7 (a1 ||| (-2147483648 : Int32))) 8 (0 : Int32)) 9 (0 : Int32))) (upd (upd (upd (upd w.2.2.2.1 7 (a1 ||| (-2147483648 : Int32))) 8 (0 : Int32)) 9 (0 : Int32)) 10 (0 : Int32)))) hx hb hK hP hD hS 3 0 rfl rfl (vi_k (by decide)) rfl rfl dX4_read_130 (fun H locs hP hD hS => ?_)
      refine lv_aload_n hx hb dX4_read_131 rfl (lv_at hl 1 rfl) ?_
      refine va_get (D := D) (ci := 3) (v := .ref (z 3)) (C := RX4) (T := TX4) (N := 20) hx hb hts (by decide +kernel) hown hK hP 0 rfl rfl 3 (by decide) (hts (.fieldLink RX4 16 "TrapMachineModel" "control" "[I") (by decide +kernel)) (fun _ h9 => h9) rfl dX4_read_132 ?_
      refine lv_bipush (v := (11 : Int32)) hx hb dX4_read_135 (by decide) ?_
      refine lv_aload_n hx hb dX4_read_137 rfl (lv_at hl 1 rfl) ?_
      refine va_get (D := D) (ci := 3) (v := .ref (z 5)) (C := RX4) (T := TX4) (N := 20) hx hb hts (by decide +kernel) hown hK hP 0 rfl rfl 5 (by decide) (hts (.fieldLink RX4 25 "TrapMachineModel" "there" "[Z") (by decide +kernel)) (fun _ h9 => h9) rfl dX4_read_138 ?_
      refine lv_iload_n hx hb dX4_read_141 rfl (lv_at hl 2 rfl) ?_
      refine q_zald (j := (ix a1)) (x9 := (w.2.2.2.2.1 (ix a1))) hx hb hK hP 5 2 rfl rfl h1 rfl rfl dX4_read_142 ?_
      refine lv_if_eq (tgt := 155) hx hb dX4_read_143 (by decide) (fun _ => ?_) (fun c9 => absurd c_28 c9)
      refine lv_aload_n hx hb dX4_read_155 rfl (lv_at hl 1 rfl) ?_
      refine va_get (D := D) (ci := 3) (v := .ref (z 3)) (C := RX4) (T := TX4) (N := 20) hx hb hts (by decide +kernel) hown hK hP 0 rfl rfl 3 (by decide) (hts (.fieldLink RX4 16 "TrapMachineModel" "control" "[I") (by decide +kernel)) (fun _ h9 => h9) rfl dX4_read_156 ?_
      refine lv_bipush (v := (11 : Int32)) hx hb dX4_read_159 (by decide) ?_
      refine q_iald (j := 11) (x9 := (w.2.2.2.1 11)) hx hb hK hP 3 0 rfl rfl (vi_k (by decide)) rfl rfl dX4_read_161 ?_
      refine q_iast (j := 11) (ws' := wM k z (ms3 (ms3 (ms3 (ms3 (ms3 w (upd w.2.2.2.1 7 (a1 ||| (-2147483648 : Int32)))) (upd (upd w.2.2.2.1 7 (a1 ||| (-2147483648 : Int32))) 8 (0 : Int32))) (upd (upd (upd w.2.2.2.1 7 (a1 ||| (-2147483648 : Int32))) 8 (0 : Int32)) 9 (0 : Int32))) (upd (upd (upd (upd w.2.2.2.1 7 (a1 ||| (-2147483648 : Int32))) 8 (0 : Int32)) 9 (0 : Int32)) 10 (0 : Int32))) (upd (upd (upd (upd (upd w.2.2.2.1 7 (a1 ||| (-2147483648 : Int32))) 8 (0 : Int32)) 9 (0 : Int32)) 10 (0 : Int32)) 11 (w.2.2.2.1 11)))) hx hb hK hP hD hS 3 0 rfl rfl (vi_k (by decide)) rfl rfl dX4_read_162 (fun H locs hP hD hS => ?_)
      exact W.vret hx hb hr (wr_end rfl (congrArg (wM k z) ((show fX4_read w a1 = (ms3 (ms3 (ms3 (ms3 (ms3 w (upd w.2.2.2.1 7 (a1 ||| (-2147483648 : Int32)))) (upd (upd w.2.2.2.1 7 (a1 ||| (-2147483648 : Int32))) 8 (0 : Int32))) (upd (upd (upd w.2.2.2.1 7 (a1 ||| (-2147483648 : Int32))) 8 (0 : Int32)) 9 (0 : Int32))) (upd (upd (upd (upd w.2.2.2.1 7 (a1 ||| (-2147483648 : Int32))) 8 (0 : Int32)) 9 (0 : Int32)) 10 (0 : Int32))) (upd (upd (upd (upd (upd w.2.2.2.1 7 (a1 ||| (-2147483648 : Int32))) 8 (0 : Int32)) 9 (0 : Int32)) 10 (0 : Int32)) 11 (w.2.2.2.1 11))) from (if_pos c_6).trans ((if_pos c_28).trans rfl)).symm.trans ho)) hP hS) hS.2.2 dX4_read_163
    · refine lv_iload_n hx hb dX4_read_31 rfl (lv_at hl 2 rfl) ?_
      refine lv_goto (tgt := 39) hx hb dX4_read_32 (by decide) ?_
      refine q_iast (j := 7) (ws' := wM k z (ms3 w (upd w.2.2.2.1 7 a1))) hx hb hK hP hD hS 3 0 rfl rfl (vi_k (by decide)) rfl rfl dX4_read_39 (fun H locs hP hD hS => ?_)
      refine lv_aload_n hx hb dX4_read_40 rfl (lv_at hl 1 rfl) ?_
      refine va_get (D := D) (ci := 3) (v := .ref (z 3)) (C := RX4) (T := TX4) (N := 20) hx hb hts (by decide +kernel) hown hK hP 0 rfl rfl 3 (by decide) (hts (.fieldLink RX4 16 "TrapMachineModel" "control" "[I") (by decide +kernel)) (fun _ h9 => h9) rfl dX4_read_41 ?_
      refine lv_bipush (v := (8 : Int32)) hx hb dX4_read_44 (by decide) ?_
      refine lv_aload_n hx hb dX4_read_46 rfl (lv_at hl 1 rfl) ?_
      refine va_get (D := D) (ci := 3) (v := .ref (z 5)) (C := RX4) (T := TX4) (N := 20) hx hb hts (by decide +kernel) hown hK hP 0 rfl rfl 5 (by decide) (hts (.fieldLink RX4 25 "TrapMachineModel" "there" "[Z") (by decide +kernel)) (fun _ h9 => h9) rfl dX4_read_47 ?_
      refine lv_iload_n hx hb dX4_read_50 rfl (lv_at hl 2 rfl) ?_
      refine q_zald (j := (ix a1)) (x9 := (w.2.2.2.2.1 (ix a1))) hx hb hK hP 5 2 rfl rfl h1 rfl rfl dX4_read_51 ?_
      refine lv_if_eq (tgt := 67) hx hb dX4_read_52 (by decide) (fun c9 => absurd c9 c_28) (fun _ => ?_)
      refine lv_aload_n hx hb dX4_read_55 rfl (lv_at hl 1 rfl) ?_
      refine va_get (D := D) (ci := 3) (v := .ref (z 7)) (C := RX4) (T := TX4) (N := 20) hx hb hts (by decide +kernel) hown hK hP 0 rfl rfl 7 (by decide) (hts (.fieldLink RX4 32 "TrapMachineModel" "pair" "[I") (by decide +kernel)) (fun _ h9 => h9) rfl dX4_read_56 ?_
      refine lv_iload_n hx hb dX4_read_59 rfl (lv_at hl 2 rfl) ?_
      refine q_iald (j := (ix a1)) (x9 := (w.2.2.2.2.2.2.1 (ix a1))) hx hb hK hP 7 0 rfl rfl h1 rfl rfl dX4_read_60 ?_
      refine lv_bipush (v := (7 : Int32)) hx hb dX4_read_61 (by decide) ?_
      refine lv_ishl hx hb dX4_read_63 ?_
      refine lv_goto (tgt := 68) hx hb dX4_read_64 (by decide) ?_
      refine q_iast (j := 8) (ws' := wM k z (ms3 (ms3 w (upd w.2.2.2.1 7 a1)) (upd (upd w.2.2.2.1 7 a1) 8 ((w.2.2.2.2.2.2.1 (ix a1)) <<< ((7 : Int32) &&& 31))))) hx hb hK hP hD hS 3 0 rfl rfl (vi_k (by decide)) rfl rfl dX4_read_68 (fun H locs hP hD hS => ?_)
      refine lv_aload_n hx hb dX4_read_69 rfl (lv_at hl 1 rfl) ?_
      refine va_get (D := D) (ci := 3) (v := .ref (z 3)) (C := RX4) (T := TX4) (N := 20) hx hb hts (by decide +kernel) hown hK hP 0 rfl rfl 3 (by decide) (hts (.fieldLink RX4 16 "TrapMachineModel" "control" "[I") (by decide +kernel)) (fun _ h9 => h9) rfl dX4_read_70 ?_
      refine lv_bipush (v := (9 : Int32)) hx hb dX4_read_73 (by decide) ?_
      refine lv_aload_n hx hb dX4_read_75 rfl (lv_at hl 1 rfl) ?_
      refine va_get (D := D) (ci := 3) (v := .ref (z 5)) (C := RX4) (T := TX4) (N := 20) hx hb hts (by decide +kernel) hown hK hP 0 rfl rfl 5 (by decide) (hts (.fieldLink RX4 25 "TrapMachineModel" "there" "[Z") (by decide +kernel)) (fun _ h9 => h9) rfl dX4_read_76 ?_
      refine lv_iload_n hx hb dX4_read_79 rfl (lv_at hl 2 rfl) ?_
      refine q_zald (j := (ix a1)) (x9 := (w.2.2.2.2.1 (ix a1))) hx hb hK hP 5 2 rfl rfl h1 rfl rfl dX4_read_80 ?_
      refine lv_if_eq (tgt := 97) hx hb dX4_read_81 (by decide) (fun c9 => absurd c9 c_28) (fun _ => ?_)
      refine lv_aload_n hx hb dX4_read_84 rfl (lv_at hl 1 rfl) ?_
      refine va_get (D := D) (ci := 3) (v := .ref (z 9)) (C := RX4) (T := TX4) (N := 20) hx hb hts (by decide +kernel) hown hK hP 0 rfl rfl 9 (by decide) (hts (.fieldLink RX4 38 "TrapMachineModel" "half" "[I") (by decide +kernel)) (fun _ h9 => h9) rfl dX4_read_85 ?_
      refine lv_iconst (v := (2 : Int32)) hx hb dX4_read_88 (by decide) ?_
      refine lv_iload_n hx hb dX4_read_89 rfl (lv_at hl 2 rfl) ?_
      refine lv_imul hx hb dX4_read_90 ?_
      refine q_iald (j := (ix ((2 : Int32) * a1))) (x9 := (w.2.2.2.2.2.2.2.2.1 (ix ((2 : Int32) * a1)))) hx hb hK hP 9 0 rfl rfl (dbl_in h1) rfl rfl dX4_read_91 ?_
      refine lv_iload_n hx hb dX4_read_92 rfl (lv_at hl 0 rfl) ?_
      refine lv_iadd hx hb dX4_read_93 ?_
      refine lv_goto (tgt := 98) hx hb dX4_read_94 (by decide) ?_
      refine q_iast (j := 9) (ws' := wM k z (ms3 (ms3 (ms3 w (upd w.2.2.2.1 7 a1)) (upd (upd w.2.2.2.1 7 a1) 8 ((w.2.2.2.2.2.2.1 (ix a1)) <<< ((7 : Int32) &&& 31)))) (upd (upd (upd w.2.2.2.1 7 a1) 8 ((w.2.2.2.2.2.2.1 (ix a1)) <<< ((7 : Int32) &&& 31))) 9 ((w.2.2.2.2.2.2.2.2.1 (ix ((2 : Int32) * a1))) + (0 : Int32))))) hx hb hK hP hD hS 3 0 rfl rfl (vi_k (by decide)) rfl rfl dX4_read_98 (fun H locs hP hD hS => ?_)
      refine lv_aload_n hx hb dX4_read_99 rfl (lv_at hl 1 rfl) ?_
      refine va_get (D := D) (ci := 3) (v := .ref (z 3)) (C := RX4) (T := TX4) (N := 20) hx hb hts (by decide +kernel) hown hK hP 0 rfl rfl 3 (by decide) (hts (.fieldLink RX4 16 "TrapMachineModel" "control" "[I") (by decide +kernel)) (fun _ h9 => h9) rfl dX4_read_100 ?_
      refine lv_bipush (v := (10 : Int32)) hx hb dX4_read_103 (by decide) ?_
      refine lv_aload_n hx hb dX4_read_105 rfl (lv_at hl 1 rfl) ?_
      refine va_get (D := D) (ci := 3) (v := .ref (z 5)) (C := RX4) (T := TX4) (N := 20) hx hb hts (by decide +kernel) hown hK hP 0 rfl rfl 5 (by decide) (hts (.fieldLink RX4 25 "TrapMachineModel" "there" "[Z") (by decide +kernel)) (fun _ h9 => h9) rfl dX4_read_106 ?_
      refine lv_iload_n hx hb dX4_read_109 rfl (lv_at hl 2 rfl) ?_
      refine q_zald (j := (ix a1)) (x9 := (w.2.2.2.2.1 (ix a1))) hx hb hK hP 5 2 rfl rfl h1 rfl rfl dX4_read_110 ?_
      refine lv_if_eq (tgt := 129) hx hb dX4_read_111 (by decide) (fun c9 => absurd c9 c_28) (fun _ => ?_)
      refine lv_aload_n hx hb dX4_read_114 rfl (lv_at hl 1 rfl) ?_
      refine va_get (D := D) (ci := 3) (v := .ref (z 9)) (C := RX4) (T := TX4) (N := 20) hx hb hts (by decide +kernel) hown hK hP 0 rfl rfl 9 (by decide) (hts (.fieldLink RX4 38 "TrapMachineModel" "half" "[I") (by decide +kernel)) (fun _ h9 => h9) rfl dX4_read_115 ?_
      refine lv_iconst (v := (2 : Int32)) hx hb dX4_read_118 (by decide) ?_
      refine lv_iload_n hx hb dX4_read_119 rfl (lv_at hl 2 rfl) ?_
      refine lv_imul hx hb dX4_read_120 ?_
      refine lv_iconst (v := (1 : Int32)) hx hb dX4_read_121 (by decide) ?_
      refine lv_iadd hx hb dX4_read_122 ?_
      refine q_iald (j := (ix (((2 : Int32) * a1) + (1 : Int32)))) (x9 := (w.2.2.2.2.2.2.2.2.1 (ix (((2 : Int32) * a1) + (1 : Int32))))) hx hb hK hP 9 0 rfl rfl (dbl1_in h1) rfl rfl dX4_read_123 ?_
      refine lv_iload_n hx hb dX4_read_124 rfl (lv_at hl 0 rfl) ?_
      refine lv_iadd hx hb dX4_read_125 ?_
      refine lv_goto (tgt := 130) hx hb dX4_read_126 (by decide) ?_
      refine q_iast (j := 10) (ws' := wM k z (ms3 (ms3 (ms3 (ms3 w (upd w.2.2.2.1 7 a1)) (upd (upd w.2.2.2.1 7 a1) 8 ((w.2.2.2.2.2.2.1 (ix a1)) <<< ((7 : Int32) &&& 31)))) (upd (upd (upd w.2.2.2.1 7 a1) 8 ((w.2.2.2.2.2.2.1 (ix a1)) <<< ((7 : Int32) &&& 31))) 9 ((w.2.2.2.2.2.2.2.2.1 (ix ((2 : Int32) * a1))) + (0 : Int32)))) (upd (upd (upd (upd w.2.2.2.1 7 a1) 8 ((w.2.2.2.2.2.2.1 (ix a1)) <<< ((7 : Int32) &&& 31))) 9 ((w.2.2.2.2.2.2.2.2.1 (ix ((2 : Int32) * a1))) + (0 : Int32))) 10 ((w.2.2.2.2.2.2.2.2.1 (ix (((2 : Int32) * a1) + (1 : Int32)))) + (0 : Int32))))) hx hb hK hP hD hS 3 0 rfl rfl (vi_k (by decide)) rfl rfl dX4_read_130 (fun H locs hP hD hS => ?_)
      refine lv_aload_n hx hb dX4_read_131 rfl (lv_at hl 1 rfl) ?_
      refine va_get (D := D) (ci := 3) (v := .ref (z 3)) (C := RX4) (T := TX4) (N := 20) hx hb hts (by decide +kernel) hown hK hP 0 rfl rfl 3 (by decide) (hts (.fieldLink RX4 16 "TrapMachineModel" "control" "[I") (by decide +kernel)) (fun _ h9 => h9) rfl dX4_read_132 ?_
      refine lv_bipush (v := (11 : Int32)) hx hb dX4_read_135 (by decide) ?_
      refine lv_aload_n hx hb dX4_read_137 rfl (lv_at hl 1 rfl) ?_
      refine va_get (D := D) (ci := 3) (v := .ref (z 5)) (C := RX4) (T := TX4) (N := 20) hx hb hts (by decide +kernel) hown hK hP 0 rfl rfl 5 (by decide) (hts (.fieldLink RX4 25 "TrapMachineModel" "there" "[Z") (by decide +kernel)) (fun _ h9 => h9) rfl dX4_read_138 ?_
      refine lv_iload_n hx hb dX4_read_141 rfl (lv_at hl 2 rfl) ?_
      refine q_zald (j := (ix a1)) (x9 := (w.2.2.2.2.1 (ix a1))) hx hb hK hP 5 2 rfl rfl h1 rfl rfl dX4_read_142 ?_
      refine lv_if_eq (tgt := 155) hx hb dX4_read_143 (by decide) (fun c9 => absurd c9 c_28) (fun _ => ?_)
      refine lv_aload_n hx hb dX4_read_146 rfl (lv_at hl 1 rfl) ?_
      refine va_get (D := D) (ci := 3) (v := .ref (z 8)) (C := RX4) (T := TX4) (N := 20) hx hb hts (by decide +kernel) hown hK hP 0 rfl rfl 8 (by decide) (hts (.fieldLink RX4 35 "TrapMachineModel" "space" "[I") (by decide +kernel)) (fun _ h9 => h9) rfl dX4_read_147 ?_
      refine lv_iload_n hx hb dX4_read_150 rfl (lv_at hl 2 rfl) ?_
      refine q_iald (j := (ix a1)) (x9 := (w.2.2.2.2.2.2.2.1 (ix a1))) hx hb hK hP 8 0 rfl rfl h1 rfl rfl dX4_read_151 ?_
      refine lv_goto (tgt := 162) hx hb dX4_read_152 (by decide) ?_
      refine q_iast (j := 11) (ws' := wM k z (ms3 (ms3 (ms3 (ms3 (ms3 w (upd w.2.2.2.1 7 a1)) (upd (upd w.2.2.2.1 7 a1) 8 ((w.2.2.2.2.2.2.1 (ix a1)) <<< ((7 : Int32) &&& 31)))) (upd (upd (upd w.2.2.2.1 7 a1) 8 ((w.2.2.2.2.2.2.1 (ix a1)) <<< ((7 : Int32) &&& 31))) 9 ((w.2.2.2.2.2.2.2.2.1 (ix ((2 : Int32) * a1))) + (0 : Int32)))) (upd (upd (upd (upd w.2.2.2.1 7 a1) 8 ((w.2.2.2.2.2.2.1 (ix a1)) <<< ((7 : Int32) &&& 31))) 9 ((w.2.2.2.2.2.2.2.2.1 (ix ((2 : Int32) * a1))) + (0 : Int32))) 10 ((w.2.2.2.2.2.2.2.2.1 (ix (((2 : Int32) * a1) + (1 : Int32)))) + (0 : Int32)))) (upd (upd (upd (upd (upd w.2.2.2.1 7 a1) 8 ((w.2.2.2.2.2.2.1 (ix a1)) <<< ((7 : Int32) &&& 31))) 9 ((w.2.2.2.2.2.2.2.2.1 (ix ((2 : Int32) * a1))) + (0 : Int32))) 10 ((w.2.2.2.2.2.2.2.2.1 (ix (((2 : Int32) * a1) + (1 : Int32)))) + (0 : Int32))) 11 (w.2.2.2.2.2.2.2.1 (ix a1))))) hx hb hK hP hD hS 3 0 rfl rfl (vi_k (by decide)) rfl rfl dX4_read_162 (fun H locs hP hD hS => ?_)
      exact W.vret hx hb hr (wr_end rfl (congrArg (wM k z) ((show fX4_read w a1 = (ms3 (ms3 (ms3 (ms3 (ms3 w (upd w.2.2.2.1 7 a1)) (upd (upd w.2.2.2.1 7 a1) 8 ((w.2.2.2.2.2.2.1 (ix a1)) <<< ((7 : Int32) &&& 31)))) (upd (upd (upd w.2.2.2.1 7 a1) 8 ((w.2.2.2.2.2.2.1 (ix a1)) <<< ((7 : Int32) &&& 31))) 9 ((w.2.2.2.2.2.2.2.2.1 (ix ((2 : Int32) * a1))) + (0 : Int32)))) (upd (upd (upd (upd w.2.2.2.1 7 a1) 8 ((w.2.2.2.2.2.2.1 (ix a1)) <<< ((7 : Int32) &&& 31))) 9 ((w.2.2.2.2.2.2.2.2.1 (ix ((2 : Int32) * a1))) + (0 : Int32))) 10 ((w.2.2.2.2.2.2.2.2.1 (ix (((2 : Int32) * a1) + (1 : Int32)))) + (0 : Int32)))) (upd (upd (upd (upd (upd w.2.2.2.1 7 a1) 8 ((w.2.2.2.2.2.2.1 (ix a1)) <<< ((7 : Int32) &&& 31))) 9 ((w.2.2.2.2.2.2.2.2.1 (ix ((2 : Int32) * a1))) + (0 : Int32))) 10 ((w.2.2.2.2.2.2.2.2.1 (ix (((2 : Int32) * a1) + (1 : Int32)))) + (0 : Int32))) 11 (w.2.2.2.2.2.2.2.1 (ix a1)))) from (if_pos c_6).trans ((if_neg c_28).trans rfl)).symm.trans ho)) hP hS) hS.2.2 dX4_read_163
  · refine lv_bipush (v := (16 : Int32)) hx hb dX4_read_9 (by decide) ?_
    refine lv_goto (tgt := 15) hx hb dX4_read_11 (by decide) ?_
    refine lv_istore_n (lv' := [(2, .int (16 : Int32)), (0, .ref (z 0)), (1, .int a1)]) hx hb dX4_read_15 rfl hl (by decide) rfl (fun ls hl => ?_)
    refine lv_aload_n hx hb dX4_read_16 rfl (lv_at hl 1 rfl) ?_
    refine va_get (D := D) (ci := 3) (v := .ref (z 3)) (C := RX4) (T := TX4) (N := 20) hx hb hts (by decide +kernel) hown hK hP 0 rfl rfl 3 (by decide) (hts (.fieldLink RX4 16 "TrapMachineModel" "control" "[I") (by decide +kernel)) (fun _ h9 => h9) rfl dX4_read_17 ?_
    refine lv_bipush (v := (7 : Int32)) hx hb dX4_read_20 (by decide) ?_
    refine lv_aload_n hx hb dX4_read_22 rfl (lv_at hl 1 rfl) ?_
    refine va_get (D := D) (ci := 3) (v := .ref (z 5)) (C := RX4) (T := TX4) (N := 20) hx hb hts (by decide +kernel) hown hK hP 0 rfl rfl 5 (by decide) (hts (.fieldLink RX4 25 "TrapMachineModel" "there" "[Z") (by decide +kernel)) (fun _ h9 => h9) rfl dX4_read_23 ?_
    refine lv_iload_n hx hb dX4_read_26 rfl (lv_at hl 2 rfl) ?_
    refine q_zald (j := (ix a1)) (x9 := (w.2.2.2.2.1 (ix a1))) hx hb hK hP 5 2 rfl rfl h1 rfl rfl dX4_read_27 ?_
    refine lv_if_eq (tgt := 35) hx hb dX4_read_28 (by decide) (fun c_28 => ?_) (fun c_28 => ?_)
    · refine lv_iload_n hx hb dX4_read_35 rfl (lv_at hl 2 rfl) ?_
      refine lv_ldc (v := (-2147483648 : Int32)) hx hb hown (hts (.constant RX4 83 (-2147483648)) (by decide +kernel)) dX4_read_36 ?_
      refine lv_ior hx hb dX4_read_38 ?_
      refine q_iast (j := 7) (ws' := wM k z (ms3 w (upd w.2.2.2.1 7 (a1 ||| (-2147483648 : Int32))))) hx hb hK hP hD hS 3 0 rfl rfl (vi_k (by decide)) rfl rfl dX4_read_39 (fun H locs hP hD hS => ?_)
      refine lv_aload_n hx hb dX4_read_40 rfl (lv_at hl 1 rfl) ?_
      refine va_get (D := D) (ci := 3) (v := .ref (z 3)) (C := RX4) (T := TX4) (N := 20) hx hb hts (by decide +kernel) hown hK hP 0 rfl rfl 3 (by decide) (hts (.fieldLink RX4 16 "TrapMachineModel" "control" "[I") (by decide +kernel)) (fun _ h9 => h9) rfl dX4_read_41 ?_
      refine lv_bipush (v := (8 : Int32)) hx hb dX4_read_44 (by decide) ?_
      refine lv_aload_n hx hb dX4_read_46 rfl (lv_at hl 1 rfl) ?_
      refine va_get (D := D) (ci := 3) (v := .ref (z 5)) (C := RX4) (T := TX4) (N := 20) hx hb hts (by decide +kernel) hown hK hP 0 rfl rfl 5 (by decide) (hts (.fieldLink RX4 25 "TrapMachineModel" "there" "[Z") (by decide +kernel)) (fun _ h9 => h9) rfl dX4_read_47 ?_
      refine lv_iload_n hx hb dX4_read_50 rfl (lv_at hl 2 rfl) ?_
      refine q_zald (j := (ix a1)) (x9 := (w.2.2.2.2.1 (ix a1))) hx hb hK hP 5 2 rfl rfl h1 rfl rfl dX4_read_51 ?_
      refine lv_if_eq (tgt := 67) hx hb dX4_read_52 (by decide) (fun _ => ?_) (fun c9 => absurd c_28 c9)
      refine lv_iconst (v := (0 : Int32)) hx hb dX4_read_67 (by decide) ?_
      refine q_iast (j := 8) (ws' := wM k z (ms3 (ms3 w (upd w.2.2.2.1 7 (a1 ||| (-2147483648 : Int32)))) (upd (upd w.2.2.2.1 7 (a1 ||| (-2147483648 : Int32))) 8 (0 : Int32)))) hx hb hK hP hD hS 3 0 rfl rfl (vi_k (by decide)) rfl rfl dX4_read_68 (fun H locs hP hD hS => ?_)
      refine lv_aload_n hx hb dX4_read_69 rfl (lv_at hl 1 rfl) ?_
      refine va_get (D := D) (ci := 3) (v := .ref (z 3)) (C := RX4) (T := TX4) (N := 20) hx hb hts (by decide +kernel) hown hK hP 0 rfl rfl 3 (by decide) (hts (.fieldLink RX4 16 "TrapMachineModel" "control" "[I") (by decide +kernel)) (fun _ h9 => h9) rfl dX4_read_70 ?_
      refine lv_bipush (v := (9 : Int32)) hx hb dX4_read_73 (by decide) ?_
      refine lv_aload_n hx hb dX4_read_75 rfl (lv_at hl 1 rfl) ?_
      refine va_get (D := D) (ci := 3) (v := .ref (z 5)) (C := RX4) (T := TX4) (N := 20) hx hb hts (by decide +kernel) hown hK hP 0 rfl rfl 5 (by decide) (hts (.fieldLink RX4 25 "TrapMachineModel" "there" "[Z") (by decide +kernel)) (fun _ h9 => h9) rfl dX4_read_76 ?_
      refine lv_iload_n hx hb dX4_read_79 rfl (lv_at hl 2 rfl) ?_
      refine q_zald (j := (ix a1)) (x9 := (w.2.2.2.2.1 (ix a1))) hx hb hK hP 5 2 rfl rfl h1 rfl rfl dX4_read_80 ?_
      refine lv_if_eq (tgt := 97) hx hb dX4_read_81 (by decide) (fun _ => ?_) (fun c9 => absurd c_28 c9)
      refine lv_iconst (v := (0 : Int32)) hx hb dX4_read_97 (by decide) ?_
      refine q_iast (j := 9) (ws' := wM k z (ms3 (ms3 (ms3 w (upd w.2.2.2.1 7 (a1 ||| (-2147483648 : Int32)))) (upd (upd w.2.2.2.1 7 (a1 ||| (-2147483648 : Int32))) 8 (0 : Int32))) (upd (upd (upd w.2.2.2.1 7 (a1 ||| (-2147483648 : Int32))) 8 (0 : Int32)) 9 (0 : Int32)))) hx hb hK hP hD hS 3 0 rfl rfl (vi_k (by decide)) rfl rfl dX4_read_98 (fun H locs hP hD hS => ?_)
      refine lv_aload_n hx hb dX4_read_99 rfl (lv_at hl 1 rfl) ?_
      refine va_get (D := D) (ci := 3) (v := .ref (z 3)) (C := RX4) (T := TX4) (N := 20) hx hb hts (by decide +kernel) hown hK hP 0 rfl rfl 3 (by decide) (hts (.fieldLink RX4 16 "TrapMachineModel" "control" "[I") (by decide +kernel)) (fun _ h9 => h9) rfl dX4_read_100 ?_
      refine lv_bipush (v := (10 : Int32)) hx hb dX4_read_103 (by decide) ?_
      refine lv_aload_n hx hb dX4_read_105 rfl (lv_at hl 1 rfl) ?_
      refine va_get (D := D) (ci := 3) (v := .ref (z 5)) (C := RX4) (T := TX4) (N := 20) hx hb hts (by decide +kernel) hown hK hP 0 rfl rfl 5 (by decide) (hts (.fieldLink RX4 25 "TrapMachineModel" "there" "[Z") (by decide +kernel)) (fun _ h9 => h9) rfl dX4_read_106 ?_
      refine lv_iload_n hx hb dX4_read_109 rfl (lv_at hl 2 rfl) ?_
      refine q_zald (j := (ix a1)) (x9 := (w.2.2.2.2.1 (ix a1))) hx hb hK hP 5 2 rfl rfl h1 rfl rfl dX4_read_110 ?_
      refine lv_if_eq (tgt := 129) hx hb dX4_read_111 (by decide) (fun _ => ?_) (fun c9 => absurd c_28 c9)
      refine lv_iconst (v := (0 : Int32)) hx hb dX4_read_129 (by decide) ?_
      refine q_iast (j := 10) (ws' := wM k z (ms3 (ms3 (ms3 (ms3 w (upd w.2.2.2.1 7 (a1 ||| (-2147483648 : Int32)))) (upd (upd w.2.2.2.1 7 (a1 ||| (-2147483648 : Int32))) 8 (0 : Int32))) (upd (upd (upd w.2.2.2.1 7 (a1 ||| (-2147483648 : Int32))) 8 (0 : Int32)) 9 (0 : Int32))) (upd (upd (upd (upd w.2.2.2.1 7 (a1 ||| (-2147483648 : Int32))) 8 (0 : Int32)) 9 (0 : Int32)) 10 (0 : Int32)))) hx hb hK hP hD hS 3 0 rfl rfl (vi_k (by decide)) rfl rfl dX4_read_130 (fun H locs hP hD hS => ?_)
      refine lv_aload_n hx hb dX4_read_131 rfl (lv_at hl 1 rfl) ?_
      refine va_get (D := D) (ci := 3) (v := .ref (z 3)) (C := RX4) (T := TX4) (N := 20) hx hb hts (by decide +kernel) hown hK hP 0 rfl rfl 3 (by decide) (hts (.fieldLink RX4 16 "TrapMachineModel" "control" "[I") (by decide +kernel)) (fun _ h9 => h9) rfl dX4_read_132 ?_
      refine lv_bipush (v := (11 : Int32)) hx hb dX4_read_135 (by decide) ?_
      refine lv_aload_n hx hb dX4_read_137 rfl (lv_at hl 1 rfl) ?_
      refine va_get (D := D) (ci := 3) (v := .ref (z 5)) (C := RX4) (T := TX4) (N := 20) hx hb hts (by decide +kernel) hown hK hP 0 rfl rfl 5 (by decide) (hts (.fieldLink RX4 25 "TrapMachineModel" "there" "[Z") (by decide +kernel)) (fun _ h9 => h9) rfl dX4_read_138 ?_
      refine lv_iload_n hx hb dX4_read_141 rfl (lv_at hl 2 rfl) ?_
      refine q_zald (j := (ix a1)) (x9 := (w.2.2.2.2.1 (ix a1))) hx hb hK hP 5 2 rfl rfl h1 rfl rfl dX4_read_142 ?_
      refine lv_if_eq (tgt := 155) hx hb dX4_read_143 (by decide) (fun _ => ?_) (fun c9 => absurd c_28 c9)
      refine lv_aload_n hx hb dX4_read_155 rfl (lv_at hl 1 rfl) ?_
      refine va_get (D := D) (ci := 3) (v := .ref (z 3)) (C := RX4) (T := TX4) (N := 20) hx hb hts (by decide +kernel) hown hK hP 0 rfl rfl 3 (by decide) (hts (.fieldLink RX4 16 "TrapMachineModel" "control" "[I") (by decide +kernel)) (fun _ h9 => h9) rfl dX4_read_156 ?_
      refine lv_bipush (v := (11 : Int32)) hx hb dX4_read_159 (by decide) ?_
      refine q_iald (j := 11) (x9 := (w.2.2.2.1 11)) hx hb hK hP 3 0 rfl rfl (vi_k (by decide)) rfl rfl dX4_read_161 ?_
      refine q_iast (j := 11) (ws' := wM k z (ms3 (ms3 (ms3 (ms3 (ms3 w (upd w.2.2.2.1 7 (a1 ||| (-2147483648 : Int32)))) (upd (upd w.2.2.2.1 7 (a1 ||| (-2147483648 : Int32))) 8 (0 : Int32))) (upd (upd (upd w.2.2.2.1 7 (a1 ||| (-2147483648 : Int32))) 8 (0 : Int32)) 9 (0 : Int32))) (upd (upd (upd (upd w.2.2.2.1 7 (a1 ||| (-2147483648 : Int32))) 8 (0 : Int32)) 9 (0 : Int32)) 10 (0 : Int32))) (upd (upd (upd (upd (upd w.2.2.2.1 7 (a1 ||| (-2147483648 : Int32))) 8 (0 : Int32)) 9 (0 : Int32)) 10 (0 : Int32)) 11 (w.2.2.2.1 11)))) hx hb hK hP hD hS 3 0 rfl rfl (vi_k (by decide)) rfl rfl dX4_read_162 (fun H locs hP hD hS => ?_)
      exact W.vret hx hb hr (wr_end rfl (congrArg (wM k z) ((show fX4_read w a1 = (ms3 (ms3 (ms3 (ms3 (ms3 w (upd w.2.2.2.1 7 (a1 ||| (-2147483648 : Int32)))) (upd (upd w.2.2.2.1 7 (a1 ||| (-2147483648 : Int32))) 8 (0 : Int32))) (upd (upd (upd w.2.2.2.1 7 (a1 ||| (-2147483648 : Int32))) 8 (0 : Int32)) 9 (0 : Int32))) (upd (upd (upd (upd w.2.2.2.1 7 (a1 ||| (-2147483648 : Int32))) 8 (0 : Int32)) 9 (0 : Int32)) 10 (0 : Int32))) (upd (upd (upd (upd (upd w.2.2.2.1 7 (a1 ||| (-2147483648 : Int32))) 8 (0 : Int32)) 9 (0 : Int32)) 10 (0 : Int32)) 11 (w.2.2.2.1 11))) from (if_neg c_6).trans ((if_pos c_28).trans rfl)).symm.trans ho)) hP hS) hS.2.2 dX4_read_163
    · refine lv_iload_n hx hb dX4_read_31 rfl (lv_at hl 2 rfl) ?_
      refine lv_goto (tgt := 39) hx hb dX4_read_32 (by decide) ?_
      refine q_iast (j := 7) (ws' := wM k z (ms3 w (upd w.2.2.2.1 7 a1))) hx hb hK hP hD hS 3 0 rfl rfl (vi_k (by decide)) rfl rfl dX4_read_39 (fun H locs hP hD hS => ?_)
      refine lv_aload_n hx hb dX4_read_40 rfl (lv_at hl 1 rfl) ?_
      refine va_get (D := D) (ci := 3) (v := .ref (z 3)) (C := RX4) (T := TX4) (N := 20) hx hb hts (by decide +kernel) hown hK hP 0 rfl rfl 3 (by decide) (hts (.fieldLink RX4 16 "TrapMachineModel" "control" "[I") (by decide +kernel)) (fun _ h9 => h9) rfl dX4_read_41 ?_
      refine lv_bipush (v := (8 : Int32)) hx hb dX4_read_44 (by decide) ?_
      refine lv_aload_n hx hb dX4_read_46 rfl (lv_at hl 1 rfl) ?_
      refine va_get (D := D) (ci := 3) (v := .ref (z 5)) (C := RX4) (T := TX4) (N := 20) hx hb hts (by decide +kernel) hown hK hP 0 rfl rfl 5 (by decide) (hts (.fieldLink RX4 25 "TrapMachineModel" "there" "[Z") (by decide +kernel)) (fun _ h9 => h9) rfl dX4_read_47 ?_
      refine lv_iload_n hx hb dX4_read_50 rfl (lv_at hl 2 rfl) ?_
      refine q_zald (j := (ix a1)) (x9 := (w.2.2.2.2.1 (ix a1))) hx hb hK hP 5 2 rfl rfl h1 rfl rfl dX4_read_51 ?_
      refine lv_if_eq (tgt := 67) hx hb dX4_read_52 (by decide) (fun c9 => absurd c9 c_28) (fun _ => ?_)
      refine lv_aload_n hx hb dX4_read_55 rfl (lv_at hl 1 rfl) ?_
      refine va_get (D := D) (ci := 3) (v := .ref (z 7)) (C := RX4) (T := TX4) (N := 20) hx hb hts (by decide +kernel) hown hK hP 0 rfl rfl 7 (by decide) (hts (.fieldLink RX4 32 "TrapMachineModel" "pair" "[I") (by decide +kernel)) (fun _ h9 => h9) rfl dX4_read_56 ?_
      refine lv_iload_n hx hb dX4_read_59 rfl (lv_at hl 2 rfl) ?_
      refine q_iald (j := (ix a1)) (x9 := (w.2.2.2.2.2.2.1 (ix a1))) hx hb hK hP 7 0 rfl rfl h1 rfl rfl dX4_read_60 ?_
      refine lv_bipush (v := (7 : Int32)) hx hb dX4_read_61 (by decide) ?_
      refine lv_ishl hx hb dX4_read_63 ?_
      refine lv_goto (tgt := 68) hx hb dX4_read_64 (by decide) ?_
      refine q_iast (j := 8) (ws' := wM k z (ms3 (ms3 w (upd w.2.2.2.1 7 a1)) (upd (upd w.2.2.2.1 7 a1) 8 ((w.2.2.2.2.2.2.1 (ix a1)) <<< ((7 : Int32) &&& 31))))) hx hb hK hP hD hS 3 0 rfl rfl (vi_k (by decide)) rfl rfl dX4_read_68 (fun H locs hP hD hS => ?_)
      refine lv_aload_n hx hb dX4_read_69 rfl (lv_at hl 1 rfl) ?_
      refine va_get (D := D) (ci := 3) (v := .ref (z 3)) (C := RX4) (T := TX4) (N := 20) hx hb hts (by decide +kernel) hown hK hP 0 rfl rfl 3 (by decide) (hts (.fieldLink RX4 16 "TrapMachineModel" "control" "[I") (by decide +kernel)) (fun _ h9 => h9) rfl dX4_read_70 ?_
      refine lv_bipush (v := (9 : Int32)) hx hb dX4_read_73 (by decide) ?_
      refine lv_aload_n hx hb dX4_read_75 rfl (lv_at hl 1 rfl) ?_
      refine va_get (D := D) (ci := 3) (v := .ref (z 5)) (C := RX4) (T := TX4) (N := 20) hx hb hts (by decide +kernel) hown hK hP 0 rfl rfl 5 (by decide) (hts (.fieldLink RX4 25 "TrapMachineModel" "there" "[Z") (by decide +kernel)) (fun _ h9 => h9) rfl dX4_read_76 ?_
      refine lv_iload_n hx hb dX4_read_79 rfl (lv_at hl 2 rfl) ?_
      refine q_zald (j := (ix a1)) (x9 := (w.2.2.2.2.1 (ix a1))) hx hb hK hP 5 2 rfl rfl h1 rfl rfl dX4_read_80 ?_
      refine lv_if_eq (tgt := 97) hx hb dX4_read_81 (by decide) (fun c9 => absurd c9 c_28) (fun _ => ?_)
      refine lv_aload_n hx hb dX4_read_84 rfl (lv_at hl 1 rfl) ?_
      refine va_get (D := D) (ci := 3) (v := .ref (z 9)) (C := RX4) (T := TX4) (N := 20) hx hb hts (by decide +kernel) hown hK hP 0 rfl rfl 9 (by decide) (hts (.fieldLink RX4 38 "TrapMachineModel" "half" "[I") (by decide +kernel)) (fun _ h9 => h9) rfl dX4_read_85 ?_
      refine lv_iconst (v := (2 : Int32)) hx hb dX4_read_88 (by decide) ?_
      refine lv_iload_n hx hb dX4_read_89 rfl (lv_at hl 2 rfl) ?_
      refine lv_imul hx hb dX4_read_90 ?_
      refine q_iald (j := (ix ((2 : Int32) * a1))) (x9 := (w.2.2.2.2.2.2.2.2.1 (ix ((2 : Int32) * a1)))) hx hb hK hP 9 0 rfl rfl (dbl_in h1) rfl rfl dX4_read_91 ?_
      refine lv_iload_n hx hb dX4_read_92 rfl (lv_at hl 0 rfl) ?_
      refine lv_iadd hx hb dX4_read_93 ?_
      refine lv_goto (tgt := 98) hx hb dX4_read_94 (by decide) ?_
      refine q_iast (j := 9) (ws' := wM k z (ms3 (ms3 (ms3 w (upd w.2.2.2.1 7 a1)) (upd (upd w.2.2.2.1 7 a1) 8 ((w.2.2.2.2.2.2.1 (ix a1)) <<< ((7 : Int32) &&& 31)))) (upd (upd (upd w.2.2.2.1 7 a1) 8 ((w.2.2.2.2.2.2.1 (ix a1)) <<< ((7 : Int32) &&& 31))) 9 ((w.2.2.2.2.2.2.2.2.1 (ix ((2 : Int32) * a1))) + (16 : Int32))))) hx hb hK hP hD hS 3 0 rfl rfl (vi_k (by decide)) rfl rfl dX4_read_98 (fun H locs hP hD hS => ?_)
      refine lv_aload_n hx hb dX4_read_99 rfl (lv_at hl 1 rfl) ?_
      refine va_get (D := D) (ci := 3) (v := .ref (z 3)) (C := RX4) (T := TX4) (N := 20) hx hb hts (by decide +kernel) hown hK hP 0 rfl rfl 3 (by decide) (hts (.fieldLink RX4 16 "TrapMachineModel" "control" "[I") (by decide +kernel)) (fun _ h9 => h9) rfl dX4_read_100 ?_
      refine lv_bipush (v := (10 : Int32)) hx hb dX4_read_103 (by decide) ?_
      refine lv_aload_n hx hb dX4_read_105 rfl (lv_at hl 1 rfl) ?_
      refine va_get (D := D) (ci := 3) (v := .ref (z 5)) (C := RX4) (T := TX4) (N := 20) hx hb hts (by decide +kernel) hown hK hP 0 rfl rfl 5 (by decide) (hts (.fieldLink RX4 25 "TrapMachineModel" "there" "[Z") (by decide +kernel)) (fun _ h9 => h9) rfl dX4_read_106 ?_
      refine lv_iload_n hx hb dX4_read_109 rfl (lv_at hl 2 rfl) ?_
      refine q_zald (j := (ix a1)) (x9 := (w.2.2.2.2.1 (ix a1))) hx hb hK hP 5 2 rfl rfl h1 rfl rfl dX4_read_110 ?_
      refine lv_if_eq (tgt := 129) hx hb dX4_read_111 (by decide) (fun c9 => absurd c9 c_28) (fun _ => ?_)
      refine lv_aload_n hx hb dX4_read_114 rfl (lv_at hl 1 rfl) ?_
      refine va_get (D := D) (ci := 3) (v := .ref (z 9)) (C := RX4) (T := TX4) (N := 20) hx hb hts (by decide +kernel) hown hK hP 0 rfl rfl 9 (by decide) (hts (.fieldLink RX4 38 "TrapMachineModel" "half" "[I") (by decide +kernel)) (fun _ h9 => h9) rfl dX4_read_115 ?_
      refine lv_iconst (v := (2 : Int32)) hx hb dX4_read_118 (by decide) ?_
      refine lv_iload_n hx hb dX4_read_119 rfl (lv_at hl 2 rfl) ?_
      refine lv_imul hx hb dX4_read_120 ?_
      refine lv_iconst (v := (1 : Int32)) hx hb dX4_read_121 (by decide) ?_
      refine lv_iadd hx hb dX4_read_122 ?_
      refine q_iald (j := (ix (((2 : Int32) * a1) + (1 : Int32)))) (x9 := (w.2.2.2.2.2.2.2.2.1 (ix (((2 : Int32) * a1) + (1 : Int32))))) hx hb hK hP 9 0 rfl rfl (dbl1_in h1) rfl rfl dX4_read_123 ?_
      refine lv_iload_n hx hb dX4_read_124 rfl (lv_at hl 0 rfl) ?_
      refine lv_iadd hx hb dX4_read_125 ?_
      refine lv_goto (tgt := 130) hx hb dX4_read_126 (by decide) ?_
      refine q_iast (j := 10) (ws' := wM k z (ms3 (ms3 (ms3 (ms3 w (upd w.2.2.2.1 7 a1)) (upd (upd w.2.2.2.1 7 a1) 8 ((w.2.2.2.2.2.2.1 (ix a1)) <<< ((7 : Int32) &&& 31)))) (upd (upd (upd w.2.2.2.1 7 a1) 8 ((w.2.2.2.2.2.2.1 (ix a1)) <<< ((7 : Int32) &&& 31))) 9 ((w.2.2.2.2.2.2.2.2.1 (ix ((2 : Int32) * a1))) + (16 : Int32)))) (upd (upd (upd (upd w.2.2.2.1 7 a1) 8 ((w.2.2.2.2.2.2.1 (ix a1)) <<< ((7 : Int32) &&& 31))) 9 ((w.2.2.2.2.2.2.2.2.1 (ix ((2 : Int32) * a1))) + (16 : Int32))) 10 ((w.2.2.2.2.2.2.2.2.1 (ix (((2 : Int32) * a1) + (1 : Int32)))) + (16 : Int32))))) hx hb hK hP hD hS 3 0 rfl rfl (vi_k (by decide)) rfl rfl dX4_read_130 (fun H locs hP hD hS => ?_)
      refine lv_aload_n hx hb dX4_read_131 rfl (lv_at hl 1 rfl) ?_
      refine va_get (D := D) (ci := 3) (v := .ref (z 3)) (C := RX4) (T := TX4) (N := 20) hx hb hts (by decide +kernel) hown hK hP 0 rfl rfl 3 (by decide) (hts (.fieldLink RX4 16 "TrapMachineModel" "control" "[I") (by decide +kernel)) (fun _ h9 => h9) rfl dX4_read_132 ?_
      refine lv_bipush (v := (11 : Int32)) hx hb dX4_read_135 (by decide) ?_
      refine lv_aload_n hx hb dX4_read_137 rfl (lv_at hl 1 rfl) ?_
      refine va_get (D := D) (ci := 3) (v := .ref (z 5)) (C := RX4) (T := TX4) (N := 20) hx hb hts (by decide +kernel) hown hK hP 0 rfl rfl 5 (by decide) (hts (.fieldLink RX4 25 "TrapMachineModel" "there" "[Z") (by decide +kernel)) (fun _ h9 => h9) rfl dX4_read_138 ?_
      refine lv_iload_n hx hb dX4_read_141 rfl (lv_at hl 2 rfl) ?_
      refine q_zald (j := (ix a1)) (x9 := (w.2.2.2.2.1 (ix a1))) hx hb hK hP 5 2 rfl rfl h1 rfl rfl dX4_read_142 ?_
      refine lv_if_eq (tgt := 155) hx hb dX4_read_143 (by decide) (fun c9 => absurd c9 c_28) (fun _ => ?_)
      refine lv_aload_n hx hb dX4_read_146 rfl (lv_at hl 1 rfl) ?_
      refine va_get (D := D) (ci := 3) (v := .ref (z 8)) (C := RX4) (T := TX4) (N := 20) hx hb hts (by decide +kernel) hown hK hP 0 rfl rfl 8 (by decide) (hts (.fieldLink RX4 35 "TrapMachineModel" "space" "[I") (by decide +kernel)) (fun _ h9 => h9) rfl dX4_read_147 ?_
      refine lv_iload_n hx hb dX4_read_150 rfl (lv_at hl 2 rfl) ?_
      refine q_iald (j := (ix a1)) (x9 := (w.2.2.2.2.2.2.2.1 (ix a1))) hx hb hK hP 8 0 rfl rfl h1 rfl rfl dX4_read_151 ?_
      refine lv_goto (tgt := 162) hx hb dX4_read_152 (by decide) ?_
      refine q_iast (j := 11) (ws' := wM k z (ms3 (ms3 (ms3 (ms3 (ms3 w (upd w.2.2.2.1 7 a1)) (upd (upd w.2.2.2.1 7 a1) 8 ((w.2.2.2.2.2.2.1 (ix a1)) <<< ((7 : Int32) &&& 31)))) (upd (upd (upd w.2.2.2.1 7 a1) 8 ((w.2.2.2.2.2.2.1 (ix a1)) <<< ((7 : Int32) &&& 31))) 9 ((w.2.2.2.2.2.2.2.2.1 (ix ((2 : Int32) * a1))) + (16 : Int32)))) (upd (upd (upd (upd w.2.2.2.1 7 a1) 8 ((w.2.2.2.2.2.2.1 (ix a1)) <<< ((7 : Int32) &&& 31))) 9 ((w.2.2.2.2.2.2.2.2.1 (ix ((2 : Int32) * a1))) + (16 : Int32))) 10 ((w.2.2.2.2.2.2.2.2.1 (ix (((2 : Int32) * a1) + (1 : Int32)))) + (16 : Int32)))) (upd (upd (upd (upd (upd w.2.2.2.1 7 a1) 8 ((w.2.2.2.2.2.2.1 (ix a1)) <<< ((7 : Int32) &&& 31))) 9 ((w.2.2.2.2.2.2.2.2.1 (ix ((2 : Int32) * a1))) + (16 : Int32))) 10 ((w.2.2.2.2.2.2.2.2.1 (ix (((2 : Int32) * a1) + (1 : Int32)))) + (16 : Int32))) 11 (w.2.2.2.2.2.2.2.1 (ix a1))))) hx hb hK hP hD hS 3 0 rfl rfl (vi_k (by decide)) rfl rfl dX4_read_162 (fun H locs hP hD hS => ?_)
      exact W.vret hx hb hr (wr_end rfl (congrArg (wM k z) ((show fX4_read w a1 = (ms3 (ms3 (ms3 (ms3 (ms3 w (upd w.2.2.2.1 7 a1)) (upd (upd w.2.2.2.1 7 a1) 8 ((w.2.2.2.2.2.2.1 (ix a1)) <<< ((7 : Int32) &&& 31)))) (upd (upd (upd w.2.2.2.1 7 a1) 8 ((w.2.2.2.2.2.2.1 (ix a1)) <<< ((7 : Int32) &&& 31))) 9 ((w.2.2.2.2.2.2.2.2.1 (ix ((2 : Int32) * a1))) + (16 : Int32)))) (upd (upd (upd (upd w.2.2.2.1 7 a1) 8 ((w.2.2.2.2.2.2.1 (ix a1)) <<< ((7 : Int32) &&& 31))) 9 ((w.2.2.2.2.2.2.2.2.1 (ix ((2 : Int32) * a1))) + (16 : Int32))) 10 ((w.2.2.2.2.2.2.2.2.1 (ix (((2 : Int32) * a1) + (1 : Int32)))) + (16 : Int32)))) (upd (upd (upd (upd (upd w.2.2.2.1 7 a1) 8 ((w.2.2.2.2.2.2.1 (ix a1)) <<< ((7 : Int32) &&& 31))) 9 ((w.2.2.2.2.2.2.2.2.1 (ix ((2 : Int32) * a1))) + (16 : Int32))) 10 ((w.2.2.2.2.2.2.2.2.1 (ix (((2 : Int32) * a1) + (1 : Int32)))) + (16 : Int32))) 11 (w.2.2.2.2.2.2.2.1 (ix a1)))) from (if_neg c_6).trans ((if_neg c_28).trans rfl)).symm.trans ho)) hP hS) hS.2.2 dX4_read_163
def fX4_fill (w : MD) (a1 : Int32) : MD :=
  if ((w.2.2.2.1 9) &&& (16 : Int32)) = (0 : Int32) then
    if (0 : Int32) ≤ (w.2.2.2.1 7) then
      (ms4 (ms8 (ms8 (ms5 (ms7 (ms6 w (upd w.2.2.2.2.2.2.1 (ix a1) (fX4_pairOf (w.2.2.2.1 8)))) (upd w.2.2.2.2.2.2.2.1 (ix a1) (w.2.2.2.1 11))) (upd w.2.2.2.2.2.1 (ix a1) (0 : Int32))) (upd w.2.2.2.2.2.2.2.2.1 (ix ((2 : Int32) * a1)) ((w.2.2.2.1 9) &&& (-17 : Int32)))) (upd (upd w.2.2.2.2.2.2.2.2.1 (ix ((2 : Int32) * a1)) ((w.2.2.2.1 9) &&& (-17 : Int32))) (ix (((2 : Int32) * a1) + (1 : Int32))) ((w.2.2.2.1 10) &&& (-17 : Int32)))) (upd w.2.2.2.2.1 (ix a1) (1 : Int32)))
    else
      if (fX4_codeOf (ms8 (ms8 (ms5 (ms7 (ms6 w (upd w.2.2.2.2.2.2.1 (ix a1) (fX4_pairOf (w.2.2.2.1 8)))) (upd w.2.2.2.2.2.2.2.1 (ix a1) (w.2.2.2.1 11))) (upd w.2.2.2.2.2.1 (ix a1) (0 : Int32))) (upd w.2.2.2.2.2.2.2.2.1 (ix ((2 : Int32) * a1)) ((w.2.2.2.1 9) &&& (-17 : Int32)))) (upd (upd w.2.2.2.2.2.2.2.2.1 (ix ((2 : Int32) * a1)) ((w.2.2.2.1 9) &&& (-17 : Int32))) (ix (((2 : Int32) * a1) + (1 : Int32))) ((w.2.2.2.1 10) &&& (-17 : Int32))))) = (63 : Int32) then
        (ms4 (ms8 (ms8 (ms5 (ms7 (ms6 w (upd w.2.2.2.2.2.2.1 (ix a1) (fX4_pairOf (w.2.2.2.1 8)))) (upd w.2.2.2.2.2.2.2.1 (ix a1) (w.2.2.2.1 11))) (upd w.2.2.2.2.2.1 (ix a1) (0 : Int32))) (upd w.2.2.2.2.2.2.2.2.1 (ix ((2 : Int32) * a1)) ((w.2.2.2.1 9) &&& (-17 : Int32)))) (upd (upd w.2.2.2.2.2.2.2.2.1 (ix ((2 : Int32) * a1)) ((w.2.2.2.1 9) &&& (-17 : Int32))) (ix (((2 : Int32) * a1) + (1 : Int32))) ((w.2.2.2.1 10) &&& (-17 : Int32)))) (upd w.2.2.2.2.1 (ix a1) (1 : Int32)))
      else
        (ms4 (ms8 (ms8 (ms5 (ms7 (ms6 w (upd w.2.2.2.2.2.2.1 (ix a1) (fX4_pairOf (w.2.2.2.1 8)))) (upd w.2.2.2.2.2.2.2.1 (ix a1) (w.2.2.2.1 11))) (upd w.2.2.2.2.2.1 (ix a1) (0 : Int32))) (upd w.2.2.2.2.2.2.2.2.1 (ix ((2 : Int32) * a1)) ((w.2.2.2.1 9) &&& (-17 : Int32)))) (upd (upd w.2.2.2.2.2.2.2.2.1 (ix ((2 : Int32) * a1)) ((w.2.2.2.1 9) &&& (-17 : Int32))) (ix (((2 : Int32) * a1) + (1 : Int32))) ((w.2.2.2.1 10) &&& (-17 : Int32)))) (upd w.2.2.2.2.1 (ix a1) (0 : Int32)))
  else
    if ((w.2.2.2.1 10) &&& (16 : Int32)) = (0 : Int32) then
      if (0 : Int32) ≤ (w.2.2.2.1 7) then
        (ms4 (ms8 (ms8 (ms5 (ms7 (ms6 w (upd w.2.2.2.2.2.2.1 (ix a1) (fX4_pairOf (w.2.2.2.1 8)))) (upd w.2.2.2.2.2.2.2.1 (ix a1) (w.2.2.2.1 11))) (upd w.2.2.2.2.2.1 (ix a1) (0 : Int32))) (upd w.2.2.2.2.2.2.2.2.1 (ix ((2 : Int32) * a1)) ((w.2.2.2.1 9) &&& (-17 : Int32)))) (upd (upd w.2.2.2.2.2.2.2.2.1 (ix ((2 : Int32) * a1)) ((w.2.2.2.1 9) &&& (-17 : Int32))) (ix (((2 : Int32) * a1) + (1 : Int32))) ((w.2.2.2.1 10) &&& (-17 : Int32)))) (upd w.2.2.2.2.1 (ix a1) (1 : Int32)))
      else
        if (fX4_codeOf (ms8 (ms8 (ms5 (ms7 (ms6 w (upd w.2.2.2.2.2.2.1 (ix a1) (fX4_pairOf (w.2.2.2.1 8)))) (upd w.2.2.2.2.2.2.2.1 (ix a1) (w.2.2.2.1 11))) (upd w.2.2.2.2.2.1 (ix a1) (0 : Int32))) (upd w.2.2.2.2.2.2.2.2.1 (ix ((2 : Int32) * a1)) ((w.2.2.2.1 9) &&& (-17 : Int32)))) (upd (upd w.2.2.2.2.2.2.2.2.1 (ix ((2 : Int32) * a1)) ((w.2.2.2.1 9) &&& (-17 : Int32))) (ix (((2 : Int32) * a1) + (1 : Int32))) ((w.2.2.2.1 10) &&& (-17 : Int32))))) = (63 : Int32) then
          (ms4 (ms8 (ms8 (ms5 (ms7 (ms6 w (upd w.2.2.2.2.2.2.1 (ix a1) (fX4_pairOf (w.2.2.2.1 8)))) (upd w.2.2.2.2.2.2.2.1 (ix a1) (w.2.2.2.1 11))) (upd w.2.2.2.2.2.1 (ix a1) (0 : Int32))) (upd w.2.2.2.2.2.2.2.2.1 (ix ((2 : Int32) * a1)) ((w.2.2.2.1 9) &&& (-17 : Int32)))) (upd (upd w.2.2.2.2.2.2.2.2.1 (ix ((2 : Int32) * a1)) ((w.2.2.2.1 9) &&& (-17 : Int32))) (ix (((2 : Int32) * a1) + (1 : Int32))) ((w.2.2.2.1 10) &&& (-17 : Int32)))) (upd w.2.2.2.2.1 (ix a1) (1 : Int32)))
        else
          (ms4 (ms8 (ms8 (ms5 (ms7 (ms6 w (upd w.2.2.2.2.2.2.1 (ix a1) (fX4_pairOf (w.2.2.2.1 8)))) (upd w.2.2.2.2.2.2.2.1 (ix a1) (w.2.2.2.1 11))) (upd w.2.2.2.2.2.1 (ix a1) (0 : Int32))) (upd w.2.2.2.2.2.2.2.2.1 (ix ((2 : Int32) * a1)) ((w.2.2.2.1 9) &&& (-17 : Int32)))) (upd (upd w.2.2.2.2.2.2.2.2.1 (ix ((2 : Int32) * a1)) ((w.2.2.2.1 9) &&& (-17 : Int32))) (ix (((2 : Int32) * a1) + (1 : Int32))) ((w.2.2.2.1 10) &&& (-17 : Int32)))) (upd w.2.2.2.2.1 (ix a1) (0 : Int32)))
    else
      if (0 : Int32) ≤ (w.2.2.2.1 7) then
        (ms4 (ms8 (ms8 (ms5 (ms7 (ms6 w (upd w.2.2.2.2.2.2.1 (ix a1) (fX4_pairOf (w.2.2.2.1 8)))) (upd w.2.2.2.2.2.2.2.1 (ix a1) (w.2.2.2.1 11))) (upd w.2.2.2.2.2.1 (ix a1) (1 : Int32))) (upd w.2.2.2.2.2.2.2.2.1 (ix ((2 : Int32) * a1)) ((w.2.2.2.1 9) &&& (-17 : Int32)))) (upd (upd w.2.2.2.2.2.2.2.2.1 (ix ((2 : Int32) * a1)) ((w.2.2.2.1 9) &&& (-17 : Int32))) (ix (((2 : Int32) * a1) + (1 : Int32))) ((w.2.2.2.1 10) &&& (-17 : Int32)))) (upd w.2.2.2.2.1 (ix a1) (1 : Int32)))
      else
        if (fX4_codeOf (ms8 (ms8 (ms5 (ms7 (ms6 w (upd w.2.2.2.2.2.2.1 (ix a1) (fX4_pairOf (w.2.2.2.1 8)))) (upd w.2.2.2.2.2.2.2.1 (ix a1) (w.2.2.2.1 11))) (upd w.2.2.2.2.2.1 (ix a1) (1 : Int32))) (upd w.2.2.2.2.2.2.2.2.1 (ix ((2 : Int32) * a1)) ((w.2.2.2.1 9) &&& (-17 : Int32)))) (upd (upd w.2.2.2.2.2.2.2.2.1 (ix ((2 : Int32) * a1)) ((w.2.2.2.1 9) &&& (-17 : Int32))) (ix (((2 : Int32) * a1) + (1 : Int32))) ((w.2.2.2.1 10) &&& (-17 : Int32))))) = (63 : Int32) then
          (ms4 (ms8 (ms8 (ms5 (ms7 (ms6 w (upd w.2.2.2.2.2.2.1 (ix a1) (fX4_pairOf (w.2.2.2.1 8)))) (upd w.2.2.2.2.2.2.2.1 (ix a1) (w.2.2.2.1 11))) (upd w.2.2.2.2.2.1 (ix a1) (1 : Int32))) (upd w.2.2.2.2.2.2.2.2.1 (ix ((2 : Int32) * a1)) ((w.2.2.2.1 9) &&& (-17 : Int32)))) (upd (upd w.2.2.2.2.2.2.2.2.1 (ix ((2 : Int32) * a1)) ((w.2.2.2.1 9) &&& (-17 : Int32))) (ix (((2 : Int32) * a1) + (1 : Int32))) ((w.2.2.2.1 10) &&& (-17 : Int32)))) (upd w.2.2.2.2.1 (ix a1) (1 : Int32)))
        else
          (ms4 (ms8 (ms8 (ms5 (ms7 (ms6 w (upd w.2.2.2.2.2.2.1 (ix a1) (fX4_pairOf (w.2.2.2.1 8)))) (upd w.2.2.2.2.2.2.2.1 (ix a1) (w.2.2.2.1 11))) (upd w.2.2.2.2.2.1 (ix a1) (1 : Int32))) (upd w.2.2.2.2.2.2.2.2.1 (ix ((2 : Int32) * a1)) ((w.2.2.2.1 9) &&& (-17 : Int32)))) (upd (upd w.2.2.2.2.2.2.2.2.1 (ix ((2 : Int32) * a1)) ((w.2.2.2.1 9) &&& (-17 : Int32))) (ix (((2 : Int32) * a1) + (1 : Int32))) ((w.2.2.2.1 10) &&& (-17 : Int32)))) (upd w.2.2.2.2.1 (ix a1) (0 : Int32)))
set_option maxHeartbeats 4000000 in
set_option maxRecDepth 100000 in
theorem kX4_fill (l : Launch) (D : va_G) (k : Nat → ClassId) (z : Nat → Nat) (w : MD) (a1 : Int32) (h1 : vp_in a1 4) (o : MD) (ho : fX4_fill w a1 = o) : Met l yX4_fill wsX4_fill { frames := 1, cells := 0, slots := 0, locals := 20 } (wr_P D vwCl (tyL k) (wM k z w) (fun _ => True) [.ref (z 0), .int a1]) (wr_Q D vwCl none (wM k z w) (wM k z o)) 0 0 (in_W (wM k z w)) := by
  refine Met.ofW (cc := cX4_fill) (maxL := 2) (ret := none) (by decide) rfl ?_
  intro p e s m args below meth c s₁ B hml hv0
  obtain ⟨rfl, hP, hK, hX, hD0⟩ := hv0
  have hx := B.exec
  have hb := B.bytes
  have hr := B.returns
  have hts := atoms_spec (ws := wsX4_fill) B.pre
  have hown : s.vm.findClass RX4 = some m.cls := findClass_of_methodNamed B.named
  have hlocks := B.notSynchronized
  have hD : va_D (in_W (wM k z w)) (wM k z w) := wD_self hD0
  have hS : va_S (in_W (wM k z w)) s.heap s.heap [] := va_S.rf
  have hl := lv_entry ([.ref (z 0), .int a1]) (n := 2) (Nat.le_of_ble_eq_true rfl)
  rw [lg_entry_eq]
  generalize (lg_sl ([.ref (z 0), .int a1]) ++ List.replicate (2 - (lg_sl ([.ref (z 0), .int a1])).length) Slot.unset).toArray = ls at hl ⊢
  have hl : lv_has ls 2 [(0, .ref (z 0)), (1, .int a1)] := hl
  refine lv_aload_n hx hb dX4_fill_0 rfl (lv_at hl 0 rfl) ?_
  refine va_get (D := D) (ci := 3) (v := .ref (z 7)) (C := RX4) (T := TX4) (N := 20) hx hb hts (by decide +kernel) hown hK hP 0 rfl rfl 7 (by decide) (hts (.fieldLink RX4 32 "TrapMachineModel" "pair" "[I") (by decide +kernel)) (fun _ h9 => h9) rfl dX4_fill_1 ?_
  refine lv_iload_n hx hb dX4_fill_4 rfl (lv_at hl 1 rfl) ?_
  refine lv_aload_n hx hb dX4_fill_5 rfl (lv_at hl 0 rfl) ?_
  refine va_get (D := D) (ci := 3) (v := .ref (z 3)) (C := RX4) (T := TX4) (N := 20) hx hb hts (by decide +kernel) hown hK hP 0 rfl rfl 3 (by decide) (hts (.fieldLink RX4 16 "TrapMachineModel" "control" "[I") (by decide +kernel)) (fun _ h9 => h9) rfl dX4_fill_6 ?_
  refine lv_bipush (v := (8 : Int32)) hx hb dX4_fill_9 (by decide) ?_
  refine q_iald (j := 8) (x9 := (w.2.2.2.1 8)) hx hb hK hP 3 0 rfl rfl (vi_k (by decide)) rfl rfl dX4_fill_11 ?_
  refine rd_call (r := (fX4_pairOf (w.2.2.2.1 8))) (W.runS (As := [.int (w.2.2.2.1 8)]) (rest := [.int a1, .ref (z 7)]) ⟨hx, hb, hml, hown, hts⟩ (kX4_pairOf l (w.2.2.2.1 8)) (va_cwS 1 hts gX4_fill_X4_pairOf rfl rfl rfl (by decide +kernel) ⟨Nat.le_of_ble_eq_true rfl, Nat.le_of_ble_eq_true rfl⟩) preEq rfl rfl hl.1 rfl (lv_room (Nat.le_of_ble_eq_true rfl)) dX4_fill_12 ⟨Nat.zero_le _, Nat.zero_le _⟩) ?_
  refine q_iast (j := (ix a1)) (ws' := wM k z (ms6 w (upd w.2.2.2.2.2.2.1 (ix a1) (fX4_pairOf (w.2.2.2.1 8))))) hx hb hK hP hD hS 7 0 rfl rfl h1 rfl rfl dX4_fill_15 (fun H locs hP hD hS => ?_)
  refine lv_aload_n hx hb dX4_fill_16 rfl (lv_at hl 0 rfl) ?_
  refine va_get (D := D) (ci := 3) (v := .ref (z 8)) (C := RX4) (T := TX4) (N := 20) hx hb hts (by decide +kernel) hown hK hP 0 rfl rfl 8 (by decide) (hts (.fieldLink RX4 35 "TrapMachineModel" "space" "[I") (by decide +kernel)) (fun _ h9 => h9) rfl dX4_fill_17 ?_
  refine lv_iload_n hx hb dX4_fill_20 rfl (lv_at hl 1 rfl) ?_
  refine lv_aload_n hx hb dX4_fill_21 rfl (lv_at hl 0 rfl) ?_
  refine va_get (D := D) (ci := 3) (v := .ref (z 3)) (C := RX4) (T := TX4) (N := 20) hx hb hts (by decide +kernel) hown hK hP 0 rfl rfl 3 (by decide) (hts (.fieldLink RX4 16 "TrapMachineModel" "control" "[I") (by decide +kernel)) (fun _ h9 => h9) rfl dX4_fill_22 ?_
  refine lv_bipush (v := (11 : Int32)) hx hb dX4_fill_25 (by decide) ?_
  refine q_iald (j := 11) (x9 := (w.2.2.2.1 11)) hx hb hK hP 3 0 rfl rfl (vi_k (by decide)) rfl rfl dX4_fill_27 ?_
  refine q_iast (j := (ix a1)) (ws' := wM k z (ms7 (ms6 w (upd w.2.2.2.2.2.2.1 (ix a1) (fX4_pairOf (w.2.2.2.1 8)))) (upd w.2.2.2.2.2.2.2.1 (ix a1) (w.2.2.2.1 11)))) hx hb hK hP hD hS 8 0 rfl rfl h1 rfl rfl dX4_fill_28 (fun H locs hP hD hS => ?_)
  refine lv_aload_n hx hb dX4_fill_29 rfl (lv_at hl 0 rfl) ?_
  refine va_get (D := D) (ci := 3) (v := .ref (z 6)) (C := RX4) (T := TX4) (N := 20) hx hb hts (by decide +kernel) hown hK hP 0 rfl rfl 6 (by decide) (hts (.fieldLink RX4 29 "TrapMachineModel" "global" "[Z") (by decide +kernel)) (fun _ h9 => h9) rfl dX4_fill_30 ?_
  refine lv_iload_n hx hb dX4_fill_33 rfl (lv_at hl 1 rfl) ?_
  refine lv_aload_n hx hb dX4_fill_34 rfl (lv_at hl 0 rfl) ?_
  refine va_get (D := D) (ci := 3) (v := .ref (z 3)) (C := RX4) (T := TX4) (N := 20) hx hb hts (by decide +kernel) hown hK hP 0 rfl rfl 3 (by decide) (hts (.fieldLink RX4 16 "TrapMachineModel" "control" "[I") (by decide +kernel)) (fun _ h9 => h9) rfl dX4_fill_35 ?_
  refine lv_bipush (v := (9 : Int32)) hx hb dX4_fill_38 (by decide) ?_
  refine q_iald (j := 9) (x9 := (w.2.2.2.1 9)) hx hb hK hP 3 0 rfl rfl (vi_k (by decide)) rfl rfl dX4_fill_40 ?_
  refine lv_bipush (v := (16 : Int32)) hx hb dX4_fill_41 (by decide) ?_
  refine lv_iand hx hb dX4_fill_43 ?_
  refine lv_if_eq (tgt := 64) hx hb dX4_fill_44 (by decide) (fun c_44 => ?_) (fun c_44 => ?_)
  · refine lv_iconst (v := (0 : Int32)) hx hb dX4_fill_64 (by decide) ?_
    refine q_zast (j := (ix a1)) (ws' := wM k z (ms5 (ms7 (ms6 w (upd w.2.2.2.2.2.2.1 (ix a1) (fX4_pairOf (w.2.2.2.1 8)))) (upd w.2.2.2.2.2.2.2.1 (ix a1) (w.2.2.2.1 11))) (upd w.2.2.2.2.2.1 (ix a1) (0 : Int32)))) hx hb hK hP hD hS 6 2 rfl rfl rfl h1 rfl rfl dX4_fill_65 (fun H locs hP hD hS => ?_)
    refine lv_aload_n hx hb dX4_fill_66 rfl (lv_at hl 0 rfl) ?_
    refine va_get (D := D) (ci := 3) (v := .ref (z 9)) (C := RX4) (T := TX4) (N := 20) hx hb hts (by decide +kernel) hown hK hP 0 rfl rfl 9 (by decide) (hts (.fieldLink RX4 38 "TrapMachineModel" "half" "[I") (by decide +kernel)) (fun _ h9 => h9) rfl dX4_fill_67 ?_
    refine lv_iconst (v := (2 : Int32)) hx hb dX4_fill_70 (by decide) ?_
    refine lv_iload_n hx hb dX4_fill_71 rfl (lv_at hl 1 rfl) ?_
    refine lv_imul hx hb dX4_fill_72 ?_
    refine lv_aload_n hx hb dX4_fill_73 rfl (lv_at hl 0 rfl) ?_
    refine va_get (D := D) (ci := 3) (v := .ref (z 3)) (C := RX4) (T := TX4) (N := 20) hx hb hts (by decide +kernel) hown hK hP 0 rfl rfl 3 (by decide) (hts (.fieldLink RX4 16 "TrapMachineModel" "control" "[I") (by decide +kernel)) (fun _ h9 => h9) rfl dX4_fill_74 ?_
    refine lv_bipush (v := (9 : Int32)) hx hb dX4_fill_77 (by decide) ?_
    refine q_iald (j := 9) (x9 := (w.2.2.2.1 9)) hx hb hK hP 3 0 rfl rfl (vi_k (by decide)) rfl rfl dX4_fill_79 ?_
    refine lv_bipush (v := (-17 : Int32)) hx hb dX4_fill_80 (by decide) ?_
    refine lv_iand hx hb dX4_fill_82 ?_
    refine q_iast (j := (ix ((2 : Int32) * a1))) (ws' := wM k z (ms8 (ms5 (ms7 (ms6 w (upd w.2.2.2.2.2.2.1 (ix a1) (fX4_pairOf (w.2.2.2.1 8)))) (upd w.2.2.2.2.2.2.2.1 (ix a1) (w.2.2.2.1 11))) (upd w.2.2.2.2.2.1 (ix a1) (0 : Int32))) (upd w.2.2.2.2.2.2.2.2.1 (ix ((2 : Int32) * a1)) ((w.2.2.2.1 9) &&& (-17 : Int32))))) hx hb hK hP hD hS 9 0 rfl rfl (dbl_in h1) rfl rfl dX4_fill_83 (fun H locs hP hD hS => ?_)
    refine lv_aload_n hx hb dX4_fill_84 rfl (lv_at hl 0 rfl) ?_
    refine va_get (D := D) (ci := 3) (v := .ref (z 9)) (C := RX4) (T := TX4) (N := 20) hx hb hts (by decide +kernel) hown hK hP 0 rfl rfl 9 (by decide) (hts (.fieldLink RX4 38 "TrapMachineModel" "half" "[I") (by decide +kernel)) (fun _ h9 => h9) rfl dX4_fill_85 ?_
    refine lv_iconst (v := (2 : Int32)) hx hb dX4_fill_88 (by decide) ?_
    refine lv_iload_n hx hb dX4_fill_89 rfl (lv_at hl 1 rfl) ?_
    refine lv_imul hx hb dX4_fill_90 ?_
    refine lv_iconst (v := (1 : Int32)) hx hb dX4_fill_91 (by decide) ?_
    refine lv_iadd hx hb dX4_fill_92 ?_
    refine lv_aload_n hx hb dX4_fill_93 rfl (lv_at hl 0 rfl) ?_
    refine va_get (D := D) (ci := 3) (v := .ref (z 3)) (C := RX4) (T := TX4) (N := 20) hx hb hts (by decide +kernel) hown hK hP 0 rfl rfl 3 (by decide) (hts (.fieldLink RX4 16 "TrapMachineModel" "control" "[I") (by decide +kernel)) (fun _ h9 => h9) rfl dX4_fill_94 ?_
    refine lv_bipush (v := (10 : Int32)) hx hb dX4_fill_97 (by decide) ?_
    refine q_iald (j := 10) (x9 := (w.2.2.2.1 10)) hx hb hK hP 3 0 rfl rfl (vi_k (by decide)) rfl rfl dX4_fill_99 ?_
    refine lv_bipush (v := (-17 : Int32)) hx hb dX4_fill_100 (by decide) ?_
    refine lv_iand hx hb dX4_fill_102 ?_
    refine q_iast (j := (ix (((2 : Int32) * a1) + (1 : Int32)))) (ws' := wM k z (ms8 (ms8 (ms5 (ms7 (ms6 w (upd w.2.2.2.2.2.2.1 (ix a1) (fX4_pairOf (w.2.2.2.1 8)))) (upd w.2.2.2.2.2.2.2.1 (ix a1) (w.2.2.2.1 11))) (upd w.2.2.2.2.2.1 (ix a1) (0 : Int32))) (upd w.2.2.2.2.2.2.2.2.1 (ix ((2 : Int32) * a1)) ((w.2.2.2.1 9) &&& (-17 : Int32)))) (upd (upd w.2.2.2.2.2.2.2.2.1 (ix ((2 : Int32) * a1)) ((w.2.2.2.1 9) &&& (-17 : Int32))) (ix (((2 : Int32) * a1) + (1 : Int32))) ((w.2.2.2.1 10) &&& (-17 : Int32))))) hx hb hK hP hD hS 9 0 rfl rfl (dbl1_in h1) rfl rfl dX4_fill_103 (fun H locs hP hD hS => ?_)
    refine lv_aload_n hx hb dX4_fill_104 rfl (lv_at hl 0 rfl) ?_
    refine va_get (D := D) (ci := 3) (v := .ref (z 5)) (C := RX4) (T := TX4) (N := 20) hx hb hts (by decide +kernel) hown hK hP 0 rfl rfl 5 (by decide) (hts (.fieldLink RX4 25 "TrapMachineModel" "there" "[Z") (by decide +kernel)) (fun _ h9 => h9) rfl dX4_fill_105 ?_
    refine lv_iload_n hx hb dX4_fill_108 rfl (lv_at hl 1 rfl) ?_
    refine lv_aload_n hx hb dX4_fill_109 rfl (lv_at hl 0 rfl) ?_
    refine va_get (D := D) (ci := 3) (v := .ref (z 3)) (C := RX4) (T := TX4) (N := 20) hx hb hts (by decide +kernel) hown hK hP 0 rfl rfl 3 (by decide) (hts (.fieldLink RX4 16 "TrapMachineModel" "control" "[I") (by decide +kernel)) (fun _ h9 => h9) rfl dX4_fill_110 ?_
    refine lv_bipush (v := (7 : Int32)) hx hb dX4_fill_113 (by decide) ?_
    refine q_iald (j := 7) (x9 := (w.2.2.2.1 7)) hx hb hK hP 3 0 rfl rfl (vi_k (by decide)) rfl rfl dX4_fill_115 ?_
    refine lv_if_ge (tgt := 128) hx hb dX4_fill_116 (by decide) (fun c_116 => ?_) (fun c_116 => ?_)
    · refine lv_iconst (v := (1 : Int32)) hx hb dX4_fill_128 (by decide) ?_
      refine lv_goto (tgt := 133) hx hb dX4_fill_129 (by decide) ?_
      refine q_zast (j := (ix a1)) (ws' := wM k z (ms4 (ms8 (ms8 (ms5 (ms7 (ms6 w (upd w.2.2.2.2.2.2.1 (ix a1) (fX4_pairOf (w.2.2.2.1 8)))) (upd w.2.2.2.2.2.2.2.1 (ix a1) (w.2.2.2.1 11))) (upd w.2.2.2.2.2.1 (ix a1) (0 : Int32))) (upd w.2.2.2.2.2.2.2.2.1 (ix ((2 : Int32) * a1)) ((w.2.2.2.1 9) &&& (-17 : Int32)))) (upd (upd w.2.2.2.2.2.2.2.2.1 (ix ((2 : Int32) * a1)) ((w.2.2.2.1 9) &&& (-17 : Int32))) (ix (((2 : Int32) * a1) + (1 : Int32))) ((w.2.2.2.1 10) &&& (-17 : Int32)))) (upd w.2.2.2.2.1 (ix a1) (1 : Int32)))) hx hb hK hP hD hS 5 2 rfl rfl rfl h1 rfl rfl dX4_fill_133 (fun H locs hP hD hS => ?_)
      exact W.vret hx hb hr (wr_end rfl (congrArg (wM k z) ((show fX4_fill w a1 = (ms4 (ms8 (ms8 (ms5 (ms7 (ms6 w (upd w.2.2.2.2.2.2.1 (ix a1) (fX4_pairOf (w.2.2.2.1 8)))) (upd w.2.2.2.2.2.2.2.1 (ix a1) (w.2.2.2.1 11))) (upd w.2.2.2.2.2.1 (ix a1) (0 : Int32))) (upd w.2.2.2.2.2.2.2.2.1 (ix ((2 : Int32) * a1)) ((w.2.2.2.1 9) &&& (-17 : Int32)))) (upd (upd w.2.2.2.2.2.2.2.2.1 (ix ((2 : Int32) * a1)) ((w.2.2.2.1 9) &&& (-17 : Int32))) (ix (((2 : Int32) * a1) + (1 : Int32))) ((w.2.2.2.1 10) &&& (-17 : Int32)))) (upd w.2.2.2.2.1 (ix a1) (1 : Int32))) from (if_pos c_44).trans ((if_pos c_116).trans rfl)).symm.trans ho)) hP hS) hS.2.2 dX4_fill_134
    · refine lv_aload_n hx hb dX4_fill_119 rfl (lv_at hl 0 rfl) ?_
      refine rd_call (r := (fX4_codeOf (ms8 (ms8 (ms5 (ms7 (ms6 w (upd w.2.2.2.2.2.2.1 (ix a1) (fX4_pairOf (w.2.2.2.1 8)))) (upd w.2.2.2.2.2.2.2.1 (ix a1) (w.2.2.2.1 11))) (upd w.2.2.2.2.2.1 (ix a1) (0 : Int32))) (upd w.2.2.2.2.2.2.2.2.1 (ix ((2 : Int32) * a1)) ((w.2.2.2.1 9) &&& (-17 : Int32)))) (upd (upd w.2.2.2.2.2.2.2.2.1 (ix ((2 : Int32) * a1)) ((w.2.2.2.1 9) &&& (-17 : Int32))) (ix (((2 : Int32) * a1) + (1 : Int32))) ((w.2.2.2.1 10) &&& (-17 : Int32)))))) (W.runV (C := RX4) (b := (z 0)) (As := []) (rest := [.int a1, .ref (z 5)]) ⟨hx, hb, hml, hown, hts⟩ (kX4_codeOf l D k z (ms8 (ms8 (ms5 (ms7 (ms6 w (upd w.2.2.2.2.2.2.1 (ix a1) (fX4_pairOf (w.2.2.2.1 8)))) (upd w.2.2.2.2.2.2.2.1 (ix a1) (w.2.2.2.1 11))) (upd w.2.2.2.2.2.1 (ix a1) (0 : Int32))) (upd w.2.2.2.2.2.2.2.2.1 (ix ((2 : Int32) * a1)) ((w.2.2.2.1 9) &&& (-17 : Int32)))) (upd (upd w.2.2.2.2.2.2.2.2.1 (ix ((2 : Int32) * a1)) ((w.2.2.2.1 9) &&& (-17 : Int32))) (ix (((2 : Int32) * a1) + (1 : Int32))) ((w.2.2.2.1 10) &&& (-17 : Int32))))) (cwV 0 hts gX4_fill_X4_codeOf rfl rfl rfl (by decide +kernel) ⟨Nat.le_of_ble_eq_true rfl, Nat.le_of_ble_eq_true rfl⟩) (rd_preV bl_T pr_T hK hP (va_recv hK hP (ci := 3) (q0 := 0) rfl rfl)) rfl rfl hl.1 rfl (lv_room (Nat.le_of_ble_eq_true rfl)) dX4_fill_120 ⟨Nat.zero_le _, Nat.zero_le _⟩) ?_
      refine lv_bipush (v := (63 : Int32)) hx hb dX4_fill_123 (by decide) ?_
      refine lv_icmp_ne (tgt := 132) hx hb dX4_fill_125 (by decide) (fun c_125 => ?_) (fun c_125 => ?_)
      · refine lv_iconst (v := (0 : Int32)) hx hb dX4_fill_132 (by decide) ?_
        refine q_zast (j := (ix a1)) (ws' := wM k z (ms4 (ms8 (ms8 (ms5 (ms7 (ms6 w (upd w.2.2.2.2.2.2.1 (ix a1) (fX4_pairOf (w.2.2.2.1 8)))) (upd w.2.2.2.2.2.2.2.1 (ix a1) (w.2.2.2.1 11))) (upd w.2.2.2.2.2.1 (ix a1) (0 : Int32))) (upd w.2.2.2.2.2.2.2.2.1 (ix ((2 : Int32) * a1)) ((w.2.2.2.1 9) &&& (-17 : Int32)))) (upd (upd w.2.2.2.2.2.2.2.2.1 (ix ((2 : Int32) * a1)) ((w.2.2.2.1 9) &&& (-17 : Int32))) (ix (((2 : Int32) * a1) + (1 : Int32))) ((w.2.2.2.1 10) &&& (-17 : Int32)))) (upd w.2.2.2.2.1 (ix a1) (0 : Int32)))) hx hb hK hP hD hS 5 2 rfl rfl rfl h1 rfl rfl dX4_fill_133 (fun H locs hP hD hS => ?_)
        exact W.vret hx hb hr (wr_end rfl (congrArg (wM k z) ((show fX4_fill w a1 = (ms4 (ms8 (ms8 (ms5 (ms7 (ms6 w (upd w.2.2.2.2.2.2.1 (ix a1) (fX4_pairOf (w.2.2.2.1 8)))) (upd w.2.2.2.2.2.2.2.1 (ix a1) (w.2.2.2.1 11))) (upd w.2.2.2.2.2.1 (ix a1) (0 : Int32))) (upd w.2.2.2.2.2.2.2.2.1 (ix ((2 : Int32) * a1)) ((w.2.2.2.1 9) &&& (-17 : Int32)))) (upd (upd w.2.2.2.2.2.2.2.2.1 (ix ((2 : Int32) * a1)) ((w.2.2.2.1 9) &&& (-17 : Int32))) (ix (((2 : Int32) * a1) + (1 : Int32))) ((w.2.2.2.1 10) &&& (-17 : Int32)))) (upd w.2.2.2.2.1 (ix a1) (0 : Int32))) from (if_pos c_44).trans ((if_neg c_116).trans ((if_neg c_125).trans rfl))).symm.trans ho)) hP hS) hS.2.2 dX4_fill_134
      · refine lv_iconst (v := (1 : Int32)) hx hb dX4_fill_128 (by decide) ?_
        refine lv_goto (tgt := 133) hx hb dX4_fill_129 (by decide) ?_
        refine q_zast (j := (ix a1)) (ws' := wM k z (ms4 (ms8 (ms8 (ms5 (ms7 (ms6 w (upd w.2.2.2.2.2.2.1 (ix a1) (fX4_pairOf (w.2.2.2.1 8)))) (upd w.2.2.2.2.2.2.2.1 (ix a1) (w.2.2.2.1 11))) (upd w.2.2.2.2.2.1 (ix a1) (0 : Int32))) (upd w.2.2.2.2.2.2.2.2.1 (ix ((2 : Int32) * a1)) ((w.2.2.2.1 9) &&& (-17 : Int32)))) (upd (upd w.2.2.2.2.2.2.2.2.1 (ix ((2 : Int32) * a1)) ((w.2.2.2.1 9) &&& (-17 : Int32))) (ix (((2 : Int32) * a1) + (1 : Int32))) ((w.2.2.2.1 10) &&& (-17 : Int32)))) (upd w.2.2.2.2.1 (ix a1) (1 : Int32)))) hx hb hK hP hD hS 5 2 rfl rfl rfl h1 rfl rfl dX4_fill_133 (fun H locs hP hD hS => ?_)
        exact W.vret hx hb hr (wr_end rfl (congrArg (wM k z) ((show fX4_fill w a1 = (ms4 (ms8 (ms8 (ms5 (ms7 (ms6 w (upd w.2.2.2.2.2.2.1 (ix a1) (fX4_pairOf (w.2.2.2.1 8)))) (upd w.2.2.2.2.2.2.2.1 (ix a1) (w.2.2.2.1 11))) (upd w.2.2.2.2.2.1 (ix a1) (0 : Int32))) (upd w.2.2.2.2.2.2.2.2.1 (ix ((2 : Int32) * a1)) ((w.2.2.2.1 9) &&& (-17 : Int32)))) (upd (upd w.2.2.2.2.2.2.2.2.1 (ix ((2 : Int32) * a1)) ((w.2.2.2.1 9) &&& (-17 : Int32))) (ix (((2 : Int32) * a1) + (1 : Int32))) ((w.2.2.2.1 10) &&& (-17 : Int32)))) (upd w.2.2.2.2.1 (ix a1) (1 : Int32))) from (if_pos c_44).trans ((if_neg c_116).trans ((if_pos c_125).trans rfl))).symm.trans ho)) hP hS) hS.2.2 dX4_fill_134
  · refine lv_aload_n hx hb dX4_fill_47 rfl (lv_at hl 0 rfl) ?_
    refine va_get (D := D) (ci := 3) (v := .ref (z 3)) (C := RX4) (T := TX4) (N := 20) hx hb hts (by decide +kernel) hown hK hP 0 rfl rfl 3 (by decide) (hts (.fieldLink RX4 16 "TrapMachineModel" "control" "[I") (by decide +kernel)) (fun _ h9 => h9) rfl dX4_fill_48 ?_
    refine lv_bipush (v := (10 : Int32)) hx hb dX4_fill_51 (by decide) ?_
    refine q_iald (j := 10) (x9 := (w.2.2.2.1 10)) hx hb hK hP 3 0 rfl rfl (vi_k (by decide)) rfl rfl dX4_fill_53 ?_
    refine lv_bipush (v := (16 : Int32)) hx hb dX4_fill_54 (by decide) ?_
    refine lv_iand hx hb dX4_fill_56 ?_
    refine lv_if_eq (tgt := 64) hx hb dX4_fill_57 (by decide) (fun c_57 => ?_) (fun c_57 => ?_)
    · refine lv_iconst (v := (0 : Int32)) hx hb dX4_fill_64 (by decide) ?_
      refine q_zast (j := (ix a1)) (ws' := wM k z (ms5 (ms7 (ms6 w (upd w.2.2.2.2.2.2.1 (ix a1) (fX4_pairOf (w.2.2.2.1 8)))) (upd w.2.2.2.2.2.2.2.1 (ix a1) (w.2.2.2.1 11))) (upd w.2.2.2.2.2.1 (ix a1) (0 : Int32)))) hx hb hK hP hD hS 6 2 rfl rfl rfl h1 rfl rfl dX4_fill_65 (fun H locs hP hD hS => ?_)
      refine lv_aload_n hx hb dX4_fill_66 rfl (lv_at hl 0 rfl) ?_
      refine va_get (D := D) (ci := 3) (v := .ref (z 9)) (C := RX4) (T := TX4) (N := 20) hx hb hts (by decide +kernel) hown hK hP 0 rfl rfl 9 (by decide) (hts (.fieldLink RX4 38 "TrapMachineModel" "half" "[I") (by decide +kernel)) (fun _ h9 => h9) rfl dX4_fill_67 ?_
      refine lv_iconst (v := (2 : Int32)) hx hb dX4_fill_70 (by decide) ?_
      refine lv_iload_n hx hb dX4_fill_71 rfl (lv_at hl 1 rfl) ?_
      refine lv_imul hx hb dX4_fill_72 ?_
      refine lv_aload_n hx hb dX4_fill_73 rfl (lv_at hl 0 rfl) ?_
      refine va_get (D := D) (ci := 3) (v := .ref (z 3)) (C := RX4) (T := TX4) (N := 20) hx hb hts (by decide +kernel) hown hK hP 0 rfl rfl 3 (by decide) (hts (.fieldLink RX4 16 "TrapMachineModel" "control" "[I") (by decide +kernel)) (fun _ h9 => h9) rfl dX4_fill_74 ?_
      refine lv_bipush (v := (9 : Int32)) hx hb dX4_fill_77 (by decide) ?_
      refine q_iald (j := 9) (x9 := (w.2.2.2.1 9)) hx hb hK hP 3 0 rfl rfl (vi_k (by decide)) rfl rfl dX4_fill_79 ?_
      refine lv_bipush (v := (-17 : Int32)) hx hb dX4_fill_80 (by decide) ?_
      refine lv_iand hx hb dX4_fill_82 ?_
      refine q_iast (j := (ix ((2 : Int32) * a1))) (ws' := wM k z (ms8 (ms5 (ms7 (ms6 w (upd w.2.2.2.2.2.2.1 (ix a1) (fX4_pairOf (w.2.2.2.1 8)))) (upd w.2.2.2.2.2.2.2.1 (ix a1) (w.2.2.2.1 11))) (upd w.2.2.2.2.2.1 (ix a1) (0 : Int32))) (upd w.2.2.2.2.2.2.2.2.1 (ix ((2 : Int32) * a1)) ((w.2.2.2.1 9) &&& (-17 : Int32))))) hx hb hK hP hD hS 9 0 rfl rfl (dbl_in h1) rfl rfl dX4_fill_83 (fun H locs hP hD hS => ?_)
      refine lv_aload_n hx hb dX4_fill_84 rfl (lv_at hl 0 rfl) ?_
      refine va_get (D := D) (ci := 3) (v := .ref (z 9)) (C := RX4) (T := TX4) (N := 20) hx hb hts (by decide +kernel) hown hK hP 0 rfl rfl 9 (by decide) (hts (.fieldLink RX4 38 "TrapMachineModel" "half" "[I") (by decide +kernel)) (fun _ h9 => h9) rfl dX4_fill_85 ?_
      refine lv_iconst (v := (2 : Int32)) hx hb dX4_fill_88 (by decide) ?_
      refine lv_iload_n hx hb dX4_fill_89 rfl (lv_at hl 1 rfl) ?_
      refine lv_imul hx hb dX4_fill_90 ?_
      refine lv_iconst (v := (1 : Int32)) hx hb dX4_fill_91 (by decide) ?_
      refine lv_iadd hx hb dX4_fill_92 ?_
      refine lv_aload_n hx hb dX4_fill_93 rfl (lv_at hl 0 rfl) ?_
      refine va_get (D := D) (ci := 3) (v := .ref (z 3)) (C := RX4) (T := TX4) (N := 20) hx hb hts (by decide +kernel) hown hK hP 0 rfl rfl 3 (by decide) (hts (.fieldLink RX4 16 "TrapMachineModel" "control" "[I") (by decide +kernel)) (fun _ h9 => h9) rfl dX4_fill_94 ?_
      refine lv_bipush (v := (10 : Int32)) hx hb dX4_fill_97 (by decide) ?_
      refine q_iald (j := 10) (x9 := (w.2.2.2.1 10)) hx hb hK hP 3 0 rfl rfl (vi_k (by decide)) rfl rfl dX4_fill_99 ?_
      refine lv_bipush (v := (-17 : Int32)) hx hb dX4_fill_100 (by decide) ?_
      refine lv_iand hx hb dX4_fill_102 ?_
      refine q_iast (j := (ix (((2 : Int32) * a1) + (1 : Int32)))) (ws' := wM k z (ms8 (ms8 (ms5 (ms7 (ms6 w (upd w.2.2.2.2.2.2.1 (ix a1) (fX4_pairOf (w.2.2.2.1 8)))) (upd w.2.2.2.2.2.2.2.1 (ix a1) (w.2.2.2.1 11))) (upd w.2.2.2.2.2.1 (ix a1) (0 : Int32))) (upd w.2.2.2.2.2.2.2.2.1 (ix ((2 : Int32) * a1)) ((w.2.2.2.1 9) &&& (-17 : Int32)))) (upd (upd w.2.2.2.2.2.2.2.2.1 (ix ((2 : Int32) * a1)) ((w.2.2.2.1 9) &&& (-17 : Int32))) (ix (((2 : Int32) * a1) + (1 : Int32))) ((w.2.2.2.1 10) &&& (-17 : Int32))))) hx hb hK hP hD hS 9 0 rfl rfl (dbl1_in h1) rfl rfl dX4_fill_103 (fun H locs hP hD hS => ?_)
      refine lv_aload_n hx hb dX4_fill_104 rfl (lv_at hl 0 rfl) ?_
      refine va_get (D := D) (ci := 3) (v := .ref (z 5)) (C := RX4) (T := TX4) (N := 20) hx hb hts (by decide +kernel) hown hK hP 0 rfl rfl 5 (by decide) (hts (.fieldLink RX4 25 "TrapMachineModel" "there" "[Z") (by decide +kernel)) (fun _ h9 => h9) rfl dX4_fill_105 ?_
      refine lv_iload_n hx hb dX4_fill_108 rfl (lv_at hl 1 rfl) ?_
      refine lv_aload_n hx hb dX4_fill_109 rfl (lv_at hl 0 rfl) ?_
      refine va_get (D := D) (ci := 3) (v := .ref (z 3)) (C := RX4) (T := TX4) (N := 20) hx hb hts (by decide +kernel) hown hK hP 0 rfl rfl 3 (by decide) (hts (.fieldLink RX4 16 "TrapMachineModel" "control" "[I") (by decide +kernel)) (fun _ h9 => h9) rfl dX4_fill_110 ?_
      refine lv_bipush (v := (7 : Int32)) hx hb dX4_fill_113 (by decide) ?_
      refine q_iald (j := 7) (x9 := (w.2.2.2.1 7)) hx hb hK hP 3 0 rfl rfl (vi_k (by decide)) rfl rfl dX4_fill_115 ?_
      refine lv_if_ge (tgt := 128) hx hb dX4_fill_116 (by decide) (fun c_116 => ?_) (fun c_116 => ?_)
      · refine lv_iconst (v := (1 : Int32)) hx hb dX4_fill_128 (by decide) ?_
        refine lv_goto (tgt := 133) hx hb dX4_fill_129 (by decide) ?_
        refine q_zast (j := (ix a1)) (ws' := wM k z (ms4 (ms8 (ms8 (ms5 (ms7 (ms6 w (upd w.2.2.2.2.2.2.1 (ix a1) (fX4_pairOf (w.2.2.2.1 8)))) (upd w.2.2.2.2.2.2.2.1 (ix a1) (w.2.2.2.1 11))) (upd w.2.2.2.2.2.1 (ix a1) (0 : Int32))) (upd w.2.2.2.2.2.2.2.2.1 (ix ((2 : Int32) * a1)) ((w.2.2.2.1 9) &&& (-17 : Int32)))) (upd (upd w.2.2.2.2.2.2.2.2.1 (ix ((2 : Int32) * a1)) ((w.2.2.2.1 9) &&& (-17 : Int32))) (ix (((2 : Int32) * a1) + (1 : Int32))) ((w.2.2.2.1 10) &&& (-17 : Int32)))) (upd w.2.2.2.2.1 (ix a1) (1 : Int32)))) hx hb hK hP hD hS 5 2 rfl rfl rfl h1 rfl rfl dX4_fill_133 (fun H locs hP hD hS => ?_)
        exact W.vret hx hb hr (wr_end rfl (congrArg (wM k z) ((show fX4_fill w a1 = (ms4 (ms8 (ms8 (ms5 (ms7 (ms6 w (upd w.2.2.2.2.2.2.1 (ix a1) (fX4_pairOf (w.2.2.2.1 8)))) (upd w.2.2.2.2.2.2.2.1 (ix a1) (w.2.2.2.1 11))) (upd w.2.2.2.2.2.1 (ix a1) (0 : Int32))) (upd w.2.2.2.2.2.2.2.2.1 (ix ((2 : Int32) * a1)) ((w.2.2.2.1 9) &&& (-17 : Int32)))) (upd (upd w.2.2.2.2.2.2.2.2.1 (ix ((2 : Int32) * a1)) ((w.2.2.2.1 9) &&& (-17 : Int32))) (ix (((2 : Int32) * a1) + (1 : Int32))) ((w.2.2.2.1 10) &&& (-17 : Int32)))) (upd w.2.2.2.2.1 (ix a1) (1 : Int32))) from (if_neg c_44).trans ((if_pos c_57).trans ((if_pos c_116).trans rfl))).symm.trans ho)) hP hS) hS.2.2 dX4_fill_134
      · refine lv_aload_n hx hb dX4_fill_119 rfl (lv_at hl 0 rfl) ?_
        refine rd_call (r := (fX4_codeOf (ms8 (ms8 (ms5 (ms7 (ms6 w (upd w.2.2.2.2.2.2.1 (ix a1) (fX4_pairOf (w.2.2.2.1 8)))) (upd w.2.2.2.2.2.2.2.1 (ix a1) (w.2.2.2.1 11))) (upd w.2.2.2.2.2.1 (ix a1) (0 : Int32))) (upd w.2.2.2.2.2.2.2.2.1 (ix ((2 : Int32) * a1)) ((w.2.2.2.1 9) &&& (-17 : Int32)))) (upd (upd w.2.2.2.2.2.2.2.2.1 (ix ((2 : Int32) * a1)) ((w.2.2.2.1 9) &&& (-17 : Int32))) (ix (((2 : Int32) * a1) + (1 : Int32))) ((w.2.2.2.1 10) &&& (-17 : Int32)))))) (W.runV (C := RX4) (b := (z 0)) (As := []) (rest := [.int a1, .ref (z 5)]) ⟨hx, hb, hml, hown, hts⟩ (kX4_codeOf l D k z (ms8 (ms8 (ms5 (ms7 (ms6 w (upd w.2.2.2.2.2.2.1 (ix a1) (fX4_pairOf (w.2.2.2.1 8)))) (upd w.2.2.2.2.2.2.2.1 (ix a1) (w.2.2.2.1 11))) (upd w.2.2.2.2.2.1 (ix a1) (0 : Int32))) (upd w.2.2.2.2.2.2.2.2.1 (ix ((2 : Int32) * a1)) ((w.2.2.2.1 9) &&& (-17 : Int32)))) (upd (upd w.2.2.2.2.2.2.2.2.1 (ix ((2 : Int32) * a1)) ((w.2.2.2.1 9) &&& (-17 : Int32))) (ix (((2 : Int32) * a1) + (1 : Int32))) ((w.2.2.2.1 10) &&& (-17 : Int32))))) (cwV 0 hts gX4_fill_X4_codeOf rfl rfl rfl (by decide +kernel) ⟨Nat.le_of_ble_eq_true rfl, Nat.le_of_ble_eq_true rfl⟩) (rd_preV bl_T pr_T hK hP (va_recv hK hP (ci := 3) (q0 := 0) rfl rfl)) rfl rfl hl.1 rfl (lv_room (Nat.le_of_ble_eq_true rfl)) dX4_fill_120 ⟨Nat.zero_le _, Nat.zero_le _⟩) ?_
        refine lv_bipush (v := (63 : Int32)) hx hb dX4_fill_123 (by decide) ?_
        refine lv_icmp_ne (tgt := 132) hx hb dX4_fill_125 (by decide) (fun c_125 => ?_) (fun c_125 => ?_)
        · refine lv_iconst (v := (0 : Int32)) hx hb dX4_fill_132 (by decide) ?_
          refine q_zast (j := (ix a1)) (ws' := wM k z (ms4 (ms8 (ms8 (ms5 (ms7 (ms6 w (upd w.2.2.2.2.2.2.1 (ix a1) (fX4_pairOf (w.2.2.2.1 8)))) (upd w.2.2.2.2.2.2.2.1 (ix a1) (w.2.2.2.1 11))) (upd w.2.2.2.2.2.1 (ix a1) (0 : Int32))) (upd w.2.2.2.2.2.2.2.2.1 (ix ((2 : Int32) * a1)) ((w.2.2.2.1 9) &&& (-17 : Int32)))) (upd (upd w.2.2.2.2.2.2.2.2.1 (ix ((2 : Int32) * a1)) ((w.2.2.2.1 9) &&& (-17 : Int32))) (ix (((2 : Int32) * a1) + (1 : Int32))) ((w.2.2.2.1 10) &&& (-17 : Int32)))) (upd w.2.2.2.2.1 (ix a1) (0 : Int32)))) hx hb hK hP hD hS 5 2 rfl rfl rfl h1 rfl rfl dX4_fill_133 (fun H locs hP hD hS => ?_)
          exact W.vret hx hb hr (wr_end rfl (congrArg (wM k z) ((show fX4_fill w a1 = (ms4 (ms8 (ms8 (ms5 (ms7 (ms6 w (upd w.2.2.2.2.2.2.1 (ix a1) (fX4_pairOf (w.2.2.2.1 8)))) (upd w.2.2.2.2.2.2.2.1 (ix a1) (w.2.2.2.1 11))) (upd w.2.2.2.2.2.1 (ix a1) (0 : Int32))) (upd w.2.2.2.2.2.2.2.2.1 (ix ((2 : Int32) * a1)) ((w.2.2.2.1 9) &&& (-17 : Int32)))) (upd (upd w.2.2.2.2.2.2.2.2.1 (ix ((2 : Int32) * a1)) ((w.2.2.2.1 9) &&& (-17 : Int32))) (ix (((2 : Int32) * a1) + (1 : Int32))) ((w.2.2.2.1 10) &&& (-17 : Int32)))) (upd w.2.2.2.2.1 (ix a1) (0 : Int32))) from (if_neg c_44).trans ((if_pos c_57).trans ((if_neg c_116).trans ((if_neg c_125).trans rfl)))).symm.trans ho)) hP hS) hS.2.2 dX4_fill_134
        · refine lv_iconst (v := (1 : Int32)) hx hb dX4_fill_128 (by decide) ?_
          refine lv_goto (tgt := 133) hx hb dX4_fill_129 (by decide) ?_
          refine q_zast (j := (ix a1)) (ws' := wM k z (ms4 (ms8 (ms8 (ms5 (ms7 (ms6 w (upd w.2.2.2.2.2.2.1 (ix a1) (fX4_pairOf (w.2.2.2.1 8)))) (upd w.2.2.2.2.2.2.2.1 (ix a1) (w.2.2.2.1 11))) (upd w.2.2.2.2.2.1 (ix a1) (0 : Int32))) (upd w.2.2.2.2.2.2.2.2.1 (ix ((2 : Int32) * a1)) ((w.2.2.2.1 9) &&& (-17 : Int32)))) (upd (upd w.2.2.2.2.2.2.2.2.1 (ix ((2 : Int32) * a1)) ((w.2.2.2.1 9) &&& (-17 : Int32))) (ix (((2 : Int32) * a1) + (1 : Int32))) ((w.2.2.2.1 10) &&& (-17 : Int32)))) (upd w.2.2.2.2.1 (ix a1) (1 : Int32)))) hx hb hK hP hD hS 5 2 rfl rfl rfl h1 rfl rfl dX4_fill_133 (fun H locs hP hD hS => ?_)
          exact W.vret hx hb hr (wr_end rfl (congrArg (wM k z) ((show fX4_fill w a1 = (ms4 (ms8 (ms8 (ms5 (ms7 (ms6 w (upd w.2.2.2.2.2.2.1 (ix a1) (fX4_pairOf (w.2.2.2.1 8)))) (upd w.2.2.2.2.2.2.2.1 (ix a1) (w.2.2.2.1 11))) (upd w.2.2.2.2.2.1 (ix a1) (0 : Int32))) (upd w.2.2.2.2.2.2.2.2.1 (ix ((2 : Int32) * a1)) ((w.2.2.2.1 9) &&& (-17 : Int32)))) (upd (upd w.2.2.2.2.2.2.2.2.1 (ix ((2 : Int32) * a1)) ((w.2.2.2.1 9) &&& (-17 : Int32))) (ix (((2 : Int32) * a1) + (1 : Int32))) ((w.2.2.2.1 10) &&& (-17 : Int32)))) (upd w.2.2.2.2.1 (ix a1) (1 : Int32))) from (if_neg c_44).trans ((if_pos c_57).trans ((if_neg c_116).trans ((if_pos c_125).trans rfl)))).symm.trans ho)) hP hS) hS.2.2 dX4_fill_134
    · refine lv_iconst (v := (1 : Int32)) hx hb dX4_fill_60 (by decide) ?_
      refine lv_goto (tgt := 65) hx hb dX4_fill_61 (by decide) ?_
      refine q_zast (j := (ix a1)) (ws' := wM k z (ms5 (ms7 (ms6 w (upd w.2.2.2.2.2.2.1 (ix a1) (fX4_pairOf (w.2.2.2.1 8)))) (upd w.2.2.2.2.2.2.2.1 (ix a1) (w.2.2.2.1 11))) (upd w.2.2.2.2.2.1 (ix a1) (1 : Int32)))) hx hb hK hP hD hS 6 2 rfl rfl rfl h1 rfl rfl dX4_fill_65 (fun H locs hP hD hS => ?_)
      refine lv_aload_n hx hb dX4_fill_66 rfl (lv_at hl 0 rfl) ?_
      refine va_get (D := D) (ci := 3) (v := .ref (z 9)) (C := RX4) (T := TX4) (N := 20) hx hb hts (by decide +kernel) hown hK hP 0 rfl rfl 9 (by decide) (hts (.fieldLink RX4 38 "TrapMachineModel" "half" "[I") (by decide +kernel)) (fun _ h9 => h9) rfl dX4_fill_67 ?_
      refine lv_iconst (v := (2 : Int32)) hx hb dX4_fill_70 (by decide) ?_
      refine lv_iload_n hx hb dX4_fill_71 rfl (lv_at hl 1 rfl) ?_
      refine lv_imul hx hb dX4_fill_72 ?_
      refine lv_aload_n hx hb dX4_fill_73 rfl (lv_at hl 0 rfl) ?_
      refine va_get (D := D) (ci := 3) (v := .ref (z 3)) (C := RX4) (T := TX4) (N := 20) hx hb hts (by decide +kernel) hown hK hP 0 rfl rfl 3 (by decide) (hts (.fieldLink RX4 16 "TrapMachineModel" "control" "[I") (by decide +kernel)) (fun _ h9 => h9) rfl dX4_fill_74 ?_
      refine lv_bipush (v := (9 : Int32)) hx hb dX4_fill_77 (by decide) ?_
      refine q_iald (j := 9) (x9 := (w.2.2.2.1 9)) hx hb hK hP 3 0 rfl rfl (vi_k (by decide)) rfl rfl dX4_fill_79 ?_
      refine lv_bipush (v := (-17 : Int32)) hx hb dX4_fill_80 (by decide) ?_
      refine lv_iand hx hb dX4_fill_82 ?_
      refine q_iast (j := (ix ((2 : Int32) * a1))) (ws' := wM k z (ms8 (ms5 (ms7 (ms6 w (upd w.2.2.2.2.2.2.1 (ix a1) (fX4_pairOf (w.2.2.2.1 8)))) (upd w.2.2.2.2.2.2.2.1 (ix a1) (w.2.2.2.1 11))) (upd w.2.2.2.2.2.1 (ix a1) (1 : Int32))) (upd w.2.2.2.2.2.2.2.2.1 (ix ((2 : Int32) * a1)) ((w.2.2.2.1 9) &&& (-17 : Int32))))) hx hb hK hP hD hS 9 0 rfl rfl (dbl_in h1) rfl rfl dX4_fill_83 (fun H locs hP hD hS => ?_)
      refine lv_aload_n hx hb dX4_fill_84 rfl (lv_at hl 0 rfl) ?_
      refine va_get (D := D) (ci := 3) (v := .ref (z 9)) (C := RX4) (T := TX4) (N := 20) hx hb hts (by decide +kernel) hown hK hP 0 rfl rfl 9 (by decide) (hts (.fieldLink RX4 38 "TrapMachineModel" "half" "[I") (by decide +kernel)) (fun _ h9 => h9) rfl dX4_fill_85 ?_
      refine lv_iconst (v := (2 : Int32)) hx hb dX4_fill_88 (by decide) ?_
      refine lv_iload_n hx hb dX4_fill_89 rfl (lv_at hl 1 rfl) ?_
      refine lv_imul hx hb dX4_fill_90 ?_
      refine lv_iconst (v := (1 : Int32)) hx hb dX4_fill_91 (by decide) ?_
      refine lv_iadd hx hb dX4_fill_92 ?_
      refine lv_aload_n hx hb dX4_fill_93 rfl (lv_at hl 0 rfl) ?_
      refine va_get (D := D) (ci := 3) (v := .ref (z 3)) (C := RX4) (T := TX4) (N := 20) hx hb hts (by decide +kernel) hown hK hP 0 rfl rfl 3 (by decide) (hts (.fieldLink RX4 16 "TrapMachineModel" "control" "[I") (by decide +kernel)) (fun _ h9 => h9) rfl dX4_fill_94 ?_
      refine lv_bipush (v := (10 : Int32)) hx hb dX4_fill_97 (by decide) ?_
      refine q_iald (j := 10) (x9 := (w.2.2.2.1 10)) hx hb hK hP 3 0 rfl rfl (vi_k (by decide)) rfl rfl dX4_fill_99 ?_
      refine lv_bipush (v := (-17 : Int32)) hx hb dX4_fill_100 (by decide) ?_
      refine lv_iand hx hb dX4_fill_102 ?_
      refine q_iast (j := (ix (((2 : Int32) * a1) + (1 : Int32)))) (ws' := wM k z (ms8 (ms8 (ms5 (ms7 (ms6 w (upd w.2.2.2.2.2.2.1 (ix a1) (fX4_pairOf (w.2.2.2.1 8)))) (upd w.2.2.2.2.2.2.2.1 (ix a1) (w.2.2.2.1 11))) (upd w.2.2.2.2.2.1 (ix a1) (1 : Int32))) (upd w.2.2.2.2.2.2.2.2.1 (ix ((2 : Int32) * a1)) ((w.2.2.2.1 9) &&& (-17 : Int32)))) (upd (upd w.2.2.2.2.2.2.2.2.1 (ix ((2 : Int32) * a1)) ((w.2.2.2.1 9) &&& (-17 : Int32))) (ix (((2 : Int32) * a1) + (1 : Int32))) ((w.2.2.2.1 10) &&& (-17 : Int32))))) hx hb hK hP hD hS 9 0 rfl rfl (dbl1_in h1) rfl rfl dX4_fill_103 (fun H locs hP hD hS => ?_)
      refine lv_aload_n hx hb dX4_fill_104 rfl (lv_at hl 0 rfl) ?_
      refine va_get (D := D) (ci := 3) (v := .ref (z 5)) (C := RX4) (T := TX4) (N := 20) hx hb hts (by decide +kernel) hown hK hP 0 rfl rfl 5 (by decide) (hts (.fieldLink RX4 25 "TrapMachineModel" "there" "[Z") (by decide +kernel)) (fun _ h9 => h9) rfl dX4_fill_105 ?_
      refine lv_iload_n hx hb dX4_fill_108 rfl (lv_at hl 1 rfl) ?_
      refine lv_aload_n hx hb dX4_fill_109 rfl (lv_at hl 0 rfl) ?_
      refine va_get (D := D) (ci := 3) (v := .ref (z 3)) (C := RX4) (T := TX4) (N := 20) hx hb hts (by decide +kernel) hown hK hP 0 rfl rfl 3 (by decide) (hts (.fieldLink RX4 16 "TrapMachineModel" "control" "[I") (by decide +kernel)) (fun _ h9 => h9) rfl dX4_fill_110 ?_
      refine lv_bipush (v := (7 : Int32)) hx hb dX4_fill_113 (by decide) ?_
      refine q_iald (j := 7) (x9 := (w.2.2.2.1 7)) hx hb hK hP 3 0 rfl rfl (vi_k (by decide)) rfl rfl dX4_fill_115 ?_
      refine lv_if_ge (tgt := 128) hx hb dX4_fill_116 (by decide) (fun c_116 => ?_) (fun c_116 => ?_)
      · refine lv_iconst (v := (1 : Int32)) hx hb dX4_fill_128 (by decide) ?_
        refine lv_goto (tgt := 133) hx hb dX4_fill_129 (by decide) ?_
        refine q_zast (j := (ix a1)) (ws' := wM k z (ms4 (ms8 (ms8 (ms5 (ms7 (ms6 w (upd w.2.2.2.2.2.2.1 (ix a1) (fX4_pairOf (w.2.2.2.1 8)))) (upd w.2.2.2.2.2.2.2.1 (ix a1) (w.2.2.2.1 11))) (upd w.2.2.2.2.2.1 (ix a1) (1 : Int32))) (upd w.2.2.2.2.2.2.2.2.1 (ix ((2 : Int32) * a1)) ((w.2.2.2.1 9) &&& (-17 : Int32)))) (upd (upd w.2.2.2.2.2.2.2.2.1 (ix ((2 : Int32) * a1)) ((w.2.2.2.1 9) &&& (-17 : Int32))) (ix (((2 : Int32) * a1) + (1 : Int32))) ((w.2.2.2.1 10) &&& (-17 : Int32)))) (upd w.2.2.2.2.1 (ix a1) (1 : Int32)))) hx hb hK hP hD hS 5 2 rfl rfl rfl h1 rfl rfl dX4_fill_133 (fun H locs hP hD hS => ?_)
        exact W.vret hx hb hr (wr_end rfl (congrArg (wM k z) ((show fX4_fill w a1 = (ms4 (ms8 (ms8 (ms5 (ms7 (ms6 w (upd w.2.2.2.2.2.2.1 (ix a1) (fX4_pairOf (w.2.2.2.1 8)))) (upd w.2.2.2.2.2.2.2.1 (ix a1) (w.2.2.2.1 11))) (upd w.2.2.2.2.2.1 (ix a1) (1 : Int32))) (upd w.2.2.2.2.2.2.2.2.1 (ix ((2 : Int32) * a1)) ((w.2.2.2.1 9) &&& (-17 : Int32)))) (upd (upd w.2.2.2.2.2.2.2.2.1 (ix ((2 : Int32) * a1)) ((w.2.2.2.1 9) &&& (-17 : Int32))) (ix (((2 : Int32) * a1) + (1 : Int32))) ((w.2.2.2.1 10) &&& (-17 : Int32)))) (upd w.2.2.2.2.1 (ix a1) (1 : Int32))) from (if_neg c_44).trans ((if_neg c_57).trans ((if_pos c_116).trans rfl))).symm.trans ho)) hP hS) hS.2.2 dX4_fill_134
      · refine lv_aload_n hx hb dX4_fill_119 rfl (lv_at hl 0 rfl) ?_
        refine rd_call (r := (fX4_codeOf (ms8 (ms8 (ms5 (ms7 (ms6 w (upd w.2.2.2.2.2.2.1 (ix a1) (fX4_pairOf (w.2.2.2.1 8)))) (upd w.2.2.2.2.2.2.2.1 (ix a1) (w.2.2.2.1 11))) (upd w.2.2.2.2.2.1 (ix a1) (1 : Int32))) (upd w.2.2.2.2.2.2.2.2.1 (ix ((2 : Int32) * a1)) ((w.2.2.2.1 9) &&& (-17 : Int32)))) (upd (upd w.2.2.2.2.2.2.2.2.1 (ix ((2 : Int32) * a1)) ((w.2.2.2.1 9) &&& (-17 : Int32))) (ix (((2 : Int32) * a1) + (1 : Int32))) ((w.2.2.2.1 10) &&& (-17 : Int32)))))) (W.runV (C := RX4) (b := (z 0)) (As := []) (rest := [.int a1, .ref (z 5)]) ⟨hx, hb, hml, hown, hts⟩ (kX4_codeOf l D k z (ms8 (ms8 (ms5 (ms7 (ms6 w (upd w.2.2.2.2.2.2.1 (ix a1) (fX4_pairOf (w.2.2.2.1 8)))) (upd w.2.2.2.2.2.2.2.1 (ix a1) (w.2.2.2.1 11))) (upd w.2.2.2.2.2.1 (ix a1) (1 : Int32))) (upd w.2.2.2.2.2.2.2.2.1 (ix ((2 : Int32) * a1)) ((w.2.2.2.1 9) &&& (-17 : Int32)))) (upd (upd w.2.2.2.2.2.2.2.2.1 (ix ((2 : Int32) * a1)) ((w.2.2.2.1 9) &&& (-17 : Int32))) (ix (((2 : Int32) * a1) + (1 : Int32))) ((w.2.2.2.1 10) &&& (-17 : Int32))))) (cwV 0 hts gX4_fill_X4_codeOf rfl rfl rfl (by decide +kernel) ⟨Nat.le_of_ble_eq_true rfl, Nat.le_of_ble_eq_true rfl⟩) (rd_preV bl_T pr_T hK hP (va_recv hK hP (ci := 3) (q0 := 0) rfl rfl)) rfl rfl hl.1 rfl (lv_room (Nat.le_of_ble_eq_true rfl)) dX4_fill_120 ⟨Nat.zero_le _, Nat.zero_le _⟩) ?_
        refine lv_bipush (v := (63 : Int32)) hx hb dX4_fill_123 (by decide) ?_
        refine lv_icmp_ne (tgt := 132) hx hb dX4_fill_125 (by decide) (fun c_125 => ?_) (fun c_125 => ?_)
        · refine lv_iconst (v := (0 : Int32)) hx hb dX4_fill_132 (by decide) ?_
          refine q_zast (j := (ix a1)) (ws' := wM k z (ms4 (ms8 (ms8 (ms5 (ms7 (ms6 w (upd w.2.2.2.2.2.2.1 (ix a1) (fX4_pairOf (w.2.2.2.1 8)))) (upd w.2.2.2.2.2.2.2.1 (ix a1) (w.2.2.2.1 11))) (upd w.2.2.2.2.2.1 (ix a1) (1 : Int32))) (upd w.2.2.2.2.2.2.2.2.1 (ix ((2 : Int32) * a1)) ((w.2.2.2.1 9) &&& (-17 : Int32)))) (upd (upd w.2.2.2.2.2.2.2.2.1 (ix ((2 : Int32) * a1)) ((w.2.2.2.1 9) &&& (-17 : Int32))) (ix (((2 : Int32) * a1) + (1 : Int32))) ((w.2.2.2.1 10) &&& (-17 : Int32)))) (upd w.2.2.2.2.1 (ix a1) (0 : Int32)))) hx hb hK hP hD hS 5 2 rfl rfl rfl h1 rfl rfl dX4_fill_133 (fun H locs hP hD hS => ?_)
          exact W.vret hx hb hr (wr_end rfl (congrArg (wM k z) ((show fX4_fill w a1 = (ms4 (ms8 (ms8 (ms5 (ms7 (ms6 w (upd w.2.2.2.2.2.2.1 (ix a1) (fX4_pairOf (w.2.2.2.1 8)))) (upd w.2.2.2.2.2.2.2.1 (ix a1) (w.2.2.2.1 11))) (upd w.2.2.2.2.2.1 (ix a1) (1 : Int32))) (upd w.2.2.2.2.2.2.2.2.1 (ix ((2 : Int32) * a1)) ((w.2.2.2.1 9) &&& (-17 : Int32)))) (upd (upd w.2.2.2.2.2.2.2.2.1 (ix ((2 : Int32) * a1)) ((w.2.2.2.1 9) &&& (-17 : Int32))) (ix (((2 : Int32) * a1) + (1 : Int32))) ((w.2.2.2.1 10) &&& (-17 : Int32)))) (upd w.2.2.2.2.1 (ix a1) (0 : Int32))) from (if_neg c_44).trans ((if_neg c_57).trans ((if_neg c_116).trans ((if_neg c_125).trans rfl)))).symm.trans ho)) hP hS) hS.2.2 dX4_fill_134
        · refine lv_iconst (v := (1 : Int32)) hx hb dX4_fill_128 (by decide) ?_
          refine lv_goto (tgt := 133) hx hb dX4_fill_129 (by decide) ?_
          refine q_zast (j := (ix a1)) (ws' := wM k z (ms4 (ms8 (ms8 (ms5 (ms7 (ms6 w (upd w.2.2.2.2.2.2.1 (ix a1) (fX4_pairOf (w.2.2.2.1 8)))) (upd w.2.2.2.2.2.2.2.1 (ix a1) (w.2.2.2.1 11))) (upd w.2.2.2.2.2.1 (ix a1) (1 : Int32))) (upd w.2.2.2.2.2.2.2.2.1 (ix ((2 : Int32) * a1)) ((w.2.2.2.1 9) &&& (-17 : Int32)))) (upd (upd w.2.2.2.2.2.2.2.2.1 (ix ((2 : Int32) * a1)) ((w.2.2.2.1 9) &&& (-17 : Int32))) (ix (((2 : Int32) * a1) + (1 : Int32))) ((w.2.2.2.1 10) &&& (-17 : Int32)))) (upd w.2.2.2.2.1 (ix a1) (1 : Int32)))) hx hb hK hP hD hS 5 2 rfl rfl rfl h1 rfl rfl dX4_fill_133 (fun H locs hP hD hS => ?_)
          exact W.vret hx hb hr (wr_end rfl (congrArg (wM k z) ((show fX4_fill w a1 = (ms4 (ms8 (ms8 (ms5 (ms7 (ms6 w (upd w.2.2.2.2.2.2.1 (ix a1) (fX4_pairOf (w.2.2.2.1 8)))) (upd w.2.2.2.2.2.2.2.1 (ix a1) (w.2.2.2.1 11))) (upd w.2.2.2.2.2.1 (ix a1) (1 : Int32))) (upd w.2.2.2.2.2.2.2.2.1 (ix ((2 : Int32) * a1)) ((w.2.2.2.1 9) &&& (-17 : Int32)))) (upd (upd w.2.2.2.2.2.2.2.2.1 (ix ((2 : Int32) * a1)) ((w.2.2.2.1 9) &&& (-17 : Int32))) (ix (((2 : Int32) * a1) + (1 : Int32))) ((w.2.2.2.1 10) &&& (-17 : Int32)))) (upd w.2.2.2.2.1 (ix a1) (1 : Int32))) from (if_neg c_44).trans ((if_neg c_57).trans ((if_neg c_116).trans ((if_pos c_125).trans rfl)))).symm.trans ho)) hP hS) hS.2.2 dX4_fill_134
def fX4_empty_lp (a1 : Int32) (a2 : Int32) (a3 : Int32) : Nat → Nat → (MD) → Int32 × MD
  | 0, i, m9 => ((-1 : Int32), m9)
  | n + 1, i, m9 =>
    if a1 = (0 : Int32) then
      fX4_empty_lp a1 a2 a3 n (i + 1) (ms4 m9 (upd m9.2.2.2.2.1 i (0 : Int32)))
    else
      if a1 = (1 : Int32) then
        if (m9.2.2.2.2.2.1 i) = (1 : Int32) then
          fX4_empty_lp a1 a2 a3 n (i + 1) (ms4 m9 (upd m9.2.2.2.2.1 i (0 : Int32)))
        else
          fX4_empty_lp a1 a2 a3 n (i + 1) m9
      else
        if (m9.2.2.2.2.2.1 i) = (0 : Int32) then
          if a1 ≤ (2 : Int32) then
            if a1 = (4 : Int32) then
              if (m9.2.2.2.2.2.2.1 i) = (fX4_pairOf a3) then
                fX4_empty_lp a1 a2 a3 n (i + 1) (ms4 m9 (upd m9.2.2.2.2.1 i (0 : Int32)))
              else
                fX4_empty_lp a1 a2 a3 n (i + 1) m9
            else
              fX4_empty_lp a1 a2 a3 n (i + 1) (ms4 m9 (upd m9.2.2.2.2.1 i (0 : Int32)))
          else
            if (m9.2.2.2.2.2.2.2.1 i) = (a2 &&& (15 : Int32)) then
              if a1 = (4 : Int32) then
                if (m9.2.2.2.2.2.2.1 i) = (fX4_pairOf a3) then
                  fX4_empty_lp a1 a2 a3 n (i + 1) (ms4 m9 (upd m9.2.2.2.2.1 i (0 : Int32)))
                else
                  fX4_empty_lp a1 a2 a3 n (i + 1) m9
              else
                fX4_empty_lp a1 a2 a3 n (i + 1) (ms4 m9 (upd m9.2.2.2.2.1 i (0 : Int32)))
            else
              if a1 = (4 : Int32) then
                fX4_empty_lp a1 a2 a3 n (i + 1) m9
              else
                fX4_empty_lp a1 a2 a3 n (i + 1) m9
        else
          if a1 ≤ (2 : Int32) then
            if a1 = (4 : Int32) then
              fX4_empty_lp a1 a2 a3 n (i + 1) m9
            else
              fX4_empty_lp a1 a2 a3 n (i + 1) m9
          else
            if a1 = (4 : Int32) then
              fX4_empty_lp a1 a2 a3 n (i + 1) m9
            else
              fX4_empty_lp a1 a2 a3 n (i + 1) m9
def fX4_empty (w : MD) (a1 : Int32) (a2 : Int32) (a3 : Int32) : Int32 × MD :=
  if a1 ≤ (4 : Int32) then
    fX4_empty_lp a1 a2 a3 4 0 w
  else
    ((fX4_with w (13 : Int32) (0 : Int32) (0 : Int32)).1, (fX4_with w (13 : Int32) (0 : Int32) (0 : Int32)).2)
set_option maxHeartbeats 4000000 in
set_option maxRecDepth 100000 in
theorem kX4_empty (l : Launch) (D : va_G) (k : Nat → ClassId) (z : Nat → Nat) (w : MD) (a1 : Int32) (a2 : Int32) (a3 : Int32)  (o : Int32 × (MD)) (ho : fX4_empty w a1 a2 a3 = o) : Met l yX4_empty wsX4_empty { frames := 1, cells := 0, slots := 0, locals := 23 } (wr_P D vwCl (tyL k) (wM k z w) (fun _ => True) [.ref (z 0), .int a1, .int a2, .int a3]) (wr_Q D vwCl (some (.int o.1)) (wM k z w) (wM k z o.2)) 0 0 (in_W (wM k z w)) := by
  refine Met.ofW (cc := cX4_empty) (maxL := 6) (ret := (some .int)) (by decide) rfl ?_
  intro p e s m args below meth c s₁ B hml hv0
  obtain ⟨rfl, hP, hK, hX, hD0⟩ := hv0
  have hx := B.exec
  have hb := B.bytes
  have hr := B.returns
  have hts := atoms_spec (ws := wsX4_empty) B.pre
  have hown : s.vm.findClass RX4 = some m.cls := findClass_of_methodNamed B.named
  have hlocks := B.notSynchronized
  have hD : va_D (in_W (wM k z w)) (wM k z w) := wD_self hD0
  have hS : va_S (in_W (wM k z w)) s.heap s.heap [] := va_S.rf
  have hl := lv_entry ([.ref (z 0), .int a1, .int a2, .int a3]) (n := 6) (Nat.le_of_ble_eq_true rfl)
  rw [lg_entry_eq]
  generalize (lg_sl ([.ref (z 0), .int a1, .int a2, .int a3]) ++ List.replicate (6 - (lg_sl ([.ref (z 0), .int a1, .int a2, .int a3])).length) Slot.unset).toArray = ls at hl ⊢
  have hl : lv_has ls 6 [(0, .ref (z 0)), (1, .int a1), (2, .int a2), (3, .int a3)] := hl
  have lp : ∀ (n i : Nat) (m9 : MD) (H : Heap) (locs : List Loc), i + n = 4 → fX4_empty_lp a1 a2 a3 n i m9 = fX4_empty w a1 a2 a3 → va_P D vwCl (wM k z m9) H → va_D (in_W (wM k z w)) (wM k z m9) → va_S (in_W (wM k z w)) s.heap H locs → ∀ ls : Array Slot, lv_has ls 6 [(0, .ref (z 0)), (1, .int a1), (2, .int a2), (3, .int a3), (4, .int (nI i))] → W p l e (headSpec wsX4_empty { frames := 1, cells := 0, slots := 0, locals := 23 }).room s m ([.ref (z 0), .int a1, .int a2, .int a3] : List Value).toArray below meth c H locs 0 0 (MQ below (wr_Q D vwCl (some (.int o.1)) (wM k z w) (wM k z o.2)) ([.ref (z 0), .int a1, .int a2, .int a3] : List Value).toArray s 0 0 (in_W (wM k z w))) (F0 m 17 ls []) := by
    intro n
    induction n with
    | zero =>
      intro i m9  H locs hin heq hP hD hS  ls hl
      refine lv_iload hx hb dX4_empty_17 (lv_at hl 4 rfl) ?_
      refine lv_iconst (v := (4 : Int32)) hx hb dX4_empty_19 (by decide) ?_
      refine lv_icmp_ge (tgt := 135) hx hb dX4_empty_20 (by decide) (fun _ => ?_) (fun c9 => absurd (m4_t (by omega)) c9)
      refine lv_iconst (v := (-1 : Int32)) hx hb dX4_empty_135 (by decide) ?_
      exact W.iret (v := (-1 : Int32)) hx hb hr (wr_end (congrArg (fun t9 : Int32 × MD => some (Value.int t9.1)) ((show fX4_empty w a1 a2 a3 = ((-1 : Int32), m9) from heq.symm.trans (show fX4_empty_lp a1 a2 a3 0 i m9 = ((-1 : Int32), m9) from rfl)).symm.trans ho)) (congrArg (fun t9 : Int32 × MD => wM k z t9.2) ((show fX4_empty w a1 a2 a3 = ((-1 : Int32), m9) from heq.symm.trans (show fX4_empty_lp a1 a2 a3 0 i m9 = ((-1 : Int32), m9) from rfl)).symm.trans ho)) hP hS) hS.2.2 dX4_empty_136
    | succ n ih =>
      intro i m9  H locs hin heq hP hD hS  ls hl
      refine lv_iload hx hb dX4_empty_17 (lv_at hl 4 rfl) ?_
      refine lv_iconst (v := (4 : Int32)) hx hb dX4_empty_19 (by decide) ?_
      refine lv_icmp_ge (tgt := 135) hx hb dX4_empty_20 (by decide) (fun c9 => absurd c9 (m4_f (by omega))) (fun _ => ?_)
      refine lv_iload_n hx hb dX4_empty_23 rfl (lv_at hl 1 rfl) ?_
      refine lv_if_eq (tgt := 47) hx hb dX4_empty_24 (by decide) (fun c_24 => ?_) (fun c_24 => ?_)
      · refine lv_iconst (v := (1 : Int32)) hx hb dX4_empty_47 (by decide) ?_
        refine lv_goto (tgt := 52) hx hb dX4_empty_48 (by decide) ?_
        refine lv_istore (lv' := [(5, .int (1 : Int32)), (0, .ref (z 0)), (1, .int a1), (2, .int a2), (3, .int a3), (4, .int (nI i))]) hx hb dX4_empty_52 hl (by decide) rfl (fun ls hl => ?_)
        refine lv_iload_n hx hb dX4_empty_54 rfl (lv_at hl 2 rfl) ?_
        refine lv_iconst (v := (2 : Int32)) hx hb dX4_empty_55 (by decide) ?_
        refine lv_icmp_le (tgt := 85) hx hb dX4_empty_56 (by decide) (fun _ => ?_) (fun c9 => absurd (show (a1 ≤ (2 : Int32)) by rw [c_24]; decide) c9)
        refine lv_iload_n hx hb dX4_empty_85 rfl (lv_at hl 2 rfl) ?_
        refine lv_iconst (v := (4 : Int32)) hx hb dX4_empty_86 (by decide) ?_
        refine lv_icmp_ne (tgt := 116) hx hb dX4_empty_87 (by decide) (fun _ => ?_) (fun c9 => absurd c9 (show ¬ (a1 = (4 : Int32)) by rw [c_24]; decide))
        refine lv_iload hx hb dX4_empty_116 (lv_at hl 0 rfl) ?_
        refine lv_if_eq (tgt := 129) hx hb dX4_empty_118 (by decide) (fun c9 => absurd c9 (by decide)) (fun _ => ?_)
        refine lv_aload_n hx hb dX4_empty_121 rfl (lv_at hl 1 rfl) ?_
        refine va_get (D := D) (ci := 3) (v := .ref (z 5)) (C := RX4) (T := TX4) (N := 20) hx hb hts (by decide +kernel) hown hK hP 0 rfl rfl 5 (by decide) (hts (.fieldLink RX4 25 "TrapMachineModel" "there" "[Z") (by decide +kernel)) (fun _ h9 => h9) rfl dX4_empty_122 ?_
        refine lv_iload hx hb dX4_empty_125 (lv_at hl 5 rfl) ?_
        refine lv_iconst (v := (0 : Int32)) hx hb dX4_empty_127 (by decide) ?_
        refine q_zast (j := i) (ws' := wM k z (ms4 m9 (upd m9.2.2.2.2.1 i (0 : Int32)))) hx hb hK hP hD hS 5 2 rfl rfl rfl (vp_in_nI (by omega) (by omega)) (ix_nI (by omega)) rfl dX4_empty_128 (fun H locs hP hD hS => ?_)
        refine lv_iinc (v := ((nI i) + (1 : Int32))) (lv' := [(4, .int ((nI i) + (1 : Int32))), (5, .int (1 : Int32)), (0, .ref (z 0)), (1, .int a1), (2, .int a2), (3, .int a3)]) hx hb dX4_empty_129 hl (k := 5) rfl rfl (by decide) rfl (fun ls hl => ?_)
        refine lv_goto (tgt := 17) hx hb dX4_empty_132 (by decide) ?_
        exact ih (i + 1) (ms4 m9 (upd m9.2.2.2.2.1 i (0 : Int32)))  H locs (by omega) ((show fX4_empty_lp a1 a2 a3 (n + 1) i m9 = fX4_empty_lp a1 a2 a3 n (i + 1) (ms4 m9 (upd m9.2.2.2.2.1 i (0 : Int32))) from (if_pos c_24).trans rfl).symm.trans heq) hP hD hS ls (by rw [← nI_1 i]; exact lv_sub hl [2, 3, 4, 5, 0] rfl)
      · refine lv_aload_n hx hb dX4_empty_27 rfl (lv_at hl 0 rfl) ?_
        refine va_get (D := D) (ci := 3) (v := .ref (z 6)) (C := RX4) (T := TX4) (N := 20) hx hb hts (by decide +kernel) hown hK hP 0 rfl rfl 6 (by decide) (hts (.fieldLink RX4 29 "TrapMachineModel" "global" "[Z") (by decide +kernel)) (fun _ h9 => h9) rfl dX4_empty_28 ?_
        refine lv_iload hx hb dX4_empty_31 (lv_at hl 4 rfl) ?_
        refine q_zald (j := i) (x9 := (m9.2.2.2.2.2.1 i)) hx hb hK hP 6 2 rfl rfl (vp_in_nI (by omega) (by omega)) (ix_nI (by omega)) rfl dX4_empty_33 ?_
        refine lv_iload_n hx hb dX4_empty_34 rfl (lv_at hl 1 rfl) ?_
        refine lv_iconst (v := (1 : Int32)) hx hb dX4_empty_35 (by decide) ?_
        refine lv_icmp_ne (tgt := 43) hx hb dX4_empty_36 (by decide) (fun c_36 => ?_) (fun c_36 => ?_)
        · refine lv_iconst (v := (0 : Int32)) hx hb dX4_empty_43 (by decide) ?_
          refine lv_icmp_ne (tgt := 51) hx hb dX4_empty_44 (by decide) (fun c_44 => ?_) (fun c_44 => ?_)
          · refine lv_iconst (v := (0 : Int32)) hx hb dX4_empty_51 (by decide) ?_
            refine lv_istore (lv' := [(5, .int (0 : Int32)), (0, .ref (z 0)), (1, .int a1), (2, .int a2), (3, .int a3), (4, .int (nI i))]) hx hb dX4_empty_52 hl (by decide) rfl (fun ls hl => ?_)
            refine lv_iload_n hx hb dX4_empty_54 rfl (lv_at hl 2 rfl) ?_
            refine lv_iconst (v := (2 : Int32)) hx hb dX4_empty_55 (by decide) ?_
            refine lv_icmp_le (tgt := 85) hx hb dX4_empty_56 (by decide) (fun c_56 => ?_) (fun c_56 => ?_)
            · refine lv_iload_n hx hb dX4_empty_85 rfl (lv_at hl 2 rfl) ?_
              refine lv_iconst (v := (4 : Int32)) hx hb dX4_empty_86 (by decide) ?_
              refine lv_icmp_ne (tgt := 116) hx hb dX4_empty_87 (by decide) (fun c_87 => ?_) (fun c_87 => ?_)
              · refine lv_iload hx hb dX4_empty_116 (lv_at hl 0 rfl) ?_
                refine lv_if_eq (tgt := 129) hx hb dX4_empty_118 (by decide) (fun _ => ?_) (fun c9 => absurd (by decide) c9)
                refine lv_iinc (v := ((nI i) + (1 : Int32))) (lv' := [(4, .int ((nI i) + (1 : Int32))), (5, .int (0 : Int32)), (0, .ref (z 0)), (1, .int a1), (2, .int a2), (3, .int a3)]) hx hb dX4_empty_129 hl (k := 5) rfl rfl (by decide) rfl (fun ls hl => ?_)
                refine lv_goto (tgt := 17) hx hb dX4_empty_132 (by decide) ?_
                exact ih (i + 1) m9  H locs (by omega) ((show fX4_empty_lp a1 a2 a3 (n + 1) i m9 = fX4_empty_lp a1 a2 a3 n (i + 1) m9 from (if_neg c_24).trans ((if_neg c_36).trans ((if_neg c_44).trans ((if_pos c_56).trans ((if_neg c_87).trans rfl))))).symm.trans heq) hP hD hS ls (by rw [← nI_1 i]; exact lv_sub hl [2, 3, 4, 5, 0] rfl)
              · refine lv_iload hx hb dX4_empty_90 (lv_at hl 0 rfl) ?_
                refine lv_if_eq (tgt := 113) hx hb dX4_empty_92 (by decide) (fun _ => ?_) (fun c9 => absurd (by decide) c9)
                refine lv_iconst (v := (0 : Int32)) hx hb dX4_empty_113 (by decide) ?_
                refine lv_istore (lv' := [(5, .int (0 : Int32)), (0, .ref (z 0)), (1, .int a1), (2, .int a2), (3, .int a3), (4, .int (nI i))]) hx hb dX4_empty_114 hl (by decide) rfl (fun ls hl => ?_)
                refine lv_iload hx hb dX4_empty_116 (lv_at hl 0 rfl) ?_
                refine lv_if_eq (tgt := 129) hx hb dX4_empty_118 (by decide) (fun _ => ?_) (fun c9 => absurd (by decide) c9)
                refine lv_iinc (v := ((nI i) + (1 : Int32))) (lv' := [(4, .int ((nI i) + (1 : Int32))), (5, .int (0 : Int32)), (0, .ref (z 0)), (1, .int a1), (2, .int a2), (3, .int a3)]) hx hb dX4_empty_129 hl (k := 5) rfl rfl (by decide) rfl (fun ls hl => ?_)
                refine lv_goto (tgt := 17) hx hb dX4_empty_132 (by decide) ?_
                exact ih (i + 1) m9  H locs (by omega) ((show fX4_empty_lp a1 a2 a3 (n + 1) i m9 = fX4_empty_lp a1 a2 a3 n (i + 1) m9 from (if_neg c_24).trans ((if_neg c_36).trans ((if_neg c_44).trans ((if_pos c_56).trans ((if_pos c_87).trans rfl))))).symm.trans heq) hP hD hS ls (by rw [← nI_1 i]; exact lv_sub hl [2, 3, 4, 5, 0] rfl)
            · refine lv_iload hx hb dX4_empty_59 (lv_at hl 0 rfl) ?_
              refine lv_if_eq (tgt := 82) hx hb dX4_empty_61 (by decide) (fun _ => ?_) (fun c9 => absurd (by decide) c9)
              refine lv_iconst (v := (0 : Int32)) hx hb dX4_empty_82 (by decide) ?_
              refine lv_istore (lv' := [(5, .int (0 : Int32)), (0, .ref (z 0)), (1, .int a1), (2, .int a2), (3, .int a3), (4, .int (nI i))]) hx hb dX4_empty_83 hl (by decide) rfl (fun ls hl => ?_)
              refine lv_iload_n hx hb dX4_empty_85 rfl (lv_at hl 2 rfl) ?_
              refine lv_iconst (v := (4 : Int32)) hx hb dX4_empty_86 (by decide) ?_
              refine lv_icmp_ne (tgt := 116) hx hb dX4_empty_87 (by decide) (fun c_87 => ?_) (fun c_87 => ?_)
              · refine lv_iload hx hb dX4_empty_116 (lv_at hl 0 rfl) ?_
                refine lv_if_eq (tgt := 129) hx hb dX4_empty_118 (by decide) (fun _ => ?_) (fun c9 => absurd (by decide) c9)
                refine lv_iinc (v := ((nI i) + (1 : Int32))) (lv' := [(4, .int ((nI i) + (1 : Int32))), (5, .int (0 : Int32)), (0, .ref (z 0)), (1, .int a1), (2, .int a2), (3, .int a3)]) hx hb dX4_empty_129 hl (k := 5) rfl rfl (by decide) rfl (fun ls hl => ?_)
                refine lv_goto (tgt := 17) hx hb dX4_empty_132 (by decide) ?_
                exact ih (i + 1) m9  H locs (by omega) ((show fX4_empty_lp a1 a2 a3 (n + 1) i m9 = fX4_empty_lp a1 a2 a3 n (i + 1) m9 from (if_neg c_24).trans ((if_neg c_36).trans ((if_neg c_44).trans ((if_neg c_56).trans ((if_neg c_87).trans rfl))))).symm.trans heq) hP hD hS ls (by rw [← nI_1 i]; exact lv_sub hl [2, 3, 4, 5, 0] rfl)
              · refine lv_iload hx hb dX4_empty_90 (lv_at hl 0 rfl) ?_
                refine lv_if_eq (tgt := 113) hx hb dX4_empty_92 (by decide) (fun _ => ?_) (fun c9 => absurd (by decide) c9)
                refine lv_iconst (v := (0 : Int32)) hx hb dX4_empty_113 (by decide) ?_
                refine lv_istore (lv' := [(5, .int (0 : Int32)), (0, .ref (z 0)), (1, .int a1), (2, .int a2), (3, .int a3), (4, .int (nI i))]) hx hb dX4_empty_114 hl (by decide) rfl (fun ls hl => ?_)
                refine lv_iload hx hb dX4_empty_116 (lv_at hl 0 rfl) ?_
                refine lv_if_eq (tgt := 129) hx hb dX4_empty_118 (by decide) (fun _ => ?_) (fun c9 => absurd (by decide) c9)
                refine lv_iinc (v := ((nI i) + (1 : Int32))) (lv' := [(4, .int ((nI i) + (1 : Int32))), (5, .int (0 : Int32)), (0, .ref (z 0)), (1, .int a1), (2, .int a2), (3, .int a3)]) hx hb dX4_empty_129 hl (k := 5) rfl rfl (by decide) rfl (fun ls hl => ?_)
                refine lv_goto (tgt := 17) hx hb dX4_empty_132 (by decide) ?_
                exact ih (i + 1) m9  H locs (by omega) ((show fX4_empty_lp a1 a2 a3 (n + 1) i m9 = fX4_empty_lp a1 a2 a3 n (i + 1) m9 from (if_neg c_24).trans ((if_neg c_36).trans ((if_neg c_44).trans ((if_neg c_56).trans ((if_pos c_87).trans rfl))))).symm.trans heq) hP hD hS ls (by rw [← nI_1 i]; exact lv_sub hl [2, 3, 4, 5, 0] rfl)
          · refine lv_iconst (v := (1 : Int32)) hx hb dX4_empty_47 (by decide) ?_
            refine lv_goto (tgt := 52) hx hb dX4_empty_48 (by decide) ?_
            refine lv_istore (lv' := [(5, .int (1 : Int32)), (0, .ref (z 0)), (1, .int a1), (2, .int a2), (3, .int a3), (4, .int (nI i))]) hx hb dX4_empty_52 hl (by decide) rfl (fun ls hl => ?_)
            refine lv_iload_n hx hb dX4_empty_54 rfl (lv_at hl 2 rfl) ?_
            refine lv_iconst (v := (2 : Int32)) hx hb dX4_empty_55 (by decide) ?_
            refine lv_icmp_le (tgt := 85) hx hb dX4_empty_56 (by decide) (fun c_56 => ?_) (fun c_56 => ?_)
            · refine lv_iload_n hx hb dX4_empty_85 rfl (lv_at hl 2 rfl) ?_
              refine lv_iconst (v := (4 : Int32)) hx hb dX4_empty_86 (by decide) ?_
              refine lv_icmp_ne (tgt := 116) hx hb dX4_empty_87 (by decide) (fun c_87 => ?_) (fun c_87 => ?_)
              · refine lv_iload hx hb dX4_empty_116 (lv_at hl 0 rfl) ?_
                refine lv_if_eq (tgt := 129) hx hb dX4_empty_118 (by decide) (fun c9 => absurd c9 (by decide)) (fun _ => ?_)
                refine lv_aload_n hx hb dX4_empty_121 rfl (lv_at hl 1 rfl) ?_
                refine va_get (D := D) (ci := 3) (v := .ref (z 5)) (C := RX4) (T := TX4) (N := 20) hx hb hts (by decide +kernel) hown hK hP 0 rfl rfl 5 (by decide) (hts (.fieldLink RX4 25 "TrapMachineModel" "there" "[Z") (by decide +kernel)) (fun _ h9 => h9) rfl dX4_empty_122 ?_
                refine lv_iload hx hb dX4_empty_125 (lv_at hl 5 rfl) ?_
                refine lv_iconst (v := (0 : Int32)) hx hb dX4_empty_127 (by decide) ?_
                refine q_zast (j := i) (ws' := wM k z (ms4 m9 (upd m9.2.2.2.2.1 i (0 : Int32)))) hx hb hK hP hD hS 5 2 rfl rfl rfl (vp_in_nI (by omega) (by omega)) (ix_nI (by omega)) rfl dX4_empty_128 (fun H locs hP hD hS => ?_)
                refine lv_iinc (v := ((nI i) + (1 : Int32))) (lv' := [(4, .int ((nI i) + (1 : Int32))), (5, .int (1 : Int32)), (0, .ref (z 0)), (1, .int a1), (2, .int a2), (3, .int a3)]) hx hb dX4_empty_129 hl (k := 5) rfl rfl (by decide) rfl (fun ls hl => ?_)
                refine lv_goto (tgt := 17) hx hb dX4_empty_132 (by decide) ?_
                exact ih (i + 1) (ms4 m9 (upd m9.2.2.2.2.1 i (0 : Int32)))  H locs (by omega) ((show fX4_empty_lp a1 a2 a3 (n + 1) i m9 = fX4_empty_lp a1 a2 a3 n (i + 1) (ms4 m9 (upd m9.2.2.2.2.1 i (0 : Int32))) from (if_neg c_24).trans ((if_neg c_36).trans ((if_pos c_44).trans ((if_pos c_56).trans ((if_neg c_87).trans rfl))))).symm.trans heq) hP hD hS ls (by rw [← nI_1 i]; exact lv_sub hl [2, 3, 4, 5, 0] rfl)
              · refine lv_iload hx hb dX4_empty_90 (lv_at hl 0 rfl) ?_
                refine lv_if_eq (tgt := 113) hx hb dX4_empty_92 (by decide) (fun c9 => absurd c9 (by decide)) (fun _ => ?_)
                refine lv_aload_n hx hb dX4_empty_95 rfl (lv_at hl 1 rfl) ?_
                refine va_get (D := D) (ci := 3) (v := .ref (z 7)) (C := RX4) (T := TX4) (N := 20) hx hb hts (by decide +kernel) hown hK hP 0 rfl rfl 7 (by decide) (hts (.fieldLink RX4 32 "TrapMachineModel" "pair" "[I") (by decide +kernel)) (fun _ h9 => h9) rfl dX4_empty_96 ?_
                refine lv_iload hx hb dX4_empty_99 (lv_at hl 5 rfl) ?_
                refine q_iald (j := i) (x9 := (m9.2.2.2.2.2.2.1 i)) hx hb hK hP 7 0 rfl rfl (vp_in_nI (by omega) (by omega)) (ix_nI (by omega)) rfl dX4_empty_101 ?_
                refine lv_iload_n hx hb dX4_empty_102 rfl (lv_at hl 4 rfl) ?_
                refine rd_call (r := (fX4_pairOf a3)) (W.runS (As := [.int a3]) (rest := [.int (m9.2.2.2.2.2.2.1 i)]) ⟨hx, hb, hml, hown, hts⟩ (kX4_pairOf l a3) (va_cwS 1 hts gX4_empty_X4_pairOf rfl rfl rfl (by decide +kernel) ⟨Nat.le_of_ble_eq_true rfl, Nat.le_of_ble_eq_true rfl⟩) preEq rfl rfl hl.1 rfl (lv_room (Nat.le_of_ble_eq_true rfl)) dX4_empty_103 ⟨Nat.zero_le _, Nat.zero_le _⟩) ?_
                refine lv_icmp_ne (tgt := 113) hx hb dX4_empty_106 (by decide) (fun c_106 => ?_) (fun c_106 => ?_)
                · refine lv_iconst (v := (0 : Int32)) hx hb dX4_empty_113 (by decide) ?_
                  refine lv_istore (lv' := [(5, .int (0 : Int32)), (0, .ref (z 0)), (1, .int a1), (2, .int a2), (3, .int a3), (4, .int (nI i))]) hx hb dX4_empty_114 hl (by decide) rfl (fun ls hl => ?_)
                  refine lv_iload hx hb dX4_empty_116 (lv_at hl 0 rfl) ?_
                  refine lv_if_eq (tgt := 129) hx hb dX4_empty_118 (by decide) (fun _ => ?_) (fun c9 => absurd (by decide) c9)
                  refine lv_iinc (v := ((nI i) + (1 : Int32))) (lv' := [(4, .int ((nI i) + (1 : Int32))), (5, .int (0 : Int32)), (0, .ref (z 0)), (1, .int a1), (2, .int a2), (3, .int a3)]) hx hb dX4_empty_129 hl (k := 5) rfl rfl (by decide) rfl (fun ls hl => ?_)
                  refine lv_goto (tgt := 17) hx hb dX4_empty_132 (by decide) ?_
                  exact ih (i + 1) m9  H locs (by omega) ((show fX4_empty_lp a1 a2 a3 (n + 1) i m9 = fX4_empty_lp a1 a2 a3 n (i + 1) m9 from (if_neg c_24).trans ((if_neg c_36).trans ((if_pos c_44).trans ((if_pos c_56).trans ((if_pos c_87).trans ((if_neg c_106).trans rfl)))))).symm.trans heq) hP hD hS ls (by rw [← nI_1 i]; exact lv_sub hl [2, 3, 4, 5, 0] rfl)
                · refine lv_iconst (v := (1 : Int32)) hx hb dX4_empty_109 (by decide) ?_
                  refine lv_goto (tgt := 114) hx hb dX4_empty_110 (by decide) ?_
                  refine lv_istore (lv' := [(5, .int (1 : Int32)), (0, .ref (z 0)), (1, .int a1), (2, .int a2), (3, .int a3), (4, .int (nI i))]) hx hb dX4_empty_114 hl (by decide) rfl (fun ls hl => ?_)
                  refine lv_iload hx hb dX4_empty_116 (lv_at hl 0 rfl) ?_
                  refine lv_if_eq (tgt := 129) hx hb dX4_empty_118 (by decide) (fun c9 => absurd c9 (by decide)) (fun _ => ?_)
                  refine lv_aload_n hx hb dX4_empty_121 rfl (lv_at hl 1 rfl) ?_
                  refine va_get (D := D) (ci := 3) (v := .ref (z 5)) (C := RX4) (T := TX4) (N := 20) hx hb hts (by decide +kernel) hown hK hP 0 rfl rfl 5 (by decide) (hts (.fieldLink RX4 25 "TrapMachineModel" "there" "[Z") (by decide +kernel)) (fun _ h9 => h9) rfl dX4_empty_122 ?_
                  refine lv_iload hx hb dX4_empty_125 (lv_at hl 5 rfl) ?_
                  refine lv_iconst (v := (0 : Int32)) hx hb dX4_empty_127 (by decide) ?_
                  refine q_zast (j := i) (ws' := wM k z (ms4 m9 (upd m9.2.2.2.2.1 i (0 : Int32)))) hx hb hK hP hD hS 5 2 rfl rfl rfl (vp_in_nI (by omega) (by omega)) (ix_nI (by omega)) rfl dX4_empty_128 (fun H locs hP hD hS => ?_)
                  refine lv_iinc (v := ((nI i) + (1 : Int32))) (lv' := [(4, .int ((nI i) + (1 : Int32))), (5, .int (1 : Int32)), (0, .ref (z 0)), (1, .int a1), (2, .int a2), (3, .int a3)]) hx hb dX4_empty_129 hl (k := 5) rfl rfl (by decide) rfl (fun ls hl => ?_)
                  refine lv_goto (tgt := 17) hx hb dX4_empty_132 (by decide) ?_
                  exact ih (i + 1) (ms4 m9 (upd m9.2.2.2.2.1 i (0 : Int32)))  H locs (by omega) ((show fX4_empty_lp a1 a2 a3 (n + 1) i m9 = fX4_empty_lp a1 a2 a3 n (i + 1) (ms4 m9 (upd m9.2.2.2.2.1 i (0 : Int32))) from (if_neg c_24).trans ((if_neg c_36).trans ((if_pos c_44).trans ((if_pos c_56).trans ((if_pos c_87).trans ((if_pos c_106).trans rfl)))))).symm.trans heq) hP hD hS ls (by rw [← nI_1 i]; exact lv_sub hl [2, 3, 4, 5, 0] rfl)
            · refine lv_iload hx hb dX4_empty_59 (lv_at hl 0 rfl) ?_
              refine lv_if_eq (tgt := 82) hx hb dX4_empty_61 (by decide) (fun c9 => absurd c9 (by decide)) (fun _ => ?_)
              refine lv_aload_n hx hb dX4_empty_64 rfl (lv_at hl 1 rfl) ?_
              refine va_get (D := D) (ci := 3) (v := .ref (z 8)) (C := RX4) (T := TX4) (N := 20) hx hb hts (by decide +kernel) hown hK hP 0 rfl rfl 8 (by decide) (hts (.fieldLink RX4 35 "TrapMachineModel" "space" "[I") (by decide +kernel)) (fun _ h9 => h9) rfl dX4_empty_65 ?_
              refine lv_iload hx hb dX4_empty_68 (lv_at hl 5 rfl) ?_
              refine q_iald (j := i) (x9 := (m9.2.2.2.2.2.2.2.1 i)) hx hb hK hP 8 0 rfl rfl (vp_in_nI (by omega) (by omega)) (ix_nI (by omega)) rfl dX4_empty_70 ?_
              refine lv_iload_n hx hb dX4_empty_71 rfl (lv_at hl 3 rfl) ?_
              refine lv_bipush (v := (15 : Int32)) hx hb dX4_empty_72 (by decide) ?_
              refine lv_iand hx hb dX4_empty_74 ?_
              refine lv_icmp_ne (tgt := 82) hx hb dX4_empty_75 (by decide) (fun c_75 => ?_) (fun c_75 => ?_)
              · refine lv_iconst (v := (0 : Int32)) hx hb dX4_empty_82 (by decide) ?_
                refine lv_istore (lv' := [(5, .int (0 : Int32)), (0, .ref (z 0)), (1, .int a1), (2, .int a2), (3, .int a3), (4, .int (nI i))]) hx hb dX4_empty_83 hl (by decide) rfl (fun ls hl => ?_)
                refine lv_iload_n hx hb dX4_empty_85 rfl (lv_at hl 2 rfl) ?_
                refine lv_iconst (v := (4 : Int32)) hx hb dX4_empty_86 (by decide) ?_
                refine lv_icmp_ne (tgt := 116) hx hb dX4_empty_87 (by decide) (fun c_87 => ?_) (fun c_87 => ?_)
                · refine lv_iload hx hb dX4_empty_116 (lv_at hl 0 rfl) ?_
                  refine lv_if_eq (tgt := 129) hx hb dX4_empty_118 (by decide) (fun _ => ?_) (fun c9 => absurd (by decide) c9)
                  refine lv_iinc (v := ((nI i) + (1 : Int32))) (lv' := [(4, .int ((nI i) + (1 : Int32))), (5, .int (0 : Int32)), (0, .ref (z 0)), (1, .int a1), (2, .int a2), (3, .int a3)]) hx hb dX4_empty_129 hl (k := 5) rfl rfl (by decide) rfl (fun ls hl => ?_)
                  refine lv_goto (tgt := 17) hx hb dX4_empty_132 (by decide) ?_
                  exact ih (i + 1) m9  H locs (by omega) ((show fX4_empty_lp a1 a2 a3 (n + 1) i m9 = fX4_empty_lp a1 a2 a3 n (i + 1) m9 from (if_neg c_24).trans ((if_neg c_36).trans ((if_pos c_44).trans ((if_neg c_56).trans ((if_neg c_75).trans ((if_neg c_87).trans rfl)))))).symm.trans heq) hP hD hS ls (by rw [← nI_1 i]; exact lv_sub hl [2, 3, 4, 5, 0] rfl)
                · refine lv_iload hx hb dX4_empty_90 (lv_at hl 0 rfl) ?_
                  refine lv_if_eq (tgt := 113) hx hb dX4_empty_92 (by decide) (fun _ => ?_) (fun c9 => absurd (by decide) c9)
                  refine lv_iconst (v := (0 : Int32)) hx hb dX4_empty_113 (by decide) ?_
                  refine lv_istore (lv' := [(5, .int (0 : Int32)), (0, .ref (z 0)), (1, .int a1), (2, .int a2), (3, .int a3), (4, .int (nI i))]) hx hb dX4_empty_114 hl (by decide) rfl (fun ls hl => ?_)
                  refine lv_iload hx hb dX4_empty_116 (lv_at hl 0 rfl) ?_
                  refine lv_if_eq (tgt := 129) hx hb dX4_empty_118 (by decide) (fun _ => ?_) (fun c9 => absurd (by decide) c9)
                  refine lv_iinc (v := ((nI i) + (1 : Int32))) (lv' := [(4, .int ((nI i) + (1 : Int32))), (5, .int (0 : Int32)), (0, .ref (z 0)), (1, .int a1), (2, .int a2), (3, .int a3)]) hx hb dX4_empty_129 hl (k := 5) rfl rfl (by decide) rfl (fun ls hl => ?_)
                  refine lv_goto (tgt := 17) hx hb dX4_empty_132 (by decide) ?_
                  exact ih (i + 1) m9  H locs (by omega) ((show fX4_empty_lp a1 a2 a3 (n + 1) i m9 = fX4_empty_lp a1 a2 a3 n (i + 1) m9 from (if_neg c_24).trans ((if_neg c_36).trans ((if_pos c_44).trans ((if_neg c_56).trans ((if_neg c_75).trans ((if_pos c_87).trans rfl)))))).symm.trans heq) hP hD hS ls (by rw [← nI_1 i]; exact lv_sub hl [2, 3, 4, 5, 0] rfl)
              · refine lv_iconst (v := (1 : Int32)) hx hb dX4_empty_78 (by decide) ?_
                refine lv_goto (tgt := 83) hx hb dX4_empty_79 (by decide) ?_
                refine lv_istore (lv' := [(5, .int (1 : Int32)), (0, .ref (z 0)), (1, .int a1), (2, .int a2), (3, .int a3), (4, .int (nI i))]) hx hb dX4_empty_83 hl (by decide) rfl (fun ls hl => ?_)
                refine lv_iload_n hx hb dX4_empty_85 rfl (lv_at hl 2 rfl) ?_
                refine lv_iconst (v := (4 : Int32)) hx hb dX4_empty_86 (by decide) ?_
                refine lv_icmp_ne (tgt := 116) hx hb dX4_empty_87 (by decide) (fun c_87 => ?_) (fun c_87 => ?_)
                · refine lv_iload hx hb dX4_empty_116 (lv_at hl 0 rfl) ?_
                  refine lv_if_eq (tgt := 129) hx hb dX4_empty_118 (by decide) (fun c9 => absurd c9 (by decide)) (fun _ => ?_)
                  refine lv_aload_n hx hb dX4_empty_121 rfl (lv_at hl 1 rfl) ?_
                  refine va_get (D := D) (ci := 3) (v := .ref (z 5)) (C := RX4) (T := TX4) (N := 20) hx hb hts (by decide +kernel) hown hK hP 0 rfl rfl 5 (by decide) (hts (.fieldLink RX4 25 "TrapMachineModel" "there" "[Z") (by decide +kernel)) (fun _ h9 => h9) rfl dX4_empty_122 ?_
                  refine lv_iload hx hb dX4_empty_125 (lv_at hl 5 rfl) ?_
                  refine lv_iconst (v := (0 : Int32)) hx hb dX4_empty_127 (by decide) ?_
                  refine q_zast (j := i) (ws' := wM k z (ms4 m9 (upd m9.2.2.2.2.1 i (0 : Int32)))) hx hb hK hP hD hS 5 2 rfl rfl rfl (vp_in_nI (by omega) (by omega)) (ix_nI (by omega)) rfl dX4_empty_128 (fun H locs hP hD hS => ?_)
                  refine lv_iinc (v := ((nI i) + (1 : Int32))) (lv' := [(4, .int ((nI i) + (1 : Int32))), (5, .int (1 : Int32)), (0, .ref (z 0)), (1, .int a1), (2, .int a2), (3, .int a3)]) hx hb dX4_empty_129 hl (k := 5) rfl rfl (by decide) rfl (fun ls hl => ?_)
                  refine lv_goto (tgt := 17) hx hb dX4_empty_132 (by decide) ?_
                  exact ih (i + 1) (ms4 m9 (upd m9.2.2.2.2.1 i (0 : Int32)))  H locs (by omega) ((show fX4_empty_lp a1 a2 a3 (n + 1) i m9 = fX4_empty_lp a1 a2 a3 n (i + 1) (ms4 m9 (upd m9.2.2.2.2.1 i (0 : Int32))) from (if_neg c_24).trans ((if_neg c_36).trans ((if_pos c_44).trans ((if_neg c_56).trans ((if_pos c_75).trans ((if_neg c_87).trans rfl)))))).symm.trans heq) hP hD hS ls (by rw [← nI_1 i]; exact lv_sub hl [2, 3, 4, 5, 0] rfl)
                · refine lv_iload hx hb dX4_empty_90 (lv_at hl 0 rfl) ?_
                  refine lv_if_eq (tgt := 113) hx hb dX4_empty_92 (by decide) (fun c9 => absurd c9 (by decide)) (fun _ => ?_)
                  refine lv_aload_n hx hb dX4_empty_95 rfl (lv_at hl 1 rfl) ?_
                  refine va_get (D := D) (ci := 3) (v := .ref (z 7)) (C := RX4) (T := TX4) (N := 20) hx hb hts (by decide +kernel) hown hK hP 0 rfl rfl 7 (by decide) (hts (.fieldLink RX4 32 "TrapMachineModel" "pair" "[I") (by decide +kernel)) (fun _ h9 => h9) rfl dX4_empty_96 ?_
                  refine lv_iload hx hb dX4_empty_99 (lv_at hl 5 rfl) ?_
                  refine q_iald (j := i) (x9 := (m9.2.2.2.2.2.2.1 i)) hx hb hK hP 7 0 rfl rfl (vp_in_nI (by omega) (by omega)) (ix_nI (by omega)) rfl dX4_empty_101 ?_
                  refine lv_iload_n hx hb dX4_empty_102 rfl (lv_at hl 4 rfl) ?_
                  refine rd_call (r := (fX4_pairOf a3)) (W.runS (As := [.int a3]) (rest := [.int (m9.2.2.2.2.2.2.1 i)]) ⟨hx, hb, hml, hown, hts⟩ (kX4_pairOf l a3) (va_cwS 1 hts gX4_empty_X4_pairOf rfl rfl rfl (by decide +kernel) ⟨Nat.le_of_ble_eq_true rfl, Nat.le_of_ble_eq_true rfl⟩) preEq rfl rfl hl.1 rfl (lv_room (Nat.le_of_ble_eq_true rfl)) dX4_empty_103 ⟨Nat.zero_le _, Nat.zero_le _⟩) ?_
                  refine lv_icmp_ne (tgt := 113) hx hb dX4_empty_106 (by decide) (fun c_106 => ?_) (fun c_106 => ?_)
                  · refine lv_iconst (v := (0 : Int32)) hx hb dX4_empty_113 (by decide) ?_
                    refine lv_istore (lv' := [(5, .int (0 : Int32)), (0, .ref (z 0)), (1, .int a1), (2, .int a2), (3, .int a3), (4, .int (nI i))]) hx hb dX4_empty_114 hl (by decide) rfl (fun ls hl => ?_)
                    refine lv_iload hx hb dX4_empty_116 (lv_at hl 0 rfl) ?_
                    refine lv_if_eq (tgt := 129) hx hb dX4_empty_118 (by decide) (fun _ => ?_) (fun c9 => absurd (by decide) c9)
                    refine lv_iinc (v := ((nI i) + (1 : Int32))) (lv' := [(4, .int ((nI i) + (1 : Int32))), (5, .int (0 : Int32)), (0, .ref (z 0)), (1, .int a1), (2, .int a2), (3, .int a3)]) hx hb dX4_empty_129 hl (k := 5) rfl rfl (by decide) rfl (fun ls hl => ?_)
                    refine lv_goto (tgt := 17) hx hb dX4_empty_132 (by decide) ?_
                    exact ih (i + 1) m9  H locs (by omega) ((show fX4_empty_lp a1 a2 a3 (n + 1) i m9 = fX4_empty_lp a1 a2 a3 n (i + 1) m9 from (if_neg c_24).trans ((if_neg c_36).trans ((if_pos c_44).trans ((if_neg c_56).trans ((if_pos c_75).trans ((if_pos c_87).trans ((if_neg c_106).trans rfl))))))).symm.trans heq) hP hD hS ls (by rw [← nI_1 i]; exact lv_sub hl [2, 3, 4, 5, 0] rfl)
                  · refine lv_iconst (v := (1 : Int32)) hx hb dX4_empty_109 (by decide) ?_
                    refine lv_goto (tgt := 114) hx hb dX4_empty_110 (by decide) ?_
                    refine lv_istore (lv' := [(5, .int (1 : Int32)), (0, .ref (z 0)), (1, .int a1), (2, .int a2), (3, .int a3), (4, .int (nI i))]) hx hb dX4_empty_114 hl (by decide) rfl (fun ls hl => ?_)
                    refine lv_iload hx hb dX4_empty_116 (lv_at hl 0 rfl) ?_
                    refine lv_if_eq (tgt := 129) hx hb dX4_empty_118 (by decide) (fun c9 => absurd c9 (by decide)) (fun _ => ?_)
                    refine lv_aload_n hx hb dX4_empty_121 rfl (lv_at hl 1 rfl) ?_
                    refine va_get (D := D) (ci := 3) (v := .ref (z 5)) (C := RX4) (T := TX4) (N := 20) hx hb hts (by decide +kernel) hown hK hP 0 rfl rfl 5 (by decide) (hts (.fieldLink RX4 25 "TrapMachineModel" "there" "[Z") (by decide +kernel)) (fun _ h9 => h9) rfl dX4_empty_122 ?_
                    refine lv_iload hx hb dX4_empty_125 (lv_at hl 5 rfl) ?_
                    refine lv_iconst (v := (0 : Int32)) hx hb dX4_empty_127 (by decide) ?_
                    refine q_zast (j := i) (ws' := wM k z (ms4 m9 (upd m9.2.2.2.2.1 i (0 : Int32)))) hx hb hK hP hD hS 5 2 rfl rfl rfl (vp_in_nI (by omega) (by omega)) (ix_nI (by omega)) rfl dX4_empty_128 (fun H locs hP hD hS => ?_)
                    refine lv_iinc (v := ((nI i) + (1 : Int32))) (lv' := [(4, .int ((nI i) + (1 : Int32))), (5, .int (1 : Int32)), (0, .ref (z 0)), (1, .int a1), (2, .int a2), (3, .int a3)]) hx hb dX4_empty_129 hl (k := 5) rfl rfl (by decide) rfl (fun ls hl => ?_)
                    refine lv_goto (tgt := 17) hx hb dX4_empty_132 (by decide) ?_
                    exact ih (i + 1) (ms4 m9 (upd m9.2.2.2.2.1 i (0 : Int32)))  H locs (by omega) ((show fX4_empty_lp a1 a2 a3 (n + 1) i m9 = fX4_empty_lp a1 a2 a3 n (i + 1) (ms4 m9 (upd m9.2.2.2.2.1 i (0 : Int32))) from (if_neg c_24).trans ((if_neg c_36).trans ((if_pos c_44).trans ((if_neg c_56).trans ((if_pos c_75).trans ((if_pos c_87).trans ((if_pos c_106).trans rfl))))))).symm.trans heq) hP hD hS ls (by rw [← nI_1 i]; exact lv_sub hl [2, 3, 4, 5, 0] rfl)
        · refine lv_iconst (v := (1 : Int32)) hx hb dX4_empty_39 (by decide) ?_
          refine lv_goto (tgt := 44) hx hb dX4_empty_40 (by decide) ?_
          refine lv_icmp_ne (tgt := 51) hx hb dX4_empty_44 (by decide) (fun c_44 => ?_) (fun c_44 => ?_)
          · refine lv_iconst (v := (0 : Int32)) hx hb dX4_empty_51 (by decide) ?_
            refine lv_istore (lv' := [(5, .int (0 : Int32)), (0, .ref (z 0)), (1, .int a1), (2, .int a2), (3, .int a3), (4, .int (nI i))]) hx hb dX4_empty_52 hl (by decide) rfl (fun ls hl => ?_)
            refine lv_iload_n hx hb dX4_empty_54 rfl (lv_at hl 2 rfl) ?_
            refine lv_iconst (v := (2 : Int32)) hx hb dX4_empty_55 (by decide) ?_
            refine lv_icmp_le (tgt := 85) hx hb dX4_empty_56 (by decide) (fun _ => ?_) (fun c9 => absurd (show (a1 ≤ (2 : Int32)) by rw [c_36]; decide) c9)
            refine lv_iload_n hx hb dX4_empty_85 rfl (lv_at hl 2 rfl) ?_
            refine lv_iconst (v := (4 : Int32)) hx hb dX4_empty_86 (by decide) ?_
            refine lv_icmp_ne (tgt := 116) hx hb dX4_empty_87 (by decide) (fun _ => ?_) (fun c9 => absurd c9 (show ¬ (a1 = (4 : Int32)) by rw [c_36]; decide))
            refine lv_iload hx hb dX4_empty_116 (lv_at hl 0 rfl) ?_
            refine lv_if_eq (tgt := 129) hx hb dX4_empty_118 (by decide) (fun _ => ?_) (fun c9 => absurd (by decide) c9)
            refine lv_iinc (v := ((nI i) + (1 : Int32))) (lv' := [(4, .int ((nI i) + (1 : Int32))), (5, .int (0 : Int32)), (0, .ref (z 0)), (1, .int a1), (2, .int a2), (3, .int a3)]) hx hb dX4_empty_129 hl (k := 5) rfl rfl (by decide) rfl (fun ls hl => ?_)
            refine lv_goto (tgt := 17) hx hb dX4_empty_132 (by decide) ?_
            exact ih (i + 1) m9  H locs (by omega) ((show fX4_empty_lp a1 a2 a3 (n + 1) i m9 = fX4_empty_lp a1 a2 a3 n (i + 1) m9 from (if_neg c_24).trans ((if_pos c_36).trans ((if_neg c_44).trans rfl))).symm.trans heq) hP hD hS ls (by rw [← nI_1 i]; exact lv_sub hl [2, 3, 4, 5, 0] rfl)
          · refine lv_iconst (v := (1 : Int32)) hx hb dX4_empty_47 (by decide) ?_
            refine lv_goto (tgt := 52) hx hb dX4_empty_48 (by decide) ?_
            refine lv_istore (lv' := [(5, .int (1 : Int32)), (0, .ref (z 0)), (1, .int a1), (2, .int a2), (3, .int a3), (4, .int (nI i))]) hx hb dX4_empty_52 hl (by decide) rfl (fun ls hl => ?_)
            refine lv_iload_n hx hb dX4_empty_54 rfl (lv_at hl 2 rfl) ?_
            refine lv_iconst (v := (2 : Int32)) hx hb dX4_empty_55 (by decide) ?_
            refine lv_icmp_le (tgt := 85) hx hb dX4_empty_56 (by decide) (fun _ => ?_) (fun c9 => absurd (show (a1 ≤ (2 : Int32)) by rw [c_36]; decide) c9)
            refine lv_iload_n hx hb dX4_empty_85 rfl (lv_at hl 2 rfl) ?_
            refine lv_iconst (v := (4 : Int32)) hx hb dX4_empty_86 (by decide) ?_
            refine lv_icmp_ne (tgt := 116) hx hb dX4_empty_87 (by decide) (fun _ => ?_) (fun c9 => absurd c9 (show ¬ (a1 = (4 : Int32)) by rw [c_36]; decide))
            refine lv_iload hx hb dX4_empty_116 (lv_at hl 0 rfl) ?_
            refine lv_if_eq (tgt := 129) hx hb dX4_empty_118 (by decide) (fun c9 => absurd c9 (by decide)) (fun _ => ?_)
            refine lv_aload_n hx hb dX4_empty_121 rfl (lv_at hl 1 rfl) ?_
            refine va_get (D := D) (ci := 3) (v := .ref (z 5)) (C := RX4) (T := TX4) (N := 20) hx hb hts (by decide +kernel) hown hK hP 0 rfl rfl 5 (by decide) (hts (.fieldLink RX4 25 "TrapMachineModel" "there" "[Z") (by decide +kernel)) (fun _ h9 => h9) rfl dX4_empty_122 ?_
            refine lv_iload hx hb dX4_empty_125 (lv_at hl 5 rfl) ?_
            refine lv_iconst (v := (0 : Int32)) hx hb dX4_empty_127 (by decide) ?_
            refine q_zast (j := i) (ws' := wM k z (ms4 m9 (upd m9.2.2.2.2.1 i (0 : Int32)))) hx hb hK hP hD hS 5 2 rfl rfl rfl (vp_in_nI (by omega) (by omega)) (ix_nI (by omega)) rfl dX4_empty_128 (fun H locs hP hD hS => ?_)
            refine lv_iinc (v := ((nI i) + (1 : Int32))) (lv' := [(4, .int ((nI i) + (1 : Int32))), (5, .int (1 : Int32)), (0, .ref (z 0)), (1, .int a1), (2, .int a2), (3, .int a3)]) hx hb dX4_empty_129 hl (k := 5) rfl rfl (by decide) rfl (fun ls hl => ?_)
            refine lv_goto (tgt := 17) hx hb dX4_empty_132 (by decide) ?_
            exact ih (i + 1) (ms4 m9 (upd m9.2.2.2.2.1 i (0 : Int32)))  H locs (by omega) ((show fX4_empty_lp a1 a2 a3 (n + 1) i m9 = fX4_empty_lp a1 a2 a3 n (i + 1) (ms4 m9 (upd m9.2.2.2.2.1 i (0 : Int32))) from (if_neg c_24).trans ((if_pos c_36).trans ((if_pos c_44).trans rfl))).symm.trans heq) hP hD hS ls (by rw [← nI_1 i]; exact lv_sub hl [2, 3, 4, 5, 0] rfl)
  refine lv_iload_n hx hb dX4_empty_0 rfl (lv_at hl 1 rfl) ?_
  refine lv_iconst (v := (4 : Int32)) hx hb dX4_empty_1 (by decide) ?_
  refine lv_icmp_le (tgt := 14) hx hb dX4_empty_2 (by decide) (fun c_2 => ?_) (fun c_2 => ?_)
  · refine lv_iconst (v := (0 : Int32)) hx hb dX4_empty_14 (by decide) ?_
    refine lv_istore (lv' := [(4, .int (0 : Int32)), (0, .ref (z 0)), (1, .int a1), (2, .int a2), (3, .int a3)]) hx hb dX4_empty_15 hl (by decide) rfl (fun ls hl => ?_)
    exact lp 4 0 w _ _ (by omega) (show fX4_empty_lp a1 a2 a3 4 0 w = fX4_empty w a1 a2 a3 from (show fX4_empty w a1 a2 a3 = fX4_empty_lp a1 a2 a3 4 0 w from (if_pos c_2).trans rfl).symm) hP hD hS ls (by rw [nI_0]; exact lv_sub hl [1, 2, 3, 4, 0] rfl)
  · refine lv_aload_n hx hb dX4_empty_5 rfl (lv_at hl 0 rfl) ?_
    refine lv_bipush (v := (13 : Int32)) hx hb dX4_empty_6 (by decide) ?_
    refine lv_iconst (v := (0 : Int32)) hx hb dX4_empty_8 (by decide) ?_
    refine lv_iconst (v := (0 : Int32)) hx hb dX4_empty_9 (by decide) ?_
    obtain ⟨o1, h_o1⟩ : ∃ o9, (fX4_with w (13 : Int32) (0 : Int32) (0 : Int32)) = o9 := ⟨_, rfl⟩
    refine wr_call (r := (some (.int o1.1))) (ws' := wM k z o1.2) (W.runV (C := RX4) (b := (z 0)) (As := [.int (13 : Int32), .int (0 : Int32), .int (0 : Int32)]) (rest := []) ⟨hx, hb, hml, hown, hts⟩ (kX4_with l D k z w (13 : Int32) (0 : Int32) (0 : Int32) o1 h_o1) (cwV 3 hts gX4_empty_X4_with rfl rfl rfl (by decide +kernel) ⟨Nat.le_of_ble_eq_true rfl, Nat.le_of_ble_eq_true rfl⟩) (wr_preV bl_T pr_T hK hP hD (va_recv hK hP (ci := 3) (q0 := 0) rfl rfl)) rfl rfl hl.1 rfl (lv_room (Nat.le_of_ble_eq_true rfl)) dX4_empty_10 ⟨Nat.zero_le _, Nat.zero_le _⟩) hP hD hS [0, 1, 2, 3, 4, 5, 6, 7, 8, 9] [] [0, 1, 2, 3, 4, 5, 6, 7, 8, 9] allM (by decide) prmM adrM (fun H locs hP hD hS => ?_)
    exact W.iret (v := o1.1) hx hb hr (wr_end (congrArg (fun t9 : Int32 × MD => some (Value.int t9.1)) ((show fX4_empty w a1 a2 a3 = (o1.1, o1.2) from (by subst h_o1; exact (if_neg c_2).trans rfl)).symm.trans ho)) (congrArg (fun t9 : Int32 × MD => wM k z t9.2) ((show fX4_empty w a1 a2 a3 = (o1.1, o1.2) from (by subst h_o1; exact (if_neg c_2).trans rfl)).symm.trans ho)) hP hS) hS.2.2 dX4_empty_13
def fX4_put (w : MD) (a1 : Int32) (a2 : Int32) : MD :=
  if (a1 - a1 / (8 : Int32) * (8 : Int32)) = (0 : Int32) then
    w
  else
    (ms2 w (upd w.2.2.1 (ix (a1 - a1 / (8 : Int32) * (8 : Int32))) a2))
set_option maxHeartbeats 4000000 in
set_option maxRecDepth 100000 in
theorem kX4_put (l : Launch) (D : va_G) (k : Nat → ClassId) (z : Nat → Nat) (w : MD) (a1 : Int32) (a2 : Int32) (h1 : vp_in a1 256) (o : MD) (ho : fX4_put w a1 a2 = o) : Met l yX4_put wsX4_put { frames := 0, cells := 0, slots := 0, locals := 0 } (wr_P D vwCl (tyL k) (wM k z w) (fun _ => True) [.ref (z 0), .int a1, .int a2]) (wr_Q D vwCl none (wM k z w) (wM k z o)) 0 0 (in_W (wM k z w)) := by
  refine Met.ofW (cc := cX4_put) (maxL := 3) (ret := none) (by decide) rfl ?_
  intro p e s m args below meth c s₁ B hml hv0
  obtain ⟨rfl, hP, hK, hX, hD0⟩ := hv0
  have hx := B.exec
  have hb := B.bytes
  have hr := B.returns
  have hts := atoms_spec (ws := wsX4_put) B.pre
  have hown : s.vm.findClass RX4 = some m.cls := findClass_of_methodNamed B.named
  have hlocks := B.notSynchronized
  have hD : va_D (in_W (wM k z w)) (wM k z w) := wD_self hD0
  have hS : va_S (in_W (wM k z w)) s.heap s.heap [] := va_S.rf
  have hl := lv_entry ([.ref (z 0), .int a1, .int a2]) (n := 3) (Nat.le_of_ble_eq_true rfl)
  rw [lg_entry_eq]
  generalize (lg_sl ([.ref (z 0), .int a1, .int a2]) ++ List.replicate (3 - (lg_sl ([.ref (z 0), .int a1, .int a2])).length) Slot.unset).toArray = ls at hl ⊢
  have hl : lv_has ls 3 [(0, .ref (z 0)), (1, .int a1), (2, .int a2)] := hl
  refine lv_iload_n hx hb dX4_put_0 rfl (lv_at hl 1 rfl) ?_
  refine lv_bipush (v := (8 : Int32)) hx hb dX4_put_1 (by decide) ?_
  refine lv_irem hx hb dX4_put_3 (by decide) ?_
  refine lv_if_eq (tgt := 17) hx hb dX4_put_4 (by decide) (fun c_4 => ?_) (fun c_4 => ?_)
  · exact W.vret hx hb hr (wr_end rfl (congrArg (wM k z) ((show fX4_put w a1 a2 = w from (if_pos c_4).trans rfl).symm.trans ho)) hP hS) hS.2.2 dX4_put_17
  · refine lv_aload_n hx hb dX4_put_7 rfl (lv_at hl 0 rfl) ?_
    refine va_get (D := D) (ci := 3) (v := .ref (z 2)) (C := RX4) (T := TX4) (N := 20) hx hb hts (by decide +kernel) hown hK hP 0 rfl rfl 2 (by decide) (hts (.fieldLink RX4 13 "TrapMachineModel" "register" "[I") (by decide +kernel)) (fun _ h9 => h9) rfl dX4_put_8 ?_
    refine lv_iload_n hx hb dX4_put_11 rfl (lv_at hl 1 rfl) ?_
    refine lv_bipush (v := (8 : Int32)) hx hb dX4_put_12 (by decide) ?_
    refine lv_irem hx hb dX4_put_14 (by decide) ?_
    refine lv_iload_n hx hb dX4_put_15 rfl (lv_at hl 2 rfl) ?_
    refine q_iast (j := (ix (a1 - a1 / (8 : Int32) * (8 : Int32)))) (ws' := wM k z (ms2 w (upd w.2.2.1 (ix (a1 - a1 / (8 : Int32) * (8 : Int32))) a2))) hx hb hK hP hD hS 2 0 rfl rfl (rem8_in h1) rfl rfl dX4_put_16 (fun H locs hP hD hS => ?_)
    exact W.vret hx hb hr (wr_end rfl (congrArg (wM k z) ((show fX4_put w a1 a2 = (ms2 w (upd w.2.2.1 (ix (a1 - a1 / (8 : Int32) * (8 : Int32))) a2)) from (if_neg c_4).trans rfl).symm.trans ho)) hP hS) hS.2.2 dX4_put_17
def fX4_reckon (w : MD) (a1 : Int32) (a2 : Int32) (a3 : Int32) (a4 : Int32) : Int32 :=
  if a1 = (1 : Int32) then
    ((w.2.2.1 (ix (a2 - a2 / (8 : Int32) * (8 : Int32)))) + (w.2.2.1 (ix (a3 - a3 / (8 : Int32) * (8 : Int32)))))
  else
    if a1 = (2 : Int32) then
      ((w.2.2.1 (ix (a2 - a2 / (8 : Int32) * (8 : Int32)))) - (w.2.2.1 (ix (a3 - a3 / (8 : Int32) * (8 : Int32)))))
    else
      if a1 = (3 : Int32) then
        ((w.2.2.1 (ix (a2 - a2 / (8 : Int32) * (8 : Int32)))) &&& (w.2.2.1 (ix (a3 - a3 / (8 : Int32) * (8 : Int32)))))
      else
        if a1 = (4 : Int32) then
          ((w.2.2.1 (ix (a2 - a2 / (8 : Int32) * (8 : Int32)))) ||| (w.2.2.1 (ix (a3 - a3 / (8 : Int32) * (8 : Int32)))))
        else
          if a1 = (5 : Int32) then
            if (w.2.2.1 (ix (a3 - a3 / (8 : Int32) * (8 : Int32)))) ≤ (w.2.2.1 (ix (a2 - a2 / (8 : Int32) * (8 : Int32)))) then
              (0 : Int32)
            else
              (1 : Int32)
          else
            if a1 = (6 : Int32) then
              ((w.2.2.1 (ix (a2 - a2 / (8 : Int32) * (8 : Int32)))) + a4)
            else
              (((65536 : Int32) * a2) + ((256 : Int32) * a3))
set_option maxHeartbeats 4000000 in
set_option maxRecDepth 100000 in
theorem kX4_reckon (l : Launch) (D : va_G) (k : Nat → ClassId) (z : Nat → Nat) (w : MD) (a1 : Int32) (a2 : Int32) (a3 : Int32) (a4 : Int32) (h2 : vp_in a2 256) (h3 : vp_in a3 256) : Met l yX4_reckon wsX4_reckon { frames := 0, cells := 0, slots := 0, locals := 0 } (rd_P D vwCl (tyL k) (wM k z w) (fun _ => True) [.ref (z 0), .int a1, .int a2, .int a3, .int a4]) (QcRead (fX4_reckon w a1 a2 a3 a4)) 0 0 (fun _ => False) := by
  refine Met.ofW (cc := cX4_reckon) (maxL := 7) (ret := (some .int)) (by decide) rfl ?_
  intro p e s m args below meth c s₁ B hml hv0
  obtain ⟨rfl, hP, hK, hX⟩ := hv0
  have hx := B.exec
  have hb := B.bytes
  have hr := B.returns
  have hts := atoms_spec (ws := wsX4_reckon) B.pre
  have hown : s.vm.findClass RX4 = some m.cls := findClass_of_methodNamed B.named
  have hlocks := B.notSynchronized
  have hl := lv_entry ([.ref (z 0), .int a1, .int a2, .int a3, .int a4]) (n := 7) (Nat.le_of_ble_eq_true rfl)
  rw [lg_entry_eq]
  generalize (lg_sl ([.ref (z 0), .int a1, .int a2, .int a3, .int a4]) ++ List.replicate (7 - (lg_sl ([.ref (z 0), .int a1, .int a2, .int a3, .int a4])).length) Slot.unset).toArray = ls at hl ⊢
  have hl : lv_has ls 7 [(0, .ref (z 0)), (1, .int a1), (2, .int a2), (3, .int a3), (4, .int a4)] := hl
  refine lv_aload_n hx hb dX4_reckon_0 rfl (lv_at hl 0 rfl) ?_
  refine va_get (D := D) (ci := 3) (v := .ref (z 2)) (C := RX4) (T := TX4) (N := 20) hx hb hts (by decide +kernel) hown hK hP 0 rfl rfl 2 (by decide) (hts (.fieldLink RX4 13 "TrapMachineModel" "register" "[I") (by decide +kernel)) (fun _ h9 => h9) rfl dX4_reckon_1 ?_
  refine lv_iload_n hx hb dX4_reckon_4 rfl (lv_at hl 2 rfl) ?_
  refine lv_bipush (v := (8 : Int32)) hx hb dX4_reckon_5 (by decide) ?_
  refine lv_irem hx hb dX4_reckon_7 (by decide) ?_
  refine q_iald (j := (ix (a2 - a2 / (8 : Int32) * (8 : Int32)))) (x9 := (w.2.2.1 (ix (a2 - a2 / (8 : Int32) * (8 : Int32))))) hx hb hK hP 2 0 rfl rfl (rem8_in h2) rfl rfl dX4_reckon_8 ?_
  refine lv_istore (lv' := [(5, .int (w.2.2.1 (ix (a2 - a2 / (8 : Int32) * (8 : Int32))))), (0, .ref (z 0)), (1, .int a1), (2, .int a2), (3, .int a3), (4, .int a4)]) hx hb dX4_reckon_9 hl (by decide) rfl (fun ls hl => ?_)
  refine lv_aload_n hx hb dX4_reckon_11 rfl (lv_at hl 1 rfl) ?_
  refine va_get (D := D) (ci := 3) (v := .ref (z 2)) (C := RX4) (T := TX4) (N := 20) hx hb hts (by decide +kernel) hown hK hP 0 rfl rfl 2 (by decide) (hts (.fieldLink RX4 13 "TrapMachineModel" "register" "[I") (by decide +kernel)) (fun _ h9 => h9) rfl dX4_reckon_12 ?_
  refine lv_iload_n hx hb dX4_reckon_15 rfl (lv_at hl 4 rfl) ?_
  refine lv_bipush (v := (8 : Int32)) hx hb dX4_reckon_16 (by decide) ?_
  refine lv_irem hx hb dX4_reckon_18 (by decide) ?_
  refine q_iald (j := (ix (a3 - a3 / (8 : Int32) * (8 : Int32)))) (x9 := (w.2.2.1 (ix (a3 - a3 / (8 : Int32) * (8 : Int32))))) hx hb hK hP 2 0 rfl rfl (rem8_in h3) rfl rfl dX4_reckon_19 ?_
  refine lv_istore (lv' := [(6, .int (w.2.2.1 (ix (a3 - a3 / (8 : Int32) * (8 : Int32))))), (5, .int (w.2.2.1 (ix (a2 - a2 / (8 : Int32) * (8 : Int32))))), (0, .ref (z 0)), (1, .int a1), (2, .int a2), (3, .int a3), (4, .int a4)]) hx hb dX4_reckon_20 hl (by decide) rfl (fun ls hl => ?_)
  refine lv_iload_n hx hb dX4_reckon_22 rfl (lv_at hl 3 rfl) ?_
  by_cases c_23_0 : a1 = (1 : Int32)
  · refine lv_tableIn (off := (37 : Int)) (tgt := 60) hx hb dX4_reckon_23 (by rw [c_23_0]; decide) (by rw [c_23_0]; decide) (by rw [c_23_0]; rfl) (by decide) ?_
    refine lv_iload hx hb dX4_reckon_60 (lv_at hl 1 rfl) ?_
    refine lv_iload hx hb dX4_reckon_62 (lv_at hl 0 rfl) ?_
    refine lv_iadd hx hb dX4_reckon_64 ?_
    exact W.iret (v := ((w.2.2.1 (ix (a2 - a2 / (8 : Int32) * (8 : Int32)))) + (w.2.2.1 (ix (a3 - a3 / (8 : Int32) * (8 : Int32)))))) hx hb hr (rd_end (show fX4_reckon w a1 a2 a3 a4 = ((w.2.2.1 (ix (a2 - a2 / (8 : Int32) * (8 : Int32)))) + (w.2.2.1 (ix (a3 - a3 / (8 : Int32) * (8 : Int32))))) from (if_pos c_23_0).trans rfl)) (fun q h => by cases h) dX4_reckon_65
  · by_cases c_23_1 : a1 = (2 : Int32)
    · refine lv_tableIn (off := (43 : Int)) (tgt := 66) hx hb dX4_reckon_23 (by rw [c_23_1]; decide) (by rw [c_23_1]; decide) (by rw [c_23_1]; rfl) (by decide) ?_
      refine lv_iload hx hb dX4_reckon_66 (lv_at hl 1 rfl) ?_
      refine lv_iload hx hb dX4_reckon_68 (lv_at hl 0 rfl) ?_
      refine lv_isub hx hb dX4_reckon_70 ?_
      exact W.iret (v := ((w.2.2.1 (ix (a2 - a2 / (8 : Int32) * (8 : Int32)))) - (w.2.2.1 (ix (a3 - a3 / (8 : Int32) * (8 : Int32)))))) hx hb hr (rd_end (show fX4_reckon w a1 a2 a3 a4 = ((w.2.2.1 (ix (a2 - a2 / (8 : Int32) * (8 : Int32)))) - (w.2.2.1 (ix (a3 - a3 / (8 : Int32) * (8 : Int32))))) from (if_neg c_23_0).trans ((if_pos c_23_1).trans rfl))) (fun q h => by cases h) dX4_reckon_71
    · by_cases c_23_2 : a1 = (3 : Int32)
      · refine lv_tableIn (off := (49 : Int)) (tgt := 72) hx hb dX4_reckon_23 (by rw [c_23_2]; decide) (by rw [c_23_2]; decide) (by rw [c_23_2]; rfl) (by decide) ?_
        refine lv_iload hx hb dX4_reckon_72 (lv_at hl 1 rfl) ?_
        refine lv_iload hx hb dX4_reckon_74 (lv_at hl 0 rfl) ?_
        refine lv_iand hx hb dX4_reckon_76 ?_
        exact W.iret (v := ((w.2.2.1 (ix (a2 - a2 / (8 : Int32) * (8 : Int32)))) &&& (w.2.2.1 (ix (a3 - a3 / (8 : Int32) * (8 : Int32)))))) hx hb hr (rd_end (show fX4_reckon w a1 a2 a3 a4 = ((w.2.2.1 (ix (a2 - a2 / (8 : Int32) * (8 : Int32)))) &&& (w.2.2.1 (ix (a3 - a3 / (8 : Int32) * (8 : Int32))))) from (if_neg c_23_0).trans ((if_neg c_23_1).trans ((if_pos c_23_2).trans rfl)))) (fun q h => by cases h) dX4_reckon_77
      · by_cases c_23_3 : a1 = (4 : Int32)
        · refine lv_tableIn (off := (55 : Int)) (tgt := 78) hx hb dX4_reckon_23 (by rw [c_23_3]; decide) (by rw [c_23_3]; decide) (by rw [c_23_3]; rfl) (by decide) ?_
          refine lv_iload hx hb dX4_reckon_78 (lv_at hl 1 rfl) ?_
          refine lv_iload hx hb dX4_reckon_80 (lv_at hl 0 rfl) ?_
          refine lv_ior hx hb dX4_reckon_82 ?_
          exact W.iret (v := ((w.2.2.1 (ix (a2 - a2 / (8 : Int32) * (8 : Int32)))) ||| (w.2.2.1 (ix (a3 - a3 / (8 : Int32) * (8 : Int32)))))) hx hb hr (rd_end (show fX4_reckon w a1 a2 a3 a4 = ((w.2.2.1 (ix (a2 - a2 / (8 : Int32) * (8 : Int32)))) ||| (w.2.2.1 (ix (a3 - a3 / (8 : Int32) * (8 : Int32))))) from (if_neg c_23_0).trans ((if_neg c_23_1).trans ((if_neg c_23_2).trans ((if_pos c_23_3).trans rfl))))) (fun q h => by cases h) dX4_reckon_83
        · by_cases c_23_4 : a1 = (5 : Int32)
          · refine lv_tableIn (off := (61 : Int)) (tgt := 84) hx hb dX4_reckon_23 (by rw [c_23_4]; decide) (by rw [c_23_4]; decide) (by rw [c_23_4]; rfl) (by decide) ?_
            refine lv_iload hx hb dX4_reckon_84 (lv_at hl 1 rfl) ?_
            refine lv_iload hx hb dX4_reckon_86 (lv_at hl 0 rfl) ?_
            refine lv_icmp_ge (tgt := 95) hx hb dX4_reckon_88 (by decide) (fun c_88 => ?_) (fun c_88 => ?_)
            · refine lv_iconst (v := (0 : Int32)) hx hb dX4_reckon_95 (by decide) ?_
              exact W.iret (v := (0 : Int32)) hx hb hr (rd_end (show fX4_reckon w a1 a2 a3 a4 = (0 : Int32) from (if_neg c_23_0).trans ((if_neg c_23_1).trans ((if_neg c_23_2).trans ((if_neg c_23_3).trans ((if_pos c_23_4).trans ((if_pos c_88).trans rfl))))))) (fun q h => by cases h) dX4_reckon_96
            · refine lv_iconst (v := (1 : Int32)) hx hb dX4_reckon_91 (by decide) ?_
              refine lv_goto (tgt := 96) hx hb dX4_reckon_92 (by decide) ?_
              exact W.iret (v := (1 : Int32)) hx hb hr (rd_end (show fX4_reckon w a1 a2 a3 a4 = (1 : Int32) from (if_neg c_23_0).trans ((if_neg c_23_1).trans ((if_neg c_23_2).trans ((if_neg c_23_3).trans ((if_pos c_23_4).trans ((if_neg c_88).trans rfl))))))) (fun q h => by cases h) dX4_reckon_96
          · by_cases c_23_5 : a1 = (6 : Int32)
            · refine lv_tableIn (off := (74 : Int)) (tgt := 97) hx hb dX4_reckon_23 (by rw [c_23_5]; decide) (by rw [c_23_5]; decide) (by rw [c_23_5]; rfl) (by decide) ?_
              refine lv_iload hx hb dX4_reckon_97 (lv_at hl 1 rfl) ?_
              refine lv_iload hx hb dX4_reckon_99 (lv_at hl 6 rfl) ?_
              refine lv_iadd hx hb dX4_reckon_101 ?_
              exact W.iret (v := ((w.2.2.1 (ix (a2 - a2 / (8 : Int32) * (8 : Int32)))) + a4)) hx hb hr (rd_end (show fX4_reckon w a1 a2 a3 a4 = ((w.2.2.1 (ix (a2 - a2 / (8 : Int32) * (8 : Int32)))) + a4) from (if_neg c_23_0).trans ((if_neg c_23_1).trans ((if_neg c_23_2).trans ((if_neg c_23_3).trans ((if_neg c_23_4).trans ((if_pos c_23_5).trans rfl))))))) (fun q h => by cases h) dX4_reckon_102
            · refine lv_tableOut (tgt := 103) hx hb dX4_reckon_23 (by have n1 := lv_neT c_23_0 (show (1 : Int32).toInt = 1 by decide); have n2 := lv_neT c_23_1 (show (2 : Int32).toInt = 2 by decide); have n3 := lv_neT c_23_2 (show (3 : Int32).toInt = 3 by decide); have n4 := lv_neT c_23_3 (show (4 : Int32).toInt = 4 by decide); have n5 := lv_neT c_23_4 (show (5 : Int32).toInt = 5 by decide); have n6 := lv_neT c_23_5 (show (6 : Int32).toInt = 6 by decide); omega) (by decide) ?_
              refine lv_ldc (v := (65536 : Int32)) hx hb hown (hts (.constant RX4 88 (65536)) (by decide +kernel)) dX4_reckon_103 ?_
              refine lv_iload_n hx hb dX4_reckon_105 rfl (lv_at hl 4 rfl) ?_
              refine lv_imul hx hb dX4_reckon_106 ?_
              refine lv_sipush (v := (256 : Int32)) hx hb dX4_reckon_107 (by decide) ?_
              refine lv_iload_n hx hb dX4_reckon_110 rfl (lv_at hl 5 rfl) ?_
              refine lv_imul hx hb dX4_reckon_111 ?_
              refine lv_iadd hx hb dX4_reckon_112 ?_
              exact W.iret (v := (((65536 : Int32) * a2) + ((256 : Int32) * a3))) hx hb hr (rd_end (show fX4_reckon w a1 a2 a3 a4 = (((65536 : Int32) * a2) + ((256 : Int32) * a3)) from (if_neg c_23_0).trans ((if_neg c_23_1).trans ((if_neg c_23_2).trans ((if_neg c_23_3).trans ((if_neg c_23_4).trans ((if_neg c_23_5).trans rfl))))))) (fun q h => by cases h) dX4_reckon_113
