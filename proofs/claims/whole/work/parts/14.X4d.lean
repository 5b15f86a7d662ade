def fX4_govern (w : MD) (a1 : Int32) (a2 : Int32) (a3 : Int32) (a4 : Int32) : Int32 × MD :=
  if (fX4_user w) = (0 : Int32) then
    if (21 : Int32) ≤ a1 then
      if a1 = (25 : Int32) then
        ((fX4_empty w a4 (w.2.2.1 (ix (a2 - a2 / (8 : Int32) * (8 : Int32)))) (w.2.2.1 (ix (a3 - a3 / (8 : Int32) * (8 : Int32))))).1, (fX4_empty w a4 (w.2.2.1 (ix (a2 - a2 / (8 : Int32) * (8 : Int32)))) (w.2.2.1 (ix (a3 - a3 / (8 : Int32) * (8 : Int32))))).2)
      else
        if a1 = (21 : Int32) then
          ((-1 : Int32), (ms13 (fX4_search w) (0 : Int32)))
        else
          if a1 = (22 : Int32) then
            ((-1 : Int32), (ms13 (fX4_read w ((w.2.2.2.1 7) &&& (3 : Int32))) (0 : Int32)))
          else
            if a1 = (23 : Int32) then
              ((-1 : Int32), (ms13 (fX4_fill w ((w.2.2.2.1 7) &&& (3 : Int32))) (0 : Int32)))
            else
              if a1 = (24 : Int32) then
                ((-1 : Int32), (ms13 (ms11 (fX4_fill w w.2.2.2.2.2.2.2.2.2.2.2.1) (((fX4_fill w w.2.2.2.2.2.2.2.2.2.2.2.1).2.2.2.2.2.2.2.2.2.2.2.1 + (1 : Int32)) - ((fX4_fill w w.2.2.2.2.2.2.2.2.2.2.2.1).2.2.2.2.2.2.2.2.2.2.2.1 + (1 : Int32)) / (4 : Int32) * (4 : Int32))) (0 : Int32)))
              else
                if a1 = (26 : Int32) then
                  if (fX4_codeOf (ms12 (ms3 (ms10 w (w.2.2.2.1 4)) (upd w.2.2.2.1 0 (((w.2.2.2.1 0) &&& (8 : Int32)) ||| ((w.2.2.2.1 1) &&& (7 : Int32))))) (0 : Int32))) = (63 : Int32) then
                    ((-1 : Int32), (ms13 (ms3 (ms12 (ms3 (ms10 w (w.2.2.2.1 4)) (upd w.2.2.2.1 0 (((w.2.2.2.1 0) &&& (8 : Int32)) ||| ((w.2.2.2.1 1) &&& (7 : Int32))))) (0 : Int32)) (upd (upd w.2.2.2.1 0 (((w.2.2.2.1 0) &&& (8 : Int32)) ||| ((w.2.2.2.1 1) &&& (7 : Int32)))) 0 ((((w.2.2.2.1 0) &&& (8 : Int32)) ||| ((w.2.2.2.1 1) &&& (7 : Int32))) &&& (7 : Int32)))) (0 : Int32)))
                  else
                    ((-1 : Int32), (ms13 (ms12 (ms3 (ms10 w (w.2.2.2.1 4)) (upd w.2.2.2.1 0 (((w.2.2.2.1 0) &&& (8 : Int32)) ||| ((w.2.2.2.1 1) &&& (7 : Int32))))) (0 : Int32)) (0 : Int32)))
                else
                  if a1 = (27 : Int32) then
                    ((-1 : Int32), (ms13 w (1 : Int32)))
                  else
                    ((-1 : Int32), (ms13 w (0 : Int32)))
    else
      ((fX4_controls w a1 a2 a3 a4).1, (fX4_controls w a1 a2 a3 a4).2)
  else
    ((fX4_with w (14 : Int32) (0 : Int32) (0 : Int32)).1, (fX4_with w (14 : Int32) (0 : Int32) (0 : Int32)).2)
set_option maxHeartbeats 4000000 in
set_option maxRecDepth 100000 in
theorem kX4_govern (l : Launch) (D : va_G) (k : Nat → ClassId) (z : Nat → Nat) (w : MD) (a1 : Int32) (a2 : Int32) (a3 : Int32) (a4 : Int32) (h2 : vp_in a2 256) (h3 : vp_in a3 256) (h4 : vp_in a4 256) (hf : vp_in w.2.2.2.2.2.2.2.2.2.2.2.1 4) (o : Int32 × (MD)) (ho : fX4_govern w a1 a2 a3 a4 = o) : Met l yX4_govern wsX4_govern { frames := 2, cells := 0, slots := 0, locals := 49 } (wr_P D vwCl (tyL k) (wM k z w) (fun _ => True) [.ref (z 0), .int a1, .int a2, .int a3, .int a4]) (wr_Q D vwCl (some (.int o.1)) (wM k z w) (wM k z o.2)) 0 0 (in_W (wM k z w)) := by
  refine Met.ofW (cc := cX4_govern) (maxL := 5) (ret := (some .int)) (by decide) rfl ?_
  intro p e s m args below meth c s₁ B hml hv0
  obtain ⟨rfl, hP, hK, hX, hD0⟩ := hv0
  have hx := B.exec
  have hb := B.bytes
  have hr := B.returns
  have hts := atoms_spec (ws := wsX4_govern) B.pre
  have hown : s.vm.findClass RX4 = some m.cls := findClass_of_methodNamed B.named
  have hlocks := B.notSynchronized
  have hD : va_D (in_W (wM k z w)) (wM k z w) := wD_self hD0
  have hS : va_S (in_W (wM k z w)) s.heap s.heap [] := va_S.rf
  have hl := lv_entry ([.ref (z 0), .int a1, .int a2, .int a3, .int a4]) (n := 5) (Nat.le_of_ble_eq_true rfl)
  rw [lg_entry_eq]
  generalize (lg_sl ([.ref (z 0), .int a1, .int a2, .int a3, .int a4]) ++ List.replicate (5 - (lg_sl ([.ref (z 0), .int a1, .int a2, .int a3, .int a4])).length) Slot.unset).toArray = ls at hl ⊢
  have hl : lv_has ls 5 [(0, .ref (z 0)), (1, .int a1), (2, .int a2), (3, .int a3), (4, .int a4)] := hl
  refine lv_aload_n hx hb dX4_govern_0 rfl (lv_at hl 0 rfl) ?_
  refine rd_call (r := (fX4_user w)) (W.runV (C := RX4) (b := (z 0)) (As := []) (rest := []) ⟨hx, hb, hml, hown, hts⟩ (kX4_user l D k z w) (cwV 0 hts gX4_govern_X4_user rfl rfl rfl (by decide +kernel) ⟨Nat.le_of_ble_eq_true rfl, Nat.le_of_ble_eq_true rfl⟩) (rd_preV bl_T pr_T hK hP (va_recv hK hP (ci := 3) (q0 := 0) rfl rfl)) rfl rfl hl.1 rfl (lv_room (Nat.le_of_ble_eq_true rfl)) dX4_govern_1 ⟨Nat.zero_le _, Nat.zero_le _⟩) ?_
  refine lv_if_eq (tgt := 16) hx hb dX4_govern_4 (by decide) (fun c_4 => ?_) (fun c_4 => ?_)
  · refine lv_iload_n hx hb dX4_govern_16 rfl (lv_at hl 1 rfl) ?_
    refine lv_bipush (v := (21 : Int32)) hx hb dX4_govern_17 (by decide) ?_
    refine lv_icmp_ge (tgt := 32) hx hb dX4_govern_19 (by decide) (fun c_19 => ?_) (fun c_19 => ?_)
    · refine lv_iload_n hx hb dX4_govern_32 rfl (lv_at hl 1 rfl) ?_
      refine lv_bipush (v := (25 : Int32)) hx hb dX4_govern_33 (by decide) ?_
      refine lv_icmp_ne (tgt := 63) hx hb dX4_govern_35 (by decide) (fun c_35 => ?_) (fun c_35 => ?_)
      · refine lv_iload_n hx hb dX4_govern_63 rfl (lv_at hl 1 rfl) ?_
        refine lv_bipush (v := (21 : Int32)) hx hb dX4_govern_64 (by decide) ?_
        refine lv_icmp_ne (tgt := 73) hx hb dX4_govern_66 (by decide) (fun c_66 => ?_) (fun c_66 => ?_)
        · refine lv_iload_n hx hb dX4_govern_73 rfl (lv_at hl 1 rfl) ?_
          refine lv_bipush (v := (22 : Int32)) hx hb dX4_govern_74 (by decide) ?_
          refine lv_icmp_ne (tgt := 92) hx hb dX4_govern_76 (by decide) (fun c_76 => ?_) (fun c_76 => ?_)
          · refine lv_iload_n hx hb dX4_govern_92 rfl (lv_at hl 1 rfl) ?_
            refine lv_bipush (v := (23 : Int32)) hx hb dX4_govern_93 (by decide) ?_
            refine lv_icmp_ne (tgt := 111) hx hb dX4_govern_95 (by decide) (fun c_95 => ?_) (fun c_95 => ?_)
            · refine lv_iload_n hx hb dX4_govern_111 rfl (lv_at hl 1 rfl) ?_
              refine lv_bipush (v := (24 : Int32)) hx hb dX4_govern_112 (by decide) ?_
              refine lv_icmp_ne (tgt := 137) hx hb dX4_govern_114 (by decide) (fun c_114 => ?_) (fun c_114 => ?_)
              · refine lv_iload_n hx hb dX4_govern_137 rfl (lv_at hl 1 rfl) ?_
                refine lv_bipush (v := (26 : Int32)) hx hb dX4_govern_138 (by decide) ?_
                refine lv_icmp_ne (tgt := 207) hx hb dX4_govern_140 (by decide) (fun c_140 => ?_) (fun c_140 => ?_)
                · refine lv_aload_n hx hb dX4_govern_207 rfl (lv_at hl 0 rfl) ?_
                  refine lv_iload_n hx hb dX4_govern_208 rfl (lv_at hl 1 rfl) ?_
                  refine lv_bipush (v := (27 : Int32)) hx hb dX4_govern_209 (by decide) ?_
                  refine lv_icmp_ne (tgt := 218) hx hb dX4_govern_211 (by decide) (fun c_211 => ?_) (fun c_211 => ?_)
                  · refine lv_iconst (v := (0 : Int32)) hx hb dX4_govern_218 (by decide) ?_
                    refine va_put (D := D) (ci := 3) (v := .int (0 : Int32)) (ty := .boolean) (C := RX4) (T := TX4) (N := 20) hx hb hts (by decide +kernel) tyX4 tyX4_ok nmX4 hown hK hP hD hS 0 rfl rfl 14 (by decide) (hts (.fieldLink RX4 127 "TrapMachineModel" "rests" "Z") (by decide +kernel)) (fun _ h9 => h9) rfl (by decide +kernel) rfl rfl (Nat.le_of_ble_eq_true rfl) dX4_govern_219 (fun H locs hP hD hS => ?_)
                    have hP : va_P D vwCl (wM k z (ms13 w (0 : Int32))) H := hP
                    have hD : va_D (in_W (wM k z w)) (wM k z (ms13 w (0 : Int32))) := hD
                    refine lv_iconst (v := (-1 : Int32)) hx hb dX4_govern_222 (by decide) ?_
                    exact W.iret (v := (-1 : Int32)) hx hb hr (wr_end (congrArg (fun t9 : Int32 × MD => some (Value.int t9.1)) ((show fX4_govern w a1 a2 a3 a4 = ((-1 : Int32), (ms13 w (0 : Int32))) from (if_pos c_4).trans ((if_pos c_19).trans ((if_neg c_35).trans ((if_neg c_66).trans ((if_neg c_76).trans ((if_neg c_95).trans ((if_neg c_114).trans ((if_neg c_140).trans ((if_neg c_211).trans rfl))))))))).symm.trans ho)) (congrArg (fun t9 : Int32 × MD => wM k z t9.2) ((show fX4_govern w a1 a2 a3 a4 = ((-1 : Int32), (ms13 w (0 : Int32))) from (if_pos c_4).trans ((if_pos c_19).trans ((if_neg c_35).trans ((if_neg c_66).trans ((if_neg c_76).trans ((if_neg c_95).trans ((if_neg c_114).trans ((if_neg c_140).trans ((if_neg c_211).trans rfl))))))))).symm.trans ho)) hP hS) hS.2.2 dX4_govern_223
                  · refine lv_iconst (v := (1 : Int32)) hx hb dX4_govern_214 (by decide) ?_
                    refine lv_goto (tgt := 219) hx hb dX4_govern_215 (by decide) ?_
                    refine va_put (D := D) (ci := 3) (v := .int (1 : Int32)) (ty := .boolean) (C := RX4) (T := TX4) (N := 20) hx hb hts (by decide +kernel) tyX4 tyX4_ok nmX4 hown hK hP hD hS 0 rfl rfl 14 (by decide) (hts (.fieldLink RX4 127 "TrapMachineModel" "rests" "Z") (by decide +kernel)) (fun _ h9 => h9) rfl (by decide +kernel) rfl rfl (Nat.le_of_ble_eq_true rfl) dX4_govern_219 (fun H locs hP hD hS => ?_)
                    have hP : va_P D vwCl (wM k z (ms13 w (1 : Int32))) H := hP
                    have hD : va_D (in_W (wM k z w)) (wM k z (ms13 w (1 : Int32))) := hD
                    refine lv_iconst (v := (-1 : Int32)) hx hb dX4_govern_222 (by decide) ?_
                    exact W.iret (v := (-1 : Int32)) hx hb hr (wr_end (congrArg (fun t9 : Int32 × MD => some (Value.int t9.1)) ((show fX4_govern w a1 a2 a3 a4 = ((-1 : Int32), (ms13 w (1 : Int32))) from (if_pos c_4).trans ((if_pos c_19).trans ((if_neg c_35).trans ((if_neg c_66).trans ((if_neg c_76).trans ((if_neg c_95).trans ((if_neg c_114).trans ((if_neg c_140).trans ((if_pos c_211).trans rfl))))))))).symm.trans ho)) (congrArg (fun t9 : Int32 × MD => wM k z t9.2) ((show fX4_govern w a1 a2 a3 a4 = ((-1 : Int32), (ms13 w (1 : Int32))) from (if_pos c_4).trans ((if_pos c_19).trans ((if_neg c_35).trans ((if_neg c_66).trans ((if_neg c_76).trans ((if_neg c_95).trans ((if_neg c_114).trans ((if_neg c_140).trans ((if_pos c_211).trans rfl))))))))).symm.trans ho)) hP hS) hS.2.2 dX4_govern_223
                · refine lv_aload_n hx hb dX4_govern_143 rfl (lv_at hl 0 rfl) ?_
                  refine lv_aload_n hx hb dX4_govern_144 rfl (lv_at hl 0 rfl) ?_
                  refine va_get (D := D) (ci := 3) (v := .ref (z 3)) (C := RX4) (T := TX4) (N := 20) hx hb hts (by decide +kernel) hown hK hP 0 rfl rfl 3 (by decide) (hts (.fieldLink RX4 16 "TrapMachineModel" "control" "[I") (by decide +kernel)) (fun _ h9 => h9) rfl dX4_govern_145 ?_
                  refine lv_iconst (v := (4 : Int32)) hx hb dX4_govern_148 (by decide) ?_
                  refine q_iald (j := 4) (x9 := (w.2.2.2.1 4)) hx hb hK hP 3 0 rfl rfl (vi_k (by decide)) rfl rfl dX4_govern_149 ?_
                  refine va_put (D := D) (ci := 3) (v := .int (w.2.2.2.1 4)) (ty := .int) (C := RX4) (T := TX4) (N := 20) hx hb hts (by decide +kernel) tyX4 tyX4_ok nmX4 hown hK hP hD hS 0 rfl rfl 11 (by decide) (hts (.fieldLink RX4 100 "TrapMachineModel" "next" "I") (by decide +kernel)) (fun _ h9 => h9) rfl (by decide +kernel) rfl rfl (Nat.le_of_ble_eq_true rfl) dX4_govern_150 (fun H locs hP hD hS => ?_)
                  have hP : va_P D vwCl (wM k z (ms10 w (w.2.2.2.1 4))) H := hP
                  have hD : va_D (in_W (wM k z w)) (wM k z (ms10 w (w.2.2.2.1 4))) := hD
                  refine lv_aload_n hx hb dX4_govern_153 rfl (lv_at hl 0 rfl) ?_
                  refine va_get (D := D) (ci := 3) (v := .ref (z 3)) (C := RX4) (T := TX4) (N := 20) hx hb hts (by decide +kernel) hown hK hP 0 rfl rfl 3 (by decide) (hts (.fieldLink RX4 16 "TrapMachineModel" "control" "[I") (by decide +kernel)) (fun _ h9 => h9) rfl dX4_govern_154 ?_
                  refine lv_iconst (v := (0 : Int32)) hx hb dX4_govern_157 (by decide) ?_
                  refine lv_aload_n hx hb dX4_govern_158 rfl (lv_at hl 0 rfl) ?_
                  refine va_get (D := D) (ci := 3) (v := .ref (z 3)) (C := RX4) (T := TX4) (N := 20) hx hb hts (by decide +kernel) hown hK hP 0 rfl rfl 3 (by decide) (hts (.fieldLink RX4 16 "TrapMachineModel" "control" "[I") (by decide +kernel)) (fun _ h9 => h9) rfl dX4_govern_159 ?_
                  refine lv_iconst (v := (0 : Int32)) hx hb dX4_govern_162 (by decide) ?_
                  refine q_iald (j := 0) (x9 := (w.2.2.2.1 0)) hx hb hK hP 3 0 rfl rfl (vi_k (by decide)) rfl rfl dX4_govern_163 ?_
                  refine lv_bipush (v := (8 : Int32)) hx hb dX4_govern_164 (by decide) ?_
                  refine lv_iand hx hb dX4_govern_166 ?_
                  refine lv_aload_n hx hb dX4_govern_167 rfl (lv_at hl 0 rfl) ?_
                  refine va_get (D := D) (ci := 3) (v := .ref (z 3)) (C := RX4) (T := TX4) (N := 20) hx hb hts (by decide +kernel) hown hK hP 0 rfl rfl 3 (by decide) (hts (.fieldLink RX4 16 "TrapMachineModel" "control" "[I") (by decide +kernel)) (fun _ h9 => h9) rfl dX4_govern_168 ?_
                  refine lv_iconst (v := (1 : Int32)) hx hb dX4_govern_171 (by decide) ?_
                  refine q_iald (j := 1) (x9 := (w.2.2.2.1 1)) hx hb hK hP 3 0 rfl rfl (vi_k (by decide)) rfl rfl dX4_govern_172 ?_
                  refine lv_bipush (v := (7 : Int32)) hx hb dX4_govern_173 (by decide) ?_
                  refine lv_iand hx hb dX4_govern_175 ?_
                  refine lv_ior hx hb dX4_govern_176 ?_
                  refine q_iast (j := 0) (ws' := wM k z (ms3 (ms10 w (w.2.2.2.1 4)) (upd w.2.2.2.1 0 (((w.2.2.2.1 0) &&& (8 : Int32)) ||| ((w.2.2.2.1 1) &&& (7 : Int32)))))) hx hb hK hP hD hS 3 0 rfl rfl (vi_k (by decide)) rfl rfl dX4_govern_177 (fun H locs hP hD hS => ?_)
                  refine lv_aload_n hx hb dX4_govern_178 rfl (lv_at hl 0 rfl) ?_
                  refine lv_iconst (v := (0 : Int32)) hx hb dX4_govern_179 (by decide) ?_
                  refine va_put (D := D) (ci := 3) (v := .int (0 : Int32)) (ty := .boolean) (C := RX4) (T := TX4) (N := 20) hx hb hts (by decide +kernel) tyX4 tyX4_ok nmX4 hown hK hP hD hS 0 rfl rfl 13 (by decide) (hts (.fieldLink RX4 89 "TrapMachineModel" "link" "Z") (by decide +kernel)) (fun _ h9 => h9) rfl (by decide +kernel) rfl rfl (Nat.le_of_ble_eq_true rfl) dX4_govern_180 (fun H locs hP hD hS => ?_)
                  have hP : va_P D vwCl (wM k z (ms12 (ms3 (ms10 w (w.2.2.2.1 4)) (upd w.2.2.2.1 0 (((w.2.2.2.1 0) &&& (8 : Int32)) ||| ((w.2.2.2.1 1) &&& (7 : Int32))))) (0 : Int32))) H := hP
                  have hD : va_D (in_W (wM k z w)) (wM k z (ms12 (ms3 (ms10 w (w.2.2.2.1 4)) (upd w.2.2.2.1 0 (((w.2.2.2.1 0) &&& (8 : Int32)) ||| ((w.2.2.2.1 1) &&& (7 : Int32))))) (0 : Int32))) := hD
                  refine lv_aload_n hx hb dX4_govern_183 rfl (lv_at hl 0 rfl) ?_
                  refine rd_call (r := (fX4_codeOf (ms12 (ms3 (ms10 w (w.2.2.2.1 4)) (upd w.2.2.2.1 0 (((w.2.2.2.1 0) &&& (8 : Int32)) ||| ((w.2.2.2.1 1) &&& (7 : Int32))))) (0 : Int32)))) (W.runV (C := RX4) (b := (z 0)) (As := []) (rest := []) ⟨hx, hb, hml, hown, hts⟩ (kX4_codeOf l D k z (ms12 (ms3 (ms10 w (w.2.2.2.1 4)) (upd w.2.2.2.1 0 (((w.2.2.2.1 0) &&& (8 : Int32)) ||| ((w.2.2.2.1 1) &&& (7 : Int32))))) (0 : Int32))) (cwV 0 hts gX4_govern_X4_codeOf rfl rfl rfl (by decide +kernel) ⟨Nat.le_of_ble_eq_true rfl, Nat.le_of_ble_eq_true rfl⟩) (rd_preV bl_T pr_T hK hP (va_recv hK hP (ci := 3) (q0 := 0) rfl rfl)) rfl rfl hl.1 rfl (lv_room (Nat.le_of_ble_eq_true rfl)) dX4_govern_184 ⟨Nat.zero_le _, Nat.zero_le _⟩) ?_
                  refine lv_bipush (v := (63 : Int32)) hx hb dX4_govern_187 (by decide) ?_
                  refine lv_icmp_ne (tgt := 207) hx hb dX4_govern_189 (by decide) (fun c_189 => ?_) (fun c_189 => ?_)
                  · refine lv_aload_n hx hb dX4_govern_207 rfl (lv_at hl 0 rfl) ?_
                    refine lv_iload_n hx hb dX4_govern_208 rfl (lv_at hl 1 rfl) ?_
                    refine lv_bipush (v := (27 : Int32)) hx hb dX4_govern_209 (by decide) ?_
                    refine lv_icmp_ne (tgt := 218) hx hb dX4_govern_211 (by decide) (fun _ => ?_) (fun c9 => absurd c9 (show ¬ (a1 = (27 : Int32)) by rw [c_140]; decide))
                    refine lv_iconst (v := (0 : Int32)) hx hb dX4_govern_218 (by decide) ?_
                    refine va_put (D := D) (ci := 3) (v := .int (0 : Int32)) (ty := .boolean) (C := RX4) (T := TX4) (N := 20) hx hb hts (by decide +kernel) tyX4 tyX4_ok nmX4 hown hK hP hD hS 0 rfl rfl 14 (by decide) (hts (.fieldLink RX4 127 "TrapMachineModel" "rests" "Z") (by decide +kernel)) (fun _ h9 => h9) rfl (by decide +kernel) rfl rfl (Nat.le_of_ble_eq_true rfl) dX4_govern_219 (fun H locs hP hD hS => ?_)
                    have hP : va_P D vwCl (wM k z (ms13 (ms12 (ms3 (ms10 w (w.2.2.2.1 4)) (upd w.2.2.2.1 0 (((w.2.2.2.1 0) &&& (8 : Int32)) ||| ((w.2.2.2.1 1) &&& (7 : Int32))))) (0 : Int32)) (0 : Int32))) H := hP
                    have hD : va_D (in_W (wM k z w)) (wM k z (ms13 (ms12 (ms3 (ms10 w (w.2.2.2.1 4)) (upd w.2.2.2.1 0 (((w.2.2.2.1 0) &&& (8 : Int32)) ||| ((w.2.2.2.1 1) &&& (7 : Int32))))) (0 : Int32)) (0 : Int32))) := hD
                    refine lv_iconst (v := (-1 : Int32)) hx hb dX4_govern_222 (by decide) ?_
                    exact W.iret (v := (-1 : Int32)) hx hb hr (wr_end (congrArg (fun t9 : Int32 × MD => some (Value.int t9.1)) ((show fX4_govern w a1 a2 a3 a4 = ((-1 : Int32), (ms13 (ms12 (ms3 (ms10 w (w.2.2.2.1 4)) (upd w.2.2.2.1 0 (((w.2.2.2.1 0) &&& (8 : Int32)) ||| ((w.2.2.2.1 1) &&& (7 : Int32))))) (0 : Int32)) (0 : Int32))) from (if_pos c_4).trans ((if_pos c_19).trans ((if_neg c_35).trans ((if_neg c_66).trans ((if_neg c_76).trans ((if_neg c_95).trans ((if_neg c_114).trans ((if_pos c_140).trans ((if_neg c_189).trans rfl))))))))).symm.trans ho)) (congrArg (fun t9 : Int32 × MD => wM k z t9.2) ((show fX4_govern w a1 a2 a3 a4 = ((-1 : Int32), (ms13 (ms12 (ms3 (ms10 w (w.2.2.2.1 4)) (upd w.2.2.2.1 0 (((w.2.2.2.1 0) &&& (8 : Int32)) ||| ((w.2.2.2.1 1) &&& (7 : Int32))))) (0 : Int32)) (0 : Int32))) from (if_pos c_4).trans ((if_pos c_19).trans ((if_neg c_35).trans ((if_neg c_66).trans ((if_neg c_76).trans ((if_neg c_95).trans ((if_neg c_114).trans ((if_pos c_140).trans ((if_neg c_189).trans rfl))))))))).symm.trans ho)) hP hS) hS.2.2 dX4_govern_223
                  · refine lv_aload_n hx hb dX4_govern_192 rfl (lv_at hl 0 rfl) ?_
                    refine va_get (D := D) (ci := 3) (v := .ref (z 3)) (C := RX4) (T := TX4) (N := 20) hx hb hts (by decide +kernel) hown hK hP 0 rfl rfl 3 (by decide) (hts (.fieldLink RX4 16 "TrapMachineModel" "control" "[I") (by decide +kernel)) (fun _ h9 => h9) rfl dX4_govern_193 ?_
                    refine lv_iconst (v := (0 : Int32)) hx hb dX4_govern_196 (by decide) ?_
                    refine lv_aload_n hx hb dX4_govern_197 rfl (lv_at hl 0 rfl) ?_
                    refine va_get (D := D) (ci := 3) (v := .ref (z 3)) (C := RX4) (T := TX4) (N := 20) hx hb hts (by decide +kernel) hown hK hP 0 rfl rfl 3 (by decide) (hts (.fieldLink RX4 16 "TrapMachineModel" "control" "[I") (by decide +kernel)) (fun _ h9 => h9) rfl dX4_govern_198 ?_
                    refine lv_iconst (v := (0 : Int32)) hx hb dX4_govern_201 (by decide) ?_
                    refine q_iald (j := 0) (x9 := (((w.2.2.2.1 0) &&& (8 : Int32)) ||| ((w.2.2.2.1 1) &&& (7 : Int32)))) hx hb hK hP 3 0 rfl rfl (vi_k (by decide)) rfl rfl dX4_govern_202 ?_
                    refine lv_bipush (v := (7 : Int32)) hx hb dX4_govern_203 (by decide) ?_
                    refine lv_iand hx hb dX4_govern_205 ?_
                    refine q_iast (j := 0) (ws' := wM k z (ms3 (ms12 (ms3 (ms10 w (w.2.2.2.1 4)) (upd w.2.2.2.1 0 (((w.2.2.2.1 0) &&& (8 : Int32)) ||| ((w.2.2.2.1 1) &&& (7 : Int32))))) (0 : Int32)) (upd (upd w.2.2.2.1 0 (((w.2.2.2.1 0) &&& (8 : Int32)) ||| ((w.2.2.2.1 1) &&& (7 : Int32)))) 0 ((((w.2.2.2.1 0) &&& (8 : Int32)) ||| ((w.2.2.2.1 1) &&& (7 : Int32))) &&& (7 : Int32))))) hx hb hK hP hD hS 3 0 rfl rfl (vi_k (by decide)) rfl rfl dX4_govern_206 (fun H locs hP hD hS => ?_)
                    refine lv_aload_n hx hb dX4_govern_207 rfl (lv_at hl 0 rfl) ?_
                    refine lv_iload_n hx hb dX4_govern_208 rfl (lv_at hl 1 rfl) ?_
                    refine lv_bipush (v := (27 : Int32)) hx hb dX4_govern_209 (by decide) ?_
                    refine lv_icmp_ne (tgt := 218) hx hb dX4_govern_211 (by decide) (fun _ => ?_) (fun c9 => absurd c9 (show ¬ (a1 = (27 : Int32)) by rw [c_140]; decide))
                    refine lv_iconst (v := (0 : Int32)) hx hb dX4_govern_218 (by decide) ?_
                    refine va_put (D := D) (ci := 3) (v := .int (0 : Int32)) (ty := .boolean) (C := RX4) (T := TX4) (N := 20) hx hb hts (by decide +kernel) tyX4 tyX4_ok nmX4 hown hK hP hD hS 0 rfl rfl 14 (by decide) (hts (.fieldLink RX4 127 "TrapMachineModel" "rests" "Z") (by decide +kernel)) (fun _ h9 => h9) rfl (by decide +kernel) rfl rfl (Nat.le_of_ble_eq_true rfl) dX4_govern_219 (fun H locs hP hD hS => ?_)
                    have hP : va_P D vwCl (wM k z (ms13 (ms3 (ms12 (ms3 (ms10 w (w.2.2.2.1 4)) (upd w.2.2.2.1 0 (((w.2.2.2.1 0) &&& (8 : Int32)) ||| ((w.2.2.2.1 1) &&& (7 : Int32))))) (0 : Int32)) (upd (upd w.2.2.2.1 0 (((w.2.2.2.1 0) &&& (8 : Int32)) ||| ((w.2.2.2.1 1) &&& (7 : Int32)))) 0 ((((w.2.2.2.1 0) &&& (8 : Int32)) ||| ((w.2.2.2.1 1) &&& (7 : Int32))) &&& (7 : Int32)))) (0 : Int32))) H := hP
                    have hD : va_D (in_W (wM k z w)) (wM k z (ms13 (ms3 (ms12 (ms3 (ms10 w (w.2.2.2.1 4)) (upd w.2.2.2.1 0 (((w.2.2.2.1 0) &&& (8 : Int32)) ||| ((w.2.2.2.1 1) &&& (7 : Int32))))) (0 : Int32)) (upd (upd w.2.2.2.1 0 (((w.2.2.2.1 0) &&& (8 : Int32)) ||| ((w.2.2.2.1 1) &&& (7 : Int32)))) 0 ((((w.2.2.2.1 0) &&& (8 : Int32)) ||| ((w.2.2.2.1 1) &&& (7 : Int32))) &&& (7 : Int32)))) (0 : Int32))) := hD
                    refine lv_iconst (v := (-1 : Int32)) hx hb dX4_govern_222 (by decide) ?_
                    exact W.iret (v := (-1 : Int32)) hx hb hr (wr_end (congrArg (fun t9 : Int32 × MD => some (Value.int t9.1)) ((show fX4_govern w a1 a2 a3 a4 = ((-1 : Int32), (ms13 (ms3 (ms12 (ms3 (ms10 w (w.2.2.2.1 4)) (upd w.2.2.2.1 0 (((w.2.2.2.1 0) &&& (8 : Int32)) ||| ((w.2.2.2.1 1) &&& (7 : Int32))))) (0 : Int32)) (upd (upd w.2.2.2.1 0 (((w.2.2.2.1 0) &&& (8 : Int32)) ||| ((w.2.2.2.1 1) &&& (7 : Int32)))) 0 ((((w.2.2.2.1 0) &&& (8 : Int32)) ||| ((w.2.2.2.1 1) &&& (7 : Int32))) &&& (7 : Int32)))) (0 : Int32))) from (if_pos c_4).trans ((if_pos c_19).trans ((if_neg c_35).trans ((if_neg c_66).trans ((if_neg c_76).trans ((if_neg c_95).trans ((if_neg c_114).trans ((if_pos c_140).trans ((if_pos c_189).trans rfl))))))))).symm.trans ho)) (congrArg (fun t9 : Int32 × MD => wM k z t9.2) ((show fX4_govern w a1 a2 a3 a4 = ((-1 : Int32), (ms13 (ms3 (ms12 (ms3 (ms10 w (w.2.2.2.1 4)) (upd w.2.2.2.1 0 (((w.2.2.2.1 0) &&& (8 : Int32)) ||| ((w.2.2.2.1 1) &&& (7 : Int32))))) (0 : Int32)) (upd (upd w.2.2.2.1 0 (((w.2.2.2.1 0) &&& (8 : Int32)) ||| ((w.2.2.2.1 1) &&& (7 : Int32)))) 0 ((((w.2.2.2.1 0) &&& (8 : Int32)) ||| ((w.2.2.2.1 1) &&& (7 : Int32))) &&& (7 : Int32)))) (0 : Int32))) from (if_pos c_4).trans ((if_pos c_19).trans ((if_neg c_35).trans ((if_neg c_66).trans ((if_neg c_76).trans ((if_neg c_95).trans ((if_neg c_114).trans ((if_pos c_140).trans ((if_pos c_189).trans rfl))))))))).symm.trans ho)) hP hS) hS.2.2 dX4_govern_223
              · refine lv_aload_n hx hb dX4_govern_117 rfl (lv_at hl 0 rfl) ?_
                refine lv_aload_n hx hb dX4_govern_118 rfl (lv_at hl 0 rfl) ?_
                refine va_get (D := D) (ci := 3) (v := .int w.2.2.2.2.2.2.2.2.2.2.2.1) (C := RX4) (T := TX4) (N := 20) hx hb hts (by decide +kernel) hown hK hP 0 rfl rfl 12 (by decide) (hts (.fieldLink RX4 124 "TrapMachineModel" "filled" "I") (by decide +kernel)) (fun _ h9 => h9) rfl dX4_govern_119 ?_
                obtain ⟨o1, h_o1⟩ : ∃ o9, (fX4_fill w w.2.2.2.2.2.2.2.2.2.2.2.1) = o9 := ⟨_, rfl⟩
                refine wr_call (r := none) (ws' := wM k z o1) (W.runV (C := RX4) (b := (z 0)) (As := [.int w.2.2.2.2.2.2.2.2.2.2.2.1]) (rest := []) ⟨hx, hb, hml, hown, hts⟩ (kX4_fill l D k z w w.2.2.2.2.2.2.2.2.2.2.2.1 hf o1 h_o1) (cwV 1 hts gX4_govern_X4_fill rfl rfl rfl (by decide +kernel) ⟨Nat.le_of_ble_eq_true rfl, Nat.le_of_ble_eq_true rfl⟩) (wr_preV bl_T pr_T hK hP hD (va_recv hK hP (ci := 3) (q0 := 0) rfl rfl)) rfl rfl hl.1 rfl (lv_room (Nat.le_of_ble_eq_true rfl)) dX4_govern_122 ⟨Nat.zero_le _, Nat.zero_le _⟩) hP hD hS [0, 1, 2, 3, 4, 5, 6, 7, 8, 9] [] [0, 1, 2, 3, 4, 5, 6, 7, 8, 9] allM (by decide) prmM adrM (fun H locs hP hD hS => ?_)
                refine lv_aload_n hx hb dX4_govern_125 rfl (lv_at hl 0 rfl) ?_
                refine lv_aload_n hx hb dX4_govern_126 rfl (lv_at hl 0 rfl) ?_
                refine va_get (D := D) (ci := 3) (v := .int o1.2.2.2.2.2.2.2.2.2.2.2.1) (C := RX4) (T := TX4) (N := 20) hx hb hts (by decide +kernel) hown hK hP 0 rfl rfl 12 (by decide) (hts (.fieldLink RX4 124 "TrapMachineModel" "filled" "I") (by decide +kernel)) (fun _ h9 => h9) rfl dX4_govern_127 ?_
                refine lv_iconst (v := (1 : Int32)) hx hb dX4_govern_130 (by decide) ?_
                refine lv_iadd hx hb dX4_govern_131 ?_
                refine lv_iconst (v := (4 : Int32)) hx hb dX4_govern_132 (by decide) ?_
                refine lv_irem hx hb dX4_govern_133 (by decide) ?_
                refine va_put (D := D) (ci := 3) (v := .int ((o1.2.2.2.2.2.2.2.2.2.2.2.1 + (1 : Int32)) - (o1.2.2.2.2.2.2.2.2.2.2.2.1 + (1 : Int32)) / (4 : Int32) * (4 : Int32))) (ty := .int) (C := RX4) (T := TX4) (N := 20) hx hb hts (by decide +kernel) tyX4 tyX4_ok nmX4 hown hK hP hD hS 0 rfl rfl 12 (by decide) (hts (.fieldLink RX4 124 "TrapMachineModel" "filled" "I") (by decide +kernel)) (fun _ h9 => h9) rfl (by decide +kernel) rfl rfl (Nat.le_of_ble_eq_true rfl) dX4_govern_134 (fun H locs hP hD hS => ?_)
                have hP : va_P D vwCl (wM k z (ms11 o1 ((o1.2.2.2.2.2.2.2.2.2.2.2.1 + (1 : Int32)) - (o1.2.2.2.2.2.2.2.2.2.2.2.1 + (1 : Int32)) / (4 : Int32) * (4 : Int32)))) H := hP
                have hD : va_D (in_W (wM k z w)) (wM k z (ms11 o1 ((o1.2.2.2.2.2.2.2.2.2.2.2.1 + (1 : Int32)) - (o1.2.2.2.2.2.2.2.2.2.2.2.1 + (1 : Int32)) / (4 : Int32) * (4 : Int32)))) := hD
                refine lv_iload_n hx hb dX4_govern_137 rfl (lv_at hl 1 rfl) ?_
                refine lv_bipush (v := (26 : Int32)) hx hb dX4_govern_138 (by decide) ?_
                refine lv_icmp_ne (tgt := 207) hx hb dX4_govern_140 (by decide) (fun _ => ?_) (fun c9 => absurd c9 (show ¬ (a1 = (26 : Int32)) by rw [c_114]; decide))
                refine lv_aload_n hx hb dX4_govern_207 rfl (lv_at hl 0 rfl) ?_
                refine lv_iload_n hx hb dX4_govern_208 rfl (lv_at hl 1 rfl) ?_
                refine lv_bipush (v := (27 : Int32)) hx hb dX4_govern_209 (by decide) ?_
                refine lv_icmp_ne (tgt := 218) hx hb dX4_govern_211 (by decide) (fun _ => ?_) (fun c9 => absurd c9 (show ¬ (a1 = (27 : Int32)) by rw [c_114]; decide))
                refine lv_iconst (v := (0 : Int32)) hx hb dX4_govern_218 (by decide) ?_
                refine va_put (D := D) (ci := 3) (v := .int (0 : Int32)) (ty := .boolean) (C := RX4) (T := TX4) (N := 20) hx hb hts (by decide +kernel) tyX4 tyX4_ok nmX4 hown hK hP hD hS 0 rfl rfl 14 (by decide) (hts (.fieldLink RX4 127 "TrapMachineModel" "rests" "Z") (by decide +kernel)) (fun _ h9 => h9) rfl (by decide +kernel) rfl rfl (Nat.le_of_ble_eq_true rfl) dX4_govern_219 (fun H locs hP hD hS => ?_)
                have hP : va_P D vwCl (wM k z (ms13 (ms11 o1 ((o1.2.2.2.2.2.2.2.2.2.2.2.1 + (1 : Int32)) - (o1.2.2.2.2.2.2.2.2.2.2.2.1 + (1 : Int32)) / (4 : Int32) * (4 : Int32))) (0 : Int32))) H := hP
                have hD : va_D (in_W (wM k z w)) (wM k z (ms13 (ms11 o1 ((o1.2.2.2.2.2.2.2.2.2.2.2.1 + (1 : Int32)) - (o1.2.2.2.2.2.2.2.2.2.2.2.1 + (1 : Int32)) / (4 : Int32) * (4 : Int32))) (0 : Int32))) := hD
                refine lv_iconst (v := (-1 : Int32)) hx hb dX4_govern_222 (by decide) ?_
                exact W.iret (v := (-1 : Int32)) hx hb hr (wr_end (congrArg (fun t9 : Int32 × MD => some (Value.int t9.1)) ((show fX4_govern w a1 a2 a3 a4 = ((-1 : Int32), (ms13 (ms11 o1 ((o1.2.2.2.2.2.2.2.2.2.2.2.1 + (1 : Int32)) - (o1.2.2.2.2.2.2.2.2.2.2.2.1 + (1 : Int32)) / (4 : Int32) * (4 : Int32))) (0 : Int32))) from (by subst h_o1; exact (if_pos c_4).trans ((if_pos c_19).trans ((if_neg c_35).trans ((if_neg c_66).trans ((if_neg c_76).trans ((if_neg c_95).trans ((if_pos c_114).trans rfl)))))))).symm.trans ho)) (congrArg (fun t9 : Int32 × MD => wM k z t9.2) ((show fX4_govern w a1 a2 a3 a4 = ((-1 : Int32), (ms13 (ms11 o1 ((o1.2.2.2.2.2.2.2.2.2.2.2.1 + (1 : Int32)) - (o1.2.2.2.2.2.2.2.2.2.2.2.1 + (1 : Int32)) / (4 : Int32) * (4 : Int32))) (0 : Int32))) from (by subst h_o1; exact (if_pos c_4).trans ((if_pos c_19).trans ((if_neg c_35).trans ((if_neg c_66).trans ((if_neg c_76).trans ((if_neg c_95).trans ((if_pos c_114).trans rfl)))))))).symm.trans ho)) hP hS) hS.2.2 dX4_govern_223
            · refine lv_aload_n hx hb dX4_govern_98 rfl (lv_at hl 0 rfl) ?_
              refine lv_aload_n hx hb dX4_govern_99 rfl (lv_at hl 0 rfl) ?_
              refine va_get (D := D) (ci := 3) (v := .ref (z 3)) (C := RX4) (T := TX4) (N := 20) hx hb hts (by decide +kernel) hown hK hP 0 rfl rfl 3 (by decide) (hts (.fieldLink RX4 16 "TrapMachineModel" "control" "[I") (by decide +kernel)) (fun _ h9 => h9) rfl dX4_govern_100 ?_
              refine lv_bipush (v := (7 : Int32)) hx hb dX4_govern_103 (by decide) ?_
              refine q_iald (j := 7) (x9 := (w.2.2.2.1 7)) hx hb hK hP 3 0 rfl rfl (vi_k (by decide)) rfl rfl dX4_govern_105 ?_
              refine lv_iconst (v := (3 : Int32)) hx hb dX4_govern_106 (by decide) ?_
              refine lv_iand hx hb dX4_govern_107 ?_
              obtain ⟨o2, h_o2⟩ : ∃ o9, (fX4_fill w ((w.2.2.2.1 7) &&& (3 : Int32))) = o9 := ⟨_, rfl⟩
              refine wr_call (r := none) (ws' := wM k z o2) (W.runV (C := RX4) (b := (z 0)) (As := [.int ((w.2.2.2.1 7) &&& (3 : Int32))]) (rest := []) ⟨hx, hb, hml, hown, hts⟩ (kX4_fill l D k z w ((w.2.2.2.1 7) &&& (3 : Int32)) (vi3 _) o2 h_o2) (cwV 1 hts gX4_govern_X4_fill rfl rfl rfl (by decide +kernel) ⟨Nat.le_of_ble_eq_true rfl, Nat.le_of_ble_eq_true rfl⟩) (wr_preV bl_T pr_T hK hP hD (va_recv hK hP (ci := 3) (q0 := 0) rfl rfl)) rfl rfl hl.1 rfl (lv_room (Nat.le_of_ble_eq_true rfl)) dX4_govern_108 ⟨Nat.zero_le _, Nat.zero_le _⟩) hP hD hS [0, 1, 2, 3, 4, 5, 6, 7, 8, 9] [] [0, 1, 2, 3, 4, 5, 6, 7, 8, 9] allM (by decide) prmM adrM (fun H locs hP hD hS => ?_)
              refine lv_iload_n hx hb dX4_govern_111 rfl (lv_at hl 1 rfl) ?_
              refine lv_bipush (v := (24 : Int32)) hx hb dX4_govern_112 (by decide) ?_
              refine lv_icmp_ne (tgt := 137) hx hb dX4_govern_114 (by decide) (fun _ => ?_) (fun c9 => absurd c9 (show ¬ (a1 = (24 : Int32)) by rw [c_95]; decide))
              refine lv_iload_n hx hb dX4_govern_137 rfl (lv_at hl 1 rfl) ?_
              refine lv_bipush (v := (26 : Int32)) hx hb dX4_govern_138 (by decide) ?_
              refine lv_icmp_ne (tgt := 207) hx hb dX4_govern_140 (by decide) (fun _ => ?_) (fun c9 => absurd c9 (show ¬ (a1 = (26 : Int32)) by rw [c_95]; decide))
              refine lv_aload_n hx hb dX4_govern_207 rfl (lv_at hl 0 rfl) ?_
              refine lv_iload_n hx hb dX4_govern_208 rfl (lv_at hl 1 rfl) ?_
              refine lv_bipush (v := (27 : Int32)) hx hb dX4_govern_209 (by decide) ?_
              refine lv_icmp_ne (tgt := 218) hx hb dX4_govern_211 (by decide) (fun _ => ?_) (fun c9 => absurd c9 (show ¬ (a1 = (27 : Int32)) by rw [c_95]; decide))
              refine lv_iconst (v := (0 : Int32)) hx hb dX4_govern_218 (by decide) ?_
              refine va_put (D := D) (ci := 3) (v := .int (0 : Int32)) (ty := .boolean) (C := RX4) (T := TX4) (N := 20) hx hb hts (by decide +kernel) tyX4 tyX4_ok nmX4 hown hK hP hD hS 0 rfl rfl 14 (by decide) (hts (.fieldLink RX4 127 "TrapMachineModel" "rests" "Z") (by decide +kernel)) (fun _ h9 => h9) rfl (by decide +kernel) rfl rfl (Nat.le_of_ble_eq_true rfl) dX4_govern_219 (fun H locs hP hD hS => ?_)
              have hP : va_P D vwCl (wM k z (ms13 o2 (0 : Int32))) H := hP
              have hD : va_D (in_W (wM k z w)) (wM k z (ms13 o2 (0 : Int32))) := hD
              refine lv_iconst (v := (-1 : Int32)) hx hb dX4_govern_222 (by decide) ?_
              exact W.iret (v := (-1 : Int32)) hx hb hr (wr_end (congrArg (fun t9 : Int32 × MD => some (Value.int t9.1)) ((show fX4_govern w a1 a2 a3 a4 = ((-1 : Int32), (ms13 o2 (0 : Int32))) from (by subst h_o2; exact (if_pos c_4).trans ((if_pos c_19).trans ((if_neg c_35).trans ((if_neg c_66).trans ((if_neg c_76).trans ((if_pos c_95).trans rfl))))))).symm.trans ho)) (congrArg (fun t9 : Int32 × MD => wM k z t9.2) ((show fX4_govern w a1 a2 a3 a4 = ((-1 : Int32), (ms13 o2 (0 : Int32))) from (by subst h_o2; exact (if_pos c_4).trans ((if_pos c_19).trans ((if_neg c_35).trans ((if_neg c_66).trans ((if_neg c_76).trans ((if_pos c_95).trans rfl))))))).symm.trans ho)) hP hS) hS.2.2 dX4_govern_223
          · refine lv_aload_n hx hb dX4_govern_79 rfl (lv_at hl 0 rfl) ?_
            refine lv_aload_n hx hb dX4_govern_80 rfl (lv_at hl 0 rfl) ?_
            refine va_get (D := D) (ci := 3) (v := .ref (z 3)) (C := RX4) (T := TX4) (N := 20) hx hb hts (by decide +kernel) hown hK hP 0 rfl rfl 3 (by decide) (hts (.fieldLink RX4 16 "TrapMachineModel" "control" "[I") (by decide +kernel)) (fun _ h9 => h9) rfl dX4_govern_81 ?_
            refine lv_bipush (v := (7 : Int32)) hx hb dX4_govern_84 (by decide) ?_
            refine q_iald (j := 7) (x9 := (w.2.2.2.1 7)) hx hb hK hP 3 0 rfl rfl (vi_k (by decide)) rfl rfl dX4_govern_86 ?_
            refine lv_iconst (v := (3 : Int32)) hx hb dX4_govern_87 (by decide) ?_
            refine lv_iand hx hb dX4_govern_88 ?_
            obtain ⟨o3, h_o3⟩ : ∃ o9, (fX4_read w ((w.2.2.2.1 7) &&& (3 : Int32))) = o9 := ⟨_, rfl⟩
            refine wr_call (r := none) (ws' := wM k z o3) (W.runV (C := RX4) (b := (z 0)) (As := [.int ((w.2.2.2.1 7) &&& (3 : Int32))]) (rest := []) ⟨hx, hb, hml, hown, hts⟩ (kX4_read l D k z w ((w.2.2.2.1 7) &&& (3 : Int32)) (vi3 _) o3 h_o3) (cwV 1 hts gX4_govern_X4_read rfl rfl rfl (by decide +kernel) ⟨Nat.le_of_ble_eq_true rfl, Nat.le_of_ble_eq_true rfl⟩) (wr_preV bl_T pr_T hK hP hD (va_recv hK hP (ci := 3) (q0 := 0) rfl rfl)) rfl rfl hl.1 rfl (lv_room (Nat.le_of_ble_eq_true rfl)) dX4_govern_89 ⟨Nat.zero_le _, Nat.zero_le _⟩) hP hD hS [0, 1, 2, 3, 4, 5, 6, 7, 8, 9] [] [0, 1, 2, 3, 4, 5, 6, 7, 8, 9] allM (by decide) prmM adrM (fun H locs hP hD hS => ?_)
            refine lv_iload_n hx hb dX4_govern_92 rfl (lv_at hl 1 rfl) ?_
            refine lv_bipush (v := (23 : Int32)) hx hb dX4_govern_93 (by decide) ?_
            refine lv_icmp_ne (tgt := 111) hx hb dX4_govern_95 (by decide) (fun _ => ?_) (fun c9 => absurd c9 (show ¬ (a1 = (23 : Int32)) by rw [c_76]; decide))
            refine lv_iload_n hx hb dX4_govern_111 rfl (lv_at hl 1 rfl) ?_
            refine lv_bipush (v := (24 : Int32)) hx hb dX4_govern_112 (by decide) ?_
            refine lv_icmp_ne (tgt := 137) hx hb dX4_govern_114 (by decide) (fun _ => ?_) (fun c9 => absurd c9 (show ¬ (a1 = (24 : Int32)) by rw [c_76]; decide))
            refine lv_iload_n hx hb dX4_govern_137 rfl (lv_at hl 1 rfl) ?_
            refine lv_bipush (v := (26 : Int32)) hx hb dX4_govern_138 (by decide) ?_
            refine lv_icmp_ne (tgt := 207) hx hb dX4_govern_140 (by decide) (fun _ => ?_) (fun c9 => absurd c9 (show ¬ (a1 = (26 : Int32)) by rw [c_76]; decide))
            refine lv_aload_n hx hb dX4_govern_207 rfl (lv_at hl 0 rfl) ?_
            refine lv_iload_n hx hb dX4_govern_208 rfl (lv_at hl 1 rfl) ?_
            refine lv_bipush (v := (27 : Int32)) hx hb dX4_govern_209 (by decide) ?_
            refine lv_icmp_ne (tgt := 218) hx hb dX4_govern_211 (by decide) (fun _ => ?_) (fun c9 => absurd c9 (show ¬ (a1 = (27 : Int32)) by rw [c_76]; decide))
            refine lv_iconst (v := (0 : Int32)) hx hb dX4_govern_218 (by decide) ?_
            refine va_put (D := D) (ci := 3) (v := .int (0 : Int32)) (ty := .boolean) (C := RX4) (T := TX4) (N := 20) hx hb hts (by decide +kernel) tyX4 tyX4_ok nmX4 hown hK hP hD hS 0 rfl rfl 14 (by decide) (hts (.fieldLink RX4 127 "TrapMachineModel" "rests" "Z") (by decide +kernel)) (fun _ h9 => h9) rfl (by decide +kernel) rfl rfl (Nat.le_of_ble_eq_true rfl) dX4_govern_219 (fun H locs hP hD hS => ?_)
            have hP : va_P D vwCl (wM k z (ms13 o3 (0 : Int32))) H := hP
            have hD : va_D (in_W (wM k z w)) (wM k z (ms13 o3 (0 : Int32))) := hD
            refine lv_iconst (v := (-1 : Int32)) hx hb dX4_govern_222 (by decide) ?_
            exact W.iret (v := (-1 : Int32)) hx hb hr (wr_end (congrArg (fun t9 : Int32 × MD => some (Value.int t9.1)) ((show fX4_govern w a1 a2 a3 a4 = ((-1 : Int32), (ms13 o3 (0 : Int32))) from (by subst h_o3; exact (if_pos c_4).trans ((if_pos c_19).trans ((if_neg c_35).trans ((if_neg c_66).trans ((if_pos c_76).trans rfl)))))).symm.trans ho)) (congrArg (fun t9 : Int32 × MD => wM k z t9.2) ((show fX4_govern w a1 a2 a3 a4 = ((-1 : Int32), (ms13 o3 (0 : Int32))) from (by subst h_o3; exact (if_pos c_4).trans ((if_pos c_19).trans ((if_neg c_35).trans ((if_neg c_66).trans ((if_pos c_76).trans rfl)))))).symm.trans ho)) hP hS) hS.2.2 dX4_govern_223
        · refine lv_aload_n hx hb dX4_govern_69 rfl (lv_at hl 0 rfl) ?_
          obtain ⟨o4, h_o4⟩ : ∃ o9, (fX4_search w) = o9 := ⟨_, rfl⟩
          refine wr_call (r := none) (ws' := wM k z o4) (W.runV (C := RX4) (b := (z 0)) (As := []) (rest := []) ⟨hx, hb, hml, hown, hts⟩ (kX4_search l D k z w o4 h_o4) (cwV 0 hts gX4_govern_X4_search rfl rfl rfl (by decide +kernel) ⟨Nat.le_of_ble_eq_true rfl, Nat.le_of_ble_eq_true rfl⟩) (wr_preV bl_T pr_T hK hP hD (va_recv hK hP (ci := 3) (q0 := 0) rfl rfl)) rfl rfl hl.1 rfl (lv_room (Nat.le_of_ble_eq_true rfl)) dX4_govern_70 ⟨Nat.zero_le _, Nat.zero_le _⟩) hP hD hS [0, 1, 2, 3, 4, 5, 6, 7, 8, 9] [] [0, 1, 2, 3, 4, 5, 6, 7, 8, 9] allM (by decide) prmM adrM (fun H locs hP hD hS => ?_)
          refine lv_iload_n hx hb dX4_govern_73 rfl (lv_at hl 1 rfl) ?_
          refine lv_bipush (v := (22 : Int32)) hx hb dX4_govern_74 (by decide) ?_
          refine lv_icmp_ne (tgt := 92) hx hb dX4_govern_76 (by decide) (fun _ => ?_) (fun c9 => absurd c9 (show ¬ (a1 = (22 : Int32)) by rw [c_66]; decide))
          refine lv_iload_n hx hb dX4_govern_92 rfl (lv_at hl 1 rfl) ?_
          refine lv_bipush (v := (23 : Int32)) hx hb dX4_govern_93 (by decide) ?_
          refine lv_icmp_ne (tgt := 111) hx hb dX4_govern_95 (by decide) (fun _ => ?_) (fun c9 => absurd c9 (show ¬ (a1 = (23 : Int32)) by rw [c_66]; decide))
          refine lv_iload_n hx hb dX4_govern_111 rfl (lv_at hl 1 rfl) ?_
          refine lv_bipush (v := (24 : Int32)) hx hb dX4_govern_112 (by decide) ?_
          refine lv_icmp_ne (tgt := 137) hx hb dX4_govern_114 (by decide) (fun _ => ?_) (fun c9 => absurd c9 (show ¬ (a1 = (24 : Int32)) by rw [c_66]; decide))
          refine lv_iload_n hx hb dX4_govern_137 rfl (lv_at hl 1 rfl) ?_
          refine lv_bipush (v := (26 : Int32)) hx hb dX4_govern_138 (by decide) ?_
          refine lv_icmp_ne (tgt := 207) hx hb dX4_govern_140 (by decide) (fun _ => ?_) (fun c9 => absurd c9 (show ¬ (a1 = (26 : Int32)) by rw [c_66]; decide))
          refine lv_aload_n hx hb dX4_govern_207 rfl (lv_at hl 0 rfl) ?_
          refine lv_iload_n hx hb dX4_govern_208 rfl (lv_at hl 1 rfl) ?_
          refine lv_bipush (v := (27 : Int32)) hx hb dX4_govern_209 (by decide) ?_
          refine lv_icmp_ne (tgt := 218) hx hb dX4_govern_211 (by decide) (fun _ => ?_) (fun c9 => absurd c9 (show ¬ (a1 = (27 : Int32)) by rw [c_66]; decide))
          refine lv_iconst (v := (0 : Int32)) hx hb dX4_govern_218 (by decide) ?_
          refine va_put (D := D) (ci := 3) (v := .int (0 : Int32)) (ty := .boolean) (C := RX4) (T := TX4) (N := 20) hx hb hts (by decide +kernel) tyX4 tyX4_ok nmX4 hown hK hP hD hS 0 rfl rfl 14 (by decide) (hts (.fieldLink RX4 127 "TrapMachineModel" "rests" "Z") (by decide +kernel)) (fun _ h9 => h9) rfl (by decide +kernel) rfl rfl (Nat.le_of_ble_eq_true rfl) dX4_govern_219 (fun H locs hP hD hS => ?_)
          have hP : va_P D vwCl (wM k z (ms13 o4 (0 : Int32))) H := hP
          have hD : va_D (in_W (wM k z w)) (wM k z (ms13 o4 (0 : Int32))) := hD
          refine lv_iconst (v := (-1 : Int32)) hx hb dX4_govern_222 (by decide) ?_
          exact W.iret (v := (-1 : Int32)) hx hb hr (wr_end (congrArg (fun t9 : Int32 × MD => some (Value.int t9.1)) ((show fX4_govern w a1 a2 a3 a4 = ((-1 : Int32), (ms13 o4 (0 : Int32))) from (by subst h_o4; exact (if_pos c_4).trans ((if_pos c_19).trans ((if_neg c_35).trans ((if_pos c_66).trans rfl))))).symm.trans ho)) (congrArg (fun t9 : Int32 × MD => wM k z t9.2) ((show fX4_govern w a1 a2 a3 a4 = ((-1 : Int32), (ms13 o4 (0 : Int32))) from (by subst h_o4; exact (if_pos c_4).trans ((if_pos c_19).trans ((if_neg c_35).trans ((if_pos c_66).trans rfl))))).symm.trans ho)) hP hS) hS.2.2 dX4_govern_223
      · refine lv_aload_n hx hb dX4_govern_38 rfl (lv_at hl 0 rfl) ?_
        refine lv_iload hx hb dX4_govern_39 (lv_at hl 4 rfl) ?_
        refine lv_aload_n hx hb dX4_govern_41 rfl (lv_at hl 0 rfl) ?_
        refine va_get (D := D) (ci := 3) (v := .ref (z 2)) (C := RX4) (T := TX4) (N := 20) hx hb hts (by decide +kernel) hown hK hP 0 rfl rfl 2 (by decide) (hts (.fieldLink RX4 13 "TrapMachineModel" "register" "[I") (by decide +kernel)) (fun _ h9 => h9) rfl dX4_govern_42 ?_
        refine lv_iload_n hx hb dX4_govern_45 rfl (lv_at hl 2 rfl) ?_
        refine lv_bipush (v := (8 : Int32)) hx hb dX4_govern_46 (by decide) ?_
        refine lv_irem hx hb dX4_govern_48 (by decide) ?_
        refine q_iald (j := (ix (a2 - a2 / (8 : Int32) * (8 : Int32)))) (x9 := (w.2.2.1 (ix (a2 - a2 / (8 : Int32) * (8 : Int32))))) hx hb hK hP 2 0 rfl rfl (rem8_in h2) rfl rfl dX4_govern_49 ?_
        refine lv_aload_n hx hb dX4_govern_50 rfl (lv_at hl 0 rfl) ?_
        refine va_get (D := D) (ci := 3) (v := .ref (z 2)) (C := RX4) (T := TX4) (N := 20) hx hb hts (by decide +kernel) hown hK hP 0 rfl rfl 2 (by decide) (hts (.fieldLink RX4 13 "TrapMachineModel" "register" "[I") (by decide +kernel)) (fun _ h9 => h9) rfl dX4_govern_51 ?_
        refine lv_iload_n hx hb dX4_govern_54 rfl (lv_at hl 3 rfl) ?_
        refine lv_bipush (v := (8 : Int32)) hx hb dX4_govern_55 (by decide) ?_
        refine lv_irem hx hb dX4_govern_57 (by decide) ?_
        refine q_iald (j := (ix (a3 - a3 / (8 : Int32) * (8 : Int32)))) (x9 := (w.2.2.1 (ix (a3 - a3 / (8 : Int32) * (8 : Int32))))) hx hb hK hP 2 0 rfl rfl (rem8_in h3) rfl rfl dX4_govern_58 ?_
        obtain ⟨o5, h_o5⟩ : ∃ o9, (fX4_empty w a4 (w.2.2.1 (ix (a2 - a2 / (8 : Int32) * (8 : Int32)))) (w.2.2.1 (ix (a3 - a3 / (8 : Int32) * (8 : Int32))))) = o9 := ⟨_, rfl⟩
        refine wr_call (r := (some (.int o5.1))) (ws' := wM k z o5.2) (W.runV (C := RX4) (b := (z 0)) (As := [.int a4, .int (w.2.2.1 (ix (a2 - a2 / (8 : Int32) * (8 : Int32)))), .int (w.2.2.1 (ix (a3 - a3 / (8 : Int32) * (8 : Int32))))]) (rest := []) ⟨hx, hb, hml, hown, hts⟩ (kX4_empty l D k z w a4 (w.2.2.1 (ix (a2 - a2 / (8 : Int32) * (8 : Int32)))) (w.2.2.1 (ix (a3 - a3 / (8 : Int32) * (8 : Int32)))) o5 h_o5) (cwV 3 hts gX4_govern_X4_empty rfl rfl rfl (by decide +kernel) ⟨Nat.le_of_ble_eq_true rfl, Nat.le_of_ble_eq_true rfl⟩) (wr_preV bl_T pr_T hK hP hD (va_recv hK hP (ci := 3) (q0 := 0) rfl rfl)) rfl rfl hl.1 rfl (lv_room (Nat.le_of_ble_eq_true rfl)) dX4_govern_59 ⟨Nat.zero_le _, Nat.zero_le _⟩) hP hD hS [0, 1, 2, 3, 4, 5, 6, 7, 8, 9] [] [0, 1, 2, 3, 4, 5, 6, 7, 8, 9] allM (by decide) prmM adrM (fun H locs hP hD hS => ?_)
        exact W.iret (v := o5.1) hx hb hr (wr_end (congrArg (fun t9 : Int32 × MD => some (Value.int t9.1)) ((show fX4_govern w a1 a2 a3 a4 = (o5.1, o5.2) from (by subst h_o5; exact (if_pos c_4).trans ((if_pos c_19).trans ((if_pos c_35).trans rfl)))).symm.trans ho)) (congrArg (fun t9 : Int32 × MD => wM k z t9.2) ((show fX4_govern w a1 a2 a3 a4 = (o5.1, o5.2) from (by subst h_o5; exact (if_pos c_4).trans ((if_pos c_19).trans ((if_pos c_35).trans rfl)))).symm.trans ho)) hP hS) hS.2.2 dX4_govern_62
    · refine lv_aload_n hx hb dX4_govern_22 rfl (lv_at hl 0 rfl) ?_
      refine lv_iload_n hx hb dX4_govern_23 rfl (lv_at hl 1 rfl) ?_
      refine lv_iload_n hx hb dX4_govern_24 rfl (lv_at hl 2 rfl) ?_
      refine lv_iload_n hx hb dX4_govern_25 rfl (lv_at hl 3 rfl) ?_
      refine lv_iload hx hb dX4_govern_26 (lv_at hl 4 rfl) ?_
      obtain ⟨o6, h_o6⟩ : ∃ o9, (fX4_controls w a1 a2 a3 a4) = o9 := ⟨_, rfl⟩
      refine wr_call (r := (some (.int o6.1))) (ws' := wM k z o6.2) (W.runV (C := RX4) (b := (z 0)) (As := [.int a1, .int a2, .int a3, .int a4]) (rest := []) ⟨hx, hb, hml, hown, hts⟩ (kX4_controls l D k z w a1 a2 a3 a4 h2 h3 h4 o6 h_o6) (cwV 4 hts gX4_govern_X4_controls rfl rfl rfl (by decide +kernel) ⟨Nat.le_of_ble_eq_true rfl, Nat.le_of_ble_eq_true rfl⟩) (wr_preV bl_T pr_T hK hP hD (va_recv hK hP (ci := 3) (q0 := 0) rfl rfl)) rfl rfl hl.1 rfl (lv_room (Nat.le_of_ble_eq_true rfl)) dX4_govern_28 ⟨Nat.zero_le _, Nat.zero_le _⟩) hP hD hS [0, 1, 2, 3, 4, 5, 6, 7, 8, 9] [] [0, 1, 2, 3, 4, 5, 6, 7, 8, 9] allM (by decide) prmM adrM (fun H locs hP hD hS => ?_)
      exact W.iret (v := o6.1) hx hb hr (wr_end (congrArg (fun t9 : Int32 × MD => some (Value.int t9.1)) ((show fX4_govern w a1 a2 a3 a4 = (o6.1, o6.2) from (by subst h_o6; exact (if_pos c_4).trans ((if_neg c_19).trans rfl))).symm.trans ho)) (congrArg (fun t9 : Int32 × MD => wM k z t9.2) ((show fX4_govern w a1 a2 a3 a4 = (o6.1, o6.2) from (by subst h_o6; exact (if_pos c_4).trans ((if_neg c_19).trans rfl))).symm.trans ho)) hP hS) hS.2.2 dX4_govern_31
  · refine lv_aload_n hx hb dX4_govern_7 rfl (lv_at hl 0 rfl) ?_
    refine lv_bipush (v := (14 : Int32)) hx hb dX4_govern_8 (by decide) ?_
    refine lv_iconst (v := (0 : Int32)) hx hb dX4_govern_10 (by decide) ?_
    refine lv_iconst (v := (0 : Int32)) hx hb dX4_govern_11 (by decide) ?_
    obtain ⟨o7, h_o7⟩ : ∃ o9, (fX4_with w (14 : Int32) (0 : Int32) (0 : Int32)) = o9 := ⟨_, rfl⟩
    refine wr_call (r := (some (.int o7.1))) (ws' := wM k z o7.2) (W.runV (C := RX4) (b := (z 0)) (As := [.int (14 : Int32), .int (0 : Int32), .int (0 : Int32)]) (rest := []) ⟨hx, hb, hml, hown, hts⟩ (kX4_with l D k z w (14 : Int32) (0 : Int32) (0 : Int32) o7 h_o7) (cwV 3 hts gX4_govern_X4_with rfl rfl rfl (by decide +kernel) ⟨Nat.le_of_ble_eq_true rfl, Nat.le_of_ble_eq_true rfl⟩) (wr_preV bl_T pr_T hK hP hD (va_recv hK hP (ci := 3) (q0 := 0) rfl rfl)) rfl rfl hl.1 rfl (lv_room (Nat.le_of_ble_eq_true rfl)) dX4_govern_12 ⟨Nat.zero_le _, Nat.zero_le _⟩) hP hD hS [0, 1, 2, 3, 4, 5, 6, 7, 8, 9] [] [0, 1, 2, 3, 4, 5, 6, 7, 8, 9] allM (by decide) prmM adrM (fun H locs hP hD hS => ?_)
    exact W.iret (v := o7.1) hx hb hr (wr_end (congrArg (fun t9 : Int32 × MD => some (Value.int t9.1)) ((show fX4_govern w a1 a2 a3 a4 = (o7.1, o7.2) from (by subst h_o7; exact (if_neg c_4).trans rfl)).symm.trans ho)) (congrArg (fun t9 : Int32 × MD => wM k z t9.2) ((show fX4_govern w a1 a2 a3 a4 = (o7.1, o7.2) from (by subst h_o7; exact (if_neg c_4).trans rfl)).symm.trans ho)) hP hS) hS.2.2 dX4_govern_15
