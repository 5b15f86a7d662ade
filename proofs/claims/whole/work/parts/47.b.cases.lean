/-! ### the law's walk: the ten calls -/
section LawCases
variable {p : Program} {l : Launch} {e : Env} {s : State} {m : MethodId} {below : List Frame} {meth : Method} {c : Code} {H : Heap} {locs : List Loc} {cells slots : Nat} {Q : State → Prop} {ls : Array Slot}
variable {D : va_G} {b L tC tL oa : Nat} {xs : Nat → Int32} {k : Nat → ClassId} {q z : Nat → Nat} {u : TM} {th nx br ba fo ra : Int32} {f : Nat → Int64}
/-- the next round of the law's loop -/
def LK (p : Program) (l : Launch) (e : Env) (s : State) (m : MethodId) (below : List Frame) (meth : Method) (c : Code) (b : Nat) (D : va_G) (k : Nat → ClassId) (q z : Nat → Nat) (oa i cells slots : Nat) (Q : State → Prop) : Prop :=
  ∀ (H : Heap) (locs : List Loc) (ls : Array Slot) (u : TM) (th nx br ba fo ra : Int32) (f : Nat → Int64), Inv u → LW s D k q z oa H locs u (mk u th nx br ba fo ra) f → lv_has ls 7 (lvL b q z oa i) → W p l e room_1 s m #[Value.ref b] below meth c H locs (cells + 1) (slots + 6) Q (F0 m 524 ls [])
theorem LK.same {i : Nat} (kk : LK p l e s m below meth c b D k q z oa i cells slots Q) (I : Inv u) (hW : LW s D k q z oa H locs u (mk u th nx br ba fo ra) f) (hl : lv_has ls 7 (lvL b q z oa i)) : W p l e room_1 s m #[Value.ref b] below meth c H locs cells slots Q (F0 m 524 ls []) := W.widen (Nat.le_succ _) (Nat.le_add_right _ _) (kk H locs ls u th nx br ba fo ra f I hW hl)
theorem LW.rM {w : MD} (hK : va_K D vwCl (tyL k) s) (h : LW s D k q z oa H locs u w f) : ∃ cellB : Cell, H[z 0]? = some cellB ∧ cellB.vm.isStatics = false ∧ s.vm.findClass RX4 = some cellB.cls := by
  obtain ⟨fs, hfs⟩ := rcM (k := k) (z := z) (w := w)
  exact va_recv hK h.PM (ci := 3) (q0 := 0) rfl hfs
theorem LW.rT {w : MD} (hK : va_K D vwCl (tyL k) s) (h : LW s D k q z oa H locs u w f) : ∃ cellB : Cell, H[q 0]? = some cellB ∧ cellB.vm.isStatics = false ∧ s.vm.findClass RX3 = some cellB.cls := by
  obtain ⟨fs, hfs⟩ := rcT (k := k) (q := q) (u := u)
  exact va_recv hK h.PT (ci := 2) (q0 := 0) rfl hfs
set_option maxHeartbeats 4000000 in
set_option maxRecDepth 100000 in
theorem cs_load (hF : LF p l s m c b L xs D k tC tL) {i : Nat} (hi : i + 2 < L) (I : Inv u) (hW : LW s D k q z oa H locs u (mk u th nx br ba fo ra) f) (hl : lv_has ls 7 (lvL b q z oa i)) (hc : cells + 1 ≤ room_1.cells) (hs : slots + 6 ≤ room_1.slots) (kk : LK p l e s m below meth c b D k q z oa i cells slots Q) : W p l e room_1 s m #[Value.ref b] below meth c H locs cells slots Q (F0 m 92 ls []) := by
  have hx := hF.1.1
  have hb := hF.1.2.1
  have hts := hF.1.2.2.2.2
  have hK := hF.2.2.1
  have hN := hF.2.2.2.1.1
  have hc' := Nat.le_of_succ_le hc
  have hs' : slots ≤ room_1.slots := Nat.le_trans (Nat.le_add_right _ _) hs
  refine lv_aload_n hx hb dL_law_92 rfl (lv_at hl 1 rfl) ?_
  refine sc_rd (j := 1) hF hW.2.2 (lv_at hl 0 rfl) (lv_at hl 4 rfl) (by decide) (by omega) dL_law_93 dL_law_94 dL_law_96 dL_law_97 dL_law_98 ?_
  refine sc_rd (j := 2) hF hW.2.2 (lv_at hl 0 rfl) (lv_at hl 4 rfl) (by decide) (by omega) dL_law_99 dL_law_100 dL_law_102 dL_law_103 dL_law_104 ?_
  by_cases h9 : ¬ fX3_isInMemory (xs (i + 1)) = (0 : Int32)
  · refine lc_T hW (run_of (vx_runSW (As := [.ref (q 0), .int (xs (i + 1)), .int (xs (i + 2))]) (rest := []) hF.1 (kL_load l D k q u (xs (i + 1)) (xs (i + 2)) h9 _ rfl) (vx_cwSW 3 hts gL_law_L_load rfl rfl rfl (by decide +kernel) ⟨Nat.le_of_ble_eq_true rfl, Nat.le_of_ble_eq_true rfl⟩) (wr_preS bl_T pr_T hK hW.PT hW.DT) rfl rfl hl.1 rfl (lv_room (Nat.le_of_ble_eq_true rfl)) dL_law_105 ⟨hc', hs'⟩)) (fun H locs hW => ?_)
    refine lv_istore (lv' := (5, .int (0 : Int32)) :: lvL b q z oa i) hx hb dL_law_108 hl (by decide) rfl (fun ls hl => ?_)
    refine lv_aload_n hx hb dL_law_110 rfl (lv_at hl 3 rfl) ?_
    refine sc_rd (j := 1) hF hW.2.2 (lv_at hl 1 rfl) (lv_at hl 5 rfl) (by decide) (by omega) dL_law_111 dL_law_112 dL_law_114 dL_law_115 dL_law_116 ?_
    refine sc_rd (j := 2) hF hW.2.2 (lv_at hl 1 rfl) (lv_at hl 5 rfl) (by decide) (by omega) dL_law_117 dL_law_118 dL_law_120 dL_law_121 dL_law_122 ?_
    refine lc_M hW (W.runV (C := RX4) (b := z 0) (As := [.int (xs (i + 1)), .int (xs (i + 2))]) (rest := []) hF.1 (kX4_load l D k z _ (xs (i + 1)) (xs (i + 2)) _ (load_ok h9 _)) (cwV 2 hts gL_law_X4_load rfl rfl rfl (by decide +kernel) ⟨Nat.le_of_ble_eq_true rfl, Nat.le_of_ble_eq_true rfl⟩) (wr_preV bl_T pr_T hK hW.PM hW.DM (LW.rM hK hW)) rfl rfl hl.1 rfl (lv_room (Nat.le_of_ble_eq_true rfl)) dL_law_123 ⟨hc', hs'⟩) (fun H locs hW => ?_)
    refine lc_eq (r := (0 : Int32)) (tgt := 137) hF hW th_mk hl.1 (lv_at hl 3 rfl) (lv_at hl 0 rfl) hc' hs' dL_law_126 dL_law_127 dL_law_130 dL_law_132 rfl ?_
    refine lv_goto (tgt := 524) hx hb dL_law_137 (by decide) ?_
    exact kk.same (Inv_loadw I _ _) hW (lv_tl hl)
  · refine lc_x hW (vx_runSW (As := [.ref (q 0), .int (xs (i + 1)), .int (xs (i + 2))]) (rest := []) hF.1 (kL_load_x l hF.2.2.2.2 D k q u (xs (i + 1)) (xs (i + 2)) (Decidable.not_not.mp h9)) (vx_cwSW 3 hts gL_law_L_load rfl rfl rfl (by decide +kernel) ⟨Nat.le_of_ble_eq_true rfl, Nat.le_of_ble_eq_true rfl⟩) (rd_preS bl_XP (pr_XP hF.2.2.2.1.2.2 hW.2.2 (in_D hW.DT)) hK hW.PT) rfl rfl hl.1 rfl (lv_room (Nat.le_of_ble_eq_true rfl)) dL_law_105 ⟨hc, hs⟩) (fun H locs hW => ?_)
    refine lv_istore (lv' := (5, .int (1 : Int32)) :: lvL b q z oa i) hx hb dL_law_108 hl (by decide) rfl (fun ls hl => ?_)
    refine lv_aload_n hx hb dL_law_110 rfl (lv_at hl 3 rfl) ?_
    refine sc_rd (j := 1) hF hW.2.2 (lv_at hl 1 rfl) (lv_at hl 5 rfl) (by decide) (by omega) dL_law_111 dL_law_112 dL_law_114 dL_law_115 dL_law_116 ?_
    refine sc_rd (j := 2) hF hW.2.2 (lv_at hl 1 rfl) (lv_at hl 5 rfl) (by decide) (by omega) dL_law_117 dL_law_118 dL_law_120 dL_law_121 dL_law_122 ?_
    refine lc_M hW (W.runV (C := RX4) (b := z 0) (As := [.int (xs (i + 1)), .int (xs (i + 2))]) (rest := []) hF.1 (kX4_load l D k z _ (xs (i + 1)) (xs (i + 2)) _ (load_no (Decidable.not_not.mp h9) _)) (cwV 2 hts gL_law_X4_load rfl rfl rfl (by decide +kernel) ⟨Nat.le_of_ble_eq_true rfl, Nat.le_of_ble_eq_true rfl⟩) (wr_preV bl_T pr_T hK hW.PM hW.DM (LW.rM hK hW)) rfl rfl hl.1 rfl (lv_room (Nat.le_of_ble_eq_true rfl)) dL_law_123 ⟨hc, hs⟩) (fun H locs hW => ?_)
    refine lc_eq (r := (1 : Int32)) (tgt := 137) hF hW th_mk hl.1 (lv_at hl 3 rfl) (lv_at hl 0 rfl) hc hs dL_law_126 dL_law_127 dL_law_130 dL_law_132 rfl ?_
    refine lv_goto (tgt := 524) hx hb dL_law_137 (by decide) ?_
    exact kk _ _ _ _ _ _ _ _ _ _ _ I hW (lv_tl hl)
set_option maxHeartbeats 4000000 in
set_option maxRecDepth 100000 in
theorem cs_line (hF : LF p l s m c b L xs D k tC tL) {i : Nat} (hi : i + 2 < L) (I : Inv u) (hW : LW s D k q z oa H locs u (mk u th nx br ba fo ra) f) (hl : lv_has ls 7 (lvL b q z oa i)) (hc : cells + 1 ≤ room_1.cells) (hs : slots + 6 ≤ room_1.slots) (kk : LK p l e s m below meth c b D k q z oa i cells slots Q) : W p l e room_1 s m #[Value.ref b] below meth c H locs cells slots Q (F0 m 196 ls []) := by
  have hx := hF.1.1
  have hb := hF.1.2.1
  have hts := hF.1.2.2.2.2
  have hK := hF.2.2.1
  have hN := hF.2.2.2.1.1
  have hc' := Nat.le_of_succ_le hc
  have hs' : slots ≤ room_1.slots := Nat.le_trans (Nat.le_add_right _ _) hs
  refine lv_aload_n hx hb dL_law_196 rfl (lv_at hl 1 rfl) ?_
  refine sc_rd (j := 1) hF hW.2.2 (lv_at hl 0 rfl) (lv_at hl 4 rfl) (by decide) (by omega) dL_law_197 dL_law_198 dL_law_200 dL_law_201 dL_law_202 ?_
  refine sc_rd (j := 2) hF hW.2.2 (lv_at hl 0 rfl) (lv_at hl 4 rfl) (by decide) (by omega) dL_law_203 dL_law_204 dL_law_206 dL_law_207 dL_law_208 ?_
  refine sc_bool hx hb dL_law_209 dL_law_212 dL_law_213 dL_law_216 ?_
  by_cases h9 : (¬ (xs (i + 1)) < (0 : Int32) ∧ (xs (i + 1)) ≤ (3 : Int32))
  · refine lc_T hW (run_of (vx_runSW (As := [.ref (q 0), .int (xs (i + 1)), .int (if (xs (i + 2)) = (0 : Int32) then (0 : Int32) else (1 : Int32))]) (rest := []) hF.1 (kL_line l D k q u (xs (i + 1)) (if (xs (i + 2)) = (0 : Int32) then (0 : Int32) else (1 : Int32)) h9.1 h9.2 _ rfl) (vx_cwSW 3 hts gL_law_L_line rfl rfl rfl (by decide +kernel) ⟨Nat.le_of_ble_eq_true rfl, Nat.le_of_ble_eq_true rfl⟩) (wr_preS bl_N (pr_N hN) hK hW.PT hW.DT) rfl rfl hl.1 rfl (lv_room (Nat.le_of_ble_eq_true rfl)) dL_law_217 ⟨hc', hs'⟩)) (fun H locs hW => ?_)
    refine lv_istore (lv' := (5, .int (0 : Int32)) :: lvL b q z oa i) hx hb dL_law_220 hl (by decide) rfl (fun ls hl => ?_)
    refine lv_aload_n hx hb dL_law_222 rfl (lv_at hl 3 rfl) ?_
    refine sc_rd (j := 1) hF hW.2.2 (lv_at hl 1 rfl) (lv_at hl 5 rfl) (by decide) (by omega) dL_law_223 dL_law_224 dL_law_226 dL_law_227 dL_law_228 ?_
    refine sc_rd (j := 2) hF hW.2.2 (lv_at hl 1 rfl) (lv_at hl 5 rfl) (by decide) (by omega) dL_law_229 dL_law_230 dL_law_232 dL_law_233 dL_law_234 ?_
    refine sc_bool hx hb dL_law_235 dL_law_238 dL_law_239 dL_law_242 ?_
    refine lc_M hW (W.runV (C := RX4) (b := z 0) (As := [.int (xs (i + 1)), .int (if (xs (i + 2)) = (0 : Int32) then (0 : Int32) else (1 : Int32))]) (rest := []) hF.1 (kX4_line l D k z _ (xs (i + 1)) (if (xs (i + 2)) = (0 : Int32) then (0 : Int32) else (1 : Int32)) _ (line_ok h9.1 h9.2 _)) (cwV 2 hts gL_law_X4_line rfl rfl rfl (by decide +kernel) ⟨Nat.le_of_ble_eq_true rfl, Nat.le_of_ble_eq_true rfl⟩) (wr_preV bl_T pr_T hK hW.PM hW.DM (LW.rM hK hW)) rfl rfl hl.1 rfl (lv_room (Nat.le_of_ble_eq_true rfl)) dL_law_243 ⟨hc', hs'⟩) (fun H locs hW => ?_)
    refine lc_eq (r := (0 : Int32)) (tgt := 257) hF hW th_mk hl.1 (lv_at hl 3 rfl) (lv_at hl 0 rfl) hc' hs' dL_law_246 dL_law_247 dL_law_250 dL_law_252 rfl ?_
    refine lv_goto (tgt := 524) hx hb dL_law_257 (by decide) ?_
    exact kk.same (Inv_line I h9.1 h9.2 _) hW (lv_tl hl)
  · refine lc_x hW (vx_runSW (As := [.ref (q 0), .int (xs (i + 1)), .int (if (xs (i + 2)) = (0 : Int32) then (0 : Int32) else (1 : Int32))]) (rest := []) hF.1 (kL_line_x l hF.2.2.2.2 D k q u (xs (i + 1)) (if (xs (i + 2)) = (0 : Int32) then (0 : Int32) else (1 : Int32)) h9) (vx_cwSW 3 hts gL_law_L_line rfl rfl rfl (by decide +kernel) ⟨Nat.le_of_ble_eq_true rfl, Nat.le_of_ble_eq_true rfl⟩) (rd_preS bl_XP (pr_XP hF.2.2.2.1.2.2 hW.2.2 (in_D hW.DT)) hK hW.PT) rfl rfl hl.1 rfl (lv_room (Nat.le_of_ble_eq_true rfl)) dL_law_217 ⟨hc, hs⟩) (fun H locs hW => ?_)
    refine lv_istore (lv' := (5, .int (1 : Int32)) :: lvL b q z oa i) hx hb dL_law_220 hl (by decide) rfl (fun ls hl => ?_)
    refine lv_aload_n hx hb dL_law_222 rfl (lv_at hl 3 rfl) ?_
    refine sc_rd (j := 1) hF hW.2.2 (lv_at hl 1 rfl) (lv_at hl 5 rfl) (by decide) (by omega) dL_law_223 dL_law_224 dL_law_226 dL_law_227 dL_law_228 ?_
    refine sc_rd (j := 2) hF hW.2.2 (lv_at hl 1 rfl) (lv_at hl 5 rfl) (by decide) (by omega) dL_law_229 dL_law_230 dL_law_232 dL_law_233 dL_law_234 ?_
    refine sc_bool hx hb dL_law_235 dL_law_238 dL_law_239 dL_law_242 ?_
    refine lc_M hW (W.runV (C := RX4) (b := z 0) (As := [.int (xs (i + 1)), .int (if (xs (i + 2)) = (0 : Int32) then (0 : Int32) else (1 : Int32))]) (rest := []) hF.1 (kX4_line l D k z _ (xs (i + 1)) (if (xs (i + 2)) = (0 : Int32) then (0 : Int32) else (1 : Int32)) _ (line_no h9 _)) (cwV 2 hts gL_law_X4_line rfl rfl rfl (by decide +kernel) ⟨Nat.le_of_ble_eq_true rfl, Nat.le_of_ble_eq_true rfl⟩) (wr_preV bl_T pr_T hK hW.PM hW.DM (LW.rM hK hW)) rfl rfl hl.1 rfl (lv_room (Nat.le_of_ble_eq_true rfl)) dL_law_243 ⟨hc, hs⟩) (fun H locs hW => ?_)
    refine lc_eq (r := (1 : Int32)) (tgt := 257) hF hW th_mk hl.1 (lv_at hl 3 rfl) (lv_at hl 0 rfl) hc hs dL_law_246 dL_law_247 dL_law_250 dL_law_252 rfl ?_
    refine lv_goto (tgt := 524) hx hb dL_law_257 (by decide) ?_
    exact kk _ _ _ _ _ _ _ _ _ _ _ I hW (lv_tl hl)
end LawCases
