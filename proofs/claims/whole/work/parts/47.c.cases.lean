/-! ### the law's walk: the ten calls -/
section LawCases
variable {p : Program} {l : Launch} {e : Env} {s : State} {m : MethodId} {below : List Frame} {meth : Method} {c : Code} {H : Heap} {locs : List Loc} {cells slots : Nat} {Q : State → Prop} {ls : Array Slot}
variable {D : va_G} {b L tC tL oa : Nat} {xs : Nat → Int32} {k : Nat → ClassId} {q z : Nat → Nat} {u : TM} {th nx br ba fo ra : Int32} {f : Nat → Int64}
set_option maxHeartbeats 4000000 in
set_option maxRecDepth 100000 in
theorem cs_word (hF : LF p l s m c b L xs D k tC tL) {i : Nat} (hi : i + 2 < L) (I : Inv u) (hW : LW s D k q z oa H locs u (mk u th nx br ba fo ra) f) (hl : lv_has ls 7 (lvL b q z oa i)) (hc : cells + 1 ≤ room_1.cells) (hs : slots + 6 ≤ room_1.slots) (kk : LK p l e s m below meth c b D k q z oa i cells slots Q) : W p l e room_1 s m #[Value.ref b] below meth c H locs cells slots Q (F0 m 140 ls []) := by
  have hx := hF.1.1
  have hb := hF.1.2.1
  have hts := hF.1.2.2.2.2
  have hK := hF.2.2.1
  have hN := hF.2.2.2.1.1
  have hc' := Nat.le_of_succ_le hc
  have hs' : slots ≤ room_1.slots := Nat.le_trans (Nat.le_add_right _ _) hs
  refine lv_aload_n hx hb dL_law_140 rfl (lv_at hl 1 rfl) ?_
  refine sc_rd (j := 1) hF hW.2.2 (lv_at hl 0 rfl) (lv_at hl 4 rfl) (by decide) (by omega) dL_law_141 dL_law_142 dL_law_144 dL_law_145 dL_law_146 ?_
  refine lv_aload_n hx hb dL_law_147 rfl (lv_at hl 3 rfl) ?_
  by_cases h9 : ¬ fX3_isInMemory (xs (i + 1)) = (0 : Int32)
  · refine lc_O hW (run_of (vx_runSW (As := [.ref (q 0), .int (xs (i + 1)), .ref oa]) (rest := []) hF.1 (kL_word l D k q u oa f (xs (i + 1)) h9) (vx_cwSW 3 hts gL_law_L_word rfl rfl rfl (by decide +kernel) ⟨Nat.le_of_ble_eq_true rfl, Nat.le_of_ble_eq_true rfl⟩) (wr_preS bl_T pr_T hK hW.PO hW.DO) rfl rfl hl.1 rfl (lv_room (Nat.le_of_ble_eq_true rfl)) dL_law_148 ⟨hc', hs'⟩)) (fun H locs hW => ?_)
    refine lv_istore (lv' := (5, .int (0 : Int32)) :: lvL b q z oa i) hx hb dL_law_151 hl (by decide) rfl (fun ls hl => ?_)
    refine lv_aload_n hx hb dL_law_153 rfl (lv_at hl 3 rfl) ?_
    refine sc_rd (j := 1) hF hW.2.2 (lv_at hl 1 rfl) (lv_at hl 5 rfl) (by decide) (by omega) dL_law_154 dL_law_155 dL_law_157 dL_law_158 dL_law_159 ?_
    refine lc_M hW (W.runV (C := RX4) (b := z 0) (As := [.int (xs (i + 1))]) (rest := []) hF.1 (kX4_word l D k z _ (xs (i + 1)) _ (word_ok h9)) (cwV 1 hts gL_law_X4_word rfl rfl rfl (by decide +kernel) ⟨Nat.le_of_ble_eq_true rfl, Nat.le_of_ble_eq_true rfl⟩) (wr_preV bl_T pr_T hK hW.PM hW.DM (LW.rM hK hW)) rfl rfl hl.1 rfl (lv_room (Nat.le_of_ble_eq_true rfl)) dL_law_160 ⟨hc', hs'⟩) (fun H locs hW => ?_)
    exact lc_tail (r := (0 : Int32)) hF hW th_mk (fun _ => if_pos rfl) hl hc' hs' dL_law_163 dL_law_165 dL_law_166 dL_law_169 dL_law_171 dL_law_176 dL_law_178 dL_law_181 dL_law_182 dL_law_183 dL_law_184 dL_law_186 dL_law_187 dL_law_188 dL_law_193 (by decide) (fun ls hl => kk.same I hW hl)
  · refine lc_x hW (vx_runSW (As := [.ref (q 0), .int (xs (i + 1)), .ref oa]) (rest := []) hF.1 (kL_word_x l hF.2.2.2.2 D k q u oa (xs (i + 1)) (Decidable.not_not.mp h9)) (vx_cwSW 3 hts gL_law_L_word rfl rfl rfl (by decide +kernel) ⟨Nat.le_of_ble_eq_true rfl, Nat.le_of_ble_eq_true rfl⟩) (rd_preS bl_XP (pr_XP hF.2.2.2.1.2.2 hW.2.2 (in_D hW.DT)) hK hW.PT) rfl rfl hl.1 rfl (lv_room (Nat.le_of_ble_eq_true rfl)) dL_law_148 ⟨hc, hs⟩) (fun H locs hW => ?_)
    refine lv_istore (lv' := (5, .int (1 : Int32)) :: lvL b q z oa i) hx hb dL_law_151 hl (by decide) rfl (fun ls hl => ?_)
    refine lv_aload_n hx hb dL_law_153 rfl (lv_at hl 3 rfl) ?_
    refine sc_rd (j := 1) hF hW.2.2 (lv_at hl 1 rfl) (lv_at hl 5 rfl) (by decide) (by omega) dL_law_154 dL_law_155 dL_law_157 dL_law_158 dL_law_159 ?_
    refine lc_M hW (W.runV (C := RX4) (b := z 0) (As := [.int (xs (i + 1))]) (rest := []) hF.1 (kX4_word l D k z _ (xs (i + 1)) _ (word_no (Decidable.not_not.mp h9))) (cwV 1 hts gL_law_X4_word rfl rfl rfl (by decide +kernel) ⟨Nat.le_of_ble_eq_true rfl, Nat.le_of_ble_eq_true rfl⟩) (wr_preV bl_T pr_T hK hW.PM hW.DM (LW.rM hK hW)) rfl rfl hl.1 rfl (lv_room (Nat.le_of_ble_eq_true rfl)) dL_law_160 ⟨hc, hs⟩) (fun H locs hW => ?_)
    exact lc_tail (r := (1 : Int32)) hF hW th_mk (fun h => absurd h (by decide)) hl hc hs dL_law_163 dL_law_165 dL_law_166 dL_law_169 dL_law_171 dL_law_176 dL_law_178 dL_law_181 dL_law_182 dL_law_183 dL_law_184 dL_law_186 dL_law_187 dL_law_188 dL_law_193 (by decide) (fun ls hl => kk _ _ _ _ _ _ _ _ _ _ _ I hW hl)
set_option maxHeartbeats 4000000 in
set_option maxRecDepth 100000 in
theorem cs_register (hF : LF p l s m c b L xs D k tC tL) {i : Nat} (hi : i + 2 < L) (I : Inv u) (hW : LW s D k q z oa H locs u (mk u th nx br ba fo ra) f) (hl : lv_has ls 7 (lvL b q z oa i)) (hc : cells + 1 ≤ room_1.cells) (hs : slots + 6 ≤ room_1.slots) (kk : LK p l e s m below meth c b D k q z oa i cells slots Q) : W p l e room_1 s m #[Value.ref b] below meth c H locs cells slots Q (F0 m 344 ls []) := by
  have hx := hF.1.1
  have hb := hF.1.2.1
  have hts := hF.1.2.2.2.2
  have hK := hF.2.2.1
  have hN := hF.2.2.2.1.1
  have hc' := Nat.le_of_succ_le hc
  have hs' : slots ≤ room_1.slots := Nat.le_trans (Nat.le_add_right _ _) hs
  refine lv_aload_n hx hb dL_law_344 rfl (lv_at hl 1 rfl) ?_
  refine sc_rd (j := 1) hF hW.2.2 (lv_at hl 0 rfl) (lv_at hl 4 rfl) (by decide) (by omega) dL_law_345 dL_law_346 dL_law_348 dL_law_349 dL_law_350 ?_
  refine lv_aload_n hx hb dL_law_351 rfl (lv_at hl 3 rfl) ?_
  by_cases h9 : (¬ (xs (i + 1)) < (0 : Int32) ∧ (xs (i + 1)) ≤ (9 : Int32))
  · refine lc_O hW (run_of (vx_runSW (As := [.ref (q 0), .int (xs (i + 1)), .ref oa]) (rest := []) hF.1 (kL_register l D k q u oa f (xs (i + 1)) h9.1 h9.2) (vx_cwSW 3 hts gL_law_L_register rfl rfl rfl (by decide +kernel) ⟨Nat.le_of_ble_eq_true rfl, Nat.le_of_ble_eq_true rfl⟩) (wr_preS bl_T pr_T hK hW.PO hW.DO) rfl rfl hl.1 rfl (lv_room (Nat.le_of_ble_eq_true rfl)) dL_law_352 ⟨hc', hs'⟩)) (fun H locs hW => ?_)
    refine lv_istore (lv' := (5, .int (0 : Int32)) :: lvL b q z oa i) hx hb dL_law_355 hl (by decide) rfl (fun ls hl => ?_)
    refine lv_aload_n hx hb dL_law_357 rfl (lv_at hl 3 rfl) ?_
    refine sc_rd (j := 1) hF hW.2.2 (lv_at hl 1 rfl) (lv_at hl 5 rfl) (by decide) (by omega) dL_law_358 dL_law_359 dL_law_361 dL_law_362 dL_law_363 ?_
    refine lc_M hW (W.runV (C := RX4) (b := z 0) (As := [.int (xs (i + 1))]) (rest := []) hF.1 (kX4_register l D k z _ (xs (i + 1)) _ (reg_ok h9.1 h9.2)) (cwV 1 hts gL_law_X4_register rfl rfl rfl (by decide +kernel) ⟨Nat.le_of_ble_eq_true rfl, Nat.le_of_ble_eq_true rfl⟩) (wr_preV bl_T pr_T hK hW.PM hW.DM (LW.rM hK hW)) rfl rfl hl.1 rfl (lv_room (Nat.le_of_ble_eq_true rfl)) dL_law_364 ⟨hc', hs'⟩) (fun H locs hW => ?_)
    exact lc_tail (r := (0 : Int32)) hF hW th_mk (fun _ => if_pos rfl) hl hc' hs' dL_law_367 dL_law_369 dL_law_370 dL_law_373 dL_law_375 dL_law_380 dL_law_382 dL_law_385 dL_law_386 dL_law_387 dL_law_388 dL_law_390 dL_law_391 dL_law_392 dL_law_397 (by decide) (fun ls hl => kk.same I hW hl)
  · refine lc_x hW (vx_runSW (As := [.ref (q 0), .int (xs (i + 1)), .ref oa]) (rest := []) hF.1 (kL_register_x l hF.2.2.2.2 D k q u oa (xs (i + 1)) h9) (vx_cwSW 3 hts gL_law_L_register rfl rfl rfl (by decide +kernel) ⟨Nat.le_of_ble_eq_true rfl, Nat.le_of_ble_eq_true rfl⟩) (rd_preS bl_XP (pr_XP hF.2.2.2.1.2.2 hW.2.2 (in_D hW.DT)) hK hW.PT) rfl rfl hl.1 rfl (lv_room (Nat.le_of_ble_eq_true rfl)) dL_law_352 ⟨hc, hs⟩) (fun H locs hW => ?_)
    refine lv_istore (lv' := (5, .int (1 : Int32)) :: lvL b q z oa i) hx hb dL_law_355 hl (by decide) rfl (fun ls hl => ?_)
    refine lv_aload_n hx hb dL_law_357 rfl (lv_at hl 3 rfl) ?_
    refine sc_rd (j := 1) hF hW.2.2 (lv_at hl 1 rfl) (lv_at hl 5 rfl) (by decide) (by omega) dL_law_358 dL_law_359 dL_law_361 dL_law_362 dL_law_363 ?_
    refine lc_M hW (W.runV (C := RX4) (b := z 0) (As := [.int (xs (i + 1))]) (rest := []) hF.1 (kX4_register l D k z _ (xs (i + 1)) _ (reg_no h9)) (cwV 1 hts gL_law_X4_register rfl rfl rfl (by decide +kernel) ⟨Nat.le_of_ble_eq_true rfl, Nat.le_of_ble_eq_true rfl⟩) (wr_preV bl_T pr_T hK hW.PM hW.DM (LW.rM hK hW)) rfl rfl hl.1 rfl (lv_room (Nat.le_of_ble_eq_true rfl)) dL_law_364 ⟨hc, hs⟩) (fun H locs hW => ?_)
    exact lc_tail (r := (1 : Int32)) hF hW th_mk (fun h => absurd h (by decide)) hl hc hs dL_law_367 dL_law_369 dL_law_370 dL_law_373 dL_law_375 dL_law_380 dL_law_382 dL_law_385 dL_law_386 dL_law_387 dL_law_388 dL_law_390 dL_law_391 dL_law_392 dL_law_397 (by decide) (fun ls hl => kk _ _ _ _ _ _ _ _ _ _ _ I hW hl)
end LawCases
