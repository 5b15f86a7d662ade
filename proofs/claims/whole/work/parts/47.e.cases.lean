/-! ### the law's walk: the ten calls -/
section LawCases
variable {p : Program} {l : Launch} {e : Env} {s : State} {m : MethodId} {below : List Frame} {meth : Method} {c : Code} {H : Heap} {locs : List Loc} {cells slots : Nat} {Q : State → Prop} {ls : Array Slot}
variable {D : va_G} {b L tC tL oa : Nat} {xs : Nat → Int32} {k : Nat → ClassId} {q z : Nat → Nat} {u : TM} {th nx br ba fo ra : Int32} {f : Nat → Int64}
set_option maxHeartbeats 4000000 in
set_option maxRecDepth 100000 in
theorem cs_filled (hF : LF p l s m c b L xs D k tC tL) {i : Nat} (hi : i + 2 < L) (I : Inv u) (hW : LW s D k q z oa H locs u (mk u th nx br ba fo ra) f) (hl : lv_has ls 7 (lvL b q z oa i)) (hc : cells + 1 ≤ room_1.cells) (hs : slots + 6 ≤ room_1.slots) (kk : LK p l e s m below meth c b D k q z oa i cells slots Q) : W p l e room_1 s m #[Value.ref b] below meth c H locs cells slots Q (F0 m 260 ls []) := by
  have hx := hF.1.1
  have hb := hF.1.2.1
  have hts := hF.1.2.2.2.2
  have hK := hF.2.2.1
  have hN := hF.2.2.2.1.1
  have hc' := Nat.le_of_succ_le hc
  have hs' : slots ≤ room_1.slots := Nat.le_trans (Nat.le_add_right _ _) hs
  refine lv_aload_n hx hb dL_law_260 rfl (lv_at hl 1 rfl) ?_
  refine sc_rd (j := 1) hF hW.2.2 (lv_at hl 0 rfl) (lv_at hl 4 rfl) (by decide) (by omega) dL_law_261 dL_law_262 dL_law_264 dL_law_265 dL_law_266 ?_
  refine lc_T hW (W.runV (C := RX3) (b := q 0) (As := [.int (xs (i + 1))]) (rest := []) hF.1 (kX3_filled l D k q u (xs (i + 1)) _ rfl) (cwV 1 hts gL_law_X3_filled rfl rfl rfl (by decide +kernel) ⟨Nat.le_of_ble_eq_true rfl, Nat.le_of_ble_eq_true rfl⟩) (wr_preV bl_T pr_T hK hW.PT hW.DT (LW.rT hK hW)) rfl rfl hl.1 rfl (lv_room (Nat.le_of_ble_eq_true rfl)) dL_law_267 ⟨hc', hs'⟩) (fun H locs hW => ?_)
  refine lv_aload_n hx hb dL_law_270 rfl (lv_at hl 2 rfl) ?_
  refine sc_rd (j := 1) hF hW.2.2 (lv_at hl 0 rfl) (lv_at hl 4 rfl) (by decide) (by omega) dL_law_271 dL_law_272 dL_law_274 dL_law_275 dL_law_276 ?_
  refine lc_M hW (W.runV (C := RX4) (b := z 0) (As := [.int (xs (i + 1))]) (rest := []) hF.1 (kX4_filled l D k z _ (xs (i + 1)) _ (filled_rel _)) (cwV 1 hts gL_law_X4_filled rfl rfl rfl (by decide +kernel) ⟨Nat.le_of_ble_eq_true rfl, Nat.le_of_ble_eq_true rfl⟩) (wr_preV bl_T pr_T hK hW.PM hW.DM (LW.rM hK hW)) rfl rfl hl.1 rfl (lv_room (Nat.le_of_ble_eq_true rfl)) dL_law_277 ⟨hc', hs'⟩) (fun H locs hW => ?_)
  refine lv_goto (tgt := 524) hx hb dL_law_280 (by decide) ?_
  exact kk.same (Inv_filled I _) hW hl
set_option maxHeartbeats 4000000 in
set_option maxRecDepth 100000 in
theorem cs_jump (hF : LF p l s m c b L xs D k tC tL) {i : Nat} (hi : i + 2 < L) (I : Inv u) (hW : LW s D k q z oa H locs u (mk u th nx br ba fo ra) f) (hl : lv_has ls 7 (lvL b q z oa i)) (hc : cells + 1 ≤ room_1.cells) (hs : slots + 6 ≤ room_1.slots) (kk : LK p l e s m below meth c b D k q z oa i cells slots Q) : W p l e room_1 s m #[Value.ref b] below meth c H locs cells slots Q (F0 m 283 ls []) := by
  have hx := hF.1.1
  have hb := hF.1.2.1
  have hts := hF.1.2.2.2.2
  have hK := hF.2.2.1
  have hN := hF.2.2.2.1.1
  have hc' := Nat.le_of_succ_le hc
  have hs' : slots ≤ room_1.slots := Nat.le_trans (Nat.le_add_right _ _) hs
  refine lv_aload_n hx hb dL_law_283 rfl (lv_at hl 1 rfl) ?_
  refine sc_rd (j := 1) hF hW.2.2 (lv_at hl 0 rfl) (lv_at hl 4 rfl) (by decide) (by omega) dL_law_284 dL_law_285 dL_law_287 dL_law_288 dL_law_289 ?_
  refine lc_T hW (W.runV (C := RX3) (b := q 0) (As := [.int (xs (i + 1))]) (rest := []) hF.1 (kX3_jump l D k q u (xs (i + 1)) _ rfl) (cwV 1 hts gL_law_X3_jump rfl rfl rfl (by decide +kernel) ⟨Nat.le_of_ble_eq_true rfl, Nat.le_of_ble_eq_true rfl⟩) (wr_preV bl_T pr_T hK hW.PT hW.DT (LW.rT hK hW)) rfl rfl hl.1 rfl (lv_room (Nat.le_of_ble_eq_true rfl)) dL_law_290 ⟨hc', hs'⟩) (fun H locs hW => ?_)
  refine lv_aload_n hx hb dL_law_293 rfl (lv_at hl 2 rfl) ?_
  refine sc_rd (j := 1) hF hW.2.2 (lv_at hl 0 rfl) (lv_at hl 4 rfl) (by decide) (by omega) dL_law_294 dL_law_295 dL_law_297 dL_law_298 dL_law_299 ?_
  refine lc_M hW (W.runV (C := RX4) (b := z 0) (As := [.int (xs (i + 1))]) (rest := []) hF.1 (kX4_jump l D k z _ (xs (i + 1)) _ (jump_rel _)) (cwV 1 hts gL_law_X4_jump rfl rfl rfl (by decide +kernel) ⟨Nat.le_of_ble_eq_true rfl, Nat.le_of_ble_eq_true rfl⟩) (wr_preV bl_T pr_T hK hW.PM hW.DM (LW.rM hK hW)) rfl rfl hl.1 rfl (lv_room (Nat.le_of_ble_eq_true rfl)) dL_law_300 ⟨hc', hs'⟩) (fun H locs hW => ?_)
  refine lv_goto (tgt := 524) hx hb dL_law_303 (by decide) ?_
  exact kk.same (Inv_jump I _) hW hl
set_option maxHeartbeats 4000000 in
set_option maxRecDepth 100000 in
theorem cs_run (hF : LF p l s m c b L xs D k tC tL) {i : Nat} (hi : i + 2 < L) (I : Inv u) (hW : LW s D k q z oa H locs u (mk u th nx br ba fo ra) f) (hl : lv_has ls 7 (lvL b q z oa i)) (hc : cells + 1 ≤ room_1.cells) (hs : slots + 6 ≤ room_1.slots) (kk : LK p l e s m below meth c b D k q z oa i cells slots Q) : W p l e room_1 s m #[Value.ref b] below meth c H locs cells slots Q (F0 m 306 ls []) := by
  have hx := hF.1.1
  have hb := hF.1.2.1
  have hts := hF.1.2.2.2.2
  have hK := hF.2.2.1
  have hN := hF.2.2.2.1.1
  have hc' := Nat.le_of_succ_le hc
  have hs' : slots ≤ room_1.slots := Nat.le_trans (Nat.le_add_right _ _) hs
  refine lv_aload_n hx hb dL_law_306 rfl (lv_at hl 1 rfl) ?_
  refine sc_rd (j := 1) hF hW.2.2 (lv_at hl 0 rfl) (lv_at hl 4 rfl) (by decide) (by omega) dL_law_307 dL_law_308 dL_law_310 dL_law_311 dL_law_312 ?_
  obtain ⟨e1, ⟨nx', br', ba', fo', e2⟩, I'⟩ := run_rel (th := th) (nx := nx) (br := br) (ba := ba) (fo := fo) (ra := ra) I (xs (i + 1))
  have hT : itTn (ts8 u (0 : Int32)) := itTn_I (u := ts8 u (0 : Int32)) I
  have hM : itMn (ms18 (ms0 (mk u th nx br ba fo ra) (0 : Int32)) (0 : Int32)) := itMn_I (u := ts8 u (0 : Int32)) (th := (0 : Int32)) (nx := nx) (br := br) (ba := ba) (fo := fo) I
  generalize h3 : fX3_run u (xs (i + 1)) = o3 at e1 e2 I'
  have h4 : fX4_run (mk u th nx br ba fo ra) (xs (i + 1)) = (o3.1, mk o3.2 (0 : Int32) nx' br' ba' fo' o3.2.2.2.2.2.2.2.2.2) := Prod.ext e1 e2
  refine lc_T hW (W.runV (C := RX3) (b := q 0) (As := [.int (xs (i + 1))]) (rest := []) hF.1 (kX3_run l D k q u tC tL (xs (i + 1)) hT o3 h3) (cwV 1 hts gL_law_X3_run rfl rfl rfl (by decide +kernel) ⟨Nat.le_of_ble_eq_true rfl, Nat.le_of_ble_eq_true rfl⟩) (wr_preV bl_NS (prA_NS hN hF.2.2.2.1.2.1 hW.2.2 (in_D hW.DT)) hK hW.PT hW.DT (LW.rT hK hW)) rfl rfl hl.1 rfl (lv_room (Nat.le_of_ble_eq_true rfl)) dL_law_313 ⟨hc', hs'⟩) (fun H locs hW => ?_)
  refine lv_aload_n hx hb dL_law_316 rfl (lv_at hl 2 rfl) ?_
  refine sc_rd (j := 1) hF hW.2.2 (lv_at hl 0 rfl) (lv_at hl 4 rfl) (by decide) (by omega) dL_law_317 dL_law_318 dL_law_320 dL_law_321 dL_law_322 ?_
  refine lc_M hW (W.runV (C := RX4) (b := z 0) (As := [.int (xs (i + 1))]) (rest := [.int o3.1]) hF.1 (kX4_run l D k z _ (xs (i + 1)) hM _ h4) (cwV 1 hts gL_law_X4_run rfl rfl rfl (by decide +kernel) ⟨Nat.le_of_ble_eq_true rfl, Nat.le_of_ble_eq_true rfl⟩) (wr_preV bl_T pr_T hK hW.PM hW.DM (LW.rM hK hW)) rfl rfl hl.1 rfl (lv_room (Nat.le_of_ble_eq_true rfl)) dL_law_323 ⟨hc', hs'⟩) (fun H locs hW => ?_)
  exact lv_icmp_eq (tgt := 524) hx hb dL_law_326 (by decide) (fun _ => kk.same I' hW hl) (fun h => absurd rfl h)
set_option maxHeartbeats 4000000 in
set_option maxRecDepth 100000 in
theorem cs_state (hF : LF p l s m c b L xs D k tC tL) {i : Nat} (hi : i + 2 < L) (I : Inv u) (hW : LW s D k q z oa H locs u (mk u th nx br ba fo ra) f) (hl : lv_has ls 7 (lvL b q z oa i)) (hc : cells + 1 ≤ room_1.cells) (hs : slots + 6 ≤ room_1.slots) (kk : LK p l e s m below meth c b D k q z oa i cells slots Q) : W p l e room_1 s m #[Value.ref b] below meth c H locs cells slots Q (F0 m 331 ls []) := by
  have hx := hF.1.1
  have hb := hF.1.2.1
  have hts := hF.1.2.2.2.2
  have hK := hF.2.2.1
  have hN := hF.2.2.2.1.1
  have hc' := Nat.le_of_succ_le hc
  have hs' : slots ≤ room_1.slots := Nat.le_trans (Nat.le_add_right _ _) hs
  refine lv_aload_n hx hb dL_law_331 rfl (lv_at hl 1 rfl) ?_
  refine rd_call (W.runV (C := RX3) (b := q 0) (As := []) (rest := []) hF.1 (kX3_state l D k q u) (cwV 0 hts gL_law_X3_state rfl rfl rfl (by decide +kernel) ⟨Nat.le_of_ble_eq_true rfl, Nat.le_of_ble_eq_true rfl⟩) (rd_preV bl_T pr_T hK hW.PT (LW.rT hK hW)) rfl rfl hl.1 rfl (lv_room (Nat.le_of_ble_eq_true rfl)) dL_law_332 ⟨hc', hs'⟩) ?_
  refine lv_aload_n hx hb dL_law_335 rfl (lv_at hl 2 rfl) ?_
  refine lc_M hW (W.runV (C := RX4) (b := z 0) (As := []) (rest := [.int (fX3_state u)]) hF.1 (kX4_state l D k z _ _ (state_rel I)) (cwV 0 hts gL_law_X4_state rfl rfl rfl (by decide +kernel) ⟨Nat.le_of_ble_eq_true rfl, Nat.le_of_ble_eq_true rfl⟩) (wr_preV bl_T pr_T hK hW.PM hW.DM (LW.rM hK hW)) rfl rfl hl.1 rfl (lv_room (Nat.le_of_ble_eq_true rfl)) dL_law_336 ⟨hc', hs'⟩) (fun H locs hW => ?_)
  exact lv_icmp_eq (tgt := 524) hx hb dL_law_339 (by decide) (fun _ => kk.same I hW hl) (fun h => absurd rfl h)
end LawCases
