/-! ### the law's walk: the ten calls -/
section LawCases
variable {p : Program} {l : Launch} {e : Env} {s : State} {m : MethodId} {below : List Frame} {meth : Method} {c : Code} {H : Heap} {locs : List Loc} {cells slots : Nat} {Q : State → Prop} {ls : Array Slot}
variable {D : va_G} {b L tC tL oa : Nat} {xs : Nat → Int32} {k : Nat → ClassId} {q z : Nat → Nat} {u : TM} {th nx br ba fo ra : Int32} {f : Nat → Int64}
set_option maxHeartbeats 4000000 in
set_option maxRecDepth 100000 in
theorem cs_control (hF : LF p l s m c b L xs D k tC tL) {i : Nat} (hi : i + 2 < L) (I : Inv u) (hW : LW s D k q z oa H locs u (mk u th nx br ba fo ra) f) (hl : lv_has ls 7 (lvL b q z oa i)) (hc : cells + 1 ≤ room_1.cells) (hs : slots + 6 ≤ room_1.slots) (kk : LK p l e s m below meth c b D k q z oa i cells slots Q) : W p l e room_1 s m #[Value.ref b] below meth c H locs cells slots Q (F0 m 400 ls []) := by
  have hx := hF.1.1
  have hb := hF.1.2.1
  have hts := hF.1.2.2.2.2
  have hK := hF.2.2.1
  have hN := hF.2.2.2.1.1
  have hc' := Nat.le_of_succ_le hc
  have hs' : slots ≤ room_1.slots := Nat.le_trans (Nat.le_add_right _ _) hs
  refine lv_aload_n hx hb dL_law_400 rfl (lv_at hl 1 rfl) ?_
  refine sc_rd (j := 1) hF hW.2.2 (lv_at hl 0 rfl) (lv_at hl 4 rfl) (by decide) (by omega) dL_law_401 dL_law_402 dL_law_404 dL_law_405 dL_law_406 ?_
  refine lv_aload_n hx hb dL_law_407 rfl (lv_at hl 3 rfl) ?_
  by_cases h9 : (¬ (xs (i + 1)) < (0 : Int32) ∧ (xs (i + 1)) ≤ (17 : Int32))
  · refine lc_O hW (run_of (vx_runSW (As := [.ref (q 0), .int (xs (i + 1)), .ref oa]) (rest := []) hF.1 (kL_control l D k q u oa f (xs (i + 1)) h9.1 h9.2) (vx_cwSW 3 hts gL_law_L_control rfl rfl rfl (by decide +kernel) ⟨Nat.le_of_ble_eq_true rfl, Nat.le_of_ble_eq_true rfl⟩) (wr_preS bl_N (pr_N hN) hK hW.PO hW.DO) rfl rfl hl.1 rfl (lv_room (Nat.le_of_ble_eq_true rfl)) dL_law_408 ⟨hc', hs'⟩)) (fun H locs hW => ?_)
    refine lv_istore (lv' := (5, .int (0 : Int32)) :: lvL b q z oa i) hx hb dL_law_411 hl (by decide) rfl (fun ls hl => ?_)
    refine lv_aload_n hx hb dL_law_413 rfl (lv_at hl 3 rfl) ?_
    refine sc_rd (j := 1) hF hW.2.2 (lv_at hl 1 rfl) (lv_at hl 5 rfl) (by decide) (by omega) dL_law_414 dL_law_415 dL_law_417 dL_law_418 dL_law_419 ?_
    refine lc_M hW (W.runV (C := RX4) (b := z 0) (As := [.int (xs (i + 1))]) (rest := []) hF.1 (kX4_control l D k z _ (xs (i + 1)) _ (ctl_ok h9.1 h9.2)) (cwV 1 hts gL_law_X4_control rfl rfl rfl (by decide +kernel) ⟨Nat.le_of_ble_eq_true rfl, Nat.le_of_ble_eq_true rfl⟩) (wr_preV bl_T pr_T hK hW.PM hW.DM (LW.rM hK hW)) rfl rfl hl.1 rfl (lv_room (Nat.le_of_ble_eq_true rfl)) dL_law_420 ⟨hc', hs'⟩) (fun H locs hW => ?_)
    exact lc_tail (r := (0 : Int32)) hF hW th_mk (fun _ => if_pos rfl) hl hc' hs' dL_law_423 dL_law_425 dL_law_426 dL_law_429 dL_law_431 dL_law_436 dL_law_438 dL_law_441 dL_law_442 dL_law_443 dL_law_444 dL_law_446 dL_law_447 dL_law_448 dL_law_453 (by decide) (fun ls hl => kk.same I hW hl)
  · refine lc_x hW (vx_runSW (As := [.ref (q 0), .int (xs (i + 1)), .ref oa]) (rest := []) hF.1 (kL_control_x l hF.2.2.2.2 D k q u oa (xs (i + 1)) h9) (vx_cwSW 3 hts gL_law_L_control rfl rfl rfl (by decide +kernel) ⟨Nat.le_of_ble_eq_true rfl, Nat.le_of_ble_eq_true rfl⟩) (rd_preS bl_XP (pr_XP hF.2.2.2.1.2.2 hW.2.2 (in_D hW.DT)) hK hW.PT) rfl rfl hl.1 rfl (lv_room (Nat.le_of_ble_eq_true rfl)) dL_law_408 ⟨hc, hs⟩) (fun H locs hW => ?_)
    refine lv_istore (lv' := (5, .int (1 : Int32)) :: lvL b q z oa i) hx hb dL_law_411 hl (by decide) rfl (fun ls hl => ?_)
    refine lv_aload_n hx hb dL_law_413 rfl (lv_at hl 3 rfl) ?_
    refine sc_rd (j := 1) hF hW.2.2 (lv_at hl 1 rfl) (lv_at hl 5 rfl) (by decide) (by omega) dL_law_414 dL_law_415 dL_law_417 dL_law_418 dL_law_419 ?_
    refine lc_M hW (W.runV (C := RX4) (b := z 0) (As := [.int (xs (i + 1))]) (rest := []) hF.1 (kX4_control l D k z _ (xs (i + 1)) _ (ctl_no h9)) (cwV 1 hts gL_law_X4_control rfl rfl rfl (by decide +kernel) ⟨Nat.le_of_ble_eq_true rfl, Nat.le_of_ble_eq_true rfl⟩) (wr_preV bl_T pr_T hK hW.PM hW.DM (LW.rM hK hW)) rfl rfl hl.1 rfl (lv_room (Nat.le_of_ble_eq_true rfl)) dL_law_420 ⟨hc, hs⟩) (fun H locs hW => ?_)
    exact lc_tail (r := (1 : Int32)) hF hW th_mk (fun h => absurd h (by decide)) hl hc hs dL_law_423 dL_law_425 dL_law_426 dL_law_429 dL_law_431 dL_law_436 dL_law_438 dL_law_441 dL_law_442 dL_law_443 dL_law_444 dL_law_446 dL_law_447 dL_law_448 dL_law_453 (by decide) (fun ls hl => kk _ _ _ _ _ _ _ _ _ _ _ I hW hl)
set_option maxHeartbeats 4000000 in
set_option maxRecDepth 100000 in
theorem cs_entry (hF : LF p l s m c b L xs D k tC tL) {i : Nat} (hi : i + 2 < L) (I : Inv u) (hW : LW s D k q z oa H locs u (mk u th nx br ba fo ra) f) (hl : lv_has ls 7 (lvL b q z oa i)) (hc : cells + 1 ≤ room_1.cells) (hs : slots + 6 ≤ room_1.slots) (kk : LK p l e s m below meth c b D k q z oa i cells slots Q) : W p l e room_1 s m #[Value.ref b] below meth c H locs cells slots Q (F0 m 456 ls []) := by
  have hx := hF.1.1
  have hb := hF.1.2.1
  have hts := hF.1.2.2.2.2
  have hK := hF.2.2.1
  have hN := hF.2.2.2.1.1
  have hc' := Nat.le_of_succ_le hc
  have hs' : slots ≤ room_1.slots := Nat.le_trans (Nat.le_add_right _ _) hs
  refine lv_aload_n hx hb dL_law_456 rfl (lv_at hl 1 rfl) ?_
  refine sc_rd (j := 1) hF hW.2.2 (lv_at hl 0 rfl) (lv_at hl 4 rfl) (by decide) (by omega) dL_law_457 dL_law_458 dL_law_460 dL_law_461 dL_law_462 ?_
  refine sc_rd (j := 2) hF hW.2.2 (lv_at hl 0 rfl) (lv_at hl 4 rfl) (by decide) (by omega) dL_law_463 dL_law_464 dL_law_466 dL_law_467 dL_law_468 ?_
  refine lv_aload_n hx hb dL_law_469 rfl (lv_at hl 3 rfl) ?_
  by_cases h9 : ((¬ (xs (i + 1)) < (0 : Int32) ∧ (xs (i + 1)) ≤ (3 : Int32)) ∧ (¬ (xs (i + 2)) < (0 : Int32) ∧ (xs (i + 2)) ≤ (5 : Int32)))
  · refine lc_O hW (run_of (vx_runSW (As := [.ref (q 0), .int (xs (i + 1)), .int (xs (i + 2)), .ref oa]) (rest := []) hF.1 (kL_entry l D k q u oa f (xs (i + 1)) (xs (i + 2)) h9.1.1 (Int32.not_lt.mpr h9.1.2) h9.2.1 h9.2.2) (vx_cwSW 4 hts gL_law_L_entry rfl rfl rfl (by decide +kernel) ⟨Nat.le_of_ble_eq_true rfl, Nat.le_of_ble_eq_true rfl⟩) (wr_preS bl_N (pr_N hN) hK hW.PO hW.DO) rfl rfl hl.1 rfl (lv_room (Nat.le_of_ble_eq_true rfl)) dL_law_470 ⟨hc', hs'⟩)) (fun H locs hW => ?_)
    refine lv_istore (lv' := (5, .int (0 : Int32)) :: lvL b q z oa i) hx hb dL_law_473 hl (by decide) rfl (fun ls hl => ?_)
    refine lv_aload_n hx hb dL_law_475 rfl (lv_at hl 3 rfl) ?_
    refine sc_rd (j := 1) hF hW.2.2 (lv_at hl 1 rfl) (lv_at hl 5 rfl) (by decide) (by omega) dL_law_476 dL_law_477 dL_law_479 dL_law_480 dL_law_481 ?_
    refine sc_rd (j := 2) hF hW.2.2 (lv_at hl 1 rfl) (lv_at hl 5 rfl) (by decide) (by omega) dL_law_482 dL_law_483 dL_law_485 dL_law_486 dL_law_487 ?_
    refine lc_M hW (W.runV (C := RX4) (b := z 0) (As := [.int (xs (i + 1)), .int (xs (i + 2))]) (rest := []) hF.1 (kX4_entry l D k z _ (xs (i + 1)) (xs (i + 2)) _ (ent_ok I h9.1.1 h9.1.2 h9.2.1 h9.2.2)) (cwV 2 hts gL_law_X4_entry rfl rfl rfl (by decide +kernel) ⟨Nat.le_of_ble_eq_true rfl, Nat.le_of_ble_eq_true rfl⟩) (wr_preV bl_T pr_T hK hW.PM hW.DM (LW.rM hK hW)) rfl rfl hl.1 rfl (lv_room (Nat.le_of_ble_eq_true rfl)) dL_law_488 ⟨hc', hs'⟩) (fun H locs hW => ?_)
    exact lc_tail (r := (0 : Int32)) hF hW th_mk (fun _ => if_pos rfl) hl hc' hs' dL_law_491 dL_law_493 dL_law_494 dL_law_497 dL_law_499 dL_law_504 dL_law_506 dL_law_509 dL_law_510 dL_law_511 dL_law_512 dL_law_514 dL_law_515 dL_law_516 dL_law_521 (by decide) (fun ls hl => kk.same I hW hl)
  · refine lc_x hW (vx_runSW (As := [.ref (q 0), .int (xs (i + 1)), .int (xs (i + 2)), .ref oa]) (rest := []) hF.1 (kL_entry_x l hF.2.2.2.2 D k q u oa (xs (i + 1)) (xs (i + 2)) h9) (vx_cwSW 4 hts gL_law_L_entry rfl rfl rfl (by decide +kernel) ⟨Nat.le_of_ble_eq_true rfl, Nat.le_of_ble_eq_true rfl⟩) (rd_preS bl_XP (pr_XP hF.2.2.2.1.2.2 hW.2.2 (in_D hW.DT)) hK hW.PT) rfl rfl hl.1 rfl (lv_room (Nat.le_of_ble_eq_true rfl)) dL_law_470 ⟨hc, hs⟩) (fun H locs hW => ?_)
    refine lv_istore (lv' := (5, .int (1 : Int32)) :: lvL b q z oa i) hx hb dL_law_473 hl (by decide) rfl (fun ls hl => ?_)
    refine lv_aload_n hx hb dL_law_475 rfl (lv_at hl 3 rfl) ?_
    refine sc_rd (j := 1) hF hW.2.2 (lv_at hl 1 rfl) (lv_at hl 5 rfl) (by decide) (by omega) dL_law_476 dL_law_477 dL_law_479 dL_law_480 dL_law_481 ?_
    refine sc_rd (j := 2) hF hW.2.2 (lv_at hl 1 rfl) (lv_at hl 5 rfl) (by decide) (by omega) dL_law_482 dL_law_483 dL_law_485 dL_law_486 dL_law_487 ?_
    refine lc_M hW (W.runV (C := RX4) (b := z 0) (As := [.int (xs (i + 1)), .int (xs (i + 2))]) (rest := []) hF.1 (kX4_entry l D k z _ (xs (i + 1)) (xs (i + 2)) _ (ent_no h9)) (cwV 2 hts gL_law_X4_entry rfl rfl rfl (by decide +kernel) ⟨Nat.le_of_ble_eq_true rfl, Nat.le_of_ble_eq_true rfl⟩) (wr_preV bl_T pr_T hK hW.PM hW.DM (LW.rM hK hW)) rfl rfl hl.1 rfl (lv_room (Nat.le_of_ble_eq_true rfl)) dL_law_488 ⟨hc, hs⟩) (fun H locs hW => ?_)
    exact lc_tail (r := (1 : Int32)) hF hW th_mk (fun h => absurd h (by decide)) hl hc hs dL_law_491 dL_law_493 dL_law_494 dL_law_497 dL_law_499 dL_law_504 dL_law_506 dL_law_509 dL_law_510 dL_law_511 dL_law_512 dL_law_514 dL_law_515 dL_law_516 dL_law_521 (by decide) (fun ls hl => kk _ _ _ _ _ _ _ _ _ _ _ I hW hl)
end LawCases
