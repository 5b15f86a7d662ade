section LawEnd
variable {p : Program} {e : Env} {s : State} {m : MethodId} {below : List Frame} {meth : Method} {c : Code} {l : Launch} {b L : Nat} {xs : Nat → Int32} {D : va_G} {k : Nat → ClassId} {q z : Nat → Nat} {tC tL oa : Nat}
set_option maxHeartbeats 4000000 in
set_option maxRecDepth 100000 in
theorem law_loop (hF : LF p l s m c b L xs D k tC tL) (hr : meth.sig.returnType = ret) (hlocks : meth.locks = false) (hL : L ≤ 1536) : ∀ (n i : Nat) (H : Heap) (locs : List Loc) (ls : Array Slot) (u : TM) (th nx br ba fo ra : Int32) (f : Nat → Int64), L ≤ i + n → i ≤ L + 3 → Inv u → LW s D k q z oa H locs u (mk u th nx br ba fo ra) f → lv_has ls 7 (lvL b q z oa i) → W p l e room_1 s m #[Value.ref b] below meth c H locs (22 + i) (1178 + 6 * i) (lw_Z below #[Value.ref b] s) (F0 m 23 ls []) := by
  have hx := hF.1.1
  have hb := hF.1.2.1
  obtain ⟨hX, hbl, hL3⟩ := hF.2.1
  have key : ∀ (n i : Nat) (H : Heap) (locs : List Loc) (ls : Array Slot) (u : TM) (th nx br ba fo ra : Int32) (f : Nat → Int64), (∀ (H : Heap) (locs : List Loc) (ls : Array Slot) (u : TM) (th nx br ba fo ra : Int32) (f : Nat → Int64), i + 3 ≤ L → Inv u → LW s D k q z oa H locs u (mk u th nx br ba fo ra) f → lv_has ls 7 (lvL b q z oa (i + 3)) → W p l e room_1 s m #[Value.ref b] below meth c H locs (22 + (i + 3)) (1178 + 6 * (i + 3)) (lw_Z below #[Value.ref b] s) (F0 m 23 ls [])) → i ≤ L + 3 → Inv u → LW s D k q z oa H locs u (mk u th nx br ba fo ra) f → lv_has ls 7 (lvL b q z oa i) → W p l e room_1 s m #[Value.ref b] below meth c H locs (22 + i) (1178 + 6 * i) (lw_Z below #[Value.ref b] s) (F0 m 23 ls []) := by
    intro n i H locs ls u th nx br ba fo ra f ih hi I hW hl
    have hcC : room_1.cells = 601024 := rfl
    have hsC : room_1.slots = 7293034 := rfl
    refine lv_iload hx hb dL_law_23 (lv_at hl 4 rfl) ?_
    refine lv_aload_n hx hb dL_law_25 rfl (lv_at hl 0 rfl) ?_
    refine va_slen (A := AL s) hx hb hX hbl (Nat.not_le.mpr hbl) hW.2.2 dL_law_26 ?_
    refine lv_iconst (v := (3 : Int32)) hx hb dL_law_27 (by decide) ?_
    refine lv_isub hx hb dL_law_28 ?_
    refine lv_icmp_gt (tgt := 530) hx hb dL_law_29 (by decide) (fun _ => ?_) (fun h => ?_)
    · refine lv_iconst (v := (1 : Int32)) hx hb dL_law_530 (by decide) ?_
      exact va_forget hW.2.2.2.2 (W.widen (by omega) (by omega) (lw_ret hx hb hr hlocks dL_law_531))
    · have hi3 : i + 3 ≤ L := (nI_sub3 (by omega) hL3).mp (Int32.not_lt.mp h)
      have kk : LK p l e s m below meth c b D k q z oa i (22 + i) (1178 + 6 * i) (lw_Z below #[Value.ref b] s) := by
        intro H locs ls u th nx br ba fo ra f I hW hl
        refine lv_iinc (k := 4) (v := nI (i + 3)) (lv' := (4, .int (nI (i + 3))) :: [(0, .ref b), (1, .ref (q 0)), (2, .ref (z 0)), (3, .ref oa)]) hx hb dL_law_524 hl rfl (nI_add i 3) (by decide) rfl (fun ls hl => ?_)
        refine lv_goto (tgt := 23) hx hb dL_law_527 (by decide) ?_
        exact W.widen (by omega) (by omega) (ih H locs ls u th nx br ba fo ra f hi3 I hW (lv_sub hl [1, 2, 3, 4, 0] rfl))
      refine lv_aload_n hx hb dL_law_32 rfl (lv_at hl 0 rfl) ?_
      refine lv_iload hx hb dL_law_33 (lv_at hl 4 rfl) ?_
      refine va_sld (A := AL s) hx hb hX hbl (Nat.not_le.mpr hbl) hW.2.2 (nI_in (show i < L by omega) (by omega)) dL_law_35 ?_
      refine lv_bipush (v := (15 : Int32)) hx hb dL_law_36 (by decide) ?_
      refine lv_iand hx hb dL_law_38 ?_
      generalize xs (nI i).toNatClampNeg &&& (15 : Int32) = x
      have hi2 : i + 2 < L := by omega
      have hc : 22 + i + 1 ≤ room_1.cells := by omega
      have hs : 1178 + 6 * i + 6 ≤ room_1.slots := by omega
      by_cases h0 : x.toInt < 0
      · exact lv_tableOut (tgt := 524) hx hb dL_law_39 (Or.inl h0) (by decide) (kk.same I hW hl)
      · by_cases h9 : 9 < x.toInt
        · exact lv_tableOut (tgt := 524) hx hb dL_law_39 (Or.inr h9) (by decide) (kk.same I hW hl)
        · have hj : x.toInt = 0 ∨ x.toInt = 1 ∨ x.toInt = 2 ∨ x.toInt = 3 ∨ x.toInt = 4 ∨ x.toInt = 5 ∨ x.toInt = 6 ∨ x.toInt = 7 ∨ x.toInt = 8 ∨ x.toInt = 9 := by omega
          rcases hj with hj | hj | hj | hj | hj | hj | hj | hj | hj | hj
          · exact lv_tableIn (off := 53) (tgt := 92) hx hb dL_law_39 h0 h9 (by rw [hj]; rfl) (by decide) (cs_load hF hi2 I hW hl hc hs kk)
          · exact lv_tableIn (off := 101) (tgt := 140) hx hb dL_law_39 h0 h9 (by rw [hj]; rfl) (by decide) (cs_word hF hi2 I hW hl hc hs kk)
          · exact lv_tableIn (off := 157) (tgt := 196) hx hb dL_law_39 h0 h9 (by rw [hj]; rfl) (by decide) (cs_line hF hi2 I hW hl hc hs kk)
          · exact lv_tableIn (off := 221) (tgt := 260) hx hb dL_law_39 h0 h9 (by rw [hj]; rfl) (by decide) (cs_filled hF hi2 I hW hl hc hs kk)
          · exact lv_tableIn (off := 244) (tgt := 283) hx hb dL_law_39 h0 h9 (by rw [hj]; rfl) (by decide) (cs_jump hF hi2 I hW hl hc hs kk)
          · exact lv_tableIn (off := 267) (tgt := 306) hx hb dL_law_39 h0 h9 (by rw [hj]; rfl) (by decide) (cs_run hF hi2 I hW hl hc hs kk)
          · exact lv_tableIn (off := 292) (tgt := 331) hx hb dL_law_39 h0 h9 (by rw [hj]; rfl) (by decide) (cs_state hF hi2 I hW hl hc hs kk)
          · exact lv_tableIn (off := 305) (tgt := 344) hx hb dL_law_39 h0 h9 (by rw [hj]; rfl) (by decide) (cs_register hF hi2 I hW hl hc hs kk)
          · exact lv_tableIn (off := 361) (tgt := 400) hx hb dL_law_39 h0 h9 (by rw [hj]; rfl) (by decide) (cs_control hF hi2 I hW hl hc hs kk)
          · exact lv_tableIn (off := 417) (tgt := 456) hx hb dL_law_39 h0 h9 (by rw [hj]; rfl) (by decide) (cs_entry hF hi2 I hW hl hc hs kk)
  intro n
  induction n with
  | zero =>
    intro i H locs ls u th nx br ba fo ra f hn hi I hW hl
    exact key 0 i H locs ls u th nx br ba fo ra f (fun _ _ _ _ _ _ _ _ _ _ _ h _ _ _ => absurd h (by omega)) hi I hW hl
  | succ n ih =>
    intro i H locs ls u th nx br ba fo ra f hn hi I hW hl
    exact key 0 i H locs ls u th nx br ba fo ra f (fun H locs ls u th nx br ba fo ra f h I hW hl => ih (i + 3) H locs ls u th nx br ba fo ra f (by omega) (by omega) I hW hl) hi I hW hl
end LawEnd
