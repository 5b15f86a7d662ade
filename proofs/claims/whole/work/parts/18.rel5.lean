section Rel5
variable {u : TM} {th nx br ba fo ra : Int32}
theorem sub_and7 (x : Int32) : x - (x &&& (7 : Int32)) = x &&& (-8 : Int32) := by
  have kb : ∀ i, i < 32 → bt (-8 : Int32) i = !(bt (7 : Int32) i) := by decide +kernel
  have h0 : (x &&& (-8 : Int32)) &&& (x &&& (7 : Int32)) = 0 := by
    refine b_ext (fun i hi => ?_)
    rw [b_and, b_and, b_and, kb i hi, b_0]
    cases bt x i <;> cases bt (7 : Int32) i <;> rfl
  have e : (x &&& (-8 : Int32)) + (x &&& (7 : Int32)) = x := by
    have h1 : (x &&& (-8 : Int32)) + (x &&& (7 : Int32)) = (x &&& (-8 : Int32)) ||| (x &&& (7 : Int32)) := by
      refine Int32.toBitVec_inj.mp ?_
      rw [Int32.toBitVec_add, Int32.toBitVec_or]
      exact BitVec.add_eq_or_of_and_eq_zero _ _ (by rw [← Int32.toBitVec_and, h0]; rfl)
    rw [h1]
    refine b_ext (fun i hi => ?_)
    rw [b_or, b_and, b_and, kb i hi]
    cases bt x i <;> cases bt (7 : Int32) i <;> rfl
  calc x - (x &&& (7 : Int32)) = ((x &&& (-8 : Int32)) + (x &&& (7 : Int32))) - (x &&& (7 : Int32)) := by rw [e]
    _ = x &&& (-8 : Int32) := Int32.add_sub_cancel _ _
theorem st_mask {x : Int32} (h : x &&& (4128799 : Int32) = x) : x &&& (-4128769 : Int32) = x &&& (31 : Int32) := by
  rw [← h, Int32.and_assoc, Int32.and_assoc]
  rfl
theorem upd_comm (f : Nat → Int32) {i j : Nat} (h : i ≠ j) (x y : Int32) : upd (upd f i x) j y = upd (upd f j y) i x := by
  funext k
  unfold upd
  by_cases h1 : k = i
  · subst h1; rw [if_neg h]; simp
  · by_cases h2 : k = j
    · subst h2; simp [h1]
    · simp [h1, h2]
theorem upd_same (f : Nat → Int32) (i : Nat) (x y : Int32) : upd (upd f i x) i y = upd f i y := by
  funext k
  unfold upd
  by_cases h : k = i <;> simp [h]
/-- the two ways into an exception -/
theorem enter_v {v : Nat → Int32} (h3 : v 3 &&& (4128799 : Int32) = v 3) (c p : Int32) : upd (upd (upd (upd v 1 ((v 0) &&& (7 : Int32))) 0 ((v 0) - ((v 0) &&& (7 : Int32)))) 4 p) 3 (((v 3) &&& (-4128769 : Int32)) ||| (c <<< ((16 : Int32) &&& 31))) = fX2_enter v c p := by
  unfold fX2_enter
  rw [sub_and7, st_mask h3]
def bring (v : Nat → Int32) (br ba : Int32) : Nat → Int32 := if br ≤ (0 : Int32) then v else if br ≤ (1 : Int32) then upd v 5 ba else upd (upd v 5 ba) 8 (ba &&& (-128 : Int32))
theorem enter_5 (v : Nat → Int32) (c p a : Int32) : upd (fX2_enter v c p) 5 a = fX2_enter (upd v 5 a) c p := by
  unfold fX2_enter
  rw [upd_comm _ (i := 3) (j := 5) (by decide), upd_comm _ (i := 4) (j := 5) (by decide), upd_comm _ (i := 0) (j := 5) (by decide), upd_comm _ (i := 1) (j := 5) (by decide)]
  rfl
theorem enter_8 (v : Nat → Int32) (c p a : Int32) : upd (fX2_enter v c p) 8 a = fX2_enter (upd v 8 a) c p := by
  unfold fX2_enter
  rw [upd_comm _ (i := 3) (j := 8) (by decide), upd_comm _ (i := 4) (j := 8) (by decide), upd_comm _ (i := 0) (j := 8) (by decide), upd_comm _ (i := 1) (j := 8) (by decide)]
  rfl
theorem mk_ts2 (v : Nat → Int32) : ms3 (mk u th nx br ba fo ra) v = mk (ts2 u v) th nx br ba fo ra := rfl
theorem enter_rel (h3 : u.2.2.1 3 &&& (4128799 : Int32) = u.2.2.1 3) (c : Int32) : fX4_enter (mk u th nx br ba fo ra) c = mk (fX3_raise (ts2 u (bring u.2.2.1 br ba)) c) th nx br ba fo ra := by
  have ev := enter_v h3 c u.2.2.2.2.1
  have d0 : ∀ V : Nat → Int32, (fX2_enter V c u.2.2.2.2.1) 0 = V 0 &&& (-8 : Int32) := fun V => rfl
  by_cases q0 : br ≤ (0 : Int32)
  · have q1 : br ≤ (1 : Int32) := Int32.le_trans q0 (by decide)
    by_cases qc : c = (63 : Int32)
    · rw [show bring u.2.2.1 br ba = u.2.2.1 from (if_pos q0)]
      refine (if_pos q0).trans ((if_pos q1).trans ((if_pos qc).trans ?_))
      rw [show fX3_raise (ts2 u u.2.2.1) c = _ from if_pos qc]
      have V : (upd (upd (upd (upd (upd u.2.2.1 1 ((u.2.2.1 0) &&& (7 : Int32))) 0 ((u.2.2.1 0) - ((u.2.2.1 0) &&& (7 : Int32)))) 4 u.2.2.2.2.1) 3 (((u.2.2.1 3) &&& (-4128769 : Int32)) ||| (c <<< ((16 : Int32) &&& 31)))) 0 (((u.2.2.1 0) - ((u.2.2.1 0) &&& (7 : Int32))) ||| (8 : Int32))) = (fX2_setDirect (fX2_enter u.2.2.1 c u.2.2.2.2.1)) := by rw [ev, sub_and7]; rfl
      exact congrArg (fun f => mk (ts4 (ts2 u f) (u.2.2.1 16)) th nx br ba fo ra) V
    · rw [show bring u.2.2.1 br ba = u.2.2.1 from (if_pos q0)]
      refine (if_pos q0).trans ((if_pos q1).trans ((if_neg qc).trans ?_))
      rw [show fX3_raise (ts2 u u.2.2.1) c = _ from if_neg qc]
      have V : (upd (upd (upd (upd u.2.2.1 1 ((u.2.2.1 0) &&& (7 : Int32))) 0 ((u.2.2.1 0) - ((u.2.2.1 0) &&& (7 : Int32)))) 4 u.2.2.2.2.1) 3 (((u.2.2.1 3) &&& (-4128769 : Int32)) ||| (c <<< ((16 : Int32) &&& 31)))) = (fX2_enter u.2.2.1 c u.2.2.2.2.1) := by rw [ev]
      exact congrArg (fun f => mk (ts4 (ts2 u f) (u.2.2.1 6)) th nx br ba fo ra) V
  · by_cases q1 : br ≤ (1 : Int32)
    · by_cases qc : c = (63 : Int32)
      · rw [show bring u.2.2.1 br ba = (upd u.2.2.1 5 ba) from ((if_neg q0).trans (if_pos q1))]
        refine (if_neg q0).trans ((if_pos q1).trans ((if_pos qc).trans ?_))
        rw [show fX3_raise (ts2 u (upd u.2.2.1 5 ba)) c = _ from if_pos qc]
        have V : (upd (upd (upd (upd (upd (upd u.2.2.1 1 ((u.2.2.1 0) &&& (7 : Int32))) 0 ((u.2.2.1 0) - ((u.2.2.1 0) &&& (7 : Int32)))) 4 u.2.2.2.2.1) 3 (((u.2.2.1 3) &&& (-4128769 : Int32)) ||| (c <<< ((16 : Int32) &&& 31)))) 5 ba) 0 (((u.2.2.1 0) - ((u.2.2.1 0) &&& (7 : Int32))) ||| (8 : Int32))) = (fX2_setDirect (fX2_enter (upd u.2.2.1 5 ba) c u.2.2.2.2.1)) := by rw [ev, enter_5, sub_and7]; rfl
        exact congrArg (fun f => mk (ts4 (ts2 u f) (u.2.2.1 16)) th nx br ba fo ra) V
      · rw [show bring u.2.2.1 br ba = (upd u.2.2.1 5 ba) from ((if_neg q0).trans (if_pos q1))]
        refine (if_neg q0).trans ((if_pos q1).trans ((if_neg qc).trans ?_))
        rw [show fX3_raise (ts2 u (upd u.2.2.1 5 ba)) c = _ from if_neg qc]
        have V : (upd (upd (upd (upd (upd u.2.2.1 1 ((u.2.2.1 0) &&& (7 : Int32))) 0 ((u.2.2.1 0) - ((u.2.2.1 0) &&& (7 : Int32)))) 4 u.2.2.2.2.1) 3 (((u.2.2.1 3) &&& (-4128769 : Int32)) ||| (c <<< ((16 : Int32) &&& 31)))) 5 ba) = (fX2_enter (upd u.2.2.1 5 ba) c u.2.2.2.2.1) := by rw [ev, enter_5]
        exact congrArg (fun f => mk (ts4 (ts2 u f) (u.2.2.1 6)) th nx br ba fo ra) V
    · by_cases qc : c = (63 : Int32)
      · rw [show bring u.2.2.1 br ba = (upd (upd u.2.2.1 5 ba) 8 (ba &&& (-128 : Int32))) from ((if_neg q0).trans (if_neg q1))]
        refine (if_neg q0).trans ((if_neg q1).trans ((if_pos qc).trans ?_))
        rw [show fX3_raise (ts2 u (upd (upd u.2.2.1 5 ba) 8 (ba &&& (-128 : Int32)))) c = _ from if_pos qc]
        have V : (upd (upd (upd (upd (upd (upd (upd u.2.2.1 1 ((u.2.2.1 0) &&& (7 : Int32))) 0 ((u.2.2.1 0) - ((u.2.2.1 0) &&& (7 : Int32)))) 4 u.2.2.2.2.1) 3 (((u.2.2.1 3) &&& (-4128769 : Int32)) ||| (c <<< ((16 : Int32) &&& 31)))) 5 ba) 8 (ba &&& (-128 : Int32))) 0 (((u.2.2.1 0) - ((u.2.2.1 0) &&& (7 : Int32))) ||| (8 : Int32))) = (fX2_setDirect (fX2_enter (upd (upd u.2.2.1 5 ba) 8 (ba &&& (-128 : Int32))) c u.2.2.2.2.1)) := by rw [ev, enter_5, enter_8, sub_and7]; rfl
        exact congrArg (fun f => mk (ts4 (ts2 u f) (u.2.2.1 16)) th nx br ba fo ra) V
      · rw [show bring u.2.2.1 br ba = (upd (upd u.2.2.1 5 ba) 8 (ba &&& (-128 : Int32))) from ((if_neg q0).trans (if_neg q1))]
        refine (if_neg q0).trans ((if_neg q1).trans ((if_neg qc).trans ?_))
        rw [show fX3_raise (ts2 u (upd (upd u.2.2.1 5 ba) 8 (ba &&& (-128 : Int32)))) c = _ from if_neg qc]
        have V : (upd (upd (upd (upd (upd (upd u.2.2.1 1 ((u.2.2.1 0) &&& (7 : Int32))) 0 ((u.2.2.1 0) - ((u.2.2.1 0) &&& (7 : Int32)))) 4 u.2.2.2.2.1) 3 (((u.2.2.1 3) &&& (-4128769 : Int32)) ||| (c <<< ((16 : Int32) &&& 31)))) 5 ba) 8 (ba &&& (-128 : Int32))) = (fX2_enter (upd (upd u.2.2.1 5 ba) 8 (ba &&& (-128 : Int32))) c u.2.2.2.2.1) := by rw [ev, enter_5, enter_8]
        exact congrArg (fun f => mk (ts4 (ts2 u f) (u.2.2.1 6)) th nx br ba fo ra) V
end Rel5
