section Rel8
variable {u : TM} {th nx br ba fo ra : Int32}
theorem wr_id (x y b C : Int32) : (x &&& ((b &&& C) ^^^ (-1 : Int32))) ||| (y &&& (b &&& C)) = (x &&& (C ^^^ (-1 : Int32))) ||| (((x &&& (b ^^^ (-1 : Int32))) ||| (y &&& b)) &&& C) := by
  refine b_ext (fun i hi => ?_)
  simp only [b_or, b_and, b_xor, b_m1 i hi]
  cases bt x i <;> cases bt y i <;> cases bt b i <;> cases bt C i <;> rfl
theorem wr_idL (x y b C L : Int32) (h : L &&& C = L) : ((x &&& ((b &&& C) ^^^ (-1 : Int32))) ||| (y &&& (b &&& C))) ||| L = (x &&& (C ^^^ (-1 : Int32))) ||| ((((x &&& (b ^^^ (-1 : Int32))) ||| (y &&& b)) ||| L) &&& C) := by
  refine b_ext (fun i hi => ?_)
  have k : (bt L i && bt C i) = bt L i := by rw [← b_and, h]
  revert k
  simp only [b_or, b_and, b_xor, b_m1 i hi]
  cases bt x i <;> cases bt y i <;> cases bt b i <;> cases bt C i <;> cases bt L i <;> simp
theorem wr_c (x y b C L : Int32) (h : L &&& C = L) : ((x &&& ((b &&& C) ^^^ (-1 : Int32))) ||| (y &&& (b &&& C))) &&& L = ((x &&& (b ^^^ (-1 : Int32))) ||| (y &&& b)) &&& L := by
  refine b_ext (fun i hi => ?_)
  have k : (bt L i && bt C i) = bt L i := by rw [← b_and, h]
  revert k
  simp only [b_or, b_and, b_xor, b_m1 i hi]
  cases bt x i <;> cases bt y i <;> cases bt b i <;> cases bt C i <;> cases bt L i <;> simp
theorem wr_3a (x y b : Int32) (h : (b &&& y) &&& (16 : Int32) = (0 : Int32)) : x &&& ((y &&& (b &&& (16 : Int32))) ^^^ (-1 : Int32)) = x := by
  have e : y &&& (b &&& (16 : Int32)) = (0 : Int32) := by rw [← h, ← Int32.and_assoc, Int32.and_comm y b]
  rw [e]
  refine b_ext (fun i hi => ?_)
  simp only [b_and, b_xor, b_m1 i hi, b_0]
  cases bt x i <;> rfl
theorem wr_3b (x y b : Int32) (h : ¬ (b &&& y) &&& (16 : Int32) = (0 : Int32)) : x &&& ((y &&& (b &&& (16 : Int32))) ^^^ (-1 : Int32)) = x &&& (-17 : Int32) := by
  have k4 : bt (b &&& y) 4 = true := by
    cases q : bt (b &&& y) 4 with
    | true => rfl
    | false => exact absurd ((bitz 4 (by omega) _ (16 : Int32) rfl).mpr q) h
  rw [b_and] at k4
  refine b_ext (fun i hi => ?_)
  simp only [b_and, b_xor, b_m1 i hi]
  by_cases e : i = 4
  · subst e
    rw [show bt (16 : Int32) 4 = true by decide, show bt (-17 : Int32) 4 = false by decide]
    revert k4
    cases bt x 4 <;> cases bt y 4 <;> cases bt b 4 <;> simp
  · rw [show bt (16 : Int32) i = false from (by decide +kernel : ∀ i, i < 32 → ¬ i = 4 → bt (16 : Int32) i = false) i hi e, show bt (-17 : Int32) i = true from (by decide +kernel : ∀ i, i < 32 → ¬ i = 4 → bt (-17 : Int32) i = true) i hi e]
    cases bt x i <;> cases bt y i <;> cases bt b i <;> rfl
theorem upd_id (f : Nat → Int32) (i : Nat) : upd f i (f i) = f := by
  funext k
  unfold upd
  by_cases h : k = i
  · subst h; simp
  · simp [h]
set_option maxHeartbeats 4000000 in
theorem write_rel {a : Int32} (h : vp_in a 18) (b y : Int32) : fX4_write (mk u th nx br ba fo ra) a b y = mk (ts2 u (fX2_write u.2.2.1 a y b)) th nx br ba fo ra := by
  obtain ⟨j, hj, rfl⟩ := vp_in_of h (by omega)
  rcases (show j = 0 ∨ j = 1 ∨ j = 2 ∨ j = 3 ∨ j = 4 ∨ j = 5 ∨ j = 6 ∨ j = 7 ∨ j = 8 ∨ j = 9 ∨ j = 10 ∨ j = 11 ∨ j = 12 ∨ j = 13 ∨ j = 14 ∨ j = 15 ∨ j = 16 ∨ j = 17 by omega) with rfl | rfl | rfl | rfl | rfl | rfl | rfl | rfl | rfl | rfl | rfl | rfl | rfl | rfl | rfl | rfl | rfl | rfl
  · by_cases q : (((u.2.2.1 0) &&& (b ^^^ (-1 : Int32))) ||| (y &&& b)) &&& (3 : Int32) = (0 : Int32)
    · have V : upd u.2.2.1 0 (((u.2.2.1 0) &&& ((15 : Int32) ^^^ (-1 : Int32))) ||| ((((u.2.2.1 0) &&& (b ^^^ (-1 : Int32))) ||| (y &&& b)) &&& (15 : Int32))) = fX2_write u.2.2.1 (nI 0) y b := by
        rw [show fX2_write u.2.2.1 (nI 0) y b = upd u.2.2.1 0 (((u.2.2.1 0) &&& ((b &&& (15 : Int32)) ^^^ (-1 : Int32))) ||| (y &&& (b &&& (15 : Int32)))) from (if_neg (by decide)).trans ((if_pos ((wr_c _ _ _ _ _ (by decide)).trans q)).trans (if_neg (by decide))), wr_id]
      exact (if_neg (by decide)).trans ((if_neg (by decide)).trans ((if_pos q).trans ((if_neg (by decide)).trans ((if_neg (by decide)).trans ((if_neg (by decide)).trans (congrArg (fun f => mk (ts2 u f) th nx br ba fo ra) V))))))
    · have V : upd u.2.2.1 0 (((u.2.2.1 0) &&& ((15 : Int32) ^^^ (-1 : Int32))) ||| (((((u.2.2.1 0) &&& (b ^^^ (-1 : Int32))) ||| (y &&& b)) ||| (3 : Int32)) &&& (15 : Int32))) = fX2_write u.2.2.1 (nI 0) y b := by
        rw [show fX2_write u.2.2.1 (nI 0) y b = upd u.2.2.1 0 ((((u.2.2.1 0) &&& ((b &&& (15 : Int32)) ^^^ (-1 : Int32))) ||| (y &&& (b &&& (15 : Int32)))) ||| (3 : Int32)) from (if_neg (by decide)).trans ((if_neg (fun z => q ((wr_c _ _ _ (15 : Int32) _ (by decide)).symm.trans z))).trans (if_neg (by decide))), wr_idL _ _ _ _ _ (by decide)]
      exact (if_neg (by decide)).trans ((if_neg (by decide)).trans ((if_neg q).trans ((if_neg (by decide)).trans ((if_neg (by decide)).trans ((if_neg (by decide)).trans (congrArg (fun f => mk (ts2 u f) th nx br ba fo ra) V))))))
  · by_cases q : (((u.2.2.1 1) &&& (b ^^^ (-1 : Int32))) ||| (y &&& b)) &&& (3 : Int32) = (0 : Int32)
    · have V : upd u.2.2.1 1 (((u.2.2.1 1) &&& ((7 : Int32) ^^^ (-1 : Int32))) ||| ((((u.2.2.1 1) &&& (b ^^^ (-1 : Int32))) ||| (y &&& b)) &&& (7 : Int32))) = fX2_write u.2.2.1 (nI 1) y b := by
        rw [show fX2_write u.2.2.1 (nI 1) y b = upd u.2.2.1 1 (((u.2.2.1 1) &&& ((b &&& (7 : Int32)) ^^^ (-1 : Int32))) ||| (y &&& (b &&& (7 : Int32)))) from (if_neg (by decide)).trans ((if_pos ((wr_c _ _ _ _ _ (by decide)).trans q)).trans (if_neg (by decide))), wr_id]
      exact (if_neg (by decide)).trans ((if_neg (by decide)).trans ((if_pos q).trans ((if_neg (by decide)).trans ((if_neg (by decide)).trans ((if_neg (by decide)).trans (congrArg (fun f => mk (ts2 u f) th nx br ba fo ra) V))))))
    · have V : upd u.2.2.1 1 (((u.2.2.1 1) &&& ((7 : Int32) ^^^ (-1 : Int32))) ||| (((((u.2.2.1 1) &&& (b ^^^ (-1 : Int32))) ||| (y &&& b)) ||| (3 : Int32)) &&& (7 : Int32))) = fX2_write u.2.2.1 (nI 1) y b := by
        rw [show fX2_write u.2.2.1 (nI 1) y b = upd u.2.2.1 1 ((((u.2.2.1 1) &&& ((b &&& (7 : Int32)) ^^^ (-1 : Int32))) ||| (y &&& (b &&& (7 : Int32)))) ||| (3 : Int32)) from (if_neg (by decide)).trans ((if_neg (fun z => q ((wr_c _ _ _ (7 : Int32) _ (by decide)).symm.trans z))).trans (if_neg (by decide))), wr_idL _ _ _ _ _ (by decide)]
      exact (if_neg (by decide)).trans ((if_neg (by decide)).trans ((if_neg q).trans ((if_neg (by decide)).trans ((if_neg (by decide)).trans ((if_neg (by decide)).trans (congrArg (fun f => mk (ts2 u f) th nx br ba fo ra) V))))))
  · have V : upd u.2.2.1 2 (((u.2.2.1 2) &&& ((31 : Int32) ^^^ (-1 : Int32))) ||| ((((u.2.2.1 2) &&& (b ^^^ (-1 : Int32))) ||| (y &&& b)) &&& (31 : Int32))) = fX2_write u.2.2.1 (nI 2) y b := by
      rw [show fX2_write u.2.2.1 (nI 2) y b = upd u.2.2.1 2 (((u.2.2.1 2) &&& ((b &&& (31 : Int32)) ^^^ (-1 : Int32))) ||| (y &&& (b &&& (31 : Int32)))) from (if_neg (by decide)).trans ((if_pos (show (((u.2.2.1 2) &&& ((b &&& (31 : Int32)) ^^^ (-1 : Int32))) ||| (y &&& (b &&& (31 : Int32)))) &&& (0 : Int32) = (0 : Int32) from Int32.and_zero)).trans (if_neg (by decide))), wr_id]
    exact (if_neg (by decide)).trans ((if_pos (by decide)).trans ((if_neg (by decide)).trans ((if_neg (by decide)).trans ((if_neg (by decide)).trans (congrArg (fun f => mk (ts2 u f) th nx br ba fo ra) V)))))
  · by_cases q : (b &&& y) &&& (16 : Int32) = (0 : Int32)
    · exact (if_pos (by decide)).trans ((if_pos q).trans (congrArg (fun f => mk (ts2 u f) th nx br ba fo ra) (show upd u.2.2.1 3 (u.2.2.1 3) = fX2_write u.2.2.1 (nI 3) y b from by rw [show fX2_write u.2.2.1 (nI 3) y b = upd u.2.2.1 3 ((u.2.2.1 3) &&& ((y &&& (b &&& (16 : Int32))) ^^^ (-1 : Int32))) from if_pos (by decide), wr_3a _ _ _ q])))
    · exact (if_pos (by decide)).trans ((if_neg q).trans (congrArg (fun f => mk (ts2 u f) th nx br ba fo ra) (show upd u.2.2.1 3 ((u.2.2.1 3) &&& (-17 : Int32)) = fX2_write u.2.2.1 (nI 3) y b from by rw [show fX2_write u.2.2.1 (nI 3) y b = upd u.2.2.1 3 ((u.2.2.1 3) &&& ((y &&& (b &&& (16 : Int32))) ^^^ (-1 : Int32))) from if_pos (by decide), wr_3b _ _ _ q])))
  · have V : upd u.2.2.1 4 (((u.2.2.1 4) &&& ((-1 : Int32) ^^^ (-1 : Int32))) ||| ((((u.2.2.1 4) &&& (b ^^^ (-1 : Int32))) ||| (y &&& b)) &&& (-1 : Int32))) = fX2_write u.2.2.1 (nI 4) y b := by
      rw [show fX2_write u.2.2.1 (nI 4) y b = upd u.2.2.1 4 (((u.2.2.1 4) &&& ((b &&& (-1 : Int32)) ^^^ (-1 : Int32))) ||| (y &&& (b &&& (-1 : Int32)))) from (if_neg (by decide)).trans ((if_pos (show (((u.2.2.1 4) &&& ((b &&& (-1 : Int32)) ^^^ (-1 : Int32))) ||| (y &&& (b &&& (-1 : Int32)))) &&& (0 : Int32) = (0 : Int32) from Int32.and_zero)).trans (if_neg (by decide))), wr_id]
    exact (if_neg (by decide)).trans ((if_pos (by decide)).trans ((if_neg (by decide)).trans ((if_neg (by decide)).trans ((if_neg (by decide)).trans (congrArg (fun f => mk (ts2 u f) th nx br ba fo ra) V)))))
  · have V : upd u.2.2.1 5 (((u.2.2.1 5) &&& ((-1 : Int32) ^^^ (-1 : Int32))) ||| ((((u.2.2.1 5) &&& (b ^^^ (-1 : Int32))) ||| (y &&& b)) &&& (-1 : Int32))) = fX2_write u.2.2.1 (nI 5) y b := by
      rw [show fX2_write u.2.2.1 (nI 5) y b = upd u.2.2.1 5 (((u.2.2.1 5) &&& ((b &&& (-1 : Int32)) ^^^ (-1 : Int32))) ||| (y &&& (b &&& (-1 : Int32)))) from (if_neg (by decide)).trans ((if_pos (show (((u.2.2.1 5) &&& ((b &&& (-1 : Int32)) ^^^ (-1 : Int32))) ||| (y &&& (b &&& (-1 : Int32)))) &&& (0 : Int32) = (0 : Int32) from Int32.and_zero)).trans (if_neg (by decide))), wr_id]
    exact (if_neg (by decide)).trans ((if_pos (by decide)).trans ((if_neg (by decide)).trans ((if_neg (by decide)).trans ((if_neg (by decide)).trans (congrArg (fun f => mk (ts2 u f) th nx br ba fo ra) V)))))
  · have V : upd u.2.2.1 6 (((u.2.2.1 6) &&& ((-4 : Int32) ^^^ (-1 : Int32))) ||| ((((u.2.2.1 6) &&& (b ^^^ (-1 : Int32))) ||| (y &&& b)) &&& (-4 : Int32))) = fX2_write u.2.2.1 (nI 6) y b := by
      rw [show fX2_write u.2.2.1 (nI 6) y b = upd u.2.2.1 6 (((u.2.2.1 6) &&& ((b &&& (-4 : Int32)) ^^^ (-1 : Int32))) ||| (y &&& (b &&& (-4 : Int32)))) from (if_neg (by decide)).trans ((if_pos (show (((u.2.2.1 6) &&& ((b &&& (-4 : Int32)) ^^^ (-1 : Int32))) ||| (y &&& (b &&& (-4 : Int32)))) &&& (0 : Int32) = (0 : Int32) from Int32.and_zero)).trans (if_neg (by decide))), wr_id]
    exact (if_neg (by decide)).trans ((if_pos (by decide)).trans ((if_neg (by decide)).trans ((if_neg (by decide)).trans ((if_neg (by decide)).trans (congrArg (fun f => mk (ts2 u f) th nx br ba fo ra) V)))))
  · have V : upd u.2.2.1 7 (((u.2.2.1 7) &&& ((-2147483645 : Int32) ^^^ (-1 : Int32))) ||| ((((u.2.2.1 7) &&& (b ^^^ (-1 : Int32))) ||| (y &&& b)) &&& (-2147483645 : Int32))) = fX2_write u.2.2.1 (nI 7) y b := by
      rw [show fX2_write u.2.2.1 (nI 7) y b = upd u.2.2.1 7 (((u.2.2.1 7) &&& ((b &&& (-2147483645 : Int32)) ^^^ (-1 : Int32))) ||| (y &&& (b &&& (-2147483645 : Int32)))) from (if_neg (by decide)).trans ((if_pos (show (((u.2.2.1 7) &&& ((b &&& (-2147483645 : Int32)) ^^^ (-1 : Int32))) ||| (y &&& (b &&& (-2147483645 : Int32)))) &&& (0 : Int32) = (0 : Int32) from Int32.and_zero)).trans (if_neg (by decide))), wr_id]
    exact (if_neg (by decide)).trans ((if_pos (by decide)).trans ((if_neg (by decide)).trans ((if_neg (by decide)).trans ((if_neg (by decide)).trans (congrArg (fun f => mk (ts2 u f) th nx br ba fo ra) V)))))
  · have V : upd u.2.2.1 8 (((u.2.2.1 8) &&& ((-128 : Int32) ^^^ (-1 : Int32))) ||| ((((u.2.2.1 8) &&& (b ^^^ (-1 : Int32))) ||| (y &&& b)) &&& (-128 : Int32))) = fX2_write u.2.2.1 (nI 8) y b := by
      rw [show fX2_write u.2.2.1 (nI 8) y b = upd u.2.2.1 8 (((u.2.2.1 8) &&& ((b &&& (-128 : Int32)) ^^^ (-1 : Int32))) ||| (y &&& (b &&& (-128 : Int32)))) from (if_neg (by decide)).trans ((if_pos (show (((u.2.2.1 8) &&& ((b &&& (-128 : Int32)) ^^^ (-1 : Int32))) ||| (y &&& (b &&& (-128 : Int32)))) &&& (0 : Int32) = (0 : Int32) from Int32.and_zero)).trans (if_neg (by decide))), wr_id]
    exact (if_neg (by decide)).trans ((if_pos (by decide)).trans ((if_neg (by decide)).trans ((if_neg (by decide)).trans ((if_neg (by decide)).trans (congrArg (fun f => mk (ts2 u f) th nx br ba fo ra) V)))))
  · by_cases q : (((u.2.2.1 9) &&& (b ^^^ (-1 : Int32))) ||| (y &&& b)) &&& (12 : Int32) = (0 : Int32)
    · have V : upd u.2.2.1 9 (((u.2.2.1 9) &&& ((2015 : Int32) ^^^ (-1 : Int32))) ||| ((((u.2.2.1 9) &&& (b ^^^ (-1 : Int32))) ||| (y &&& b)) &&& (2015 : Int32))) = fX2_write u.2.2.1 (nI 9) y b := by
        rw [show fX2_write u.2.2.1 (nI 9) y b = upd u.2.2.1 9 (((u.2.2.1 9) &&& ((b &&& (2015 : Int32)) ^^^ (-1 : Int32))) ||| (y &&& (b &&& (2015 : Int32)))) from (if_neg (by decide)).trans ((if_pos ((wr_c _ _ _ _ _ (by decide)).trans q)).trans (if_neg (by decide))), wr_id]
      exact (if_neg (by decide)).trans ((if_pos (by decide)).trans ((if_pos (by decide)).trans ((if_pos q).trans (congrArg (fun f => mk (ts2 u f) th nx br ba fo ra) V))))
    · have V : upd u.2.2.1 9 (((u.2.2.1 9) &&& ((2015 : Int32) ^^^ (-1 : Int32))) ||| (((((u.2.2.1 9) &&& (b ^^^ (-1 : Int32))) ||| (y &&& b)) ||| (12 : Int32)) &&& (2015 : Int32))) = fX2_write u.2.2.1 (nI 9) y b := by
        rw [show fX2_write u.2.2.1 (nI 9) y b = upd u.2.2.1 9 ((((u.2.2.1 9) &&& ((b &&& (2015 : Int32)) ^^^ (-1 : Int32))) ||| (y &&& (b &&& (2015 : Int32)))) ||| (12 : Int32)) from (if_neg (by decide)).trans ((if_neg (fun z => q ((wr_c _ _ _ (2015 : Int32) _ (by decide)).symm.trans z))).trans (if_neg (by decide))), wr_idL _ _ _ _ _ (by decide)]
      exact (if_neg (by decide)).trans ((if_pos (by decide)).trans ((if_pos (by decide)).trans ((if_neg q).trans (congrArg (fun f => mk (ts2 u f) th nx br ba fo ra) V))))
  · by_cases q : (((u.2.2.1 10) &&& (b ^^^ (-1 : Int32))) ||| (y &&& b)) &&& (12 : Int32) = (0 : Int32)
    · have V : upd u.2.2.1 10 (((u.2.2.1 10) &&& ((2015 : Int32) ^^^ (-1 : Int32))) ||| ((((u.2.2.1 10) &&& (b ^^^ (-1 : Int32))) ||| (y &&& b)) &&& (2015 : Int32))) = fX2_write u.2.2.1 (nI 10) y b := by
        rw [show fX2_write u.2.2.1 (nI 10) y b = upd u.2.2.1 10 (((u.2.2.1 10) &&& ((b &&& (2015 : Int32)) ^^^ (-1 : Int32))) ||| (y &&& (b &&& (2015 : Int32)))) from (if_neg (by decide)).trans ((if_pos ((wr_c _ _ _ _ _ (by decide)).trans q)).trans (if_neg (by decide))), wr_id]
      exact (if_neg (by decide)).trans ((if_pos (by decide)).trans ((if_neg (by decide)).trans ((if_pos (by decide)).trans ((if_pos q).trans (congrArg (fun f => mk (ts2 u f) th nx br ba fo ra) V)))))
    · have V : upd u.2.2.1 10 (((u.2.2.1 10) &&& ((2015 : Int32) ^^^ (-1 : Int32))) ||| (((((u.2.2.1 10) &&& (b ^^^ (-1 : Int32))) ||| (y &&& b)) ||| (12 : Int32)) &&& (2015 : Int32))) = fX2_write u.2.2.1 (nI 10) y b := by
        rw [show fX2_write u.2.2.1 (nI 10) y b = upd u.2.2.1 10 ((((u.2.2.1 10) &&& ((b &&& (2015 : Int32)) ^^^ (-1 : Int32))) ||| (y &&& (b &&& (2015 : Int32)))) ||| (12 : Int32)) from (if_neg (by decide)).trans ((if_neg (fun z => q ((wr_c _ _ _ (2015 : Int32) _ (by decide)).symm.trans z))).trans (if_neg (by decide))), wr_idL _ _ _ _ _ (by decide)]
      exact (if_neg (by decide)).trans ((if_pos (by decide)).trans ((if_neg (by decide)).trans ((if_pos (by decide)).trans ((if_neg q).trans (congrArg (fun f => mk (ts2 u f) th nx br ba fo ra) V)))))
  · have V : upd u.2.2.1 11 (((u.2.2.1 11) &&& ((15 : Int32) ^^^ (-1 : Int32))) ||| ((((u.2.2.1 11) &&& (b ^^^ (-1 : Int32))) ||| (y &&& b)) &&& (15 : Int32))) = fX2_write u.2.2.1 (nI 11) y b := by
      rw [show fX2_write u.2.2.1 (nI 11) y b = upd u.2.2.1 11 (((u.2.2.1 11) &&& ((b &&& (15 : Int32)) ^^^ (-1 : Int32))) ||| (y &&& (b &&& (15 : Int32)))) from (if_neg (by decide)).trans ((if_pos (show (((u.2.2.1 11) &&& ((b &&& (15 : Int32)) ^^^ (-1 : Int32))) ||| (y &&& (b &&& (15 : Int32)))) &&& (0 : Int32) = (0 : Int32) from Int32.and_zero)).trans (if_neg (by decide))), wr_id]
    exact (if_neg (by decide)).trans ((if_pos (by decide)).trans ((if_neg (by decide)).trans ((if_neg (by decide)).trans ((if_neg (by decide)).trans (congrArg (fun f => mk (ts2 u f) th nx br ba fo ra) V)))))
  · have V : upd u.2.2.1 12 (((u.2.2.1 12) &&& ((-1 : Int32) ^^^ (-1 : Int32))) ||| ((((u.2.2.1 12) &&& (b ^^^ (-1 : Int32))) ||| (y &&& b)) &&& (-1 : Int32))) = fX2_write u.2.2.1 (nI 12) y b := by
      rw [show fX2_write u.2.2.1 (nI 12) y b = upd u.2.2.1 12 (((u.2.2.1 12) &&& ((b &&& (-1 : Int32)) ^^^ (-1 : Int32))) ||| (y &&& (b &&& (-1 : Int32)))) from (if_neg (by decide)).trans ((if_pos (show (((u.2.2.1 12) &&& ((b &&& (-1 : Int32)) ^^^ (-1 : Int32))) ||| (y &&& (b &&& (-1 : Int32)))) &&& (0 : Int32) = (0 : Int32) from Int32.and_zero)).trans (if_neg (by decide))), wr_id]
    exact (if_neg (by decide)).trans ((if_pos (by decide)).trans ((if_neg (by decide)).trans ((if_neg (by decide)).trans ((if_neg (by decide)).trans (congrArg (fun f => mk (ts2 u f) th nx br ba fo ra) V)))))
  · have V : upd u.2.2.1 13 (((u.2.2.1 13) &&& ((-1 : Int32) ^^^ (-1 : Int32))) ||| ((((u.2.2.1 13) &&& (b ^^^ (-1 : Int32))) ||| (y &&& b)) &&& (-1 : Int32))) = fX2_write u.2.2.1 (nI 13) y b := by
      rw [show fX2_write u.2.2.1 (nI 13) y b = upd u.2.2.1 13 (((u.2.2.1 13) &&& ((b &&& (-1 : Int32)) ^^^ (-1 : Int32))) ||| (y &&& (b &&& (-1 : Int32)))) from (if_neg (by decide)).trans ((if_pos (show (((u.2.2.1 13) &&& ((b &&& (-1 : Int32)) ^^^ (-1 : Int32))) ||| (y &&& (b &&& (-1 : Int32)))) &&& (0 : Int32) = (0 : Int32) from Int32.and_zero)).trans (if_neg (by decide))), wr_id]
    exact (if_neg (by decide)).trans ((if_pos (by decide)).trans ((if_neg (by decide)).trans ((if_neg (by decide)).trans ((if_neg (by decide)).trans (congrArg (fun f => mk (ts2 u f) th nx br ba fo ra) V)))))
  · have V : upd (upd u.2.2.1 14 (((u.2.2.1 14) &&& ((65535 : Int32) ^^^ (-1 : Int32))) ||| ((((u.2.2.1 14) &&& (b ^^^ (-1 : Int32))) ||| (y &&& b)) &&& (65535 : Int32)))) 15 ((((u.2.2.1 14) &&& ((65535 : Int32) ^^^ (-1 : Int32))) ||| ((((u.2.2.1 14) &&& (b ^^^ (-1 : Int32))) ||| (y &&& b)) &&& (65535 : Int32))) &&& (65532 : Int32)) = fX2_write u.2.2.1 (nI 14) y b := by
      rw [show fX2_write u.2.2.1 (nI 14) y b = upd (upd u.2.2.1 14 (((u.2.2.1 14) &&& ((b &&& (65535 : Int32)) ^^^ (-1 : Int32))) ||| (y &&& (b &&& (65535 : Int32))))) 15 ((((u.2.2.1 14) &&& ((b &&& (65535 : Int32)) ^^^ (-1 : Int32))) ||| (y &&& (b &&& (65535 : Int32)))) &&& (65532 : Int32)) from (if_neg (by decide)).trans ((if_pos (show (((u.2.2.1 14) &&& ((b &&& (65535 : Int32)) ^^^ (-1 : Int32))) ||| (y &&& (b &&& (65535 : Int32)))) &&& (0 : Int32) = (0 : Int32) from Int32.and_zero)).trans (if_pos (by decide))), wr_id]
    exact (if_neg (by decide)).trans ((if_pos (by decide)).trans ((if_neg (by decide)).trans ((if_neg (by decide)).trans ((if_pos (by decide)).trans (congrArg (fun f => mk (ts2 u f) th nx br ba fo ra) V)))))
  · have V : upd u.2.2.1 15 (((u.2.2.1 15) &&& ((0 : Int32) ^^^ (-1 : Int32))) ||| ((((u.2.2.1 15) &&& (b ^^^ (-1 : Int32))) ||| (y &&& b)) &&& (0 : Int32))) = fX2_write u.2.2.1 (nI 15) y b := by
      rw [show fX2_write u.2.2.1 (nI 15) y b = upd u.2.2.1 15 (((u.2.2.1 15) &&& ((b &&& (0 : Int32)) ^^^ (-1 : Int32))) ||| (y &&& (b &&& (0 : Int32)))) from (if_neg (by decide)).trans ((if_pos (show (((u.2.2.1 15) &&& ((b &&& (0 : Int32)) ^^^ (-1 : Int32))) ||| (y &&& (b &&& (0 : Int32)))) &&& (0 : Int32) = (0 : Int32) from Int32.and_zero)).trans (if_neg (by decide))), wr_id]
    exact (if_neg (by decide)).trans ((if_pos (by decide)).trans ((if_neg (by decide)).trans ((if_neg (by decide)).trans ((if_neg (by decide)).trans (congrArg (fun f => mk (ts2 u f) th nx br ba fo ra) V)))))
  · have V : upd u.2.2.1 16 (((u.2.2.1 16) &&& ((-4 : Int32) ^^^ (-1 : Int32))) ||| ((((u.2.2.1 16) &&& (b ^^^ (-1 : Int32))) ||| (y &&& b)) &&& (-4 : Int32))) = fX2_write u.2.2.1 (nI 16) y b := by
      rw [show fX2_write u.2.2.1 (nI 16) y b = upd u.2.2.1 16 (((u.2.2.1 16) &&& ((b &&& (-4 : Int32)) ^^^ (-1 : Int32))) ||| (y &&& (b &&& (-4 : Int32)))) from (if_neg (by decide)).trans ((if_pos (show (((u.2.2.1 16) &&& ((b &&& (-4 : Int32)) ^^^ (-1 : Int32))) ||| (y &&& (b &&& (-4 : Int32)))) &&& (0 : Int32) = (0 : Int32) from Int32.and_zero)).trans (if_neg (by decide))), wr_id]
    exact (if_neg (by decide)).trans ((if_pos (by decide)).trans ((if_neg (by decide)).trans ((if_neg (by decide)).trans ((if_neg (by decide)).trans (congrArg (fun f => mk (ts2 u f) th nx br ba fo ra) V)))))
  · have V : upd u.2.2.1 17 (((u.2.2.1 17) &&& ((-268435447 : Int32) ^^^ (-1 : Int32))) ||| ((((u.2.2.1 17) &&& (b ^^^ (-1 : Int32))) ||| (y &&& b)) &&& (-268435447 : Int32))) = fX2_write u.2.2.1 (nI 17) y b := by
      rw [show fX2_write u.2.2.1 (nI 17) y b = upd u.2.2.1 17 (((u.2.2.1 17) &&& ((b &&& (-268435447 : Int32)) ^^^ (-1 : Int32))) ||| (y &&& (b &&& (-268435447 : Int32)))) from (if_neg (by decide)).trans ((if_pos (show (((u.2.2.1 17) &&& ((b &&& (-268435447 : Int32)) ^^^ (-1 : Int32))) ||| (y &&& (b &&& (-268435447 : Int32)))) &&& (0 : Int32) = (0 : Int32) from Int32.and_zero)).trans (if_neg (by decide))), wr_id]
    exact (if_neg (by decide)).trans ((if_pos (by decide)).trans ((if_neg (by decide)).trans ((if_neg (by decide)).trans ((if_neg (by decide)).trans (congrArg (fun f => mk (ts2 u f) th nx br ba fo ra) V)))))
theorem ins_ctl {op w : Int32} : InsR u th ra (fX3_useControl u op w) (fX4_controls (mk u th (u.2.2.2.2.1 + (4 : Int32)) br ba fo ra) op (bA w) (bB w) (bC w)) := by
  unfold fX3_useControl fX4_controls
  rw [bA8, bB8, bC_eq]
  have eA : (mk u th (u.2.2.2.2.1 + (4 : Int32)) br ba fo ra).2.2.1 (ix ((iu w (16 : Int32)) &&& (7 : Int32))) = fX3_valueA u w := rfl
  have eB : (mk u th (u.2.2.2.2.1 + (4 : Int32)) br ba fo ra).2.2.1 (ix ((iu w (8 : Int32)) &&& (7 : Int32))) = fX3_valueB u w := rfl
  have eC : (mk u th (u.2.2.2.2.1 + (4 : Int32)) br ba fo ra).2.2.2.1 (ix (fX3_byteC w)) = fX2_get u.2.2.1 (fX3_byteC w) := rfl
  rw [eA, eB, eC]
  by_cases q : fX3_byteC w ≤ (17 : Int32)
  · rw [if_pos q, if_pos q]
    by_cases q9 : op = (19 : Int32)
    · rw [if_pos q9, if_pos q9, write_rel (byteC_in q)]
      exact ins_set (u := u) (X := ts2 u (fX2_write u.2.2.1 (fX3_byteC w) (fX3_valueA u w) (-1 : Int32))) rfl rfl w _ br ba fo
    · rw [if_neg q9, if_neg q9]
      by_cases q20 : op = (20 : Int32)
      · rw [if_pos q20, if_pos q20, write_rel (byteC_in q)]
        exact ins_set (u := u) (X := ts2 u (fX2_write u.2.2.1 (fX3_byteC w) (fX3_valueA u w) (fX3_valueB u w))) rfl rfl w _ br ba fo
      · rw [if_neg q20, if_neg q20]
        exact ins_set (u := u) (X := u) rfl rfl w _ br ba fo
  · rw [if_neg q, if_neg q]
    exact ins_code 13 (by decide) (by decide) 0
end Rel8
