section Rel6
variable {u : TM} {th nx br ba fo ra : Int32}
theorem sh16 (w m : Int32) (hm : ∀ i, i < 32 → ¬ 16 + i < 32 → bt m i = false) : (w >>> ((16 : Int32) &&& 31)) &&& m = (iu w (16 : Int32)) &&& m := by
  refine b_ext (fun i hi => ?_)
  rw [b_and, b_and, b_iu 16 (by omega) _ (16 : Int32) rfl, show bt (w >>> ((16 : Int32) &&& 31)) i = if 16 + i < 32 then bt w (16 + i) else bt w 31 from b_sshr 16 (by omega) w hi]
  by_cases q : 16 + i < 32
  · rw [if_pos q]
  · rw [hm i hi q]; simp
theorem sh8 (w m : Int32) (hm : ∀ i, i < 32 → ¬ 8 + i < 32 → bt m i = false) : (w >>> ((8 : Int32) &&& 31)) &&& m = (iu w (8 : Int32)) &&& m := by
  refine b_ext (fun i hi => ?_)
  rw [b_and, b_and, b_iu 8 (by omega) _ (8 : Int32) rfl, show bt (w >>> ((8 : Int32) &&& 31)) i = if 8 + i < 32 then bt w (8 + i) else bt w 31 from b_sshr 8 (by omega) w hi]
  by_cases q : 8 + i < 32
  · rw [if_pos q]
  · rw [hm i hi q]; simp
theorem m255_16 : ∀ i, i < 32 → ¬ 16 + i < 32 → bt (255 : Int32) i = false := by decide +kernel
theorem m255_8 : ∀ i, i < 32 → ¬ 8 + i < 32 → bt (255 : Int32) i = false := by decide +kernel
theorem rem8 (y : Int32) : (y &&& (255 : Int32)) - (y &&& (255 : Int32)) / (8 : Int32) * (8 : Int32) = y &&& (7 : Int32) := by
  obtain ⟨n, hn, rfl⟩ := i32n y
  rw [show nI n &&& (255 : Int32) = nI (n % 256) from pk_andN hn 8 (by decide), show nI n &&& (7 : Int32) = nI (n % 8) from pk_andN hn 3 (by decide), show (8 : Int32) = nI 8 from rfl, pk_rem (by omega) (by omega) (by omega)]
  congr 1
  omega
/-- the bytes as the reference has them -/
def bA (w : Int32) : Int32 := (w >>> ((16 : Int32) &&& 31)) &&& (255 : Int32)
def bB (w : Int32) : Int32 := (w >>> ((8 : Int32) &&& 31)) &&& (255 : Int32)
def bC (w : Int32) : Int32 := w &&& (255 : Int32)
theorem bA8 (w : Int32) : bA w - bA w / (8 : Int32) * (8 : Int32) = (iu w (16 : Int32)) &&& (7 : Int32) := by
  unfold bA; rw [sh16 w _ m255_16]; exact rem8 _
theorem bB8 (w : Int32) : bB w - bB w / (8 : Int32) * (8 : Int32) = (iu w (8 : Int32)) &&& (7 : Int32) := by
  unfold bB; rw [sh8 w _ m255_8]; exact rem8 _
theorem bC8 (w : Int32) : bC w - bC w / (8 : Int32) * (8 : Int32) = w &&& (7 : Int32) := rem8 w
theorem bB_eq (w : Int32) : bB w = fX3_byteB w := sh8 w _ m255_8
theorem bC_eq (w : Int32) : bC w = fX3_byteC w := rfl
/-- the immediate -/
theorem imm_n : ∀ n, n < 256 → (nI n).toInt8.toInt32 = if (128 : Int32) ≤ nI n then nI n - (256 : Int32) else nI n := by decide +kernel
theorem to8 (w : Int32) : w.toInt8 = (w &&& (255 : Int32)).toInt8 := by
  apply Int8.toBitVec_inj.mp
  apply BitVec.eq_of_getLsbD_eq
  intro i hi
  have k : bt (255 : Int32) i = true := (by decide +kernel : ∀ i, i < 8 → bt (255 : Int32) i = true) i hi
  have e : bt (w &&& (255 : Int32)) i = bt w i := by rw [b_and, k]; simp
  show (w.toBitVec.signExtend 8).getLsbD i = ((w &&& (255 : Int32)).toBitVec.signExtend 8).getLsbD i
  rw [BitVec.getLsbD_signExtend, BitVec.getLsbD_signExtend]
  have h32 : i < 32 := by omega
  simp only [h32, hi, decide_true, Bool.true_and, if_true]
  exact e.symm
theorem imm_eq (w : Int32) : fX3_imm w = if (128 : Int32) ≤ bC w then bC w - (256 : Int32) else bC w := by
  show w.toInt8.toInt32 = _
  rw [to8]
  obtain ⟨n, hn, e⟩ := pk_andE w (m := 255) 8 (by decide)
  unfold bC
  rw [e]
  exact imm_n n hn
theorem setA_pl (w x : Int32) : (fX3_setA u w x).2.2.2.2.1 = u.2.2.2.2.1 := by
  unfold fX3_setA
  by_cases h : ((iu w (16 : Int32)) &&& (7 : Int32)) = (0 : Int32)
  · rw [if_pos h]
  · rw [if_neg h]; rfl
theorem setA_tr (w x : Int32) : (fX3_setA u w x).2.2.2.2.2.2.2 = u.2.2.2.2.2.2.2 := by
  unfold fX3_setA
  by_cases h : ((iu w (16 : Int32)) &&& (7 : Int32)) = (0 : Int32)
  · rw [if_pos h]
  · rw [if_neg h]; rfl
theorem put_rel (w x : Int32) : fX4_put (mk u th nx br ba fo ra) (bA w) x = mk (fX3_setA u w x) th nx br ba fo ra := by
  unfold fX4_put fX3_setA
  rw [bA8]
  by_cases h : ((iu w (16 : Int32)) &&& (7 : Int32)) = (0 : Int32)
  · rw [if_pos h, if_pos h]
  · rw [if_neg h, if_neg h]; rfl
theorem reckon_rel (op w : Int32) : fX4_reckon (mk u th nx br ba fo ra) op (bB w) (bC w) (fX3_imm w) = fX3_result u op w := by
  unfold fX4_reckon fX3_result
  rw [bB8, bC8]
  rw [bB_eq, bC_eq]
  rfl
/-- what an instruction does, beside the class's -/
def InsR (u : TM) (th ra : Int32) (u' : TM) (o : Int32 × MD) : Prop :=
  (∃ br ba fo, o = ((-1 : Int32), mk (ts4 u' u.2.2.2.2.1) th u'.2.2.2.2.1 br ba fo ra) ∧ u'.2.2.2.2.2.2.2 = u.2.2.2.2.2.2.2) ∨
  (∃ nx br ba fo, o = ((-2 : Int32), mk u th nx br ba fo ra) ∧ u' = ts7 u (2 : Int32)) ∨
  ∃ c nx br ba fo, ¬ c = (-1 : Int32) ∧ ¬ c = (-2 : Int32) ∧ o = (c, mk u th nx br ba fo ra) ∧ u' = fX3_raise (ts2 u (bring u.2.2.1 br ba)) c
theorem ins_code (c : Int32) (h1 : ¬ c = (-1 : Int32)) (h2 : ¬ c = (-2 : Int32)) (a : Int32) : InsR u th ra (fX3_raise u c) ((fX4_with (mk u th nx br ba fo ra) c a (0 : Int32)).1, (fX4_with (mk u th nx br ba fo ra) c a (0 : Int32)).2) :=
  Or.inr (Or.inr ⟨c, nx, 0, a, fo, h1, h2, rfl, congrArg (fun v => fX3_raise (ts2 u v) c) (show u.2.2.1 = bring u.2.2.1 (0 : Int32) a from (if_pos (by decide)).symm)⟩)
/-- a refused address -/
theorem ins_fail {a1 r : Int32} {o : Int32 × MD} (h : LookR u th nx br ba fo ra a1 r o) (hr : ¬ (0 : Int32) ≤ r) : InsR u th ra (fX3_fail u r a1) o := by
  rcases h with ⟨h, -⟩ | ⟨rfl, rfl⟩ | ⟨c, hc, rfl, rfl⟩ | ⟨c, hc, rfl, rfl⟩
  · exact absurd h hr
  · exact Or.inr (Or.inl ⟨nx, br, ba, fo, rfl, if_pos rfl⟩)
  · refine Or.inr (Or.inr ⟨c, nx, 2, a1, fo, ?_, ?_, rfl, ?_⟩)
    · rcases hc with rfl | rfl | rfl | rfl | rfl | rfl <;> decide
    · rcases hc with rfl | rfl | rfl | rfl | rfl | rfl <;> decide
    · rw [show bring u.2.2.1 (2 : Int32) a1 = upd (upd u.2.2.1 5 a1) 8 (a1 &&& (-128 : Int32)) from (if_neg (by decide)).trans (if_neg (by decide))]
      have e : ∀ d : Int32, ¬ (-d) = (-64 : Int32) → ¬ (-(-d)) = (8 : Int32) → ¬ (-(-d)) = (9 : Int32) → -(-d) = d → fX3_fail u (-d) a1 = fX3_raise (ts2 u (upd (upd u.2.2.1 5 a1) 8 (a1 &&& (-128 : Int32)))) d := by
        intro d q1 q2 q3 q4
        refine (if_neg q1).trans ((if_neg q2).trans ((if_neg q3).trans ?_))
        rw [q4]
        rfl
      rcases hc with rfl | rfl | rfl | rfl | rfl | rfl <;> exact e _ (by decide) (by decide) (by decide) (by decide)
  · refine Or.inr (Or.inr ⟨c, nx, 1, a1, fo, ?_, ?_, rfl, ?_⟩)
    · rcases hc with rfl | rfl <;> decide
    · rcases hc with rfl | rfl <;> decide
    · rw [show bring u.2.2.1 (1 : Int32) a1 = upd u.2.2.1 5 a1 from (if_neg (by decide)).trans (if_pos (by decide))]
      rcases hc with rfl | rfl
      · exact (if_neg (by decide)).trans (if_pos (by decide))
      · exact (if_neg (by decide)).trans ((if_neg (by decide)).trans (if_pos (by decide)))
theorem ins_calc (op w : Int32) : InsR u th ra (fX3_calculate u op w) ((-1 : Int32), fX4_put (ms10 (mk u th nx br ba fo ra) (u.2.2.2.2.1 + (4 : Int32))) (bA w) (fX4_reckon (ms10 (mk u th nx br ba fo ra) (u.2.2.2.2.1 + (4 : Int32))) op (bB w) (bC w) (fX3_imm w))) := by
  have e1 : ms10 (mk u th nx br ba fo ra) (u.2.2.2.2.1 + (4 : Int32)) = mk u th (u.2.2.2.2.1 + (4 : Int32)) br ba fo ra := rfl
  rw [e1, reckon_rel, put_rel]
  refine Or.inl ⟨br, ba, fo, ?_, setA_tr _ _⟩
  unfold fX3_calculate
  show ((-1 : Int32), mk (fX3_setA u w (fX3_result u op w)) th (u.2.2.2.2.1 + (4 : Int32)) br ba fo ra) = ((-1 : Int32), mk (ts4 (fX3_setA u w (fX3_result u op w)) u.2.2.2.2.1) th ((fX3_setA u w (fX3_result u op w)).2.2.2.2.1 + (4 : Int32)) br ba fo ra)
  rw [setA_pl, show ts4 (fX3_setA u w (fX3_result u op w)) u.2.2.2.2.1 = fX3_setA u w (fX3_result u op w) from by rw [← setA_pl (u := u) w (fX3_result u op w)]; rfl]
end Rel6
