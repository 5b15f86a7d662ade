section Rel13
variable {u : TM} {th nx br ba fo ra : Int32}
theorem instr_yes {w W : MD} (e : fX4_lookUp w w.2.2.2.2.2.2.2.2.2.1 (0 : Int32) = ((-1 : Int32), W)) : fX4_instruction w = insB (ms10 W (W.2.2.2.2.2.2.2.2.2.1 + (4 : Int32))) (W.2.1 (ix W.2.2.2.2.2.2.2.2.2.2.2.2.2.2.2.2.2.1)) (iu (W.2.1 (ix W.2.2.2.2.2.2.2.2.2.2.2.2.2.2.2.2.2.1)) (24 : Int32)) (fX3_imm (W.2.1 (ix W.2.2.2.2.2.2.2.2.2.2.2.2.2.2.2.2.2.1))) := by
  rw [imm_eq]
  unfold fX4_instruction
  rw [e]
  refine (if_pos rfl).trans ?_
  by_cases q : (128 : Int32) ≤ bC (W.2.1 (ix W.2.2.2.2.2.2.2.2.2.2.2.2.2.2.2.2.2.1))
  · rw [if_pos q]
    exact (if_pos q).trans rfl
  · rw [if_neg q]
    exact (if_neg q).trans rfl
theorem instr_rel (hr : ∀ e, e < 4 → Row u.2.2.2.1 e) (hl : u.2.2.1 0 &&& (3 : Int32) = (0 : Int32) ∨ u.2.2.1 0 &&& (3 : Int32) = (3 : Int32)) (h7 : u.2.2.1 7 &&& (-2147483645 : Int32) = u.2.2.1 7) (hb : u.2.2.1 1 &&& (7 : Int32) = u.2.2.1 1) (hn : vp_in u.2.2.2.2.2.2.1 4) (hc : u.2.2.2.2.2.2.2.1 = (0 : Int32)) :
    InsT u th ra (fX3_perform u) (fX4_instruction (mk u th nx br ba fo ra)) := by
  have L := look_rel (u := u) (th := th) (nx := nx) (br := br) (ba := ba) (fo := fo) (ra := ra) (a1 := u.2.2.2.2.1) (a2 := 0) hr hl (Or.inl rfl)
  rw [perB_eq]
  by_cases q : (0 : Int32) ≤ fX3_find u u.2.2.2.2.1 (0 : Int32)
  · rw [if_pos q, instr_yes (look_yes L q)]
    generalize fX3_find u u.2.2.2.2.1 (0 : Int32) = r
    show InsT u th ra (perB u (u.1 (ix r)) (iu (u.1 (ix r)) (24 : Int32))) (insB (mk u th (u.2.2.2.2.1 + (4 : Int32)) br ba r ra) (u.1 (ix r)) (iu (u.1 (ix r)) (24 : Int32)) (fX3_imm (u.1 (ix r))))
    generalize u.1 (ix r) = x
    obtain ⟨n, hn2, e⟩ : ∃ n : Nat, n < 256 ∧ iu x (24 : Int32) = nI n := by
      obtain ⟨m, hm, rfl⟩ := i32n x
      exact ⟨m / 2 ^ 24, by omega, iuN hm 24 24 (by decide)⟩
    rw [e]
    have eB : (mk u th (u.2.2.2.2.1 + (4 : Int32)) br ba r ra).2.2.1 (ix (bB x - bB x / (8 : Int32) * (8 : Int32))) = fX3_valueB u x := by rw [bB8]; rfl
    rcases Nat.lt_or_ge n 28 with h | h
    · rcases (show n = 0 ∨ n = 1 ∨ n = 2 ∨ n = 3 ∨ n = 4 ∨ n = 5 ∨ n = 6 ∨ n = 7 ∨ n = 8 ∨ n = 9 ∨ n = 10 ∨ n = 11 ∨ n = 12 ∨ n = 13 ∨ n = 14 ∨ n = 15 ∨ n = 16 ∨ n = 17 ∨ n = 18 ∨ n = 19 ∨ n = 20 ∨ n = 21 ∨ n = 22 ∨ n = 23 ∨ n = 24 ∨ n = 25 ∨ n = 26 ∨ n = 27 by omega) with rfl | rfl | rfl | rfl | rfl | rfl | rfl | rfl | rfl | rfl | rfl | rfl | rfl | rfl | rfl | rfl | rfl | rfl | rfl | rfl | rfl | rfl | rfl | rfl | rfl | rfl | rfl | rfl
      · show InsT u th ra (perB u x (0 : Int32)) (insB (mk u th (u.2.2.2.2.1 + (4 : Int32)) br ba r ra) x (0 : Int32) (fX3_imm x))
        rw [perB_0, insB_0]
        exact Or.inl (ins_code 13 (by decide) (by decide) 0)
      · show InsT u th ra (perB u x (1 : Int32)) (insB (mk u th (u.2.2.2.2.1 + (4 : Int32)) br ba r ra) x (1 : Int32) (fX3_imm x))
        rw [perB_1, insB_1]
        exact Or.inl (ins_calc (u := u) (nx := u.2.2.2.2.1 + (4 : Int32)) (1 : Int32) x)
      · show InsT u th ra (perB u x (2 : Int32)) (insB (mk u th (u.2.2.2.2.1 + (4 : Int32)) br ba r ra) x (2 : Int32) (fX3_imm x))
        rw [perB_2, insB_2]
        exact Or.inl (ins_calc (u := u) (nx := u.2.2.2.2.1 + (4 : Int32)) (2 : Int32) x)
      · show InsT u th ra (perB u x (3 : Int32)) (insB (mk u th (u.2.2.2.2.1 + (4 : Int32)) br ba r ra) x (3 : Int32) (fX3_imm x))
        rw [perB_3, insB_3]
        exact Or.inl (ins_calc (u := u) (nx := u.2.2.2.2.1 + (4 : Int32)) (3 : Int32) x)
      · show InsT u th ra (perB u x (4 : Int32)) (insB (mk u th (u.2.2.2.2.1 + (4 : Int32)) br ba r ra) x (4 : Int32) (fX3_imm x))
        rw [perB_4, insB_4]
        exact Or.inl (ins_calc (u := u) (nx := u.2.2.2.2.1 + (4 : Int32)) (4 : Int32) x)
      · show InsT u th ra (perB u x (5 : Int32)) (insB (mk u th (u.2.2.2.2.1 + (4 : Int32)) br ba r ra) x (5 : Int32) (fX3_imm x))
        rw [perB_5, insB_5]
        exact Or.inl (ins_calc (u := u) (nx := u.2.2.2.2.1 + (4 : Int32)) (5 : Int32) x)
      · show InsT u th ra (perB u x (6 : Int32)) (insB (mk u th (u.2.2.2.2.1 + (4 : Int32)) br ba r ra) x (6 : Int32) (fX3_imm x))
        rw [perB_6, insB_6]
        exact Or.inl (ins_calc (u := u) (nx := u.2.2.2.2.1 + (4 : Int32)) (6 : Int32) x)
      · show InsT u th ra (perB u x (7 : Int32)) (insB (mk u th (u.2.2.2.2.1 + (4 : Int32)) br ba r ra) x (7 : Int32) (fX3_imm x))
        rw [perB_7, insB_7]
        exact Or.inl (ins_calc (u := u) (nx := u.2.2.2.2.1 + (4 : Int32)) (7 : Int32) x)
      · show InsT u th ra (perB u x (8 : Int32)) (insB (mk u th (u.2.2.2.2.1 + (4 : Int32)) br ba r ra) x (8 : Int32) (fX3_imm x))
        rw [perB_8, insB_8, eB]
        exact Or.inl (ins_load hr hl (Or.inl rfl))
      · show InsT u th ra (perB u x (9 : Int32)) (insB (mk u th (u.2.2.2.2.1 + (4 : Int32)) br ba r ra) x (9 : Int32) (fX3_imm x))
        rw [perB_9, insB_9, eB]
        exact Or.inl (ins_store hr hl (Or.inl rfl))
      · show InsT u th ra (perB u x (10 : Int32)) (insB (mk u th (u.2.2.2.2.1 + (4 : Int32)) br ba r ra) x (10 : Int32) (fX3_imm x))
        rw [perB_10, insB_10, eB]
        exact Or.inl (ins_load hr hl (Or.inr rfl))
      · show InsT u th ra (perB u x (11 : Int32)) (insB (mk u th (u.2.2.2.2.1 + (4 : Int32)) br ba r ra) x (11 : Int32) (fX3_imm x))
        rw [perB_11, insB_11, eB]
        exact Or.inl (ins_store hr hl (Or.inr rfl))
      · show InsT u th ra (perB u x (12 : Int32)) (insB (mk u th (u.2.2.2.2.1 + (4 : Int32)) br ba r ra) x (12 : Int32) (fX3_imm x))
        rw [perB_12, insB_12]
        exact Or.inl (ins_go (Or.inl rfl))
      · show InsT u th ra (perB u x (13 : Int32)) (insB (mk u th (u.2.2.2.2.1 + (4 : Int32)) br ba r ra) x (13 : Int32) (fX3_imm x))
        rw [perB_13, insB_13]
        exact Or.inl (ins_go (Or.inr (Or.inl rfl)))
      · show InsT u th ra (perB u x (14 : Int32)) (insB (mk u th (u.2.2.2.2.1 + (4 : Int32)) br ba r ra) x (14 : Int32) (fX3_imm x))
        rw [perB_14, insB_14]
        exact Or.inl (ins_go (Or.inr (Or.inr (Or.inl rfl))))
      · show InsT u th ra (perB u x (15 : Int32)) (insB (mk u th (u.2.2.2.2.1 + (4 : Int32)) br ba r ra) x (15 : Int32) (fX3_imm x))
        rw [perB_15, insB_15]
        exact Or.inl (ins_go (Or.inr (Or.inr (Or.inr rfl))))
      · show InsT u th ra (perB u x (16 : Int32)) (insB (mk u th (u.2.2.2.2.1 + (4 : Int32)) br ba r ra) x (16 : Int32) (fX3_imm x))
        rw [perB_16, insB_16]
        exact Or.inl (ins_sub (ins_code 11 (by decide) (by decide) 0) (if_pos rfl))
      · show InsT u th ra (perB u x (17 : Int32)) (insB (mk u th (u.2.2.2.2.1 + (4 : Int32)) br ba r ra) x (17 : Int32) (fX3_imm x))
        rw [perB_17, insB_17]
        exact Or.inl (ins_sub (ins_code 12 (by decide) (by decide) 0) ((if_neg (by decide)).trans (if_pos rfl)))
      · show InsT u th ra (perB u x (18 : Int32)) (insB (mk u th (u.2.2.2.2.1 + (4 : Int32)) br ba r ra) x (18 : Int32) (fX3_imm x))
        rw [perB_18, insB_18]
        exact Or.inl (ins_priv (n := 18) (by omega) (by omega) hr h7 hb hn hc)
      · show InsT u th ra (perB u x (19 : Int32)) (insB (mk u th (u.2.2.2.2.1 + (4 : Int32)) br ba r ra) x (19 : Int32) (fX3_imm x))
        rw [perB_19, insB_19]
        exact Or.inl (ins_priv (n := 19) (by omega) (by omega) hr h7 hb hn hc)
      · show InsT u th ra (perB u x (20 : Int32)) (insB (mk u th (u.2.2.2.2.1 + (4 : Int32)) br ba r ra) x (20 : Int32) (fX3_imm x))
        rw [perB_20, insB_20]
        exact Or.inl (ins_priv (n := 20) (by omega) (by omega) hr h7 hb hn hc)
      · show InsT u th ra (perB u x (21 : Int32)) (insB (mk u th (u.2.2.2.2.1 + (4 : Int32)) br ba r ra) x (21 : Int32) (fX3_imm x))
        rw [perB_21, insB_21]
        exact Or.inl (ins_priv (n := 21) (by omega) (by omega) hr h7 hb hn hc)
      · show InsT u th ra (perB u x (22 : Int32)) (insB (mk u th (u.2.2.2.2.1 + (4 : Int32)) br ba r ra) x (22 : Int32) (fX3_imm x))
        rw [perB_22, insB_22]
        exact Or.inl (ins_priv (n := 22) (by omega) (by omega) hr h7 hb hn hc)
      · show InsT u th ra (perB u x (23 : Int32)) (insB (mk u th (u.2.2.2.2.1 + (4 : Int32)) br ba r ra) x (23 : Int32) (fX3_imm x))
        rw [perB_23, insB_23]
        exact Or.inl (ins_priv (n := 23) (by omega) (by omega) hr h7 hb hn hc)
      · show InsT u th ra (perB u x (24 : Int32)) (insB (mk u th (u.2.2.2.2.1 + (4 : Int32)) br ba r ra) x (24 : Int32) (fX3_imm x))
        rw [perB_24, insB_24]
        exact Or.inl (ins_priv (n := 24) (by omega) (by omega) hr h7 hb hn hc)
      · show InsT u th ra (perB u x (25 : Int32)) (insB (mk u th (u.2.2.2.2.1 + (4 : Int32)) br ba r ra) x (25 : Int32) (fX3_imm x))
        rw [perB_25, insB_25]
        exact Or.inl (ins_priv (n := 25) (by omega) (by omega) hr h7 hb hn hc)
      · show InsT u th ra (perB u x (26 : Int32)) (insB (mk u th (u.2.2.2.2.1 + (4 : Int32)) br ba r ra) x (26 : Int32) (fX3_imm x))
        rw [perB_26, insB_26]
        exact Or.inl (ins_priv (n := 26) (by omega) (by omega) hr h7 hb hn hc)
      · show InsT u th ra (perB u x (27 : Int32)) (insB (mk u th (u.2.2.2.2.1 + (4 : Int32)) br ba r ra) x (27 : Int32) (fX3_imm x))
        rw [perB_27, insB_27]
        exact ins_rest hc
    · rw [perB_28 x h hn2, insB_28 _ x _ h hn2]
      exact Or.inl (ins_code 13 (by decide) (by decide) 0)
  · rw [if_neg q]
    exact Or.inl (ins_sub (ins_fail L q) (if_neg (look_no L q)))
theorem dec_z {x : Int32} (h0 : (0 : Int32) ≤ x) (h1 : ¬ x = (0 : Int32)) : (x - (1 : Int32)) ≤ (0 : Int32) ↔ x - (1 : Int32) = (0 : Int32) := by
  obtain ⟨j, hj, rfl⟩ := nI_of (x := x) (Int32.not_lt.mpr h0)
  have hj0 : j ≠ 0 := fun q => h1 (by rw [q]; rfl)
  have e : nI j - (1 : Int32) = nI (j - 1) := by
    rw [show nI j = nI (j - 1) + (1 : Int32) from by rw [nI_1, Nat.sub_add_cancel (by omega)]]
    exact Int32.add_sub_cancel _ _
  rw [e]
  by_cases q : j - 1 = 0
  · rw [q]; decide
  · exact ⟨fun z => absurd z (kn_nle (a := 0) (b := j - 1) (by omega) (by omega)), fun z => absurd z (kn_ne (a := j - 1) (b := 0) (by omega) (by omega) (by omega))⟩
theorem tick_rel (h : (0 : Int32) ≤ u.2.2.1 15) : fX4_tick (mk u th nx br ba fo ra) = mk (ts2 u (fX2_tick u.2.2.1)) th nx br ba fo ra := by
  by_cases q1 : ((u.2.2.1 14) &&& (1 : Int32)) = (0 : Int32)
  · rw [show fX2_tick u.2.2.1 = u.2.2.1 from if_pos q1]; exact if_pos q1
  · by_cases q2 : (u.2.2.1 15) = (0 : Int32)
    · rw [show fX2_tick u.2.2.1 = u.2.2.1 from (if_neg q1).trans (if_pos q2)]; exact (if_neg q1).trans (if_pos q2)
    · by_cases q3 : ((u.2.2.1 15) - (1 : Int32)) = (0 : Int32)
      · have q3' := (dec_z h q2).mpr q3
        by_cases q4 : ((u.2.2.1 14) &&& (2 : Int32)) = (0 : Int32)
        · rw [show fX2_tick u.2.2.1 = (upd (upd u.2.2.1 15 ((u.2.2.1 15) - (1 : Int32))) 3 ((u.2.2.1 3) ||| (16 : Int32))) from (if_neg q1).trans ((if_neg q2).trans ((if_pos q3).trans (if_pos q4)))]
          refine (if_neg q1).trans ((if_neg q2).trans ((if_pos q3').trans ((if_pos q4).trans (congrArg (fun f => mk (ts2 u f) th nx br ba fo ra) ?_))))
          show upd (upd (upd u.2.2.1 15 ((u.2.2.1 15) - (1 : Int32))) 3 ((u.2.2.1 3) ||| (16 : Int32))) 15 (0 : Int32) = _
          rw [q3, upd_comm _ (i := 3) (j := 15) (by decide), upd_same]
        · rw [show fX2_tick u.2.2.1 = (upd (upd (upd u.2.2.1 15 ((u.2.2.1 15) - (1 : Int32))) 3 ((u.2.2.1 3) ||| (16 : Int32))) 15 ((u.2.2.1 14) &&& (65532 : Int32))) from (if_neg q1).trans ((if_neg q2).trans ((if_pos q3).trans (if_neg q4)))]
          exact (if_neg q1).trans ((if_neg q2).trans ((if_pos q3').trans (if_neg q4)))
      · have q3' := fun z => q3 ((dec_z h q2).mp z)
        rw [show fX2_tick u.2.2.1 = (upd u.2.2.1 15 ((u.2.2.1 15) - (1 : Int32))) from (if_neg q1).trans ((if_neg q2).trans (if_neg q3))]
        exact (if_neg q1).trans ((if_neg q2).trans (if_neg q3'))
end Rel13
