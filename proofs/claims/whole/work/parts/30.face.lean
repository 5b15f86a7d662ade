section Face
variable {u : TM} {th nx br ba fo ra : Int32}
theorem rem4 (a : Int32) (h0 : ¬ a < (0 : Int32)) (h1 : a ≤ (2047 : Int32)) : a - a / (4 : Int32) * (4 : Int32) = a &&& (3 : Int32) := by
  obtain ⟨j, hj, rfl⟩ := nI_of2 (M := (2047 : Int32)) (n := 2047) (by decide) h0 h1
  rw [show (4 : Int32) = nI 4 from rfl, pk_div (by omega) (by omega) (by omega), pk_mul, show nI j &&& (3 : Int32) = nI (j % 4) from pk_andN (by omega) 2 (by decide)]
  have e : nI j = nI (j % 4) + nI (j / 4 * 4) := by rw [nI_add]; congr 1; omega
  rw [e, Int32.add_sub_cancel]
theorem mem_rng {a : Int32} (h : ¬ fX3_isInMemory a = (0 : Int32)) : a &&& (3 : Int32) = (0 : Int32) := by
  unfold fX3_isInMemory at h
  by_cases q : a &&& (3 : Int32) = (0 : Int32)
  · exact q
  · rw [if_neg q] at h; exact absurd rfl h
theorem out_iff (a n : Int32) : fX4_outside a (0 : Int32) n = (0 : Int32) ↔ (¬ a < (0 : Int32) ∧ a ≤ n) := by
  unfold fX4_outside
  by_cases h0 : a < (0 : Int32)
  · rw [if_pos h0]; exact ⟨fun z => absurd z (by decide), fun z => absurd h0 z.1⟩
  · rw [if_neg h0]
    by_cases h1 : a ≤ n
    · rw [if_pos h1]; exact ⟨fun _ => ⟨h0, h1⟩, fun _ => rfl⟩
    · rw [if_neg h1]; exact ⟨fun z => absurd z (by decide), fun z => absurd z.2 h1⟩
theorem word_iff (a : Int32) : fX4_isWord a = (0 : Int32) ↔ fX3_isInMemory a = (0 : Int32) := by
  unfold fX4_isWord
  by_cases ho : fX4_outside a (0 : Int32) (2047 : Int32) = (0 : Int32)
  · obtain ⟨h0, h1⟩ := (out_iff a _).mp ho
    rw [if_pos ho, rem4 a h0 h1]
    by_cases h3 : a &&& (3 : Int32) = (0 : Int32)
    · rw [if_pos h3]
      exact ⟨fun z => absurd z (by decide), fun z => absurd z ((out_mem a h3).mp ho)⟩
    · rw [if_neg h3]
      refine ⟨fun _ => ?_, fun _ => rfl⟩
      unfold fX3_isInMemory
      rw [if_neg h3]
  · rw [if_neg ho]
    refine ⟨fun _ => ?_, fun _ => rfl⟩
    by_cases q : fX3_isInMemory a = (0 : Int32)
    · exact q
    · exact absurd ((out_mem a (mem_rng q)).mpr q) ho
theorem load_ok {a : Int32} (h : ¬ fX3_isInMemory a = (0 : Int32)) (x : Int32) : fX4_load (mk u th nx br ba fo ra) a x = mk (fX3_load u a x) (0 : Int32) nx br ba fo ra := by
  have z := (out_mem a (mem_rng h)).mpr h
  unfold fX4_load
  rw [if_neg (fun q => h ((word_iff a).mp q)), mem_div z]
  rfl
theorem load_no {a : Int32} (h : fX3_isInMemory a = (0 : Int32)) (x : Int32) : fX4_load (mk u th nx br ba fo ra) a x = mk u (1 : Int32) nx br ba fo ra := if_pos ((word_iff a).mpr h)
theorem word_ok {a : Int32} (h : ¬ fX3_isInMemory a = (0 : Int32)) : fX4_word (mk u th nx br ba fo ra) a = (fX3_word u a, mk u (0 : Int32) nx br ba fo ra) := by
  have z := (out_mem a (mem_rng h)).mpr h
  unfold fX4_word
  rw [if_neg (fun q => h ((word_iff a).mp q)), mem_div z]
  rfl
theorem word_no {a : Int32} (h : fX3_isInMemory a = (0 : Int32)) : fX4_word (mk u th nx br ba fo ra) a = ((0 : Int32), mk u (1 : Int32) nx br ba fo ra) := if_pos ((word_iff a).mpr h)
theorem ln_or (x b : Int32) : (x &&& (b ^^^ (-1 : Int32))) ||| b = x ||| b := by
  refine b_ext (fun i hi => ?_)
  simp only [b_or, b_and, b_xor]
  rw [b_m1 i hi]
  cases bt x i <;> cases bt b i <;> rfl
theorem line_ok {a : Int32} (h0 : ¬ a < (0 : Int32)) (h1 : a ≤ (3 : Int32)) (x : Int32) : fX4_line (mk u th nx br ba fo ra) a x = mk (fX3_line u a x) (0 : Int32) nx br ba fo ra := by
  unfold fX4_line fX3_line fX2_setLine
  rw [if_pos ((out_iff a _).mpr ⟨h0, h1⟩)]
  by_cases q : x = (0 : Int32)
  · rw [if_pos q, if_pos q, Int32.or_zero]; rfl
  · rw [if_neg q, if_neg q, ln_or]; rfl
theorem line_no {a : Int32} (h : ¬ (¬ a < (0 : Int32) ∧ a ≤ (3 : Int32))) (x : Int32) : fX4_line (mk u th nx br ba fo ra) a x = mk u (1 : Int32) nx br ba fo ra := if_neg (fun q => h ((out_iff a _).mp q))
theorem filled_rel (a : Int32) : fX4_filled (mk u th nx br ba fo ra) a = mk (fX3_filled u a) (0 : Int32) nx br ba fo ra := rfl
theorem jump_rel (a : Int32) : fX4_jump (mk u th nx br ba fo ra) a = mk (fX3_jump u a) (0 : Int32) nx br ba fo ra := rfl
theorem state_rel (I : Inv u) : fX4_state (mk u th nx br ba fo ra) = (fX3_state u, mk u (0 : Int32) nx br ba fo ra) := by
  have s : (mk u th nx br ba fo ra).2.2.2.2.2.2.2.2.2.2.2.2.2.2.1 = (if u.2.2.2.2.2.2.2.1 = (2 : Int32) then (1 : Int32) else (0 : Int32)) := rfl
  have r : (mk u th nx br ba fo ra).2.2.2.2.2.2.2.2.2.2.2.2.2.1 = (if u.2.2.2.2.2.2.2.1 = (1 : Int32) then (1 : Int32) else (0 : Int32)) := rfl
  have g : ms0 (mk u th nx br ba fo ra) (0 : Int32) = mk u (0 : Int32) nx br ba fo ra := rfl
  unfold fX4_state fX3_state
  rw [s, r, g]
  rcases I.2.2.2 with c | c | c
  · rw [c, if_neg (show ¬ (0 : Int32) = 2 by decide), if_neg (show ¬ (0 : Int32) = 1 by decide), if_pos rfl, if_pos rfl]
  · rw [c, if_neg (show ¬ (1 : Int32) = 2 by decide), if_pos (show (1 : Int32) = 1 from rfl), if_pos rfl, if_neg (show ¬ (1 : Int32) = 0 by decide)]
  · rw [c, if_pos (show (2 : Int32) = 2 from rfl), if_neg (show ¬ (1 : Int32) = 0 by decide)]
theorem reg_ok {a : Int32} (h0 : ¬ a < (0 : Int32)) (h1 : a ≤ (9 : Int32)) : fX4_register (mk u th nx br ba fo ra) a = (fX3_register u a, mk u (0 : Int32) nx br ba fo ra) := by
  obtain ⟨j, hj, rfl⟩ := nI_of2 (M := (9 : Int32)) (n := 9) (by decide) h0 h1
  have g : ms0 (mk u th nx br ba fo ra) (0 : Int32) = mk u (0 : Int32) nx br ba fo ra := rfl
  have L9 : (mk u th nx br ba fo ra).2.2.2.2.2.2.2.2.2.2.2.2.1 = u.2.2.2.2.2.1 := rfl
  refine (if_pos ((out_iff _ _).mpr ⟨h0, h1⟩)).trans ?_
  rw [g, L9]
  rcases Nat.lt_or_ge j 8 with q | q
  · have e : fX3_register u (nI j) = u.2.1 (ix (nI j)) := (if_neg (kn_ne (a := j) (b := 8) (by omega) (by omega) (by omega))).trans (if_neg (kn_ne (a := j) (b := 9) (by omega) (by omega) (by omega)))
    rw [e]
    exact if_neg (kn_nle (a := j) (b := 8) (by omega) (by omega))
  · rcases (show j = 8 ∨ j = 9 by omega) with rfl | rfl
    · have e : fX3_register u (nI 8) = u.2.2.2.2.1 := if_pos rfl
      rw [e]
      exact (if_pos (by decide)).trans (if_pos rfl)
    · have e : fX3_register u (nI 9) = if u.2.2.2.2.2.1 = (0 : Int32) then (0 : Int32) else (1 : Int32) := (if_neg (by decide)).trans (if_pos rfl)
      rw [e]
      refine (if_pos (by decide)).trans ((if_neg (by decide)).trans ?_)
      by_cases k : u.2.2.2.2.2.1 = (0 : Int32)
      · rw [if_pos k, if_pos k]
      · rw [if_neg k, if_neg k]
theorem reg_no {a : Int32} (h : ¬ (¬ a < (0 : Int32) ∧ a ≤ (9 : Int32))) : fX4_register (mk u th nx br ba fo ra) a = ((0 : Int32), mk u (1 : Int32) nx br ba fo ra) := if_neg (fun q => h ((out_iff a _).mp q))
theorem ctl_ok {a : Int32} (h0 : ¬ a < (0 : Int32)) (h1 : a ≤ (17 : Int32)) : fX4_control (mk u th nx br ba fo ra) a = (fX3_control u a, mk u (0 : Int32) nx br ba fo ra) := if_pos ((out_iff a _).mpr ⟨h0, h1⟩)
theorem ctl_no {a : Int32} (h : ¬ (¬ a < (0 : Int32) ∧ a ≤ (17 : Int32))) : fX4_control (mk u th nx br ba fo ra) a = ((0 : Int32), mk u (1 : Int32) nx br ba fo ra) := if_neg (fun q => h ((out_iff a _).mp q))
theorem ent_no {a b : Int32} (h : ¬ ((¬ a < (0 : Int32) ∧ a ≤ (3 : Int32)) ∧ (¬ b < (0 : Int32) ∧ b ≤ (5 : Int32)))) : fX4_entry (mk u th nx br ba fo ra) a b = ((0 : Int32), mk u (1 : Int32) nx br ba fo ra) := by
  by_cases q : fX4_outside a (0 : Int32) (3 : Int32) = (0 : Int32)
  · exact (if_pos q).trans (if_neg (fun r => h ⟨(out_iff a _).mp q, (out_iff b _).mp r⟩))
  · exact if_neg q
theorem ent_ok (I : Inv u) {a b : Int32} (h0 : ¬ a < (0 : Int32)) (h1 : a ≤ (3 : Int32)) (h2 : ¬ b < (0 : Int32)) (h3 : b ≤ (5 : Int32)) : fX4_entry (mk u th nx br ba fo ra) a b = (fX3_entry u a b, mk u (0 : Int32) nx br ba fo ra) := by
  obtain ⟨e, he, rfl⟩ := nI_of2 (M := (3 : Int32)) (n := 3) (by decide) h0 h1
  obtain ⟨j, hj, rfl⟩ := nI_of2 (M := (5 : Int32)) (n := 5) (by decide) h2 h3
  have ix0 : ix (nI e) = e := ix_nI (by omega)
  have g : ms0 (mk u th nx br ba fo ra) (0 : Int32) = mk u (0 : Int32) nx br ba fo ra := rfl
  have gg : fX3_entry u (nI e) (nI j) = u.2.2.2.1 e j := by
    show u.2.2.2.1 (ix (nI e)) (ix (nI j)) = _
    rw [ix0, ix_nI (by omega)]
  rw [gg]
  have R := I.2.1 e (by omega)
  have t0 : (mk u th nx br ba fo ra).2.2.2.2.1 e = u.2.2.2.1 e 0 := rfl
  have t1 : (mk u th nx br ba fo ra).2.2.2.2.2.1 e = u.2.2.2.1 e 3 := rfl
  have t2 : (mk u th nx br ba fo ra).2.2.2.2.2.2.1 e = u.2.2.2.1 e 1 := rfl
  have t3 : (mk u th nx br ba fo ra).2.2.2.2.2.2.2.1 e = u.2.2.2.1 e 2 := rfl
  refine (if_pos ((out_iff _ _).mpr ⟨h0, h1⟩)).trans ((if_pos ((out_iff _ _).mpr ⟨h2, h3⟩)).trans ?_)
  rw [ix0, g, t0, t1, t2, t3]
  rcases (show j = 0 ∨ j = 1 ∨ j = 2 ∨ j = 3 ∨ j = 4 ∨ j = 5 by omega) with rfl | rfl | rfl | rfl | rfl | rfl
  · refine (if_pos (by decide)).trans ((if_pos rfl).trans ?_)
    rcases R.1 with c | c
    · rw [c]; rfl
    · rw [c]; rfl
  · exact (if_pos (by decide)).trans ((if_neg (by decide)).trans (if_pos rfl))
  · exact (if_pos (by decide)).trans ((if_neg (by decide)).trans ((if_neg (by decide)).trans (if_pos rfl)))
  · refine (if_pos (by decide)).trans ((if_neg (by decide)).trans ((if_neg (by decide)).trans ((if_neg (by decide)).trans ?_)))
    rcases R.2.1 with c | c
    · rw [c]; rfl
    · rw [c]; rfl
  · refine (if_neg (by decide)).trans ?_
    rw [show (((2 : Int32) * nI e) + nI 4) - (4 : Int32) = (2 : Int32) * nI e from Int32.add_sub_cancel _ _, half_ix0 (by omega)]
    exact congrArg (fun f => (f, mk u (0 : Int32) nx br ba fo ra)) (hal_at _ e 0 (by omega))
  · refine (if_neg (by decide)).trans ?_
    rw [show (((2 : Int32) * nI e) + nI 5) - (4 : Int32) = ((2 : Int32) * nI e) + (1 : Int32) from by rw [show nI 5 = (1 : Int32) + (4 : Int32) from rfl, ← Int32.add_assoc]; exact Int32.add_sub_cancel _ _, half_ix1 (by omega)]
    exact congrArg (fun f => (f, mk u (0 : Int32) nx br ba fo ra)) (hal_at _ e 1 (by omega))
/-! what stays true -/
theorem Inv_loadw (I : Inv u) (a x : Int32) : Inv (fX3_load u a x) := I
theorem Inv_line {a : Int32} (I : Inv u) (h0 : ¬ a < (0 : Int32)) (h1 : a ≤ (3 : Int32)) (x : Int32) : Inv (fX3_line u a x) := by
  obtain ⟨j, hj, rfl⟩ := nI_of2 (M := (3 : Int32)) (n := 3) (by decide) h0 h1
  exact Inv_v I (InvV_line I.1 (vi_rng (a := (3 : Int32)) (n := 4) (by decide) h0 (Int32.not_lt.mpr h1)) x)
theorem Inv_filled (I : Inv u) (a : Int32) : Inv (fX3_filled u a) := Inv_n I (nf_in a)
theorem Inv_jump (I : Inv u) (a : Int32) : Inv (fX3_jump u a) := Inv_c (Inv_p I a) (Or.inl rfl)
/-- a new object -/
def u0 : TM := ((fun _ => (0 : Int32)), (fun _ => (0 : Int32)), upd (fun _ => (0 : Int32)) 0 (8 : Int32), (fun _ _ => (0 : Int32)), (0 : Int32), (0 : Int32), (0 : Int32), (0 : Int32), (0 : Int32))
theorem Inv_u0 : Inv u0 := by
  refine ⟨⟨Or.inl (by decide), by decide, Or.inl (by decide), by decide, by decide, by decide⟩, fun e _ => ⟨Or.inl rfl, Or.inl rfl, show (0 : Int32) &&& (16 : Int32) = 0 from by decide, show (0 : Int32) &&& (16 : Int32) = 0 from by decide⟩, by unfold vp_in; decide, Or.inl rfl⟩
end Face
