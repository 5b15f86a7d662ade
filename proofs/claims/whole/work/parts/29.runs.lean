/-! ### runs -/
theorem mm_iff (a : Int32) {i : Nat} (h : i < 2000) : (if (2000 : Int32) < a then (2000 : Int32) else a) ≤ nI i ↔ a ≤ nI i := by
  by_cases q : (2000 : Int32) < a
  · rw [if_pos q]
    rw [Int32.lt_iff_toInt_lt] at q
    rw [Int32.le_iff_toInt_le, Int32.le_iff_toInt_le, nI_toInt (by omega)]
    rw [show (2000 : Int32).toInt = 2000 from by decide] at q ⊢
    constructor <;> intro z <;> omega
  · rw [if_neg q]
theorem run_lp_rel (a1 th : Int32) : ∀ (n i : Nat) (u : TM) (nx br ba fo : Int32), i + n = 2000 → Inv u →
    (fX4_run_lp a1 n i (mk u th nx br ba fo u.2.2.2.2.2.2.2.2)).1 = (fX3_run_lp a1 n i u).1 ∧ StpR th (fX3_run_lp a1 n i u).2 (fX4_run_lp a1 n i (mk u th nx br ba fo u.2.2.2.2.2.2.2.2)).2 ∧ Inv (fX3_run_lp a1 n i u).2
  | 0, i, u, nx, br, ba, fo, _, I => by
    have e : fX4_run_lp a1 0 i (mk u th nx br ba fo u.2.2.2.2.2.2.2.2) = (nI i, mk u th nx br ba fo u.2.2.2.2.2.2.2.2) := by
      rw [fX4_run_lp]
      by_cases q : a1 ≤ nI i
      · exact if_pos q
      · exact if_neg q
    rw [e, fX3_run_lp]
    exact ⟨rfl, ⟨nx, br, ba, fo, rfl⟩, I⟩
  | n + 1, i, u, nx, br, ba, fo, hi, I => by
    rw [fX4_run_lp, fX3_run_lp]
    by_cases q : a1 ≤ nI i
    · rw [if_pos q, if_pos ((mm_iff a1 (by omega)).mpr q)]
      exact ⟨rfl, ⟨nx, br, ba, fo, rfl⟩, I⟩
    · rw [if_neg q, if_neg (fun z => q ((mm_iff a1 (by omega)).mp z))]
      by_cases c : u.2.2.2.2.2.2.2.1 = (2 : Int32)
      · rw [if_pos c, if_neg (show ¬ (mk u th nx br ba fo u.2.2.2.2.2.2.2.2).2.2.2.2.2.2.2.2.2.2.2.2.2.2.1 = (0 : Int32) from fun z => absurd ((show (mk u th nx br ba fo u.2.2.2.2.2.2.2.2).2.2.2.2.2.2.2.2.2.2.2.2.2.2.1 = (1 : Int32) from if_pos c).symm.trans z) (by decide))]
        exact ⟨rfl, ⟨nx, br, ba, fo, rfl⟩, I⟩
      · rw [if_neg c, if_pos (show (mk u th nx br ba fo u.2.2.2.2.2.2.2.2).2.2.2.2.2.2.2.2.2.2.2.2.2.2.1 = (0 : Int32) from if_neg c)]
        by_cases t : u.2.2.2.2.2.2.2.2 = (0 : Int32)
        · rw [if_pos t, if_pos (show (mk u th nx br ba fo u.2.2.2.2.2.2.2.2).2.2.2.2.2.2.2.2.2.2.2.2.2.2.2.2.2.2 = (0 : Int32) from t), t]
          obtain ⟨nx', br', ba', fo', e⟩ := step_rel (th := th) (nx := nx) (br := br) (ba := ba) (fo := fo) I c t
          rw [e]
          exact run_lp_rel a1 th n (i + 1) (fX3_step u) nx' br' ba' fo' (by omega) (Inv_step I)
        · rw [if_neg t, if_neg (show ¬ (mk u th nx br ba fo u.2.2.2.2.2.2.2.2).2.2.2.2.2.2.2.2.2.2.2.2.2.2.2.2.2.2 = (0 : Int32) from t)]
          exact ⟨rfl, ⟨nx, br, ba, fo, rfl⟩, I⟩
theorem Inv_it : ∀ (j : Nat) (u : TM), Inv u → Inv (itT j u)
  | 0, _, I => I
  | n + 1, u, I => Inv_it n (fX3_step u) (Inv_step I)
theorem itTn_I {u : TM} (I : Inv u) : itTn u := fun j _ => (Inv_it j u I).2.2.1
theorem itM_rel (th : Int32) : ∀ (j : Nat) (u : TM) (nx br ba fo : Int32), Inv u → (∀ i, i < j → (itM i (mk u th nx br ba fo u.2.2.2.2.2.2.2.2)).2.2.2.2.2.2.2.2.2.2.2.2.2.2.1 = (0 : Int32) ∧ (itM i (mk u th nx br ba fo u.2.2.2.2.2.2.2.2)).2.2.2.2.2.2.2.2.2.2.2.2.2.2.2.2.2.2 = (0 : Int32)) → StpR th (itT j u) (itM j (mk u th nx br ba fo u.2.2.2.2.2.2.2.2))
  | 0, u, nx, br, ba, fo, _, _ => ⟨nx, br, ba, fo, rfl⟩
  | n + 1, u, nx, br, ba, fo, I, h => by
    obtain ⟨h1, h2⟩ := h 0 (by omega)
    have t : u.2.2.2.2.2.2.2.2 = (0 : Int32) := h2
    have c : ¬ u.2.2.2.2.2.2.2.1 = (2 : Int32) := fun z => absurd ((show (mk u th nx br ba fo u.2.2.2.2.2.2.2.2).2.2.2.2.2.2.2.2.2.2.2.2.2.2.1 = (1 : Int32) from if_pos z).symm.trans h1) (by decide)
    obtain ⟨nx', br', ba', fo', e⟩ := step_rel (th := th) (nx := nx) (br := br) (ba := ba) (fo := fo) I c t
    have e' : fX4_step (mk u th nx br ba fo u.2.2.2.2.2.2.2.2) = mk (fX3_step u) th nx' br' ba' fo' (fX3_step u).2.2.2.2.2.2.2.2 := by rw [t]; exact e
    have H : ∀ i, i < n → (itM i (mk (fX3_step u) th nx' br' ba' fo' (fX3_step u).2.2.2.2.2.2.2.2)).2.2.2.2.2.2.2.2.2.2.2.2.2.2.1 = (0 : Int32) ∧ (itM i (mk (fX3_step u) th nx' br' ba' fo' (fX3_step u).2.2.2.2.2.2.2.2)).2.2.2.2.2.2.2.2.2.2.2.2.2.2.2.2.2.2 = (0 : Int32) := by
      intro i hi
      have := h (i + 1) (by omega)
      rw [itM, e'] at this
      exact this
    have R := itM_rel th n (fX3_step u) nx' br' ba' fo' (Inv_step I) H
    rw [itM, e', itT]
    exact R
theorem itMn_I {u : TM} {th nx br ba fo : Int32} (I : Inv u) : itMn (mk u th nx br ba fo u.2.2.2.2.2.2.2.2) := by
  intro j hj
  obtain ⟨nx', br', ba', fo', e⟩ := itM_rel th j u nx br ba fo I hj
  rw [e]
  exact (Inv_it j u I).2.2.1
theorem run_rel {u : TM} {th nx br ba fo ra : Int32} (I : Inv u) (a1 : Int32) : (fX4_run (mk u th nx br ba fo ra) a1).1 = (fX3_run u a1).1 ∧ StpR (0 : Int32) (fX3_run u a1).2 (fX4_run (mk u th nx br ba fo ra) a1).2 ∧ Inv (fX3_run u a1).2 := run_lp_rel a1 (0 : Int32) 2000 0 (ts8 u (0 : Int32)) nx br ba fo rfl I
