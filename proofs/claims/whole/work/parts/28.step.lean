section Stp
variable {u : TM} {th nx br ba fo : Int32}
/-- what a step leaves beside the class's state -/
def StpR (th : Int32) (u' : TM) (o : MD) : Prop := ∃ nx br ba fo, o = mk u' th nx br ba fo u'.2.2.2.2.2.2.2.2
theorem raise_tr (X : TM) (c : Int32) : (fX3_raise X c).2.2.2.2.2.2.2.2 = (1 : Int32) := by
  unfold fX3_raise
  by_cases q : c = (63 : Int32)
  · rw [if_pos q]; rfl
  · rw [if_neg q]; rfl
theorem raise_cd (X : TM) (c : Int32) : (fX3_raise X c).2.2.2.2.2.2.2.1 = X.2.2.2.2.2.2.2.1 := by
  unfold fX3_raise
  by_cases q : c = (63 : Int32)
  · rw [if_pos q]; rfl
  · rw [if_neg q]; rfl
theorem bring_3 (v : Nat → Int32) (br ba : Int32) : (bring v br ba) 3 = v 3 := by
  unfold bring
  by_cases q : br ≤ (0 : Int32)
  · rw [if_pos q]
  · rw [if_neg q]
    by_cases r : br ≤ (1 : Int32)
    · rw [if_pos r]; rfl
    · rw [if_neg r]; rfl
theorem enter_15 (v : Nat → Int32) (c p br ba : Int32) : (fX2_enter (bring v br ba) c p) 15 = v 15 := by
  show (bring v br ba) 15 = v 15
  unfold bring
  by_cases q : br ≤ (0 : Int32)
  · rw [if_pos q]
  · rw [if_neg q]
    by_cases r : br ≤ (1 : Int32)
    · rw [if_pos r]; rfl
    · rw [if_neg r]; rfl
theorem raise_15 (X : TM) (c : Int32) : (fX3_raise X c).2.2.1 15 = X.2.2.1 15 := by
  unfold fX3_raise
  by_cases q : c = (63 : Int32)
  · rw [if_pos q]; rfl
  · rw [if_neg q]; rfl
theorem bring_15 (v : Nat → Int32) (br ba : Int32) : (bring v br ba) 15 = v 15 := by
  unfold bring
  by_cases q : br ≤ (0 : Int32)
  · rw [if_pos q]
  · rw [if_neg q]
    by_cases r : br ≤ (1 : Int32)
    · rw [if_pos r]; rfl
    · rw [if_neg r]; rfl
/-- an exception and the tick behind it -/
theorem tick_raise (I : Inv u) (hc : u.2.2.2.2.2.2.2.1 = (0 : Int32)) (c ra : Int32) : StpR th (ts2 (fX3_raise (ts2 u (bring u.2.2.1 br ba)) c) (fX2_tick (fX3_raise (ts2 u (bring u.2.2.1 br ba)) c).2.2.1)) (fX4_tick (fX4_enter (ms18 (ms14 (mk u th nx br ba fo ra) (0 : Int32)) (1 : Int32)) c)) := by
  rw [ms14_0 (X := u) (by rw [hc]; decide), show ms18 (mk u th nx br ba fo ra) (1 : Int32) = mk u th nx br ba fo (1 : Int32) from rfl, enter_rel I.1.2.2.2.1, tick_rel (by rw [raise_15]; show (0 : Int32) ≤ bring u.2.2.1 br ba 15; rw [bring_15]; exact I.1.2.2.2.2.2)]
  refine ⟨nx, br, ba, fo, ?_⟩
  rw [show (ts2 (fX3_raise (ts2 u (bring u.2.2.1 br ba)) c) (fX2_tick (fX3_raise (ts2 u (bring u.2.2.1 br ba)) c).2.2.1)).2.2.2.2.2.2.2.2 = (1 : Int32) from raise_tr _ c]
theorem perf_rel (I : Inv u) (hc : u.2.2.2.2.2.2.2.1 = (0 : Int32)) (ht : u.2.2.2.2.2.2.2.2 = (0 : Int32)) {o : Int32 × MD} (h : InsT u th (0 : Int32) (fX3_perform u) o) :
    StpR th (if (fX3_perform u).2.2.2.2.2.2.2.1 = (2 : Int32) then (fX3_perform u) else (ts2 (fX3_perform u) (fX2_tick (fX3_perform u).2.2.1))) (if o.1 = (-2 : Int32) then (ms14 o.2 (1 : Int32)) else if o.1 = (-1 : Int32) then (fX4_tick (ms9 (ms18 (ms14 o.2 (0 : Int32)) (0 : Int32)) o.2.2.2.2.2.2.2.2.2.2.2.1)) else (fX4_tick (fX4_enter (ms18 (ms14 o.2 (0 : Int32)) (1 : Int32)) o.1))) := by
  have P := Inv_perform I
  generalize fX3_perform u = u' at h P ⊢
  rcases h with (⟨br, ba, fo, rfl, e⟩ | ⟨nx, br, ba, fo, rfl, rfl⟩ | ⟨c, nx, br, ba, fo, h1, h2, rfl, rfl⟩) | ⟨br, ba, fo, rfl, rfl⟩
  · have c0 : u'.2.2.2.2.2.2.2.1 = (0 : Int32) := (congrArg Prod.fst e).trans hc
    have t0 : u'.2.2.2.2.2.2.2.2 = (0 : Int32) := (congrArg Prod.snd e).trans ht
    rw [if_neg (show ¬ u'.2.2.2.2.2.2.2.1 = (2 : Int32) by rw [c0]; decide), if_neg (show ¬ (-1 : Int32) = (-2 : Int32) by decide), if_pos rfl]
    rw [show ms14 ((-1 : Int32), mk (ts4 u' u.2.2.2.2.1) th u'.2.2.2.2.1 br ba fo (0 : Int32)).2 (0 : Int32) = mk (ts4 u' u.2.2.2.2.1) th u'.2.2.2.2.1 br ba fo (0 : Int32) from ms14_0 (X := ts4 u' u.2.2.2.2.1) (by show ¬ u'.2.2.2.2.2.2.2.1 = (2 : Int32); rw [c0]; decide)]
    rw [show ms9 (ms18 (mk (ts4 u' u.2.2.2.2.1) th u'.2.2.2.2.1 br ba fo (0 : Int32)) (0 : Int32)) ((-1 : Int32), mk (ts4 u' u.2.2.2.2.1) th u'.2.2.2.2.1 br ba fo (0 : Int32)).2.2.2.2.2.2.2.2.2.2.2.1 = mk u' th u'.2.2.2.2.1 br ba fo (0 : Int32) from rfl, tick_rel P.1.2.2.2.2.2]
    exact ⟨_, br, ba, fo, by rw [show (ts2 u' (fX2_tick u'.2.2.1)).2.2.2.2.2.2.2.2 = (0 : Int32) from t0]⟩
  · rw [if_pos (show (ts7 u (2 : Int32)).2.2.2.2.2.2.2.1 = (2 : Int32) from rfl), if_pos rfl]
    rw [show ms14 ((-2 : Int32), mk u th nx br ba fo (0 : Int32)).2 (1 : Int32) = mk (ts7 u (2 : Int32)) th nx br ba fo (0 : Int32) from ms14_1 hc]
    exact ⟨nx, br, ba, fo, by rw [show (ts7 u (2 : Int32)).2.2.2.2.2.2.2.2 = (0 : Int32) from ht]⟩
  · rw [if_neg (show ¬ (fX3_raise (ts2 u (bring u.2.2.1 br ba)) c).2.2.2.2.2.2.2.1 = (2 : Int32) by rw [raise_cd]; show ¬ u.2.2.2.2.2.2.2.1 = (2 : Int32); rw [hc]; decide), if_neg h2, if_neg h1]
    exact tick_raise I hc c (0 : Int32)
  · rw [if_neg (show ¬ (ts4 (ts7 u (1 : Int32)) (u.2.2.2.2.1 + (4 : Int32))).2.2.2.2.2.2.2.1 = (2 : Int32) by show ¬ (1 : Int32) = 2; decide), if_neg (show ¬ (-1 : Int32) = (-2 : Int32) by decide), if_pos rfl]
    rw [show ms14 ((-1 : Int32), mk (ts7 u (1 : Int32)) th (u.2.2.2.2.1 + (4 : Int32)) br ba fo (0 : Int32)).2 (0 : Int32) = mk (ts7 u (1 : Int32)) th (u.2.2.2.2.1 + (4 : Int32)) br ba fo (0 : Int32) from ms14_0 (X := ts7 u (1 : Int32)) (by show ¬ (1 : Int32) = (2 : Int32); decide)]
    rw [show ms9 (ms18 (mk (ts7 u (1 : Int32)) th (u.2.2.2.2.1 + (4 : Int32)) br ba fo (0 : Int32)) (0 : Int32)) ((-1 : Int32), mk (ts7 u (1 : Int32)) th (u.2.2.2.2.1 + (4 : Int32)) br ba fo (0 : Int32)).2.2.2.2.2.2.2.2.2.2.2.1 = mk (ts4 (ts7 u (1 : Int32)) (u.2.2.2.2.1 + (4 : Int32))) th (u.2.2.2.2.1 + (4 : Int32)) br ba fo (0 : Int32) from rfl, tick_rel P.1.2.2.2.2.2]
    exact ⟨_, br, ba, fo, by rw [show (ts2 (ts4 (ts7 u (1 : Int32)) (u.2.2.2.2.1 + (4 : Int32))) (fX2_tick (ts4 (ts7 u (1 : Int32)) (u.2.2.2.2.1 + (4 : Int32))).2.2.1)).2.2.2.2.2.2.2.2 = (0 : Int32) from ht]⟩
theorem ask_iff (v : Nat → Int32) : fX2_isAsked v = (0 : Int32) ↔ (((v 2) &&& (v 3)) &&& (31 : Int32)) = (0 : Int32) := by
  unfold fX2_isAsked
  by_cases q : (((v 2) &&& (v 3)) &&& (31 : Int32)) = (0 : Int32)
  · simp [q]
  · simp [q]
theorem en_iff (v : Nat → Int32) : fX2_isEnabled v = (0 : Int32) ↔ ((v 0) &&& (4 : Int32)) = (0 : Int32) := by
  unfold fX2_isEnabled
  by_cases q : ((v 0) &&& (4 : Int32)) = (0 : Int32)
  · simp [q]
  · simp [q]
theorem step_rel (I : Inv u) (hc : ¬ u.2.2.2.2.2.2.2.1 = (2 : Int32)) (ht : u.2.2.2.2.2.2.2.2 = (0 : Int32)) : StpR th (fX3_step u) (fX4_step (mk u th nx br ba fo (0 : Int32))) := by
  unfold fX3_step fX4_step
  have w14 : (mk u th nx br ba fo (0 : Int32)).2.2.2.1 = u.2.2.1 := rfl
  rw [w14]
  rcases I.2.2.2 with c0 | c1 | c2
  · have r0 : (mk u th nx br ba fo (0 : Int32)).2.2.2.2.2.2.2.2.2.2.2.2.2.1 = (0 : Int32) := if_neg (by rw [c0]; decide)
    have T := perf_rel I c0 ht (instr_rel (u := u) (th := th) (nx := nx) (br := br) (ba := ba) (fo := fo) (ra := 0) I.2.1 I.1.1 I.1.2.2.2.2.1 I.1.2.1 I.2.2.1 c0)
    rw [if_neg (show ¬ u.2.2.2.2.2.2.2.1 = (1 : Int32) by rw [c0]; decide)]
    by_cases qa : (((u.2.2.1 2) &&& (u.2.2.1 3)) &&& (31 : Int32)) = (0 : Int32)
    · rw [if_pos qa, if_pos r0]
      by_cases qe : fX2_isEnabled u.2.2.1 = (0 : Int32)
      · rw [if_pos qe]; exact T
      · rw [if_neg qe, if_pos ((ask_iff _).mpr qa)]; exact T
    · rw [if_neg qa, if_pos r0]
      by_cases qe : fX2_isEnabled u.2.2.1 = (0 : Int32)
      · rw [if_pos qe, if_pos ((en_iff _).mp qe)]; exact T
      · rw [if_neg qe, if_neg (fun z => qe ((en_iff _).mpr z)), if_neg (fun z => qa ((ask_iff _).mp z))]
        have e : (fX4_with (mk u th nx br ba fo (0 : Int32)) (0 : Int32) (0 : Int32) (0 : Int32)) = ((0 : Int32), mk u th nx (0 : Int32) (0 : Int32) fo (0 : Int32)) := rfl
        rw [e, if_neg (show ¬ ((0 : Int32), mk u th nx (0 : Int32) (0 : Int32) fo (0 : Int32)).1 = (-2 : Int32) by show ¬ (0 : Int32) = -2; decide), if_neg (show ¬ ((0 : Int32), mk u th nx (0 : Int32) (0 : Int32) fo (0 : Int32)).1 = (-1 : Int32) by show ¬ (0 : Int32) = -1; decide)]
        rw [if_neg (show ¬ (fX3_raise u (0 : Int32)).2.2.2.2.2.2.2.1 = (2 : Int32) by rw [raise_cd, c0]; decide)]
        have B : bring u.2.2.1 (0 : Int32) (0 : Int32) = u.2.2.1 := if_pos (by decide)
        have R := tick_raise (th := th) (nx := nx) (br := (0 : Int32)) (ba := (0 : Int32)) (fo := fo) I c0 (0 : Int32) (0 : Int32)
        rw [B] at R
        exact R
  · have r0 : ¬ (mk u th nx br ba fo (0 : Int32)).2.2.2.2.2.2.2.2.2.2.2.2.2.1 = (0 : Int32) := fun z => absurd ((show (mk u th nx br ba fo (0 : Int32)).2.2.2.2.2.2.2.2.2.2.2.2.2.1 = (1 : Int32) from if_pos c1).symm.trans z) (by decide)
    have s0 : (if u.2.2.2.2.2.2.2.1 = (2 : Int32) then (1 : Int32) else (0 : Int32)) = (0 : Int32) := if_neg hc
    have s1 : (if u.2.2.2.2.2.2.2.1 = (1 : Int32) then (1 : Int32) else (0 : Int32)) = (1 : Int32) := if_pos c1
    rw [if_pos c1]
    by_cases qa : (((u.2.2.1 2) &&& (u.2.2.1 3)) &&& (31 : Int32)) = (0 : Int32)
    · rw [if_pos qa, if_neg r0, if_pos ((ask_iff _).mpr qa)]
      have e : ms13 (mk u th nx br ba fo (0 : Int32)) (1 : Int32) = mk u th nx br ba fo (0 : Int32) := by
        show (th, u.1, u.2.1, u.2.2.1, (fun e => u.2.2.2.1 e 0), (fun e => u.2.2.2.1 e 3), (fun e => u.2.2.2.1 e 1), (fun e => u.2.2.2.1 e 2), hal u.2.2.2.1, u.2.2.2.2.1, nx, u.2.2.2.2.2.2.1, u.2.2.2.2.2.1, (1 : Int32), (if u.2.2.2.2.2.2.2.1 = (2 : Int32) then (1 : Int32) else (0 : Int32)), br, ba, fo, (0 : Int32)) = (th, u.1, u.2.1, u.2.2.1, (fun e => u.2.2.2.1 e 0), (fun e => u.2.2.2.1 e 3), (fun e => u.2.2.2.1 e 1), (fun e => u.2.2.2.1 e 2), hal u.2.2.2.1, u.2.2.2.2.1, nx, u.2.2.2.2.2.2.1, u.2.2.2.2.2.1, (if u.2.2.2.2.2.2.2.1 = (1 : Int32) then (1 : Int32) else (0 : Int32)), (if u.2.2.2.2.2.2.2.1 = (2 : Int32) then (1 : Int32) else (0 : Int32)), br, ba, fo, (0 : Int32))
        rw [s1]
      rw [e, tick_rel I.1.2.2.2.2.2]
      exact ⟨nx, br, ba, fo, by rw [show (ts2 u (fX2_tick u.2.2.1)).2.2.2.2.2.2.2.2 = (0 : Int32) from ht]⟩
    · rw [if_neg qa, if_neg r0, if_neg (fun z => qa ((ask_iff _).mp z))]
      have e : ms13 (mk u th nx br ba fo (0 : Int32)) (0 : Int32) = mk (ts7 u (0 : Int32)) th nx br ba fo (0 : Int32) := by
        show (th, u.1, u.2.1, u.2.2.1, (fun e => u.2.2.2.1 e 0), (fun e => u.2.2.2.1 e 3), (fun e => u.2.2.2.1 e 1), (fun e => u.2.2.2.1 e 2), hal u.2.2.2.1, u.2.2.2.2.1, nx, u.2.2.2.2.2.2.1, u.2.2.2.2.2.1, (0 : Int32), (if u.2.2.2.2.2.2.2.1 = (2 : Int32) then (1 : Int32) else (0 : Int32)), br, ba, fo, (0 : Int32)) = mk (ts7 u (0 : Int32)) th nx br ba fo (0 : Int32)
        rw [s0]
        rfl
      rw [e, tick_rel (u := ts7 u (0 : Int32)) I.1.2.2.2.2.2]
      exact ⟨nx, br, ba, fo, by rw [show (ts2 (ts7 u (0 : Int32)) (fX2_tick u.2.2.1)).2.2.2.2.2.2.2.2 = (0 : Int32) from ht]; rfl⟩
  · exact absurd c2 hc
end Stp
