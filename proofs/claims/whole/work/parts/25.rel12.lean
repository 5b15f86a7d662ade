section Rel12
variable {u : TM} {th nx br ba fo ra : Int32}
theorem search_ts : ∃ V, fX3_searchEntry u = ts2 u V := by
  unfold fX3_searchEntry
  by_cases q : (0 : Int32) ≤ (fX0_find u.2.2.2.1 (iu (fX2_get u.2.2.1 (8 : Int32)) (7 : Int32)) (fX2_get u.2.2.1 (11 : Int32)) (0 : Int32))
  · exact ⟨_, if_pos q⟩
  · exact ⟨_, if_neg q⟩
theorem read_ts (a : Int32) : ∃ V, fX3_readEntry u a = ts2 u V := by
  unfold fX3_readEntry
  by_cases q : (fX0_get u.2.2.2.1 a (0 : Int32)) = (1 : Int32)
  · by_cases r : (fX0_get u.2.2.2.1 a (3 : Int32)) = (1 : Int32)
    · exact ⟨_, (if_pos q).trans (if_pos r)⟩
    · exact ⟨_, (if_pos q).trans (if_neg r)⟩
  · exact ⟨_, if_neg q⟩
theorem nf4 : ∀ e, e < 4 → (nI e + (1 : Int32)) - (nI e + (1 : Int32)) / (4 : Int32) * (4 : Int32) = (nI e + (1 : Int32)) &&& (3 : Int32) := by decide +kernel
theorem ins_sub {u' : TM} {o o' : Int32 × MD} (h : InsR u th ra u' o) (e : o' = o) : InsR u th ra u' o' := e ▸ h
theorem ins_subs {u' u'' : TM} {o o' : Int32 × MD} (h : InsR u th ra u' o) (e : o' = o) (e2 : u'' = u') : InsR u th ra u'' o' := by subst e; subst e2; exact h
/-- the privileged instructions but REST -/
theorem ins_priv {n : Nat} {w : Int32} (h1 : 18 ≤ n) (h2 : n < 27) (hr : ∀ e, e < 4 → Row u.2.2.2.1 e) (h7 : u.2.2.1 7 &&& (-2147483645 : Int32) = u.2.2.1 7) (hb : u.2.2.1 1 &&& (7 : Int32) = u.2.2.1 1) (hn : vp_in u.2.2.2.2.2.2.1 4) (hc : u.2.2.2.2.2.2.2.1 = (0 : Int32)) :
    InsR u th ra (fX3_performPrivileged u (nI n) w) (fX4_govern (mk u th (u.2.2.2.2.1 + (4 : Int32)) br ba fo ra) (nI n) (bA w) (bB w) (bC w)) := by
  by_cases ql : fX2_level u.2.2.1 = (0 : Int32)
  · have qu : fX4_user (mk u th (u.2.2.2.2.1 + (4 : Int32)) br ba fo ra) = (0 : Int32) := user_mk.mpr ql
    rcases (show n < 21 ∨ n = 21 ∨ n = 22 ∨ n = 23 ∨ n = 24 ∨ n = 25 ∨ n = 26 by omega) with q | rfl | rfl | rfl | rfl | rfl | rfl
    · refine ins_subs (ins_ctl (u := u) (th := th) (br := br) (ba := ba) (fo := fo) (ra := ra) (op := nI n) (w := w)) ((if_pos qu).trans (if_neg (kn_nle (a := n) (b := 21) (by omega) (by omega)))) ((if_pos ql).trans (if_neg (kn_nlt (a := 20) (b := n) (by omega) (by omega))))
    · obtain ⟨V, e⟩ := search_ts (u := u)
      refine ins_subs (u' := ts4 (ts2 u V) (u.2.2.2.2.1 + (4 : Int32))) (o := ((-1 : Int32), mk (ts2 u V) th (u.2.2.2.2.1 + (4 : Int32)) br ba fo ra)) (ins_ok (u := u) (X := ts2 u V) rfl rfl rfl br ba fo) ((if_pos qu).trans ((if_pos (by decide)).trans ((if_neg (by decide)).trans ((if_pos (by decide)).trans ?_)))) ((if_pos ql).trans ((if_pos (by decide)).trans ((if_neg (by decide)).trans ((if_pos (by decide)).trans ?_))))
      · rw [search_rel hr, e, ms13_0 (X := ts2 u V) hc]
      · rw [e]; rfl
    · obtain ⟨V, e⟩ := read_ts (u := u) (u.2.2.1 7 &&& (3 : Int32))
      refine ins_subs (u' := ts4 (ts2 u V) (u.2.2.2.2.1 + (4 : Int32))) (o := ((-1 : Int32), mk (ts2 u V) th (u.2.2.2.2.1 + (4 : Int32)) br ba fo ra)) (ins_ok (u := u) (X := ts2 u V) rfl rfl rfl br ba fo) ((if_pos qu).trans ((if_pos (by decide)).trans ((if_neg (by decide)).trans ((if_neg (by decide)).trans ((if_pos (by decide)).trans ?_))))) ((if_pos ql).trans ((if_pos (by decide)).trans ((if_neg (by decide)).trans ((if_neg (by decide)).trans ((if_pos (by decide)).trans ?_)))))
      · have R := read_rel (u := u) (th := th) (nx := u.2.2.2.2.1 + (4 : Int32)) (br := br) (ba := ba) (fo := fo) (ra := ra) hr h7
        rw [e] at R
        exact congrArg (fun f => ((-1 : Int32), f)) ((congrArg (fun f => ms13 f (0 : Int32)) R).trans (ms13_0 (X := ts2 u V) hc))
      · exact congrArg (fun f => ts4 f (f.2.2.2.2.1 + (4 : Int32))) e
    · obtain ⟨e, he, ee⟩ := pk_andE (u.2.2.1 7) (m := 3) 2 (by decide)
      have e1 := write_W6 (u := u) (nI e)
      have R := fill_rel (u := u) (th := th) (nx := u.2.2.2.2.1 + (4 : Int32)) (br := br) (ba := ba) (fo := fo) (ra := ra) e he
      rw [← ee] at e1 R
      generalize W6 u.2.2.2.1 (ix (u.2.2.1 7 &&& (3 : Int32))) (thr u.2.2.1) (iu (u.2.2.1 8) (7 : Int32)) (u.2.2.1 11) (glb u.2.2.1) (u.2.2.1 9 &&& (-17 : Int32)) (u.2.2.1 10 &&& (-17 : Int32)) = M at e1
      refine ins_subs (u' := ts4 (ts3 u M) (u.2.2.2.2.1 + (4 : Int32))) (o := ((-1 : Int32), mk (ts3 u M) th (u.2.2.2.2.1 + (4 : Int32)) br ba fo ra)) (ins_ok (u := u) (X := ts3 u M) rfl rfl rfl br ba fo) ((if_pos qu).trans ((if_pos (by decide)).trans ((if_neg (by decide)).trans ((if_neg (by decide)).trans ((if_neg (by decide)).trans ((if_pos (by decide)).trans ?_)))))) ((if_pos ql).trans ((if_pos (by decide)).trans ((if_neg (by decide)).trans ((if_neg (by decide)).trans ((if_neg (by decide)).trans ((if_pos (by decide)).trans ?_))))))
      · rw [e1] at R
        exact congrArg (fun f => ((-1 : Int32), f)) ((congrArg (fun f => ms13 f (0 : Int32)) R).trans (ms13_0 (X := ts3 u M) hc))
      · exact congrArg (fun f => ts4 f (f.2.2.2.2.1 + (4 : Int32))) e1
    · obtain ⟨e, he, ee⟩ := vp_in_of hn (by omega)
      have e1 := write_W6 (u := u) (nI e)
      have R := fill_rel (u := u) (th := th) (nx := u.2.2.2.2.1 + (4 : Int32)) (br := br) (ba := ba) (fo := fo) (ra := ra) e he
      generalize W6 u.2.2.2.1 (ix (nI e)) (thr u.2.2.1) (iu (u.2.2.1 8) (7 : Int32)) (u.2.2.1 11) (glb u.2.2.1) (u.2.2.1 9 &&& (-17 : Int32)) (u.2.2.1 10 &&& (-17 : Int32)) = M at e1
      refine ins_subs (u' := ts4 (ts6 (ts3 u M) ((nI e + (1 : Int32)) &&& (3 : Int32))) (u.2.2.2.2.1 + (4 : Int32))) (o := ((-1 : Int32), mk (ts6 (ts3 u M) ((nI e + (1 : Int32)) &&& (3 : Int32))) th (u.2.2.2.2.1 + (4 : Int32)) br ba fo ra)) (ins_ok (u := u) (X := ts6 (ts3 u M) ((nI e + (1 : Int32)) &&& (3 : Int32))) rfl rfl rfl br ba fo) ((if_pos qu).trans ((if_pos (by decide)).trans ((if_neg (by decide)).trans ((if_neg (by decide)).trans ((if_neg (by decide)).trans ((if_neg (by decide)).trans ((if_pos (by decide)).trans ?_))))))) ((if_pos ql).trans ((if_pos (by decide)).trans ((if_neg (by decide)).trans ((if_neg (by decide)).trans ((if_neg (by decide)).trans ((if_neg (by decide)).trans ?_))))))
      · rw [show (mk u th (u.2.2.2.2.1 + (4 : Int32)) br ba fo ra).2.2.2.2.2.2.2.2.2.2.2.1 = nI e from ee, R, e1]
        rw [show (mk (ts3 u M) th (u.2.2.2.2.1 + (4 : Int32)) br ba fo ra).2.2.2.2.2.2.2.2.2.2.2.1 = nI e from ee, nf4 e he]
        exact congrArg (fun f => ((-1 : Int32), f)) (ms13_0 (X := ts6 (ts3 u M) ((nI e + (1 : Int32)) &&& (3 : Int32))) hc)
      · rw [ee, e1, show (ts3 u M).2.2.2.2.2.2.1 = nI e from ee]
        rfl
    · refine ins_subs (ins_empty (u := u) (th := th) (br := br) (ba := ba) (fo := fo) (ra := ra) hr w) ((if_pos qu).trans ((if_pos (by decide)).trans ((if_pos (by decide)).trans ?_))) ((if_pos ql).trans ((if_pos (by decide)).trans ((if_pos (by decide)).trans (if_pos (by decide)))))
      rw [bA8, bB8]
      rfl
    · exact ins_subs (ins_back (u := u) (th := th) (ra := ra) hb hc br ba fo (bA w) (bB w) (bC w) qu) rfl ((if_pos ql).trans ((if_pos (by decide)).trans ((if_pos (by decide)).trans ((if_neg (by decide)).trans (if_pos (by decide))))))
  · have qu : ¬ fX4_user (mk u th (u.2.2.2.2.1 + (4 : Int32)) br ba fo ra) = (0 : Int32) := fun z => ql (user_mk.mp z)
    exact ins_subs (ins_code (u := u) (th := th) (nx := u.2.2.2.2.1 + (4 : Int32)) (br := br) (ba := ba) (fo := fo) (ra := ra) 14 (by decide) (by decide) 0) (if_neg qu) (if_neg ql)
/-- the whole instruction -/
def InsT (u : TM) (th ra : Int32) (u' : TM) (o : Int32 × MD) : Prop := InsR u th ra u' o ∨ ∃ br ba fo, u' = ts4 (ts7 u (1 : Int32)) (u.2.2.2.2.1 + (4 : Int32)) ∧ o = ((-1 : Int32), mk (ts7 u (1 : Int32)) th (u.2.2.2.2.1 + (4 : Int32)) br ba fo ra)
theorem ins_rest {w : Int32} (hc : u.2.2.2.2.2.2.2.1 = (0 : Int32)) : InsT u th ra (fX3_performPrivileged u (27 : Int32) w) (fX4_govern (mk u th (u.2.2.2.2.1 + (4 : Int32)) br ba fo ra) (27 : Int32) (bA w) (bB w) (bC w)) := by
  by_cases ql : fX2_level u.2.2.1 = (0 : Int32)
  · have qu : fX4_user (mk u th (u.2.2.2.2.1 + (4 : Int32)) br ba fo ra) = (0 : Int32) := user_mk.mpr ql
    refine Or.inr ⟨br, ba, fo, (if_pos ql).trans ((if_pos (by decide)).trans ((if_pos (by decide)).trans ((if_neg (by decide)).trans (if_neg (by decide))))), ?_⟩
    refine (if_pos qu).trans ((if_pos (by decide)).trans ((if_neg (by decide)).trans ((if_neg (by decide)).trans ((if_neg (by decide)).trans ((if_neg (by decide)).trans ((if_neg (by decide)).trans ((if_neg (by decide)).trans ((if_pos (by decide)).trans ?_))))))))
    rw [ms13_1 hc]
  · have qu : ¬ fX4_user (mk u th (u.2.2.2.2.1 + (4 : Int32)) br ba fo ra) = (0 : Int32) := fun z => ql (user_mk.mp z)
    exact Or.inl (ins_subs (ins_code (u := u) (th := th) (nx := u.2.2.2.2.1 + (4 : Int32)) (br := br) (ba := ba) (fo := fo) (ra := ra) 14 (by decide) (by decide) 0) (if_neg qu) (if_neg ql))
end Rel12
