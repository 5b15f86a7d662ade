section Rel7
variable {u : TM} {th nx br ba fo ra : Int32}
theorem ts4_pl {X : TM} {p : Int32} (h : X.2.2.2.2.1 = p) : ts4 X p = X := by subst h; rfl
theorem look_yes {a1 r : Int32} {o : Int32 × MD} (h : LookR u th nx br ba fo ra a1 r o) (q : (0 : Int32) ≤ r) : o = ((-1 : Int32), mk u th nx br ba r ra) := by
  rcases h with ⟨-, e⟩ | ⟨e0, -⟩ | ⟨c, hc, e0, -⟩ | ⟨c, hc, e0, -⟩
  · exact e
  · rw [e0] at q; exact absurd q (by decide)
  · rw [e0] at q; rcases hc with rfl | rfl | rfl | rfl | rfl | rfl <;> exact absurd q (by decide)
  · rw [e0] at q; rcases hc with rfl | rfl <;> exact absurd q (by decide)
theorem look_no {a1 r : Int32} {o : Int32 × MD} (h : LookR u th nx br ba fo ra a1 r o) (q : ¬ (0 : Int32) ≤ r) : ¬ o.1 = (-1 : Int32) := by
  rcases h with ⟨e0, -⟩ | ⟨e0, e⟩ | ⟨c, hc, e0, e⟩ | ⟨c, hc, e0, e⟩
  · exact absurd e0 q
  · rw [e]; show ¬ (-2 : Int32) = (-1 : Int32); decide
  · rw [e]; show ¬ c = (-1 : Int32); rcases hc with rfl | rfl | rfl | rfl | rfl | rfl <;> decide
  · rw [e]; show ¬ c = (-1 : Int32); rcases hc with rfl | rfl <;> decide
theorem ins_go {op w : Int32} (h : op = 12 ∨ op = 13 ∨ op = 14 ∨ op = 15) : InsR u th ra (fX3_branch u op w) (fX4_go (mk u th (u.2.2.2.2.1 + (4 : Int32)) br ba fo ra) op (bA w) (bB w) (fX3_imm w)) := by
  unfold fX4_go fX3_branch
  rw [bA8, bB8]
  have eA : (mk u th (u.2.2.2.2.1 + (4 : Int32)) br ba fo ra).2.2.1 (ix ((iu w (16 : Int32)) &&& (7 : Int32))) = fX3_valueA u w := rfl
  have eB : (mk u th (u.2.2.2.2.1 + (4 : Int32)) br ba fo ra).2.2.1 (ix ((iu w (8 : Int32)) &&& (7 : Int32))) = fX3_valueB u w := rfl
  rw [eA, eB]
  have yes : InsR u th ra (ts4 u (u.2.2.2.2.1 + ((4 : Int32) * fX3_imm w))) ((-1 : Int32), ms10 (mk u th (u.2.2.2.2.1 + (4 : Int32)) br ba fo ra) ((mk u th (u.2.2.2.2.1 + (4 : Int32)) br ba fo ra).2.2.2.2.2.2.2.2.2.1 + ((4 : Int32) * fX3_imm w))) := Or.inl ⟨br, ba, fo, rfl, rfl⟩
  have no : InsR u th ra (ts4 u (u.2.2.2.2.1 + (4 : Int32))) ((-1 : Int32), ms10 (mk u th (u.2.2.2.2.1 + (4 : Int32)) br ba fo ra) (mk u th (u.2.2.2.2.1 + (4 : Int32)) br ba fo ra).2.2.2.2.2.2.2.2.2.2.1) := Or.inl ⟨br, ba, fo, rfl, rfl⟩
  rcases h with rfl | rfl | rfl | rfl
  · rw [if_neg (show ¬ (12 : Int32) = 15 by decide), if_neg (show ¬ (12 : Int32) = 16 by decide), if_neg (show ¬ (12 : Int32) = 17 by decide), if_pos (show (12 : Int32) = 12 from rfl)]
    by_cases q : fX3_valueA u w = fX3_valueB u w
    · rw [if_pos q, if_neg (show ¬ fX3_holds (12 : Int32) (fX3_valueA u w) (fX3_valueB u w) = (0 : Int32) from by rw [show fX3_holds (12 : Int32) (fX3_valueA u w) (fX3_valueB u w) = (1 : Int32) from (if_pos rfl).trans (if_pos q)]; decide)]
      exact yes
    · rw [if_neg q, if_pos (show fX3_holds (12 : Int32) (fX3_valueA u w) (fX3_valueB u w) = (0 : Int32) from (if_pos rfl).trans (if_neg q))]
      exact no
  · rw [if_neg (show ¬ (13 : Int32) = 15 by decide), if_neg (show ¬ (13 : Int32) = 16 by decide), if_neg (show ¬ (13 : Int32) = 17 by decide), if_neg (show ¬ (13 : Int32) = 12 by decide), if_pos (show (13 : Int32) = 13 from rfl)]
    by_cases q : fX3_valueA u w = fX3_valueB u w
    · rw [if_pos q, if_pos (show fX3_holds (13 : Int32) (fX3_valueA u w) (fX3_valueB u w) = (0 : Int32) from (if_neg (by decide)).trans ((if_pos rfl).trans (if_pos q)))]
      exact no
    · rw [if_neg q, if_neg (show ¬ fX3_holds (13 : Int32) (fX3_valueA u w) (fX3_valueB u w) = (0 : Int32) from by rw [show fX3_holds (13 : Int32) (fX3_valueA u w) (fX3_valueB u w) = (1 : Int32) from (if_neg (by decide)).trans ((if_pos rfl).trans (if_neg q))]; decide)]
      exact yes
  · rw [if_neg (show ¬ (14 : Int32) = 15 by decide), if_neg (show ¬ (14 : Int32) = 16 by decide), if_neg (show ¬ (14 : Int32) = 17 by decide), if_neg (show ¬ (14 : Int32) = 12 by decide), if_neg (show ¬ (14 : Int32) = 13 by decide), if_pos (show (14 : Int32) = 14 from rfl)]
    by_cases q : fX3_valueB u w ≤ fX3_valueA u w
    · rw [if_pos q, if_pos (show fX3_holds (14 : Int32) (fX3_valueA u w) (fX3_valueB u w) = (0 : Int32) from (if_neg (by decide)).trans ((if_neg (by decide)).trans (if_pos q)))]
      exact no
    · rw [if_neg q, if_neg (show ¬ fX3_holds (14 : Int32) (fX3_valueA u w) (fX3_valueB u w) = (0 : Int32) from by rw [show fX3_holds (14 : Int32) (fX3_valueA u w) (fX3_valueB u w) = (1 : Int32) from (if_neg (by decide)).trans ((if_neg (by decide)).trans (if_neg q))]; decide)]
      exact yes
  · rw [if_pos (show (15 : Int32) = 15 from rfl), if_neg (show ¬ (15 : Int32) = 16 by decide), if_neg (show ¬ (15 : Int32) = 17 by decide), if_neg (show ¬ (15 : Int32) = 12 by decide), if_neg (show ¬ (15 : Int32) = 13 by decide), if_neg (show ¬ (15 : Int32) = 14 by decide), if_pos (show (15 : Int32) = 15 from rfl)]
    rw [show ms10 (mk u th (u.2.2.2.2.1 + (4 : Int32)) br ba fo ra) (fX3_valueB u w + ((4 : Int32) * fX3_imm w)) = mk u th (fX3_valueB u w + ((4 : Int32) * fX3_imm w)) br ba fo ra from rfl, put_rel]
    refine Or.inl ⟨br, ba, fo, ?_, setA_tr _ _⟩
    show ((-1 : Int32), mk (fX3_setA u w (u.2.2.2.2.1 + (4 : Int32))) th (fX3_valueB u w + ((4 : Int32) * fX3_imm w)) br ba fo ra) = ((-1 : Int32), mk (ts4 (fX3_setA u w (u.2.2.2.2.1 + (4 : Int32))) u.2.2.2.2.1) th (fX3_valueB u w + ((4 : Int32) * fX3_imm w)) br ba fo ra)
    rw [ts4_pl (setA_pl _ _)]
/-- the set register and the next place -/
theorem ins_set {X : TM} (hp : X.2.2.2.2.1 = u.2.2.2.2.1) (ht : X.2.2.2.2.2.2.2 = u.2.2.2.2.2.2.2) (w x : Int32) (br ba fo : Int32) : InsR u th ra (ts4 (fX3_setA X w x) ((fX3_setA X w x).2.2.2.2.1 + (4 : Int32))) ((-1 : Int32), fX4_put (mk X th (u.2.2.2.2.1 + (4 : Int32)) br ba fo ra) (bA w) x) := by
  rw [put_rel]
  refine Or.inl ⟨br, ba, fo, ?_, (setA_tr _ _).trans ht⟩
  show ((-1 : Int32), mk (fX3_setA X w x) th (u.2.2.2.2.1 + (4 : Int32)) br ba fo ra) = ((-1 : Int32), mk (ts4 (fX3_setA X w x) u.2.2.2.2.1) th ((fX3_setA X w x).2.2.2.2.1 + (4 : Int32)) br ba fo ra)
  rw [ts4_pl ((setA_pl w x).trans hp), (setA_pl w x).trans hp]
theorem ms12_put (W : MD) (a x y : Int32) : ms12 (fX4_put W a x) y = fX4_put (ms12 W y) a x := by
  unfold fX4_put
  by_cases h : (a - a / (8 : Int32) * (8 : Int32)) = (0 : Int32)
  · rw [if_pos h, if_pos h]
  · rw [if_neg h, if_neg h]; rfl
theorem ts5_setA (w x y : Int32) : ts5 (fX3_setA u w x) y = fX3_setA (ts5 u y) w x := by
  unfold fX3_setA
  by_cases h : ((iu w (16 : Int32)) &&& (7 : Int32)) = (0 : Int32)
  · rw [if_pos h, if_pos h]
  · rw [if_neg h, if_neg h]; rfl
theorem ins_load {op w : Int32} (hr : ∀ e, e < 4 → Row u.2.2.2.1 e) (hl : u.2.2.1 0 &&& (3 : Int32) = (0 : Int32) ∨ u.2.2.1 0 &&& (3 : Int32) = (3 : Int32)) (h : op = 8 ∨ op = 10) :
    InsR u th ra (fX3_loadWord u op w) (fX4_reach (mk u th (u.2.2.2.2.1 + (4 : Int32)) br ba fo ra) op (bA w) (fX3_valueB u w + fX3_imm w)) := by
  have L := look_rel (u := u) (th := th) (nx := u.2.2.2.2.1 + (4 : Int32)) (br := br) (ba := ba) (fo := fo) (ra := ra) (a1 := fX3_valueB u w + fX3_imm w) (a2 := 1) hr hl (Or.inr (Or.inl rfl))
  have h11 : ¬ op = (11 : Int32) := by rcases h with rfl | rfl <;> decide
  have h9 : ¬ op = (9 : Int32) := by rcases h with rfl | rfl <;> decide
  unfold fX3_loadWord fX4_reach
  rw [if_neg h11, if_neg h9]
  by_cases q : (0 : Int32) ≤ fX3_find u (fX3_valueB u w + fX3_imm w) (1 : Int32)
  · rw [if_pos q]
    have e := look_yes L q
    rw [e, if_pos (show ((-1 : Int32), mk u th (u.2.2.2.2.1 + (4 : Int32)) br ba (fX3_find u (fX3_valueB u w + fX3_imm w) (1 : Int32)) ra).1 = (-1 : Int32) from rfl)]
    rcases h with rfl | rfl
    · rw [if_neg (show ¬ (8 : Int32) = 10 by decide), if_neg (show ¬ (8 : Int32) = 10 by decide)]
      exact ins_set (u := u) (X := u) rfl rfl w _ br ba _
    · rw [if_pos (show (10 : Int32) = 10 from rfl), if_pos (show (10 : Int32) = 10 from rfl), ms12_put, ts5_setA]
      rw [show (fX3_setA u w (u.1 (ix (fX3_find u (fX3_valueB u w + fX3_imm w) (1 : Int32))))).2.2.2.2.1 = (fX3_setA (ts5 u (1 : Int32)) w (u.1 (ix (fX3_find u (fX3_valueB u w + fX3_imm w) (1 : Int32))))).2.2.2.2.1 from by rw [setA_pl, setA_pl]; rfl]
      exact ins_set (u := u) (X := ts5 u (1 : Int32)) rfl rfl w _ br ba _
  · rw [if_neg q]
    have F := ins_fail L q
    have n1 := look_no L q
    rw [if_neg n1]
    exact F
theorem ins_store {op w : Int32} (hr : ∀ e, e < 4 → Row u.2.2.2.1 e) (hl : u.2.2.1 0 &&& (3 : Int32) = (0 : Int32) ∨ u.2.2.1 0 &&& (3 : Int32) = (3 : Int32)) (h : op = 9 ∨ op = 11) :
    InsR u th ra (fX3_storeWord u op w) (fX4_reach (mk u th (u.2.2.2.2.1 + (4 : Int32)) br ba fo ra) op (bA w) (fX3_valueB u w + fX3_imm w)) := by
  have L := look_rel (u := u) (th := th) (nx := u.2.2.2.2.1 + (4 : Int32)) (br := br) (ba := ba) (fo := fo) (ra := ra) (a1 := fX3_valueB u w + fX3_imm w) (a2 := 2) hr hl (Or.inr (Or.inr rfl))
  unfold fX3_storeWord fX4_reach
  rw [bA8]
  rcases h with rfl | rfl
  · rw [if_neg (show ¬ (9 : Int32) = 11 by decide), if_neg (show ¬ (9 : Int32) = 11 by decide), if_pos (show (9 : Int32) = 9 from rfl)]
    by_cases q : (0 : Int32) ≤ fX3_find u (fX3_valueB u w + fX3_imm w) (2 : Int32)
    · rw [if_pos q, look_yes L q, if_pos (show ((-1 : Int32), mk u th (u.2.2.2.2.1 + (4 : Int32)) br ba (fX3_find u (fX3_valueB u w + fX3_imm w) (2 : Int32)) ra).1 = (-1 : Int32) from rfl)]
      exact Or.inl ⟨br, ba, _, rfl, rfl⟩
    · rw [if_neg q, if_neg (look_no L q)]
      exact ins_fail L q
  · rw [if_pos (show (11 : Int32) = 11 from rfl), if_pos (show (11 : Int32) = 11 from rfl), show (mk u th (u.2.2.2.2.1 + (4 : Int32)) br ba fo ra).2.2.2.2.2.2.2.2.2.2.2.2.1 = u.2.2.2.2.2.1 from rfl]
    by_cases k : u.2.2.2.2.2.1 = (0 : Int32)
    · rw [if_pos k, if_pos k]
      exact ins_set (u := u) (X := u) rfl rfl w _ br ba _
    · rw [if_neg k, if_neg k]
      by_cases q : (0 : Int32) ≤ fX3_find u (fX3_valueB u w + fX3_imm w) (2 : Int32)
      · rw [if_pos q, look_yes L q, if_pos (show ((-1 : Int32), mk u th (u.2.2.2.2.1 + (4 : Int32)) br ba (fX3_find u (fX3_valueB u w + fX3_imm w) (2 : Int32)) ra).1 = (-1 : Int32) from rfl)]
        exact ins_set (u := u) (X := ts5 (ts0 u (upd u.1 (ix (fX3_find u (fX3_valueB u w + fX3_imm w) (2 : Int32))) (fX3_valueA u w))) (0 : Int32)) rfl rfl w _ br ba _
      · rw [if_neg q, if_neg (look_no L q)]
        exact ins_fail L q
end Rel7
