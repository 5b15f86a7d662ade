section Rel11
variable {u : TM} {th nx br ba fo ra : Int32}
theorem elp_t {k x y : Int32} {n i : Nat} (h : goes u.2.2.2.1 k (x &&& (15 : Int32)) (iu y (7 : Int32)) i) : fX4_empty_lp k x y (n + 1) i (mk u th nx br ba fo ra) = fX4_empty_lp k x y n (i + 1) (mk (ts3 u (gu u.2.2.2.1 i 0 (0 : Int32))) th nx br ba fo ra) := by
  rw [← em1, fX4_empty_lp]
  rcases h with rfl | ⟨rfl, h3⟩ | ⟨rfl, h3⟩ | ⟨rfl, h3, h2⟩ | ⟨rfl, h3, h2, h1⟩
  · exact if_pos rfl
  · exact (if_neg (by decide)).trans ((if_pos rfl).trans (if_pos h3))
  · exact (if_neg (by decide)).trans ((if_neg (by decide)).trans ((if_pos h3).trans ((if_pos (by decide)).trans (if_neg (by decide)))))
  · exact (if_neg (by decide)).trans ((if_neg (by decide)).trans ((if_pos h3).trans ((if_neg (by decide)).trans ((if_pos h2).trans (if_neg (by decide))))))
  · exact (if_neg (by decide)).trans ((if_neg (by decide)).trans ((if_pos h3).trans ((if_neg (by decide)).trans ((if_pos h2).trans ((if_pos rfl).trans (if_pos h1))))))
theorem elp_f {k x y : Int32} {n i : Nat} (hr : Row u.2.2.2.1 i) (hk : k = 0 ∨ k = 1 ∨ k = 2 ∨ k = 3 ∨ k = 4) (h : ¬ goes u.2.2.2.1 k (x &&& (15 : Int32)) (iu y (7 : Int32)) i) : fX4_empty_lp k x y (n + 1) i (mk u th nx br ba fo ra) = fX4_empty_lp k x y n (i + 1) (mk u th nx br ba fo ra) := by
  rw [fX4_empty_lp]
  unfold goes at h
  have n1 : u.2.2.2.1 i 3 = (0 : Int32) → ¬ u.2.2.2.1 i 3 = (1 : Int32) := fun a => by rw [a]; decide
  have n0 : u.2.2.2.1 i 3 = (1 : Int32) → ¬ u.2.2.2.1 i 3 = (0 : Int32) := fun a => by rw [a]; decide
  rcases hk with rfl | rfl | rfl | rfl | rfl
  · exact absurd (Or.inl rfl) h
  · rcases hr.2.1 with a | a
    · exact (if_neg (by decide)).trans ((if_pos rfl).trans (if_neg (n1 a)))
    · exact absurd (Or.inr (Or.inl ⟨rfl, a⟩)) h
  · rcases hr.2.1 with a | a
    · exact absurd (Or.inr (Or.inr (Or.inl ⟨rfl, a⟩))) h
    · exact (if_neg (by decide)).trans ((if_neg (by decide)).trans ((if_neg (n0 a)).trans ((if_pos (by decide)).trans (if_neg (by decide)))))
  · rcases hr.2.1 with a | a
    · by_cases b : u.2.2.2.1 i 2 = (x &&& (15 : Int32))
      · exact absurd (Or.inr (Or.inr (Or.inr (Or.inl ⟨rfl, a, b⟩)))) h
      · exact (if_neg (by decide)).trans ((if_neg (by decide)).trans ((if_pos a).trans ((if_neg (by decide)).trans ((if_neg b).trans (if_neg (by decide))))))
    · exact (if_neg (by decide)).trans ((if_neg (by decide)).trans ((if_neg (n0 a)).trans ((if_neg (by decide)).trans (if_neg (by decide)))))
  · rcases hr.2.1 with a | a
    · by_cases b : u.2.2.2.1 i 2 = (x &&& (15 : Int32))
      · by_cases c : u.2.2.2.1 i 1 = (iu y (7 : Int32))
        · exact absurd (Or.inr (Or.inr (Or.inr (Or.inr ⟨rfl, a, b, c⟩)))) h
        · exact (if_neg (by decide)).trans ((if_neg (by decide)).trans ((if_pos a).trans ((if_neg (by decide)).trans ((if_pos b).trans ((if_pos rfl).trans (if_neg c))))))
      · exact (if_neg (by decide)).trans ((if_neg (by decide)).trans ((if_pos a).trans ((if_neg (by decide)).trans ((if_neg b).trans (if_pos rfl)))))
    · exact (if_neg (by decide)).trans ((if_neg (by decide)).trans ((if_neg (n0 a)).trans ((if_neg (by decide)).trans (if_pos rfl))))
theorem empty_lp_rel {k x y : Int32} (hk : k = 0 ∨ k = 1 ∨ k = 2 ∨ k = 3 ∨ k = 4) : ∀ (n i : Nat) (u : TM), i + n = 4 → (∀ e, e < 4 → Row u.2.2.2.1 e) → fX4_empty_lp k x y n i (mk u th nx br ba fo ra) = ((-1 : Int32), mk (ts3 u (fX0_empty_lp k (x &&& (15 : Int32)) (iu y (7 : Int32)) n i u.2.2.2.1)) th nx br ba fo ra)
  | 0, i, u, _, _ => rfl
  | n + 1, i, u, hi, hr => by
    by_cases q : goes u.2.2.2.1 k (x &&& (15 : Int32)) (iu y (7 : Int32)) i
    · rw [elp_t q, empty_lp_rel hk n (i + 1) (ts3 u (gu u.2.2.2.1 i 0 (0 : Int32))) (by omega) (fun e he => Row_gu0 (hr e he)), fX0_empty_lp, if_neg (kind_t (by omega) hk q)]
      rfl
    · rw [elp_f (hr i (by omega)) hk q, empty_lp_rel hk n (i + 1) u (by omega) hr, fX0_empty_lp, if_pos (kind_f (by omega) (hr i (by omega)) hk q)]
theorem ins_ok {X u' : TM} (e : u' = ts4 X (u.2.2.2.2.1 + (4 : Int32))) (hp : X.2.2.2.2.1 = u.2.2.2.2.1) (ht : X.2.2.2.2.2.2.2 = u.2.2.2.2.2.2.2) (br ba fo : Int32) : InsR u th ra u' ((-1 : Int32), mk X th (u.2.2.2.2.1 + (4 : Int32)) br ba fo ra) := by
  subst e
  refine Or.inl ⟨br, ba, fo, ?_, ht⟩
  show ((-1 : Int32), mk X th (u.2.2.2.2.1 + (4 : Int32)) br ba fo ra) = ((-1 : Int32), mk (ts4 X u.2.2.2.2.1) th (u.2.2.2.2.1 + (4 : Int32)) br ba fo ra)
  rw [ts4_pl hp]
theorem ms13_0 {X : TM} (h : X.2.2.2.2.2.2.2.1 = (0 : Int32)) : ms13 (mk X th nx br ba fo ra) (0 : Int32) = mk X th nx br ba fo ra := by
  have e : (if X.2.2.2.2.2.2.2.1 = (1 : Int32) then (1 : Int32) else (0 : Int32)) = (0 : Int32) := by rw [h]; rfl
  show (th, X.1, X.2.1, X.2.2.1, (fun e => X.2.2.2.1 e 0), (fun e => X.2.2.2.1 e 3), (fun e => X.2.2.2.1 e 1), (fun e => X.2.2.2.1 e 2), hal X.2.2.2.1, X.2.2.2.2.1, nx, X.2.2.2.2.2.2.1, X.2.2.2.2.2.1, (0 : Int32), (if X.2.2.2.2.2.2.2.1 = (2 : Int32) then (1 : Int32) else (0 : Int32)), br, ba, fo, ra) = (th, X.1, X.2.1, X.2.2.1, (fun e => X.2.2.2.1 e 0), (fun e => X.2.2.2.1 e 3), (fun e => X.2.2.2.1 e 1), (fun e => X.2.2.2.1 e 2), hal X.2.2.2.1, X.2.2.2.2.1, nx, X.2.2.2.2.2.2.1, X.2.2.2.2.2.1, (if X.2.2.2.2.2.2.2.1 = (1 : Int32) then (1 : Int32) else (0 : Int32)), (if X.2.2.2.2.2.2.2.1 = (2 : Int32) then (1 : Int32) else (0 : Int32)), br, ba, fo, ra)
  rw [e]
theorem ms13_1 (h : u.2.2.2.2.2.2.2.1 = (0 : Int32)) : ms13 (mk u th nx br ba fo ra) (1 : Int32) = mk (ts7 u (1 : Int32)) th nx br ba fo ra := by
  have e : (if u.2.2.2.2.2.2.2.1 = (2 : Int32) then (1 : Int32) else (0 : Int32)) = (0 : Int32) := by rw [h]; rfl
  show (th, u.1, u.2.1, u.2.2.1, (fun e => u.2.2.2.1 e 0), (fun e => u.2.2.2.1 e 3), (fun e => u.2.2.2.1 e 1), (fun e => u.2.2.2.1 e 2), hal u.2.2.2.1, u.2.2.2.2.1, nx, u.2.2.2.2.2.2.1, u.2.2.2.2.2.1, (1 : Int32), (if u.2.2.2.2.2.2.2.1 = (2 : Int32) then (1 : Int32) else (0 : Int32)), br, ba, fo, ra) = mk (ts7 u (1 : Int32)) th nx br ba fo ra
  rw [e]
  rfl
theorem ms14_1 (h : u.2.2.2.2.2.2.2.1 = (0 : Int32)) : ms14 (mk u th nx br ba fo ra) (1 : Int32) = mk (ts7 u (2 : Int32)) th nx br ba fo ra := by
  have e : (if u.2.2.2.2.2.2.2.1 = (1 : Int32) then (1 : Int32) else (0 : Int32)) = (0 : Int32) := by rw [h]; rfl
  show (th, u.1, u.2.1, u.2.2.1, (fun e => u.2.2.2.1 e 0), (fun e => u.2.2.2.1 e 3), (fun e => u.2.2.2.1 e 1), (fun e => u.2.2.2.1 e 2), hal u.2.2.2.1, u.2.2.2.2.1, nx, u.2.2.2.2.2.2.1, u.2.2.2.2.2.1, (if u.2.2.2.2.2.2.2.1 = (1 : Int32) then (1 : Int32) else (0 : Int32)), (1 : Int32), br, ba, fo, ra) = mk (ts7 u (2 : Int32)) th nx br ba fo ra
  rw [e]
  rfl
theorem ms14_0 {X : TM} (h : ¬ X.2.2.2.2.2.2.2.1 = (2 : Int32)) : ms14 (mk X th nx br ba fo ra) (0 : Int32) = mk X th nx br ba fo ra := by
  have e : (if X.2.2.2.2.2.2.2.1 = (2 : Int32) then (1 : Int32) else (0 : Int32)) = (0 : Int32) := if_neg h
  show (th, X.1, X.2.1, X.2.2.1, (fun e => X.2.2.2.1 e 0), (fun e => X.2.2.2.1 e 3), (fun e => X.2.2.2.1 e 1), (fun e => X.2.2.2.1 e 2), hal X.2.2.2.1, X.2.2.2.2.1, nx, X.2.2.2.2.2.2.1, X.2.2.2.2.2.1, (if X.2.2.2.2.2.2.2.1 = (1 : Int32) then (1 : Int32) else (0 : Int32)), (0 : Int32), br, ba, fo, ra) = (th, X.1, X.2.1, X.2.2.1, (fun e => X.2.2.2.1 e 0), (fun e => X.2.2.2.1 e 3), (fun e => X.2.2.2.1 e 1), (fun e => X.2.2.2.1 e 2), hal X.2.2.2.1, X.2.2.2.2.1, nx, X.2.2.2.2.2.2.1, X.2.2.2.2.2.1, (if X.2.2.2.2.2.2.2.1 = (1 : Int32) then (1 : Int32) else (0 : Int32)), (if X.2.2.2.2.2.2.2.1 = (2 : Int32) then (1 : Int32) else (0 : Int32)), br, ba, fo, ra)
  rw [e]
theorem bC_k {w : Int32} (h : fX3_byteC w ≤ (4 : Int32)) : fX3_byteC w = 0 ∨ fX3_byteC w = 1 ∨ fX3_byteC w = 2 ∨ fX3_byteC w = 3 ∨ fX3_byteC w = 4 := by
  obtain ⟨n, hn, e⟩ := pk_andE w (m := 255) 8 (by decide)
  have e' : fX3_byteC w = nI n := e
  rw [e'] at h ⊢
  have hn2 : n < 256 := hn
  have : n < 5 := Nat.not_le.mp fun q => (kn_nle (a := 4) (b := n) (by omega) (by omega)) h
  rcases (show n = 0 ∨ n = 1 ∨ n = 2 ∨ n = 3 ∨ n = 4 by omega) with rfl | rfl | rfl | rfl | rfl
  · exact Or.inl rfl
  · exact Or.inr (Or.inl rfl)
  · exact Or.inr (Or.inr (Or.inl rfl))
  · exact Or.inr (Or.inr (Or.inr (Or.inl rfl)))
  · exact Or.inr (Or.inr (Or.inr (Or.inr rfl)))
theorem ins_empty (hr : ∀ e, e < 4 → Row u.2.2.2.1 e) (w : Int32) : InsR u th ra (fX3_emptyEntries u w) (fX4_empty (mk u th (u.2.2.2.2.1 + (4 : Int32)) br ba fo ra) (bC w) (fX3_valueA u w) (fX3_valueB u w)) := by
  unfold fX3_emptyEntries fX4_empty
  rw [bC_eq]
  by_cases q : fX3_byteC w ≤ (4 : Int32)
  · rw [if_pos q, if_pos q, empty_lp_rel (bC_k q) 4 0 u rfl hr]
    exact ins_ok (u := u) (X := ts3 u (fX0_empty u.2.2.2.1 (fX3_byteC w) (fX3_valueA u w &&& (15 : Int32)) (iu (fX3_valueB u w) (7 : Int32)))) rfl rfl rfl br ba fo
  · rw [if_neg q, if_neg q]
    exact ins_code 13 (by decide) (by decide) 0
/-! back -/
theorem lv_a (x y : Int32) (h : y &&& (7 : Int32) = y) : ((x &&& (8 : Int32)) ||| y) &&& (-9 : Int32) = ((x &&& (8 : Int32)) ||| (y &&& (7 : Int32))) &&& (7 : Int32) := by
  have hy : ∀ i, bt y i = (bt y i && bt (7 : Int32) i) := fun i => by rw [← b_and, h]
  refine b_ext (fun i hi => ?_)
  have k : ((bt (8 : Int32) i && bt (-9 : Int32) i) = false) ∧ (bt (8 : Int32) i && bt (7 : Int32) i) = false ∧ (bt (7 : Int32) i && bt (-9 : Int32) i) = bt (7 : Int32) i := (by decide +kernel : ∀ i, i < 32 → ((bt (8 : Int32) i && bt (-9 : Int32) i) = false) ∧ (bt (8 : Int32) i && bt (7 : Int32) i) = false ∧ (bt (7 : Int32) i && bt (-9 : Int32) i) = bt (7 : Int32) i) i hi
  rw [h]
  simp only [b_and, b_or]
  rw [hy i]
  obtain ⟨k1, k2, k3⟩ := k
  revert k1 k2 k3
  cases bt x i <;> cases bt y i <;> cases bt (8 : Int32) i <;> cases bt (-9 : Int32) i <;> cases bt (7 : Int32) i <;> simp
theorem ins_back (h1 : u.2.2.1 1 &&& (7 : Int32) = u.2.2.1 1) (hc : u.2.2.2.2.2.2.2.1 = (0 : Int32)) (br ba fo : Int32) (a b c : Int32) (hu : fX4_user (mk u th (u.2.2.2.2.1 + (4 : Int32)) br ba fo ra) = (0 : Int32)) : InsR u th ra (fX3_goBack u) (fX4_govern (mk u th (u.2.2.2.2.1 + (4 : Int32)) br ba fo ra) (26 : Int32) a b c) := by
  have hv : (mk u th (u.2.2.2.2.1 + (4 : Int32)) br ba fo ra).2.2.2.1 = u.2.2.1 := rfl
  have go : ∀ V : Nat → Int32, fX2_leave u.2.2.1 = V → V 4 = u.2.2.1 4 → InsR u th ra (fX3_goBack u) ((-1 : Int32), ms13 (mk (ts5 (ts2 u V) (0 : Int32)) th (u.2.2.1 4) br ba fo ra) (0 : Int32)) := by
    intro V e e4
    rw [ms13_0 (X := ts5 (ts2 u V) (0 : Int32)) hc]
    unfold fX3_goBack
    rw [e]
    refine Or.inl ⟨br, ba, fo, ?_, rfl⟩
    show ((-1 : Int32), mk (ts5 (ts2 u V) (0 : Int32)) th (u.2.2.1 4) br ba fo ra) = ((-1 : Int32), mk (ts5 (ts2 u V) (0 : Int32)) th (V 4) br ba fo ra)
    rw [e4]
  have cz : fX2_code (upd u.2.2.1 0 (((u.2.2.1 0) &&& (8 : Int32)) ||| (u.2.2.1 1))) = ((u.2.2.1 3) >>> ((16 : Int32) &&& 31)) &&& (63 : Int32) := (cd_eq _).symm
  refine Eq.subst (motive := fun o => InsR u th ra (fX3_goBack u) o) ((if_pos hu).trans ((if_pos (by decide)).trans ((if_neg (by decide)).trans ((if_neg (by decide)).trans ((if_neg (by decide)).trans ((if_neg (by decide)).trans ((if_neg (by decide)).trans (if_pos (by decide))))))))).symm ?_
  by_cases q : ((u.2.2.1 3) >>> ((16 : Int32) &&& 31)) &&& (63 : Int32) = (63 : Int32)
  · refine Eq.subst (motive := fun o => InsR u th ra (fX3_goBack u) o) (if_pos q).symm ?_
    refine go (upd (upd u.2.2.1 0 (((u.2.2.1 0) &&& (8 : Int32)) ||| ((u.2.2.1 1) &&& (7 : Int32)))) 0 ((((u.2.2.1 0) &&& (8 : Int32)) ||| ((u.2.2.1 1) &&& (7 : Int32))) &&& (7 : Int32))) ?_ rfl
    refine (if_pos (cz.trans q)).trans ?_
    rw [lv_a _ _ h1, h1]
  · refine Eq.subst (motive := fun o => InsR u th ra (fX3_goBack u) o) (if_neg q).symm ?_
    refine go (upd u.2.2.1 0 (((u.2.2.1 0) &&& (8 : Int32)) ||| ((u.2.2.1 1) &&& (7 : Int32)))) ?_ rfl
    refine (if_neg (fun z => q (cz.symm.trans z))).trans ?_
    rw [h1]
end Rel11
