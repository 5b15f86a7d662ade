section Rel9
variable {u : TM} {th nx br ba fo ra : Int32}
theorem search_t {p s x1 : Int32} {n i : Nat} (hn : n < 4) (hp : fX4_pairOf (u.2.2.1 8) = p) (hs : u.2.2.1 11 = s) (h : pf u.2.2.2.1 p s n) : fX4_search_lp (n + 1) i (mk u th nx br ba fo ra) x1 = fX4_search_lp n i (mk u th nx br ba fo ra) (nI n) := by
  subst hp; subst hs
  rw [fX4_search_lp]
  exact if_neg (fits_t hn h)
theorem search_f {p s x1 : Int32} {n i : Nat} (hn : n < 4) (hr : Row u.2.2.2.1 n) (hp : fX4_pairOf (u.2.2.1 8) = p) (hs : u.2.2.1 11 = s) (h : ¬ pf u.2.2.2.1 p s n) : fX4_search_lp (n + 1) i (mk u th nx br ba fo ra) x1 = fX4_search_lp n i (mk u th nx br ba fo ra) x1 := by
  subst hp; subst hs
  rw [fX4_search_lp]
  exact if_pos (fits_f hn hr h)
theorem search_x {x1 : Int32} {n i : Nat} : ∃ x2, fX4_search_lp (n + 1) i (mk u th nx br ba fo ra) x1 = fX4_search_lp n i (mk u th nx br ba fo ra) x2 := by
  rw [fX4_search_lp]
  by_cases q : (fX4_fits (mk u th nx br ba fo ra) (nI n) (fX4_pairOf ((mk u th nx br ba fo ra).2.2.2.1 8)) ((mk u th nx br ba fo ra).2.2.2.1 11)) = (0 : Int32)
  · exact ⟨x1, if_pos q⟩
  · exact ⟨nI n, if_neg q⟩
theorem em_or (x : Int32) : (x &&& (2147483647 : Int32)) ||| (-2147483648 : Int32) = x ||| (-2147483648 : Int32) := by
  refine b_ext (fun i hi => ?_)
  have k : bt (2147483647 : Int32) i = !(bt (-2147483648 : Int32) i) := (by decide +kernel : ∀ i, i < 32 → bt (2147483647 : Int32) i = !(bt (-2147483648 : Int32) i)) i hi
  rw [b_or, b_or, b_and, k]
  cases bt x i <;> cases bt (-2147483648 : Int32) i <;> rfl
theorem search_fin (e : Nat) (he : e < 4) (h : fX0_find u.2.2.2.1 (iu (fX2_get u.2.2.1 (8 : Int32)) (7 : Int32)) (fX2_get u.2.2.1 (11 : Int32)) (0 : Int32) = nI e) : fX4_search_lp 0 0 (mk u th nx br ba fo ra) (nI e) = mk (fX3_searchEntry u) th nx br ba fo ra := by
  rw [fX4_search_lp]
  unfold fX3_searchEntry
  rw [h, if_pos (nI_pos' (by omega)), if_neg (by rcases (show e = 0 ∨ e = 1 ∨ e = 2 ∨ e = 3 by omega) with rfl | rfl | rfl | rfl <;> decide)]
  rfl
theorem search_rel (hr : ∀ e, e < 4 → Row u.2.2.2.1 e) : fX4_search (mk u th nx br ba fo ra) = mk (fX3_searchEntry u) th nx br ba fo ra := by
  have f4 : fX0_find u.2.2.2.1 (iu (fX2_get u.2.2.1 (8 : Int32)) (7 : Int32)) (fX2_get u.2.2.1 (11 : Int32)) (0 : Int32) = fX0_find_lp u.2.2.2.1 (iu (u.2.2.1 8) (7 : Int32)) (u.2.2.1 11) (3 + 1) 0 := rfl
  show fX4_search_lp (3 + 1) 0 (mk u th nx br ba fo ra) (-1) = _
  have hp : fX4_pairOf (u.2.2.1 8) = iu (u.2.2.1 8) (7 : Int32) := rfl
  have hs : u.2.2.1 11 = u.2.2.1 11 := rfl
  by_cases p0 : pf u.2.2.2.1 (iu (u.2.2.1 8) (7 : Int32)) (u.2.2.1 11) 0
  · obtain ⟨x, e3⟩ := search_x (u := u) (th := th) (nx := nx) (br := br) (ba := ba) (fo := fo) (ra := ra) (x1 := (-1 : Int32)) (n := 3) (i := 0)
    obtain ⟨y, e2⟩ := search_x (u := u) (th := th) (nx := nx) (br := br) (ba := ba) (fo := fo) (ra := ra) (x1 := x) (n := 2) (i := 0)
    obtain ⟨z, e1⟩ := search_x (u := u) (th := th) (nx := nx) (br := br) (ba := ba) (fo := fo) (ra := ra) (x1 := y) (n := 1) (i := 0)
    rw [e3, e2, e1, search_t (by omega) hp hs p0]
    exact search_fin 0 (by omega) (by rw [f4, find_t p0 3])
  · by_cases p1 : pf u.2.2.2.1 (iu (u.2.2.1 8) (7 : Int32)) (u.2.2.1 11) 1
    · obtain ⟨x, e3⟩ := search_x (u := u) (th := th) (nx := nx) (br := br) (ba := ba) (fo := fo) (ra := ra) (x1 := (-1 : Int32)) (n := 3) (i := 0)
      obtain ⟨y, e2⟩ := search_x (u := u) (th := th) (nx := nx) (br := br) (ba := ba) (fo := fo) (ra := ra) (x1 := x) (n := 2) (i := 0)
      rw [e3, e2, search_t (by omega) hp hs p1, search_f (by omega) (hr 0 (by omega)) hp hs p0]
      exact search_fin 1 (by omega) (by rw [f4, find_f p0 3, find_t p1 2])
    · by_cases p2 : pf u.2.2.2.1 (iu (u.2.2.1 8) (7 : Int32)) (u.2.2.1 11) 2
      · obtain ⟨x, e3⟩ := search_x (u := u) (th := th) (nx := nx) (br := br) (ba := ba) (fo := fo) (ra := ra) (x1 := (-1 : Int32)) (n := 3) (i := 0)
        rw [e3, search_t (by omega) hp hs p2, search_f (by omega) (hr 1 (by omega)) hp hs p1, search_f (by omega) (hr 0 (by omega)) hp hs p0]
        exact search_fin 2 (by omega) (by rw [f4, find_f p0 3, find_f p1 2, find_t p2 1])
      · by_cases p3 : pf u.2.2.2.1 (iu (u.2.2.1 8) (7 : Int32)) (u.2.2.1 11) 3
        · rw [search_t (by omega) hp hs p3, search_f (by omega) (hr 2 (by omega)) hp hs p2, search_f (by omega) (hr 1 (by omega)) hp hs p1, search_f (by omega) (hr 0 (by omega)) hp hs p0]
          exact search_fin 3 (by omega) (by rw [f4, find_f p0 3, find_f p1 2, find_f p2 1, find_t p3 0])
        · rw [search_f (by omega) (hr 3 (by omega)) hp hs p3, search_f (by omega) (hr 2 (by omega)) hp hs p2, search_f (by omega) (hr 1 (by omega)) hp hs p1, search_f (by omega) (hr 0 (by omega)) hp hs p0]
          have h : fX0_find u.2.2.2.1 (iu (fX2_get u.2.2.1 (8 : Int32)) (7 : Int32)) (fX2_get u.2.2.1 (11 : Int32)) (0 : Int32) = (-1 : Int32) := by rw [f4, find_f p0 3, find_f p1 2, find_f p2 1, find_f p3 0]; rfl
          rw [fX4_search_lp, if_pos rfl]
          unfold fX3_searchEntry
          rw [h, if_neg (show ¬ (0 : Int32) ≤ (-1 : Int32) by decide)]
          have V : upd u.2.2.1 7 ((u.2.2.1 7) ||| (-2147483648 : Int32)) = fX2_setEmpty u.2.2.1 (1 : Int32) := by
            rw [show fX2_setEmpty u.2.2.1 (1 : Int32) = upd u.2.2.1 7 (((u.2.2.1 7) &&& (2147483647 : Int32)) ||| (-2147483648 : Int32)) from if_neg (by decide), em_or]
          exact congrArg (fun f => mk (ts2 u f) th nx br ba fo ra) V
/-! read -/
theorem half_ix0 {j : Nat} (hj : j < 4) : ix ((2 : Int32) * nI j) = 2 * j := by
  rw [show (2 : Int32) = nI 2 from rfl, pk_mul]
  exact ix_nI (by omega)
theorem half_ix1 {j : Nat} (hj : j < 4) : ix (((2 : Int32) * nI j) + (1 : Int32)) = 2 * j + 1 := half_ix (t := 1) hj (by omega)
theorem ix7_a (x : Int32) (h : x &&& (-2147483645 : Int32) = x) : (x &&& (2147483647 : Int32)) ||| (0 : Int32) = x &&& (3 : Int32) := by
  rw [← h]
  refine b_ext (fun i hi => ?_)
  have k : (bt (-2147483645 : Int32) i && bt (2147483647 : Int32) i) = (bt (-2147483645 : Int32) i && bt (3 : Int32) i) := (by decide +kernel : ∀ i, i < 32 → (bt (-2147483645 : Int32) i && bt (2147483647 : Int32) i) = (bt (-2147483645 : Int32) i && bt (3 : Int32) i)) i hi
  rw [b_or, b_0, Bool.or_false]
  simp only [b_and]
  rw [Bool.and_assoc, Bool.and_assoc, k]
theorem ix7_b (x : Int32) (h : x &&& (-2147483645 : Int32) = x) : (x &&& (2147483647 : Int32)) ||| (-2147483648 : Int32) = (x &&& (3 : Int32)) ||| (-2147483648 : Int32) := by
  have := ix7_a x h
  rw [Int32.or_zero] at this
  rw [this]
theorem add16 (x : Int32) (h : x &&& (16 : Int32) = (0 : Int32)) : x + (16 : Int32) = x ||| (16 : Int32) := by
  refine Int32.toBitVec_inj.mp ?_
  rw [Int32.toBitVec_add, Int32.toBitVec_or]
  exact BitVec.add_eq_or_of_and_eq_zero _ _ (by rw [← Int32.toBitVec_and, h]; rfl)
theorem ms3_5 (a b c d f : Nat → Int32) : ms3 (ms3 (ms3 (ms3 (ms3 (mk u th nx br ba fo ra) a) b) c) d) f = mk (ts2 u f) th nx br ba fo ra := rfl
theorem read_rel (hr : ∀ e, e < 4 → Row u.2.2.2.1 e) (h7 : u.2.2.1 7 &&& (-2147483645 : Int32) = u.2.2.1 7) : fX4_read (mk u th nx br ba fo ra) (u.2.2.1 7 &&& (3 : Int32)) = mk (fX3_readEntry u (u.2.2.1 7 &&& (3 : Int32))) th nx br ba fo ra := by
  obtain ⟨e, he, ee⟩ := pk_andE (u.2.2.1 7) (m := 3) 2 (by decide)
  have he4 : e < 4 := he
  have H := hr e he4
  have i7a := ix7_a _ h7
  have i7b := ix7_b _ h7
  rw [ee] at i7a i7b ⊢
  have ix0 : ix (nI e) = e := ix_nI (by omega)
  have t0 : (mk u th nx br ba fo ra).2.2.2.2.1 (ix (nI e)) = u.2.2.2.1 e 0 := by rw [ix0]; rfl
  have t1 : (mk u th nx br ba fo ra).2.2.2.2.2.1 (ix (nI e)) = u.2.2.2.1 e 3 := by rw [ix0]; rfl
  have t2 : (mk u th nx br ba fo ra).2.2.2.2.2.2.1 (ix (nI e)) = u.2.2.2.1 e 1 := by rw [ix0]; rfl
  have t3 : (mk u th nx br ba fo ra).2.2.2.2.2.2.2.1 (ix (nI e)) = u.2.2.2.1 e 2 := by rw [ix0]; rfl
  have t4 : (mk u th nx br ba fo ra).2.2.2.2.2.2.2.2.1 (ix ((2 : Int32) * nI e)) = u.2.2.2.1 e 4 := by rw [half_ix0 he4]; exact hal_at _ e 0 (by omega)
  have t5 : (mk u th nx br ba fo ra).2.2.2.2.2.2.2.2.1 (ix (((2 : Int32) * nI e) + (1 : Int32))) = u.2.2.2.1 e 5 := by rw [half_ix1 he4]; exact hal_at _ e 1 (by omega)
  have g : ∀ k : Nat, k < 6 → fX0_get u.2.2.2.1 (nI e) (nI k) = u.2.2.2.1 e k := by
    intro k hk
    show u.2.2.2.1 (ix (nI e)) (ix (nI k)) = _
    rw [ix0, ix_nI (by omega)]
  have g0 : fX0_get u.2.2.2.1 (nI e) (0 : Int32) = u.2.2.2.1 e 0 := g 0 (by omega)
  have g1 : fX0_get u.2.2.2.1 (nI e) (1 : Int32) = u.2.2.2.1 e 1 := g 1 (by omega)
  have g2 : fX0_get u.2.2.2.1 (nI e) (2 : Int32) = u.2.2.2.1 e 2 := g 2 (by omega)
  have g3 : fX0_get u.2.2.2.1 (nI e) (3 : Int32) = u.2.2.2.1 e 3 := g 3 (by omega)
  have g4 : fX0_get u.2.2.2.1 (nI e) (4 : Int32) = u.2.2.2.1 e 4 := g 4 (by omega)
  have g5 : fX0_get u.2.2.2.1 (nI e) (5 : Int32) = u.2.2.2.1 e 5 := g 5 (by omega)
  have s0 : fX2_setEmpty u.2.2.1 (0 : Int32) = upd u.2.2.1 7 (nI e) := by
    rw [← i7a]; exact if_pos rfl
  have s1 : fX2_setEmpty u.2.2.1 (1 : Int32) = upd u.2.2.1 7 (nI e ||| (-2147483648 : Int32)) := by
    rw [← i7b]; exact if_neg (by decide)
  have z9 : ∀ x : Int32, x + (0 : Int32) = x ||| (0 : Int32) := fun x => by rw [Int32.add_zero, Int32.or_zero]
  unfold fX4_read fX3_readEntry
  rw [t0, t1, t2, t3, t4, t5, g0, g1, g2, g3, g4, g5, s0, s1]
  have no : mk (ts2 u (upd (upd (upd (upd (upd u.2.2.1 7 (nI e ||| (-2147483648 : Int32))) 8 (0 : Int32)) 9 (0 : Int32)) 10 (0 : Int32)) 11 (u.2.2.1 11))) th nx br ba fo ra = mk (ts2 (ts2 (ts2 (ts2 u (upd u.2.2.1 7 (nI e ||| (-2147483648 : Int32)))) (fX2_set (upd u.2.2.1 7 (nI e ||| (-2147483648 : Int32))) (8 : Int32) (0 : Int32))) (fX2_set (fX2_set (upd u.2.2.1 7 (nI e ||| (-2147483648 : Int32))) (8 : Int32) (0 : Int32)) (9 : Int32) (0 : Int32))) (fX2_set (fX2_set (fX2_set (upd u.2.2.1 7 (nI e ||| (-2147483648 : Int32))) (8 : Int32) (0 : Int32)) (9 : Int32) (0 : Int32)) (10 : Int32) (0 : Int32))) th nx br ba fo ra :=
    congrArg (fun f => mk (ts2 u f) th nx br ba fo ra) (upd_id (upd (upd (upd (upd u.2.2.1 7 (nI e ||| (-2147483648 : Int32))) 8 (0 : Int32)) 9 (0 : Int32)) 10 (0 : Int32)) 11)
  rcases H.1 with c0 | c0
  · rw [if_neg (show ¬ u.2.2.2.1 e 0 = (1 : Int32) by rw [c0]; decide)]
    by_cases c3 : u.2.2.2.1 e 3 = (0 : Int32)
    · rw [if_pos c3, if_pos c0]; exact no
    · rw [if_neg c3, if_pos c0]; exact no
  · rw [if_pos c0]
    rcases H.2.1 with c3 | c3
    · rw [if_pos c3, if_neg (show ¬ u.2.2.2.1 e 0 = (0 : Int32) by rw [c0]; decide), if_neg (show ¬ u.2.2.2.1 e 3 = (1 : Int32) by rw [c3]; decide), z9, z9]
      rfl
    · rw [if_neg (show ¬ u.2.2.2.1 e 3 = (0 : Int32) by rw [c3]; decide), if_neg (show ¬ u.2.2.2.1 e 0 = (0 : Int32) by rw [c0]; decide), if_pos c3, add16 _ H.2.2.1, add16 _ H.2.2.2]
      rfl
/-! fill -/
def W6 (M : Nat → Nat → Int32) (e : Nat) (t p s g x y : Int32) : Nat → Nat → Int32 := gu (gu (gu (gu (gu (gu M e 0 t) e 1 p) e 2 s) e 3 g) e 4 x) e 5 y
theorem gu_at (M : Nat → Nat → Int32) (j i j' i' : Nat) (x : Int32) : gu M j i x j' i' = if j' = j then (if i' = i then x else M j i') else M j' i' := by
  unfold gu
  show (va_up M j (upd (M j) i x)) j' i' = _
  unfold va_up
  by_cases h : j' = j
  · rw [if_pos h]
    by_cases h2 : i' = i <;> simp [h, h2, upd]
  · rw [if_neg h]
    simp [h]
theorem W6_o {M : Nat → Nat → Int32} {e j k : Nat} {t p s g x y : Int32} (h : ¬ j = e) : W6 M e t p s g x y j k = M j k := by
  unfold W6
  rw [gu_at, if_neg h, gu_at, if_neg h, gu_at, if_neg h, gu_at, if_neg h, gu_at, if_neg h, gu_at, if_neg h]
theorem W6_0 (M : Nat → Nat → Int32) (e : Nat) (t p s g x y : Int32) : W6 M e t p s g x y e 0 = t := by unfold W6; simp [gu_at]
theorem W6_1 (M : Nat → Nat → Int32) (e : Nat) (t p s g x y : Int32) : W6 M e t p s g x y e 1 = p := by unfold W6; simp [gu_at]
theorem W6_2 (M : Nat → Nat → Int32) (e : Nat) (t p s g x y : Int32) : W6 M e t p s g x y e 2 = s := by unfold W6; simp [gu_at]
theorem W6_3 (M : Nat → Nat → Int32) (e : Nat) (t p s g x y : Int32) : W6 M e t p s g x y e 3 = g := by unfold W6; simp [gu_at]
theorem W6_4 (M : Nat → Nat → Int32) (e : Nat) (t p s g x y : Int32) : W6 M e t p s g x y e 4 = x := by unfold W6; simp [gu_at]
theorem W6_5 (M : Nat → Nat → Int32) (e : Nat) (t p s g x y : Int32) : W6 M e t p s g x y e 5 = y := by unfold W6; simp [gu_at]
theorem W6_u (M : Nat → Nat → Int32) (e : Nat) (t p s g x y z : Int32) (k : Nat) (h : W6 M e t p s g x y e k = z) : upd (fun j => M j k) e z = fun j => W6 M e t p s g x y j k := by
  funext j
  unfold upd
  by_cases q : j = e
  · subst q; rw [if_pos rfl, h]
  · rw [if_neg q, W6_o q]
theorem W6_h (M : Nat → Nat → Int32) (e : Nat) (t p s g x y : Int32) : upd (upd (hal M) (2 * e) x) (2 * e + 1) y = hal (W6 M e t p s g x y) := by
  funext j
  unfold upd
  by_cases q : j / 2 = e
  · rcases Nat.mod_two_eq_zero_or_one j with r | r
    · have ej : j = 2 * e := by omega
      rw [if_neg (show ¬ j = 2 * e + 1 by omega), if_pos ej]
      unfold hal
      rw [q, r, W6_4]
    · have ej : j = 2 * e + 1 := by omega
      rw [if_pos ej]
      unfold hal
      rw [q, r, W6_5]
  · rw [if_neg (show ¬ j = 2 * e + 1 by omega), if_neg (show ¬ j = 2 * e by omega)]
    unfold hal
    rw [W6_o q]
def mkQ (u : TM) (th nx br ba fo ra : Int32) (a g p s h : Nat → Int32) : MD := (th, u.1, u.2.1, u.2.2.1, a, g, p, s, h, u.2.2.2.2.1, nx, u.2.2.2.2.2.2.1, u.2.2.2.2.2.1, (if u.2.2.2.2.2.2.2.1 = (1 : Int32) then (1 : Int32) else (0 : Int32)), (if u.2.2.2.2.2.2.2.1 = (2 : Int32) then (1 : Int32) else (0 : Int32)), br, ba, fo, ra)
theorem mk_Q (M : Nat → Nat → Int32) : mk (ts3 u M) th nx br ba fo ra = mkQ u th nx br ba fo ra (fun e => M e 0) (fun e => M e 3) (fun e => M e 1) (fun e => M e 2) (hal M) := rfl
theorem fill6 (e : Nat) (t p s g x y : Int32) : mkQ u th nx br ba fo ra (upd (fun j => u.2.2.2.1 j 0) e t) (upd (fun j => u.2.2.2.1 j 3) e g) (upd (fun j => u.2.2.2.1 j 1) e p) (upd (fun j => u.2.2.2.1 j 2) e s) (upd (upd (hal u.2.2.2.1) (2 * e) x) (2 * e + 1) y) = mk (ts3 u (W6 u.2.2.2.1 e t p s g x y)) th nx br ba fo ra := by
  rw [mk_Q, W6_u u.2.2.2.1 e t p s g x y t 0 (W6_0 ..), W6_u u.2.2.2.1 e t p s g x y g 3 (W6_3 ..), W6_u u.2.2.2.1 e t p s g x y p 1 (W6_1 ..), W6_u u.2.2.2.1 e t p s g x y s 2 (W6_2 ..), W6_h u.2.2.2.1 e t p s g x y]
theorem neg31 (x : Int32) : x &&& (-2147483648 : Int32) = (0 : Int32) ↔ (0 : Int32) ≤ x := by
  rw [bitz 31 (by omega) _ (-2147483648 : Int32) (by decide)]
  rw [Int32.le_iff_toInt_le, show (0 : Int32).toInt = 0 from by decide]
  show x.toBitVec.getLsbD 31 = false ↔ 0 ≤ x.toBitVec.toInt
  have e : x.toBitVec.getLsbD 31 = x.toBitVec.msb := by rw [BitVec.msb_eq_getLsbD_last]
  rw [e, BitVec.toInt_eq_msb_cond]
  have l : x.toBitVec.toNat < 2 ^ 32 := x.toBitVec.isLt
  cases x.toBitVec.msb
  · simp
  · simp; omega
theorem g16 (x y : Int32) : (x &&& y) &&& (16 : Int32) = (0 : Int32) ↔ (x &&& (16 : Int32) = (0 : Int32) ∨ y &&& (16 : Int32) = (0 : Int32)) := by
  rw [bitz 4 (by omega) _ (16 : Int32) rfl, bitz 4 (by omega) _ (16 : Int32) rfl, bitz 4 (by omega) _ (16 : Int32) rfl, b_and]
  cases bt x 4 <;> cases bt y 4 <;> simp
def thr (v : Nat → Int32) : Int32 := if fX2_isEmpty v = (0 : Int32) then (1 : Int32) else if fX2_code v = (63 : Int32) then (1 : Int32) else (0 : Int32)
def glb (v : Nat → Int32) : Int32 := if ((v 9 &&& v 10) &&& (16 : Int32)) = (0 : Int32) then (0 : Int32) else (1 : Int32)
theorem write_W6 (a : Int32) : fX3_writeEntry u a = ts3 u (W6 u.2.2.2.1 (ix a) (thr u.2.2.1) (iu (u.2.2.1 8) (7 : Int32)) (u.2.2.1 11) (glb u.2.2.1) (u.2.2.1 9 &&& (-17 : Int32)) (u.2.2.1 10 &&& (-17 : Int32))) := by
  have hs : ∀ t : Int32, (t = 0 ∨ t = 1) → fX0_setHalves (fX0_set u.2.2.2.1 a t (iu (fX2_get u.2.2.1 (8 : Int32)) (7 : Int32)) (fX2_get u.2.2.1 (11 : Int32))) a (fX2_get u.2.2.1 (9 : Int32)) (fX2_get u.2.2.1 (10 : Int32)) = W6 u.2.2.2.1 (ix a) t (iu (u.2.2.1 8) (7 : Int32)) (u.2.2.1 11) (glb u.2.2.1) (u.2.2.1 9 &&& (-17 : Int32)) (u.2.2.1 10 &&& (-17 : Int32)) := by
    intro t ht
    have e1 : fX0_set u.2.2.2.1 a t (iu (fX2_get u.2.2.1 (8 : Int32)) (7 : Int32)) (fX2_get u.2.2.1 (11 : Int32)) = gu (gu (gu u.2.2.2.1 (ix a) 0 t) (ix a) 1 (iu (u.2.2.1 8) (7 : Int32))) (ix a) 2 (u.2.2.1 11) := by
      rcases ht with rfl | rfl
      · exact if_pos rfl
      · exact if_neg (by decide)
    rw [e1]
    unfold glb
    by_cases q : ((u.2.2.1 9 &&& u.2.2.1 10) &&& (16 : Int32)) = (0 : Int32)
    · rw [if_pos q]; exact if_pos q
    · rw [if_neg q]; exact if_neg q
  unfold fX3_writeEntry thr
  by_cases q : fX2_isEmpty u.2.2.1 = (0 : Int32)
  · rw [if_pos q, if_pos q, hs 1 (Or.inr rfl)]; rfl
  · rw [if_neg q, if_neg q]
    by_cases r : fX2_code u.2.2.1 = (63 : Int32)
    · rw [if_pos r, if_pos r, hs 1 (Or.inr rfl)]; rfl
    · rw [if_neg r, if_neg r, hs 0 (Or.inl rfl)]; rfl
theorem fill_rel (e : Nat) (he : e < 4) : fX4_fill (mk u th nx br ba fo ra) (nI e) = mk (fX3_writeEntry u (nI e)) th nx br ba fo ra := by
  rw [write_W6, ix_nI (by omega)]
  have ix0 : ix (nI e) = e := ix_nI (by omega)
  have cd : fX2_code u.2.2.1 = (((u.2.2.1 3) >>> ((16 : Int32) &&& 31)) &&& (63 : Int32)) := (cd_eq _).symm
  have en : fX2_isEmpty u.2.2.1 = (0 : Int32) ↔ (0 : Int32) ≤ u.2.2.1 7 := by
    rw [← neg31]
    unfold fX2_isEmpty
    by_cases q : (u.2.2.1 7 &&& (-2147483648 : Int32)) = (0 : Int32)
    · simp [q]
    · simp [q]
  have fin : ∀ t g : Int32, ms4 (ms8 (ms8 (ms5 (ms7 (ms6 (mk u th nx br ba fo ra) (upd (mk u th nx br ba fo ra).2.2.2.2.2.2.1 e (fX4_pairOf ((mk u th nx br ba fo ra).2.2.2.1 8)))) (upd (mk u th nx br ba fo ra).2.2.2.2.2.2.2.1 e ((mk u th nx br ba fo ra).2.2.2.1 11))) (upd (mk u th nx br ba fo ra).2.2.2.2.2.1 e g)) (upd (mk u th nx br ba fo ra).2.2.2.2.2.2.2.2.1 (2 * e) (((mk u th nx br ba fo ra).2.2.2.1 9) &&& (-17 : Int32)))) (upd (upd (mk u th nx br ba fo ra).2.2.2.2.2.2.2.2.1 (2 * e) (((mk u th nx br ba fo ra).2.2.2.1 9) &&& (-17 : Int32))) (2 * e + 1) (((mk u th nx br ba fo ra).2.2.2.1 10) &&& (-17 : Int32)))) (upd (mk u th nx br ba fo ra).2.2.2.2.1 e t) = mk (ts3 u (W6 u.2.2.2.1 e t (iu (u.2.2.1 8) (7 : Int32)) (u.2.2.1 11) g (u.2.2.1 9 &&& (-17 : Int32)) (u.2.2.1 10 &&& (-17 : Int32)))) th nx br ba fo ra := fun t g => fill6 e t (iu (u.2.2.1 8) (7 : Int32)) (u.2.2.1 11) g (u.2.2.1 9 &&& (-17 : Int32)) (u.2.2.1 10 &&& (-17 : Int32))
  unfold fX4_fill
  rw [ix0, half_ix0 he, half_ix1 he]
  have v9 : (mk u th nx br ba fo ra).2.2.2.1 = u.2.2.1 := rfl
  have cdz : ∀ a b c d f : Nat → Int32, fX4_codeOf (ms8 (ms8 (ms5 (ms7 (ms6 (mk u th nx br ba fo ra) a) b) c) d) f) = fX2_code u.2.2.1 := fun a b c d f => cd.symm
  simp only [cdz]
  have T1 : (0 : Int32) ≤ u.2.2.1 7 → thr u.2.2.1 = (1 : Int32) := fun q => if_pos (en.mpr q)
  have T2 : ¬ (0 : Int32) ≤ u.2.2.1 7 → fX2_code u.2.2.1 = (63 : Int32) → thr u.2.2.1 = (1 : Int32) := fun q r => (if_neg (fun z => q (en.mp z))).trans (if_pos r)
  have T3 : ¬ (0 : Int32) ≤ u.2.2.1 7 → ¬ fX2_code u.2.2.1 = (63 : Int32) → thr u.2.2.1 = (0 : Int32) := fun q r => (if_neg (fun z => q (en.mp z))).trans (if_neg r)
  by_cases c9 : (u.2.2.1 9 &&& (16 : Int32)) = (0 : Int32)
  · have G : glb u.2.2.1 = (0 : Int32) := if_pos ((g16 _ _).mpr (Or.inl c9))
    rw [G]
    refine (if_pos c9).trans ?_
    by_cases q : (0 : Int32) ≤ u.2.2.1 7
    · rw [T1 q]; exact (if_pos q).trans (fin 1 0)
    · by_cases r : fX2_code u.2.2.1 = (63 : Int32)
      · rw [T2 q r]; exact (if_neg q).trans ((if_pos r).trans (fin 1 0))
      · rw [T3 q r]; exact (if_neg q).trans ((if_neg r).trans (fin 0 0))
  · refine (if_neg c9).trans ?_
    by_cases c10 : (u.2.2.1 10 &&& (16 : Int32)) = (0 : Int32)
    · have G : glb u.2.2.1 = (0 : Int32) := if_pos ((g16 _ _).mpr (Or.inr c10))
      rw [G]
      refine (if_pos c10).trans ?_
      by_cases q : (0 : Int32) ≤ u.2.2.1 7
      · rw [T1 q]; exact (if_pos q).trans (fin 1 0)
      · by_cases r : fX2_code u.2.2.1 = (63 : Int32)
        · rw [T2 q r]; exact (if_neg q).trans ((if_pos r).trans (fin 1 0))
        · rw [T3 q r]; exact (if_neg q).trans ((if_neg r).trans (fin 0 0))
    · have G : glb u.2.2.1 = (1 : Int32) := if_neg (fun z => by rcases (g16 _ _).mp z with z | z; exact c9 z; exact c10 z)
      rw [G]
      refine (if_neg c10).trans ?_
      by_cases q : (0 : Int32) ≤ u.2.2.1 7
      · rw [T1 q]; exact (if_pos q).trans (fin 1 1)
      · by_cases r : fX2_code u.2.2.1 = (63 : Int32)
        · rw [T2 q r]; exact (if_neg q).trans ((if_pos r).trans (fin 1 1))
        · rw [T3 q r]; exact (if_neg q).trans ((if_neg r).trans (fin 0 1))
/-! empty -/
theorem gu0_u (M : Nat → Nat → Int32) (i : Nat) (z : Int32) : upd (fun j => M j 0) i z = fun j => gu M i 0 z j 0 := by
  funext j
  rw [gu_at]
  unfold upd
  by_cases q : j = i
  · simp [q]
  · simp [q]
theorem gu0_o (M : Nat → Nat → Int32) (i j k : Nat) (z : Int32) (h : ¬ k = 0) : gu M i 0 z j k = M j k := by
  rw [gu_at]
  by_cases q : j = i
  · subst q; simp [h]
  · simp [q]
theorem em1 (i : Nat) (z : Int32) : ms4 (mk u th nx br ba fo ra) (upd (mk u th nx br ba fo ra).2.2.2.2.1 i z) = mk (ts3 u (gu u.2.2.2.1 i 0 z)) th nx br ba fo ra := by
  rw [mk_Q]
  have a1 : (fun j => gu u.2.2.2.1 i 0 z j 3) = fun j => u.2.2.2.1 j 3 := by funext j; exact gu0_o _ _ _ _ _ (by decide)
  have a2 : (fun j => gu u.2.2.2.1 i 0 z j 1) = fun j => u.2.2.2.1 j 1 := by funext j; exact gu0_o _ _ _ _ _ (by decide)
  have a3 : (fun j => gu u.2.2.2.1 i 0 z j 2) = fun j => u.2.2.2.1 j 2 := by funext j; exact gu0_o _ _ _ _ _ (by decide)
  have a4 : hal (gu u.2.2.2.1 i 0 z) = hal u.2.2.2.1 := by funext j; exact gu0_o _ _ _ _ _ (by omega)
  rw [a1, a2, a3, a4, ← gu0_u]
  rfl
theorem Row_gu0 {M : Nat → Nat → Int32} {i e : Nat} (h : Row M e) : Row (gu M i 0 (0 : Int32)) e := by
  refine ⟨?_, ?_, ?_, ?_⟩
  · rw [gu_at]
    by_cases q : e = i
    · rw [if_pos q, if_pos rfl]; exact Or.inl rfl
    · rw [if_neg q]; exact h.1
  · rw [gu0_o _ _ _ _ _ (by decide)]; exact h.2.1
  · rw [gu0_o _ _ _ _ _ (by decide)]; exact h.2.2.1
  · rw [gu0_o _ _ _ _ _ (by decide)]; exact h.2.2.2
/-- which rows go -/
def goes (M : Nat → Nat → Int32) (k s p : Int32) (i : Nat) : Prop := k = 0 ∨ (k = 1 ∧ M i 3 = (1 : Int32)) ∨ (k = 2 ∧ M i 3 = (0 : Int32)) ∨ (k = 3 ∧ M i 3 = (0 : Int32) ∧ M i 2 = s) ∨ (k = 4 ∧ M i 3 = (0 : Int32) ∧ M i 2 = s ∧ M i 1 = p)
theorem kind_t {M : Nat → Nat → Int32} {k s p : Int32} {i : Nat} (hi : i < 4) (hk : k = 0 ∨ k = 1 ∨ k = 2 ∨ k = 3 ∨ k = 4) (h : goes M k s p i) : ¬ fX0_isOfKind M (nI i) k s p = (0 : Int32) := by
  have ix0 : ix (nI i) = i := ix_nI (by omega)
  unfold fX0_isOfKind
  rw [ix0]
  rcases h with rfl | ⟨rfl, h3⟩ | ⟨rfl, h3⟩ | ⟨rfl, h3, h2⟩ | ⟨rfl, h3, h2, h1⟩
  · by_cases a : M i 3 = (1 : Int32) <;> by_cases b : M i 2 = s <;> simp [a, b]
  · by_cases b : M i 2 = s <;> simp [h3, b]
  · by_cases b : M i 2 = s <;> simp [h3, b]
  · simp [h3, h2]
  · simp [h3, h2, h1]
theorem kind_f {M : Nat → Nat → Int32} {k s p : Int32} {i : Nat} (hi : i < 4) (hr : Row M i) (hk : k = 0 ∨ k = 1 ∨ k = 2 ∨ k = 3 ∨ k = 4) (h : ¬ goes M k s p i) : fX0_isOfKind M (nI i) k s p = (0 : Int32) := by
  have ix0 : ix (nI i) = i := ix_nI (by omega)
  unfold goes at h
  unfold fX0_isOfKind
  rw [ix0]
  rcases hk with rfl | rfl | rfl | rfl | rfl
  · exact absurd (Or.inl rfl) h
  · rcases hr.2.1 with a | a
    · by_cases b : M i 2 = s <;> simp [a, b]
    · exact absurd (Or.inr (Or.inl ⟨rfl, a⟩)) h
  · rcases hr.2.1 with a | a
    · exact absurd (Or.inr (Or.inr (Or.inl ⟨rfl, a⟩))) h
    · by_cases b : M i 2 = s <;> simp [a, b]
  · rcases hr.2.1 with a | a
    · by_cases b : M i 2 = s
      · exact absurd (Or.inr (Or.inr (Or.inr (Or.inl ⟨rfl, a, b⟩)))) h
      · simp [a, b]
    · by_cases b : M i 2 = s <;> simp [a, b]
  · rcases hr.2.1 with a | a
    · by_cases b : M i 2 = s
      · by_cases c : M i 1 = p
        · exact absurd (Or.inr (Or.inr (Or.inr (Or.inr ⟨rfl, a, b, c⟩)))) h
        · simp [a, b, c]
      · simp [a, b]
    · by_cases b : M i 2 = s <;> simp [a, b]
end Rel9
