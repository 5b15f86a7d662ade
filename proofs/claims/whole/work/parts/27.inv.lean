/-! ### what stays true of the class's state -/
theorem sm_l {x M : Int32} (h : x &&& M = x) (z : Int32) : (x &&& z) &&& M = x &&& z := by
  refine b_ext (fun i hi => ?_)
  have e : bt (x &&& M) i = bt x i := by rw [h]
  rw [b_and] at e
  simp only [b_and]
  revert e
  cases bt x i <;> cases bt M i <;> cases bt z i <;> simp
theorem sm_r {C M : Int32} (h : C &&& M = C) (y b : Int32) : (y &&& (b &&& C)) &&& M = y &&& (b &&& C) := by
  rw [Int32.and_assoc, Int32.and_assoc, h]
theorem sm_o {x y M : Int32} (h : x &&& M = x) (k : y &&& M = y) : (x ||| y) &&& M = x ||| y := by
  refine b_ext (fun i hi => ?_)
  have e : bt (x &&& M) i = bt x i := by rw [h]
  have f : bt (y &&& M) i = bt y i := by rw [k]
  rw [b_and] at e f
  simp only [b_and, b_or]
  revert e f
  cases bt x i <;> cases bt M i <;> cases bt y i <;> simp
theorem or3 (z : Int32) : (z ||| (3 : Int32)) &&& (3 : Int32) = (3 : Int32) := by
  refine b_ext (fun i hi => ?_)
  simp only [b_and, b_or]
  cases bt z i <;> cases bt (3 : Int32) i <;> rfl
theorem or8 (z : Int32) : (z ||| (8 : Int32)) &&& (3 : Int32) = z &&& (3 : Int32) := by
  refine b_ext (fun i hi => ?_)
  have k : (bt (8 : Int32) i && bt (3 : Int32) i) = false := (by decide +kernel : ∀ i, i < 32 → (bt (8 : Int32) i && bt (3 : Int32) i) = false) i hi
  simp only [b_and, b_or]
  revert k
  cases bt z i <;> cases bt (3 : Int32) i <;> cases bt (8 : Int32) i <;> simp
theorem nn_bit {x : Int32} (h : bt x 31 = false) : (0 : Int32) ≤ x := (neg31 x).mp ((bitz 31 (by omega) _ (-2147483648 : Int32) (by decide)).mpr h)
theorem nn_st (x : Int32) : (0 : Int32) ≤ x &&& (65532 : Int32) := nn_bit (by rw [b_and, show bt (65532 : Int32) 31 = false from by decide, Bool.and_false])
def InvV (v : Nat → Int32) : Prop := (v 0 &&& (3 : Int32) = (0 : Int32) ∨ v 0 &&& (3 : Int32) = (3 : Int32)) ∧ (v 1 &&& (7 : Int32) = v 1) ∧ (v 1 &&& (3 : Int32) = (0 : Int32) ∨ v 1 &&& (3 : Int32) = (3 : Int32)) ∧ (v 3 &&& (4128799 : Int32) = v 3) ∧ (v 7 &&& (-2147483645 : Int32) = v 7) ∧ (0 : Int32) ≤ v 15
def Inv (u : TM) : Prop := InvV u.2.2.1 ∧ (∀ e, e < 4 → Row u.2.2.2.1 e) ∧ vp_in u.2.2.2.2.2.2.1 4 ∧ (u.2.2.2.2.2.2.2.1 = (0 : Int32) ∨ u.2.2.2.2.2.2.2.1 = (1 : Int32) ∨ u.2.2.2.2.2.2.2.1 = (2 : Int32))
section Inv1
variable {v : Nat → Int32}
theorem lv3 (z L : Int32) (hL : L = (3 : Int32)) : (if z &&& L = (0 : Int32) then z else z ||| L) &&& (3 : Int32) = (0 : Int32) ∨ (if z &&& L = (0 : Int32) then z else z ||| L) &&& (3 : Int32) = (3 : Int32) := by
  subst hL
  by_cases q : z &&& (3 : Int32) = (0 : Int32)
  · rw [if_pos q]; exact Or.inl q
  · rw [if_neg q]; exact Or.inr (or3 z)
def wrz (v : Nat → Int32) (j : Nat) (y b : Int32) : Int32 := ((v j) &&& ((b &&& (cnt j)) ^^^ (-1 : Int32))) ||| (y &&& (b &&& (cnt j)))
def wrx (v : Nat → Int32) (j : Nat) (y b : Int32) : Int32 := if (wrz v j y b) &&& (lvb j) = (0 : Int32) then wrz v j y b else (wrz v j y b) ||| (lvb j)
theorem write_o {j : Nat} (hj : j < 18) (h3 : j ≠ 3) (h14 : j ≠ 14) (y b : Int32) : fX2_write v (nI j) y b = upd v j (wrx v j y b) := by
  have ej : ix (nI j) = j := ix_nI (by omega)
  have n3 : ¬ nI j = (3 : Int32) := kn_ne (b := 3) h3 (by omega) (by omega)
  have n14 : ¬ nI j = (14 : Int32) := kn_ne (b := 14) h14 (by omega) (by omega)
  unfold fX2_write wrx
  rw [ej, if_neg n3, if_neg n14, if_neg n14]
  by_cases q : (wrz v j y b) &&& (lvb j) = (0 : Int32)
  · rw [if_pos q]; exact if_pos q
  · rw [if_neg q]; exact if_neg q
theorem write_14 (y b : Int32) : ∃ x z : Int32, fX2_write v (14 : Int32) y b = upd (upd v 14 x) 15 (z &&& (65532 : Int32)) := by
  unfold fX2_write
  rw [if_neg (show ¬ (14 : Int32) = 3 by decide), if_pos (show (14 : Int32) = 14 from rfl), if_pos (show (14 : Int32) = 14 from rfl)]
  by_cases q : ((((v (ix (14 : Int32))) &&& ((b &&& (cnt (ix (14 : Int32)))) ^^^ (-1 : Int32))) ||| (y &&& (b &&& (cnt (ix (14 : Int32)))))) &&& (lvb (ix (14 : Int32)))) = (0 : Int32)
  · rw [if_pos q]; exact ⟨_, _, rfl⟩
  · rw [if_neg q]; exact ⟨_, _, rfl⟩
theorem sm_wrx {j : Nat} {M : Int32} (hv : v j &&& M = v j) (hC : cnt j &&& M = cnt j) (hL : lvb j &&& M = lvb j) (y b : Int32) : (wrx v j y b) &&& M = wrx v j y b := by
  have hz : (wrz v j y b) &&& M = wrz v j y b := sm_o (sm_l hv _) (sm_r hC y b)
  unfold wrx
  by_cases q : (wrz v j y b) &&& (lvb j) = (0 : Int32)
  · rw [if_pos q]; exact hz
  · rw [if_neg q]; exact sm_o hz hL
theorem InvV_write (I : InvV v) {a : Int32} (h : vp_in a 18) (y b : Int32) : InvV (fX2_write v a y b) := by
  obtain ⟨j, hj, rfl⟩ := vp_in_of h (by omega)
  obtain ⟨i0, i1, i2, i3, i7, i15⟩ := I
  by_cases h3 : j = 3
  · subst h3
    rw [show fX2_write v (nI 3) y b = upd v 3 ((v 3) &&& ((y &&& (b &&& (cnt (ix (nI 3))))) ^^^ (-1 : Int32))) from if_pos (by decide)]
    exact ⟨i0, i1, i2, sm_l i3 _, i7, i15⟩
  · by_cases h14 : j = 14
    · subst h14
      obtain ⟨x, z, e⟩ := write_14 (v := v) y b
      rw [show nI 14 = (14 : Int32) from rfl, e]
      exact ⟨i0, i1, i2, i3, i7, nn_st z⟩
    · rw [write_o hj h3 h14]
      rcases (show j = 0 ∨ j = 1 ∨ j = 2 ∨ j = 4 ∨ j = 5 ∨ j = 6 ∨ j = 7 ∨ j = 8 ∨ j = 9 ∨ j = 10 ∨ j = 11 ∨ j = 12 ∨ j = 13 ∨ j = 15 ∨ j = 16 ∨ j = 17 by omega) with rfl | rfl | rfl | rfl | rfl | rfl | rfl | rfl | rfl | rfl | rfl | rfl | rfl | rfl | rfl | rfl
      · exact ⟨lv3 _ _ rfl, i1, i2, i3, i7, i15⟩
      · exact ⟨i0, sm_wrx i1 (by decide) (by decide) y b, lv3 _ _ rfl, i3, i7, i15⟩
      · exact ⟨i0, i1, i2, i3, i7, i15⟩
      · exact ⟨i0, i1, i2, i3, i7, i15⟩
      · exact ⟨i0, i1, i2, i3, i7, i15⟩
      · exact ⟨i0, i1, i2, i3, i7, i15⟩
      · exact ⟨i0, i1, i2, i3, sm_wrx i7 (by decide) (by decide) y b, i15⟩
      · exact ⟨i0, i1, i2, i3, i7, i15⟩
      · exact ⟨i0, i1, i2, i3, i7, i15⟩
      · exact ⟨i0, i1, i2, i3, i7, i15⟩
      · exact ⟨i0, i1, i2, i3, i7, i15⟩
      · exact ⟨i0, i1, i2, i3, i7, i15⟩
      · exact ⟨i0, i1, i2, i3, i7, i15⟩
      · refine ⟨i0, i1, i2, i3, i7, ?_⟩
        show (0 : Int32) ≤ wrx v 15 y b
        have e : wrz v 15 y b = v 15 := by
          unfold wrz
          rw [show cnt 15 = (0 : Int32) from rfl, Int32.and_zero, Int32.and_zero, show (0 : Int32) ^^^ (-1 : Int32) = (-1 : Int32) from by decide, Int32.and_neg_one, Int32.or_zero]
        unfold wrx
        rw [e, show lvb 15 = (0 : Int32) from rfl, Int32.and_zero, if_pos rfl]
        exact i15
      · exact ⟨i0, i1, i2, i3, i7, i15⟩
      · exact ⟨i0, i1, i2, i3, i7, i15⟩
theorem c16 : ∀ n, n < 64 → (nI n <<< ((16 : Int32) &&& 31)) &&& (4128799 : Int32) = nI n <<< ((16 : Int32) &&& 31) := by decide +kernel
theorem m8_3 (x : Int32) : (x &&& (-8 : Int32)) &&& (3 : Int32) = (0 : Int32) := by
  rw [Int32.and_assoc, show (-8 : Int32) &&& (3 : Int32) = (0 : Int32) from by decide, Int32.and_zero]
theorem InvV_enter (I : InvV v) {c : Int32} (h : vp_in c 64) (p : Int32) : InvV (fX2_enter v c p) := by
  obtain ⟨n, hn, rfl⟩ := vp_in_of h (by omega)
  obtain ⟨i0, i1, i2, i3, i7, i15⟩ := I
  refine ⟨Or.inl (m8_3 _), ?_, ?_, ?_, i7, i15⟩
  · show (v 0 &&& (7 : Int32)) &&& (7 : Int32) = v 0 &&& (7 : Int32)
    rw [Int32.and_assoc]; rfl
  · show (v 0 &&& (7 : Int32)) &&& (3 : Int32) = (0 : Int32) ∨ (v 0 &&& (7 : Int32)) &&& (3 : Int32) = (3 : Int32)
    rw [Int32.and_assoc, show (7 : Int32) &&& (3 : Int32) = (3 : Int32) from by decide]
    exact i0
  · exact sm_o (sm_l i3 _) (c16 n hn)
theorem InvV_dir (I : InvV v) : InvV (fX2_setDirect v) := by
  obtain ⟨i0, i1, i2, i3, i7, i15⟩ := I
  refine ⟨?_, i1, i2, i3, i7, i15⟩
  show (v 0 ||| (8 : Int32)) &&& (3 : Int32) = (0 : Int32) ∨ (v 0 ||| (8 : Int32)) &&& (3 : Int32) = (3 : Int32)
  rw [or8]; exact i0
theorem InvV_tick (I : InvV v) : InvV (fX2_tick v) := by
  obtain ⟨i0, i1, i2, i3, i7, i15⟩ := I
  have s16 : (v 3 ||| (16 : Int32)) &&& (4128799 : Int32) = v 3 ||| (16 : Int32) := sm_o i3 (by decide)
  unfold fX2_tick
  by_cases q1 : ((v 14) &&& (1 : Int32)) = (0 : Int32)
  · rw [if_pos q1]; exact ⟨i0, i1, i2, i3, i7, i15⟩
  · by_cases q2 : (v 15) = (0 : Int32)
    · rw [if_neg q1, if_pos q2]; exact ⟨i0, i1, i2, i3, i7, i15⟩
    · have d : (0 : Int32) ≤ v 15 - (1 : Int32) := by
        obtain ⟨j, hj, e⟩ := nI_of (x := v 15) (Int32.not_lt.mpr i15)
        have hj0 : j ≠ 0 := fun q => q2 (by rw [e, q]; rfl)
        rw [e, show nI j = nI (j - 1) + (1 : Int32) from by rw [nI_1, Nat.sub_add_cancel (by omega)], Int32.add_sub_cancel]
        exact nI_pos' (by omega)
      by_cases q3 : ((v 15) - (1 : Int32)) = (0 : Int32)
      · by_cases q4 : ((v 14) &&& (2 : Int32)) = (0 : Int32)
        · rw [if_neg q1, if_neg q2, if_pos q3, if_pos q4]; exact ⟨i0, i1, i2, s16, i7, d⟩
        · rw [if_neg q1, if_neg q2, if_pos q3, if_neg q4]; exact ⟨i0, i1, i2, s16, i7, nn_st _⟩
      · rw [if_neg q1, if_neg q2, if_neg q3]; exact ⟨i0, i1, i2, i3, i7, d⟩
theorem ln_m : ∀ k, k < 4 → ((1 : Int32) <<< (nI k &&& 31)) &&& (4128799 : Int32) = (1 : Int32) <<< (nI k &&& 31) := by decide +kernel
theorem InvV_line (I : InvV v) {k : Int32} (h : vp_in k 4) (up : Int32) : InvV (fX2_setLine v k up) := by
  obtain ⟨n, hn, rfl⟩ := vp_in_of h (by omega)
  obtain ⟨i0, i1, i2, i3, i7, i15⟩ := I
  unfold fX2_setLine
  by_cases q : up = (0 : Int32)
  · rw [if_pos q]; exact ⟨i0, i1, i2, sm_o (sm_l i3 _) (by decide), i7, i15⟩
  · rw [if_neg q]; exact ⟨i0, i1, i2, sm_o (sm_l i3 _) (ln_m n hn), i7, i15⟩
theorem lv_l (x y : Int32) : ((x &&& (8 : Int32)) ||| y) &&& (3 : Int32) = y &&& (3 : Int32) := by
  refine b_ext (fun i hi => ?_)
  have k : (bt (8 : Int32) i && bt (3 : Int32) i) = false := (by decide +kernel : ∀ i, i < 32 → (bt (8 : Int32) i && bt (3 : Int32) i) = false) i hi
  simp only [b_and, b_or]
  revert k
  cases bt x i <;> cases bt (3 : Int32) i <;> cases bt (8 : Int32) i <;> cases bt y i <;> simp
theorem InvV_leave (I : InvV v) : InvV (fX2_leave v) := by
  obtain ⟨i0, i1, i2, i3, i7, i15⟩ := I
  unfold fX2_leave
  by_cases q : (fX2_code (upd v 0 (((v 0) &&& (8 : Int32)) ||| (v 1)))) = (63 : Int32)
  · rw [if_pos q]
    refine ⟨?_, i1, i2, i3, i7, i15⟩
    show ((((v 0) &&& (8 : Int32)) ||| (v 1)) &&& (-9 : Int32)) &&& (3 : Int32) = (0 : Int32) ∨ ((((v 0) &&& (8 : Int32)) ||| (v 1)) &&& (-9 : Int32)) &&& (3 : Int32) = (3 : Int32)
    rw [Int32.and_assoc, show (-9 : Int32) &&& (3 : Int32) = (3 : Int32) from by decide, lv_l]
    exact i2
  · rw [if_neg q]
    refine ⟨?_, i1, i2, i3, i7, i15⟩
    show (((v 0) &&& (8 : Int32)) ||| (v 1)) &&& (3 : Int32) = (0 : Int32) ∨ (((v 0) &&& (8 : Int32)) ||| (v 1)) &&& (3 : Int32) = (3 : Int32)
    rw [lv_l]
    exact i2
theorem InvV_empty (I : InvV v) (k : Int32) : InvV (fX2_setEmpty v k) := by
  obtain ⟨i0, i1, i2, i3, i7, i15⟩ := I
  unfold fX2_setEmpty
  by_cases q : k = (0 : Int32)
  · rw [if_pos q]; exact ⟨i0, i1, i2, i3, sm_o (sm_l i7 _) (by decide), i15⟩
  · rw [if_neg q]; exact ⟨i0, i1, i2, i3, sm_o (sm_l i7 _) (by decide), i15⟩
theorem InvV_set7 (I : InvV v) {e : Nat} (he : e < 4) : InvV (fX2_set v (7 : Int32) (nI e)) := by
  obtain ⟨i0, i1, i2, i3, i7, i15⟩ := I
  refine ⟨i0, i1, i2, i3, ?_, i15⟩
  show nI e &&& (-2147483645 : Int32) = nI e
  exact (by decide +kernel : ∀ e, e < 4 → nI e &&& (-2147483645 : Int32) = nI e) e he
theorem InvV_5 (I : InvV v) (x : Int32) : InvV (fX2_set v (5 : Int32) x) := I
theorem InvV_8 (I : InvV v) (x : Int32) : InvV (fX2_set v (8 : Int32) x) := I
theorem InvV_9 (I : InvV v) (x : Int32) : InvV (fX2_set v (9 : Int32) x) := I
theorem InvV_10 (I : InvV v) (x : Int32) : InvV (fX2_set v (10 : Int32) x) := I
theorem InvV_11 (I : InvV v) (x : Int32) : InvV (fX2_set v (11 : Int32) x) := I
end Inv1
section Inv2
variable {u : TM}
/-- only these four parts count -/
theorem Inv_of (I : Inv u) {U : TM} (e1 : U.2.2.1 = u.2.2.1) (e2 : U.2.2.2.1 = u.2.2.2.1) (e3 : U.2.2.2.2.2.2.1 = u.2.2.2.2.2.2.1) (e4 : U.2.2.2.2.2.2.2.1 = u.2.2.2.2.2.2.2.1) : Inv U := by
  unfold Inv
  rw [e1, e2, e3, e4]
  exact I
theorem Inv_v (I : Inv u) {V : Nat → Int32} (h : InvV V) : Inv (ts2 u V) := ⟨h, I.2⟩
theorem Inv_c (I : Inv u) {c : Int32} (h : c = 0 ∨ c = 1 ∨ c = 2) : Inv (ts7 u c) := ⟨I.1, I.2.1, I.2.2.1, h⟩
theorem Inv_p (I : Inv u) (p : Int32) : Inv (ts4 u p) := I
theorem Inv_l (I : Inv u) (p : Int32) : Inv (ts5 u p) := I
theorem Inv_t (I : Inv u) (p : Int32) : Inv (ts8 u p) := I
theorem Inv_m (I : Inv u) (m : Nat → Int32) : Inv (ts0 u m) := I
theorem Inv_setA (I : Inv u) (w x : Int32) : Inv (fX3_setA u w x) := by
  unfold fX3_setA
  by_cases q : ((iu w (16 : Int32)) &&& (7 : Int32)) = (0 : Int32)
  · rw [if_pos q]; exact I
  · rw [if_neg q]; exact I
theorem Inv_raise (I : Inv u) {c : Int32} (h : vp_in c 64) : Inv (fX3_raise u c) := by
  unfold fX3_raise
  by_cases q : c = (63 : Int32)
  · rw [if_pos q]; exact Inv_t (Inv_p (Inv_v (Inv_v I (InvV_enter I.1 h _)) (InvV_dir (InvV_enter I.1 h _))) _) _
  · rw [if_neg q]; exact Inv_t (Inv_p (Inv_v I (InvV_enter I.1 h _)) _) _
theorem Inv_fail (I : Inv u) {a r : Int32} (h : r = (-64 : Int32) ∨ vp_in (-r) 64) : Inv (fX3_fail u r a) := by
  unfold fX3_fail
  by_cases q : r = (-64 : Int32)
  · rw [if_pos q]; exact Inv_c I (Or.inr (Or.inr rfl))
  · have hc := h.resolve_left q
    rw [if_neg q]
    by_cases q8 : (-r) = (8 : Int32)
    · rw [if_pos q8]; exact Inv_raise (Inv_v I (InvV_5 I.1 a)) hc
    · rw [if_neg q8]
      by_cases q9 : (-r) = (9 : Int32)
      · rw [if_pos q9]; exact Inv_raise (Inv_v I (InvV_5 I.1 a)) hc
      · rw [if_neg q9]; exact Inv_raise (Inv_v (Inv_v I (InvV_5 I.1 a)) (InvV_8 (InvV_5 I.1 a) _)) hc
theorem vin_lit : ∀ c : Int32, (c = 1 ∨ c = 2 ∨ c = 3 ∨ c = 4 ∨ c = 7 ∨ c = 63 ∨ c = 8 ∨ c = 9) → vp_in (-(-c)) 64 := by
  intro c h
  rcases h with rfl | rfl | rfl | rfl | rfl | rfl | rfl | rfl <;> (unfold vp_in; decide)
theorem find_rng (I : Inv u) {a1 a2 : Int32} (h2 : a2 = 0 ∨ a2 = 1 ∨ a2 = 2) (q : ¬ (0 : Int32) ≤ fX3_find u a1 a2) : fX3_find u a1 a2 = (-64 : Int32) ∨ vp_in (-(fX3_find u a1 a2)) 64 := by
  rcases look_rel (u := u) (th := 0) (nx := 0) (br := 0) (ba := 0) (fo := 0) (ra := 0) (a1 := a1) (a2 := a2) I.2.1 I.1.1 h2 with ⟨h, -⟩ | ⟨h, -⟩ | ⟨c, hc, h, -⟩ | ⟨c, hc, h, -⟩
  · exact absurd h q
  · exact Or.inl h
  · rw [h]; exact Or.inr (vin_lit c (by rcases hc with h | h | h | h | h | h <;> simp [h]))
  · rw [h]; exact Or.inr (vin_lit c (by rcases hc with h | h <;> simp [h]))
theorem Inv_load (I : Inv u) (op w : Int32) : Inv (fX3_loadWord u op w) := by
  unfold fX3_loadWord
  by_cases q : (0 : Int32) ≤ (fX3_find u ((fX3_valueB u w) + (fX3_imm w)) (1 : Int32))
  · rw [if_pos q]
    by_cases r : op = (10 : Int32)
    · rw [if_pos r]; exact Inv_p (Inv_l (Inv_setA I _ _) _) _
    · rw [if_neg r]; exact Inv_p (Inv_setA I _ _) _
  · rw [if_neg q]; exact Inv_fail I (find_rng I (by decide) q)
theorem Inv_store (I : Inv u) (op w : Int32) : Inv (fX3_storeWord u op w) := by
  unfold fX3_storeWord
  by_cases r : op = (11 : Int32)
  · rw [if_pos r]
    by_cases k : u.2.2.2.2.2.1 = (0 : Int32)
    · rw [if_pos k]; exact Inv_p (Inv_setA I _ _) _
    · rw [if_neg k]
      by_cases q : (0 : Int32) ≤ (fX3_find u ((fX3_valueB u w) + (fX3_imm w)) (2 : Int32))
      · rw [if_pos q]; exact Inv_p (Inv_setA (Inv_l (Inv_m I _) _) _ _) _
      · rw [if_neg q]; exact Inv_fail I (find_rng I (by decide) q)
  · rw [if_neg r]
    by_cases q : (0 : Int32) ≤ (fX3_find u ((fX3_valueB u w) + (fX3_imm w)) (2 : Int32))
    · rw [if_pos q]; exact Inv_p (Inv_m I _) _
    · rw [if_neg q]; exact Inv_fail I (find_rng I (by decide) q)
theorem Inv_branch (I : Inv u) (op w : Int32) : Inv (fX3_branch u op w) := by
  unfold fX3_branch
  by_cases r : op = (15 : Int32)
  · rw [if_pos r]; exact Inv_p (Inv_setA I _ _) _
  · rw [if_neg r]
    by_cases q : (fX3_holds op (fX3_valueA u w) (fX3_valueB u w)) = (0 : Int32)
    · rw [if_pos q]; exact Inv_p I _
    · rw [if_neg q]; exact Inv_p I _
theorem Inv_ctl (I : Inv u) (op w : Int32) : Inv (fX3_useControl u op w) := by
  unfold fX3_useControl
  by_cases q : (fX3_byteC w) ≤ (17 : Int32)
  · rw [if_pos q]
    by_cases r : op = (19 : Int32)
    · rw [if_pos r]; exact Inv_p (Inv_setA (Inv_v I (InvV_write I.1 (byteC_in q) _ _)) _ _) _
    · rw [if_neg r]
      by_cases r2 : op = (20 : Int32)
      · rw [if_pos r2]; exact Inv_p (Inv_setA (Inv_v I (InvV_write I.1 (byteC_in q) _ _)) _ _) _
      · rw [if_neg r2]; exact Inv_p (Inv_setA I _ _) _
  · rw [if_neg q]; exact Inv_raise I (by unfold vp_in; decide)
theorem Inv_search (I : Inv u) : Inv (fX3_searchEntry u) := by
  unfold fX3_searchEntry
  rcases map_char (u := u) (th := 0) (nx := 0) (br := 0) (ba := 0) (fo := 0) (ra := 0) (a1 := u.2.2.1 8) (a2 := 0) (p := iu (fX2_get u.2.2.1 (8 : Int32)) (7 : Int32)) (s := fX2_get u.2.2.1 (11 : Int32)) I.2.1 rfl rfl with ⟨e1, -⟩ | ⟨j, hj, e1, -, -⟩ | ⟨j, hj, e1, -⟩
  · rw [e1, if_neg (by decide)]; exact Inv_v I (InvV_empty I.1 _)
  · rw [e1, if_pos (nI_pos' (by omega))]; exact Inv_v I (InvV_set7 I.1 hj)
  · rw [e1, if_pos (nI_pos' (by omega))]; exact Inv_v I (InvV_set7 I.1 hj)
theorem Inv_read (I : Inv u) (a : Int32) : Inv (fX3_readEntry u a) := by
  unfold fX3_readEntry
  have E0 := InvV_empty I.1 (0 : Int32)
  have E1 := InvV_empty I.1 (1 : Int32)
  by_cases q : (fX0_get u.2.2.2.1 a (0 : Int32)) = (1 : Int32)
  · by_cases r : (fX0_get u.2.2.2.1 a (3 : Int32)) = (1 : Int32)
    · rw [if_pos q, if_pos r]; exact ⟨InvV_11 (InvV_10 (InvV_9 (InvV_8 E0 _) _) _) _, I.2⟩
    · rw [if_pos q, if_neg r]; exact ⟨InvV_11 (InvV_10 (InvV_9 (InvV_8 E0 _) _) _) _, I.2⟩
  · rw [if_neg q]; exact ⟨InvV_10 (InvV_9 (InvV_8 E1 _) _) _, I.2⟩
theorem m17 (x : Int32) : (x &&& (-17 : Int32)) &&& (16 : Int32) = (0 : Int32) := by
  rw [Int32.and_assoc, show (-17 : Int32) &&& (16 : Int32) = (0 : Int32) from by decide, Int32.and_zero]
theorem Inv_wr (I : Inv u) (a : Int32) : Inv (fX3_writeEntry u a) := by
  rw [write_W6]
  refine ⟨I.1, fun e he => ?_, I.2.2⟩
  show Row (W6 u.2.2.2.1 (ix a) (thr u.2.2.1) (iu (u.2.2.1 8) (7 : Int32)) (u.2.2.1 11) (glb u.2.2.1) (u.2.2.1 9 &&& (-17 : Int32)) (u.2.2.1 10 &&& (-17 : Int32))) e
  unfold Row
  by_cases q : e = ix a
  · subst q
    rw [W6_0, W6_3, W6_4, W6_5]
    refine ⟨?_, ?_, m17 _, m17 _⟩
    · unfold thr
      by_cases c : fX2_isEmpty u.2.2.1 = (0 : Int32)
      · rw [if_pos c]; exact Or.inr rfl
      · rw [if_neg c]
        by_cases d : fX2_code u.2.2.1 = (63 : Int32)
        · rw [if_pos d]; exact Or.inr rfl
        · rw [if_neg d]; exact Or.inl rfl
    · unfold glb
      by_cases c : ((u.2.2.1 9 &&& u.2.2.1 10) &&& (16 : Int32)) = (0 : Int32)
      · rw [if_pos c]; exact Or.inl rfl
      · rw [if_neg c]; exact Or.inr rfl
  · rw [W6_o q, W6_o q, W6_o q, W6_o q]
    exact I.2.1 e he
theorem Row_elp {k s p : Int32} : ∀ (n i : Nat) (M : Nat → Nat → Int32), (∀ e, e < 4 → Row M e) → ∀ e, e < 4 → Row (fX0_empty_lp k s p n i M) e
  | 0, _, _, h => h
  | n + 1, i, M, h => by
    rw [fX0_empty_lp]
    by_cases q : (fX0_isOfKind M (nI i) k s p) = (0 : Int32)
    · rw [if_pos q]; exact Row_elp n (i + 1) M h
    · rw [if_neg q]; exact Row_elp n (i + 1) _ (fun e he => Row_gu0 (h e he))
theorem Inv_empty (I : Inv u) (w : Int32) : Inv (fX3_emptyEntries u w) := by
  unfold fX3_emptyEntries
  by_cases q : (fX3_byteC w) ≤ (4 : Int32)
  · rw [if_pos q]; exact ⟨I.1, Row_elp 4 0 _ I.2.1, I.2.2⟩
  · rw [if_neg q]; exact Inv_raise I (by unfold vp_in; decide)
theorem nf_in (x : Int32) : vp_in (x &&& (3 : Int32)) 4 := vi_and x (m := 3) 2 (by decide) (by omega)
theorem Inv_n (I : Inv u) {x : Int32} (h : vp_in x 4) : Inv (ts6 u x) := ⟨I.1, I.2.1, h, I.2.2.2⟩
theorem Inv_buf (I : Inv u) (op : Int32) : Inv (fX3_useBuffer u op) := by
  unfold fX3_useBuffer
  by_cases q1 : op = (21 : Int32)
  · rw [if_pos q1]; exact Inv_p (Inv_search I) _
  · rw [if_neg q1]
    by_cases q2 : op = (22 : Int32)
    · rw [if_pos q2]; exact Inv_p (Inv_read I _) _
    · rw [if_neg q2]
      by_cases q3 : op = (23 : Int32)
      · rw [if_pos q3]; exact Inv_p (Inv_wr I _) _
      · rw [if_neg q3]; exact Inv_p (Inv_n (Inv_wr I _) (nf_in _)) _
theorem Inv_priv (I : Inv u) (op w : Int32) : Inv (fX3_performPrivileged u op w) := by
  unfold fX3_performPrivileged
  by_cases q0 : (fX2_level u.2.2.1) = (0 : Int32)
  · rw [if_pos q0]
    by_cases q1 : (20 : Int32) < op
    · rw [if_pos q1]
      by_cases q2 : (24 : Int32) < op
      · rw [if_pos q2]
        by_cases q3 : op = (25 : Int32)
        · rw [if_pos q3]; exact Inv_empty I w
        · rw [if_neg q3]
          by_cases q4 : op = (26 : Int32)
          · rw [if_pos q4]; exact Inv_l (Inv_p (Inv_v I (InvV_leave I.1)) _) _
          · rw [if_neg q4]; exact Inv_p (Inv_c I (Or.inr (Or.inl rfl))) _
      · rw [if_neg q2]; exact Inv_buf I op
    · rw [if_neg q1]; exact Inv_ctl I op w
  · rw [if_neg q0]; exact Inv_raise I (by unfold vp_in; decide)
theorem Inv_perform (I : Inv u) : Inv (fX3_perform u) := by
  rw [perB_eq]
  by_cases q : (0 : Int32) ≤ fX3_find u u.2.2.2.2.1 (0 : Int32)
  · rw [if_pos q]
    generalize u.1 (ix (fX3_find u u.2.2.2.2.1 (0 : Int32))) = x
    obtain ⟨n, hn2, e⟩ : ∃ n : Nat, n < 256 ∧ iu x (24 : Int32) = nI n := by
      obtain ⟨m, hm, rfl⟩ := i32n x
      exact ⟨m / 2 ^ 24, by omega, iuN hm 24 24 (by decide)⟩
    rw [e]
    rcases Nat.lt_or_ge n 28 with h | h
    · rcases (show n = 0 ∨ n = 1 ∨ n = 2 ∨ n = 3 ∨ n = 4 ∨ n = 5 ∨ n = 6 ∨ n = 7 ∨ n = 8 ∨ n = 9 ∨ n = 10 ∨ n = 11 ∨ n = 12 ∨ n = 13 ∨ n = 14 ∨ n = 15 ∨ n = 16 ∨ n = 17 ∨ n = 18 ∨ n = 19 ∨ n = 20 ∨ n = 21 ∨ n = 22 ∨ n = 23 ∨ n = 24 ∨ n = 25 ∨ n = 26 ∨ n = 27 by omega) with rfl | rfl | rfl | rfl | rfl | rfl | rfl | rfl | rfl | rfl | rfl | rfl | rfl | rfl | rfl | rfl | rfl | rfl | rfl | rfl | rfl | rfl | rfl | rfl | rfl | rfl | rfl | rfl
      · show Inv (perB u x (0 : Int32))
        rw [perB_0]
        exact Inv_raise I (by unfold vp_in; decide)
      · show Inv (perB u x (1 : Int32))
        rw [perB_1]
        exact Inv_p (Inv_setA I _ _) _
      · show Inv (perB u x (2 : Int32))
        rw [perB_2]
        exact Inv_p (Inv_setA I _ _) _
      · show Inv (perB u x (3 : Int32))
        rw [perB_3]
        exact Inv_p (Inv_setA I _ _) _
      · show Inv (perB u x (4 : Int32))
        rw [perB_4]
        exact Inv_p (Inv_setA I _ _) _
      · show Inv (perB u x (5 : Int32))
        rw [perB_5]
        exact Inv_p (Inv_setA I _ _) _
      · show Inv (perB u x (6 : Int32))
        rw [perB_6]
        exact Inv_p (Inv_setA I _ _) _
      · show Inv (perB u x (7 : Int32))
        rw [perB_7]
        exact Inv_p (Inv_setA I _ _) _
      · show Inv (perB u x (8 : Int32))
        rw [perB_8]
        exact Inv_load I _ _
      · show Inv (perB u x (9 : Int32))
        rw [perB_9]
        exact Inv_store I _ _
      · show Inv (perB u x (10 : Int32))
        rw [perB_10]
        exact Inv_load I _ _
      · show Inv (perB u x (11 : Int32))
        rw [perB_11]
        exact Inv_store I _ _
      · show Inv (perB u x (12 : Int32))
        rw [perB_12]
        exact Inv_branch I _ _
      · show Inv (perB u x (13 : Int32))
        rw [perB_13]
        exact Inv_branch I _ _
      · show Inv (perB u x (14 : Int32))
        rw [perB_14]
        exact Inv_branch I _ _
      · show Inv (perB u x (15 : Int32))
        rw [perB_15]
        exact Inv_branch I _ _
      · show Inv (perB u x (16 : Int32))
        rw [perB_16]
        exact Inv_raise I (by unfold vp_in; decide)
      · show Inv (perB u x (17 : Int32))
        rw [perB_17]
        exact Inv_raise I (by unfold vp_in; decide)
      · show Inv (perB u x (18 : Int32))
        rw [perB_18]
        exact Inv_priv I _ _
      · show Inv (perB u x (19 : Int32))
        rw [perB_19]
        exact Inv_priv I _ _
      · show Inv (perB u x (20 : Int32))
        rw [perB_20]
        exact Inv_priv I _ _
      · show Inv (perB u x (21 : Int32))
        rw [perB_21]
        exact Inv_priv I _ _
      · show Inv (perB u x (22 : Int32))
        rw [perB_22]
        exact Inv_priv I _ _
      · show Inv (perB u x (23 : Int32))
        rw [perB_23]
        exact Inv_priv I _ _
      · show Inv (perB u x (24 : Int32))
        rw [perB_24]
        exact Inv_priv I _ _
      · show Inv (perB u x (25 : Int32))
        rw [perB_25]
        exact Inv_priv I _ _
      · show Inv (perB u x (26 : Int32))
        rw [perB_26]
        exact Inv_priv I _ _
      · show Inv (perB u x (27 : Int32))
        rw [perB_27]
        exact Inv_priv I _ _
    · rw [perB_28 x h hn2]
      exact Inv_raise I (by unfold vp_in; decide)
  · rw [if_neg q]; exact Inv_fail I (find_rng I (by decide) q)
theorem Inv_step (I : Inv u) : Inv (fX3_step u) := by
  unfold fX3_step
  have P := Inv_perform I
  have R : Inv (fX3_raise u (0 : Int32)) := Inv_raise I (by unfold vp_in; decide)
  by_cases q1 : u.2.2.2.2.2.2.2.1 = (1 : Int32)
  · rw [if_pos q1]
    by_cases q2 : (fX2_isAsked u.2.2.1) = (0 : Int32)
    · rw [if_pos q2]; exact Inv_v I (InvV_tick I.1)
    · rw [if_neg q2]; exact Inv_v (Inv_c I (Or.inl rfl)) (InvV_tick I.1)
  · rw [if_neg q1]
    have pp : Inv (if (fX3_perform u).2.2.2.2.2.2.2.1 = (2 : Int32) then (fX3_perform u) else (ts2 (fX3_perform u) (fX2_tick (fX3_perform u).2.2.1))) := by
      by_cases q : (fX3_perform u).2.2.2.2.2.2.2.1 = (2 : Int32)
      · rw [if_pos q]; exact P
      · rw [if_neg q]; exact Inv_v P (InvV_tick P.1)
    by_cases q2 : (fX2_isEnabled u.2.2.1) = (0 : Int32)
    · rw [if_pos q2]; exact pp
    · rw [if_neg q2]
      by_cases q3 : (fX2_isAsked u.2.2.1) = (0 : Int32)
      · rw [if_pos q3]; exact pp
      · rw [if_neg q3]
        by_cases q : (fX3_raise u (0 : Int32)).2.2.2.2.2.2.2.1 = (2 : Int32)
        · rw [if_pos q]; exact R
        · rw [if_neg q]; exact Inv_v R (InvV_tick R.1)
end Inv2
