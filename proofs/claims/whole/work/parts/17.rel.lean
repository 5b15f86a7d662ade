def bt (x : Int32) (i : Nat) : Bool := x.toBitVec.getLsbD i
theorem b_ext {x y : Int32} (h : ∀ i, i < 32 → bt x i = bt y i) : x = y := Int32.toBitVec_inj.mp (BitVec.eq_of_getLsbD_eq (fun i hi => h i hi))
theorem b_or (x y : Int32) (i : Nat) : bt (x ||| y) i = (bt x i || bt y i) := by unfold bt; rw [Int32.toBitVec_or, BitVec.getLsbD_or]
theorem b_and (x y : Int32) (i : Nat) : bt (x &&& y) i = (bt x i && bt y i) := by unfold bt; rw [Int32.toBitVec_and, BitVec.getLsbD_and]
theorem b_xor (x y : Int32) (i : Nat) : bt (x ^^^ y) i = (bt x i ^^ bt y i) := by unfold bt; rw [Int32.toBitVec_xor, BitVec.getLsbD_xor]
theorem b_big {x : Int32} {i : Nat} (h : 32 ≤ i) : bt x i = false := BitVec.getLsbD_of_ge _ _ h
theorem b_255 (i : Nat) : bt 255 i = decide (i < 8) := by
  rcases Nat.lt_or_ge i 32 with h | h
  · exact (by decide +kernel : ∀ i, i < 32 → bt 255 i = decide (i < 8)) i h
  · rw [b_big h, decide_eq_false (by omega)]
theorem b_65535 (i : Nat) : bt 65535 i = decide (i < 16) := by
  rcases Nat.lt_or_ge i 32 with h | h
  · exact (by decide +kernel : ∀ i, i < 32 → bt 65535 i = decide (i < 16)) i h
  · rw [b_big h, decide_eq_false (by omega)]
theorem b_m1 : ∀ i, i < 32 → bt (-1) i = true := by decide +kernel
theorem b_0 (i : Nat) : bt 0 i = false := BitVec.getLsbD_zero
theorem s_l : ∀ n, n < 32 → ((nI n &&& 31).toBitVec.smod 32).toNat = n := by decide +kernel
theorem s_u : ∀ n, n < 32 → (((nI n).toUInt32 &&& Int32.toUInt32 31).toBitVec % 32).toNat = n := by decide +kernel
theorem b_shl (n : Nat) (hn : n < 32) (x : Int32) {i : Nat} (hi : i < 32) : bt (x <<< (nI n &&& 31)) i = (decide (n ≤ i) && bt x (i - n)) := by
  unfold bt
  rw [Int32.toBitVec_shiftLeft]
  show (x.toBitVec <<< ((nI n &&& 31).toBitVec.smod 32).toNat).getLsbD i = _
  rw [s_l n hn, BitVec.getLsbD_shiftLeft]
  rcases Nat.lt_or_ge i n with h | h
  · simp [h, Nat.not_le.mpr h]
  · simp [hi, h, Nat.not_lt.mpr h]
theorem b_ushr (n : Nat) (hn : n < 32) (x : Int32) (i : Nat) : bt ((x.toUInt32 >>> ((nI n).toUInt32 &&& Int32.toUInt32 31)).toInt32) i = bt x (n + i) := by
  show (x.toUInt32 >>> ((nI n).toUInt32 &&& Int32.toUInt32 31)).toBitVec.getLsbD i = x.toUInt32.toBitVec.getLsbD (n + i)
  rw [UInt32.toBitVec_shiftRight]
  show (x.toUInt32.toBitVec >>> (((nI n).toUInt32 &&& Int32.toUInt32 31).toBitVec % 32).toNat).getLsbD i = _
  rw [s_u n hn, BitVec.getLsbD_ushiftRight]
theorem b_sshr (n : Nat) (hn : n < 32) (x : Int32) {i : Nat} (hi : i < 32) : bt (x >>> (nI n &&& 31)) i = if n + i < 32 then bt x (n + i) else bt x 31 := by
  unfold bt
  rw [Int32.toBitVec_shiftRight]
  show (x.toBitVec.sshiftRight ((nI n &&& 31).toBitVec.smod 32).toNat).getLsbD i = _
  rw [s_l n hn, BitVec.getLsbD_sshiftRight, BitVec.msb_eq_getLsbD_last]
  simp [hi]
theorem b_shl8 (x : Int32) {i : Nat} (hi : i < 32) : bt (x <<< ((8 : Int32) &&& 31)) i = (decide (8 ≤ i) && bt x (i - 8)) := b_shl 8 (by omega) x hi
theorem b_shl16 (x : Int32) {i : Nat} (hi : i < 32) : bt (x <<< ((16 : Int32) &&& 31)) i = (decide (16 ≤ i) && bt x (i - 16)) := b_shl 16 (by omega) x hi
theorem b_shl24 (x : Int32) {i : Nat} (hi : i < 32) : bt (x <<< ((24 : Int32) &&& 31)) i = (decide (24 ≤ i) && bt x (i - 24)) := b_shl 24 (by omega) x hi
theorem b_sshr8 (x : Int32) {i : Nat} (hi : i < 32) : bt (x >>> ((8 : Int32) &&& 31)) i = if 8 + i < 32 then bt x (8 + i) else bt x 31 := b_sshr 8 (by omega) x hi
theorem b_pw : ∀ k, k < 32 → ∀ i, i < 32 → bt (Int32.ofNat (2 ^ k)) i = decide (i = k) := by decide +kernel
/-- one bit -/
theorem bitz (k : Nat) (hk : k < 32) (x m : Int32) (hm : m = Int32.ofNat (2 ^ k)) : x &&& m = 0 ↔ bt x k = false := by
  subst hm
  constructor
  · intro h
    have h1 : bt (x &&& Int32.ofNat (2 ^ k)) k = false := by rw [h]; exact b_0 k
    rw [b_and, b_pw k hk k hk] at h1
    simpa using h1
  · intro h
    refine b_ext (fun i hi => ?_)
    rw [b_and, b_pw k hk i hi, b_0]
    by_cases e : i = k
    · subst e; simp [h]
    · simp [e]
theorem b_iu (n : Nat) (hn : n < 32) (x s : Int32) (hs : s = nI n) (i : Nat) : bt (iu x s) i = bt x (n + i) := by subst hs; exact b_ushr n hn x i
theorem w_xor (a w : Int32) : iu (a ^^^ w) (28 : Int32) = (0 : Int32) ↔ iu a (28 : Int32) = iu w (28 : Int32) := by
  constructor
  · intro h
    refine b_ext (fun i hi => ?_)
    have h1 : bt (iu (a ^^^ w) (28 : Int32)) i = false := by rw [h]; exact b_0 i
    rw [b_iu 28 (by omega) _ (28 : Int32) rfl, b_xor] at h1
    rw [b_iu 28 (by omega) _ (28 : Int32) rfl, b_iu 28 (by omega) _ (28 : Int32) rfl]
    revert h1
    cases bt a (28 + i) <;> cases bt w (28 + i) <;> simp
  · intro h
    refine b_ext (fun i hi => ?_)
    have h1 : bt (iu a (28 : Int32)) i = bt (iu w (28 : Int32)) i := by rw [h]
    rw [b_iu 28 (by omega) _ (28 : Int32) rfl, b_iu 28 (by omega) _ (28 : Int32) rfl] at h1
    rw [b_iu 28 (by omega) _ (28 : Int32) rfl, b_xor, b_0, h1]
    simp
theorem w_l0 (w : Int32) : (iu w (0 : Int32)) &&& (1 : Int32) = (0 : Int32) ↔ w &&& (1 : Int32) = (0 : Int32) := by
  rw [bitz 0 (by omega) _ (1 : Int32) rfl, bitz 0 (by omega) _ (1 : Int32) rfl, b_iu 0 (by omega) _ (0 : Int32) rfl]
theorem w_l3 (w : Int32) : (iu w (3 : Int32)) &&& (1 : Int32) = (0 : Int32) ↔ w &&& (8 : Int32) = (0 : Int32) := by
  rw [bitz 0 (by omega) _ (1 : Int32) rfl, bitz 3 (by omega) _ (8 : Int32) rfl, b_iu 3 (by omega) _ (3 : Int32) rfl]
theorem sh_eq (h : Int32) : (h >>> ((6 : Int32) &&& 31)) &&& (31 : Int32) = (iu h (6 : Int32)) &&& (31 : Int32) := by
  refine b_ext (fun i hi => ?_)
  rw [b_and, b_and, b_iu 6 (by omega) _ (6 : Int32) rfl]
  have e : bt (h >>> ((6 : Int32) &&& 31)) i = if 6 + i < 32 then bt h (6 + i) else bt h 31 := b_sshr 6 (by omega) h hi
  rw [e]
  by_cases q : 6 + i < 32
  · rw [if_pos q]
  · have z : bt (31 : Int32) i = false := (by decide +kernel : ∀ i, i < 32 → ¬ 6 + i < 32 → bt (31 : Int32) i = false) i hi q
    rw [z]; simp
theorem cd_eq (h : Int32) : (h >>> ((16 : Int32) &&& 31)) &&& (63 : Int32) = (iu h (16 : Int32)) &&& (63 : Int32) := by
  refine b_ext (fun i hi => ?_)
  rw [b_and, b_and, b_iu 16 (by omega) _ (16 : Int32) rfl]
  have e : bt (h >>> ((16 : Int32) &&& 31)) i = if 16 + i < 32 then bt h (16 + i) else bt h 31 := b_sshr 16 (by omega) h hi
  rw [e]
  by_cases q : 16 + i < 32
  · rw [if_pos q]
  · have z : bt (63 : Int32) i = false := (by decide +kernel : ∀ i, i < 32 → ¬ 16 + i < 32 → bt (63 : Int32) i = false) i hi q
    rw [z]; simp
/-- memory: the two ways to say it -/
theorem out_mem (a : Int32) (h3 : a &&& (3 : Int32) = (0 : Int32)) : fX4_outside a (0 : Int32) (2047 : Int32) = (0 : Int32) ↔ ¬ fX3_isInMemory a = (0 : Int32) := by
  obtain ⟨n, hn, rfl⟩ := i32n a
  have e : iu (nI n) (2 : Int32) = nI (n / 4) := iuN hn 2 2 (by decide)
  unfold fX4_outside fX3_isInMemory
  rw [if_pos h3, e]
  by_cases q : n < 2048
  · rw [if_neg (show ¬ nI n < (0 : Int32) from nI_pos (by omega)), if_pos (show nI n ≤ (2047 : Int32) from nI_le (b := 2047) (by omega) (by omega)), if_neg (show ¬ (512 : Int32) ≤ nI (n / 4) from nI_ge (b := 512) (by omega) (by omega))]
    decide
  · have hb : (512 : Int32) ≤ nI (n / 4) := nI_le (a := 512) (by omega) (by omega)
    rw [if_pos hb]
    constructor
    · intro h
      exfalso
      split at h
      · exact absurd h (by decide)
      · rename_i hs
        split at h
        · rename_i hl
          rw [Int32.lt_iff_toInt_lt] at hs
          rw [Int32.le_iff_toInt_le] at hl
          have h0 : (0 : Int32).toInt = 0 := by decide
          have h1 : (2047 : Int32).toInt = 2047 := by decide
          rw [h0] at hs
          rw [h1] at hl
          have hj := nI_of (x := nI n) (by rw [Int32.lt_iff_toInt_lt, h0]; exact hs)
          obtain ⟨j, hj1, hj2⟩ := hj
          have e1 : (nI n).toBitVec.toNat = n := pk_tn hn
          have e2 : (nI j).toBitVec.toNat = j := pk_tn (by omega)
          rw [hj2, e2] at e1
          subst e1
          rw [nI_toInt hj1] at hl
          omega
        · exact absurd h (by decide)
    · intro h; exact absurd rfl h
theorem mem_div {a : Int32} (h : fX4_outside a (0 : Int32) (2047 : Int32) = (0 : Int32)) : a / (4 : Int32) = iu a (2 : Int32) := by
  unfold fX4_outside at h
  split at h
  · exact absurd h (by decide)
  · rename_i h0
    split at h
    · rename_i h1
      obtain ⟨j, hj, rfl⟩ := nI_of2 (M := (2047 : Int32)) (n := 2047) (by decide) h0 h1
      rw [iuN (by omega) 2 2 (by decide), show (4 : Int32) = nI 4 from rfl, pk_div (by omega) (by omega) (by omega)]
    · exact absurd h (by decide)

/-! ### the class's state as the reference's -/
def hal (M : Nat → Nat → Int32) : Nat → Int32 := fun j => M (j / 2) (4 + j % 2)
def mk (u : TM) (th nx br ba fo ra : Int32) : MD := (th, u.1, u.2.1, u.2.2.1, (fun e => u.2.2.2.1 e 0), (fun e => u.2.2.2.1 e 3), (fun e => u.2.2.2.1 e 1), (fun e => u.2.2.2.1 e 2), hal u.2.2.2.1, u.2.2.2.2.1, nx, u.2.2.2.2.2.2.1, u.2.2.2.2.2.1, (if u.2.2.2.2.2.2.2.1 = (1 : Int32) then (1 : Int32) else (0 : Int32)), (if u.2.2.2.2.2.2.2.1 = (2 : Int32) then (1 : Int32) else (0 : Int32)), br, ba, fo, ra)
def Row (M : Nat → Nat → Int32) (e : Nat) : Prop := (M e 0 = (0 : Int32) ∨ M e 0 = (1 : Int32)) ∧ (M e 3 = (0 : Int32) ∨ M e 3 = (1 : Int32)) ∧ M e 4 &&& (16 : Int32) = (0 : Int32) ∧ M e 5 &&& (16 : Int32) = (0 : Int32)
def pf (M : Nat → Nat → Int32) (p s : Int32) (e : Nat) : Prop := M e 0 = (1 : Int32) ∧ M e 1 = p ∧ (M e 3 = (1 : Int32) ∨ M e 2 = s)
section Rel
variable {u : TM} {th nx br ba fo ra : Int32}
theorem fits_t {e : Nat} {p s : Int32} (he : e < 4) (h : pf u.2.2.2.1 p s e) : ¬ fX4_fits (mk u th nx br ba fo ra) (nI e) p s = (0 : Int32) := by
  obtain ⟨h0, h1, h2⟩ := h
  have e0 : ix (nI e) = e := ix_nI (by omega)
  unfold fX4_fits
  simp only [mk, e0, h0, h1]
  rw [if_neg (by decide), if_pos trivial]
  split
  · rename_i q
    rcases h2 with h2 | h2
    · rw [h2] at q; exact absurd q (by decide)
    · rw [if_pos h2]; decide
  · decide
theorem fits_f {e : Nat} {p s : Int32} (he : e < 4) (hr : Row u.2.2.2.1 e) (h : ¬ pf u.2.2.2.1 p s e) : fX4_fits (mk u th nx br ba fo ra) (nI e) p s = (0 : Int32) := by
  have e0 : ix (nI e) = e := ix_nI (by omega)
  unfold fX4_fits
  simp only [mk, e0]
  split
  · rfl
  · rename_i q0
    split
    · rename_i q1
      split
      · split
        · rename_i q2
          exact absurd ⟨hr.1.resolve_left q0, q1, Or.inr q2⟩ h
        · rfl
      · rename_i q2
        exact absurd ⟨hr.1.resolve_left q0, q1, Or.inl (hr.2.1.resolve_left q2)⟩ h
    · rfl
theorem find_t {M : Nat → Nat → Int32} {p s : Int32} {i : Nat} (h : pf M p s i) (n : Nat) : fX0_find_lp M p s (n + 1) i = nI i := by
  obtain ⟨h0, h1, h2⟩ := h
  rw [fX0_find_lp]
  rcases h2 with h2 | h2
  · rw [if_pos h2, if_pos h0, if_pos h1]
  · split
    · first | rfl | rw [if_pos h0, if_pos h1]
    · first | rfl | rw [if_pos h2, if_pos h0, if_pos h1]
theorem find_f {M : Nat → Nat → Int32} {p s : Int32} {i : Nat} (h : ¬ pf M p s i) (n : Nat) : fX0_find_lp M p s (n + 1) i = fX0_find_lp M p s n (i + 1) := by
  rw [fX0_find_lp]
  split
  · rename_i q3
    split
    · rename_i q0
      split
      · rename_i q1; exact absurd ⟨q0, q1, Or.inl q3⟩ h
      · rfl
    · rfl
  · split
    · rename_i q2
      split
      · rename_i q0
        split
        · rename_i q1; exact absurd ⟨q0, q1, Or.inr q2⟩ h
        · rfl
      · rfl
    · split
      · split <;> rfl
      · rfl
theorem find_from {M : Nat → Nat → Int32} {p s : Int32} {j : Nat} (h : j < 4) : fX0_find M p s (nI j + (1 : Int32)) = fX0_find_lp M p s (3 - j) (j + 1) := by
  unfold fX0_find
  rw [nI_1, ix_nI (by omega), show 4 - (j + 1) = 3 - j by omega]
theorem map_t {a1 a2 p s : Int32} {i : Nat} (hi : i < 4) (hp : fX4_pairOf a1 = p) (hs : u.2.2.1 11 = s) (h : pf u.2.2.2.1 p s i) (n : Nat) (x3 x4 : Int32) : fX4_map_lp a1 a2 (n + 1) i (mk u th nx br ba fo ra) x3 x4 = fX4_map_lp a1 a2 n (i + 1) (mk u th nx br ba fo ra) (nI i) (x4 + (1 : Int32)) := by
  subst hp; subst hs
  rw [fX4_map_lp]
  exact if_neg (fits_t hi h)
theorem map_f {a1 a2 p s : Int32} {i : Nat} (hi : i < 4) (hr : Row u.2.2.2.1 i) (hp : fX4_pairOf a1 = p) (hs : u.2.2.1 11 = s) (h : ¬ pf u.2.2.2.1 p s i) (n : Nat) (x3 x4 : Int32) : fX4_map_lp a1 a2 (n + 1) i (mk u th nx br ba fo ra) x3 x4 = fX4_map_lp a1 a2 n (i + 1) (mk u th nx br ba fo ra) x3 x4 := by
  subst hp; subst hs
  rw [fX4_map_lp]
  exact if_pos (fits_f hi hr h)
theorem map_char {a1 a2 p s : Int32} (hr : ∀ e, e < 4 → Row u.2.2.2.1 e) (hp : fX4_pairOf a1 = p) (hs : u.2.2.1 11 = s) :
    (fX0_find u.2.2.2.1 p s (0 : Int32) = (-1 : Int32) ∧ fX4_map (mk u th nx br ba fo ra) a1 a2 = fX4_map_lp a1 a2 0 4 (mk u th nx br ba fo ra) (-1) 0)
    ∨ (∃ j, j < 4 ∧ fX0_find u.2.2.2.1 p s (0 : Int32) = nI j ∧ fX0_find u.2.2.2.1 p s (nI j + (1 : Int32)) = (-1 : Int32) ∧ fX4_map (mk u th nx br ba fo ra) a1 a2 = fX4_map_lp a1 a2 0 4 (mk u th nx br ba fo ra) (nI j) 1)
    ∨ (∃ j, j < 4 ∧ fX0_find u.2.2.2.1 p s (0 : Int32) = nI j ∧ (∃ k, k < 4 ∧ fX0_find u.2.2.2.1 p s (nI j + (1 : Int32)) = nI k) ∧ ∃ x3 x4, ¬ x4 ≤ (1 : Int32) ∧ fX4_map (mk u th nx br ba fo ra) a1 a2 = fX4_map_lp a1 a2 0 4 (mk u th nx br ba fo ra) x3 x4) := by
  have r0 := hr 0 (by omega)
  have r1 := hr 1 (by omega)
  have r2 := hr 2 (by omega)
  have r3 := hr 3 (by omega)
  have m4 : fX4_map (mk u th nx br ba fo ra) a1 a2 = fX4_map_lp a1 a2 (3 + 1) 0 (mk u th nx br ba fo ra) (-1) 0 := rfl
  have f4 : fX0_find u.2.2.2.1 p s (0 : Int32) = fX0_find_lp u.2.2.2.1 p s (3 + 1) 0 := rfl
  by_cases p0 : pf u.2.2.2.1 p s 0
  · by_cases p1 : pf u.2.2.2.1 p s 1
    · by_cases p2 : pf u.2.2.2.1 p s 2
      · by_cases p3 : pf u.2.2.2.1 p s 3
        · exact Or.inr (Or.inr ⟨0, by omega, by rw [f4, find_t p0 3], ⟨1, by omega, by rw [find_from (by omega)]; show fX0_find_lp u.2.2.2.1 p s (2 + 1) 1 = _; rw [find_t p1 2]⟩, nI 3, (((((0 : Int32) + (1 : Int32)) + (1 : Int32)) + (1 : Int32)) + (1 : Int32)), (by decide), by rw [m4, map_t (by omega) hp hs p0 3, map_t (by omega) hp hs p1 2, map_t (by omega) hp hs p2 1, map_t (by omega) hp hs p3 0]⟩)
        · exact Or.inr (Or.inr ⟨0, by omega, by rw [f4, find_t p0 3], ⟨1, by omega, by rw [find_from (by omega)]; show fX0_find_lp u.2.2.2.1 p s (2 + 1) 1 = _; rw [find_t p1 2]⟩, nI 2, ((((0 : Int32) + (1 : Int32)) + (1 : Int32)) + (1 : Int32)), (by decide), by rw [m4, map_t (by omega) hp hs p0 3, map_t (by omega) hp hs p1 2, map_t (by omega) hp hs p2 1, map_f (by omega) r3 hp hs p3 0]⟩)
      · by_cases p3 : pf u.2.2.2.1 p s 3
        · exact Or.inr (Or.inr ⟨0, by omega, by rw [f4, find_t p0 3], ⟨1, by omega, by rw [find_from (by omega)]; show fX0_find_lp u.2.2.2.1 p s (2 + 1) 1 = _; rw [find_t p1 2]⟩, nI 3, ((((0 : Int32) + (1 : Int32)) + (1 : Int32)) + (1 : Int32)), (by decide), by rw [m4, map_t (by omega) hp hs p0 3, map_t (by omega) hp hs p1 2, map_f (by omega) r2 hp hs p2 1, map_t (by omega) hp hs p3 0]⟩)
        · exact Or.inr (Or.inr ⟨0, by omega, by rw [f4, find_t p0 3], ⟨1, by omega, by rw [find_from (by omega)]; show fX0_find_lp u.2.2.2.1 p s (2 + 1) 1 = _; rw [find_t p1 2]⟩, nI 1, (((0 : Int32) + (1 : Int32)) + (1 : Int32)), (by decide), by rw [m4, map_t (by omega) hp hs p0 3, map_t (by omega) hp hs p1 2, map_f (by omega) r2 hp hs p2 1, map_f (by omega) r3 hp hs p3 0]⟩)
    · by_cases p2 : pf u.2.2.2.1 p s 2
      · by_cases p3 : pf u.2.2.2.1 p s 3
        · exact Or.inr (Or.inr ⟨0, by omega, by rw [f4, find_t p0 3], ⟨2, by omega, by rw [find_from (by omega)]; show fX0_find_lp u.2.2.2.1 p s (2 + 1) 1 = _; rw [find_f p1 2, find_t p2 1]⟩, nI 3, ((((0 : Int32) + (1 : Int32)) + (1 : Int32)) + (1 : Int32)), (by decide), by rw [m4, map_t (by omega) hp hs p0 3, map_f (by omega) r1 hp hs p1 2, map_t (by omega) hp hs p2 1, map_t (by omega) hp hs p3 0]⟩)
        · exact Or.inr (Or.inr ⟨0, by omega, by rw [f4, find_t p0 3], ⟨2, by omega, by rw [find_from (by omega)]; show fX0_find_lp u.2.2.2.1 p s (2 + 1) 1 = _; rw [find_f p1 2, find_t p2 1]⟩, nI 2, (((0 : Int32) + (1 : Int32)) + (1 : Int32)), (by decide), by rw [m4, map_t (by omega) hp hs p0 3, map_f (by omega) r1 hp hs p1 2, map_t (by omega) hp hs p2 1, map_f (by omega) r3 hp hs p3 0]⟩)
      · by_cases p3 : pf u.2.2.2.1 p s 3
        · exact Or.inr (Or.inr ⟨0, by omega, by rw [f4, find_t p0 3], ⟨3, by omega, by rw [find_from (by omega)]; show fX0_find_lp u.2.2.2.1 p s (2 + 1) 1 = _; rw [find_f p1 2, find_f p2 1, find_t p3 0]⟩, nI 3, (((0 : Int32) + (1 : Int32)) + (1 : Int32)), (by decide), by rw [m4, map_t (by omega) hp hs p0 3, map_f (by omega) r1 hp hs p1 2, map_f (by omega) r2 hp hs p2 1, map_t (by omega) hp hs p3 0]⟩)
        · exact Or.inr (Or.inl ⟨0, by omega, by rw [f4, find_t p0 3], by rw [find_from (by omega)]; show fX0_find_lp u.2.2.2.1 p s (2 + 1) 1 = _; rw [find_f p1 2, find_f p2 1, find_f p3 0]; rfl, by rw [m4, map_t (by omega) hp hs p0 3, map_f (by omega) r1 hp hs p1 2, map_f (by omega) r2 hp hs p2 1, map_f (by omega) r3 hp hs p3 0]; rfl⟩)
  · by_cases p1 : pf u.2.2.2.1 p s 1
    · by_cases p2 : pf u.2.2.2.1 p s 2
      · by_cases p3 : pf u.2.2.2.1 p s 3
        · exact Or.inr (Or.inr ⟨1, by omega, by rw [f4, find_f p0 3, find_t p1 2], ⟨2, by omega, by rw [find_from (by omega)]; show fX0_find_lp u.2.2.2.1 p s (1 + 1) 2 = _; rw [find_t p2 1]⟩, nI 3, ((((0 : Int32) + (1 : Int32)) + (1 : Int32)) + (1 : Int32)), (by decide), by rw [m4, map_f (by omega) r0 hp hs p0 3, map_t (by omega) hp hs p1 2, map_t (by omega) hp hs p2 1, map_t (by omega) hp hs p3 0]⟩)
        · exact Or.inr (Or.inr ⟨1, by omega, by rw [f4, find_f p0 3, find_t p1 2], ⟨2, by omega, by rw [find_from (by omega)]; show fX0_find_lp u.2.2.2.1 p s (1 + 1) 2 = _; rw [find_t p2 1]⟩, nI 2, (((0 : Int32) + (1 : Int32)) + (1 : Int32)), (by decide), by rw [m4, map_f (by omega) r0 hp hs p0 3, map_t (by omega) hp hs p1 2, map_t (by omega) hp hs p2 1, map_f (by omega) r3 hp hs p3 0]⟩)
      · by_cases p3 : pf u.2.2.2.1 p s 3
        · exact Or.inr (Or.inr ⟨1, by omega, by rw [f4, find_f p0 3, find_t p1 2], ⟨3, by omega, by rw [find_from (by omega)]; show fX0_find_lp u.2.2.2.1 p s (1 + 1) 2 = _; rw [find_f p2 1, find_t p3 0]⟩, nI 3, (((0 : Int32) + (1 : Int32)) + (1 : Int32)), (by decide), by rw [m4, map_f (by omega) r0 hp hs p0 3, map_t (by omega) hp hs p1 2, map_f (by omega) r2 hp hs p2 1, map_t (by omega) hp hs p3 0]⟩)
        · exact Or.inr (Or.inl ⟨1, by omega, by rw [f4, find_f p0 3, find_t p1 2], by rw [find_from (by omega)]; show fX0_find_lp u.2.2.2.1 p s (1 + 1) 2 = _; rw [find_f p2 1, find_f p3 0]; rfl, by rw [m4, map_f (by omega) r0 hp hs p0 3, map_t (by omega) hp hs p1 2, map_f (by omega) r2 hp hs p2 1, map_f (by omega) r3 hp hs p3 0]; rfl⟩)
    · by_cases p2 : pf u.2.2.2.1 p s 2
      · by_cases p3 : pf u.2.2.2.1 p s 3
        · exact Or.inr (Or.inr ⟨2, by omega, by rw [f4, find_f p0 3, find_f p1 2, find_t p2 1], ⟨3, by omega, by rw [find_from (by omega)]; show fX0_find_lp u.2.2.2.1 p s (0 + 1) 3 = _; rw [find_t p3 0]⟩, nI 3, (((0 : Int32) + (1 : Int32)) + (1 : Int32)), (by decide), by rw [m4, map_f (by omega) r0 hp hs p0 3, map_f (by omega) r1 hp hs p1 2, map_t (by omega) hp hs p2 1, map_t (by omega) hp hs p3 0]⟩)
        · exact Or.inr (Or.inl ⟨2, by omega, by rw [f4, find_f p0 3, find_f p1 2, find_t p2 1], by rw [find_from (by omega)]; show fX0_find_lp u.2.2.2.1 p s (0 + 1) 3 = _; rw [find_f p3 0]; rfl, by rw [m4, map_f (by omega) r0 hp hs p0 3, map_f (by omega) r1 hp hs p1 2, map_t (by omega) hp hs p2 1, map_f (by omega) r3 hp hs p3 0]; rfl⟩)
      · by_cases p3 : pf u.2.2.2.1 p s 3
        · exact Or.inr (Or.inl ⟨3, by omega, by rw [f4, find_f p0 3, find_f p1 2, find_f p2 1, find_t p3 0], by rw [find_from (by omega)]; rfl, by rw [m4, map_f (by omega) r0 hp hs p0 3, map_f (by omega) r1 hp hs p1 2, map_f (by omega) r2 hp hs p2 1, map_t (by omega) hp hs p3 0]; rfl⟩)
        · exact Or.inl ⟨by rw [f4, find_f p0 3, find_f p1 2, find_f p2 1, find_f p3 0]; rfl, by rw [m4, map_f (by omega) r0 hp hs p0 3, map_f (by omega) r1 hp hs p1 2, map_f (by omega) r2 hp hs p2 1, map_f (by omega) r3 hp hs p3 0]⟩
end Rel
section Rel3
variable {u : TM} {th nx br ba fo ra : Int32}
theorem with_mk (c a b : Int32) : fX4_with (mk u th nx br ba fo ra) c a b = (c, mk u th nx b a fo ra) := rfl
theorem ms17_mk (x : Int32) : ms17 (mk u th nx br ba fo ra) x = mk u th nx br ba x ra := rfl
theorem user_mk : fX4_user (mk u th nx br ba fo ra) = (0 : Int32) ↔ fX2_level u.2.2.1 = (0 : Int32) := by
  show (if (u.2.2.1 0 &&& (3 : Int32)) = (0 : Int32) then (0 : Int32) else (1 : Int32)) = (0 : Int32) ↔ (u.2.2.1 0 &&& (3 : Int32)) = (0 : Int32)
  by_cases h : (u.2.2.1 0 &&& (3 : Int32)) = (0 : Int32)
  · simp [h]
  · simp [h]
/-- the half by bit 6 -/
theorem half_bit (a : Int32) : (a &&& (64 : Int32) = (0 : Int32) ∧ (a >>> ((6 : Int32) &&& 31)) &&& (1 : Int32) = nI 0) ∨ (¬ a &&& (64 : Int32) = (0 : Int32) ∧ (a >>> ((6 : Int32) &&& 31)) &&& (1 : Int32) = nI 1) := by
  obtain ⟨t, ht, e⟩ := pk_andE (a >>> ((6 : Int32) &&& 31)) (m := 1) 1 (by decide)
  have hz : ((a >>> ((6 : Int32) &&& 31)) &&& (1 : Int32) = (0 : Int32)) ↔ a &&& (64 : Int32) = (0 : Int32) := by
    rw [bitz 0 (by omega) _ (1 : Int32) rfl, bitz 6 (by omega) _ (64 : Int32) rfl, show bt (a >>> ((6 : Int32) &&& 31)) 0 = bt a 6 from b_sshr 6 (by omega) a (by omega)]
  rcases (show t = 0 ∨ t = 1 by omega) with rfl | rfl
  · exact Or.inl ⟨hz.mp e, e⟩
  · refine Or.inr ⟨fun h => ?_, e⟩
    rw [hz.mpr h] at e
    exact absurd e (by decide)
theorem hal_at (M : Nat → Nat → Int32) (j t : Nat) (ht : t < 2) : hal M (2 * j + t) = M j (4 + t) := by
  unfold hal
  rw [show (2 * j + t) / 2 = j by omega, show (2 * j + t) % 2 = t by omega]
theorem half_ix {j t : Nat} (hj : j < 4) (ht : t < 2) : ix (((2 : Int32) * nI j) + nI t) = 2 * j + t := by
  rw [show (2 : Int32) = nI 2 from rfl, pk_mul, nI_add]
  exact ix_nI (by omega)
/-- the frame's place -/
theorem frame_at (h a : Int32) : fX4_outside ((a &&& (63 : Int32)) + ((64 : Int32) * ((h >>> ((6 : Int32) &&& 31)) &&& (31 : Int32)))) (0 : Int32) (2047 : Int32) = (0 : Int32) ∧ ((a &&& (63 : Int32)) + ((64 : Int32) * ((h >>> ((6 : Int32) &&& 31)) &&& (31 : Int32)))) / (4 : Int32) = (((iu h (6 : Int32)) &&& (31 : Int32)) * (16 : Int32)) + ((iu a (2 : Int32)) &&& (15 : Int32)) := by
  rw [sh_eq]
  obtain ⟨f, hf, e1⟩ := pk_andE (iu h (6 : Int32)) (m := 31) 5 (by decide)
  obtain ⟨n, hn, rfl⟩ := i32n a
  have e2 : nI n &&& (63 : Int32) = nI (n % 64) := pk_andN hn 6 (by decide)
  have e3 : iu (nI n) (2 : Int32) &&& (15 : Int32) = nI (n / 4 % 16) := by rw [iuN hn 2 2 (by decide)]; exact pk_andN (by omega) 4 (by decide)
  rw [e1, e2, e3, show (64 : Int32) = nI 64 from rfl, show (16 : Int32) = nI 16 from rfl, show (4 : Int32) = nI 4 from rfl, pk_mul, pk_mul, nI_add, nI_add, pk_div (by omega) (by omega) (by omega)]
  refine ⟨?_, by congr 1; omega⟩
  unfold fX4_outside
  rw [if_neg (nI_pos (by omega)), if_pos (show nI (n % 64 + 64 * f) ≤ (2047 : Int32) from nI_le (b := 2047) (by omega) (by omega))]
/-- what map answers beside findMapped -/
def MapR (u : TM) (th nx br ba fo ra a1 r : Int32) (o : Int32 × MD) : Prop :=
  (∃ x, (0 : Int32) ≤ r ∧ fX4_outside x (0 : Int32) (2047 : Int32) = (0 : Int32) ∧ x / (4 : Int32) = r ∧ o = ((-1 : Int32), mk u th nx br ba x ra)) ∨ (r = (-64 : Int32) ∧ o = ((-2 : Int32), mk u th nx br ba fo ra)) ∨
  ∃ c : Int32, (c = 1 ∨ c = 2 ∨ c = 3 ∨ c = 4 ∨ c = 7 ∨ c = 63) ∧ r = -c ∧ o = (c, mk u th nx (2 : Int32) a1 fo ra)
theorem map_rel {a1 a2 : Int32} (hr : ∀ e, e < 4 → Row u.2.2.2.1 e) (h2 : a2 = 0 ∨ a2 = 1 ∨ a2 = 2) : MapR u th nx br ba fo ra a1 (fX3_findMapped u a1 a2) (fX4_map (mk u th nx br ba fo ra) a1 a2) := by
  have hp : fX4_pairOf a1 = iu a1 (7 : Int32) := rfl
  have hs : u.2.2.1 11 = fX2_get u.2.2.1 (11 : Int32) := rfl
  unfold fX3_findMapped
  rcases map_char (u := u) (th := th) (nx := nx) (br := br) (ba := ba) (fo := fo) (ra := ra) (a1 := a1) (a2 := a2) hr hp hs with ⟨e1, e2⟩ | ⟨j, hj, e1, e2, e3⟩ | ⟨j, hj, e1, ⟨k, hk, e2⟩, x3, x4, hx, e3⟩
  · rw [e1, e2, if_neg (by decide)]
    refine Or.inr (Or.inr ⟨63, by decide, by decide, ?_⟩)
    rw [fX4_map_lp, if_pos (by decide), if_pos rfl]
    rfl
  · rw [e1, e2, e3, if_pos (nI_pos' (by omega)), if_pos (by decide)]
    rw [fX4_map_lp, if_pos (show (1 : Int32) ≤ (1 : Int32) by decide), if_neg (show ¬ (1 : Int32) = (0 : Int32) by decide)]
    have eix : ix (nI j) = j := ix_nI (by omega)
    have key : ∀ (t : Nat), t < 2 → (a1 >>> ((6 : Int32) &&& 31)) &&& (1 : Int32) = nI t → (mk u th nx br ba fo ra).2.2.2.2.2.2.2.2.1 (ix (((2 : Int32) * nI j) + ((a1 >>> ((6 : Int32) &&& 31)) &&& (1 : Int32)))) = u.2.2.2.1 j (4 + t) := by
      intro t ht e
      rw [e, half_ix hj ht]
      exact hal_at _ j t ht
    have fin : ∀ h : Int32, MapR u th nx br ba fo ra a1 ((((iu h (6 : Int32)) &&& (31 : Int32)) * (16 : Int32)) + ((iu a1 (2 : Int32)) &&& (15 : Int32))) ((-1 : Int32), ms17 (mk u th nx br ba fo ra) ((a1 &&& (63 : Int32)) + ((64 : Int32) * ((h >>> ((6 : Int32) &&& 31)) &&& (31 : Int32))))) := by
      intro h
      obtain ⟨q1, q2⟩ := frame_at h a1
      refine Or.inl ⟨_, ?_, q1, q2, rfl⟩
      obtain ⟨y, hy, ey⟩ := vp_in_of (fr_in (iu h (6 : Int32)) (iu a1 (2 : Int32))) (by omega)
      rw [ey]; exact nI_pos' (by omega)
    have wc : ∀ c : Int32, (c = 1 ∨ c = 2 ∨ c = 3 ∨ c = 4 ∨ c = 7 ∨ c = 63) → MapR u th nx br ba fo ra a1 (-c) ((fX4_with (mk u th nx br ba fo ra) c a1 (2 : Int32)).1, (fX4_with (mk u th nx br ba fo ra) c a1 (2 : Int32)).2) := fun c hc => Or.inr (Or.inr ⟨c, hc, rfl, rfl⟩)
    have body : ∀ t : Nat, t < 2 → ∀ h : Int32, u.2.2.2.1 j (4 + t) = h → (a1 >>> ((6 : Int32) &&& 31)) &&& (1 : Int32) = nI t →
        MapR u th nx br ba fo ra a1 (if (h &&& (1 : Int32)) = (0 : Int32) then (if a2 = (0 : Int32) then (-3 : Int32) else if a2 = (1 : Int32) then (-1 : Int32) else (-2 : Int32)) else if (h &&& (12 : Int32)) = (0 : Int32) then (if (fX2_level u.2.2.1) = (0 : Int32) then (if a2 = (2 : Int32) then (if (h &&& (2 : Int32)) = (0 : Int32) then (-4 : Int32) else ((((iu h (6 : Int32)) &&& (31 : Int32)) * (16 : Int32)) + ((iu a1 (2 : Int32)) &&& (15 : Int32)))) else ((((iu h (6 : Int32)) &&& (31 : Int32)) * (16 : Int32)) + ((iu a1 (2 : Int32)) &&& (15 : Int32)))) else (-7 : Int32)) else (if a2 = (2 : Int32) then (if (h &&& (2 : Int32)) = (0 : Int32) then (-4 : Int32) else ((((iu h (6 : Int32)) &&& (31 : Int32)) * (16 : Int32)) + ((iu a1 (2 : Int32)) &&& (15 : Int32)))) else ((((iu h (6 : Int32)) &&& (31 : Int32)) * (16 : Int32)) + ((iu a1 (2 : Int32)) &&& (15 : Int32)))))
          (if (((mk u th nx br ba fo ra).2.2.2.2.2.2.2.2.1 (ix (((2 : Int32) * nI j) + ((a1 >>> ((6 : Int32) &&& 31)) &&& (1 : Int32))))) &&& (1 : Int32)) = (0 : Int32) then
          (if a2 = (0 : Int32) then ((fX4_with (mk u th nx br ba fo ra) (3 : Int32) a1 (2 : Int32)).1, ((fX4_with (mk u th nx br ba fo ra) (3 : Int32) a1 (2 : Int32)).2)) else ((fX4_with (mk u th nx br ba fo ra) a2 a1 (2 : Int32)).1, ((fX4_with (mk u th nx br ba fo ra) a2 a1 (2 : Int32)).2)))
        else
          if (fX4_user (mk u th nx br ba fo ra)) = (0 : Int32) then
            (if a2 = (2 : Int32) then
              (if (((mk u th nx br ba fo ra).2.2.2.2.2.2.2.2.1 (ix (((2 : Int32) * nI j) + ((a1 >>> ((6 : Int32) &&& 31)) &&& (1 : Int32))))) &&& (2 : Int32)) = (0 : Int32) then
                ((fX4_with (mk u th nx br ba fo ra) (4 : Int32) a1 (2 : Int32)).1, ((fX4_with (mk u th nx br ba fo ra) (4 : Int32) a1 (2 : Int32)).2))
              else
                ((-1 : Int32), (ms17 (mk u th nx br ba fo ra) ((a1 &&& (63 : Int32)) + ((64 : Int32) * ((((mk u th nx br ba fo ra).2.2.2.2.2.2.2.2.1 (ix (((2 : Int32) * nI j) + ((a1 >>> ((6 : Int32) &&& 31)) &&& (1 : Int32))))) >>> ((6 : Int32) &&& 31)) &&& (31 : Int32)))))))
            else
              ((-1 : Int32), (ms17 (mk u th nx br ba fo ra) ((a1 &&& (63 : Int32)) + ((64 : Int32) * ((((mk u th nx br ba fo ra).2.2.2.2.2.2.2.2.1 (ix (((2 : Int32) * nI j) + ((a1 >>> ((6 : Int32) &&& 31)) &&& (1 : Int32))))) >>> ((6 : Int32) &&& 31)) &&& (31 : Int32)))))))
          else
            if (((mk u th nx br ba fo ra).2.2.2.2.2.2.2.2.1 (ix (((2 : Int32) * nI j) + ((a1 >>> ((6 : Int32) &&& 31)) &&& (1 : Int32))))) &&& (12 : Int32)) = (0 : Int32) then
              ((fX4_with (mk u th nx br ba fo ra) (7 : Int32) a1 (2 : Int32)).1, ((fX4_with (mk u th nx br ba fo ra) (7 : Int32) a1 (2 : Int32)).2))
            else
              (if a2 = (2 : Int32) then
                (if (((mk u th nx br ba fo ra).2.2.2.2.2.2.2.2.1 (ix (((2 : Int32) * nI j) + ((a1 >>> ((6 : Int32) &&& 31)) &&& (1 : Int32))))) &&& (2 : Int32)) = (0 : Int32) then
                  ((fX4_with (mk u th nx br ba fo ra) (4 : Int32) a1 (2 : Int32)).1, ((fX4_with (mk u th nx br ba fo ra) (4 : Int32) a1 (2 : Int32)).2))
                else
                  ((-1 : Int32), (ms17 (mk u th nx br ba fo ra) ((a1 &&& (63 : Int32)) + ((64 : Int32) * ((((mk u th nx br ba fo ra).2.2.2.2.2.2.2.2.1 (ix (((2 : Int32) * nI j) + ((a1 >>> ((6 : Int32) &&& 31)) &&& (1 : Int32))))) >>> ((6 : Int32) &&& 31)) &&& (31 : Int32)))))))
              else
                ((-1 : Int32), (ms17 (mk u th nx br ba fo ra) ((a1 &&& (63 : Int32)) + ((64 : Int32) * ((((mk u th nx br ba fo ra).2.2.2.2.2.2.2.2.1 (ix (((2 : Int32) * nI j) + ((a1 >>> ((6 : Int32) &&& 31)) &&& (1 : Int32))))) >>> ((6 : Int32) &&& 31)) &&& (31 : Int32)))))))) := by
      intro t ht h hh et
      rw [key t ht et, hh]
      by_cases c1 : (h &&& (1 : Int32)) = (0 : Int32)
      · rw [if_pos c1, if_pos c1]
        rcases h2 with rfl | rfl | rfl
        · exact wc 3 (by decide)
        · exact wc 1 (by decide)
        · exact wc 2 (by decide)
      · rw [if_neg c1, if_neg c1]
        by_cases c2 : (h &&& (12 : Int32)) = (0 : Int32)
        · rw [if_pos c2]
          by_cases c3 : fX2_level u.2.2.1 = (0 : Int32)
          · rw [if_pos c3, if_pos (user_mk.mpr c3)]
            by_cases c4 : a2 = (2 : Int32)
            · rw [if_pos c4, if_pos c4]
              by_cases c5 : (h &&& (2 : Int32)) = (0 : Int32)
              · rw [if_pos c5, if_pos c5]; exact wc 4 (by decide)
              · rw [if_neg c5, if_neg c5]; exact fin h
            · rw [if_neg c4, if_neg c4]; exact fin h
          · rw [if_neg c3, if_neg (fun q => c3 (user_mk.mp q)), if_pos c2]; exact wc 7 (by decide)
        · rw [if_neg c2]
          by_cases c3 : fX2_level u.2.2.1 = (0 : Int32)
          · rw [if_pos (user_mk.mpr c3)]
            by_cases c4 : a2 = (2 : Int32)
            · rw [if_pos c4, if_pos c4]
              by_cases c5 : (h &&& (2 : Int32)) = (0 : Int32)
              · rw [if_pos c5, if_pos c5]; exact wc 4 (by decide)
              · rw [if_neg c5, if_neg c5]; exact fin h
            · rw [if_neg c4, if_neg c4]; exact fin h
          · rw [if_neg (fun q => c3 (user_mk.mp q)), if_neg c2]
            by_cases c4 : a2 = (2 : Int32)
            · rw [if_pos c4, if_pos c4]
              by_cases c5 : (h &&& (2 : Int32)) = (0 : Int32)
              · rw [if_pos c5, if_pos c5]; exact wc 4 (by decide)
              · rw [if_neg c5, if_neg c5]; exact fin h
            · rw [if_neg c4, if_neg c4]; exact fin h
    have g4 : fX0_get u.2.2.2.1 (nI j) (4 : Int32) = u.2.2.2.1 j (4 + 0) := by show u.2.2.2.1 (ix (nI j)) (ix (4 : Int32)) = _; rw [eix]; rfl
    have g5 : fX0_get u.2.2.2.1 (nI j) (5 : Int32) = u.2.2.2.1 j (4 + 1) := by show u.2.2.2.1 (ix (nI j)) (ix (5 : Int32)) = _; rw [eix]; rfl
    rcases half_bit a1 with ⟨hb, et⟩ | ⟨hb, et⟩
    · rw [if_pos hb]; exact body 0 (by omega) _ g4.symm et
    · rw [if_neg hb]; exact body 1 (by omega) _ g5.symm et
  · rw [e1, e2, e3, if_pos (nI_pos' (by omega)), if_neg (nI_pos (by omega))]
    refine Or.inr (Or.inl ⟨rfl, ?_⟩)
    rw [fX4_map_lp, if_neg hx]
end Rel3
section Rel4
variable {u : TM} {th nx br ba fo ra : Int32}
/-- what lookUp answers beside find -/
def LookR (u : TM) (th nx br ba fo ra a1 r : Int32) (o : Int32 × MD) : Prop :=
  ((0 : Int32) ≤ r ∧ o = ((-1 : Int32), mk u th nx br ba r ra)) ∨ (r = (-64 : Int32) ∧ o = ((-2 : Int32), mk u th nx br ba fo ra)) ∨
  (∃ c : Int32, (c = 1 ∨ c = 2 ∨ c = 3 ∨ c = 4 ∨ c = 7 ∨ c = 63) ∧ r = -c ∧ o = (c, mk u th nx (2 : Int32) a1 fo ra)) ∨
  ∃ c : Int32, (c = 8 ∨ c = 9) ∧ r = -c ∧ o = (c, mk u th nx (1 : Int32) a1 fo ra)
theorem iu_nn {a : Int32} (h : ¬ fX3_isInMemory a = (0 : Int32)) : (0 : Int32) ≤ iu a (2 : Int32) := by
  obtain ⟨j, hj, e⟩ := vp_in_of (mem_in h) (by omega)
  rw [e]; exact nI_pos' (by omega)
theorem and3_win (a : Int32) (h : a &&& (3 : Int32) = (0 : Int32)) : (a &&& (268435455 : Int32)) &&& (3 : Int32) = (0 : Int32) := by
  rw [Int32.and_assoc, show (268435455 : Int32) &&& (3 : Int32) = (3 : Int32) from by decide, h]
theorem look_rel {a1 a2 : Int32} (hr : ∀ e, e < 4 → Row u.2.2.2.1 e) (hl : u.2.2.1 0 &&& (3 : Int32) = (0 : Int32) ∨ u.2.2.1 0 &&& (3 : Int32) = (3 : Int32)) (h2 : a2 = 0 ∨ a2 = 1 ∨ a2 = 2) :
    LookR u th nx br ba fo ra a1 (fX3_find u a1 a2) (fX4_lookUp (mk u th nx br ba fo ra) a1 a2) := by
  unfold fX3_find fX4_lookUp
  by_cases c3 : a1 &&& (3 : Int32) = (0 : Int32)
  · rw [if_pos c3, if_pos c3]
    -- a direct address
    have dir : LookR u th nx br ba fo ra a1 (if fX3_isInMemory a1 = (0 : Int32) then (-8 : Int32) else iu a1 (2 : Int32)) (if (fX4_outside a1 (0 : Int32) (2047 : Int32)) = (0 : Int32) then ((-1 : Int32), (ms17 (mk u th nx br ba fo ra) (a1 / (4 : Int32)))) else ((fX4_with (mk u th nx br ba fo ra) (8 : Int32) a1 (1 : Int32)).1, (fX4_with (mk u th nx br ba fo ra) (8 : Int32) a1 (1 : Int32)).2)) := by
      by_cases q : fX3_isInMemory a1 = (0 : Int32)
      · rw [if_pos q, if_neg (fun z => (out_mem a1 c3).mp z q)]
        exact Or.inr (Or.inr (Or.inr ⟨8, Or.inl rfl, rfl, rfl⟩))
      · have z := (out_mem a1 c3).mpr q
        rw [if_neg q, if_pos z, mem_div z]
        exact Or.inl ⟨iu_nn q, rfl⟩
    have win : LookR u th nx br ba fo ra a1 (if fX3_isInMemory (a1 &&& (268435455 : Int32)) = (0 : Int32) then (-8 : Int32) else iu (a1 &&& (268435455 : Int32)) (2 : Int32)) (if (fX4_outside (a1 &&& (268435455 : Int32)) (0 : Int32) (2047 : Int32)) = (0 : Int32) then ((-1 : Int32), (ms17 (mk u th nx br ba fo ra) ((a1 &&& (268435455 : Int32)) / (4 : Int32)))) else ((fX4_with (mk u th nx br ba fo ra) (8 : Int32) a1 (1 : Int32)).1, (fX4_with (mk u th nx br ba fo ra) (8 : Int32) a1 (1 : Int32)).2)) := by
      by_cases q : fX3_isInMemory (a1 &&& (268435455 : Int32)) = (0 : Int32)
      · rw [if_pos q, if_neg (fun z => (out_mem _ (and3_win a1 c3)).mp z q)]
        exact Or.inr (Or.inr (Or.inr ⟨8, Or.inl rfl, rfl, rfl⟩))
      · have z := (out_mem _ (and3_win a1 c3)).mpr q
        rw [if_neg q, if_pos z, mem_div z]
        exact Or.inl ⟨iu_nn q, rfl⟩
    have mp : LookR u th nx br ba fo ra a1 (fX3_findMapped u a1 a2) (if (fX4_map (mk u th nx br ba fo ra) a1 a2).1 = (-1 : Int32) then (if (fX4_outside (fX4_map (mk u th nx br ba fo ra) a1 a2).2.2.2.2.2.2.2.2.2.2.2.2.2.2.2.2.2.2.1 (0 : Int32) (2047 : Int32)) = (0 : Int32) then ((-1 : Int32), (ms17 (fX4_map (mk u th nx br ba fo ra) a1 a2).2 ((fX4_map (mk u th nx br ba fo ra) a1 a2).2.2.2.2.2.2.2.2.2.2.2.2.2.2.2.2.2.2.1 / (4 : Int32)))) else ((fX4_with (fX4_map (mk u th nx br ba fo ra) a1 a2).2 (8 : Int32) a1 (1 : Int32)).1, (fX4_with (fX4_map (mk u th nx br ba fo ra) a1 a2).2 (8 : Int32) a1 (1 : Int32)).2)) else ((fX4_map (mk u th nx br ba fo ra) a1 a2).1, (fX4_map (mk u th nx br ba fo ra) a1 a2).2)) := by
      rcases map_rel (u := u) (th := th) (nx := nx) (br := br) (ba := ba) (fo := fo) (ra := ra) (a1 := a1) hr h2 with ⟨x, h0, h1, h3, e⟩ | ⟨h0, e⟩ | ⟨c, hc, h0, e⟩
      · rw [e, if_pos rfl]
        show LookR u th nx br ba fo ra a1 _ (if (fX4_outside x (0 : Int32) (2047 : Int32)) = (0 : Int32) then ((-1 : Int32), mk u th nx br ba (x / (4 : Int32)) ra) else _)
        rw [if_pos h1, h3]
        exact Or.inl ⟨h0, rfl⟩
      · rw [e, h0, if_neg (show ¬ ((-2 : Int32), mk u th nx br ba fo ra).1 = (-1 : Int32) from by show ¬ (-2 : Int32) = (-1 : Int32); decide)]
        exact Or.inr (Or.inl ⟨rfl, rfl⟩)
      · rw [e, if_neg (by show ¬ c = (-1 : Int32); rcases hc with rfl | rfl | rfl | rfl | rfl | rfl <;> decide)]
        exact Or.inr (Or.inr (Or.inl ⟨c, hc, h0, rfl⟩))
    have hd : fX2_isDirect u.2.2.1 = (0 : Int32) ↔ (u.2.2.1 0 &&& (8 : Int32)) = (0 : Int32) := by
      unfold fX2_isDirect
      by_cases q : (u.2.2.1 0 &&& (8 : Int32)) = (0 : Int32)
      · simp [q]
      · simp [q]
    have hw : fX2_isInWindow u.2.2.1 a1 = (0 : Int32) ↔ ¬ (iu a1 (28 : Int32) = iu (u.2.2.1 17) (28 : Int32) ∧ ((fX4_user (mk u th nx br ba fo ra) = (0 : Int32) ∧ ¬ (u.2.2.1 17 &&& (1 : Int32)) = (0 : Int32)) ∨ (¬ fX4_user (mk u th nx br ba fo ra) = (0 : Int32) ∧ ¬ (u.2.2.1 17 &&& (8 : Int32)) = (0 : Int32)))) := by
      unfold fX2_isInWindow
      rcases hl with hl | hl
      · have hu : fX4_user (mk u th nx br ba fo ra) = (0 : Int32) := user_mk.mpr hl
        rw [hl]
        by_cases q1 : (u.2.2.1 17 &&& (1 : Int32)) = (0 : Int32)
        · rw [if_pos ((w_l0 _).mpr q1)]
          simp [hu, q1]
        · rw [if_neg (fun z => q1 ((w_l0 _).mp z))]
          by_cases q2 : iu a1 (28 : Int32) = iu (u.2.2.1 17) (28 : Int32)
          · rw [if_pos ((w_xor _ _).mpr q2)]
            simp [hu, q1, q2]
          · rw [if_neg (fun z => q2 ((w_xor _ _).mp z))]
            simp [q2]
      · have hu : ¬ fX4_user (mk u th nx br ba fo ra) = (0 : Int32) := fun z => absurd (hl.symm.trans (user_mk.mp z)) (by decide)
        rw [hl]
        by_cases q1 : (u.2.2.1 17 &&& (8 : Int32)) = (0 : Int32)
        · rw [if_pos ((w_l3 _).mpr q1)]
          simp [hu, q1]
        · rw [if_neg (fun z => q1 ((w_l3 _).mp z))]
          by_cases q2 : iu a1 (28 : Int32) = iu (u.2.2.1 17) (28 : Int32)
          · rw [if_pos ((w_xor _ _).mpr q2)]
            simp [hu, q1, q2]
          · rw [if_neg (fun z => q2 ((w_xor _ _).mp z))]
            simp [q2]
    have e17 : (mk u th nx br ba fo ra).2.2.2.1 17 = u.2.2.1 17 := rfl
    have e0 : (mk u th nx br ba fo ra).2.2.2.1 0 = u.2.2.1 0 := rfl
    rw [e17, e0]
    by_cases cd : (u.2.2.1 0 &&& (8 : Int32)) = (0 : Int32)
    · rw [if_pos (hd.mpr cd)]
      simp only [if_pos cd]
      by_cases cw : fX2_isInWindow u.2.2.1 a1 = (0 : Int32)
      · rw [if_pos cw]
        have nw := hw.mp cw
        by_cases q2 : iu a1 (28 : Int32) = iu (u.2.2.1 17) (28 : Int32)
        · rw [if_pos q2]
          by_cases qu : fX4_user (mk u th nx br ba fo ra) = (0 : Int32)
          · rw [if_pos qu]
            by_cases q1 : (u.2.2.1 17 &&& (1 : Int32)) = (0 : Int32)
            · rw [if_pos q1]; exact mp
            · exact absurd ⟨q2, Or.inl ⟨qu, q1⟩⟩ nw
          · rw [if_neg qu]
            by_cases q1 : (u.2.2.1 17 &&& (8 : Int32)) = (0 : Int32)
            · rw [if_pos q1]; exact mp
            · exact absurd ⟨q2, Or.inr ⟨qu, q1⟩⟩ nw
        · rw [if_neg q2]; exact mp
      · rw [if_neg cw]
        have yw := Classical.not_not.mp (fun z => cw (hw.mpr z))
        rw [if_pos yw.1]
        rcases yw.2 with ⟨qu, q1⟩ | ⟨qu, q1⟩
        · rw [if_pos qu, if_neg q1]; exact win
        · rw [if_neg qu, if_neg q1]; exact win
    · rw [if_neg (fun z => cd (hd.mp z))]
      simp only [if_neg cd]
      by_cases q2 : iu a1 (28 : Int32) = iu (u.2.2.1 17) (28 : Int32)
      · rw [if_pos q2]
        by_cases qu : fX4_user (mk u th nx br ba fo ra) = (0 : Int32)
        · rw [if_pos qu]
          by_cases q1 : (u.2.2.1 17 &&& (1 : Int32)) = (0 : Int32)
          · rw [if_pos q1]; exact dir
          · rw [if_neg q1]; exact dir
        · rw [if_neg qu]
          by_cases q1 : (u.2.2.1 17 &&& (8 : Int32)) = (0 : Int32)
          · rw [if_pos q1]; exact dir
          · rw [if_neg q1]; exact dir
      · rw [if_neg q2]; exact dir
  · rw [if_neg c3, if_neg c3]
    rcases h2 with rfl | rfl | rfl
    · exact Or.inr (Or.inr (Or.inr ⟨8, Or.inl rfl, rfl, rfl⟩))
    · exact Or.inr (Or.inr (Or.inr ⟨9, Or.inr rfl, rfl, rfl⟩))
    · exact Or.inr (Or.inr (Or.inr ⟨9, Or.inr rfl, rfl, rfl⟩))
end Rel4
