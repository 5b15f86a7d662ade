theorem i32n (x : Int32) : ∃ n : Nat, n < 2 ^ 32 ∧ x = nI n := ⟨x.toBitVec.toNat, x.toBitVec.isLt, Int32.toBitVec_inj.mp (by show _ = BitVec.ofNat 32 _; simp)⟩
theorem iuN {n : Nat} (hn : n < 2 ^ 32) (s : Int32) (k : Nat) (hs : ((s.toUInt32 &&& Int32.toUInt32 31).toBitVec % 32).toNat = k) : iu (nI n) s = nI (n / 2 ^ k) := pk_ushrN hn s k hs
theorem lp_find (M : Nat → Nat → Int32) (a b : Int32) : ∀ n i, i + n = 4 → (fX0_find_lp M a b n i = (-1 : Int32) ∨ ∃ j, j < 4 ∧ fX0_find_lp M a b n i = nI j)
  | 0, _, _ => Or.inl rfl
  | n + 1, i, h => by
    have ih := lp_find M a b n (i + 1) (by omega)
    unfold fX0_find_lp
    repeat' split
    all_goals first | exact ih | exact Or.inr ⟨i, by omega, rfl⟩
theorem ent_cases (M : Nat → Nat → Int32) (a b : Int32) : fX0_find M a b (0 : Int32) = (-1 : Int32) ∨ ∃ j, j < 4 ∧ fX0_find M a b (0 : Int32) = nI j := lp_find M a b 4 0 rfl
theorem ent_in {M : Nat → Nat → Int32} {a b : Int32} (h : ¬ fX0_find M a b (0 : Int32) < (0 : Int32)) : vp_in (fX0_find M a b (0 : Int32)) 4 := by
  rcases ent_cases M a b with e | ⟨j, hj, e⟩
  · rw [e] at h; exact absurd (by decide) h
  · rw [e]; exact vp_in_nI hj (by omega)
theorem ent_1 {M : Nat → Nat → Int32} {a b : Int32} (h : ¬ fX0_find M a b (0 : Int32) < (0 : Int32)) : ∃ i : Nat, i ≤ 4 ∧ fX0_find M a b (0 : Int32) + (1 : Int32) = nI i := by
  rcases ent_cases M a b with e | ⟨j, hj, e⟩
  · rw [e] at h; exact absurd (by decide) h
  · exact ⟨j + 1, by omega, by rw [e]; exact nI_1 j⟩
theorem ent_in' {M : Nat → Nat → Int32} {a b : Int32} (h : (0 : Int32) ≤ fX0_find M a b (0 : Int32)) : vp_in (fX0_find M a b (0 : Int32)) 4 := ent_in (Int32.not_lt.mpr h)
theorem ent_1' {M : Nat → Nat → Int32} {a b : Int32} (h : (0 : Int32) ≤ fX0_find M a b (0 : Int32)) : ∃ i : Nat, i ≤ 4 ∧ fX0_find M a b (0 : Int32) + (1 : Int32) = nI i := ent_1 (Int32.not_lt.mpr h)
theorem byteC_in' {w : Int32} (h : ¬ (17 : Int32) < fX3_byteC w) : vp_in (fX3_byteC w) 18 := by
  have h1 : vp_in (fX3_byteC w) 256 := vi255 w
  rw [vp_in_iff] at *
  rw [Int32.lt_iff_toInt_lt] at h
  have : (17 : Int32).toInt = 17 := by decide
  omega
theorem byteC_in {w : Int32} (h : fX3_byteC w ≤ (17 : Int32)) : vp_in (fX3_byteC w) 18 := byteC_in' (Int32.not_lt.mpr h)
theorem mem_in {a : Int32} (h : ¬ fX3_isInMemory a = (0 : Int32)) : vp_in (iu a (2 : Int32)) 512 := by
  obtain ⟨n, hn, rfl⟩ := i32n a
  have e : iu (nI n) (2 : Int32) = nI (n / 4) := iuN hn 2 2 (by decide)
  unfold fX3_isInMemory at h
  split at h
  · split at h
    · exact absurd rfl h
    · rename_i h2
      rw [e] at h2 ⊢
      have q : n / 4 < 512 := by
        rcases Nat.lt_or_ge (n / 4) 512 with q | q
        · exact q
        · exact absurd (nI_le (a := 512) q (by omega)) h2
      exact vp_in_nI q (by omega)
  · exact absurd rfl h
theorem fr_in (x y : Int32) : vp_in (((x &&& (31 : Int32)) * (16 : Int32)) + (y &&& (15 : Int32))) 512 := by
  obtain ⟨i, hi, e1⟩ := pk_andE x (m := 31) 5 (by decide)
  obtain ⟨j, hj, e2⟩ := pk_andE y (m := 15) 4 (by decide)
  rw [e1, e2, show (16 : Int32) = nI 16 from rfl, pk_mul, nI_add]
  exact vp_in_nI (by omega) (by omega)
def fX3_findMapped (u : TM) (a1 : Int32) (a2 : Int32) : Int32 :=
  if (0 : Int32) ≤ (fX0_find u.2.2.2.1 (iu a1 (7 : Int32)) (fX2_get u.2.2.1 (11 : Int32)) (0 : Int32)) then
    if (fX0_find u.2.2.2.1 (iu a1 (7 : Int32)) (fX2_get u.2.2.1 (11 : Int32)) ((fX0_find u.2.2.2.1 (iu a1 (7 : Int32)) (fX2_get u.2.2.1 (11 : Int32)) (0 : Int32)) + (1 : Int32))) < (0 : Int32) then
      if (a1 &&& (64 : Int32)) = (0 : Int32) then
        if ((fX0_get u.2.2.2.1 (fX0_find u.2.2.2.1 (iu a1 (7 : Int32)) (fX2_get u.2.2.1 (11 : Int32)) (0 : Int32)) (4 : Int32)) &&& (1 : Int32)) = (0 : Int32) then
          if a2 = (0 : Int32) then
            (-3 : Int32)
          else
            if a2 = (1 : Int32) then
              (-1 : Int32)
            else
              (-2 : Int32)
        else
          if ((fX0_get u.2.2.2.1 (fX0_find u.2.2.2.1 (iu a1 (7 : Int32)) (fX2_get u.2.2.1 (11 : Int32)) (0 : Int32)) (4 : Int32)) &&& (12 : Int32)) = (0 : Int32) then
            if (fX2_level u.2.2.1) = (0 : Int32) then
              if a2 = (2 : Int32) then
                if ((fX0_get u.2.2.2.1 (fX0_find u.2.2.2.1 (iu a1 (7 : Int32)) (fX2_get u.2.2.1 (11 : Int32)) (0 : Int32)) (4 : Int32)) &&& (2 : Int32)) = (0 : Int32) then
                  (-4 : Int32)
                else
                  ((((iu (fX0_get u.2.2.2.1 (fX0_find u.2.2.2.1 (iu a1 (7 : Int32)) (fX2_get u.2.2.1 (11 : Int32)) (0 : Int32)) (4 : Int32)) (6 : Int32)) &&& (31 : Int32)) * (16 : Int32)) + ((iu a1 (2 : Int32)) &&& (15 : Int32)))
              else
                ((((iu (fX0_get u.2.2.2.1 (fX0_find u.2.2.2.1 (iu a1 (7 : Int32)) (fX2_get u.2.2.1 (11 : Int32)) (0 : Int32)) (4 : Int32)) (6 : Int32)) &&& (31 : Int32)) * (16 : Int32)) + ((iu a1 (2 : Int32)) &&& (15 : Int32)))
            else
              (-7 : Int32)
          else
            if a2 = (2 : Int32) then
              if ((fX0_get u.2.2.2.1 (fX0_find u.2.2.2.1 (iu a1 (7 : Int32)) (fX2_get u.2.2.1 (11 : Int32)) (0 : Int32)) (4 : Int32)) &&& (2 : Int32)) = (0 : Int32) then
                (-4 : Int32)
              else
                ((((iu (fX0_get u.2.2.2.1 (fX0_find u.2.2.2.1 (iu a1 (7 : Int32)) (fX2_get u.2.2.1 (11 : Int32)) (0 : Int32)) (4 : Int32)) (6 : Int32)) &&& (31 : Int32)) * (16 : Int32)) + ((iu a1 (2 : Int32)) &&& (15 : Int32)))
            else
              ((((iu (fX0_get u.2.2.2.1 (fX0_find u.2.2.2.1 (iu a1 (7 : Int32)) (fX2_get u.2.2.1 (11 : Int32)) (0 : Int32)) (4 : Int32)) (6 : Int32)) &&& (31 : Int32)) * (16 : Int32)) + ((iu a1 (2 : Int32)) &&& (15 : Int32)))
      else
        if ((fX0_get u.2.2.2.1 (fX0_find u.2.2.2.1 (iu a1 (7 : Int32)) (fX2_get u.2.2.1 (11 : Int32)) (0 : Int32)) (5 : Int32)) &&& (1 : Int32)) = (0 : Int32) then
          if a2 = (0 : Int32) then
            (-3 : Int32)
          else
            if a2 = (1 : Int32) then
              (-1 : Int32)
            else
              (-2 : Int32)
        else
          if ((fX0_get u.2.2.2.1 (fX0_find u.2.2.2.1 (iu a1 (7 : Int32)) (fX2_get u.2.2.1 (11 : Int32)) (0 : Int32)) (5 : Int32)) &&& (12 : Int32)) = (0 : Int32) then
            if (fX2_level u.2.2.1) = (0 : Int32) then
              if a2 = (2 : Int32) then
                if ((fX0_get u.2.2.2.1 (fX0_find u.2.2.2.1 (iu a1 (7 : Int32)) (fX2_get u.2.2.1 (11 : Int32)) (0 : Int32)) (5 : Int32)) &&& (2 : Int32)) = (0 : Int32) then
                  (-4 : Int32)
                else
                  ((((iu (fX0_get u.2.2.2.1 (fX0_find u.2.2.2.1 (iu a1 (7 : Int32)) (fX2_get u.2.2.1 (11 : Int32)) (0 : Int32)) (5 : Int32)) (6 : Int32)) &&& (31 : Int32)) * (16 : Int32)) + ((iu a1 (2 : Int32)) &&& (15 : Int32)))
              else
                ((((iu (fX0_get u.2.2.2.1 (fX0_find u.2.2.2.1 (iu a1 (7 : Int32)) (fX2_get u.2.2.1 (11 : Int32)) (0 : Int32)) (5 : Int32)) (6 : Int32)) &&& (31 : Int32)) * (16 : Int32)) + ((iu a1 (2 : Int32)) &&& (15 : Int32)))
            else
              (-7 : Int32)
          else
            if a2 = (2 : Int32) then
              if ((fX0_get u.2.2.2.1 (fX0_find u.2.2.2.1 (iu a1 (7 : Int32)) (fX2_get u.2.2.1 (11 : Int32)) (0 : Int32)) (5 : Int32)) &&& (2 : Int32)) = (0 : Int32) then
                (-4 : Int32)
              else
                ((((iu (fX0_get u.2.2.2.1 (fX0_find u.2.2.2.1 (iu a1 (7 : Int32)) (fX2_get u.2.2.1 (11 : Int32)) (0 : Int32)) (5 : Int32)) (6 : Int32)) &&& (31 : Int32)) * (16 : Int32)) + ((iu a1 (2 : Int32)) &&& (15 : Int32)))
            else
              ((((iu (fX0_get u.2.2.2.1 (fX0_find u.2.2.2.1 (iu a1 (7 : Int32)) (fX2_get u.2.2.1 (11 : Int32)) (0 : Int32)) (5 : Int32)) (6 : Int32)) &&& (31 : Int32)) * (16 : Int32)) + ((iu a1 (2 : Int32)) &&& (15 : Int32)))
    else
      (-64 : Int32)
  else
    (-63 : Int32)
set_option maxHeartbeats 4000000 in
set_option maxRecDepth 100000 in
theorem kX3_findMapped (l : Launch) (D : va_G) (k : Nat → ClassId) (q : Nat → Nat) (u : TM) (a1 : Int32) (a2 : Int32)  : Met l yX3_findMapped wsX3_findMapped { frames := 1, cells := 0, slots := 0, locals := 26 } (rd_P D vwCl (tyL k) (wT k q u) NL [.ref (q 0), .int a1, .int a2]) (QcRead (fX3_findMapped u a1 a2)) 0 0 (fun _ => False) := by
  refine Met.ofW (cc := cX3_findMapped) (maxL := 8) (ret := (some .int)) (by decide) rfl ?_
  intro p e s m args below meth c s₁ B hml hv0
  obtain ⟨rfl, hP, hK, hX⟩ := hv0
  have hx := B.exec
  have hb := B.bytes
  have hr := B.returns
  have hts := atoms_spec (ws := wsX3_findMapped) B.pre
  have hown : s.vm.findClass RX3 = some m.cls := findClass_of_methodNamed B.named
  have hlocks := B.notSynchronized
  have hl := lv_entry ([.ref (q 0), .int a1, .int a2]) (n := 8) (Nat.le_of_ble_eq_true rfl)
  rw [lg_entry_eq]
  generalize (lg_sl ([.ref (q 0), .int a1, .int a2]) ++ List.replicate (8 - (lg_sl ([.ref (q 0), .int a1, .int a2])).length) Slot.unset).toArray = ls at hl ⊢
  have hl : lv_has ls 8 [(0, .ref (q 0)), (1, .int a1), (2, .int a2)] := hl
  refine lv_iload_n hx hb dX3_findMapped_0 rfl (lv_at hl 1 rfl) ?_
  refine lv_bipush (v := (7 : Int32)) hx hb dX3_findMapped_1 (by decide) ?_
  refine lv_iushr (v := (iu a1 (7 : Int32))) hx hb dX3_findMapped_3 rfl ?_
  refine lv_istore_n (lv' := [(3, .int (iu a1 (7 : Int32))), (0, .ref (q 0)), (1, .int a1), (2, .int a2)]) hx hb dX3_findMapped_4 rfl hl (by decide) rfl (fun ls hl => ?_)
  refine lv_aload_n hx hb dX3_findMapped_5 rfl (lv_at hl 1 rfl) ?_
  refine va_get (D := D) (ci := 2) (v := .ref (q 3)) (C := RX3) (T := TX3) (N := 9) hx hb hts (by decide +kernel) hown hK hP 0 rfl rfl 2 (by decide) (hts (.fieldLink RX3 19 "TrapMachine" "controls" "LTrapMachine$Controls;") (by decide +kernel)) (fun _ h9 => h9) rfl dX3_findMapped_6 ?_
  refine lv_bipush (v := (11 : Int32)) hx hb dX3_findMapped_9 (by decide) ?_
  refine rd_call (r := (fX2_get u.2.2.1 (11 : Int32))) (va_runVN (C := RX2) (b := (q 3)) (As := [.int (11 : Int32)]) (rest := []) ⟨hx, hb, hml, hown, hts⟩ (kX2_get l D k (q 3) (q 4) u.2.2.1 (11 : Int32) (vi_k (by decide))) ⟨va_cnB 1 hts gX3_findMapped_X2_get_n77 rfl rfl rfl (hX.at 3 (q := (77, yX2_get)) rfl) (hts (.initialized RX2) (by decide +kernel)) (by decide +kernel) ⟨Nat.le_of_ble_eq_true rfl, Nat.le_of_ble_eq_true rfl⟩, (hts (.instanceMethod yX2_get) (by decide +kernel)), (hts (.selects RX2 yX2_get yX2_get) (by decide +kernel))⟩ (rd_preV bl_T pr_T hK (show va_P D vwCl (wC k (q 3) (q 4) u.2.2.1) _ from hP.sub [3, 4] fmTC) (va_recv hK (show va_P D vwCl (wC k (q 3) (q 4) u.2.2.1) _ from hP.sub [3, 4] fmTC) (ci := 1) (q0 := 0) rfl rfl)) rfl rfl hl.1 rfl (lv_room (Nat.le_of_ble_eq_true rfl)) dX3_findMapped_11 ⟨Nat.zero_le _, Nat.zero_le _⟩).run ?_
  refine lv_istore (lv' := [(4, .int (fX2_get u.2.2.1 (11 : Int32))), (3, .int (iu a1 (7 : Int32))), (0, .ref (q 0)), (1, .int a1), (2, .int a2)]) hx hb dX3_findMapped_14 hl (by decide) rfl (fun ls hl => ?_)
  refine lv_aload_n hx hb dX3_findMapped_16 rfl (lv_at hl 2 rfl) ?_
  refine va_get (D := D) (ci := 2) (v := .ref (q 5)) (C := RX3) (T := TX3) (N := 9) hx hb hts (by decide +kernel) hown hK hP 0 rfl rfl 3 (by decide) (hts (.fieldLink RX3 26 "TrapMachine" "buffer" "LTrapMachine$Buffer;") (by decide +kernel)) (fun _ h9 => h9) rfl dX3_findMapped_17 ?_
  refine lv_iload_n hx hb dX3_findMapped_20 rfl (lv_at hl 1 rfl) ?_
  refine lv_iload hx hb dX3_findMapped_21 (lv_at hl 0 rfl) ?_
  refine lv_iconst (v := (0 : Int32)) hx hb dX3_findMapped_23 (by decide) ?_
  refine rd_call (r := (fX0_find u.2.2.2.1 (iu a1 (7 : Int32)) (fX2_get u.2.2.1 (11 : Int32)) (0 : Int32))) (va_runVN (C := RX0) (b := (q 5)) (As := [.int (iu a1 (7 : Int32)), .int (fX2_get u.2.2.1 (11 : Int32)), .int (0 : Int32)]) (rest := []) ⟨hx, hb, hml, hown, hts⟩ (kX0_find l D k (q 5) (q 6) (fun j => q (7 + j)) u.2.2.2.1 (iu a1 (7 : Int32)) (fX2_get u.2.2.1 (11 : Int32)) (0 : Int32) ⟨0, by omega, nI_0.symm⟩) ⟨va_cnB 3 hts gX3_findMapped_X0_find_n187 rfl rfl rfl (hX.at 11 (q := (187, yX0_find)) rfl) (hts (.initialized RX0) (by decide +kernel)) (by decide +kernel) ⟨Nat.le_of_ble_eq_true rfl, Nat.le_of_ble_eq_true rfl⟩, (hts (.instanceMethod yX0_find) (by decide +kernel)), (hts (.selects RX0 yX0_find yX0_find) (by decide +kernel))⟩ (rd_preV bl_T pr_T hK (show va_P D vwCl (wB k (q 5) (q 6) (fun j => q (7 + j)) u.2.2.2.1) _ from hP.sub [5, 6, 7, 8, 9, 10] fmTB) (va_recv hK (show va_P D vwCl (wB k (q 5) (q 6) (fun j => q (7 + j)) u.2.2.2.1) _ from hP.sub [5, 6, 7, 8, 9, 10] fmTB) (ci := 0) (q0 := 0) rfl rfl)) rfl rfl hl.1 rfl (lv_room (Nat.le_of_ble_eq_true rfl)) dX3_findMapped_24 ⟨Nat.zero_le _, Nat.zero_le _⟩).run ?_
  refine lv_istore (lv' := [(5, .int (fX0_find u.2.2.2.1 (iu a1 (7 : Int32)) (fX2_get u.2.2.1 (11 : Int32)) (0 : Int32))), (4, .int (fX2_get u.2.2.1 (11 : Int32))), (3, .int (iu a1 (7 : Int32))), (0, .ref (q 0)), (1, .int a1), (2, .int a2)]) hx hb dX3_findMapped_27 hl (by decide) rfl (fun ls hl => ?_)
  refine lv_iload hx hb dX3_findMapped_29 (lv_at hl 0 rfl) ?_
  refine lv_if_ge (tgt := 37) hx hb dX3_findMapped_31 (by decide) (fun c_31 => ?_) (fun c_31 => ?_)
  · refine lv_aload_n hx hb dX3_findMapped_37 rfl (lv_at hl 3 rfl) ?_
    refine va_get (D := D) (ci := 2) (v := .ref (q 5)) (C := RX3) (T := TX3) (N := 9) hx hb hts (by decide +kernel) hown hK hP 0 rfl rfl 3 (by decide) (hts (.fieldLink RX3 26 "TrapMachine" "buffer" "LTrapMachine$Buffer;") (by decide +kernel)) (fun _ h9 => h9) rfl dX3_findMapped_38 ?_
    refine lv_iload_n hx hb dX3_findMapped_41 rfl (lv_at hl 2 rfl) ?_
    refine lv_iload hx hb dX3_findMapped_42 (lv_at hl 1 rfl) ?_
    refine lv_iload hx hb dX3_findMapped_44 (lv_at hl 0 rfl) ?_
    refine lv_iconst (v := (1 : Int32)) hx hb dX3_findMapped_46 (by decide) ?_
    refine lv_iadd hx hb dX3_findMapped_47 ?_
    refine rd_call (r := (fX0_find u.2.2.2.1 (iu a1 (7 : Int32)) (fX2_get u.2.2.1 (11 : Int32)) ((fX0_find u.2.2.2.1 (iu a1 (7 : Int32)) (fX2_get u.2.2.1 (11 : Int32)) (0 : Int32)) + (1 : Int32)))) (va_runVN (C := RX0) (b := (q 5)) (As := [.int (iu a1 (7 : Int32)), .int (fX2_get u.2.2.1 (11 : Int32)), .int ((fX0_find u.2.2.2.1 (iu a1 (7 : Int32)) (fX2_get u.2.2.1 (11 : Int32)) (0 : Int32)) + (1 : Int32))]) (rest := []) ⟨hx, hb, hml, hown, hts⟩ (kX0_find l D k (q 5) (q 6) (fun j => q (7 + j)) u.2.2.2.1 (iu a1 (7 : Int32)) (fX2_get u.2.2.1 (11 : Int32)) ((fX0_find u.2.2.2.1 (iu a1 (7 : Int32)) (fX2_get u.2.2.1 (11 : Int32)) (0 : Int32)) + (1 : Int32)) (ent_1' c_31)) ⟨va_cnB 3 hts gX3_findMapped_X0_find_n187 rfl rfl rfl (hX.at 11 (q := (187, yX0_find)) rfl) (hts (.initialized RX0) (by decide +kernel)) (by decide +kernel) ⟨Nat.le_of_ble_eq_true rfl, Nat.le_of_ble_eq_true rfl⟩, (hts (.instanceMethod yX0_find) (by decide +kernel)), (hts (.selects RX0 yX0_find yX0_find) (by decide +kernel))⟩ (rd_preV bl_T pr_T hK (show va_P D vwCl (wB k (q 5) (q 6) (fun j => q (7 + j)) u.2.2.2.1) _ from hP.sub [5, 6, 7, 8, 9, 10] fmTB) (va_recv hK (show va_P D vwCl (wB k (q 5) (q 6) (fun j => q (7 + j)) u.2.2.2.1) _ from hP.sub [5, 6, 7, 8, 9, 10] fmTB) (ci := 0) (q0 := 0) rfl rfl)) rfl rfl hl.1 rfl (lv_room (Nat.le_of_ble_eq_true rfl)) dX3_findMapped_48 ⟨Nat.zero_le _, Nat.zero_le _⟩).run ?_
    refine lv_if_lt (tgt := 57) hx hb dX3_findMapped_51 (by decide) (fun c_51 => ?_) (fun c_51 => ?_)
    · refine lv_aload_n hx hb dX3_findMapped_57 rfl (lv_at hl 3 rfl) ?_
      refine va_get (D := D) (ci := 2) (v := .ref (q 5)) (C := RX3) (T := TX3) (N := 9) hx hb hts (by decide +kernel) hown hK hP 0 rfl rfl 3 (by decide) (hts (.fieldLink RX3 26 "TrapMachine" "buffer" "LTrapMachine$Buffer;") (by decide +kernel)) (fun _ h9 => h9) rfl dX3_findMapped_58 ?_
      refine lv_iload hx hb dX3_findMapped_61 (lv_at hl 0 rfl) ?_
      refine lv_iload_n hx hb dX3_findMapped_63 rfl (lv_at hl 4 rfl) ?_
      refine lv_bipush (v := (64 : Int32)) hx hb dX3_findMapped_64 (by decide) ?_
      refine lv_iand hx hb dX3_findMapped_66 ?_
      refine lv_if_ne (tgt := 74) hx hb dX3_findMapped_67 (by decide) (fun c_67 => ?_) (fun c_67 => ?_)
      · refine lv_iconst (v := (5 : Int32)) hx hb dX3_findMapped_74 (by decide) ?_
        refine rd_call (r := (fX0_get u.2.2.2.1 (fX0_find u.2.2.2.1 (iu a1 (7 : Int32)) (fX2_get u.2.2.1 (11 : Int32)) (0 : Int32)) (5 : Int32))) (va_runVN (C := RX0) (b := (q 5)) (As := [.int (fX0_find u.2.2.2.1 (iu a1 (7 : Int32)) (fX2_get u.2.2.1 (11 : Int32)) (0 : Int32)), .int (5 : Int32)]) (rest := []) ⟨hx, hb, hml, hown, hts⟩ (kX0_get l D k (q 5) (q 6) (fun j => q (7 + j)) u.2.2.2.1 (fX0_find u.2.2.2.1 (iu a1 (7 : Int32)) (fX2_get u.2.2.1 (11 : Int32)) (0 : Int32)) (5 : Int32) (ent_in' c_31) (vi_k (by decide))) ⟨va_cnB 2 hts gX3_findMapped_X0_get_n83 rfl rfl rfl (hX.at 4 (q := (83, yX0_get)) rfl) (hts (.initialized RX0) (by decide +kernel)) (by decide +kernel) ⟨Nat.le_of_ble_eq_true rfl, Nat.le_of_ble_eq_true rfl⟩, (hts (.instanceMethod yX0_get) (by decide +kernel)), (hts (.selects RX0 yX0_get yX0_get) (by decide +kernel))⟩ (rd_preV bl_T pr_T hK (show va_P D vwCl (wB k (q 5) (q 6) (fun j => q (7 + j)) u.2.2.2.1) _ from hP.sub [5, 6, 7, 8, 9, 10] fmTB) (va_recv hK (show va_P D vwCl (wB k (q 5) (q 6) (fun j => q (7 + j)) u.2.2.2.1) _ from hP.sub [5, 6, 7, 8, 9, 10] fmTB) (ci := 0) (q0 := 0) rfl rfl)) rfl rfl hl.1 rfl (lv_room (Nat.le_of_ble_eq_true rfl)) dX3_findMapped_75 ⟨Nat.zero_le _, Nat.zero_le _⟩).run ?_
        refine lv_istore (lv' := [(6, .int (fX0_get u.2.2.2.1 (fX0_find u.2.2.2.1 (iu a1 (7 : Int32)) (fX2_get u.2.2.1 (11 : Int32)) (0 : Int32)) (5 : Int32))), (5, .int (fX0_find u.2.2.2.1 (iu a1 (7 : Int32)) (fX2_get u.2.2.1 (11 : Int32)) (0 : Int32))), (4, .int (fX2_get u.2.2.1 (11 : Int32))), (3, .int (iu a1 (7 : Int32))), (0, .ref (q 0)), (1, .int a1), (2, .int a2)]) hx hb dX3_findMapped_78 hl (by decide) rfl (fun ls hl => ?_)
        refine lv_iload hx hb dX3_findMapped_80 (lv_at hl 0 rfl) ?_
        refine lv_iconst (v := (1 : Int32)) hx hb dX3_findMapped_82 (by decide) ?_
        refine lv_iand hx hb dX3_findMapped_83 ?_
        refine lv_if_ne (tgt := 108) hx hb dX3_findMapped_84 (by decide) (fun c_84 => ?_) (fun c_84 => ?_)
        · refine lv_iload hx hb dX3_findMapped_108 (lv_at hl 0 rfl) ?_
          refine lv_bipush (v := (12 : Int32)) hx hb dX3_findMapped_110 (by decide) ?_
          refine lv_iand hx hb dX3_findMapped_112 ?_
          refine lv_if_ne (tgt := 129) hx hb dX3_findMapped_113 (by decide) (fun c_113 => ?_) (fun c_113 => ?_)
          · refine lv_iload_n hx hb dX3_findMapped_129 rfl (lv_at hl 6 rfl) ?_
            refine lv_iconst (v := (2 : Int32)) hx hb dX3_findMapped_130 (by decide) ?_
            refine lv_icmp_ne (tgt := 144) hx hb dX3_findMapped_131 (by decide) (fun c_131 => ?_) (fun c_131 => ?_)
            · refine lv_iload hx hb dX3_findMapped_144 (lv_at hl 0 rfl) ?_
              refine lv_bipush (v := (6 : Int32)) hx hb dX3_findMapped_146 (by decide) ?_
              refine lv_iushr (v := (iu (fX0_get u.2.2.2.1 (fX0_find u.2.2.2.1 (iu a1 (7 : Int32)) (fX2_get u.2.2.1 (11 : Int32)) (0 : Int32)) (5 : Int32)) (6 : Int32))) hx hb dX3_findMapped_148 rfl ?_
              refine lv_bipush (v := (31 : Int32)) hx hb dX3_findMapped_149 (by decide) ?_
              refine lv_iand hx hb dX3_findMapped_151 ?_
              refine lv_istore (lv' := [(7, .int ((iu (fX0_get u.2.2.2.1 (fX0_find u.2.2.2.1 (iu a1 (7 : Int32)) (fX2_get u.2.2.1 (11 : Int32)) (0 : Int32)) (5 : Int32)) (6 : Int32)) &&& (31 : Int32))), (6, .int (fX0_get u.2.2.2.1 (fX0_find u.2.2.2.1 (iu a1 (7 : Int32)) (fX2_get u.2.2.1 (11 : Int32)) (0 : Int32)) (5 : Int32))), (5, .int (fX0_find u.2.2.2.1 (iu a1 (7 : Int32)) (fX2_get u.2.2.1 (11 : Int32)) (0 : Int32))), (4, .int (fX2_get u.2.2.1 (11 : Int32))), (3, .int (iu a1 (7 : Int32))), (0, .ref (q 0)), (1, .int a1), (2, .int a2)]) hx hb dX3_findMapped_152 hl (by decide) rfl (fun ls hl => ?_)
              refine lv_iload hx hb dX3_findMapped_154 (lv_at hl 0 rfl) ?_
              refine lv_bipush (v := (16 : Int32)) hx hb dX3_findMapped_156 (by decide) ?_
              refine lv_imul hx hb dX3_findMapped_158 ?_
              refine lv_iload_n hx hb dX3_findMapped_159 rfl (lv_at hl 6 rfl) ?_
              refine lv_iconst (v := (2 : Int32)) hx hb dX3_findMapped_160 (by decide) ?_
              refine lv_iushr (v := (iu a1 (2 : Int32))) hx hb dX3_findMapped_161 rfl ?_
              refine lv_bipush (v := (15 : Int32)) hx hb dX3_findMapped_162 (by decide) ?_
              refine lv_iand hx hb dX3_findMapped_164 ?_
              refine lv_iadd hx hb dX3_findMapped_165 ?_
              exact W.iret (v := ((((iu (fX0_get u.2.2.2.1 (fX0_find u.2.2.2.1 (iu a1 (7 : Int32)) (fX2_get u.2.2.1 (11 : Int32)) (0 : Int32)) (5 : Int32)) (6 : Int32)) &&& (31 : Int32)) * (16 : Int32)) + ((iu a1 (2 : Int32)) &&& (15 : Int32)))) hx hb hr (rd_end (show fX3_findMapped u a1 a2 = ((((iu (fX0_get u.2.2.2.1 (fX0_find u.2.2.2.1 (iu a1 (7 : Int32)) (fX2_get u.2.2.1 (11 : Int32)) (0 : Int32)) (5 : Int32)) (6 : Int32)) &&& (31 : Int32)) * (16 : Int32)) + ((iu a1 (2 : Int32)) &&& (15 : Int32))) from (if_pos c_31).trans ((if_pos c_51).trans ((if_neg c_67).trans ((if_neg c_84).trans ((if_neg c_113).trans ((if_neg c_131).trans rfl))))))) (fun q h => by cases h) dX3_findMapped_166
            · refine lv_iload hx hb dX3_findMapped_134 (lv_at hl 0 rfl) ?_
              refine lv_iconst (v := (2 : Int32)) hx hb dX3_findMapped_136 (by decide) ?_
              refine lv_iand hx hb dX3_findMapped_137 ?_
              refine lv_if_ne (tgt := 144) hx hb dX3_findMapped_138 (by decide) (fun c_138 => ?_) (fun c_138 => ?_)
              · refine lv_iload hx hb dX3_findMapped_144 (lv_at hl 0 rfl) ?_
                refine lv_bipush (v := (6 : Int32)) hx hb dX3_findMapped_146 (by decide) ?_
                refine lv_iushr (v := (iu (fX0_get u.2.2.2.1 (fX0_find u.2.2.2.1 (iu a1 (7 : Int32)) (fX2_get u.2.2.1 (11 : Int32)) (0 : Int32)) (5 : Int32)) (6 : Int32))) hx hb dX3_findMapped_148 rfl ?_
                refine lv_bipush (v := (31 : Int32)) hx hb dX3_findMapped_149 (by decide) ?_
                refine lv_iand hx hb dX3_findMapped_151 ?_
                refine lv_istore (lv' := [(7, .int ((iu (fX0_get u.2.2.2.1 (fX0_find u.2.2.2.1 (iu a1 (7 : Int32)) (fX2_get u.2.2.1 (11 : Int32)) (0 : Int32)) (5 : Int32)) (6 : Int32)) &&& (31 : Int32))), (6, .int (fX0_get u.2.2.2.1 (fX0_find u.2.2.2.1 (iu a1 (7 : Int32)) (fX2_get u.2.2.1 (11 : Int32)) (0 : Int32)) (5 : Int32))), (5, .int (fX0_find u.2.2.2.1 (iu a1 (7 : Int32)) (fX2_get u.2.2.1 (11 : Int32)) (0 : Int32))), (4, .int (fX2_get u.2.2.1 (11 : Int32))), (3, .int (iu a1 (7 : Int32))), (0, .ref (q 0)), (1, .int a1), (2, .int a2)]) hx hb dX3_findMapped_152 hl (by decide) rfl (fun ls hl => ?_)
                refine lv_iload hx hb dX3_findMapped_154 (lv_at hl 0 rfl) ?_
                refine lv_bipush (v := (16 : Int32)) hx hb dX3_findMapped_156 (by decide) ?_
                refine lv_imul hx hb dX3_findMapped_158 ?_
                refine lv_iload_n hx hb dX3_findMapped_159 rfl (lv_at hl 6 rfl) ?_
                refine lv_iconst (v := (2 : Int32)) hx hb dX3_findMapped_160 (by decide) ?_
                refine lv_iushr (v := (iu a1 (2 : Int32))) hx hb dX3_findMapped_161 rfl ?_
                refine lv_bipush (v := (15 : Int32)) hx hb dX3_findMapped_162 (by decide) ?_
                refine lv_iand hx hb dX3_findMapped_164 ?_
                refine lv_iadd hx hb dX3_findMapped_165 ?_
                exact W.iret (v := ((((iu (fX0_get u.2.2.2.1 (fX0_find u.2.2.2.1 (iu a1 (7 : Int32)) (fX2_get u.2.2.1 (11 : Int32)) (0 : Int32)) (5 : Int32)) (6 : Int32)) &&& (31 : Int32)) * (16 : Int32)) + ((iu a1 (2 : Int32)) &&& (15 : Int32)))) hx hb hr (rd_end (show fX3_findMapped u a1 a2 = ((((iu (fX0_get u.2.2.2.1 (fX0_find u.2.2.2.1 (iu a1 (7 : Int32)) (fX2_get u.2.2.1 (11 : Int32)) (0 : Int32)) (5 : Int32)) (6 : Int32)) &&& (31 : Int32)) * (16 : Int32)) + ((iu a1 (2 : Int32)) &&& (15 : Int32))) from (if_pos c_31).trans ((if_pos c_51).trans ((if_neg c_67).trans ((if_neg c_84).trans ((if_neg c_113).trans ((if_pos c_131).trans ((if_neg c_138).trans rfl)))))))) (fun q h => by cases h) dX3_findMapped_166
              · refine lv_bipush (v := (-4 : Int32)) hx hb dX3_findMapped_141 (by decide) ?_
                exact W.iret (v := (-4 : Int32)) hx hb hr (rd_end (show fX3_findMapped u a1 a2 = (-4 : Int32) from (if_pos c_31).trans ((if_pos c_51).trans ((if_neg c_67).trans ((if_neg c_84).trans ((if_neg c_113).trans ((if_pos c_131).trans ((if_pos c_138).trans rfl)))))))) (fun q h => by cases h) dX3_findMapped_143
          · refine lv_aload_n hx hb dX3_findMapped_116 rfl (lv_at hl 4 rfl) ?_
            refine va_get (D := D) (ci := 2) (v := .ref (q 3)) (C := RX3) (T := TX3) (N := 9) hx hb hts (by decide +kernel) hown hK hP 0 rfl rfl 2 (by decide) (hts (.fieldLink RX3 19 "TrapMachine" "controls" "LTrapMachine$Controls;") (by decide +kernel)) (fun _ h9 => h9) rfl dX3_findMapped_117 ?_
            refine rd_call (r := (fX2_level u.2.2.1)) (va_runVN (C := RX2) (b := (q 3)) (As := []) (rest := []) ⟨hx, hb, hml, hown, hts⟩ (kX2_level l D k (q 3) (q 4) u.2.2.1) ⟨va_cnB 0 hts gX3_findMapped_X2_level_n126 rfl rfl rfl (hX.at 8 (q := (126, yX2_level)) rfl) (hts (.initialized RX2) (by decide +kernel)) (by decide +kernel) ⟨Nat.le_of_ble_eq_true rfl, Nat.le_of_ble_eq_true rfl⟩, (hts (.instanceMethod yX2_level) (by decide +kernel)), (hts (.selects RX2 yX2_level yX2_level) (by decide +kernel))⟩ (rd_preV bl_T pr_T hK (show va_P D vwCl (wC k (q 3) (q 4) u.2.2.1) _ from hP.sub [3, 4] fmTC) (va_recv hK (show va_P D vwCl (wC k (q 3) (q 4) u.2.2.1) _ from hP.sub [3, 4] fmTC) (ci := 1) (q0 := 0) rfl rfl)) rfl rfl hl.1 rfl (lv_room (Nat.le_of_ble_eq_true rfl)) dX3_findMapped_120 ⟨Nat.zero_le _, Nat.zero_le _⟩).run ?_
            refine lv_if_eq (tgt := 129) hx hb dX3_findMapped_123 (by decide) (fun c_123 => ?_) (fun c_123 => ?_)
            · refine lv_iload_n hx hb dX3_findMapped_129 rfl (lv_at hl 6 rfl) ?_
              refine lv_iconst (v := (2 : Int32)) hx hb dX3_findMapped_130 (by decide) ?_
              refine lv_icmp_ne (tgt := 144) hx hb dX3_findMapped_131 (by decide) (fun c_131 => ?_) (fun c_131 => ?_)
              · refine lv_iload hx hb dX3_findMapped_144 (lv_at hl 0 rfl) ?_
                refine lv_bipush (v := (6 : Int32)) hx hb dX3_findMapped_146 (by decide) ?_
                refine lv_iushr (v := (iu (fX0_get u.2.2.2.1 (fX0_find u.2.2.2.1 (iu a1 (7 : Int32)) (fX2_get u.2.2.1 (11 : Int32)) (0 : Int32)) (5 : Int32)) (6 : Int32))) hx hb dX3_findMapped_148 rfl ?_
                refine lv_bipush (v := (31 : Int32)) hx hb dX3_findMapped_149 (by decide) ?_
                refine lv_iand hx hb dX3_findMapped_151 ?_
                refine lv_istore (lv' := [(7, .int ((iu (fX0_get u.2.2.2.1 (fX0_find u.2.2.2.1 (iu a1 (7 : Int32)) (fX2_get u.2.2.1 (11 : Int32)) (0 : Int32)) (5 : Int32)) (6 : Int32)) &&& (31 : Int32))), (6, .int (fX0_get u.2.2.2.1 (fX0_find u.2.2.2.1 (iu a1 (7 : Int32)) (fX2_get u.2.2.1 (11 : Int32)) (0 : Int32)) (5 : Int32))), (5, .int (fX0_find u.2.2.2.1 (iu a1 (7 : Int32)) (fX2_get u.2.2.1 (11 : Int32)) (0 : Int32))), (4, .int (fX2_get u.2.2.1 (11 : Int32))), (3, .int (iu a1 (7 : Int32))), (0, .ref (q 0)), (1, .int a1), (2, .int a2)]) hx hb dX3_findMapped_152 hl (by decide) rfl (fun ls hl => ?_)
                refine lv_iload hx hb dX3_findMapped_154 (lv_at hl 0 rfl) ?_
                refine lv_bipush (v := (16 : Int32)) hx hb dX3_findMapped_156 (by decide) ?_
                refine lv_imul hx hb dX3_findMapped_158 ?_
                refine lv_iload_n hx hb dX3_findMapped_159 rfl (lv_at hl 6 rfl) ?_
                refine lv_iconst (v := (2 : Int32)) hx hb dX3_findMapped_160 (by decide) ?_
                refine lv_iushr (v := (iu a1 (2 : Int32))) hx hb dX3_findMapped_161 rfl ?_
                refine lv_bipush (v := (15 : Int32)) hx hb dX3_findMapped_162 (by decide) ?_
                refine lv_iand hx hb dX3_findMapped_164 ?_
                refine lv_iadd hx hb dX3_findMapped_165 ?_
                exact W.iret (v := ((((iu (fX0_get u.2.2.2.1 (fX0_find u.2.2.2.1 (iu a1 (7 : Int32)) (fX2_get u.2.2.1 (11 : Int32)) (0 : Int32)) (5 : Int32)) (6 : Int32)) &&& (31 : Int32)) * (16 : Int32)) + ((iu a1 (2 : Int32)) &&& (15 : Int32)))) hx hb hr (rd_end (show fX3_findMapped u a1 a2 = ((((iu (fX0_get u.2.2.2.1 (fX0_find u.2.2.2.1 (iu a1 (7 : Int32)) (fX2_get u.2.2.1 (11 : Int32)) (0 : Int32)) (5 : Int32)) (6 : Int32)) &&& (31 : Int32)) * (16 : Int32)) + ((iu a1 (2 : Int32)) &&& (15 : Int32))) from (if_pos c_31).trans ((if_pos c_51).trans ((if_neg c_67).trans ((if_neg c_84).trans ((if_pos c_113).trans ((if_pos c_123).trans ((if_neg c_131).trans rfl)))))))) (fun q h => by cases h) dX3_findMapped_166
              · refine lv_iload hx hb dX3_findMapped_134 (lv_at hl 0 rfl) ?_
                refine lv_iconst (v := (2 : Int32)) hx hb dX3_findMapped_136 (by decide) ?_
                refine lv_iand hx hb dX3_findMapped_137 ?_
                refine lv_if_ne (tgt := 144) hx hb dX3_findMapped_138 (by decide) (fun c_138 => ?_) (fun c_138 => ?_)
                · refine lv_iload hx hb dX3_findMapped_144 (lv_at hl 0 rfl) ?_
                  refine lv_bipush (v := (6 : Int32)) hx hb dX3_findMapped_146 (by decide) ?_
                  refine lv_iushr (v := (iu (fX0_get u.2.2.2.1 (fX0_find u.2.2.2.1 (iu a1 (7 : Int32)) (fX2_get u.2.2.1 (11 : Int32)) (0 : Int32)) (5 : Int32)) (6 : Int32))) hx hb dX3_findMapped_148 rfl ?_
                  refine lv_bipush (v := (31 : Int32)) hx hb dX3_findMapped_149 (by decide) ?_
                  refine lv_iand hx hb dX3_findMapped_151 ?_
                  refine lv_istore (lv' := [(7, .int ((iu (fX0_get u.2.2.2.1 (fX0_find u.2.2.2.1 (iu a1 (7 : Int32)) (fX2_get u.2.2.1 (11 : Int32)) (0 : Int32)) (5 : Int32)) (6 : Int32)) &&& (31 : Int32))), (6, .int (fX0_get u.2.2.2.1 (fX0_find u.2.2.2.1 (iu a1 (7 : Int32)) (fX2_get u.2.2.1 (11 : Int32)) (0 : Int32)) (5 : Int32))), (5, .int (fX0_find u.2.2.2.1 (iu a1 (7 : Int32)) (fX2_get u.2.2.1 (11 : Int32)) (0 : Int32))), (4, .int (fX2_get u.2.2.1 (11 : Int32))), (3, .int (iu a1 (7 : Int32))), (0, .ref (q 0)), (1, .int a1), (2, .int a2)]) hx hb dX3_findMapped_152 hl (by decide) rfl (fun ls hl => ?_)
                  refine lv_iload hx hb dX3_findMapped_154 (lv_at hl 0 rfl) ?_
                  refine lv_bipush (v := (16 : Int32)) hx hb dX3_findMapped_156 (by decide) ?_
                  refine lv_imul hx hb dX3_findMapped_158 ?_
                  refine lv_iload_n hx hb dX3_findMapped_159 rfl (lv_at hl 6 rfl) ?_
                  refine lv_iconst (v := (2 : Int32)) hx hb dX3_findMapped_160 (by decide) ?_
                  refine lv_iushr (v := (iu a1 (2 : Int32))) hx hb dX3_findMapped_161 rfl ?_
                  refine lv_bipush (v := (15 : Int32)) hx hb dX3_findMapped_162 (by decide) ?_
                  refine lv_iand hx hb dX3_findMapped_164 ?_
                  refine lv_iadd hx hb dX3_findMapped_165 ?_
                  exact W.iret (v := ((((iu (fX0_get u.2.2.2.1 (fX0_find u.2.2.2.1 (iu a1 (7 : Int32)) (fX2_get u.2.2.1 (11 : Int32)) (0 : Int32)) (5 : Int32)) (6 : Int32)) &&& (31 : Int32)) * (16 : Int32)) + ((iu a1 (2 : Int32)) &&& (15 : Int32)))) hx hb hr (rd_end (show fX3_findMapped u a1 a2 = ((((iu (fX0_get u.2.2.2.1 (fX0_find u.2.2.2.1 (iu a1 (7 : Int32)) (fX2_get u.2.2.1 (11 : Int32)) (0 : Int32)) (5 : Int32)) (6 : Int32)) &&& (31 : Int32)) * (16 : Int32)) + ((iu a1 (2 : Int32)) &&& (15 : Int32))) from (if_pos c_31).trans ((if_pos c_51).trans ((if_neg c_67).trans ((if_neg c_84).trans ((if_pos c_113).trans ((if_pos c_123).trans ((if_pos c_131).trans ((if_neg c_138).trans rfl))))))))) (fun q h => by cases h) dX3_findMapped_166
                · refine lv_bipush (v := (-4 : Int32)) hx hb dX3_findMapped_141 (by decide) ?_
                  exact W.iret (v := (-4 : Int32)) hx hb hr (rd_end (show fX3_findMapped u a1 a2 = (-4 : Int32) from (if_pos c_31).trans ((if_pos c_51).trans ((if_neg c_67).trans ((if_neg c_84).trans ((if_pos c_113).trans ((if_pos c_123).trans ((if_pos c_131).trans ((if_pos c_138).trans rfl))))))))) (fun q h => by cases h) dX3_findMapped_143
            · refine lv_bipush (v := (-7 : Int32)) hx hb dX3_findMapped_126 (by decide) ?_
              exact W.iret (v := (-7 : Int32)) hx hb hr (rd_end (show fX3_findMapped u a1 a2 = (-7 : Int32) from (if_pos c_31).trans ((if_pos c_51).trans ((if_neg c_67).trans ((if_neg c_84).trans ((if_pos c_113).trans ((if_neg c_123).trans rfl))))))) (fun q h => by cases h) dX3_findMapped_128
        · refine lv_iload_n hx hb dX3_findMapped_87 rfl (lv_at hl 6 rfl) ?_
          refine lv_if_ne (tgt := 96) hx hb dX3_findMapped_88 (by decide) (fun c_88 => ?_) (fun c_88 => ?_)
          · refine lv_iload_n hx hb dX3_findMapped_96 rfl (lv_at hl 6 rfl) ?_
            refine lv_iconst (v := (1 : Int32)) hx hb dX3_findMapped_97 (by decide) ?_
            refine lv_icmp_ne (tgt := 105) hx hb dX3_findMapped_98 (by decide) (fun c_98 => ?_) (fun c_98 => ?_)
            · refine lv_bipush (v := (-2 : Int32)) hx hb dX3_findMapped_105 (by decide) ?_
              exact W.iret (v := (-2 : Int32)) hx hb hr (rd_end (show fX3_findMapped u a1 a2 = (-2 : Int32) from (if_pos c_31).trans ((if_pos c_51).trans ((if_neg c_67).trans ((if_pos c_84).trans ((if_neg c_88).trans ((if_neg c_98).trans rfl))))))) (fun q h => by cases h) dX3_findMapped_107
            · refine lv_iconst (v := (-1 : Int32)) hx hb dX3_findMapped_101 (by decide) ?_
              refine lv_goto (tgt := 107) hx hb dX3_findMapped_102 (by decide) ?_
              exact W.iret (v := (-1 : Int32)) hx hb hr (rd_end (show fX3_findMapped u a1 a2 = (-1 : Int32) from (if_pos c_31).trans ((if_pos c_51).trans ((if_neg c_67).trans ((if_pos c_84).trans ((if_neg c_88).trans ((if_pos c_98).trans rfl))))))) (fun q h => by cases h) dX3_findMapped_107
          · refine lv_bipush (v := (-3 : Int32)) hx hb dX3_findMapped_91 (by decide) ?_
            refine lv_goto (tgt := 107) hx hb dX3_findMapped_93 (by decide) ?_
            exact W.iret (v := (-3 : Int32)) hx hb hr (rd_end (show fX3_findMapped u a1 a2 = (-3 : Int32) from (if_pos c_31).trans ((if_pos c_51).trans ((if_neg c_67).trans ((if_pos c_84).trans ((if_pos c_88).trans rfl)))))) (fun q h => by cases h) dX3_findMapped_107
      · refine lv_iconst (v := (4 : Int32)) hx hb dX3_findMapped_70 (by decide) ?_
        refine lv_goto (tgt := 75) hx hb dX3_findMapped_71 (by decide) ?_
        refine rd_call (r := (fX0_get u.2.2.2.1 (fX0_find u.2.2.2.1 (iu a1 (7 : Int32)) (fX2_get u.2.2.1 (11 : Int32)) (0 : Int32)) (4 : Int32))) (va_runVN (C := RX0) (b := (q 5)) (As := [.int (fX0_find u.2.2.2.1 (iu a1 (7 : Int32)) (fX2_get u.2.2.1 (11 : Int32)) (0 : Int32)), .int (4 : Int32)]) (rest := []) ⟨hx, hb, hml, hown, hts⟩ (kX0_get l D k (q 5) (q 6) (fun j => q (7 + j)) u.2.2.2.1 (fX0_find u.2.2.2.1 (iu a1 (7 : Int32)) (fX2_get u.2.2.1 (11 : Int32)) (0 : Int32)) (4 : Int32) (ent_in' c_31) (vi_k (by decide))) ⟨va_cnB 2 hts gX3_findMapped_X0_get_n83 rfl rfl rfl (hX.at 4 (q := (83, yX0_get)) rfl) (hts (.initialized RX0) (by decide +kernel)) (by decide +kernel) ⟨Nat.le_of_ble_eq_true rfl, Nat.le_of_ble_eq_true rfl⟩, (hts (.instanceMethod yX0_get) (by decide +kernel)), (hts (.selects RX0 yX0_get yX0_get) (by decide +kernel))⟩ (rd_preV bl_T pr_T hK (show va_P D vwCl (wB k (q 5) (q 6) (fun j => q (7 + j)) u.2.2.2.1) _ from hP.sub [5, 6, 7, 8, 9, 10] fmTB) (va_recv hK (show va_P D vwCl (wB k (q 5) (q 6) (fun j => q (7 + j)) u.2.2.2.1) _ from hP.sub [5, 6, 7, 8, 9, 10] fmTB) (ci := 0) (q0 := 0) rfl rfl)) rfl rfl hl.1 rfl (lv_room (Nat.le_of_ble_eq_true rfl)) dX3_findMapped_75 ⟨Nat.zero_le _, Nat.zero_le _⟩).run ?_
        refine lv_istore (lv' := [(6, .int (fX0_get u.2.2.2.1 (fX0_find u.2.2.2.1 (iu a1 (7 : Int32)) (fX2_get u.2.2.1 (11 : Int32)) (0 : Int32)) (4 : Int32))), (5, .int (fX0_find u.2.2.2.1 (iu a1 (7 : Int32)) (fX2_get u.2.2.1 (11 : Int32)) (0 : Int32))), (4, .int (fX2_get u.2.2.1 (11 : Int32))), (3, .int (iu a1 (7 : Int32))), (0, .ref (q 0)), (1, .int a1), (2, .int a2)]) hx hb dX3_findMapped_78 hl (by decide) rfl (fun ls hl => ?_)
        refine lv_iload hx hb dX3_findMapped_80 (lv_at hl 0 rfl) ?_
        refine lv_iconst (v := (1 : Int32)) hx hb dX3_findMapped_82 (by decide) ?_
        refine lv_iand hx hb dX3_findMapped_83 ?_
        refine lv_if_ne (tgt := 108) hx hb dX3_findMapped_84 (by decide) (fun c_84 => ?_) (fun c_84 => ?_)
        · refine lv_iload hx hb dX3_findMapped_108 (lv_at hl 0 rfl) ?_
          refine lv_bipush (v := (12 : Int32)) hx hb dX3_findMapped_110 (by decide) ?_
          refine lv_iand hx hb dX3_findMapped_112 ?_
          refine lv_if_ne (tgt := 129) hx hb dX3_findMapped_113 (by decide) (fun c_113 => ?_) (fun c_113 => ?_)
          · refine lv_iload_n hx hb dX3_findMapped_129 rfl (lv_at hl 6 rfl) ?_
            refine lv_iconst (v := (2 : Int32)) hx hb dX3_findMapped_130 (by decide) ?_
            refine lv_icmp_ne (tgt := 144) hx hb dX3_findMapped_131 (by decide) (fun c_131 => ?_) (fun c_131 => ?_)
            · refine lv_iload hx hb dX3_findMapped_144 (lv_at hl 0 rfl) ?_
              refine lv_bipush (v := (6 : Int32)) hx hb dX3_findMapped_146 (by decide) ?_
              refine lv_iushr (v := (iu (fX0_get u.2.2.2.1 (fX0_find u.2.2.2.1 (iu a1 (7 : Int32)) (fX2_get u.2.2.1 (11 : Int32)) (0 : Int32)) (4 : Int32)) (6 : Int32))) hx hb dX3_findMapped_148 rfl ?_
              refine lv_bipush (v := (31 : Int32)) hx hb dX3_findMapped_149 (by decide) ?_
              refine lv_iand hx hb dX3_findMapped_151 ?_
              refine lv_istore (lv' := [(7, .int ((iu (fX0_get u.2.2.2.1 (fX0_find u.2.2.2.1 (iu a1 (7 : Int32)) (fX2_get u.2.2.1 (11 : Int32)) (0 : Int32)) (4 : Int32)) (6 : Int32)) &&& (31 : Int32))), (6, .int (fX0_get u.2.2.2.1 (fX0_find u.2.2.2.1 (iu a1 (7 : Int32)) (fX2_get u.2.2.1 (11 : Int32)) (0 : Int32)) (4 : Int32))), (5, .int (fX0_find u.2.2.2.1 (iu a1 (7 : Int32)) (fX2_get u.2.2.1 (11 : Int32)) (0 : Int32))), (4, .int (fX2_get u.2.2.1 (11 : Int32))), (3, .int (iu a1 (7 : Int32))), (0, .ref (q 0)), (1, .int a1), (2, .int a2)]) hx hb dX3_findMapped_152 hl (by decide) rfl (fun ls hl => ?_)
              refine lv_iload hx hb dX3_findMapped_154 (lv_at hl 0 rfl) ?_
              refine lv_bipush (v := (16 : Int32)) hx hb dX3_findMapped_156 (by decide) ?_
              refine lv_imul hx hb dX3_findMapped_158 ?_
              refine lv_iload_n hx hb dX3_findMapped_159 rfl (lv_at hl 6 rfl) ?_
              refine lv_iconst (v := (2 : Int32)) hx hb dX3_findMapped_160 (by decide) ?_
              refine lv_iushr (v := (iu a1 (2 : Int32))) hx hb dX3_findMapped_161 rfl ?_
              refine lv_bipush (v := (15 : Int32)) hx hb dX3_findMapped_162 (by decide) ?_
              refine lv_iand hx hb dX3_findMapped_164 ?_
              refine lv_iadd hx hb dX3_findMapped_165 ?_
              exact W.iret (v := ((((iu (fX0_get u.2.2.2.1 (fX0_find u.2.2.2.1 (iu a1 (7 : Int32)) (fX2_get u.2.2.1 (11 : Int32)) (0 : Int32)) (4 : Int32)) (6 : Int32)) &&& (31 : Int32)) * (16 : Int32)) + ((iu a1 (2 : Int32)) &&& (15 : Int32)))) hx hb hr (rd_end (show fX3_findMapped u a1 a2 = ((((iu (fX0_get u.2.2.2.1 (fX0_find u.2.2.2.1 (iu a1 (7 : Int32)) (fX2_get u.2.2.1 (11 : Int32)) (0 : Int32)) (4 : Int32)) (6 : Int32)) &&& (31 : Int32)) * (16 : Int32)) + ((iu a1 (2 : Int32)) &&& (15 : Int32))) from (if_pos c_31).trans ((if_pos c_51).trans ((if_pos c_67).trans ((if_neg c_84).trans ((if_neg c_113).trans ((if_neg c_131).trans rfl))))))) (fun q h => by cases h) dX3_findMapped_166
            · refine lv_iload hx hb dX3_findMapped_134 (lv_at hl 0 rfl) ?_
              refine lv_iconst (v := (2 : Int32)) hx hb dX3_findMapped_136 (by decide) ?_
              refine lv_iand hx hb dX3_findMapped_137 ?_
              refine lv_if_ne (tgt := 144) hx hb dX3_findMapped_138 (by decide) (fun c_138 => ?_) (fun c_138 => ?_)
              · refine lv_iload hx hb dX3_findMapped_144 (lv_at hl 0 rfl) ?_
                refine lv_bipush (v := (6 : Int32)) hx hb dX3_findMapped_146 (by decide) ?_
                refine lv_iushr (v := (iu (fX0_get u.2.2.2.1 (fX0_find u.2.2.2.1 (iu a1 (7 : Int32)) (fX2_get u.2.2.1 (11 : Int32)) (0 : Int32)) (4 : Int32)) (6 : Int32))) hx hb dX3_findMapped_148 rfl ?_
                refine lv_bipush (v := (31 : Int32)) hx hb dX3_findMapped_149 (by decide) ?_
                refine lv_iand hx hb dX3_findMapped_151 ?_
                refine lv_istore (lv' := [(7, .int ((iu (fX0_get u.2.2.2.1 (fX0_find u.2.2.2.1 (iu a1 (7 : Int32)) (fX2_get u.2.2.1 (11 : Int32)) (0 : Int32)) (4 : Int32)) (6 : Int32)) &&& (31 : Int32))), (6, .int (fX0_get u.2.2.2.1 (fX0_find u.2.2.2.1 (iu a1 (7 : Int32)) (fX2_get u.2.2.1 (11 : Int32)) (0 : Int32)) (4 : Int32))), (5, .int (fX0_find u.2.2.2.1 (iu a1 (7 : Int32)) (fX2_get u.2.2.1 (11 : Int32)) (0 : Int32))), (4, .int (fX2_get u.2.2.1 (11 : Int32))), (3, .int (iu a1 (7 : Int32))), (0, .ref (q 0)), (1, .int a1), (2, .int a2)]) hx hb dX3_findMapped_152 hl (by decide) rfl (fun ls hl => ?_)
                refine lv_iload hx hb dX3_findMapped_154 (lv_at hl 0 rfl) ?_
                refine lv_bipush (v := (16 : Int32)) hx hb dX3_findMapped_156 (by decide) ?_
                refine lv_imul hx hb dX3_findMapped_158 ?_
                refine lv_iload_n hx hb dX3_findMapped_159 rfl (lv_at hl 6 rfl) ?_
                refine lv_iconst (v := (2 : Int32)) hx hb dX3_findMapped_160 (by decide) ?_
                refine lv_iushr (v := (iu a1 (2 : Int32))) hx hb dX3_findMapped_161 rfl ?_
                refine lv_bipush (v := (15 : Int32)) hx hb dX3_findMapped_162 (by decide) ?_
                refine lv_iand hx hb dX3_findMapped_164 ?_
                refine lv_iadd hx hb dX3_findMapped_165 ?_
                exact W.iret (v := ((((iu (fX0_get u.2.2.2.1 (fX0_find u.2.2.2.1 (iu a1 (7 : Int32)) (fX2_get u.2.2.1 (11 : Int32)) (0 : Int32)) (4 : Int32)) (6 : Int32)) &&& (31 : Int32)) * (16 : Int32)) + ((iu a1 (2 : Int32)) &&& (15 : Int32)))) hx hb hr (rd_end (show fX3_findMapped u a1 a2 = ((((iu (fX0_get u.2.2.2.1 (fX0_find u.2.2.2.1 (iu a1 (7 : Int32)) (fX2_get u.2.2.1 (11 : Int32)) (0 : Int32)) (4 : Int32)) (6 : Int32)) &&& (31 : Int32)) * (16 : Int32)) + ((iu a1 (2 : Int32)) &&& (15 : Int32))) from (if_pos c_31).trans ((if_pos c_51).trans ((if_pos c_67).trans ((if_neg c_84).trans ((if_neg c_113).trans ((if_pos c_131).trans ((if_neg c_138).trans rfl)))))))) (fun q h => by cases h) dX3_findMapped_166
              · refine lv_bipush (v := (-4 : Int32)) hx hb dX3_findMapped_141 (by decide) ?_
                exact W.iret (v := (-4 : Int32)) hx hb hr (rd_end (show fX3_findMapped u a1 a2 = (-4 : Int32) from (if_pos c_31).trans ((if_pos c_51).trans ((if_pos c_67).trans ((if_neg c_84).trans ((if_neg c_113).trans ((if_pos c_131).trans ((if_pos c_138).trans rfl)))))))) (fun q h => by cases h) dX3_findMapped_143
          · refine lv_aload_n hx hb dX3_findMapped_116 rfl (lv_at hl 4 rfl) ?_
            refine va_get (D := D) (ci := 2) (v := .ref (q 3)) (C := RX3) (T := TX3) (N := 9) hx hb hts (by decide +kernel) hown hK hP 0 rfl rfl 2 (by decide) (hts (.fieldLink RX3 19 "TrapMachine" "controls" "LTrapMachine$Controls;") (by decide +kernel)) (fun _ h9 => h9) rfl dX3_findMapped_117 ?_
            refine rd_call (r := (fX2_level u.2.2.1)) (va_runVN (C := RX2) (b := (q 3)) (As := []) (rest := []) ⟨hx, hb, hml, hown, hts⟩ (kX2_level l D k (q 3) (q 4) u.2.2.1) ⟨va_cnB 0 hts gX3_findMapped_X2_level_n126 rfl rfl rfl (hX.at 8 (q := (126, yX2_level)) rfl) (hts (.initialized RX2) (by decide +kernel)) (by decide +kernel) ⟨Nat.le_of_ble_eq_true rfl, Nat.le_of_ble_eq_true rfl⟩, (hts (.instanceMethod yX2_level) (by decide +kernel)), (hts (.selects RX2 yX2_level yX2_level) (by decide +kernel))⟩ (rd_preV bl_T pr_T hK (show va_P D vwCl (wC k (q 3) (q 4) u.2.2.1) _ from hP.sub [3, 4] fmTC) (va_recv hK (show va_P D vwCl (wC k (q 3) (q 4) u.2.2.1) _ from hP.sub [3, 4] fmTC) (ci := 1) (q0 := 0) rfl rfl)) rfl rfl hl.1 rfl (lv_room (Nat.le_of_ble_eq_true rfl)) dX3_findMapped_120 ⟨Nat.zero_le _, Nat.zero_le _⟩).run ?_
            refine lv_if_eq (tgt := 129) hx hb dX3_findMapped_123 (by decide) (fun c_123 => ?_) (fun c_123 => ?_)
            · refine lv_iload_n hx hb dX3_findMapped_129 rfl (lv_at hl 6 rfl) ?_
              refine lv_iconst (v := (2 : Int32)) hx hb dX3_findMapped_130 (by decide) ?_
              refine lv_icmp_ne (tgt := 144) hx hb dX3_findMapped_131 (by decide) (fun c_131 => ?_) (fun c_131 => ?_)
              · refine lv_iload hx hb dX3_findMapped_144 (lv_at hl 0 rfl) ?_
                refine lv_bipush (v := (6 : Int32)) hx hb dX3_findMapped_146 (by decide) ?_
                refine lv_iushr (v := (iu (fX0_get u.2.2.2.1 (fX0_find u.2.2.2.1 (iu a1 (7 : Int32)) (fX2_get u.2.2.1 (11 : Int32)) (0 : Int32)) (4 : Int32)) (6 : Int32))) hx hb dX3_findMapped_148 rfl ?_
                refine lv_bipush (v := (31 : Int32)) hx hb dX3_findMapped_149 (by decide) ?_
                refine lv_iand hx hb dX3_findMapped_151 ?_
                refine lv_istore (lv' := [(7, .int ((iu (fX0_get u.2.2.2.1 (fX0_find u.2.2.2.1 (iu a1 (7 : Int32)) (fX2_get u.2.2.1 (11 : Int32)) (0 : Int32)) (4 : Int32)) (6 : Int32)) &&& (31 : Int32))), (6, .int (fX0_get u.2.2.2.1 (fX0_find u.2.2.2.1 (iu a1 (7 : Int32)) (fX2_get u.2.2.1 (11 : Int32)) (0 : Int32)) (4 : Int32))), (5, .int (fX0_find u.2.2.2.1 (iu a1 (7 : Int32)) (fX2_get u.2.2.1 (11 : Int32)) (0 : Int32))), (4, .int (fX2_get u.2.2.1 (11 : Int32))), (3, .int (iu a1 (7 : Int32))), (0, .ref (q 0)), (1, .int a1), (2, .int a2)]) hx hb dX3_findMapped_152 hl (by decide) rfl (fun ls hl => ?_)
                refine lv_iload hx hb dX3_findMapped_154 (lv_at hl 0 rfl) ?_
                refine lv_bipush (v := (16 : Int32)) hx hb dX3_findMapped_156 (by decide) ?_
                refine lv_imul hx hb dX3_findMapped_158 ?_
                refine lv_iload_n hx hb dX3_findMapped_159 rfl (lv_at hl 6 rfl) ?_
                refine lv_iconst (v := (2 : Int32)) hx hb dX3_findMapped_160 (by decide) ?_
                refine lv_iushr (v := (iu a1 (2 : Int32))) hx hb dX3_findMapped_161 rfl ?_
                refine lv_bipush (v := (15 : Int32)) hx hb dX3_findMapped_162 (by decide) ?_
                refine lv_iand hx hb dX3_findMapped_164 ?_
                refine lv_iadd hx hb dX3_findMapped_165 ?_
                exact W.iret (v := ((((iu (fX0_get u.2.2.2.1 (fX0_find u.2.2.2.1 (iu a1 (7 : Int32)) (fX2_get u.2.2.1 (11 : Int32)) (0 : Int32)) (4 : Int32)) (6 : Int32)) &&& (31 : Int32)) * (16 : Int32)) + ((iu a1 (2 : Int32)) &&& (15 : Int32)))) hx hb hr (rd_end (show fX3_findMapped u a1 a2 = ((((iu (fX0_get u.2.2.2.1 (fX0_find u.2.2.2.1 (iu a1 (7 : Int32)) (fX2_get u.2.2.1 (11 : Int32)) (0 : Int32)) (4 : Int32)) (6 : Int32)) &&& (31 : Int32)) * (16 : Int32)) + ((iu a1 (2 : Int32)) &&& (15 : Int32))) from (if_pos c_31).trans ((if_pos c_51).trans ((if_pos c_67).trans ((if_neg c_84).trans ((if_pos c_113).trans ((if_pos c_123).trans ((if_neg c_131).trans rfl)))))))) (fun q h => by cases h) dX3_findMapped_166
              · refine lv_iload hx hb dX3_findMapped_134 (lv_at hl 0 rfl) ?_
                refine lv_iconst (v := (2 : Int32)) hx hb dX3_findMapped_136 (by decide) ?_
                refine lv_iand hx hb dX3_findMapped_137 ?_
                refine lv_if_ne (tgt := 144) hx hb dX3_findMapped_138 (by decide) (fun c_138 => ?_) (fun c_138 => ?_)
                · refine lv_iload hx hb dX3_findMapped_144 (lv_at hl 0 rfl) ?_
                  refine lv_bipush (v := (6 : Int32)) hx hb dX3_findMapped_146 (by decide) ?_
                  refine lv_iushr (v := (iu (fX0_get u.2.2.2.1 (fX0_find u.2.2.2.1 (iu a1 (7 : Int32)) (fX2_get u.2.2.1 (11 : Int32)) (0 : Int32)) (4 : Int32)) (6 : Int32))) hx hb dX3_findMapped_148 rfl ?_
                  refine lv_bipush (v := (31 : Int32)) hx hb dX3_findMapped_149 (by decide) ?_
                  refine lv_iand hx hb dX3_findMapped_151 ?_
                  refine lv_istore (lv' := [(7, .int ((iu (fX0_get u.2.2.2.1 (fX0_find u.2.2.2.1 (iu a1 (7 : Int32)) (fX2_get u.2.2.1 (11 : Int32)) (0 : Int32)) (4 : Int32)) (6 : Int32)) &&& (31 : Int32))), (6, .int (fX0_get u.2.2.2.1 (fX0_find u.2.2.2.1 (iu a1 (7 : Int32)) (fX2_get u.2.2.1 (11 : Int32)) (0 : Int32)) (4 : Int32))), (5, .int (fX0_find u.2.2.2.1 (iu a1 (7 : Int32)) (fX2_get u.2.2.1 (11 : Int32)) (0 : Int32))), (4, .int (fX2_get u.2.2.1 (11 : Int32))), (3, .int (iu a1 (7 : Int32))), (0, .ref (q 0)), (1, .int a1), (2, .int a2)]) hx hb dX3_findMapped_152 hl (by decide) rfl (fun ls hl => ?_)
                  refine lv_iload hx hb dX3_findMapped_154 (lv_at hl 0 rfl) ?_
                  refine lv_bipush (v := (16 : Int32)) hx hb dX3_findMapped_156 (by decide) ?_
                  refine lv_imul hx hb dX3_findMapped_158 ?_
                  refine lv_iload_n hx hb dX3_findMapped_159 rfl (lv_at hl 6 rfl) ?_
                  refine lv_iconst (v := (2 : Int32)) hx hb dX3_findMapped_160 (by decide) ?_
                  refine lv_iushr (v := (iu a1 (2 : Int32))) hx hb dX3_findMapped_161 rfl ?_
                  refine lv_bipush (v := (15 : Int32)) hx hb dX3_findMapped_162 (by decide) ?_
                  refine lv_iand hx hb dX3_findMapped_164 ?_
                  refine lv_iadd hx hb dX3_findMapped_165 ?_
                  exact W.iret (v := ((((iu (fX0_get u.2.2.2.1 (fX0_find u.2.2.2.1 (iu a1 (7 : Int32)) (fX2_get u.2.2.1 (11 : Int32)) (0 : Int32)) (4 : Int32)) (6 : Int32)) &&& (31 : Int32)) * (16 : Int32)) + ((iu a1 (2 : Int32)) &&& (15 : Int32)))) hx hb hr (rd_end (show fX3_findMapped u a1 a2 = ((((iu (fX0_get u.2.2.2.1 (fX0_find u.2.2.2.1 (iu a1 (7 : Int32)) (fX2_get u.2.2.1 (11 : Int32)) (0 : Int32)) (4 : Int32)) (6 : Int32)) &&& (31 : Int32)) * (16 : Int32)) + ((iu a1 (2 : Int32)) &&& (15 : Int32))) from (if_pos c_31).trans ((if_pos c_51).trans ((if_pos c_67).trans ((if_neg c_84).trans ((if_pos c_113).trans ((if_pos c_123).trans ((if_pos c_131).trans ((if_neg c_138).trans rfl))))))))) (fun q h => by cases h) dX3_findMapped_166
                · refine lv_bipush (v := (-4 : Int32)) hx hb dX3_findMapped_141 (by decide) ?_
                  exact W.iret (v := (-4 : Int32)) hx hb hr (rd_end (show fX3_findMapped u a1 a2 = (-4 : Int32) from (if_pos c_31).trans ((if_pos c_51).trans ((if_pos c_67).trans ((if_neg c_84).trans ((if_pos c_113).trans ((if_pos c_123).trans ((if_pos c_131).trans ((if_pos c_138).trans rfl))))))))) (fun q h => by cases h) dX3_findMapped_143
            · refine lv_bipush (v := (-7 : Int32)) hx hb dX3_findMapped_126 (by decide) ?_
              exact W.iret (v := (-7 : Int32)) hx hb hr (rd_end (show fX3_findMapped u a1 a2 = (-7 : Int32) from (if_pos c_31).trans ((if_pos c_51).trans ((if_pos c_67).trans ((if_neg c_84).trans ((if_pos c_113).trans ((if_neg c_123).trans rfl))))))) (fun q h => by cases h) dX3_findMapped_128
        · refine lv_iload_n hx hb dX3_findMapped_87 rfl (lv_at hl 6 rfl) ?_
          refine lv_if_ne (tgt := 96) hx hb dX3_findMapped_88 (by decide) (fun c_88 => ?_) (fun c_88 => ?_)
          · refine lv_iload_n hx hb dX3_findMapped_96 rfl (lv_at hl 6 rfl) ?_
            refine lv_iconst (v := (1 : Int32)) hx hb dX3_findMapped_97 (by decide) ?_
            refine lv_icmp_ne (tgt := 105) hx hb dX3_findMapped_98 (by decide) (fun c_98 => ?_) (fun c_98 => ?_)
            · refine lv_bipush (v := (-2 : Int32)) hx hb dX3_findMapped_105 (by decide) ?_
              exact W.iret (v := (-2 : Int32)) hx hb hr (rd_end (show fX3_findMapped u a1 a2 = (-2 : Int32) from (if_pos c_31).trans ((if_pos c_51).trans ((if_pos c_67).trans ((if_pos c_84).trans ((if_neg c_88).trans ((if_neg c_98).trans rfl))))))) (fun q h => by cases h) dX3_findMapped_107
            · refine lv_iconst (v := (-1 : Int32)) hx hb dX3_findMapped_101 (by decide) ?_
              refine lv_goto (tgt := 107) hx hb dX3_findMapped_102 (by decide) ?_
              exact W.iret (v := (-1 : Int32)) hx hb hr (rd_end (show fX3_findMapped u a1 a2 = (-1 : Int32) from (if_pos c_31).trans ((if_pos c_51).trans ((if_pos c_67).trans ((if_pos c_84).trans ((if_neg c_88).trans ((if_pos c_98).trans rfl))))))) (fun q h => by cases h) dX3_findMapped_107
          · refine lv_bipush (v := (-3 : Int32)) hx hb dX3_findMapped_91 (by decide) ?_
            refine lv_goto (tgt := 107) hx hb dX3_findMapped_93 (by decide) ?_
            exact W.iret (v := (-3 : Int32)) hx hb hr (rd_end (show fX3_findMapped u a1 a2 = (-3 : Int32) from (if_pos c_31).trans ((if_pos c_51).trans ((if_pos c_67).trans ((if_pos c_84).trans ((if_pos c_88).trans rfl)))))) (fun q h => by cases h) dX3_findMapped_107
    · refine lv_bipush (v := (-64 : Int32)) hx hb dX3_findMapped_54 (by decide) ?_
      exact W.iret (v := (-64 : Int32)) hx hb hr (rd_end (show fX3_findMapped u a1 a2 = (-64 : Int32) from (if_pos c_31).trans ((if_neg c_51).trans rfl))) (fun q h => by cases h) dX3_findMapped_56
  · refine lv_bipush (v := (-63 : Int32)) hx hb dX3_findMapped_34 (by decide) ?_
    exact W.iret (v := (-63 : Int32)) hx hb hr (rd_end (show fX3_findMapped u a1 a2 = (-63 : Int32) from (if_neg c_31).trans rfl)) (fun q h => by cases h) dX3_findMapped_36
def fX3_find (u : TM) (a1 : Int32) (a2 : Int32) : Int32 :=
  if (a1 &&& (3 : Int32)) = (0 : Int32) then
    if (fX2_isDirect u.2.2.1) = (0 : Int32) then
      if (fX2_isInWindow u.2.2.1 a1) = (0 : Int32) then
        (fX3_findMapped u a1 a2)
      else
        if (fX3_isInMemory (a1 &&& (268435455 : Int32))) = (0 : Int32) then
          (-8 : Int32)
        else
          (iu (a1 &&& (268435455 : Int32)) (2 : Int32))
    else
      if (fX3_isInMemory a1) = (0 : Int32) then
        (-8 : Int32)
      else
        (iu a1 (2 : Int32))
  else
    if a2 = (0 : Int32) then
      (-8 : Int32)
    else
      (-9 : Int32)
set_option maxHeartbeats 4000000 in
set_option maxRecDepth 100000 in
theorem kX3_find (l : Launch) (D : va_G) (k : Nat → ClassId) (q : Nat → Nat) (u : TM) (a1 : Int32) (a2 : Int32)  : Met l yX3_find wsX3_find { frames := 2, cells := 0, slots := 0, locals := 53 } (rd_P D vwCl (tyL k) (wT k q u) NL [.ref (q 0), .int a1, .int a2]) (QcRead (fX3_find u a1 a2)) 0 0 (fun _ => False) := by
  refine Met.ofW (cc := cX3_find) (maxL := 4) (ret := (some .int)) (by decide) rfl ?_
  intro p e s m args below meth c s₁ B hml hv0
  obtain ⟨rfl, hP, hK, hX⟩ := hv0
  have hx := B.exec
  have hb := B.bytes
  have hr := B.returns
  have hts := atoms_spec (ws := wsX3_find) B.pre
  have hown : s.vm.findClass RX3 = some m.cls := findClass_of_methodNamed B.named
  have hlocks := B.notSynchronized
  have hl := lv_entry ([.ref (q 0), .int a1, .int a2]) (n := 4) (Nat.le_of_ble_eq_true rfl)
  rw [lg_entry_eq]
  generalize (lg_sl ([.ref (q 0), .int a1, .int a2]) ++ List.replicate (4 - (lg_sl ([.ref (q 0), .int a1, .int a2])).length) Slot.unset).toArray = ls at hl ⊢
  have hl : lv_has ls 4 [(0, .ref (q 0)), (1, .int a1), (2, .int a2)] := hl
  refine lv_iload_n hx hb dX3_find_0 rfl (lv_at hl 1 rfl) ?_
  refine lv_iconst (v := (3 : Int32)) hx hb dX3_find_1 (by decide) ?_
  refine lv_iand hx hb dX3_find_2 ?_
  refine lv_if_eq (tgt := 18) hx hb dX3_find_3 (by decide) (fun c_3 => ?_) (fun c_3 => ?_)
  · refine lv_iload_n hx hb dX3_find_18 rfl (lv_at hl 1 rfl) ?_
    refine lv_istore_n (lv' := [(3, .int a1), (0, .ref (q 0)), (1, .int a1), (2, .int a2)]) hx hb dX3_find_19 rfl hl (by decide) rfl (fun ls hl => ?_)
    refine lv_aload_n hx hb dX3_find_20 rfl (lv_at hl 1 rfl) ?_
    refine va_get (D := D) (ci := 2) (v := .ref (q 3)) (C := RX3) (T := TX3) (N := 9) hx hb hts (by decide +kernel) hown hK hP 0 rfl rfl 2 (by decide) (hts (.fieldLink RX3 19 "TrapMachine" "controls" "LTrapMachine$Controls;") (by decide +kernel)) (fun _ h9 => h9) rfl dX3_find_21 ?_
    refine rd_call (r := (fX2_isDirect u.2.2.1)) (va_runVN (C := RX2) (b := (q 3)) (As := []) (rest := []) ⟨hx, hb, hml, hown, hts⟩ (kX2_isDirect l D k (q 3) (q 4) u.2.2.1) ⟨va_cnB 0 hts gX3_find_X2_isDirect_n212 rfl rfl rfl (hX.at 19 (q := (212, yX2_isDirect)) rfl) (hts (.initialized RX2) (by decide +kernel)) (by decide +kernel) ⟨Nat.le_of_ble_eq_true rfl, Nat.le_of_ble_eq_true rfl⟩, (hts (.instanceMethod yX2_isDirect) (by decide +kernel)), (hts (.selects RX2 yX2_isDirect yX2_isDirect) (by decide +kernel))⟩ (rd_preV bl_T pr_T hK (show va_P D vwCl (wC k (q 3) (q 4) u.2.2.1) _ from hP.sub [3, 4] fmTC) (va_recv hK (show va_P D vwCl (wC k (q 3) (q 4) u.2.2.1) _ from hP.sub [3, 4] fmTC) (ci := 1) (q0 := 0) rfl rfl)) rfl rfl hl.1 rfl (lv_room (Nat.le_of_ble_eq_true rfl)) dX3_find_24 ⟨Nat.zero_le _, Nat.zero_le _⟩).run ?_
    refine lv_if_ne (tgt := 53) hx hb dX3_find_27 (by decide) (fun c_27 => ?_) (fun c_27 => ?_)
    · refine lv_iload_n hx hb dX3_find_53 rfl (lv_at hl 0 rfl) ?_
      refine rd_call (r := (fX3_isInMemory a1)) (W.runS (As := [.int a1]) (rest := []) ⟨hx, hb, hml, hown, hts⟩ (kX3_isInMemory l a1) (va_cwS 1 hts gX3_find_X3_isInMemory rfl rfl rfl (by decide +kernel) ⟨Nat.le_of_ble_eq_true rfl, Nat.le_of_ble_eq_true rfl⟩) preEq rfl rfl hl.1 rfl (lv_room (Nat.le_of_ble_eq_true rfl)) dX3_find_54 ⟨Nat.zero_le _, Nat.zero_le _⟩) ?_
      refine lv_if_eq (tgt := 66) hx hb dX3_find_57 (by decide) (fun c_57 => ?_) (fun c_57 => ?_)
      · refine lv_bipush (v := (-8 : Int32)) hx hb dX3_find_66 (by decide) ?_
        exact W.iret (v := (-8 : Int32)) hx hb hr (rd_end (show fX3_find u a1 a2 = (-8 : Int32) from (if_pos c_3).trans ((if_neg c_27).trans ((if_pos c_57).trans rfl)))) (fun q h => by cases h) dX3_find_68
      · refine lv_iload_n hx hb dX3_find_60 rfl (lv_at hl 0 rfl) ?_
        refine lv_iconst (v := (2 : Int32)) hx hb dX3_find_61 (by decide) ?_
        refine lv_iushr (v := (iu a1 (2 : Int32))) hx hb dX3_find_62 rfl ?_
        refine lv_goto (tgt := 68) hx hb dX3_find_63 (by decide) ?_
        exact W.iret (v := (iu a1 (2 : Int32))) hx hb hr (rd_end (show fX3_find u a1 a2 = (iu a1 (2 : Int32)) from (if_pos c_3).trans ((if_neg c_27).trans ((if_neg c_57).trans rfl)))) (fun q h => by cases h) dX3_find_68
    · refine lv_aload_n hx hb dX3_find_30 rfl (lv_at hl 1 rfl) ?_
      refine va_get (D := D) (ci := 2) (v := .ref (q 3)) (C := RX3) (T := TX3) (N := 9) hx hb hts (by decide +kernel) hown hK hP 0 rfl rfl 2 (by decide) (hts (.fieldLink RX3 19 "TrapMachine" "controls" "LTrapMachine$Controls;") (by decide +kernel)) (fun _ h9 => h9) rfl dX3_find_31 ?_
      refine lv_iload_n hx hb dX3_find_34 rfl (lv_at hl 2 rfl) ?_
      refine rd_call (r := (fX2_isInWindow u.2.2.1 a1)) (va_runVN (C := RX2) (b := (q 3)) (As := [.int a1]) (rest := []) ⟨hx, hb, hml, hown, hts⟩ (kX2_isInWindow l D k (q 3) (q 4) u.2.2.1 a1) ⟨va_cnB 1 hts gX3_find_X2_isInWindow_n215 rfl rfl rfl (hX.at 20 (q := (215, yX2_isInWindow)) rfl) (hts (.initialized RX2) (by decide +kernel)) (by decide +kernel) ⟨Nat.le_of_ble_eq_true rfl, Nat.le_of_ble_eq_true rfl⟩, (hts (.instanceMethod yX2_isInWindow) (by decide +kernel)), (hts (.selects RX2 yX2_isInWindow yX2_isInWindow) (by decide +kernel))⟩ (rd_preV bl_T pr_T hK (show va_P D vwCl (wC k (q 3) (q 4) u.2.2.1) _ from hP.sub [3, 4] fmTC) (va_recv hK (show va_P D vwCl (wC k (q 3) (q 4) u.2.2.1) _ from hP.sub [3, 4] fmTC) (ci := 1) (q0 := 0) rfl rfl)) rfl rfl hl.1 rfl (lv_room (Nat.le_of_ble_eq_true rfl)) dX3_find_35 ⟨Nat.zero_le _, Nat.zero_le _⟩).run ?_
      refine lv_if_ne (tgt := 48) hx hb dX3_find_38 (by decide) (fun c_38 => ?_) (fun c_38 => ?_)
      · refine lv_iload_n hx hb dX3_find_48 rfl (lv_at hl 2 rfl) ?_
        refine lv_ldc (v := (268435455 : Int32)) hx hb hown (hts (.constant RX3 221 (268435455)) (by decide +kernel)) dX3_find_49 ?_
        refine lv_iand hx hb dX3_find_51 ?_
        refine lv_istore_n (lv' := [(3, .int (a1 &&& (268435455 : Int32))), (0, .ref (q 0)), (1, .int a1), (2, .int a2)]) hx hb dX3_find_52 rfl hl (by decide) rfl (fun ls hl => ?_)
        refine lv_iload_n hx hb dX3_find_53 rfl (lv_at hl 0 rfl) ?_
        refine rd_call (r := (fX3_isInMemory (a1 &&& (268435455 : Int32)))) (W.runS (As := [.int (a1 &&& (268435455 : Int32))]) (rest := []) ⟨hx, hb, hml, hown, hts⟩ (kX3_isInMemory l (a1 &&& (268435455 : Int32))) (va_cwS 1 hts gX3_find_X3_isInMemory rfl rfl rfl (by decide +kernel) ⟨Nat.le_of_ble_eq_true rfl, Nat.le_of_ble_eq_true rfl⟩) preEq rfl rfl hl.1 rfl (lv_room (Nat.le_of_ble_eq_true rfl)) dX3_find_54 ⟨Nat.zero_le _, Nat.zero_le _⟩) ?_
        refine lv_if_eq (tgt := 66) hx hb dX3_find_57 (by decide) (fun c_57 => ?_) (fun c_57 => ?_)
        · refine lv_bipush (v := (-8 : Int32)) hx hb dX3_find_66 (by decide) ?_
          exact W.iret (v := (-8 : Int32)) hx hb hr (rd_end (show fX3_find u a1 a2 = (-8 : Int32) from (if_pos c_3).trans ((if_pos c_27).trans ((if_neg c_38).trans ((if_pos c_57).trans rfl))))) (fun q h => by cases h) dX3_find_68
        · refine lv_iload_n hx hb dX3_find_60 rfl (lv_at hl 0 rfl) ?_
          refine lv_iconst (v := (2 : Int32)) hx hb dX3_find_61 (by decide) ?_
          refine lv_iushr (v := (iu (a1 &&& (268435455 : Int32)) (2 : Int32))) hx hb dX3_find_62 rfl ?_
          refine lv_goto (tgt := 68) hx hb dX3_find_63 (by decide) ?_
          exact W.iret (v := (iu (a1 &&& (268435455 : Int32)) (2 : Int32))) hx hb hr (rd_end (show fX3_find u a1 a2 = (iu (a1 &&& (268435455 : Int32)) (2 : Int32)) from (if_pos c_3).trans ((if_pos c_27).trans ((if_neg c_38).trans ((if_neg c_57).trans rfl))))) (fun q h => by cases h) dX3_find_68
      · refine lv_aload_n hx hb dX3_find_41 rfl (lv_at hl 1 rfl) ?_
        refine lv_iload_n hx hb dX3_find_42 rfl (lv_at hl 2 rfl) ?_
        refine lv_iload_n hx hb dX3_find_43 rfl (lv_at hl 3 rfl) ?_
        refine rd_call (r := (fX3_findMapped u a1 a2)) (W.runV (C := RX3) (b := (q 0)) (As := [.int a1, .int a2]) (rest := []) ⟨hx, hb, hml, hown, hts⟩ (kX3_findMapped l D k q u a1 a2) (cwV 2 hts gX3_find_X3_findMapped rfl rfl rfl (by decide +kernel) ⟨Nat.le_of_ble_eq_true rfl, Nat.le_of_ble_eq_true rfl⟩) (rd_preV bl_N (pr_N hX) hK hP (va_recv hK hP (ci := 2) (q0 := 0) rfl rfl)) rfl rfl hl.1 rfl (lv_room (Nat.le_of_ble_eq_true rfl)) dX3_find_44 ⟨Nat.zero_le _, Nat.zero_le _⟩) ?_
        exact W.iret (v := (fX3_findMapped u a1 a2)) hx hb hr (rd_end (show fX3_find u a1 a2 = (fX3_findMapped u a1 a2) from (if_pos c_3).trans ((if_pos c_27).trans ((if_pos c_38).trans rfl)))) (fun q h => by cases h) dX3_find_47
  · refine lv_iload_n hx hb dX3_find_6 rfl (lv_at hl 2 rfl) ?_
    refine lv_if_ne (tgt := 15) hx hb dX3_find_7 (by decide) (fun c_7 => ?_) (fun c_7 => ?_)
    · refine lv_bipush (v := (-9 : Int32)) hx hb dX3_find_15 (by decide) ?_
      exact W.iret (v := (-9 : Int32)) hx hb hr (rd_end (show fX3_find u a1 a2 = (-9 : Int32) from (if_neg c_3).trans ((if_neg c_7).trans rfl))) (fun q h => by cases h) dX3_find_17
    · refine lv_bipush (v := (-8 : Int32)) hx hb dX3_find_10 (by decide) ?_
      refine lv_goto (tgt := 17) hx hb dX3_find_12 (by decide) ?_
      exact W.iret (v := (-8 : Int32)) hx hb hr (rd_end (show fX3_find u a1 a2 = (-8 : Int32) from (if_neg c_3).trans ((if_pos c_7).trans rfl))) (fun q h => by cases h) dX3_find_17
