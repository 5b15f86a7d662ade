theorem n4_t {i : Nat} (h : i = 4) : (3 : Int32) < nI i := by subst h; decide
theorem n4_f {i : Nat} (h : i < 4) : ¬ (3 : Int32) < nI i := by
  rcases (show i = 0 ∨ i = 1 ∨ i = 2 ∨ i = 3 by omega) with rfl | rfl | rfl | rfl <;> decide
theorem vi_k {i : Int32} {n : Nat} (h : decide (¬ (i < 0 ∨ n ≤ i.toNatClampNeg)) = true) : vp_in i n := (of_decide_eq_true h : ¬ (i < 0 ∨ n ≤ i.toNatClampNeg))
theorem vi7 (x : Int32) : vp_in (x &&& 7) 8 := vi_and x 3 (by decide) (by decide)
theorem vi3 (x : Int32) : vp_in (x &&& 3) 4 := vi_and x 2 (by decide) (by decide)
theorem vi1 (x : Int32) : vp_in (x &&& 1) 2 := vi_and x 1 (by decide) (by decide)
theorem vi255 (x : Int32) : vp_in (x &&& 255) 256 := vi_and x 8 (by decide) (by decide)
def fX2_get (v : Nat → Int32) (a1 : Int32) : Int32 :=
  (v (ix a1))
set_option maxHeartbeats 4000000 in
set_option maxRecDepth 100000 in
theorem kX2_get (l : Launch) (D : va_G) (k : Nat → ClassId) (c0 c1 : Nat) (v : Nat → Int32) (a1 : Int32) (h1 : vp_in a1 18) : Met l yX2_get wsX2_get { frames := 0, cells := 0, slots := 0, locals := 0 } (rd_P D vwCl (tyL k) (wC k c0 c1 v) (fun _ => True) [.ref c0, .int a1]) (QcRead (fX2_get v a1)) 0 0 (fun _ => False) := by
  refine Met.ofW (cc := cX2_get) (maxL := 2) (ret := (some .int)) (by decide) rfl ?_
  intro p e s m args below meth c s₁ B hml hv0
  obtain ⟨rfl, hP, hK, hX⟩ := hv0
  have hx := B.exec
  have hb := B.bytes
  have hr := B.returns
  have hts := atoms_spec (ws := wsX2_get) B.pre
  have hown : s.vm.findClass RX2 = some m.cls := findClass_of_methodNamed B.named
  have hlocks := B.notSynchronized
  have hl := lv_entry ([.ref c0, .int a1]) (n := 2) (Nat.le_of_ble_eq_true rfl)
  rw [lg_entry_eq]
  generalize (lg_sl ([.ref c0, .int a1]) ++ List.replicate (2 - (lg_sl ([.ref c0, .int a1])).length) Slot.unset).toArray = ls at hl ⊢
  have hl : lv_has ls 2 [(0, .ref c0), (1, .int a1)] := hl
  refine lv_aload_n hx hb dX2_get_0 rfl (lv_at hl 0 rfl) ?_
  refine va_get (D := D) (ci := 1) (v := .ref c1) (C := RX2) (T := TX2) (N := 1) hx hb hts (by decide +kernel) hown hK hP 0 rfl rfl 0 (by decide) (hts (.fieldLink RX2 11 "TrapMachine$Controls" "values" "[I") (by decide +kernel)) (fun _ h9 => h9) rfl dX2_get_1 ?_
  refine lv_iload_n hx hb dX2_get_4 rfl (lv_at hl 1 rfl) ?_
  refine q_iald (j := (ix a1)) (x9 := (v (ix a1))) hx hb hK hP 1 0 rfl rfl h1 rfl rfl dX2_get_5 ?_
  exact W.iret (v := (v (ix a1))) hx hb hr (rd_end (show fX2_get v a1 = (v (ix a1)) from rfl)) (fun q h => by cases h) dX2_get_6
def fX2_set (v : Nat → Int32) (a1 : Int32) (a2 : Int32) : Nat → Int32 :=
  (upd v (ix a1) a2)
set_option maxHeartbeats 4000000 in
set_option maxRecDepth 100000 in
theorem kX2_set (l : Launch) (D : va_G) (k : Nat → ClassId) (c0 c1 : Nat) (v : Nat → Int32) (a1 : Int32) (a2 : Int32) (h1 : vp_in a1 18) (o : Nat → Int32) (ho : fX2_set v a1 a2 = o) : Met l yX2_set wsX2_set { frames := 0, cells := 0, slots := 0, locals := 0 } (wr_P D vwCl (tyL k) (wC k c0 c1 v) (fun _ => True) [.ref c0, .int a1, .int a2]) (wr_Q D vwCl none (wC k c0 c1 v) (wC k c0 c1 o)) 0 0 (in_W (wC k c0 c1 v)) := by
  refine Met.ofW (cc := cX2_set) (maxL := 3) (ret := none) (by decide) rfl ?_
  intro p e s m args below meth c s₁ B hml hv0
  obtain ⟨rfl, hP, hK, hX, hD0⟩ := hv0
  have hx := B.exec
  have hb := B.bytes
  have hr := B.returns
  have hts := atoms_spec (ws := wsX2_set) B.pre
  have hown : s.vm.findClass RX2 = some m.cls := findClass_of_methodNamed B.named
  have hlocks := B.notSynchronized
  have hD : va_D (in_W (wC k c0 c1 v)) (wC k c0 c1 v) := wD_self hD0
  have hS : va_S (in_W (wC k c0 c1 v)) s.heap s.heap [] := va_S.rf
  have hl := lv_entry ([.ref c0, .int a1, .int a2]) (n := 3) (Nat.le_of_ble_eq_true rfl)
  rw [lg_entry_eq]
  generalize (lg_sl ([.ref c0, .int a1, .int a2]) ++ List.replicate (3 - (lg_sl ([.ref c0, .int a1, .int a2])).length) Slot.unset).toArray = ls at hl ⊢
  have hl : lv_has ls 3 [(0, .ref c0), (1, .int a1), (2, .int a2)] := hl
  refine lv_aload_n hx hb dX2_set_0 rfl (lv_at hl 0 rfl) ?_
  refine va_get (D := D) (ci := 1) (v := .ref c1) (C := RX2) (T := TX2) (N := 1) hx hb hts (by decide +kernel) hown hK hP 0 rfl rfl 0 (by decide) (hts (.fieldLink RX2 11 "TrapMachine$Controls" "values" "[I") (by decide +kernel)) (fun _ h9 => h9) rfl dX2_set_1 ?_
  refine lv_iload_n hx hb dX2_set_4 rfl (lv_at hl 1 rfl) ?_
  refine lv_iload_n hx hb dX2_set_5 rfl (lv_at hl 2 rfl) ?_
  refine q_iast (j := (ix a1)) (ws' := wC k c0 c1 (upd v (ix a1) a2)) hx hb hK hP hD hS 1 0 rfl rfl h1 rfl rfl dX2_set_6 (fun H locs hP hD hS => ?_)
  exact W.vret hx hb hr (wr_end rfl (congrArg (wC k c0 c1) ((show fX2_set v a1 a2 = (upd v (ix a1) a2) from rfl).symm.trans ho)) hP hS) hS.2.2 dX2_set_7
def fX2_write (v : Nat → Int32) (a1 : Int32) (a2 : Int32) (a3 : Int32) : Nat → Int32 :=
  if a1 = (3 : Int32) then
    (upd v 3 ((v 3) &&& ((a2 &&& (a3 &&& (cnt (ix a1)))) ^^^ (-1 : Int32))))
  else
    if ((((v (ix a1)) &&& ((a3 &&& (cnt (ix a1))) ^^^ (-1 : Int32))) ||| (a2 &&& (a3 &&& (cnt (ix a1))))) &&& (lvb (ix a1))) = (0 : Int32) then
      if a1 = (14 : Int32) then
        (upd (upd v (ix a1) (((v (ix a1)) &&& ((a3 &&& (cnt (ix a1))) ^^^ (-1 : Int32))) ||| (a2 &&& (a3 &&& (cnt (ix a1)))))) 15 ((((v (ix a1)) &&& ((a3 &&& (cnt (ix a1))) ^^^ (-1 : Int32))) ||| (a2 &&& (a3 &&& (cnt (ix a1))))) &&& (65532 : Int32)))
      else
        (upd v (ix a1) (((v (ix a1)) &&& ((a3 &&& (cnt (ix a1))) ^^^ (-1 : Int32))) ||| (a2 &&& (a3 &&& (cnt (ix a1))))))
    else
      if a1 = (14 : Int32) then
        (upd (upd v (ix a1) ((((v (ix a1)) &&& ((a3 &&& (cnt (ix a1))) ^^^ (-1 : Int32))) ||| (a2 &&& (a3 &&& (cnt (ix a1))))) ||| (lvb (ix a1)))) 15 (((((v (ix a1)) &&& ((a3 &&& (cnt (ix a1))) ^^^ (-1 : Int32))) ||| (a2 &&& (a3 &&& (cnt (ix a1))))) ||| (lvb (ix a1))) &&& (65532 : Int32)))
      else
        (upd v (ix a1) ((((v (ix a1)) &&& ((a3 &&& (cnt (ix a1))) ^^^ (-1 : Int32))) ||| (a2 &&& (a3 &&& (cnt (ix a1))))) ||| (lvb (ix a1))))
set_option maxHeartbeats 4000000 in
set_option maxRecDepth 100000 in
theorem kX2_write (l : Launch) (D : va_G) (k : Nat → ClassId) (c0 c1 : Nat) (v : Nat → Int32) (tC tL : Nat) (a1 : Int32) (a2 : Int32) (a3 : Int32) (h1 : vp_in a1 18) (o : Nat → Int32) (ho : fX2_write v a1 a2 a3 = o) : Met l yX2_write wsX2_write { frames := 0, cells := 0, slots := 0, locals := 0 } (wr_P D vwCl (tyL k) (wC k c0 c1 v) (fun U => ST tC tL (in_W (wC k c0 c1 v)) U U.heap) [.ref c0, .int a1, .int a2, .int a3]) (wr_Q D vwCl none (wC k c0 c1 v) (wC k c0 c1 o)) 0 0 (in_W (wC k c0 c1 v)) := by
  refine Met.ofW (cc := cX2_write) (maxL := 6) (ret := none) (by decide) rfl ?_
  intro p e s m args below meth c s₁ B hml hv0
  obtain ⟨rfl, hP, hK, hX, hD0⟩ := hv0
  have hx := B.exec
  have hb := B.bytes
  have hr := B.returns
  have hts := atoms_spec (ws := wsX2_write) B.pre
  have hown : s.vm.findClass RX2 = some m.cls := findClass_of_methodNamed B.named
  have hlocks := B.notSynchronized
  have hD : va_D (in_W (wC k c0 c1 v)) (wC k c0 c1 v) := wD_self hD0
  have hS : va_S (in_W (wC k c0 c1 v)) s.heap s.heap [] := va_S.rf
  have hT := hX
  have hl := lv_entry ([.ref c0, .int a1, .int a2, .int a3]) (n := 6) (Nat.le_of_ble_eq_true rfl)
  rw [lg_entry_eq]
  generalize (lg_sl ([.ref c0, .int a1, .int a2, .int a3]) ++ List.replicate (6 - (lg_sl ([.ref c0, .int a1, .int a2, .int a3])).length) Slot.unset).toArray = ls at hl ⊢
  have hl : lv_has ls 6 [(0, .ref c0), (1, .int a1), (2, .int a2), (3, .int a3)] := hl
  refine lv_iload_n hx hb dX2_write_0 rfl (lv_at hl 3 rfl) ?_
  refine va_gets (C := RX2) (n := "COUNTING") (d := "[I") (v := .ref tC) hx hb hT.1.1 hS hown (hts (.fieldLink RX2 15 "TrapMachine$Controls" "COUNTING" "[I") (by decide +kernel)) (fun _ h9 => h9) dX2_write_1 ?_
  refine lv_iload_n hx hb dX2_write_4 rfl (lv_at hl 1 rfl) ?_
  refine va_ti (v := .int (cnt (ix a1))) hx hb hT.1.2 hS h1 rfl dX2_write_5 ?_
  refine lv_iand hx hb dX2_write_6 ?_
  refine lv_istore (lv' := [(4, .int (a3 &&& (cnt (ix a1)))), (0, .ref c0), (1, .int a1), (2, .int a2), (3, .int a3)]) hx hb dX2_write_7 hl (by decide) rfl (fun ls hl => ?_)
  refine lv_iload_n hx hb dX2_write_9 rfl (lv_at hl 2 rfl) ?_
  refine lv_iconst (v := (3 : Int32)) hx hb dX2_write_10 (by decide) ?_
  refine lv_icmp_ne (tgt := 30) hx hb dX2_write_11 (by decide) (fun c_11 => ?_) (fun c_11 => ?_)
  · refine lv_aload_n hx hb dX2_write_30 rfl (lv_at hl 1 rfl) ?_
    refine va_get (D := D) (ci := 1) (v := .ref c1) (C := RX2) (T := TX2) (N := 1) hx hb hts (by decide +kernel) hown hK hP 0 rfl rfl 0 (by decide) (hts (.fieldLink RX2 11 "TrapMachine$Controls" "values" "[I") (by decide +kernel)) (fun _ h9 => h9) rfl dX2_write_31 ?_
    refine lv_iload_n hx hb dX2_write_34 rfl (lv_at hl 2 rfl) ?_
    refine q_iald (j := (ix a1)) (x9 := (v (ix a1))) hx hb hK hP 1 0 rfl rfl h1 rfl rfl dX2_write_35 ?_
    refine lv_iload hx hb dX2_write_36 (lv_at hl 0 rfl) ?_
    refine lv_iconst (v := (-1 : Int32)) hx hb dX2_write_38 (by decide) ?_
    refine lv_ixor hx hb dX2_write_39 ?_
    refine lv_iand hx hb dX2_write_40 ?_
    refine lv_iload_n hx hb dX2_write_41 rfl (lv_at hl 3 rfl) ?_
    refine lv_iload hx hb dX2_write_42 (lv_at hl 0 rfl) ?_
    refine lv_iand hx hb dX2_write_44 ?_
    refine lv_ior hx hb dX2_write_45 ?_
    refine lv_istore (lv' := [(5, .int (((v (ix a1)) &&& ((a3 &&& (cnt (ix a1))) ^^^ (-1 : Int32))) ||| (a2 &&& (a3 &&& (cnt (ix a1)))))), (4, .int (a3 &&& (cnt (ix a1)))), (0, .ref c0), (1, .int a1), (2, .int a2), (3, .int a3)]) hx hb dX2_write_46 hl (by decide) rfl (fun ls hl => ?_)
    refine lv_iload hx hb dX2_write_48 (lv_at hl 0 rfl) ?_
    refine va_gets (C := RX2) (n := "LEVEL_BITS") (d := "[I") (v := .ref tL) hx hb hT.2.1 hS hown (hts (.fieldLink RX2 18 "TrapMachine$Controls" "LEVEL_BITS" "[I") (by decide +kernel)) (fun _ h9 => h9) dX2_write_50 ?_
    refine lv_iload_n hx hb dX2_write_53 rfl (lv_at hl 3 rfl) ?_
    refine va_ti (v := .int (lvb (ix a1))) hx hb hT.2.2 hS h1 rfl dX2_write_54 ?_
    refine lv_iand hx hb dX2_write_55 ?_
    refine lv_if_eq (tgt := 69) hx hb dX2_write_56 (by decide) (fun c_56 => ?_) (fun c_56 => ?_)
    · refine lv_aload_n hx hb dX2_write_69 rfl (lv_at hl 2 rfl) ?_
      refine va_get (D := D) (ci := 1) (v := .ref c1) (C := RX2) (T := TX2) (N := 1) hx hb hts (by decide +kernel) hown hK hP 0 rfl rfl 0 (by decide) (hts (.fieldLink RX2 11 "TrapMachine$Controls" "values" "[I") (by decide +kernel)) (fun _ h9 => h9) rfl dX2_write_70 ?_
      refine lv_iload_n hx hb dX2_write_73 rfl (lv_at hl 3 rfl) ?_
      refine lv_iload hx hb dX2_write_74 (lv_at hl 0 rfl) ?_
      refine q_iast (j := (ix a1)) (ws' := wC k c0 c1 (upd v (ix a1) (((v (ix a1)) &&& ((a3 &&& (cnt (ix a1))) ^^^ (-1 : Int32))) ||| (a2 &&& (a3 &&& (cnt (ix a1))))))) hx hb hK hP hD hS 1 0 rfl rfl h1 rfl rfl dX2_write_76 (fun H locs hP hD hS => ?_)
      refine lv_iload_n hx hb dX2_write_77 rfl (lv_at hl 3 rfl) ?_
      refine lv_bipush (v := (14 : Int32)) hx hb dX2_write_78 (by decide) ?_
      refine lv_icmp_ne (tgt := 95) hx hb dX2_write_80 (by decide) (fun c_80 => ?_) (fun c_80 => ?_)
      · exact W.vret hx hb hr (wr_end rfl (congrArg (wC k c0 c1) ((show fX2_write v a1 a2 a3 = (upd v (ix a1) (((v (ix a1)) &&& ((a3 &&& (cnt (ix a1))) ^^^ (-1 : Int32))) ||| (a2 &&& (a3 &&& (cnt (ix a1)))))) from (if_neg c_11).trans ((if_pos c_56).trans ((if_neg c_80).trans rfl))).symm.trans ho)) hP hS) hS.2.2 dX2_write_95
      · refine lv_aload_n hx hb dX2_write_83 rfl (lv_at hl 2 rfl) ?_
        refine va_get (D := D) (ci := 1) (v := .ref c1) (C := RX2) (T := TX2) (N := 1) hx hb hts (by decide +kernel) hown hK hP 0 rfl rfl 0 (by decide) (hts (.fieldLink RX2 11 "TrapMachine$Controls" "values" "[I") (by decide +kernel)) (fun _ h9 => h9) rfl dX2_write_84 ?_
        refine lv_bipush (v := (15 : Int32)) hx hb dX2_write_87 (by decide) ?_
        refine lv_iload hx hb dX2_write_89 (lv_at hl 0 rfl) ?_
        refine lv_ldc (v := (65532 : Int32)) hx hb hown (hts (.constant RX2 21 (65532)) (by decide +kernel)) dX2_write_91 ?_
        refine lv_iand hx hb dX2_write_93 ?_
        refine q_iast (j := 15) (ws' := wC k c0 c1 (upd (upd v (ix a1) (((v (ix a1)) &&& ((a3 &&& (cnt (ix a1))) ^^^ (-1 : Int32))) ||| (a2 &&& (a3 &&& (cnt (ix a1)))))) 15 ((((v (ix a1)) &&& ((a3 &&& (cnt (ix a1))) ^^^ (-1 : Int32))) ||| (a2 &&& (a3 &&& (cnt (ix a1))))) &&& (65532 : Int32)))) hx hb hK hP hD hS 1 0 rfl rfl (vi_k (by decide)) rfl rfl dX2_write_94 (fun H locs hP hD hS => ?_)
        exact W.vret hx hb hr (wr_end rfl (congrArg (wC k c0 c1) ((show fX2_write v a1 a2 a3 = (upd (upd v (ix a1) (((v (ix a1)) &&& ((a3 &&& (cnt (ix a1))) ^^^ (-1 : Int32))) ||| (a2 &&& (a3 &&& (cnt (ix a1)))))) 15 ((((v (ix a1)) &&& ((a3 &&& (cnt (ix a1))) ^^^ (-1 : Int32))) ||| (a2 &&& (a3 &&& (cnt (ix a1))))) &&& (65532 : Int32))) from (if_neg c_11).trans ((if_pos c_56).trans ((if_pos c_80).trans rfl))).symm.trans ho)) hP hS) hS.2.2 dX2_write_95
    · refine lv_iload hx hb dX2_write_59 (lv_at hl 0 rfl) ?_
      refine va_gets (C := RX2) (n := "LEVEL_BITS") (d := "[I") (v := .ref tL) hx hb hT.2.1 hS hown (hts (.fieldLink RX2 18 "TrapMachine$Controls" "LEVEL_BITS" "[I") (by decide +kernel)) (fun _ h9 => h9) dX2_write_61 ?_
      refine lv_iload_n hx hb dX2_write_64 rfl (lv_at hl 3 rfl) ?_
      refine va_ti (v := .int (lvb (ix a1))) hx hb hT.2.2 hS h1 rfl dX2_write_65 ?_
      refine lv_ior hx hb dX2_write_66 ?_
      refine lv_istore (lv' := [(5, .int ((((v (ix a1)) &&& ((a3 &&& (cnt (ix a1))) ^^^ (-1 : Int32))) ||| (a2 &&& (a3 &&& (cnt (ix a1))))) ||| (lvb (ix a1)))), (4, .int (a3 &&& (cnt (ix a1)))), (0, .ref c0), (1, .int a1), (2, .int a2), (3, .int a3)]) hx hb dX2_write_67 hl (by decide) rfl (fun ls hl => ?_)
      refine lv_aload_n hx hb dX2_write_69 rfl (lv_at hl 2 rfl) ?_
      refine va_get (D := D) (ci := 1) (v := .ref c1) (C := RX2) (T := TX2) (N := 1) hx hb hts (by decide +kernel) hown hK hP 0 rfl rfl 0 (by decide) (hts (.fieldLink RX2 11 "TrapMachine$Controls" "values" "[I") (by decide +kernel)) (fun _ h9 => h9) rfl dX2_write_70 ?_
      refine lv_iload_n hx hb dX2_write_73 rfl (lv_at hl 3 rfl) ?_
      refine lv_iload hx hb dX2_write_74 (lv_at hl 0 rfl) ?_
      refine q_iast (j := (ix a1)) (ws' := wC k c0 c1 (upd v (ix a1) ((((v (ix a1)) &&& ((a3 &&& (cnt (ix a1))) ^^^ (-1 : Int32))) ||| (a2 &&& (a3 &&& (cnt (ix a1))))) ||| (lvb (ix a1))))) hx hb hK hP hD hS 1 0 rfl rfl h1 rfl rfl dX2_write_76 (fun H locs hP hD hS => ?_)
      refine lv_iload_n hx hb dX2_write_77 rfl (lv_at hl 3 rfl) ?_
      refine lv_bipush (v := (14 : Int32)) hx hb dX2_write_78 (by decide) ?_
      refine lv_icmp_ne (tgt := 95) hx hb dX2_write_80 (by decide) (fun c_80 => ?_) (fun c_80 => ?_)
      · exact W.vret hx hb hr (wr_end rfl (congrArg (wC k c0 c1) ((show fX2_write v a1 a2 a3 = (upd v (ix a1) ((((v (ix a1)) &&& ((a3 &&& (cnt (ix a1))) ^^^ (-1 : Int32))) ||| (a2 &&& (a3 &&& (cnt (ix a1))))) ||| (lvb (ix a1)))) from (if_neg c_11).trans ((if_neg c_56).trans ((if_neg c_80).trans rfl))).symm.trans ho)) hP hS) hS.2.2 dX2_write_95
      · refine lv_aload_n hx hb dX2_write_83 rfl (lv_at hl 2 rfl) ?_
        refine va_get (D := D) (ci := 1) (v := .ref c1) (C := RX2) (T := TX2) (N := 1) hx hb hts (by decide +kernel) hown hK hP 0 rfl rfl 0 (by decide) (hts (.fieldLink RX2 11 "TrapMachine$Controls" "values" "[I") (by decide +kernel)) (fun _ h9 => h9) rfl dX2_write_84 ?_
        refine lv_bipush (v := (15 : Int32)) hx hb dX2_write_87 (by decide) ?_
        refine lv_iload hx hb dX2_write_89 (lv_at hl 0 rfl) ?_
        refine lv_ldc (v := (65532 : Int32)) hx hb hown (hts (.constant RX2 21 (65532)) (by decide +kernel)) dX2_write_91 ?_
        refine lv_iand hx hb dX2_write_93 ?_
        refine q_iast (j := 15) (ws' := wC k c0 c1 (upd (upd v (ix a1) ((((v (ix a1)) &&& ((a3 &&& (cnt (ix a1))) ^^^ (-1 : Int32))) ||| (a2 &&& (a3 &&& (cnt (ix a1))))) ||| (lvb (ix a1)))) 15 (((((v (ix a1)) &&& ((a3 &&& (cnt (ix a1))) ^^^ (-1 : Int32))) ||| (a2 &&& (a3 &&& (cnt (ix a1))))) ||| (lvb (ix a1))) &&& (65532 : Int32)))) hx hb hK hP hD hS 1 0 rfl rfl (vi_k (by decide)) rfl rfl dX2_write_94 (fun H locs hP hD hS => ?_)
        exact W.vret hx hb hr (wr_end rfl (congrArg (wC k c0 c1) ((show fX2_write v a1 a2 a3 = (upd (upd v (ix a1) ((((v (ix a1)) &&& ((a3 &&& (cnt (ix a1))) ^^^ (-1 : Int32))) ||| (a2 &&& (a3 &&& (cnt (ix a1))))) ||| (lvb (ix a1)))) 15 (((((v (ix a1)) &&& ((a3 &&& (cnt (ix a1))) ^^^ (-1 : Int32))) ||| (a2 &&& (a3 &&& (cnt (ix a1))))) ||| (lvb (ix a1))) &&& (65532 : Int32))) from (if_neg c_11).trans ((if_neg c_56).trans ((if_pos c_80).trans rfl))).symm.trans ho)) hP hS) hS.2.2 dX2_write_95
  · refine lv_aload_n hx hb dX2_write_14 rfl (lv_at hl 1 rfl) ?_
    refine va_get (D := D) (ci := 1) (v := .ref c1) (C := RX2) (T := TX2) (N := 1) hx hb hts (by decide +kernel) hown hK hP 0 rfl rfl 0 (by decide) (hts (.fieldLink RX2 11 "TrapMachine$Controls" "values" "[I") (by decide +kernel)) (fun _ h9 => h9) rfl dX2_write_15 ?_
    refine lv_iconst (v := (3 : Int32)) hx hb dX2_write_18 (by decide) ?_
    refine lv_dup2_11 hx hb dX2_write_19 rfl rfl ?_
    refine q_iald (j := 3) (x9 := (v 3)) hx hb hK hP 1 0 rfl rfl (vi_k (by decide)) rfl rfl dX2_write_20 ?_
    refine lv_iload_n hx hb dX2_write_21 rfl (lv_at hl 3 rfl) ?_
    refine lv_iload hx hb dX2_write_22 (lv_at hl 0 rfl) ?_
    refine lv_iand hx hb dX2_write_24 ?_
    refine lv_iconst (v := (-1 : Int32)) hx hb dX2_write_25 (by decide) ?_
    refine lv_ixor hx hb dX2_write_26 ?_
    refine lv_iand hx hb dX2_write_27 ?_
    refine q_iast (j := 3) (ws' := wC k c0 c1 (upd v 3 ((v 3) &&& ((a2 &&& (a3 &&& (cnt (ix a1)))) ^^^ (-1 : Int32))))) hx hb hK hP hD hS 1 0 rfl rfl (vi_k (by decide)) rfl rfl dX2_write_28 (fun H locs hP hD hS => ?_)
    exact W.vret hx hb hr (wr_end rfl (congrArg (wC k c0 c1) ((show fX2_write v a1 a2 a3 = (upd v 3 ((v 3) &&& ((a2 &&& (a3 &&& (cnt (ix a1)))) ^^^ (-1 : Int32)))) from (if_pos c_11).trans rfl).symm.trans ho)) hP hS) hS.2.2 dX2_write_29
def fX2_level (v : Nat → Int32)  : Int32 :=
  ((v 0) &&& (3 : Int32))
set_option maxHeartbeats 4000000 in
set_option maxRecDepth 100000 in
theorem kX2_level (l : Launch) (D : va_G) (k : Nat → ClassId) (c0 c1 : Nat) (v : Nat → Int32)   : Met l yX2_level wsX2_level { frames := 0, cells := 0, slots := 0, locals := 0 } (rd_P D vwCl (tyL k) (wC k c0 c1 v) (fun _ => True) [.ref c0]) (QcRead (fX2_level v)) 0 0 (fun _ => False) := by
  refine Met.ofW (cc := cX2_level) (maxL := 1) (ret := (some .int)) (by decide) rfl ?_
  intro p e s m args below meth c s₁ B hml hv0
  obtain ⟨rfl, hP, hK, hX⟩ := hv0
  have hx := B.exec
  have hb := B.bytes
  have hr := B.returns
  have hts := atoms_spec (ws := wsX2_level) B.pre
  have hown : s.vm.findClass RX2 = some m.cls := findClass_of_methodNamed B.named
  have hlocks := B.notSynchronized
  have hl := lv_entry ([.ref c0]) (n := 1) (Nat.le_of_ble_eq_true rfl)
  rw [lg_entry_eq]
  generalize (lg_sl ([.ref c0]) ++ List.replicate (1 - (lg_sl ([.ref c0])).length) Slot.unset).toArray = ls at hl ⊢
  have hl : lv_has ls 1 [(0, .ref c0)] := hl
  refine lv_aload_n hx hb dX2_level_0 rfl (lv_at hl 0 rfl) ?_
  refine va_get (D := D) (ci := 1) (v := .ref c1) (C := RX2) (T := TX2) (N := 1) hx hb hts (by decide +kernel) hown hK hP 0 rfl rfl 0 (by decide) (hts (.fieldLink RX2 11 "TrapMachine$Controls" "values" "[I") (by decide +kernel)) (fun _ h9 => h9) rfl dX2_level_1 ?_
  refine lv_iconst (v := (0 : Int32)) hx hb dX2_level_4 (by decide) ?_
  refine q_iald (j := 0) (x9 := (v 0)) hx hb hK hP 1 0 rfl rfl (vi_k (by decide)) rfl rfl dX2_level_5 ?_
  refine lv_iconst (v := (3 : Int32)) hx hb dX2_level_6 (by decide) ?_
  refine lv_iand hx hb dX2_level_7 ?_
  exact W.iret (v := ((v 0) &&& (3 : Int32))) hx hb hr (rd_end (show fX2_level v = ((v 0) &&& (3 : Int32)) from rfl)) (fun q h => by cases h) dX2_level_8
def fX2_isEnabled (v : Nat → Int32)  : Int32 :=
  if ((v 0) &&& (4 : Int32)) = (0 : Int32) then
    (0 : Int32)
  else
    (1 : Int32)
set_option maxHeartbeats 4000000 in
set_option maxRecDepth 100000 in
theorem kX2_isEnabled (l : Launch) (D : va_G) (k : Nat → ClassId) (c0 c1 : Nat) (v : Nat → Int32)   : Met l yX2_isEnabled wsX2_isEnabled { frames := 0, cells := 0, slots := 0, locals := 0 } (rd_P D vwCl (tyL k) (wC k c0 c1 v) (fun _ => True) [.ref c0]) (QcRead (fX2_isEnabled v)) 0 0 (fun _ => False) := by
  refine Met.ofW (cc := cX2_isEnabled) (maxL := 1) (ret := (some .boolean)) (by decide) rfl ?_
  intro p e s m args below meth c s₁ B hml hv0
  obtain ⟨rfl, hP, hK, hX⟩ := hv0
  have hx := B.exec
  have hb := B.bytes
  have hr := B.returns
  have hts := atoms_spec (ws := wsX2_isEnabled) B.pre
  have hown : s.vm.findClass RX2 = some m.cls := findClass_of_methodNamed B.named
  have hlocks := B.notSynchronized
  have hl := lv_entry ([.ref c0]) (n := 1) (Nat.le_of_ble_eq_true rfl)
  rw [lg_entry_eq]
  generalize (lg_sl ([.ref c0]) ++ List.replicate (1 - (lg_sl ([.ref c0])).length) Slot.unset).toArray = ls at hl ⊢
  have hl : lv_has ls 1 [(0, .ref c0)] := hl
  refine lv_aload_n hx hb dX2_isEnabled_0 rfl (lv_at hl 0 rfl) ?_
  refine va_get (D := D) (ci := 1) (v := .ref c1) (C := RX2) (T := TX2) (N := 1) hx hb hts (by decide +kernel) hown hK hP 0 rfl rfl 0 (by decide) (hts (.fieldLink RX2 11 "TrapMachine$Controls" "values" "[I") (by decide +kernel)) (fun _ h9 => h9) rfl dX2_isEnabled_1 ?_
  refine lv_iconst (v := (0 : Int32)) hx hb dX2_isEnabled_4 (by decide) ?_
  refine q_iald (j := 0) (x9 := (v 0)) hx hb hK hP 1 0 rfl rfl (vi_k (by decide)) rfl rfl dX2_isEnabled_5 ?_
  refine lv_iconst (v := (4 : Int32)) hx hb dX2_isEnabled_6 (by decide) ?_
  refine lv_iand hx hb dX2_isEnabled_7 ?_
  refine lv_if_eq (tgt := 15) hx hb dX2_isEnabled_8 (by decide) (fun c_8 => ?_) (fun c_8 => ?_)
  · refine lv_iconst (v := (0 : Int32)) hx hb dX2_isEnabled_15 (by decide) ?_
    exact W.zret (v := (0 : Int32)) hx hb hr rfl (rd_end (show fX2_isEnabled v = (0 : Int32) from (if_pos c_8).trans rfl)) (fun q h => by cases h) dX2_isEnabled_16
  · refine lv_iconst (v := (1 : Int32)) hx hb dX2_isEnabled_11 (by decide) ?_
    refine lv_goto (tgt := 16) hx hb dX2_isEnabled_12 (by decide) ?_
    exact W.zret (v := (1 : Int32)) hx hb hr rfl (rd_end (show fX2_isEnabled v = (1 : Int32) from (if_neg c_8).trans rfl)) (fun q h => by cases h) dX2_isEnabled_16
def fX2_isDirect (v : Nat → Int32)  : Int32 :=
  if ((v 0) &&& (8 : Int32)) = (0 : Int32) then
    (0 : Int32)
  else
    (1 : Int32)
set_option maxHeartbeats 4000000 in
set_option maxRecDepth 100000 in
theorem kX2_isDirect (l : Launch) (D : va_G) (k : Nat → ClassId) (c0 c1 : Nat) (v : Nat → Int32)   : Met l yX2_isDirect wsX2_isDirect { frames := 0, cells := 0, slots := 0, locals := 0 } (rd_P D vwCl (tyL k) (wC k c0 c1 v) (fun _ => True) [.ref c0]) (QcRead (fX2_isDirect v)) 0 0 (fun _ => False) := by
  refine Met.ofW (cc := cX2_isDirect) (maxL := 1) (ret := (some .boolean)) (by decide) rfl ?_
  intro p e s m args below meth c s₁ B hml hv0
  obtain ⟨rfl, hP, hK, hX⟩ := hv0
  have hx := B.exec
  have hb := B.bytes
  have hr := B.returns
  have hts := atoms_spec (ws := wsX2_isDirect) B.pre
  have hown : s.vm.findClass RX2 = some m.cls := findClass_of_methodNamed B.named
  have hlocks := B.notSynchronized
  have hl := lv_entry ([.ref c0]) (n := 1) (Nat.le_of_ble_eq_true rfl)
  rw [lg_entry_eq]
  generalize (lg_sl ([.ref c0]) ++ List.replicate (1 - (lg_sl ([.ref c0])).length) Slot.unset).toArray = ls at hl ⊢
  have hl : lv_has ls 1 [(0, .ref c0)] := hl
  refine lv_aload_n hx hb dX2_isDirect_0 rfl (lv_at hl 0 rfl) ?_
  refine va_get (D := D) (ci := 1) (v := .ref c1) (C := RX2) (T := TX2) (N := 1) hx hb hts (by decide +kernel) hown hK hP 0 rfl rfl 0 (by decide) (hts (.fieldLink RX2 11 "TrapMachine$Controls" "values" "[I") (by decide +kernel)) (fun _ h9 => h9) rfl dX2_isDirect_1 ?_
  refine lv_iconst (v := (0 : Int32)) hx hb dX2_isDirect_4 (by decide) ?_
  refine q_iald (j := 0) (x9 := (v 0)) hx hb hK hP 1 0 rfl rfl (vi_k (by decide)) rfl rfl dX2_isDirect_5 ?_
  refine lv_bipush (v := (8 : Int32)) hx hb dX2_isDirect_6 (by decide) ?_
  refine lv_iand hx hb dX2_isDirect_8 ?_
  refine lv_if_eq (tgt := 16) hx hb dX2_isDirect_9 (by decide) (fun c_9 => ?_) (fun c_9 => ?_)
  · refine lv_iconst (v := (0 : Int32)) hx hb dX2_isDirect_16 (by decide) ?_
    exact W.zret (v := (0 : Int32)) hx hb hr rfl (rd_end (show fX2_isDirect v = (0 : Int32) from (if_pos c_9).trans rfl)) (fun q h => by cases h) dX2_isDirect_17
  · refine lv_iconst (v := (1 : Int32)) hx hb dX2_isDirect_12 (by decide) ?_
    refine lv_goto (tgt := 17) hx hb dX2_isDirect_13 (by decide) ?_
    exact W.zret (v := (1 : Int32)) hx hb hr rfl (rd_end (show fX2_isDirect v = (1 : Int32) from (if_neg c_9).trans rfl)) (fun q h => by cases h) dX2_isDirect_17
def fX2_isEmpty (v : Nat → Int32)  : Int32 :=
  if ((v 7) &&& (-2147483648 : Int32)) = (0 : Int32) then
    (0 : Int32)
  else
    (1 : Int32)
set_option maxHeartbeats 4000000 in
set_option maxRecDepth 100000 in
theorem kX2_isEmpty (l : Launch) (D : va_G) (k : Nat → ClassId) (c0 c1 : Nat) (v : Nat → Int32)   : Met l yX2_isEmpty wsX2_isEmpty { frames := 0, cells := 0, slots := 0, locals := 0 } (rd_P D vwCl (tyL k) (wC k c0 c1 v) (fun _ => True) [.ref c0]) (QcRead (fX2_isEmpty v)) 0 0 (fun _ => False) := by
  refine Met.ofW (cc := cX2_isEmpty) (maxL := 1) (ret := (some .boolean)) (by decide) rfl ?_
  intro p e s m args below meth c s₁ B hml hv0
  obtain ⟨rfl, hP, hK, hX⟩ := hv0
  have hx := B.exec
  have hb := B.bytes
  have hr := B.returns
  have hts := atoms_spec (ws := wsX2_isEmpty) B.pre
  have hown : s.vm.findClass RX2 = some m.cls := findClass_of_methodNamed B.named
  have hlocks := B.notSynchronized
  have hl := lv_entry ([.ref c0]) (n := 1) (Nat.le_of_ble_eq_true rfl)
  rw [lg_entry_eq]
  generalize (lg_sl ([.ref c0]) ++ List.replicate (1 - (lg_sl ([.ref c0])).length) Slot.unset).toArray = ls at hl ⊢
  have hl : lv_has ls 1 [(0, .ref c0)] := hl
  refine lv_aload_n hx hb dX2_isEmpty_0 rfl (lv_at hl 0 rfl) ?_
  refine va_get (D := D) (ci := 1) (v := .ref c1) (C := RX2) (T := TX2) (N := 1) hx hb hts (by decide +kernel) hown hK hP 0 rfl rfl 0 (by decide) (hts (.fieldLink RX2 11 "TrapMachine$Controls" "values" "[I") (by decide +kernel)) (fun _ h9 => h9) rfl dX2_isEmpty_1 ?_
  refine lv_bipush (v := (7 : Int32)) hx hb dX2_isEmpty_4 (by decide) ?_
  refine q_iald (j := 7) (x9 := (v 7)) hx hb hK hP 1 0 rfl rfl (vi_k (by decide)) rfl rfl dX2_isEmpty_6 ?_
  refine lv_ldc (v := (-2147483648 : Int32)) hx hb hown (hts (.constant RX2 22 (-2147483648)) (by decide +kernel)) dX2_isEmpty_7 ?_
  refine lv_iand hx hb dX2_isEmpty_9 ?_
  refine lv_if_eq (tgt := 17) hx hb dX2_isEmpty_10 (by decide) (fun c_10 => ?_) (fun c_10 => ?_)
  · refine lv_iconst (v := (0 : Int32)) hx hb dX2_isEmpty_17 (by decide) ?_
    exact W.zret (v := (0 : Int32)) hx hb hr rfl (rd_end (show fX2_isEmpty v = (0 : Int32) from (if_pos c_10).trans rfl)) (fun q h => by cases h) dX2_isEmpty_18
  · refine lv_iconst (v := (1 : Int32)) hx hb dX2_isEmpty_13 (by decide) ?_
    refine lv_goto (tgt := 18) hx hb dX2_isEmpty_14 (by decide) ?_
    exact W.zret (v := (1 : Int32)) hx hb hr rfl (rd_end (show fX2_isEmpty v = (1 : Int32) from (if_neg c_10).trans rfl)) (fun q h => by cases h) dX2_isEmpty_18
def fX2_code (v : Nat → Int32)  : Int32 :=
  ((iu (v 3) (16 : Int32)) &&& (63 : Int32))
set_option maxHeartbeats 4000000 in
set_option maxRecDepth 100000 in
theorem kX2_code (l : Launch) (D : va_G) (k : Nat → ClassId) (c0 c1 : Nat) (v : Nat → Int32)   : Met l yX2_code wsX2_code { frames := 0, cells := 0, slots := 0, locals := 0 } (rd_P D vwCl (tyL k) (wC k c0 c1 v) (fun _ => True) [.ref c0]) (QcRead (fX2_code v)) 0 0 (fun _ => False) := by
  refine Met.ofW (cc := cX2_code) (maxL := 1) (ret := (some .int)) (by decide) rfl ?_
  intro p e s m args below meth c s₁ B hml hv0
  obtain ⟨rfl, hP, hK, hX⟩ := hv0
  have hx := B.exec
  have hb := B.bytes
  have hr := B.returns
  have hts := atoms_spec (ws := wsX2_code) B.pre
  have hown : s.vm.findClass RX2 = some m.cls := findClass_of_methodNamed B.named
  have hlocks := B.notSynchronized
  have hl := lv_entry ([.ref c0]) (n := 1) (Nat.le_of_ble_eq_true rfl)
  rw [lg_entry_eq]
  generalize (lg_sl ([.ref c0]) ++ List.replicate (1 - (lg_sl ([.ref c0])).length) Slot.unset).toArray = ls at hl ⊢
  have hl : lv_has ls 1 [(0, .ref c0)] := hl
  refine lv_aload_n hx hb dX2_code_0 rfl (lv_at hl 0 rfl) ?_
  refine va_get (D := D) (ci := 1) (v := .ref c1) (C := RX2) (T := TX2) (N := 1) hx hb hts (by decide +kernel) hown hK hP 0 rfl rfl 0 (by decide) (hts (.fieldLink RX2 11 "TrapMachine$Controls" "values" "[I") (by decide +kernel)) (fun _ h9 => h9) rfl dX2_code_1 ?_
  refine lv_iconst (v := (3 : Int32)) hx hb dX2_code_4 (by decide) ?_
  refine q_iald (j := 3) (x9 := (v 3)) hx hb hK hP 1 0 rfl rfl (vi_k (by decide)) rfl rfl dX2_code_5 ?_
  refine lv_bipush (v := (16 : Int32)) hx hb dX2_code_6 (by decide) ?_
  refine lv_iushr (v := (iu (v 3) (16 : Int32))) hx hb dX2_code_8 rfl ?_
  refine lv_bipush (v := (63 : Int32)) hx hb dX2_code_9 (by decide) ?_
  refine lv_iand hx hb dX2_code_11 ?_
  exact W.iret (v := ((iu (v 3) (16 : Int32)) &&& (63 : Int32))) hx hb hr (rd_end (show fX2_code v = ((iu (v 3) (16 : Int32)) &&& (63 : Int32)) from rfl)) (fun q h => by cases h) dX2_code_12
def fX2_isAsked (v : Nat → Int32)  : Int32 :=
  if (((v 2) &&& (v 3)) &&& (31 : Int32)) = (0 : Int32) then
    (0 : Int32)
  else
    (1 : Int32)
set_option maxHeartbeats 4000000 in
set_option maxRecDepth 100000 in
theorem kX2_isAsked (l : Launch) (D : va_G) (k : Nat → ClassId) (c0 c1 : Nat) (v : Nat → Int32)   : Met l yX2_isAsked wsX2_isAsked { frames := 0, cells := 0, slots := 0, locals := 0 } (rd_P D vwCl (tyL k) (wC k c0 c1 v) (fun _ => True) [.ref c0]) (QcRead (fX2_isAsked v)) 0 0 (fun _ => False) := by
  refine Met.ofW (cc := cX2_isAsked) (maxL := 1) (ret := (some .boolean)) (by decide) rfl ?_
  intro p e s m args below meth c s₁ B hml hv0
  obtain ⟨rfl, hP, hK, hX⟩ := hv0
  have hx := B.exec
  have hb := B.bytes
  have hr := B.returns
  have hts := atoms_spec (ws := wsX2_isAsked) B.pre
  have hown : s.vm.findClass RX2 = some m.cls := findClass_of_methodNamed B.named
  have hlocks := B.notSynchronized
  have hl := lv_entry ([.ref c0]) (n := 1) (Nat.le_of_ble_eq_true rfl)
  rw [lg_entry_eq]
  generalize (lg_sl ([.ref c0]) ++ List.replicate (1 - (lg_sl ([.ref c0])).length) Slot.unset).toArray = ls at hl ⊢
  have hl : lv_has ls 1 [(0, .ref c0)] := hl
  refine lv_aload_n hx hb dX2_isAsked_0 rfl (lv_at hl 0 rfl) ?_
  refine va_get (D := D) (ci := 1) (v := .ref c1) (C := RX2) (T := TX2) (N := 1) hx hb hts (by decide +kernel) hown hK hP 0 rfl rfl 0 (by decide) (hts (.fieldLink RX2 11 "TrapMachine$Controls" "values" "[I") (by decide +kernel)) (fun _ h9 => h9) rfl dX2_isAsked_1 ?_
  refine lv_iconst (v := (2 : Int32)) hx hb dX2_isAsked_4 (by decide) ?_
  refine q_iald (j := 2) (x9 := (v 2)) hx hb hK hP 1 0 rfl rfl (vi_k (by decide)) rfl rfl dX2_isAsked_5 ?_
  refine lv_aload_n hx hb dX2_isAsked_6 rfl (lv_at hl 0 rfl) ?_
  refine va_get (D := D) (ci := 1) (v := .ref c1) (C := RX2) (T := TX2) (N := 1) hx hb hts (by decide +kernel) hown hK hP 0 rfl rfl 0 (by decide) (hts (.fieldLink RX2 11 "TrapMachine$Controls" "values" "[I") (by decide +kernel)) (fun _ h9 => h9) rfl dX2_isAsked_7 ?_
  refine lv_iconst (v := (3 : Int32)) hx hb dX2_isAsked_10 (by decide) ?_
  refine q_iald (j := 3) (x9 := (v 3)) hx hb hK hP 1 0 rfl rfl (vi_k (by decide)) rfl rfl dX2_isAsked_11 ?_
  refine lv_iand hx hb dX2_isAsked_12 ?_
  refine lv_bipush (v := (31 : Int32)) hx hb dX2_isAsked_13 (by decide) ?_
  refine lv_iand hx hb dX2_isAsked_15 ?_
  refine lv_if_eq (tgt := 23) hx hb dX2_isAsked_16 (by decide) (fun c_16 => ?_) (fun c_16 => ?_)
  · refine lv_iconst (v := (0 : Int32)) hx hb dX2_isAsked_23 (by decide) ?_
    exact W.zret (v := (0 : Int32)) hx hb hr rfl (rd_end (show fX2_isAsked v = (0 : Int32) from (if_pos c_16).trans rfl)) (fun q h => by cases h) dX2_isAsked_24
  · refine lv_iconst (v := (1 : Int32)) hx hb dX2_isAsked_19 (by decide) ?_
    refine lv_goto (tgt := 24) hx hb dX2_isAsked_20 (by decide) ?_
    exact W.zret (v := (1 : Int32)) hx hb hr rfl (rd_end (show fX2_isAsked v = (1 : Int32) from (if_neg c_16).trans rfl)) (fun q h => by cases h) dX2_isAsked_24
def fX2_isInWindow (v : Nat → Int32) (a1 : Int32) : Int32 :=
  if ((iu (v 17) ((v 0) &&& (3 : Int32))) &&& (1 : Int32)) = (0 : Int32) then
    (0 : Int32)
  else
    if (iu (a1 ^^^ (v 17)) (28 : Int32)) = (0 : Int32) then
      (1 : Int32)
    else
      (0 : Int32)
set_option maxHeartbeats 4000000 in
set_option maxRecDepth 100000 in
theorem kX2_isInWindow (l : Launch) (D : va_G) (k : Nat → ClassId) (c0 c1 : Nat) (v : Nat → Int32) (a1 : Int32)  : Met l yX2_isInWindow wsX2_isInWindow { frames := 0, cells := 0, slots := 0, locals := 0 } (rd_P D vwCl (tyL k) (wC k c0 c1 v) (fun _ => True) [.ref c0, .int a1]) (QcRead (fX2_isInWindow v a1)) 0 0 (fun _ => False) := by
  refine Met.ofW (cc := cX2_isInWindow) (maxL := 4) (ret := (some .boolean)) (by decide) rfl ?_
  intro p e s m args below meth c s₁ B hml hv0
  obtain ⟨rfl, hP, hK, hX⟩ := hv0
  have hx := B.exec
  have hb := B.bytes
  have hr := B.returns
  have hts := atoms_spec (ws := wsX2_isInWindow) B.pre
  have hown : s.vm.findClass RX2 = some m.cls := findClass_of_methodNamed B.named
  have hlocks := B.notSynchronized
  have hl := lv_entry ([.ref c0, .int a1]) (n := 4) (Nat.le_of_ble_eq_true rfl)
  rw [lg_entry_eq]
  generalize (lg_sl ([.ref c0, .int a1]) ++ List.replicate (4 - (lg_sl ([.ref c0, .int a1])).length) Slot.unset).toArray = ls at hl ⊢
  have hl : lv_has ls 4 [(0, .ref c0), (1, .int a1)] := hl
  refine lv_aload_n hx hb dX2_isInWindow_0 rfl (lv_at hl 0 rfl) ?_
  refine va_get (D := D) (ci := 1) (v := .ref c1) (C := RX2) (T := TX2) (N := 1) hx hb hts (by decide +kernel) hown hK hP 0 rfl rfl 0 (by decide) (hts (.fieldLink RX2 11 "TrapMachine$Controls" "values" "[I") (by decide +kernel)) (fun _ h9 => h9) rfl dX2_isInWindow_1 ?_
  refine lv_bipush (v := (17 : Int32)) hx hb dX2_isInWindow_4 (by decide) ?_
  refine q_iald (j := 17) (x9 := (v 17)) hx hb hK hP 1 0 rfl rfl (vi_k (by decide)) rfl rfl dX2_isInWindow_6 ?_
  refine lv_istore_n (lv' := [(2, .int (v 17)), (0, .ref c0), (1, .int a1)]) hx hb dX2_isInWindow_7 rfl hl (by decide) rfl (fun ls hl => ?_)
  refine lv_iload_n hx hb dX2_isInWindow_8 rfl (lv_at hl 0 rfl) ?_
  refine lv_aload_n hx hb dX2_isInWindow_9 rfl (lv_at hl 1 rfl) ?_
  refine va_get (D := D) (ci := 1) (v := .ref c1) (C := RX2) (T := TX2) (N := 1) hx hb hts (by decide +kernel) hown hK hP 0 rfl rfl 0 (by decide) (hts (.fieldLink RX2 11 "TrapMachine$Controls" "values" "[I") (by decide +kernel)) (fun _ h9 => h9) rfl dX2_isInWindow_10 ?_
  refine lv_iconst (v := (0 : Int32)) hx hb dX2_isInWindow_13 (by decide) ?_
  refine q_iald (j := 0) (x9 := (v 0)) hx hb hK hP 1 0 rfl rfl (vi_k (by decide)) rfl rfl dX2_isInWindow_14 ?_
  refine lv_iconst (v := (3 : Int32)) hx hb dX2_isInWindow_15 (by decide) ?_
  refine lv_iand hx hb dX2_isInWindow_16 ?_
  refine lv_iushr (v := (iu (v 17) ((v 0) &&& (3 : Int32)))) hx hb dX2_isInWindow_17 rfl ?_
  refine lv_iconst (v := (1 : Int32)) hx hb dX2_isInWindow_18 (by decide) ?_
  refine lv_iand hx hb dX2_isInWindow_19 ?_
  refine lv_if_eq (tgt := 27) hx hb dX2_isInWindow_20 (by decide) (fun c_20 => ?_) (fun c_20 => ?_)
  · refine lv_iconst (v := (0 : Int32)) hx hb dX2_isInWindow_27 (by decide) ?_
    refine lv_istore_n (lv' := [(3, .int (0 : Int32)), (2, .int (v 17)), (0, .ref c0), (1, .int a1)]) hx hb dX2_isInWindow_28 rfl hl (by decide) rfl (fun ls hl => ?_)
    refine lv_iload_n hx hb dX2_isInWindow_29 rfl (lv_at hl 0 rfl) ?_
    refine lv_if_eq (tgt := 46) hx hb dX2_isInWindow_30 (by decide) (fun _ => ?_) (fun c9 => absurd (by decide) c9)
    refine lv_iconst (v := (0 : Int32)) hx hb dX2_isInWindow_46 (by decide) ?_
    exact W.zret (v := (0 : Int32)) hx hb hr rfl (rd_end (show fX2_isInWindow v a1 = (0 : Int32) from (if_pos c_20).trans rfl)) (fun q h => by cases h) dX2_isInWindow_47
  · refine lv_iconst (v := (1 : Int32)) hx hb dX2_isInWindow_23 (by decide) ?_
    refine lv_goto (tgt := 28) hx hb dX2_isInWindow_24 (by decide) ?_
    refine lv_istore_n (lv' := [(3, .int (1 : Int32)), (2, .int (v 17)), (0, .ref c0), (1, .int a1)]) hx hb dX2_isInWindow_28 rfl hl (by decide) rfl (fun ls hl => ?_)
    refine lv_iload_n hx hb dX2_isInWindow_29 rfl (lv_at hl 0 rfl) ?_
    refine lv_if_eq (tgt := 46) hx hb dX2_isInWindow_30 (by decide) (fun c9 => absurd c9 (by decide)) (fun _ => ?_)
    refine lv_iload_n hx hb dX2_isInWindow_33 rfl (lv_at hl 3 rfl) ?_
    refine lv_iload_n hx hb dX2_isInWindow_34 rfl (lv_at hl 1 rfl) ?_
    refine lv_ixor hx hb dX2_isInWindow_35 ?_
    refine lv_bipush (v := (28 : Int32)) hx hb dX2_isInWindow_36 (by decide) ?_
    refine lv_iushr (v := (iu (a1 ^^^ (v 17)) (28 : Int32))) hx hb dX2_isInWindow_38 rfl ?_
    refine lv_if_ne (tgt := 46) hx hb dX2_isInWindow_39 (by decide) (fun c_39 => ?_) (fun c_39 => ?_)
    · refine lv_iconst (v := (0 : Int32)) hx hb dX2_isInWindow_46 (by decide) ?_
      exact W.zret (v := (0 : Int32)) hx hb hr rfl (rd_end (show fX2_isInWindow v a1 = (0 : Int32) from (if_neg c_20).trans ((if_neg c_39).trans rfl))) (fun q h => by cases h) dX2_isInWindow_47
    · refine lv_iconst (v := (1 : Int32)) hx hb dX2_isInWindow_42 (by decide) ?_
      refine lv_goto (tgt := 47) hx hb dX2_isInWindow_43 (by decide) ?_
      exact W.zret (v := (1 : Int32)) hx hb hr rfl (rd_end (show fX2_isInWindow v a1 = (1 : Int32) from (if_neg c_20).trans ((if_pos c_39).trans rfl))) (fun q h => by cases h) dX2_isInWindow_47
def fX2_setDirect (v : Nat → Int32)  : Nat → Int32 :=
  (upd v 0 ((v 0) ||| (8 : Int32)))
set_option maxHeartbeats 4000000 in
set_option maxRecDepth 100000 in
theorem kX2_setDirect (l : Launch) (D : va_G) (k : Nat → ClassId) (c0 c1 : Nat) (v : Nat → Int32)   (o : Nat → Int32) (ho : fX2_setDirect v = o) : Met l yX2_setDirect wsX2_setDirect { frames := 0, cells := 0, slots := 0, locals := 0 } (wr_P D vwCl (tyL k) (wC k c0 c1 v) (fun _ => True) [.ref c0]) (wr_Q D vwCl none (wC k c0 c1 v) (wC k c0 c1 o)) 0 0 (in_W (wC k c0 c1 v)) := by
  refine Met.ofW (cc := cX2_setDirect) (maxL := 1) (ret := none) (by decide) rfl ?_
  intro p e s m args below meth c s₁ B hml hv0
  obtain ⟨rfl, hP, hK, hX, hD0⟩ := hv0
  have hx := B.exec
  have hb := B.bytes
  have hr := B.returns
  have hts := atoms_spec (ws := wsX2_setDirect) B.pre
  have hown : s.vm.findClass RX2 = some m.cls := findClass_of_methodNamed B.named
  have hlocks := B.notSynchronized
  have hD : va_D (in_W (wC k c0 c1 v)) (wC k c0 c1 v) := wD_self hD0
  have hS : va_S (in_W (wC k c0 c1 v)) s.heap s.heap [] := va_S.rf
  have hl := lv_entry ([.ref c0]) (n := 1) (Nat.le_of_ble_eq_true rfl)
  rw [lg_entry_eq]
  generalize (lg_sl ([.ref c0]) ++ List.replicate (1 - (lg_sl ([.ref c0])).length) Slot.unset).toArray = ls at hl ⊢
  have hl : lv_has ls 1 [(0, .ref c0)] := hl
  refine lv_aload_n hx hb dX2_setDirect_0 rfl (lv_at hl 0 rfl) ?_
  refine va_get (D := D) (ci := 1) (v := .ref c1) (C := RX2) (T := TX2) (N := 1) hx hb hts (by decide +kernel) hown hK hP 0 rfl rfl 0 (by decide) (hts (.fieldLink RX2 11 "TrapMachine$Controls" "values" "[I") (by decide +kernel)) (fun _ h9 => h9) rfl dX2_setDirect_1 ?_
  refine lv_iconst (v := (0 : Int32)) hx hb dX2_setDirect_4 (by decide) ?_
  refine lv_dup2_11 hx hb dX2_setDirect_5 rfl rfl ?_
  refine q_iald (j := 0) (x9 := (v 0)) hx hb hK hP 1 0 rfl rfl (vi_k (by decide)) rfl rfl dX2_setDirect_6 ?_
  refine lv_bipush (v := (8 : Int32)) hx hb dX2_setDirect_7 (by decide) ?_
  refine lv_ior hx hb dX2_setDirect_9 ?_
  refine q_iast (j := 0) (ws' := wC k c0 c1 (upd v 0 ((v 0) ||| (8 : Int32)))) hx hb hK hP hD hS 1 0 rfl rfl (vi_k (by decide)) rfl rfl dX2_setDirect_10 (fun H locs hP hD hS => ?_)
  exact W.vret hx hb hr (wr_end rfl (congrArg (wC k c0 c1) ((show fX2_setDirect v = (upd v 0 ((v 0) ||| (8 : Int32))) from rfl).symm.trans ho)) hP hS) hS.2.2 dX2_setDirect_11
def fX2_setEmpty (v : Nat → Int32) (a1 : Int32) : Nat → Int32 :=
  if a1 = (0 : Int32) then
    (upd v 7 (((v 7) &&& (2147483647 : Int32)) ||| (0 : Int32)))
  else
    (upd v 7 (((v 7) &&& (2147483647 : Int32)) ||| (-2147483648 : Int32)))
set_option maxHeartbeats 4000000 in
set_option maxRecDepth 100000 in
theorem kX2_setEmpty (l : Launch) (D : va_G) (k : Nat → ClassId) (c0 c1 : Nat) (v : Nat → Int32) (a1 : Int32)  (o : Nat → Int32) (ho : fX2_setEmpty v a1 = o) : Met l yX2_setEmpty wsX2_setEmpty { frames := 0, cells := 0, slots := 0, locals := 0 } (wr_P D vwCl (tyL k) (wC k c0 c1 v) (fun _ => True) [.ref c0, .int a1]) (wr_Q D vwCl none (wC k c0 c1 v) (wC k c0 c1 o)) 0 0 (in_W (wC k c0 c1 v)) := by
  refine Met.ofW (cc := cX2_setEmpty) (maxL := 2) (ret := none) (by decide) rfl ?_
  intro p e s m args below meth c s₁ B hml hv0
  obtain ⟨rfl, hP, hK, hX, hD0⟩ := hv0
  have hx := B.exec
  have hb := B.bytes
  have hr := B.returns
  have hts := atoms_spec (ws := wsX2_setEmpty) B.pre
  have hown : s.vm.findClass RX2 = some m.cls := findClass_of_methodNamed B.named
  have hlocks := B.notSynchronized
  have hD : va_D (in_W (wC k c0 c1 v)) (wC k c0 c1 v) := wD_self hD0
  have hS : va_S (in_W (wC k c0 c1 v)) s.heap s.heap [] := va_S.rf
  have hl := lv_entry ([.ref c0, .int a1]) (n := 2) (Nat.le_of_ble_eq_true rfl)
  rw [lg_entry_eq]
  generalize (lg_sl ([.ref c0, .int a1]) ++ List.replicate (2 - (lg_sl ([.ref c0, .int a1])).length) Slot.unset).toArray = ls at hl ⊢
  have hl : lv_has ls 2 [(0, .ref c0), (1, .int a1)] := hl
  refine lv_aload_n hx hb dX2_setEmpty_0 rfl (lv_at hl 0 rfl) ?_
  refine va_get (D := D) (ci := 1) (v := .ref c1) (C := RX2) (T := TX2) (N := 1) hx hb hts (by decide +kernel) hown hK hP 0 rfl rfl 0 (by decide) (hts (.fieldLink RX2 11 "TrapMachine$Controls" "values" "[I") (by decide +kernel)) (fun _ h9 => h9) rfl dX2_setEmpty_1 ?_
  refine lv_bipush (v := (7 : Int32)) hx hb dX2_setEmpty_4 (by decide) ?_
  refine lv_aload_n hx hb dX2_setEmpty_6 rfl (lv_at hl 0 rfl) ?_
  refine va_get (D := D) (ci := 1) (v := .ref c1) (C := RX2) (T := TX2) (N := 1) hx hb hts (by decide +kernel) hown hK hP 0 rfl rfl 0 (by decide) (hts (.fieldLink RX2 11 "TrapMachine$Controls" "values" "[I") (by decide +kernel)) (fun _ h9 => h9) rfl dX2_setEmpty_7 ?_
  refine lv_bipush (v := (7 : Int32)) hx hb dX2_setEmpty_10 (by decide) ?_
  refine q_iald (j := 7) (x9 := (v 7)) hx hb hK hP 1 0 rfl rfl (vi_k (by decide)) rfl rfl dX2_setEmpty_12 ?_
  refine lv_ldc (v := (2147483647 : Int32)) hx hb hown (hts (.constant RX2 23 (2147483647)) (by decide +kernel)) dX2_setEmpty_13 ?_
  refine lv_iand hx hb dX2_setEmpty_15 ?_
  refine lv_iload_n hx hb dX2_setEmpty_16 rfl (lv_at hl 1 rfl) ?_
  refine lv_if_eq (tgt := 25) hx hb dX2_setEmpty_17 (by decide) (fun c_17 => ?_) (fun c_17 => ?_)
  · refine lv_iconst (v := (0 : Int32)) hx hb dX2_setEmpty_25 (by decide) ?_
    refine lv_ior hx hb dX2_setEmpty_26 ?_
    refine q_iast (j := 7) (ws' := wC k c0 c1 (upd v 7 (((v 7) &&& (2147483647 : Int32)) ||| (0 : Int32)))) hx hb hK hP hD hS 1 0 rfl rfl (vi_k (by decide)) rfl rfl dX2_setEmpty_27 (fun H locs hP hD hS => ?_)
    exact W.vret hx hb hr (wr_end rfl (congrArg (wC k c0 c1) ((show fX2_setEmpty v a1 = (upd v 7 (((v 7) &&& (2147483647 : Int32)) ||| (0 : Int32))) from (if_pos c_17).trans rfl).symm.trans ho)) hP hS) hS.2.2 dX2_setEmpty_28
  · refine lv_ldc (v := (-2147483648 : Int32)) hx hb hown (hts (.constant RX2 22 (-2147483648)) (by decide +kernel)) dX2_setEmpty_20 ?_
    refine lv_goto (tgt := 26) hx hb dX2_setEmpty_22 (by decide) ?_
    refine lv_ior hx hb dX2_setEmpty_26 ?_
    refine q_iast (j := 7) (ws' := wC k c0 c1 (upd v 7 (((v 7) &&& (2147483647 : Int32)) ||| (-2147483648 : Int32)))) hx hb hK hP hD hS 1 0 rfl rfl (vi_k (by decide)) rfl rfl dX2_setEmpty_27 (fun H locs hP hD hS => ?_)
    exact W.vret hx hb hr (wr_end rfl (congrArg (wC k c0 c1) ((show fX2_setEmpty v a1 = (upd v 7 (((v 7) &&& (2147483647 : Int32)) ||| (-2147483648 : Int32))) from (if_neg c_17).trans rfl).symm.trans ho)) hP hS) hS.2.2 dX2_setEmpty_28
def fX2_setLine (v : Nat → Int32) (a1 : Int32) (a2 : Int32) : Nat → Int32 :=
  if a2 = (0 : Int32) then
    (upd v 3 (((v 3) &&& (((1 : Int32) <<< (a1 &&& 31)) ^^^ (-1 : Int32))) ||| (0 : Int32)))
  else
    (upd v 3 (((v 3) &&& (((1 : Int32) <<< (a1 &&& 31)) ^^^ (-1 : Int32))) ||| ((1 : Int32) <<< (a1 &&& 31))))
set_option maxHeartbeats 4000000 in
set_option maxRecDepth 100000 in
theorem kX2_setLine (l : Launch) (D : va_G) (k : Nat → ClassId) (c0 c1 : Nat) (v : Nat → Int32) (a1 : Int32) (a2 : Int32)  (o : Nat → Int32) (ho : fX2_setLine v a1 a2 = o) : Met l yX2_setLine wsX2_setLine { frames := 0, cells := 0, slots := 0, locals := 0 } (wr_P D vwCl (tyL k) (wC k c0 c1 v) (fun _ => True) [.ref c0, .int a1, .int a2]) (wr_Q D vwCl none (wC k c0 c1 v) (wC k c0 c1 o)) 0 0 (in_W (wC k c0 c1 v)) := by
  refine Met.ofW (cc := cX2_setLine) (maxL := 4) (ret := none) (by decide) rfl ?_
  intro p e s m args below meth c s₁ B hml hv0
  obtain ⟨rfl, hP, hK, hX, hD0⟩ := hv0
  have hx := B.exec
  have hb := B.bytes
  have hr := B.returns
  have hts := atoms_spec (ws := wsX2_setLine) B.pre
  have hown : s.vm.findClass RX2 = some m.cls := findClass_of_methodNamed B.named
  have hlocks := B.notSynchronized
  have hD : va_D (in_W (wC k c0 c1 v)) (wC k c0 c1 v) := wD_self hD0
  have hS : va_S (in_W (wC k c0 c1 v)) s.heap s.heap [] := va_S.rf
  have hl := lv_entry ([.ref c0, .int a1, .int a2]) (n := 4) (Nat.le_of_ble_eq_true rfl)
  rw [lg_entry_eq]
  generalize (lg_sl ([.ref c0, .int a1, .int a2]) ++ List.replicate (4 - (lg_sl ([.ref c0, .int a1, .int a2])).length) Slot.unset).toArray = ls at hl ⊢
  have hl : lv_has ls 4 [(0, .ref c0), (1, .int a1), (2, .int a2)] := hl
  refine lv_iconst (v := (1 : Int32)) hx hb dX2_setLine_0 (by decide) ?_
  refine lv_iload_n hx hb dX2_setLine_1 rfl (lv_at hl 1 rfl) ?_
  refine lv_ishl hx hb dX2_setLine_2 ?_
  refine lv_istore_n (lv' := [(3, .int ((1 : Int32) <<< (a1 &&& 31))), (0, .ref c0), (1, .int a1), (2, .int a2)]) hx hb dX2_setLine_3 rfl hl (by decide) rfl (fun ls hl => ?_)
  refine lv_aload_n hx hb dX2_setLine_4 rfl (lv_at hl 1 rfl) ?_
  refine va_get (D := D) (ci := 1) (v := .ref c1) (C := RX2) (T := TX2) (N := 1) hx hb hts (by decide +kernel) hown hK hP 0 rfl rfl 0 (by decide) (hts (.fieldLink RX2 11 "TrapMachine$Controls" "values" "[I") (by decide +kernel)) (fun _ h9 => h9) rfl dX2_setLine_5 ?_
  refine lv_iconst (v := (3 : Int32)) hx hb dX2_setLine_8 (by decide) ?_
  refine lv_aload_n hx hb dX2_setLine_9 rfl (lv_at hl 1 rfl) ?_
  refine va_get (D := D) (ci := 1) (v := .ref c1) (C := RX2) (T := TX2) (N := 1) hx hb hts (by decide +kernel) hown hK hP 0 rfl rfl 0 (by decide) (hts (.fieldLink RX2 11 "TrapMachine$Controls" "values" "[I") (by decide +kernel)) (fun _ h9 => h9) rfl dX2_setLine_10 ?_
  refine lv_iconst (v := (3 : Int32)) hx hb dX2_setLine_13 (by decide) ?_
  refine q_iald (j := 3) (x9 := (v 3)) hx hb hK hP 1 0 rfl rfl (vi_k (by decide)) rfl rfl dX2_setLine_14 ?_
  refine lv_iload_n hx hb dX2_setLine_15 rfl (lv_at hl 0 rfl) ?_
  refine lv_iconst (v := (-1 : Int32)) hx hb dX2_setLine_16 (by decide) ?_
  refine lv_ixor hx hb dX2_setLine_17 ?_
  refine lv_iand hx hb dX2_setLine_18 ?_
  refine lv_iload_n hx hb dX2_setLine_19 rfl (lv_at hl 3 rfl) ?_
  refine lv_if_eq (tgt := 27) hx hb dX2_setLine_20 (by decide) (fun c_20 => ?_) (fun c_20 => ?_)
  · refine lv_iconst (v := (0 : Int32)) hx hb dX2_setLine_27 (by decide) ?_
    refine lv_ior hx hb dX2_setLine_28 ?_
    refine q_iast (j := 3) (ws' := wC k c0 c1 (upd v 3 (((v 3) &&& (((1 : Int32) <<< (a1 &&& 31)) ^^^ (-1 : Int32))) ||| (0 : Int32)))) hx hb hK hP hD hS 1 0 rfl rfl (vi_k (by decide)) rfl rfl dX2_setLine_29 (fun H locs hP hD hS => ?_)
    exact W.vret hx hb hr (wr_end rfl (congrArg (wC k c0 c1) ((show fX2_setLine v a1 a2 = (upd v 3 (((v 3) &&& (((1 : Int32) <<< (a1 &&& 31)) ^^^ (-1 : Int32))) ||| (0 : Int32))) from (if_pos c_20).trans rfl).symm.trans ho)) hP hS) hS.2.2 dX2_setLine_30
  · refine lv_iload_n hx hb dX2_setLine_23 rfl (lv_at hl 0 rfl) ?_
    refine lv_goto (tgt := 28) hx hb dX2_setLine_24 (by decide) ?_
    refine lv_ior hx hb dX2_setLine_28 ?_
    refine q_iast (j := 3) (ws' := wC k c0 c1 (upd v 3 (((v 3) &&& (((1 : Int32) <<< (a1 &&& 31)) ^^^ (-1 : Int32))) ||| ((1 : Int32) <<< (a1 &&& 31))))) hx hb hK hP hD hS 1 0 rfl rfl (vi_k (by decide)) rfl rfl dX2_setLine_29 (fun H locs hP hD hS => ?_)
    exact W.vret hx hb hr (wr_end rfl (congrArg (wC k c0 c1) ((show fX2_setLine v a1 a2 = (upd v 3 (((v 3) &&& (((1 : Int32) <<< (a1 &&& 31)) ^^^ (-1 : Int32))) ||| ((1 : Int32) <<< (a1 &&& 31)))) from (if_neg c_20).trans rfl).symm.trans ho)) hP hS) hS.2.2 dX2_setLine_30
def fX2_enter (v : Nat → Int32) (a1 : Int32) (a2 : Int32) : Nat → Int32 :=
  (upd (upd (upd (upd v 1 ((v 0) &&& (7 : Int32))) 0 ((v 0) &&& (-8 : Int32))) 4 a2) 3 (((v 3) &&& (31 : Int32)) ||| (a1 <<< ((16 : Int32) &&& 31))))
set_option maxHeartbeats 4000000 in
set_option maxRecDepth 100000 in
theorem kX2_enter (l : Launch) (D : va_G) (k : Nat → ClassId) (c0 c1 : Nat) (v : Nat → Int32) (a1 : Int32) (a2 : Int32)  (o : Nat → Int32) (ho : fX2_enter v a1 a2 = o) : Met l yX2_enter wsX2_enter { frames := 0, cells := 0, slots := 0, locals := 0 } (wr_P D vwCl (tyL k) (wC k c0 c1 v) (fun _ => True) [.ref c0, .int a1, .int a2]) (wr_Q D vwCl none (wC k c0 c1 v) (wC k c0 c1 o)) 0 0 (in_W (wC k c0 c1 v)) := by
  refine Met.ofW (cc := cX2_enter) (maxL := 3) (ret := none) (by decide) rfl ?_
  intro p e s m args below meth c s₁ B hml hv0
  obtain ⟨rfl, hP, hK, hX, hD0⟩ := hv0
  have hx := B.exec
  have hb := B.bytes
  have hr := B.returns
  have hts := atoms_spec (ws := wsX2_enter) B.pre
  have hown : s.vm.findClass RX2 = some m.cls := findClass_of_methodNamed B.named
  have hlocks := B.notSynchronized
  have hD : va_D (in_W (wC k c0 c1 v)) (wC k c0 c1 v) := wD_self hD0
  have hS : va_S (in_W (wC k c0 c1 v)) s.heap s.heap [] := va_S.rf
  have hl := lv_entry ([.ref c0, .int a1, .int a2]) (n := 3) (Nat.le_of_ble_eq_true rfl)
  rw [lg_entry_eq]
  generalize (lg_sl ([.ref c0, .int a1, .int a2]) ++ List.replicate (3 - (lg_sl ([.ref c0, .int a1, .int a2])).length) Slot.unset).toArray = ls at hl ⊢
  have hl : lv_has ls 3 [(0, .ref c0), (1, .int a1), (2, .int a2)] := hl
  refine lv_aload_n hx hb dX2_enter_0 rfl (lv_at hl 0 rfl) ?_
  refine va_get (D := D) (ci := 1) (v := .ref c1) (C := RX2) (T := TX2) (N := 1) hx hb hts (by decide +kernel) hown hK hP 0 rfl rfl 0 (by decide) (hts (.fieldLink RX2 11 "TrapMachine$Controls" "values" "[I") (by decide +kernel)) (fun _ h9 => h9) rfl dX2_enter_1 ?_
  refine lv_iconst (v := (1 : Int32)) hx hb dX2_enter_4 (by decide) ?_
  refine lv_aload_n hx hb dX2_enter_5 rfl (lv_at hl 0 rfl) ?_
  refine va_get (D := D) (ci := 1) (v := .ref c1) (C := RX2) (T := TX2) (N := 1) hx hb hts (by decide +kernel) hown hK hP 0 rfl rfl 0 (by decide) (hts (.fieldLink RX2 11 "TrapMachine$Controls" "values" "[I") (by decide +kernel)) (fun _ h9 => h9) rfl dX2_enter_6 ?_
  refine lv_iconst (v := (0 : Int32)) hx hb dX2_enter_9 (by decide) ?_
  refine q_iald (j := 0) (x9 := (v 0)) hx hb hK hP 1 0 rfl rfl (vi_k (by decide)) rfl rfl dX2_enter_10 ?_
  refine lv_bipush (v := (7 : Int32)) hx hb dX2_enter_11 (by decide) ?_
  refine lv_iand hx hb dX2_enter_13 ?_
  refine q_iast (j := 1) (ws' := wC k c0 c1 (upd v 1 ((v 0) &&& (7 : Int32)))) hx hb hK hP hD hS 1 0 rfl rfl (vi_k (by decide)) rfl rfl dX2_enter_14 (fun H locs hP hD hS => ?_)
  refine lv_aload_n hx hb dX2_enter_15 rfl (lv_at hl 0 rfl) ?_
  refine va_get (D := D) (ci := 1) (v := .ref c1) (C := RX2) (T := TX2) (N := 1) hx hb hts (by decide +kernel) hown hK hP 0 rfl rfl 0 (by decide) (hts (.fieldLink RX2 11 "TrapMachine$Controls" "values" "[I") (by decide +kernel)) (fun _ h9 => h9) rfl dX2_enter_16 ?_
  refine lv_iconst (v := (0 : Int32)) hx hb dX2_enter_19 (by decide) ?_
  refine lv_dup2_11 hx hb dX2_enter_20 rfl rfl ?_
  refine q_iald (j := 0) (x9 := (v 0)) hx hb hK hP 1 0 rfl rfl (vi_k (by decide)) rfl rfl dX2_enter_21 ?_
  refine lv_bipush (v := (-8 : Int32)) hx hb dX2_enter_22 (by decide) ?_
  refine lv_iand hx hb dX2_enter_24 ?_
  refine q_iast (j := 0) (ws' := wC k c0 c1 (upd (upd v 1 ((v 0) &&& (7 : Int32))) 0 ((v 0) &&& (-8 : Int32)))) hx hb hK hP hD hS 1 0 rfl rfl (vi_k (by decide)) rfl rfl dX2_enter_25 (fun H locs hP hD hS => ?_)
  refine lv_aload_n hx hb dX2_enter_26 rfl (lv_at hl 0 rfl) ?_
  refine va_get (D := D) (ci := 1) (v := .ref c1) (C := RX2) (T := TX2) (N := 1) hx hb hts (by decide +kernel) hown hK hP 0 rfl rfl 0 (by decide) (hts (.fieldLink RX2 11 "TrapMachine$Controls" "values" "[I") (by decide +kernel)) (fun _ h9 => h9) rfl dX2_enter_27 ?_
  refine lv_iconst (v := (4 : Int32)) hx hb dX2_enter_30 (by decide) ?_
  refine lv_iload_n hx hb dX2_enter_31 rfl (lv_at hl 2 rfl) ?_
  refine q_iast (j := 4) (ws' := wC k c0 c1 (upd (upd (upd v 1 ((v 0) &&& (7 : Int32))) 0 ((v 0) &&& (-8 : Int32))) 4 a2)) hx hb hK hP hD hS 1 0 rfl rfl (vi_k (by decide)) rfl rfl dX2_enter_32 (fun H locs hP hD hS => ?_)
  refine lv_aload_n hx hb dX2_enter_33 rfl (lv_at hl 0 rfl) ?_
  refine va_get (D := D) (ci := 1) (v := .ref c1) (C := RX2) (T := TX2) (N := 1) hx hb hts (by decide +kernel) hown hK hP 0 rfl rfl 0 (by decide) (hts (.fieldLink RX2 11 "TrapMachine$Controls" "values" "[I") (by decide +kernel)) (fun _ h9 => h9) rfl dX2_enter_34 ?_
  refine lv_iconst (v := (3 : Int32)) hx hb dX2_enter_37 (by decide) ?_
  refine lv_aload_n hx hb dX2_enter_38 rfl (lv_at hl 0 rfl) ?_
  refine va_get (D := D) (ci := 1) (v := .ref c1) (C := RX2) (T := TX2) (N := 1) hx hb hts (by decide +kernel) hown hK hP 0 rfl rfl 0 (by decide) (hts (.fieldLink RX2 11 "TrapMachine$Controls" "values" "[I") (by decide +kernel)) (fun _ h9 => h9) rfl dX2_enter_39 ?_
  refine lv_iconst (v := (3 : Int32)) hx hb dX2_enter_42 (by decide) ?_
  refine q_iald (j := 3) (x9 := (v 3)) hx hb hK hP 1 0 rfl rfl (vi_k (by decide)) rfl rfl dX2_enter_43 ?_
  refine lv_bipush (v := (31 : Int32)) hx hb dX2_enter_44 (by decide) ?_
  refine lv_iand hx hb dX2_enter_46 ?_
  refine lv_iload_n hx hb dX2_enter_47 rfl (lv_at hl 1 rfl) ?_
  refine lv_bipush (v := (16 : Int32)) hx hb dX2_enter_48 (by decide) ?_
  refine lv_ishl hx hb dX2_enter_50 ?_
  refine lv_ior hx hb dX2_enter_51 ?_
  refine q_iast (j := 3) (ws' := wC k c0 c1 (upd (upd (upd (upd v 1 ((v 0) &&& (7 : Int32))) 0 ((v 0) &&& (-8 : Int32))) 4 a2) 3 (((v 3) &&& (31 : Int32)) ||| (a1 <<< ((16 : Int32) &&& 31))))) hx hb hK hP hD hS 1 0 rfl rfl (vi_k (by decide)) rfl rfl dX2_enter_52 (fun H locs hP hD hS => ?_)
  exact W.vret hx hb hr (wr_end rfl (congrArg (wC k c0 c1) ((show fX2_enter v a1 a2 = (upd (upd (upd (upd v 1 ((v 0) &&& (7 : Int32))) 0 ((v 0) &&& (-8 : Int32))) 4 a2) 3 (((v 3) &&& (31 : Int32)) ||| (a1 <<< ((16 : Int32) &&& 31)))) from rfl).symm.trans ho)) hP hS) hS.2.2 dX2_enter_53
def fX2_leave (v : Nat → Int32)  : Nat → Int32 :=
  if (fX2_code (upd v 0 (((v 0) &&& (8 : Int32)) ||| (v 1)))) = (63 : Int32) then
    (upd (upd v 0 (((v 0) &&& (8 : Int32)) ||| (v 1))) 0 ((((v 0) &&& (8 : Int32)) ||| (v 1)) &&& (-9 : Int32)))
  else
    (upd v 0 (((v 0) &&& (8 : Int32)) ||| (v 1)))
set_option maxHeartbeats 4000000 in
set_option maxRecDepth 100000 in
theorem kX2_leave (l : Launch) (D : va_G) (k : Nat → ClassId) (c0 c1 : Nat) (v : Nat → Int32)   (o : Nat → Int32) (ho : fX2_leave v = o) : Met l yX2_leave wsX2_leave { frames := 1, cells := 0, slots := 0, locals := 20 } (wr_P D vwCl (tyL k) (wC k c0 c1 v) (fun _ => True) [.ref c0]) (wr_Q D vwCl none (wC k c0 c1 v) (wC k c0 c1 o)) 0 0 (in_W (wC k c0 c1 v)) := by
  refine Met.ofW (cc := cX2_leave) (maxL := 1) (ret := none) (by decide) rfl ?_
  intro p e s m args below meth c s₁ B hml hv0
  obtain ⟨rfl, hP, hK, hX, hD0⟩ := hv0
  have hx := B.exec
  have hb := B.bytes
  have hr := B.returns
  have hts := atoms_spec (ws := wsX2_leave) B.pre
  have hown : s.vm.findClass RX2 = some m.cls := findClass_of_methodNamed B.named
  have hlocks := B.notSynchronized
  have hD : va_D (in_W (wC k c0 c1 v)) (wC k c0 c1 v) := wD_self hD0
  have hS : va_S (in_W (wC k c0 c1 v)) s.heap s.heap [] := va_S.rf
  have hl := lv_entry ([.ref c0]) (n := 1) (Nat.le_of_ble_eq_true rfl)
  rw [lg_entry_eq]
  generalize (lg_sl ([.ref c0]) ++ List.replicate (1 - (lg_sl ([.ref c0])).length) Slot.unset).toArray = ls at hl ⊢
  have hl : lv_has ls 1 [(0, .ref c0)] := hl
  refine lv_aload_n hx hb dX2_leave_0 rfl (lv_at hl 0 rfl) ?_
  refine va_get (D := D) (ci := 1) (v := .ref c1) (C := RX2) (T := TX2) (N := 1) hx hb hts (by decide +kernel) hown hK hP 0 rfl rfl 0 (by decide) (hts (.fieldLink RX2 11 "TrapMachine$Controls" "values" "[I") (by decide +kernel)) (fun _ h9 => h9) rfl dX2_leave_1 ?_
  refine lv_iconst (v := (0 : Int32)) hx hb dX2_leave_4 (by decide) ?_
  refine lv_aload_n hx hb dX2_leave_5 rfl (lv_at hl 0 rfl) ?_
  refine va_get (D := D) (ci := 1) (v := .ref c1) (C := RX2) (T := TX2) (N := 1) hx hb hts (by decide +kernel) hown hK hP 0 rfl rfl 0 (by decide) (hts (.fieldLink RX2 11 "TrapMachine$Controls" "values" "[I") (by decide +kernel)) (fun _ h9 => h9) rfl dX2_leave_6 ?_
  refine lv_iconst (v := (0 : Int32)) hx hb dX2_leave_9 (by decide) ?_
  refine q_iald (j := 0) (x9 := (v 0)) hx hb hK hP 1 0 rfl rfl (vi_k (by decide)) rfl rfl dX2_leave_10 ?_
  refine lv_bipush (v := (8 : Int32)) hx hb dX2_leave_11 (by decide) ?_
  refine lv_iand hx hb dX2_leave_13 ?_
  refine lv_aload_n hx hb dX2_leave_14 rfl (lv_at hl 0 rfl) ?_
  refine va_get (D := D) (ci := 1) (v := .ref c1) (C := RX2) (T := TX2) (N := 1) hx hb hts (by decide +kernel) hown hK hP 0 rfl rfl 0 (by decide) (hts (.fieldLink RX2 11 "TrapMachine$Controls" "values" "[I") (by decide +kernel)) (fun _ h9 => h9) rfl dX2_leave_15 ?_
  refine lv_iconst (v := (1 : Int32)) hx hb dX2_leave_18 (by decide) ?_
  refine q_iald (j := 1) (x9 := (v 1)) hx hb hK hP 1 0 rfl rfl (vi_k (by decide)) rfl rfl dX2_leave_19 ?_
  refine lv_ior hx hb dX2_leave_20 ?_
  refine q_iast (j := 0) (ws' := wC k c0 c1 (upd v 0 (((v 0) &&& (8 : Int32)) ||| (v 1)))) hx hb hK hP hD hS 1 0 rfl rfl (vi_k (by decide)) rfl rfl dX2_leave_21 (fun H locs hP hD hS => ?_)
  refine lv_aload_n hx hb dX2_leave_22 rfl (lv_at hl 0 rfl) ?_
  refine rd_call (r := (fX2_code (upd v 0 (((v 0) &&& (8 : Int32)) ||| (v 1))))) (W.runV (C := RX2) (b := c0) (As := []) (rest := []) ⟨hx, hb, hml, hown, hts⟩ (kX2_code l D k c0 c1 (upd v 0 (((v 0) &&& (8 : Int32)) ||| (v 1)))) (cwV 0 hts gX2_leave_X2_code rfl rfl rfl (by decide +kernel) ⟨Nat.le_of_ble_eq_true rfl, Nat.le_of_ble_eq_true rfl⟩) (rd_preV bl_T pr_T hK hP (va_recv hK hP (ci := 1) (q0 := 0) rfl rfl)) rfl rfl hl.1 rfl (lv_room (Nat.le_of_ble_eq_true rfl)) dX2_leave_23 ⟨Nat.zero_le _, Nat.zero_le _⟩) ?_
  refine lv_bipush (v := (63 : Int32)) hx hb dX2_leave_26 (by decide) ?_
  refine lv_icmp_ne (tgt := 42) hx hb dX2_leave_28 (by decide) (fun c_28 => ?_) (fun c_28 => ?_)
  · exact W.vret hx hb hr (wr_end rfl (congrArg (wC k c0 c1) ((show fX2_leave v = (upd v 0 (((v 0) &&& (8 : Int32)) ||| (v 1))) from (if_neg c_28).trans rfl).symm.trans ho)) hP hS) hS.2.2 dX2_leave_42
  · refine lv_aload_n hx hb dX2_leave_31 rfl (lv_at hl 0 rfl) ?_
    refine va_get (D := D) (ci := 1) (v := .ref c1) (C := RX2) (T := TX2) (N := 1) hx hb hts (by decide +kernel) hown hK hP 0 rfl rfl 0 (by decide) (hts (.fieldLink RX2 11 "TrapMachine$Controls" "values" "[I") (by decide +kernel)) (fun _ h9 => h9) rfl dX2_leave_32 ?_
    refine lv_iconst (v := (0 : Int32)) hx hb dX2_leave_35 (by decide) ?_
    refine lv_dup2_11 hx hb dX2_leave_36 rfl rfl ?_
    refine q_iald (j := 0) (x9 := (((v 0) &&& (8 : Int32)) ||| (v 1))) hx hb hK hP 1 0 rfl rfl (vi_k (by decide)) rfl rfl dX2_leave_37 ?_
    refine lv_bipush (v := (-9 : Int32)) hx hb dX2_leave_38 (by decide) ?_
    refine lv_iand hx hb dX2_leave_40 ?_
    refine q_iast (j := 0) (ws' := wC k c0 c1 (upd (upd v 0 (((v 0) &&& (8 : Int32)) ||| (v 1))) 0 ((((v 0) &&& (8 : Int32)) ||| (v 1)) &&& (-9 : Int32)))) hx hb hK hP hD hS 1 0 rfl rfl (vi_k (by decide)) rfl rfl dX2_leave_41 (fun H locs hP hD hS => ?_)
    exact W.vret hx hb hr (wr_end rfl (congrArg (wC k c0 c1) ((show fX2_leave v = (upd (upd v 0 (((v 0) &&& (8 : Int32)) ||| (v 1))) 0 ((((v 0) &&& (8 : Int32)) ||| (v 1)) &&& (-9 : Int32))) from (if_pos c_28).trans rfl).symm.trans ho)) hP hS) hS.2.2 dX2_leave_42
def fX2_tick (v : Nat → Int32)  : Nat → Int32 :=
  if ((v 14) &&& (1 : Int32)) = (0 : Int32) then
    v
  else
    if (v 15) = (0 : Int32) then
      v
    else
      if ((v 15) - (1 : Int32)) = (0 : Int32) then
        if ((v 14) &&& (2 : Int32)) = (0 : Int32) then
          (upd (upd v 15 ((v 15) - (1 : Int32))) 3 ((v 3) ||| (16 : Int32)))
        else
          (upd (upd (upd v 15 ((v 15) - (1 : Int32))) 3 ((v 3) ||| (16 : Int32))) 15 ((v 14) &&& (65532 : Int32)))
      else
        (upd v 15 ((v 15) - (1 : Int32)))
set_option maxHeartbeats 4000000 in
set_option maxRecDepth 100000 in
theorem kX2_tick (l : Launch) (D : va_G) (k : Nat → ClassId) (c0 c1 : Nat) (v : Nat → Int32)   (o : Nat → Int32) (ho : fX2_tick v = o) : Met l yX2_tick wsX2_tick { frames := 0, cells := 0, slots := 0, locals := 0 } (wr_P D vwCl (tyL k) (wC k c0 c1 v) (fun _ => True) [.ref c0]) (wr_Q D vwCl none (wC k c0 c1 v) (wC k c0 c1 o)) 0 0 (in_W (wC k c0 c1 v)) := by
  refine Met.ofW (cc := cX2_tick) (maxL := 2) (ret := none) (by decide) rfl ?_
  intro p e s m args below meth c s₁ B hml hv0
  obtain ⟨rfl, hP, hK, hX, hD0⟩ := hv0
  have hx := B.exec
  have hb := B.bytes
  have hr := B.returns
  have hts := atoms_spec (ws := wsX2_tick) B.pre
  have hown : s.vm.findClass RX2 = some m.cls := findClass_of_methodNamed B.named
  have hlocks := B.notSynchronized
  have hD : va_D (in_W (wC k c0 c1 v)) (wC k c0 c1 v) := wD_self hD0
  have hS : va_S (in_W (wC k c0 c1 v)) s.heap s.heap [] := va_S.rf
  have hl := lv_entry ([.ref c0]) (n := 2) (Nat.le_of_ble_eq_true rfl)
  rw [lg_entry_eq]
  generalize (lg_sl ([.ref c0]) ++ List.replicate (2 - (lg_sl ([.ref c0])).length) Slot.unset).toArray = ls at hl ⊢
  have hl : lv_has ls 2 [(0, .ref c0)] := hl
  refine lv_aload_n hx hb dX2_tick_0 rfl (lv_at hl 0 rfl) ?_
  refine va_get (D := D) (ci := 1) (v := .ref c1) (C := RX2) (T := TX2) (N := 1) hx hb hts (by decide +kernel) hown hK hP 0 rfl rfl 0 (by decide) (hts (.fieldLink RX2 11 "TrapMachine$Controls" "values" "[I") (by decide +kernel)) (fun _ h9 => h9) rfl dX2_tick_1 ?_
  refine lv_bipush (v := (14 : Int32)) hx hb dX2_tick_4 (by decide) ?_
  refine q_iald (j := 14) (x9 := (v 14)) hx hb hK hP 1 0 rfl rfl (vi_k (by decide)) rfl rfl dX2_tick_6 ?_
  refine lv_istore_n (lv' := [(1, .int (v 14)), (0, .ref c0)]) hx hb dX2_tick_7 rfl hl (by decide) rfl (fun ls hl => ?_)
  refine lv_iload_n hx hb dX2_tick_8 rfl (lv_at hl 0 rfl) ?_
  refine lv_iconst (v := (1 : Int32)) hx hb dX2_tick_9 (by decide) ?_
  refine lv_iand hx hb dX2_tick_10 ?_
  refine lv_if_eq (tgt := 24) hx hb dX2_tick_11 (by decide) (fun c_11 => ?_) (fun c_11 => ?_)
  · exact W.vret hx hb hr (wr_end rfl (congrArg (wC k c0 c1) ((show fX2_tick v = v from (if_pos c_11).trans rfl).symm.trans ho)) hP hS) hS.2.2 dX2_tick_24
  · refine lv_aload_n hx hb dX2_tick_14 rfl (lv_at hl 1 rfl) ?_
    refine va_get (D := D) (ci := 1) (v := .ref c1) (C := RX2) (T := TX2) (N := 1) hx hb hts (by decide +kernel) hown hK hP 0 rfl rfl 0 (by decide) (hts (.fieldLink RX2 11 "TrapMachine$Controls" "values" "[I") (by decide +kernel)) (fun _ h9 => h9) rfl dX2_tick_15 ?_
    refine lv_bipush (v := (15 : Int32)) hx hb dX2_tick_18 (by decide) ?_
    refine q_iald (j := 15) (x9 := (v 15)) hx hb hK hP 1 0 rfl rfl (vi_k (by decide)) rfl rfl dX2_tick_20 ?_
    refine lv_if_ne (tgt := 25) hx hb dX2_tick_21 (by decide) (fun c_21 => ?_) (fun c_21 => ?_)
    · refine lv_aload_n hx hb dX2_tick_25 rfl (lv_at hl 1 rfl) ?_
      refine va_get (D := D) (ci := 1) (v := .ref c1) (C := RX2) (T := TX2) (N := 1) hx hb hts (by decide +kernel) hown hK hP 0 rfl rfl 0 (by decide) (hts (.fieldLink RX2 11 "TrapMachine$Controls" "values" "[I") (by decide +kernel)) (fun _ h9 => h9) rfl dX2_tick_26 ?_
      refine lv_bipush (v := (15 : Int32)) hx hb dX2_tick_29 (by decide) ?_
      refine lv_dup2_11 hx hb dX2_tick_31 rfl rfl ?_
      refine q_iald (j := 15) (x9 := (v 15)) hx hb hK hP 1 0 rfl rfl (vi_k (by decide)) rfl rfl dX2_tick_32 ?_
      refine lv_iconst (v := (1 : Int32)) hx hb dX2_tick_33 (by decide) ?_
      refine lv_isub hx hb dX2_tick_34 ?_
      refine q_iast (j := 15) (ws' := wC k c0 c1 (upd v 15 ((v 15) - (1 : Int32)))) hx hb hK hP hD hS 1 0 rfl rfl (vi_k (by decide)) rfl rfl dX2_tick_35 (fun H locs hP hD hS => ?_)
      refine lv_aload_n hx hb dX2_tick_36 rfl (lv_at hl 1 rfl) ?_
      refine va_get (D := D) (ci := 1) (v := .ref c1) (C := RX2) (T := TX2) (N := 1) hx hb hts (by decide +kernel) hown hK hP 0 rfl rfl 0 (by decide) (hts (.fieldLink RX2 11 "TrapMachine$Controls" "values" "[I") (by decide +kernel)) (fun _ h9 => h9) rfl dX2_tick_37 ?_
      refine lv_bipush (v := (15 : Int32)) hx hb dX2_tick_40 (by decide) ?_
      refine q_iald (j := 15) (x9 := ((v 15) - (1 : Int32))) hx hb hK hP 1 0 rfl rfl (vi_k (by decide)) rfl rfl dX2_tick_42 ?_
      refine lv_if_ne (tgt := 74) hx hb dX2_tick_43 (by decide) (fun c_43 => ?_) (fun c_43 => ?_)
      · exact W.vret hx hb hr (wr_end rfl (congrArg (wC k c0 c1) ((show fX2_tick v = (upd v 15 ((v 15) - (1 : Int32))) from (if_neg c_11).trans ((if_neg c_21).trans ((if_neg c_43).trans rfl))).symm.trans ho)) hP hS) hS.2.2 dX2_tick_74
      · refine lv_aload_n hx hb dX2_tick_46 rfl (lv_at hl 1 rfl) ?_
        refine va_get (D := D) (ci := 1) (v := .ref c1) (C := RX2) (T := TX2) (N := 1) hx hb hts (by decide +kernel) hown hK hP 0 rfl rfl 0 (by decide) (hts (.fieldLink RX2 11 "TrapMachine$Controls" "values" "[I") (by decide +kernel)) (fun _ h9 => h9) rfl dX2_tick_47 ?_
        refine lv_iconst (v := (3 : Int32)) hx hb dX2_tick_50 (by decide) ?_
        refine lv_dup2_11 hx hb dX2_tick_51 rfl rfl ?_
        refine q_iald (j := 3) (x9 := (v 3)) hx hb hK hP 1 0 rfl rfl (vi_k (by decide)) rfl rfl dX2_tick_52 ?_
        refine lv_bipush (v := (16 : Int32)) hx hb dX2_tick_53 (by decide) ?_
        refine lv_ior hx hb dX2_tick_55 ?_
        refine q_iast (j := 3) (ws' := wC k c0 c1 (upd (upd v 15 ((v 15) - (1 : Int32))) 3 ((v 3) ||| (16 : Int32)))) hx hb hK hP hD hS 1 0 rfl rfl (vi_k (by decide)) rfl rfl dX2_tick_56 (fun H locs hP hD hS => ?_)
        refine lv_iload_n hx hb dX2_tick_57 rfl (lv_at hl 0 rfl) ?_
        refine lv_iconst (v := (2 : Int32)) hx hb dX2_tick_58 (by decide) ?_
        refine lv_iand hx hb dX2_tick_59 ?_
        refine lv_if_eq (tgt := 74) hx hb dX2_tick_60 (by decide) (fun c_60 => ?_) (fun c_60 => ?_)
        · exact W.vret hx hb hr (wr_end rfl (congrArg (wC k c0 c1) ((show fX2_tick v = (upd (upd v 15 ((v 15) - (1 : Int32))) 3 ((v 3) ||| (16 : Int32))) from (if_neg c_11).trans ((if_neg c_21).trans ((if_pos c_43).trans ((if_pos c_60).trans rfl)))).symm.trans ho)) hP hS) hS.2.2 dX2_tick_74
        · refine lv_aload_n hx hb dX2_tick_63 rfl (lv_at hl 1 rfl) ?_
          refine va_get (D := D) (ci := 1) (v := .ref c1) (C := RX2) (T := TX2) (N := 1) hx hb hts (by decide +kernel) hown hK hP 0 rfl rfl 0 (by decide) (hts (.fieldLink RX2 11 "TrapMachine$Controls" "values" "[I") (by decide +kernel)) (fun _ h9 => h9) rfl dX2_tick_64 ?_
          refine lv_bipush (v := (15 : Int32)) hx hb dX2_tick_67 (by decide) ?_
          refine lv_iload_n hx hb dX2_tick_69 rfl (lv_at hl 0 rfl) ?_
          refine lv_ldc (v := (65532 : Int32)) hx hb hown (hts (.constant RX2 21 (65532)) (by decide +kernel)) dX2_tick_70 ?_
          refine lv_iand hx hb dX2_tick_72 ?_
          refine q_iast (j := 15) (ws' := wC k c0 c1 (upd (upd (upd v 15 ((v 15) - (1 : Int32))) 3 ((v 3) ||| (16 : Int32))) 15 ((v 14) &&& (65532 : Int32)))) hx hb hK hP hD hS 1 0 rfl rfl (vi_k (by decide)) rfl rfl dX2_tick_73 (fun H locs hP hD hS => ?_)
          exact W.vret hx hb hr (wr_end rfl (congrArg (wC k c0 c1) ((show fX2_tick v = (upd (upd (upd v 15 ((v 15) - (1 : Int32))) 3 ((v 3) ||| (16 : Int32))) 15 ((v 14) &&& (65532 : Int32))) from (if_neg c_11).trans ((if_neg c_21).trans ((if_pos c_43).trans ((if_neg c_60).trans rfl)))).symm.trans ho)) hP hS) hS.2.2 dX2_tick_74
    · exact W.vret hx hb hr (wr_end rfl (congrArg (wC k c0 c1) ((show fX2_tick v = v from (if_neg c_11).trans ((if_pos c_21).trans rfl)).symm.trans ho)) hP hS) hS.2.2 dX2_tick_24
