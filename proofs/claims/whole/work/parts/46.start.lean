/-! ### what the Statement gives at the law's start -/
abbrev AL (s : State) : Nat → Prop := fun q => s.heap.size ≤ q
abbrev gvC : Cond := Jvm.Cond.and given_1 narrow_1
theorem cnt_in : ∀ j, j < 18 → Cond.eq (.elem (.static RX2 "COUNTING" "[I") (.int (Int32.ofNat j))) (.int (cnt j)) ∈ flatC gvC := by decide +kernel
theorem lvb_in : ∀ j, j < 18 → Cond.eq (.elem (.static RX2 "LEVEL_BITS" "[I") (.int (Int32.ofNat j))) (.int (lvb j)) ∈ flatC gvC := by decide +kernel
theorem nl_in : ∀ q ∈ nlL, Cond.methodLinkNest RX3 q.1 q.2 "TrapMachine" ∈ lw_tbl := by decide +kernel
theorem dc_in : ∀ y ∈ dcL, Cond.declares y ∈ lw_tbl := by decide +kernel
theorem sr_in : ∀ q ∈ stL, Cond.stringRef RX3 q.1 q.2 ∈ lw_tbl := by decide +kernel
theorem se_in : ∀ q ∈ stL, Cond.exactly (.string RX3 q.1) "java/lang/String" ∈ flatC gvC := by decide +kernel
section Start
variable {s : State} {args : Array Value}
theorem AL_no : ∀ a : Nat, a < s.heap.size → ¬ AL s a := fun _ h z => Nat.not_le.mpr h z
theorem st_of (hs : ∀ c ∈ flatC gvC, c.before args s = true) (hts : ∀ w ∈ lw_tbl, w.before args s = true) : ∃ tC tL, ST tC tL (AL s) s s.heap := by
  have hi : (Cond.initialized RX2).before args s = true := hts _ (by decide +kernel)
  obtain ⟨tC, e1, T1⟩ := va_Tof (tm := .static RX2 "COUNTING" "[I") (ty := .int) (N := 18) (f := fun j => .int (cnt j)) (A := AL s) (by decide) (hs (.arrayOf (.static RX2 "COUNTING" "[I") .int) (by decide +kernel)) (va_eqt (hs (.eq (.length (.static RX2 "COUNTING" "[I")) (.int 18)) (by decide +kernel))) (fun j hj => va_eqt (hs _ (cnt_in j hj))) AL_no
  obtain ⟨tL, e2, T2⟩ := va_Tof (tm := .static RX2 "LEVEL_BITS" "[I") (ty := .int) (N := 18) (f := fun j => .int (lvb j)) (A := AL s) (by decide) (hs (.arrayOf (.static RX2 "LEVEL_BITS" "[I") .int) (by decide +kernel)) (va_eqt (hs (.eq (.length (.static RX2 "LEVEL_BITS" "[I")) (.int 18)) (by decide +kernel))) (fun j hj => va_eqt (hs _ (lvb_in j hj))) AL_no
  exact ⟨tC, tL, ⟨va_Zof (hts (.laysStatic RX2 "COUNTING" "[I") (by decide +kernel)) hi e1 AL_no, T1⟩, ⟨va_Zof (hts (.laysStatic RX2 "LEVEL_BITS" "[I") (by decide +kernel)) hi e2 AL_no, T2⟩⟩
theorem nl_of (hts : ∀ w ∈ lw_tbl, w.before args s = true) : NL s := fun q hq => va_Nw.of rfl (hts _ (nl_in q hq))
theorem xp_of (hs : ∀ c ∈ flatC gvC, c.before args s = true) (hts : ∀ w ∈ lw_tbl, w.before args s = true) : XP (AL s) s s.heap := by
  have hi : (Cond.initialized Bundle.tN).before args s = true := hts _ (by decide +kernel)
  refine ⟨vx_Zqof (hts (.laysStatic Bundle.tN "UNASSIGNED_STACK" Bundle.steD) (by decide +kernel)) hi (hs (.isRef (.static Bundle.tN "UNASSIGNED_STACK" Bundle.steD)) (by decide +kernel)) AL_no, vx_Zqof (hts (.laysStatic Bundle.tN "SUPPRESSED_SENTINEL" Bundle.listD) (by decide +kernel)) hi (hs (.isRef (.static Bundle.tN "SUPPRESSED_SENTINEL" Bundle.listD)) (by decide +kernel)) AL_no, va_Nw.of rfl (hts (.castable IAE IAE) (by decide +kernel)), fun q hq => ?_, fun y hy => va_Nw.of rfl (hts _ (dc_in y hy))⟩
  obtain ⟨a, c, cell, k, h1, -⟩ := Cond.exactly_spec (hs _ (se_in q hq))
  exact ⟨a, vk_R.of (hts _ (sr_in q hq)) h1⟩
theorem aoa_of (hts : ∀ w ∈ lw_tbl, w.before args s = true) : va_AOA .int s := aoa_in (hts (.arrayOver (.array .int)) (by decide +kernel))
theorem ty_of {ty : FieldType} (h : (Cond.arrayClass ty).before args s = true) (f : ∀ c, va_RA s c ty = (s.vm.findClass ("[" ++ ty.toString) = some c)) : ∃ cA, ArrOfT s cA ty ∧ va_RA s cA ty := by
  obtain ⟨c, k, comp, h1, h2, h3⟩ := Cond.arrayClass_spec h
  exact ⟨c, fun n z => ⟨fun k h => (by cases h), k, h2, comp, h3⟩, by rw [f]; exact h1⟩
theorem ty_of2 (h : va_AOA .int s) : ∃ cA, ArrOfT s cA (.array .int) ∧ va_RA s cA (.array .int) := by
  obtain ⟨comp, c, k, h2, h3, h1⟩ := aoa_spec h
  exact ⟨c, fun n z => ⟨fun k h => (by cases h), k, h2, comp, h3⟩, h1⟩
theorem tys_of (hts : ∀ w ∈ lw_tbl, w.before args s = true) : ∃ k : Nat → ClassId, ∀ (i : Nat) (q : ClassId × FieldType), (tyL k)[i]? = some q → ArrOfT s q.1 q.2 ∧ va_RA s q.1 q.2 := by
  obtain ⟨c0, h0⟩ := ty_of (ty := .int) (hts (.arrayClass .int) (by decide +kernel)) (fun _ => rfl)
  obtain ⟨c1, h1⟩ := ty_of2 (aoa_of hts)
  obtain ⟨c2, h2⟩ := ty_of (ty := .boolean) (hts (.arrayClass .boolean) (by decide +kernel)) (fun _ => rfl)
  obtain ⟨c3, h3⟩ := ty_of (ty := .long) (hts (.arrayClass .long) (by decide +kernel)) (fun _ => rfl)
  refine ⟨fun i => if i = 0 then c0 else if i = 1 then c1 else if i = 2 then c2 else c3, fun i q hq => ?_⟩
  match i, hq with
  | 0, hq => cases hq; exact h0
  | 1, hq => cases hq; exact h1
  | 2, hq => cases hq; exact h2
  | 3, hq => cases hq; exact h3
  | i + 4, hq => cases hq
theorem known_of (hts : ∀ w ∈ lw_tbl, w.before args s = true) : ∃ D : va_G, ∀ (i : Nat) (q : vw_C), vwCl[i]? = some q → u_Kn s q.1 q.2.1 q.2.2 (D.1 i) (D.2 i) := by
  obtain ⟨d0, i0, n0⟩ := u_known (C := RX0) (T := TX0) (N := 1) (n := 1) hts wsL_in_X00 (hts (.instantiable RX0 1) (by decide +kernel))
  obtain ⟨d1, i1, n1⟩ := u_known (C := RX2) (T := TX2) (N := 1) (n := 1) hts wsL_in_X20 (hts (.instantiable RX2 1) (by decide +kernel))
  obtain ⟨d2, i2, n2⟩ := u_known (C := RX3) (T := TX3) (N := 9) (n := 9) hts wsL_in_X30 (hts (.instantiable RX3 9) (by decide +kernel))
  obtain ⟨d3, i3, n3⟩ := u_known (C := RX4) (T := TX4) (N := 20) (n := 20) hts wsL_in_X40 (hts (.instantiable RX4 20) (by decide +kernel))
  refine ⟨(fun i => if i = 0 then d0 else if i = 1 then d1 else if i = 2 then d2 else d3, fun i => if i = 0 then i0 else if i = 1 then i1 else if i = 2 then i2 else i3), fun i q hq => ?_⟩
  match i, hq with
  | 0, hq => cases hq; exact n0
  | 1, hq => cases hq; exact n1
  | 2, hq => cases hq; exact n2
  | 3, hq => cases hq; exact n3
  | i + 4, hq => simp [vwCl] at hq
end Start
