theorem out_div {a : Int32} (h : fX4_outside a (0 : Int32) (2047 : Int32) = (0 : Int32)) : vp_in (a / (4 : Int32)) 512 := by
  unfold fX4_outside at h
  split at h
  · exact absurd h (by decide)
  · rename_i h0
    split at h
    · rename_i h1
      obtain ⟨j, hj, rfl⟩ := nI_of2 (M := (2047 : Int32)) (n := 2047) (by decide) h0 h1
      rw [show (4 : Int32) = nI 4 from rfl, pk_div (by omega) (by omega) (by omega)]
      exact vp_in_nI (by omega) (by omega)
    · exact absurd h (by decide)
def FI9 (o : Int32 × MD) : Prop := o.1 = (-1 : Int32) → vp_in o.2.2.2.2.2.2.2.2.2.2.2.2.2.2.2.2.2.2.1 512
theorem FI9_no {c : Int32} {X : MD} (h : ¬ c = (-1 : Int32)) : FI9 (c, X) := fun q => absurd q h
theorem FI9_m {m : Int32 × MD} (h : ¬ m.1 = (-1 : Int32)) : FI9 (m.1, m.2) := fun q => absurd q h
theorem FI9_y {y : Int32} {X : MD} (h : fX4_outside y (0 : Int32) (2047 : Int32) = (0 : Int32)) : FI9 ((-1 : Int32), ms17 X (y / (4 : Int32))) := fun _ => out_div h
theorem FI9_w {w : MD} {c a b : Int32} (h : ¬ c = (-1 : Int32)) : FI9 ((fX4_with w c a b).1, (fX4_with w c a b).2) := fun q => absurd q h
set_option maxHeartbeats 4000000 in
theorem found_P {w : MD} {a b : Int32} : FI9 (fX4_lookUp w a b) := by
  unfold fX4_lookUp
  generalize fX4_map w a b = m
  repeat' split
  all_goals first
    | exact FI9_w (by decide)
    | exact FI9_y (by assumption)
    | exact FI9_m (by assumption)
theorem found_in {w : MD} {a b : Int32} {o : Int32 × MD} (ho : fX4_lookUp w a b = o) (h : o.1 = (-1 : Int32)) : vp_in o.2.2.2.2.2.2.2.2.2.2.2.2.2.2.2.2.2.2.1 512 := (ho ▸ found_P : FI9 o) h
