def KP9 (w : MD) (o : Int32 × MD) : Prop := o.2.2.2.2.2.2.2.2.2.2.2.2.1 = w.2.2.2.2.2.2.2.2.2.2.2.1
theorem KP_ite {w : MD} {c : Prop} {h9 : Decidable c} {x y : Int32 × MD} (hx : c → KP9 w x) (hy : ¬ c → KP9 w y) : KP9 w (@ite _ c h9 x y) := by
  by_cases h : c
  · rw [if_pos h]; exact hx h
  · rw [if_neg h]; exact hy h
theorem map_KPl (a1 a2 : Int32) : ∀ (n i : Nat) (m9 : MD) (x3 x4 : Int32), KP9 m9 (fX4_map_lp a1 a2 n i m9 x3 x4)
  | 0, i, m9, x3, x4 => by
    unfold fX4_map_lp
    exact (KP_ite (fun c0 => (KP_ite (fun c1 => rfl) (fun c1 => (KP_ite (fun c2 => (KP_ite (fun c3 => rfl) (fun c3 => rfl))) (fun c2 => (KP_ite (fun c3 => (KP_ite (fun c4 => (KP_ite (fun c5 => rfl) (fun c5 => rfl))) (fun c4 => rfl))) (fun c3 => (KP_ite (fun c4 => rfl) (fun c4 => (KP_ite (fun c5 => (KP_ite (fun c6 => rfl) (fun c6 => rfl))) (fun c5 => rfl))))))))))) (fun c0 => rfl))
  | n + 1, i, m9, x3, x4 => by
    rw [fX4_map_lp]
    exact KP_ite (fun _ => map_KPl a1 a2 n (i + 1) m9 x3 x4) (fun _ => map_KPl a1 a2 n (i + 1) m9 (nI i) (x4 + (1 : Int32)))
theorem map_KP (w : MD) (a b : Int32) : KP9 w (fX4_map w a b) := map_KPl a b 4 0 w (-1) 0
theorem lk_KP (w : MD) (a b : Int32) : KP9 w (fX4_lookUp w a b) := by
  unfold fX4_lookUp
  exact (KP_ite (fun c0 => (KP_ite (fun c1 => (KP_ite (fun c2 => (KP_ite (fun c3 => (KP_ite (fun c4 => (KP_ite (fun c5 => (KP_ite (fun c6 => (show KP9 w _ from map_KP w a b)) (fun c6 => (show KP9 w _ from map_KP w a b)))) (fun c5 => (show KP9 w _ from map_KP w a b)))) (fun c4 => (KP_ite (fun c5 => rfl) (fun c5 => rfl))))) (fun c3 => (KP_ite (fun c4 => (KP_ite (fun c5 => rfl) (fun c5 => rfl))) (fun c4 => (KP_ite (fun c5 => rfl) (fun c5 => rfl))))))) (fun c2 => (KP_ite (fun c3 => (KP_ite (fun c4 => (KP_ite (fun c5 => (KP_ite (fun c6 => (show KP9 w _ from map_KP w a b)) (fun c6 => (show KP9 w _ from map_KP w a b)))) (fun c5 => (show KP9 w _ from map_KP w a b)))) (fun c4 => (KP_ite (fun c5 => rfl) (fun c5 => rfl))))) (fun c3 => (KP_ite (fun c4 => (KP_ite (fun c5 => rfl) (fun c5 => rfl))) (fun c4 => (KP_ite (fun c5 => rfl) (fun c5 => rfl))))))))) (fun c1 => (KP_ite (fun c2 => (KP_ite (fun c3 => (KP_ite (fun c4 => (show KP9 w _ from map_KP w a b)) (fun c4 => (show KP9 w _ from map_KP w a b)))) (fun c3 => (show KP9 w _ from map_KP w a b)))) (fun c2 => (KP_ite (fun c3 => rfl) (fun c3 => rfl))))))) (fun c0 => (KP_ite (fun c1 => rfl) (fun c1 => rfl))))
theorem lk_f {w : MD} {a b : Int32} {o : Int32 × MD} (ho : fX4_lookUp w a b = o) (h : vp_in w.2.2.2.2.2.2.2.2.2.2.2.1 4) : vp_in o.2.2.2.2.2.2.2.2.2.2.2.2.1 4 := by
  have e : KP9 w o := ho ▸ lk_KP w a b
  rw [show o.2.2.2.2.2.2.2.2.2.2.2.2.1 = w.2.2.2.2.2.2.2.2.2.2.2.1 from e]; exact h
theorem out_div {a : Int32} (h : fX4_outside a (0 : Int32) (2047 : Int32) = (0 : Int32)) : vp_in (a / (4 : Int32)) 512 := by
  unfold fX4_outside at h
  split at h
  · exact absurd h (by decide)
  · rename_i h0
    split at h
    · rename_i h1
      obtain ⟨j, hj, rfl⟩ := nI_of2 (M := (2047 : Int32)) (n := 2047) (by decide) h0 h1
      rw [show (4 : Int32) = nI 4 from rfl, pk_div (by omega) (by omega) (by omega)]
      exact vp_in_nI (by omega) (by omega)
    · exact absurd h (by decide)
def FI9 (o : Int32 × MD) : Prop := o.1 = (-1 : Int32) → vp_in o.2.2.2.2.2.2.2.2.2.2.2.2.2.2.2.2.2.2.1 512
theorem FI9_no {c : Int32} {X : MD} (h : ¬ c = (-1 : Int32)) : FI9 (c, X) := fun q => absurd q h
theorem FI9_m {m : Int32 × MD} (h : ¬ m.1 = (-1 : Int32)) : FI9 (m.1, m.2) := fun q => absurd q h
theorem FI9_y {y : Int32} {X : MD} (h : fX4_outside y (0 : Int32) (2047 : Int32) = (0 : Int32)) : FI9 ((-1 : Int32), ms17 X (y / (4 : Int32))) := fun _ => out_div h
theorem FI9_w {w : MD} {c a b : Int32} (h : ¬ c = (-1 : Int32)) : FI9 ((fX4_with w c a b).1, (fX4_with w c a b).2) := fun q => absurd q h
theorem FI9_ite {c : Prop} {h9 : Decidable c} {x y : Int32 × MD} (hx : c → FI9 x) (hy : ¬ c → FI9 y) : FI9 (@ite _ c h9 x y) := by
  by_cases h : c
  · rw [if_pos h]; exact hx h
  · rw [if_neg h]; exact hy h
theorem found_P {w : MD} {a b : Int32} : FI9 (fX4_lookUp w a b) := by
  unfold fX4_lookUp
  exact (FI9_ite (fun c0 => (FI9_ite (fun c1 => (FI9_ite (fun c2 => (FI9_ite (fun c3 => (FI9_ite (fun c4 => (FI9_ite (fun c5 => (FI9_ite (fun c6 => (FI9_y c6)) (fun c6 => (FI9_w (by decide))))) (fun c5 => (FI9_m c5)))) (fun c4 => (FI9_ite (fun c5 => (FI9_y c5)) (fun c5 => (FI9_w (by decide))))))) (fun c3 => (FI9_ite (fun c4 => (FI9_ite (fun c5 => (FI9_y c5)) (fun c5 => (FI9_w (by decide))))) (fun c4 => (FI9_ite (fun c5 => (FI9_y c5)) (fun c5 => (FI9_w (by decide))))))))) (fun c2 => (FI9_ite (fun c3 => (FI9_ite (fun c4 => (FI9_ite (fun c5 => (FI9_ite (fun c6 => (FI9_y c6)) (fun c6 => (FI9_w (by decide))))) (fun c5 => (FI9_m c5)))) (fun c4 => (FI9_ite (fun c5 => (FI9_y c5)) (fun c5 => (FI9_w (by decide))))))) (fun c3 => (FI9_ite (fun c4 => (FI9_ite (fun c5 => (FI9_y c5)) (fun c5 => (FI9_w (by decide))))) (fun c4 => (FI9_ite (fun c5 => (FI9_y c5)) (fun c5 => (FI9_w (by decide))))))))))) (fun c1 => (FI9_ite (fun c2 => (FI9_ite (fun c3 => (FI9_ite (fun c4 => (FI9_y c4)) (fun c4 => (FI9_w (by decide))))) (fun c3 => (FI9_m c3)))) (fun c2 => (FI9_ite (fun c3 => (FI9_y c3)) (fun c3 => (FI9_w (by decide))))))))) (fun c0 => (FI9_ite (fun c1 => (FI9_w (by decide))) (fun c1 => (FI9_w (by decide))))))
theorem found_in {w : MD} {a b : Int32} {o : Int32 × MD} (ho : fX4_lookUp w a b = o) (h : o.1 = (-1 : Int32)) : vp_in o.2.2.2.2.2.2.2.2.2.2.2.2.2.2.2.2.2.2.1 512 := (ho ▸ found_P : FI9 o) h
