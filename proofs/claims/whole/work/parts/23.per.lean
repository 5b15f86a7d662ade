def perB (u : TM) (x op : Int32) : TM :=
    if op < (1 : Int32) then
      if op = (8 : Int32) then
        (fX3_loadWord u op x)
      else
        if op = (10 : Int32) then
          (fX3_loadWord u op x)
        else
          if op = (9 : Int32) then
            (fX3_storeWord u op x)
          else
            if op = (11 : Int32) then
              (fX3_storeWord u op x)
            else
              if op < (12 : Int32) then
                if op = (16 : Int32) then
                  (fX3_raise u (11 : Int32))
                else
                  if op = (17 : Int32) then
                    (fX3_raise u (12 : Int32))
                  else
                    if op < (18 : Int32) then
                      (fX3_raise u (13 : Int32))
                    else
                      if (27 : Int32) < op then
                        (fX3_raise u (13 : Int32))
                      else
                        (fX3_performPrivileged u op x)
              else
                if (15 : Int32) < op then
                  if op = (16 : Int32) then
                    (fX3_raise u (11 : Int32))
                  else
                    if op = (17 : Int32) then
                      (fX3_raise u (12 : Int32))
                    else
                      if op < (18 : Int32) then
                        (fX3_raise u (13 : Int32))
                      else
                        if (27 : Int32) < op then
                          (fX3_raise u (13 : Int32))
                        else
                          (fX3_performPrivileged u op x)
                else
                  (fX3_branch u op x)
    else
      if (7 : Int32) < op then
        if op = (8 : Int32) then
          (fX3_loadWord u op x)
        else
          if op = (10 : Int32) then
            (fX3_loadWord u op x)
          else
            if op = (9 : Int32) then
              (fX3_storeWord u op x)
            else
              if op = (11 : Int32) then
                (fX3_storeWord u op x)
              else
                if op < (12 : Int32) then
                  if op = (16 : Int32) then
                    (fX3_raise u (11 : Int32))
                  else
                    if op = (17 : Int32) then
                      (fX3_raise u (12 : Int32))
                    else
                      if op < (18 : Int32) then
                        (fX3_raise u (13 : Int32))
                      else
                        if (27 : Int32) < op then
                          (fX3_raise u (13 : Int32))
                        else
                          (fX3_performPrivileged u op x)
                else
                  if (15 : Int32) < op then
                    if op = (16 : Int32) then
                      (fX3_raise u (11 : Int32))
                    else
                      if op = (17 : Int32) then
                        (fX3_raise u (12 : Int32))
                      else
                        if op < (18 : Int32) then
                          (fX3_raise u (13 : Int32))
                        else
                          if (27 : Int32) < op then
                            (fX3_raise u (13 : Int32))
                          else
                            (fX3_performPrivileged u op x)
                  else
                    (fX3_branch u op x)
      else
        (fX3_calculate u op x)
theorem perB_eq {u : TM} : fX3_perform u = if (0 : Int32) ≤ fX3_find u u.2.2.2.2.1 (0 : Int32) then perB u (u.1 (ix (fX3_find u u.2.2.2.2.1 (0 : Int32)))) (iu (u.1 (ix (fX3_find u u.2.2.2.2.1 (0 : Int32)))) (24 : Int32)) else fX3_fail u (fX3_find u u.2.2.2.2.1 (0 : Int32)) u.2.2.2.2.1 := rfl
theorem perB_0 {u : TM} (x : Int32) : perB u x (0 : Int32) = (fX3_raise u (13 : Int32)) := (if_pos (by decide)).trans ((if_neg (by decide)).trans ((if_neg (by decide)).trans ((if_neg (by decide)).trans ((if_neg (by decide)).trans ((if_pos (by decide)).trans ((if_neg (by decide)).trans ((if_neg (by decide)).trans (if_pos (by decide)))))))))
theorem perB_1 {u : TM} (x : Int32) : perB u x (1 : Int32) = (fX3_calculate u (1 : Int32) x) := (if_neg (by decide)).trans (if_neg (by decide))
theorem perB_2 {u : TM} (x : Int32) : perB u x (2 : Int32) = (fX3_calculate u (2 : Int32) x) := (if_neg (by decide)).trans (if_neg (by decide))
theorem perB_3 {u : TM} (x : Int32) : perB u x (3 : Int32) = (fX3_calculate u (3 : Int32) x) := (if_neg (by decide)).trans (if_neg (by decide))
theorem perB_4 {u : TM} (x : Int32) : perB u x (4 : Int32) = (fX3_calculate u (4 : Int32) x) := (if_neg (by decide)).trans (if_neg (by decide))
theorem perB_5 {u : TM} (x : Int32) : perB u x (5 : Int32) = (fX3_calculate u (5 : Int32) x) := (if_neg (by decide)).trans (if_neg (by decide))
theorem perB_6 {u : TM} (x : Int32) : perB u x (6 : Int32) = (fX3_calculate u (6 : Int32) x) := (if_neg (by decide)).trans (if_neg (by decide))
theorem perB_7 {u : TM} (x : Int32) : perB u x (7 : Int32) = (fX3_calculate u (7 : Int32) x) := (if_neg (by decide)).trans (if_neg (by decide))
theorem perB_8 {u : TM} (x : Int32) : perB u x (8 : Int32) = (fX3_loadWord u (8 : Int32) x) := (if_neg (by decide)).trans ((if_pos (by decide)).trans (if_pos (by decide)))
theorem perB_9 {u : TM} (x : Int32) : perB u x (9 : Int32) = (fX3_storeWord u (9 : Int32) x) := (if_neg (by decide)).trans ((if_pos (by decide)).trans ((if_neg (by decide)).trans ((if_neg (by decide)).trans (if_pos (by decide)))))
theorem perB_10 {u : TM} (x : Int32) : perB u x (10 : Int32) = (fX3_loadWord u (10 : Int32) x) := (if_neg (by decide)).trans ((if_pos (by decide)).trans ((if_neg (by decide)).trans (if_pos (by decide))))
theorem perB_11 {u : TM} (x : Int32) : perB u x (11 : Int32) = (fX3_storeWord u (11 : Int32) x) := (if_neg (by decide)).trans ((if_pos (by decide)).trans ((if_neg (by decide)).trans ((if_neg (by decide)).trans ((if_neg (by decide)).trans (if_pos (by decide))))))
theorem perB_12 {u : TM} (x : Int32) : perB u x (12 : Int32) = (fX3_branch u (12 : Int32) x) := (if_neg (by decide)).trans ((if_pos (by decide)).trans ((if_neg (by decide)).trans ((if_neg (by decide)).trans ((if_neg (by decide)).trans ((if_neg (by decide)).trans ((if_neg (by decide)).trans (if_neg (by decide))))))))
theorem perB_13 {u : TM} (x : Int32) : perB u x (13 : Int32) = (fX3_branch u (13 : Int32) x) := (if_neg (by decide)).trans ((if_pos (by decide)).trans ((if_neg (by decide)).trans ((if_neg (by decide)).trans ((if_neg (by decide)).trans ((if_neg (by decide)).trans ((if_neg (by decide)).trans (if_neg (by decide))))))))
theorem perB_14 {u : TM} (x : Int32) : perB u x (14 : Int32) = (fX3_branch u (14 : Int32) x) := (if_neg (by decide)).trans ((if_pos (by decide)).trans ((if_neg (by decide)).trans ((if_neg (by decide)).trans ((if_neg (by decide)).trans ((if_neg (by decide)).trans ((if_neg (by decide)).trans (if_neg (by decide))))))))
theorem perB_15 {u : TM} (x : Int32) : perB u x (15 : Int32) = (fX3_branch u (15 : Int32) x) := (if_neg (by decide)).trans ((if_pos (by decide)).trans ((if_neg (by decide)).trans ((if_neg (by decide)).trans ((if_neg (by decide)).trans ((if_neg (by decide)).trans ((if_neg (by decide)).trans (if_neg (by decide))))))))
theorem perB_16 {u : TM} (x : Int32) : perB u x (16 : Int32) = (fX3_raise u (11 : Int32)) := (if_neg (by decide)).trans ((if_pos (by decide)).trans ((if_neg (by decide)).trans ((if_neg (by decide)).trans ((if_neg (by decide)).trans ((if_neg (by decide)).trans ((if_neg (by decide)).trans ((if_pos (by decide)).trans (if_pos (by decide)))))))))
theorem perB_17 {u : TM} (x : Int32) : perB u x (17 : Int32) = (fX3_raise u (12 : Int32)) := (if_neg (by decide)).trans ((if_pos (by decide)).trans ((if_neg (by decide)).trans ((if_neg (by decide)).trans ((if_neg (by decide)).trans ((if_neg (by decide)).trans ((if_neg (by decide)).trans ((if_pos (by decide)).trans ((if_neg (by decide)).trans (if_pos (by decide))))))))))
theorem perB_18 {u : TM} (x : Int32) : perB u x (18 : Int32) = (fX3_performPrivileged u (18 : Int32) x) := (if_neg (by decide)).trans ((if_pos (by decide)).trans ((if_neg (by decide)).trans ((if_neg (by decide)).trans ((if_neg (by decide)).trans ((if_neg (by decide)).trans ((if_neg (by decide)).trans ((if_pos (by decide)).trans ((if_neg (by decide)).trans ((if_neg (by decide)).trans ((if_neg (by decide)).trans (if_neg (by decide))))))))))))
theorem perB_19 {u : TM} (x : Int32) : perB u x (19 : Int32) = (fX3_performPrivileged u (19 : Int32) x) := (if_neg (by decide)).trans ((if_pos (by decide)).trans ((if_neg (by decide)).trans ((if_neg (by decide)).trans ((if_neg (by decide)).trans ((if_neg (by decide)).trans ((if_neg (by decide)).trans ((if_pos (by decide)).trans ((if_neg (by decide)).trans ((if_neg (by decide)).trans ((if_neg (by decide)).trans (if_neg (by decide))))))))))))
theorem perB_20 {u : TM} (x : Int32) : perB u x (20 : Int32) = (fX3_performPrivileged u (20 : Int32) x) := (if_neg (by decide)).trans ((if_pos (by decide)).trans ((if_neg (by decide)).trans ((if_neg (by decide)).trans ((if_neg (by decide)).trans ((if_neg (by decide)).trans ((if_neg (by decide)).trans ((if_pos (by decide)).trans ((if_neg (by decide)).trans ((if_neg (by decide)).trans ((if_neg (by decide)).trans (if_neg (by decide))))))))))))
theorem perB_21 {u : TM} (x : Int32) : perB u x (21 : Int32) = (fX3_performPrivileged u (21 : Int32) x) := (if_neg (by decide)).trans ((if_pos (by decide)).trans ((if_neg (by decide)).trans ((if_neg (by decide)).trans ((if_neg (by decide)).trans ((if_neg (by decide)).trans ((if_neg (by decide)).trans ((if_pos (by decide)).trans ((if_neg (by decide)).trans ((if_neg (by decide)).trans ((if_neg (by decide)).trans (if_neg (by decide))))))))))))
theorem perB_22 {u : TM} (x : Int32) : perB u x (22 : Int32) = (fX3_performPrivileged u (22 : Int32) x) := (if_neg (by decide)).trans ((if_pos (by decide)).trans ((if_neg (by decide)).trans ((if_neg (by decide)).trans ((if_neg (by decide)).trans ((if_neg (by decide)).trans ((if_neg (by decide)).trans ((if_pos (by decide)).trans ((if_neg (by decide)).trans ((if_neg (by decide)).trans ((if_neg (by decide)).trans (if_neg (by decide))))))))))))
theorem perB_23 {u : TM} (x : Int32) : perB u x (23 : Int32) = (fX3_performPrivileged u (23 : Int32) x) := (if_neg (by decide)).trans ((if_pos (by decide)).trans ((if_neg (by decide)).trans ((if_neg (by decide)).trans ((if_neg (by decide)).trans ((if_neg (by decide)).trans ((if_neg (by decide)).trans ((if_pos (by decide)).trans ((if_neg (by decide)).trans ((if_neg (by decide)).trans ((if_neg (by decide)).trans (if_neg (by decide))))))))))))
theorem perB_24 {u : TM} (x : Int32) : perB u x (24 : Int32) = (fX3_performPrivileged u (24 : Int32) x) := (if_neg (by decide)).trans ((if_pos (by decide)).trans ((if_neg (by decide)).trans ((if_neg (by decide)).trans ((if_neg (by decide)).trans ((if_neg (by decide)).trans ((if_neg (by decide)).trans ((if_pos (by decide)).trans ((if_neg (by decide)).trans ((if_neg (by decide)).trans ((if_neg (by decide)).trans (if_neg (by decide))))))))))))
theorem perB_25 {u : TM} (x : Int32) : perB u x (25 : Int32) = (fX3_performPrivileged u (25 : Int32) x) := (if_neg (by decide)).trans ((if_pos (by decide)).trans ((if_neg (by decide)).trans ((if_neg (by decide)).trans ((if_neg (by decide)).trans ((if_neg (by decide)).trans ((if_neg (by decide)).trans ((if_pos (by decide)).trans ((if_neg (by decide)).trans ((if_neg (by decide)).trans ((if_neg (by decide)).trans (if_neg (by decide))))))))))))
theorem perB_26 {u : TM} (x : Int32) : perB u x (26 : Int32) = (fX3_performPrivileged u (26 : Int32) x) := (if_neg (by decide)).trans ((if_pos (by decide)).trans ((if_neg (by decide)).trans ((if_neg (by decide)).trans ((if_neg (by decide)).trans ((if_neg (by decide)).trans ((if_neg (by decide)).trans ((if_pos (by decide)).trans ((if_neg (by decide)).trans ((if_neg (by decide)).trans ((if_neg (by decide)).trans (if_neg (by decide))))))))))))
theorem perB_27 {u : TM} (x : Int32) : perB u x (27 : Int32) = (fX3_performPrivileged u (27 : Int32) x) := (if_neg (by decide)).trans ((if_pos (by decide)).trans ((if_neg (by decide)).trans ((if_neg (by decide)).trans ((if_neg (by decide)).trans ((if_neg (by decide)).trans ((if_neg (by decide)).trans ((if_pos (by decide)).trans ((if_neg (by decide)).trans ((if_neg (by decide)).trans ((if_neg (by decide)).trans (if_neg (by decide))))))))))))
def insB (W : MD) (x op im : Int32) : Int32 × MD :=
  if op < (1 : Int32) then
    (fX4_with W (13 : Int32) (0 : Int32) (0 : Int32))
  else
    if op ≤ (27 : Int32) then
      if (8 : Int32) ≤ op then
        if (12 : Int32) ≤ op then
          if (18 : Int32) ≤ op then
            (fX4_govern W op (bA x) (bB x) (bC x))
          else
            (fX4_go W op (bA x) (bB x) im)
        else
          (fX4_reach W op (bA x) ((W.2.2.1 (ix (bB x - bB x / (8 : Int32) * (8 : Int32)))) + im))
      else
        ((-1 : Int32), fX4_put W (bA x) (fX4_reckon W op (bB x) (bC x) im))
    else
      (fX4_with W (13 : Int32) (0 : Int32) (0 : Int32))
theorem insB_0 (W : MD) (x im : Int32) : insB W x (0 : Int32) im = (fX4_with W (13 : Int32) (0 : Int32) (0 : Int32)) := if_pos (by decide)
theorem insB_1 (W : MD) (x im : Int32) : insB W x (1 : Int32) im = ((-1 : Int32), fX4_put W (bA x) (fX4_reckon W (1 : Int32) (bB x) (bC x) im)) := (if_neg (by decide)).trans ((if_pos (by decide)).trans (if_neg (by decide)))
theorem insB_2 (W : MD) (x im : Int32) : insB W x (2 : Int32) im = ((-1 : Int32), fX4_put W (bA x) (fX4_reckon W (2 : Int32) (bB x) (bC x) im)) := (if_neg (by decide)).trans ((if_pos (by decide)).trans (if_neg (by decide)))
theorem insB_3 (W : MD) (x im : Int32) : insB W x (3 : Int32) im = ((-1 : Int32), fX4_put W (bA x) (fX4_reckon W (3 : Int32) (bB x) (bC x) im)) := (if_neg (by decide)).trans ((if_pos (by decide)).trans (if_neg (by decide)))
theorem insB_4 (W : MD) (x im : Int32) : insB W x (4 : Int32) im = ((-1 : Int32), fX4_put W (bA x) (fX4_reckon W (4 : Int32) (bB x) (bC x) im)) := (if_neg (by decide)).trans ((if_pos (by decide)).trans (if_neg (by decide)))
theorem insB_5 (W : MD) (x im : Int32) : insB W x (5 : Int32) im = ((-1 : Int32), fX4_put W (bA x) (fX4_reckon W (5 : Int32) (bB x) (bC x) im)) := (if_neg (by decide)).trans ((if_pos (by decide)).trans (if_neg (by decide)))
theorem insB_6 (W : MD) (x im : Int32) : insB W x (6 : Int32) im = ((-1 : Int32), fX4_put W (bA x) (fX4_reckon W (6 : Int32) (bB x) (bC x) im)) := (if_neg (by decide)).trans ((if_pos (by decide)).trans (if_neg (by decide)))
theorem insB_7 (W : MD) (x im : Int32) : insB W x (7 : Int32) im = ((-1 : Int32), fX4_put W (bA x) (fX4_reckon W (7 : Int32) (bB x) (bC x) im)) := (if_neg (by decide)).trans ((if_pos (by decide)).trans (if_neg (by decide)))
theorem insB_8 (W : MD) (x im : Int32) : insB W x (8 : Int32) im = (fX4_reach W (8 : Int32) (bA x) ((W.2.2.1 (ix (bB x - bB x / (8 : Int32) * (8 : Int32)))) + im)) := (if_neg (by decide)).trans ((if_pos (by decide)).trans ((if_pos (by decide)).trans (if_neg (by decide))))
theorem insB_9 (W : MD) (x im : Int32) : insB W x (9 : Int32) im = (fX4_reach W (9 : Int32) (bA x) ((W.2.2.1 (ix (bB x - bB x / (8 : Int32) * (8 : Int32)))) + im)) := (if_neg (by decide)).trans ((if_pos (by decide)).trans ((if_pos (by decide)).trans (if_neg (by decide))))
theorem insB_10 (W : MD) (x im : Int32) : insB W x (10 : Int32) im = (fX4_reach W (10 : Int32) (bA x) ((W.2.2.1 (ix (bB x - bB x / (8 : Int32) * (8 : Int32)))) + im)) := (if_neg (by decide)).trans ((if_pos (by decide)).trans ((if_pos (by decide)).trans (if_neg (by decide))))
theorem insB_11 (W : MD) (x im : Int32) : insB W x (11 : Int32) im = (fX4_reach W (11 : Int32) (bA x) ((W.2.2.1 (ix (bB x - bB x / (8 : Int32) * (8 : Int32)))) + im)) := (if_neg (by decide)).trans ((if_pos (by decide)).trans ((if_pos (by decide)).trans (if_neg (by decide))))
theorem insB_12 (W : MD) (x im : Int32) : insB W x (12 : Int32) im = (fX4_go W (12 : Int32) (bA x) (bB x) im) := (if_neg (by decide)).trans ((if_pos (by decide)).trans ((if_pos (by decide)).trans ((if_pos (by decide)).trans (if_neg (by decide)))))
theorem insB_13 (W : MD) (x im : Int32) : insB W x (13 : Int32) im = (fX4_go W (13 : Int32) (bA x) (bB x) im) := (if_neg (by decide)).trans ((if_pos (by decide)).trans ((if_pos (by decide)).trans ((if_pos (by decide)).trans (if_neg (by decide)))))
theorem insB_14 (W : MD) (x im : Int32) : insB W x (14 : Int32) im = (fX4_go W (14 : Int32) (bA x) (bB x) im) := (if_neg (by decide)).trans ((if_pos (by decide)).trans ((if_pos (by decide)).trans ((if_pos (by decide)).trans (if_neg (by decide)))))
theorem insB_15 (W : MD) (x im : Int32) : insB W x (15 : Int32) im = (fX4_go W (15 : Int32) (bA x) (bB x) im) := (if_neg (by decide)).trans ((if_pos (by decide)).trans ((if_pos (by decide)).trans ((if_pos (by decide)).trans (if_neg (by decide)))))
theorem insB_16 (W : MD) (x im : Int32) : insB W x (16 : Int32) im = (fX4_go W (16 : Int32) (bA x) (bB x) im) := (if_neg (by decide)).trans ((if_pos (by decide)).trans ((if_pos (by decide)).trans ((if_pos (by decide)).trans (if_neg (by decide)))))
theorem insB_17 (W : MD) (x im : Int32) : insB W x (17 : Int32) im = (fX4_go W (17 : Int32) (bA x) (bB x) im) := (if_neg (by decide)).trans ((if_pos (by decide)).trans ((if_pos (by decide)).trans ((if_pos (by decide)).trans (if_neg (by decide)))))
theorem insB_18 (W : MD) (x im : Int32) : insB W x (18 : Int32) im = (fX4_govern W (18 : Int32) (bA x) (bB x) (bC x)) := (if_neg (by decide)).trans ((if_pos (by decide)).trans ((if_pos (by decide)).trans ((if_pos (by decide)).trans (if_pos (by decide)))))
theorem insB_19 (W : MD) (x im : Int32) : insB W x (19 : Int32) im = (fX4_govern W (19 : Int32) (bA x) (bB x) (bC x)) := (if_neg (by decide)).trans ((if_pos (by decide)).trans ((if_pos (by decide)).trans ((if_pos (by decide)).trans (if_pos (by decide)))))
theorem insB_20 (W : MD) (x im : Int32) : insB W x (20 : Int32) im = (fX4_govern W (20 : Int32) (bA x) (bB x) (bC x)) := (if_neg (by decide)).trans ((if_pos (by decide)).trans ((if_pos (by decide)).trans ((if_pos (by decide)).trans (if_pos (by decide)))))
theorem insB_21 (W : MD) (x im : Int32) : insB W x (21 : Int32) im = (fX4_govern W (21 : Int32) (bA x) (bB x) (bC x)) := (if_neg (by decide)).trans ((if_pos (by decide)).trans ((if_pos (by decide)).trans ((if_pos (by decide)).trans (if_pos (by decide)))))
theorem insB_22 (W : MD) (x im : Int32) : insB W x (22 : Int32) im = (fX4_govern W (22 : Int32) (bA x) (bB x) (bC x)) := (if_neg (by decide)).trans ((if_pos (by decide)).trans ((if_pos (by decide)).trans ((if_pos (by decide)).trans (if_pos (by decide)))))
theorem insB_23 (W : MD) (x im : Int32) : insB W x (23 : Int32) im = (fX4_govern W (23 : Int32) (bA x) (bB x) (bC x)) := (if_neg (by decide)).trans ((if_pos (by decide)).trans ((if_pos (by decide)).trans ((if_pos (by decide)).trans (if_pos (by decide)))))
theorem insB_24 (W : MD) (x im : Int32) : insB W x (24 : Int32) im = (fX4_govern W (24 : Int32) (bA x) (bB x) (bC x)) := (if_neg (by decide)).trans ((if_pos (by decide)).trans ((if_pos (by decide)).trans ((if_pos (by decide)).trans (if_pos (by decide)))))
theorem insB_25 (W : MD) (x im : Int32) : insB W x (25 : Int32) im = (fX4_govern W (25 : Int32) (bA x) (bB x) (bC x)) := (if_neg (by decide)).trans ((if_pos (by decide)).trans ((if_pos (by decide)).trans ((if_pos (by decide)).trans (if_pos (by decide)))))
theorem insB_26 (W : MD) (x im : Int32) : insB W x (26 : Int32) im = (fX4_govern W (26 : Int32) (bA x) (bB x) (bC x)) := (if_neg (by decide)).trans ((if_pos (by decide)).trans ((if_pos (by decide)).trans ((if_pos (by decide)).trans (if_pos (by decide)))))
theorem insB_27 (W : MD) (x im : Int32) : insB W x (27 : Int32) im = (fX4_govern W (27 : Int32) (bA x) (bB x) (bC x)) := (if_neg (by decide)).trans ((if_pos (by decide)).trans ((if_pos (by decide)).trans ((if_pos (by decide)).trans (if_pos (by decide)))))
theorem kn_nlt {a b : Nat} (h : b ≤ a) (ha : a < 2 ^ 31) : ¬ nI a < nI b := by
  rw [Int32.lt_iff_toInt_lt, nI_toInt ha, nI_toInt (by omega)]; omega
theorem kn_ne {a b : Nat} (h : a ≠ b) (ha : a < 2 ^ 31) (hb : b < 2 ^ 31) : ¬ nI a = nI b := by
  intro q
  have := congrArg Int32.toInt q
  rw [nI_toInt ha, nI_toInt hb] at this; omega
theorem kn_lt {a b : Nat} (h : a < b) (hb : b < 2 ^ 31) : nI a < nI b := by
  rw [Int32.lt_iff_toInt_lt, nI_toInt hb, nI_toInt (by omega)]; omega
theorem kn_nle {a b : Nat} (h : a < b) (hb : b < 2 ^ 31) : ¬ nI b ≤ nI a := by
  rw [Int32.le_iff_toInt_le, nI_toInt hb, nI_toInt (by omega)]; omega
theorem perB_28 {u : TM} (x : Int32) {n : Nat} (h : 28 ≤ n) (h2 : n < 256) : perB u x (nI n) = fX3_raise u (13 : Int32) := (if_neg (kn_nlt (b := 1) (by omega) (by omega))).trans ((if_pos (kn_lt (a := 7) (by omega) (by omega))).trans ((if_neg (kn_ne (b := 8) (by omega) (by omega) (by omega))).trans ((if_neg (kn_ne (b := 10) (by omega) (by omega) (by omega))).trans ((if_neg (kn_ne (b := 9) (by omega) (by omega) (by omega))).trans ((if_neg (kn_ne (b := 11) (by omega) (by omega) (by omega))).trans ((if_neg (kn_nlt (b := 12) (by omega) (by omega))).trans ((if_pos (kn_lt (a := 15) (by omega) (by omega))).trans ((if_neg (kn_ne (b := 16) (by omega) (by omega) (by omega))).trans ((if_neg (kn_ne (b := 17) (by omega) (by omega) (by omega))).trans ((if_neg (kn_nlt (b := 18) (by omega) (by omega))).trans (if_pos (kn_lt (a := 27) (by omega) (by omega)))))))))))))
theorem insB_28 (W : MD) (x im : Int32) {n : Nat} (h : 28 ≤ n) (h2 : n < 256) : insB W x (nI n) im = fX4_with W (13 : Int32) (0 : Int32) (0 : Int32) := (if_neg (kn_nlt (b := 1) (by omega) (by omega))).trans (if_neg (kn_nle (b := n) (a := 27) (by omega) (by omega)))
