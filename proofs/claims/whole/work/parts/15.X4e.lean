def fX4_instruction (w : MD)  : Int32 × MD :=
  if (fX4_lookUp w w.2.2.2.2.2.2.2.2.2.1 (0 : Int32)).1 = (-1 : Int32) then
    if (128 : Int32) ≤ (((fX4_lookUp w w.2.2.2.2.2.2.2.2.2.1 (0 : Int32)).2.2.1 (ix (fX4_lookUp w w.2.2.2.2.2.2.2.2.2.1 (0 : Int32)).2.2.2.2.2.2.2.2.2.2.2.2.2.2.2.2.2.2.1)) &&& (255 : Int32)) then
      if (iu ((fX4_lookUp w w.2.2.2.2.2.2.2.2.2.1 (0 : Int32)).2.2.1 (ix (fX4_lookUp w w.2.2.2.2.2.2.2.2.2.1 (0 : Int32)).2.2.2.2.2.2.2.2.2.2.2.2.2.2.2.2.2.2.1)) (24 : Int32)) < (1 : Int32) then
        ((fX4_with (ms10 (fX4_lookUp w w.2.2.2.2.2.2.2.2.2.1 (0 : Int32)).2 ((fX4_lookUp w w.2.2.2.2.2.2.2.2.2.1 (0 : Int32)).2.2.2.2.2.2.2.2.2.2.1 + (4 : Int32))) (13 : Int32) (0 : Int32) (0 : Int32)).1, (fX4_with (ms10 (fX4_lookUp w w.2.2.2.2.2.2.2.2.2.1 (0 : Int32)).2 ((fX4_lookUp w w.2.2.2.2.2.2.2.2.2.1 (0 : Int32)).2.2.2.2.2.2.2.2.2.2.1 + (4 : Int32))) (13 : Int32) (0 : Int32) (0 : Int32)).2)
      else
        if (iu ((fX4_lookUp w w.2.2.2.2.2.2.2.2.2.1 (0 : Int32)).2.2.1 (ix (fX4_lookUp w w.2.2.2.2.2.2.2.2.2.1 (0 : Int32)).2.2.2.2.2.2.2.2.2.2.2.2.2.2.2.2.2.2.1)) (24 : Int32)) ≤ (27 : Int32) then
          if (8 : Int32) ≤ (iu ((fX4_lookUp w w.2.2.2.2.2.2.2.2.2.1 (0 : Int32)).2.2.1 (ix (fX4_lookUp w w.2.2.2.2.2.2.2.2.2.1 (0 : Int32)).2.2.2.2.2.2.2.2.2.2.2.2.2.2.2.2.2.2.1)) (24 : Int32)) then
            if (12 : Int32) ≤ (iu ((fX4_lookUp w w.2.2.2.2.2.2.2.2.2.1 (0 : Int32)).2.2.1 (ix (fX4_lookUp w w.2.2.2.2.2.2.2.2.2.1 (0 : Int32)).2.2.2.2.2.2.2.2.2.2.2.2.2.2.2.2.2.2.1)) (24 : Int32)) then
              if (18 : Int32) ≤ (iu ((fX4_lookUp w w.2.2.2.2.2.2.2.2.2.1 (0 : Int32)).2.2.1 (ix (fX4_lookUp w w.2.2.2.2.2.2.2.2.2.1 (0 : Int32)).2.2.2.2.2.2.2.2.2.2.2.2.2.2.2.2.2.2.1)) (24 : Int32)) then
                ((fX4_govern (ms10 (fX4_lookUp w w.2.2.2.2.2.2.2.2.2.1 (0 : Int32)).2 ((fX4_lookUp w w.2.2.2.2.2.2.2.2.2.1 (0 : Int32)).2.2.2.2.2.2.2.2.2.2.1 + (4 : Int32))) (iu ((fX4_lookUp w w.2.2.2.2.2.2.2.2.2.1 (0 : Int32)).2.2.1 (ix (fX4_lookUp w w.2.2.2.2.2.2.2.2.2.1 (0 : Int32)).2.2.2.2.2.2.2.2.2.2.2.2.2.2.2.2.2.2.1)) (24 : Int32)) ((((fX4_lookUp w w.2.2.2.2.2.2.2.2.2.1 (0 : Int32)).2.2.1 (ix (fX4_lookUp w w.2.2.2.2.2.2.2.2.2.1 (0 : Int32)).2.2.2.2.2.2.2.2.2.2.2.2.2.2.2.2.2.2.1)) >>> ((16 : Int32) &&& 31)) &&& (255 : Int32)) ((((fX4_lookUp w w.2.2.2.2.2.2.2.2.2.1 (0 : Int32)).2.2.1 (ix (fX4_lookUp w w.2.2.2.2.2.2.2.2.2.1 (0 : Int32)).2.2.2.2.2.2.2.2.2.2.2.2.2.2.2.2.2.2.1)) >>> ((8 : Int32) &&& 31)) &&& (255 : Int32)) (((fX4_lookUp w w.2.2.2.2.2.2.2.2.2.1 (0 : Int32)).2.2.1 (ix (fX4_lookUp w w.2.2.2.2.2.2.2.2.2.1 (0 : Int32)).2.2.2.2.2.2.2.2.2.2.2.2.2.2.2.2.2.2.1)) &&& (255 : Int32))).1, (fX4_govern (ms10 (fX4_lookUp w w.2.2.2.2.2.2.2.2.2.1 (0 : Int32)).2 ((fX4_lookUp w w.2.2.2.2.2.2.2.2.2.1 (0 : Int32)).2.2.2.2.2.2.2.2.2.2.1 + (4 : Int32))) (iu ((fX4_lookUp w w.2.2.2.2.2.2.2.2.2.1 (0 : Int32)).2.2.1 (ix (fX4_lookUp w w.2.2.2.2.2.2.2.2.2.1 (0 : Int32)).2.2.2.2.2.2.2.2.2.2.2.2.2.2.2.2.2.2.1)) (24 : Int32)) ((((fX4_lookUp w w.2.2.2.2.2.2.2.2.2.1 (0 : Int32)).2.2.1 (ix (fX4_lookUp w w.2.2.2.2.2.2.2.2.2.1 (0 : Int32)).2.2.2.2.2.2.2.2.2.2.2.2.2.2.2.2.2.2.1)) >>> ((16 : Int32) &&& 31)) &&& (255 : Int32)) ((((fX4_lookUp w w.2.2.2.2.2.2.2.2.2.1 (0 : Int32)).2.2.1 (ix (fX4_lookUp w w.2.2.2.2.2.2.2.2.2.1 (0 : Int32)).2.2.2.2.2.2.2.2.2.2.2.2.2.2.2.2.2.2.1)) >>> ((8 : Int32) &&& 31)) &&& (255 : Int32)) (((fX4_lookUp w w.2.2.2.2.2.2.2.2.2.1 (0 : Int32)).2.2.1 (ix (fX4_lookUp w w.2.2.2.2.2.2.2.2.2.1 (0 : Int32)).2.2.2.2.2.2.2.2.2.2.2.2.2.2.2.2.2.2.1)) &&& (255 : Int32))).2)
              else
                ((fX4_go (ms10 (fX4_lookUp w w.2.2.2.2.2.2.2.2.2.1 (0 : Int32)).2 ((fX4_lookUp w w.2.2.2.2.2.2.2.2.2.1 (0 : Int32)).2.2.2.2.2.2.2.2.2.2.1 + (4 : Int32))) (iu ((fX4_lookUp w w.2.2.2.2.2.2.2.2.2.1 (0 : Int32)).2.2.1 (ix (fX4_lookUp w w.2.2.2.2.2.2.2.2.2.1 (0 : Int32)).2.2.2.2.2.2.2.2.2.2.2.2.2.2.2.2.2.2.1)) (24 : Int32)) ((((fX4_lookUp w w.2.2.2.2.2.2.2.2.2.1 (0 : Int32)).2.2.1 (ix (fX4_lookUp w w.2.2.2.2.2.2.2.2.2.1 (0 : Int32)).2.2.2.2.2.2.2.2.2.2.2.2.2.2.2.2.2.2.1)) >>> ((16 : Int32) &&& 31)) &&& (255 : Int32)) ((((fX4_lookUp w w.2.2.2.2.2.2.2.2.2.1 (0 : Int32)).2.2.1 (ix (fX4_lookUp w w.2.2.2.2.2.2.2.2.2.1 (0 : Int32)).2.2.2.2.2.2.2.2.2.2.2.2.2.2.2.2.2.2.1)) >>> ((8 : Int32) &&& 31)) &&& (255 : Int32)) ((((fX4_lookUp w w.2.2.2.2.2.2.2.2.2.1 (0 : Int32)).2.2.1 (ix (fX4_lookUp w w.2.2.2.2.2.2.2.2.2.1 (0 : Int32)).2.2.2.2.2.2.2.2.2.2.2.2.2.2.2.2.2.2.1)) &&& (255 : Int32)) - (256 : Int32))).1, (fX4_go (ms10 (fX4_lookUp w w.2.2.2.2.2.2.2.2.2.1 (0 : Int32)).2 ((fX4_lookUp w w.2.2.2.2.2.2.2.2.2.1 (0 : Int32)).2.2.2.2.2.2.2.2.2.2.1 + (4 : Int32))) (iu ((fX4_lookUp w w.2.2.2.2.2.2.2.2.2.1 (0 : Int32)).2.2.1 (ix (fX4_lookUp w w.2.2.2.2.2.2.2.2.2.1 (0 : Int32)).2.2.2.2.2.2.2.2.2.2.2.2.2.2.2.2.2.2.1)) (24 : Int32)) ((((fX4_lookUp w w.2.2.2.2.2.2.2.2.2.1 (0 : Int32)).2.2.1 (ix (fX4_lookUp w w.2.2.2.2.2.2.2.2.2.1 (0 : Int32)).2.2.2.2.2.2.2.2.2.2.2.2.2.2.2.2.2.2.1)) >>> ((16 : Int32) &&& 31)) &&& (255 : Int32)) ((((fX4_lookUp w w.2.2.2.2.2.2.2.2.2.1 (0 : Int32)).2.2.1 (ix (fX4_lookUp w w.2.2.2.2.2.2.2.2.2.1 (0 : Int32)).2.2.2.2.2.2.2.2.2.2.2.2.2.2.2.2.2.2.1)) >>> ((8 : Int32) &&& 31)) &&& (255 : Int32)) ((((fX4_lookUp w w.2.2.2.2.2.2.2.2.2.1 (0 : Int32)).2.2.1 (ix (fX4_lookUp w w.2.2.2.2.2.2.2.2.2.1 (0 : Int32)).2.2.2.2.2.2.2.2.2.2.2.2.2.2.2.2.2.2.1)) &&& (255 : Int32)) - (256 : Int32))).2)
            else
              ((fX4_reach (ms10 (fX4_lookUp w w.2.2.2.2.2.2.2.2.2.1 (0 : Int32)).2 ((fX4_lookUp w w.2.2.2.2.2.2.2.2.2.1 (0 : Int32)).2.2.2.2.2.2.2.2.2.2.1 + (4 : Int32))) (iu ((fX4_lookUp w w.2.2.2.2.2.2.2.2.2.1 (0 : Int32)).2.2.1 (ix (fX4_lookUp w w.2.2.2.2.2.2.2.2.2.1 (0 : Int32)).2.2.2.2.2.2.2.2.2.2.2.2.2.2.2.2.2.2.1)) (24 : Int32)) ((((fX4_lookUp w w.2.2.2.2.2.2.2.2.2.1 (0 : Int32)).2.2.1 (ix (fX4_lookUp w w.2.2.2.2.2.2.2.2.2.1 (0 : Int32)).2.2.2.2.2.2.2.2.2.2.2.2.2.2.2.2.2.2.1)) >>> ((16 : Int32) &&& 31)) &&& (255 : Int32)) (((fX4_lookUp w w.2.2.2.2.2.2.2.2.2.1 (0 : Int32)).2.2.2.1 (ix (((((fX4_lookUp w w.2.2.2.2.2.2.2.2.2.1 (0 : Int32)).2.2.1 (ix (fX4_lookUp w w.2.2.2.2.2.2.2.2.2.1 (0 : Int32)).2.2.2.2.2.2.2.2.2.2.2.2.2.2.2.2.2.2.1)) >>> ((8 : Int32) &&& 31)) &&& (255 : Int32)) - ((((fX4_lookUp w w.2.2.2.2.2.2.2.2.2.1 (0 : Int32)).2.2.1 (ix (fX4_lookUp w w.2.2.2.2.2.2.2.2.2.1 (0 : Int32)).2.2.2.2.2.2.2.2.2.2.2.2.2.2.2.2.2.2.1)) >>> ((8 : Int32) &&& 31)) &&& (255 : Int32)) / (8 : Int32) * (8 : Int32)))) + ((((fX4_lookUp w w.2.2.2.2.2.2.2.2.2.1 (0 : Int32)).2.2.1 (ix (fX4_lookUp w w.2.2.2.2.2.2.2.2.2.1 (0 : Int32)).2.2.2.2.2.2.2.2.2.2.2.2.2.2.2.2.2.2.1)) &&& (255 : Int32)) - (256 : Int32)))).1, (fX4_reach (ms10 (fX4_lookUp w w.2.2.2.2.2.2.2.2.2.1 (0 : Int32)).2 ((fX4_lookUp w w.2.2.2.2.2.2.2.2.2.1 (0 : Int32)).2.2.2.2.2.2.2.2.2.2.1 + (4 : Int32))) (iu ((fX4_lookUp w w.2.2.2.2.2.2.2.2.2.1 (0 : Int32)).2.2.1 (ix (fX4_lookUp w w.2.2.2.2.2.2.2.2.2.1 (0 : Int32)).2.2.2.2.2.2.2.2.2.2.2.2.2.2.2.2.2.2.1)) (24 : Int32)) ((((fX4_lookUp w w.2.2.2.2.2.2.2.2.2.1 (0 : Int32)).2.2.1 (ix (fX4_lookUp w w.2.2.2.2.2.2.2.2.2.1 (0 : Int32)).2.2.2.2.2.2.2.2.2.2.2.2.2.2.2.2.2.2.1)) >>> ((16 : Int32) &&& 31)) &&& (255 : Int32)) (((fX4_lookUp w w.2.2.2.2.2.2.2.2.2.1 (0 : Int32)).2.2.2.1 (ix (((((fX4_lookUp w w.2.2.2.2.2.2.2.2.2.1 (0 : Int32)).2.2.1 (ix (fX4_lookUp w w.2.2.2.2.2.2.2.2.2.1 (0 : Int32)).2.2.2.2.2.2.2.2.2.2.2.2.2.2.2.2.2.2.1)) >>> ((8 : Int32) &&& 31)) &&& (255 : Int32)) - ((((fX4_lookUp w w.2.2.2.2.2.2.2.2.2.1 (0 : Int32)).2.2.1 (ix (fX4_lookUp w w.2.2.2.2.2.2.2.2.2.1 (0 : Int32)).2.2.2.2.2.2.2.2.2.2.2.2.2.2.2.2.2.2.1)) >>> ((8 : Int32) &&& 31)) &&& (255 : Int32)) / (8 : Int32) * (8 : Int32)))) + ((((fX4_lookUp w w.2.2.2.2.2.2.2.2.2.1 (0 : Int32)).2.2.1 (ix (fX4_lookUp w w.2.2.2.2.2.2.2.2.2.1 (0 : Int32)).2.2.2.2.2.2.2.2.2.2.2.2.2.2.2.2.2.2.1)) &&& (255 : Int32)) - (256 : Int32)))).2)
          else
            ((-1 : Int32), (fX4_put (ms10 (fX4_lookUp w w.2.2.2.2.2.2.2.2.2.1 (0 : Int32)).2 ((fX4_lookUp w w.2.2.2.2.2.2.2.2.2.1 (0 : Int32)).2.2.2.2.2.2.2.2.2.2.1 + (4 : Int32))) ((((fX4_lookUp w w.2.2.2.2.2.2.2.2.2.1 (0 : Int32)).2.2.1 (ix (fX4_lookUp w w.2.2.2.2.2.2.2.2.2.1 (0 : Int32)).2.2.2.2.2.2.2.2.2.2.2.2.2.2.2.2.2.2.1)) >>> ((16 : Int32) &&& 31)) &&& (255 : Int32)) (fX4_reckon (ms10 (fX4_lookUp w w.2.2.2.2.2.2.2.2.2.1 (0 : Int32)).2 ((fX4_lookUp w w.2.2.2.2.2.2.2.2.2.1 (0 : Int32)).2.2.2.2.2.2.2.2.2.2.1 + (4 : Int32))) (iu ((fX4_lookUp w w.2.2.2.2.2.2.2.2.2.1 (0 : Int32)).2.2.1 (ix (fX4_lookUp w w.2.2.2.2.2.2.2.2.2.1 (0 : Int32)).2.2.2.2.2.2.2.2.2.2.2.2.2.2.2.2.2.2.1)) (24 : Int32)) ((((fX4_lookUp w w.2.2.2.2.2.2.2.2.2.1 (0 : Int32)).2.2.1 (ix (fX4_lookUp w w.2.2.2.2.2.2.2.2.2.1 (0 : Int32)).2.2.2.2.2.2.2.2.2.2.2.2.2.2.2.2.2.2.1)) >>> ((8 : Int32) &&& 31)) &&& (255 : Int32)) (((fX4_lookUp w w.2.2.2.2.2.2.2.2.2.1 (0 : Int32)).2.2.1 (ix (fX4_lookUp w w.2.2.2.2.2.2.2.2.2.1 (0 : Int32)).2.2.2.2.2.2.2.2.2.2.2.2.2.2.2.2.2.2.1)) &&& (255 : Int32)) ((((fX4_lookUp w w.2.2.2.2.2.2.2.2.2.1 (0 : Int32)).2.2.1 (ix (fX4_lookUp w w.2.2.2.2.2.2.2.2.2.1 (0 : Int32)).2.2.2.2.2.2.2.2.2.2.2.2.2.2.2.2.2.2.1)) &&& (255 : Int32)) - (256 : Int32)))))
        else
          ((fX4_with (ms10 (fX4_lookUp w w.2.2.2.2.2.2.2.2.2.1 (0 : Int32)).2 ((fX4_lookUp w w.2.2.2.2.2.2.2.2.2.1 (0 : Int32)).2.2.2.2.2.2.2.2.2.2.1 + (4 : Int32))) (13 : Int32) (0 : Int32) (0 : Int32)).1, (fX4_with (ms10 (fX4_lookUp w w.2.2.2.2.2.2.2.2.2.1 (0 : Int32)).2 ((fX4_lookUp w w.2.2.2.2.2.2.2.2.2.1 (0 : Int32)).2.2.2.2.2.2.2.2.2.2.1 + (4 : Int32))) (13 : Int32) (0 : Int32) (0 : Int32)).2)
    else
      if (iu ((fX4_lookUp w w.2.2.2.2.2.2.2.2.2.1 (0 : Int32)).2.2.1 (ix (fX4_lookUp w w.2.2.2.2.2.2.2.2.2.1 (0 : Int32)).2.2.2.2.2.2.2.2.2.2.2.2.2.2.2.2.2.2.1)) (24 : Int32)) < (1 : Int32) then
        ((fX4_with (ms10 (fX4_lookUp w w.2.2.2.2.2.2.2.2.2.1 (0 : Int32)).2 ((fX4_lookUp w w.2.2.2.2.2.2.2.2.2.1 (0 : Int32)).2.2.2.2.2.2.2.2.2.2.1 + (4 : Int32))) (13 : Int32) (0 : Int32) (0 : Int32)).1, (fX4_with (ms10 (fX4_lookUp w w.2.2.2.2.2.2.2.2.2.1 (0 : Int32)).2 ((fX4_lookUp w w.2.2.2.2.2.2.2.2.2.1 (0 : Int32)).2.2.2.2.2.2.2.2.2.2.1 + (4 : Int32))) (13 : Int32) (0 : Int32) (0 : Int32)).2)
      else
        if (iu ((fX4_lookUp w w.2.2.2.2.2.2.2.2.2.1 (0 : Int32)).2.2.1 (ix (fX4_lookUp w w.2.2.2.2.2.2.2.2.2.1 (0 : Int32)).2.2.2.2.2.2.2.2.2.2.2.2.2.2.2.2.2.2.1)) (24 : Int32)) ≤ (27 : Int32) then
          if (8 : Int32) ≤ (iu ((fX4_lookUp w w.2.2.2.2.2.2.2.2.2.1 (0 : Int32)).2.2.1 (ix (fX4_lookUp w w.2.2.2.2.2.2.2.2.2.1 (0 : Int32)).2.2.2.2.2.2.2.2.2.2.2.2.2.2.2.2.2.2.1)) (24 : Int32)) then
            if (12 : Int32) ≤ (iu ((fX4_lookUp w w.2.2.2.2.2.2.2.2.2.1 (0 : Int32)).2.2.1 (ix (fX4_lookUp w w.2.2.2.2.2.2.2.2.2.1 (0 : Int32)).2.2.2.2.2.2.2.2.2.2.2.2.2.2.2.2.2.2.1)) (24 : Int32)) then
              if (18 : Int32) ≤ (iu ((fX4_lookUp w w.2.2.2.2.2.2.2.2.2.1 (0 : Int32)).2.2.1 (ix (fX4_lookUp w w.2.2.2.2.2.2.2.2.2.1 (0 : Int32)).2.2.2.2.2.2.2.2.2.2.2.2.2.2.2.2.2.2.1)) (24 : Int32)) then
                ((fX4_govern (ms10 (fX4_lookUp w w.2.2.2.2.2.2.2.2.2.1 (0 : Int32)).2 ((fX4_lookUp w w.2.2.2.2.2.2.2.2.2.1 (0 : Int32)).2.2.2.2.2.2.2.2.2.2.1 + (4 : Int32))) (iu ((fX4_lookUp w w.2.2.2.2.2.2.2.2.2.1 (0 : Int32)).2.2.1 (ix (fX4_lookUp w w.2.2.2.2.2.2.2.2.2.1 (0 : Int32)).2.2.2.2.2.2.2.2.2.2.2.2.2.2.2.2.2.2.1)) (24 : Int32)) ((((fX4_lookUp w w.2.2.2.2.2.2.2.2.2.1 (0 : Int32)).2.2.1 (ix (fX4_lookUp w w.2.2.2.2.2.2.2.2.2.1 (0 : Int32)).2.2.2.2.2.2.2.2.2.2.2.2.2.2.2.2.2.2.1)) >>> ((16 : Int32) &&& 31)) &&& (255 : Int32)) ((((fX4_lookUp w w.2.2.2.2.2.2.2.2.2.1 (0 : Int32)).2.2.1 (ix (fX4_lookUp w w.2.2.2.2.2.2.2.2.2.1 (0 : Int32)).2.2.2.2.2.2.2.2.2.2.2.2.2.2.2.2.2.2.1)) >>> ((8 : Int32) &&& 31)) &&& (255 : Int32)) (((fX4_lookUp w w.2.2.2.2.2.2.2.2.2.1 (0 : Int32)).2.2.1 (ix (fX4_lookUp w w.2.2.2.2.2.2.2.2.2.1 (0 : Int32)).2.2.2.2.2.2.2.2.2.2.2.2.2.2.2.2.2.2.1)) &&& (255 : Int32))).1, (fX4_govern (ms10 (fX4_lookUp w w.2.2.2.2.2.2.2.2.2.1 (0 : Int32)).2 ((fX4_lookUp w w.2.2.2.2.2.2.2.2.2.1 (0 : Int32)).2.2.2.2.2.2.2.2.2.2.1 + (4 : Int32))) (iu ((fX4_lookUp w w.2.2.2.2.2.2.2.2.2.1 (0 : Int32)).2.2.1 (ix (fX4_lookUp w w.2.2.2.2.2.2.2.2.2.1 (0 : Int32)).2.2.2.2.2.2.2.2.2.2.2.2.2.2.2.2.2.2.1)) (24 : Int32)) ((((fX4_lookUp w w.2.2.2.2.2.2.2.2.2.1 (0 : Int32)).2.2.1 (ix (fX4_lookUp w w.2.2.2.2.2.2.2.2.2.1 (0 : Int32)).2.2.2.2.2.2.2.2.2.2.2.2.2.2.2.2.2.2.1)) >>> ((16 : Int32) &&& 31)) &&& (255 : Int32)) ((((fX4_lookUp w w.2.2.2.2.2.2.2.2.2.1 (0 : Int32)).2.2.1 (ix (fX4_lookUp w w.2.2.2.2.2.2.2.2.2.1 (0 : Int32)).2.2.2.2.2.2.2.2.2.2.2.2.2.2.2.2.2.2.1)) >>> ((8 : Int32) &&& 31)) &&& (255 : Int32)) (((fX4_lookUp w w.2.2.2.2.2.2.2.2.2.1 (0 : Int32)).2.2.1 (ix (fX4_lookUp w w.2.2.2.2.2.2.2.2.2.1 (0 : Int32)).2.2.2.2.2.2.2.2.2.2.2.2.2.2.2.2.2.2.1)) &&& (255 : Int32))).2)
              else
                ((fX4_go (ms10 (fX4_lookUp w w.2.2.2.2.2.2.2.2.2.1 (0 : Int32)).2 ((fX4_lookUp w w.2.2.2.2.2.2.2.2.2.1 (0 : Int32)).2.2.2.2.2.2.2.2.2.2.1 + (4 : Int32))) (iu ((fX4_lookUp w w.2.2.2.2.2.2.2.2.2.1 (0 : Int32)).2.2.1 (ix (fX4_lookUp w w.2.2.2.2.2.2.2.2.2.1 (0 : Int32)).2.2.2.2.2.2.2.2.2.2.2.2.2.2.2.2.2.2.1)) (24 : Int32)) ((((fX4_lookUp w w.2.2.2.2.2.2.2.2.2.1 (0 : Int32)).2.2.1 (ix (fX4_lookUp w w.2.2.2.2.2.2.2.2.2.1 (0 : Int32)).2.2.2.2.2.2.2.2.2.2.2.2.2.2.2.2.2.2.1)) >>> ((16 : Int32) &&& 31)) &&& (255 : Int32)) ((((fX4_lookUp w w.2.2.2.2.2.2.2.2.2.1 (0 : Int32)).2.2.1 (ix (fX4_lookUp w w.2.2.2.2.2.2.2.2.2.1 (0 : Int32)).2.2.2.2.2.2.2.2.2.2.2.2.2.2.2.2.2.2.1)) >>> ((8 : Int32) &&& 31)) &&& (255 : Int32)) (((fX4_lookUp w w.2.2.2.2.2.2.2.2.2.1 (0 : Int32)).2.2.1 (ix (fX4_lookUp w w.2.2.2.2.2.2.2.2.2.1 (0 : Int32)).2.2.2.2.2.2.2.2.2.2.2.2.2.2.2.2.2.2.1)) &&& (255 : Int32))).1, (fX4_go (ms10 (fX4_lookUp w w.2.2.2.2.2.2.2.2.2.1 (0 : Int32)).2 ((fX4_lookUp w w.2.2.2.2.2.2.2.2.2.1 (0 : Int32)).2.2.2.2.2.2.2.2.2.2.1 + (4 : Int32))) (iu ((fX4_lookUp w w.2.2.2.2.2.2.2.2.2.1 (0 : Int32)).2.2.1 (ix (fX4_lookUp w w.2.2.2.2.2.2.2.2.2.1 (0 : Int32)).2.2.2.2.2.2.2.2.2.2.2.2.2.2.2.2.2.2.1)) (24 : Int32)) ((((fX4_lookUp w w.2.2.2.2.2.2.2.2.2.1 (0 : Int32)).2.2.1 (ix (fX4_lookUp w w.2.2.2.2.2.2.2.2.2.1 (0 : Int32)).2.2.2.2.2.2.2.2.2.2.2.2.2.2.2.2.2.2.1)) >>> ((16 : Int32) &&& 31)) &&& (255 : Int32)) ((((fX4_lookUp w w.2.2.2.2.2.2.2.2.2.1 (0 : Int32)).2.2.1 (ix (fX4_lookUp w w.2.2.2.2.2.2.2.2.2.1 (0 : Int32)).2.2.2.2.2.2.2.2.2.2.2.2.2.2.2.2.2.2.1)) >>> ((8 : Int32) &&& 31)) &&& (255 : Int32)) (((fX4_lookUp w w.2.2.2.2.2.2.2.2.2.1 (0 : Int32)).2.2.1 (ix (fX4_lookUp w w.2.2.2.2.2.2.2.2.2.1 (0 : Int32)).2.2.2.2.2.2.2.2.2.2.2.2.2.2.2.2.2.2.1)) &&& (255 : Int32))).2)
            else
              ((fX4_reach (ms10 (fX4_lookUp w w.2.2.2.2.2.2.2.2.2.1 (0 : Int32)).2 ((fX4_lookUp w w.2.2.2.2.2.2.2.2.2.1 (0 : Int32)).2.2.2.2.2.2.2.2.2.2.1 + (4 : Int32))) (iu ((fX4_lookUp w w.2.2.2.2.2.2.2.2.2.1 (0 : Int32)).2.2.1 (ix (fX4_lookUp w w.2.2.2.2.2.2.2.2.2.1 (0 : Int32)).2.2.2.2.2.2.2.2.2.2.2.2.2.2.2.2.2.2.1)) (24 : Int32)) ((((fX4_lookUp w w.2.2.2.2.2.2.2.2.2.1 (0 : Int32)).2.2.1 (ix (fX4_lookUp w w.2.2.2.2.2.2.2.2.2.1 (0 : Int32)).2.2.2.2.2.2.2.2.2.2.2.2.2.2.2.2.2.2.1)) >>> ((16 : Int32) &&& 31)) &&& (255 : Int32)) (((fX4_lookUp w w.2.2.2.2.2.2.2.2.2.1 (0 : Int32)).2.2.2.1 (ix (((((fX4_lookUp w w.2.2.2.2.2.2.2.2.2.1 (0 : Int32)).2.2.1 (ix (fX4_lookUp w w.2.2.2.2.2.2.2.2.2.1 (0 : Int32)).2.2.2.2.2.2.2.2.2.2.2.2.2.2.2.2.2.2.1)) >>> ((8 : Int32) &&& 31)) &&& (255 : Int32)) - ((((fX4_lookUp w w.2.2.2.2.2.2.2.2.2.1 (0 : Int32)).2.2.1 (ix (fX4_lookUp w w.2.2.2.2.2.2.2.2.2.1 (0 : Int32)).2.2.2.2.2.2.2.2.2.2.2.2.2.2.2.2.2.2.1)) >>> ((8 : Int32) &&& 31)) &&& (255 : Int32)) / (8 : Int32) * (8 : Int32)))) + (((fX4_lookUp w w.2.2.2.2.2.2.2.2.2.1 (0 : Int32)).2.2.1 (ix (fX4_lookUp w w.2.2.2.2.2.2.2.2.2.1 (0 : Int32)).2.2.2.2.2.2.2.2.2.2.2.2.2.2.2.2.2.2.1)) &&& (255 : Int32)))).1, (fX4_reach (ms10 (fX4_lookUp w w.2.2.2.2.2.2.2.2.2.1 (0 : Int32)).2 ((fX4_lookUp w w.2.2.2.2.2.2.2.2.2.1 (0 : Int32)).2.2.2.2.2.2.2.2.2.2.1 + (4 : Int32))) (iu ((fX4_lookUp w w.2.2.2.2.2.2.2.2.2.1 (0 : Int32)).2.2.1 (ix (fX4_lookUp w w.2.2.2.2.2.2.2.2.2.1 (0 : Int32)).2.2.2.2.2.2.2.2.2.2.2.2.2.2.2.2.2.2.1)) (24 : Int32)) ((((fX4_lookUp w w.2.2.2.2.2.2.2.2.2.1 (0 : Int32)).2.2.1 (ix (fX4_lookUp w w.2.2.2.2.2.2.2.2.2.1 (0 : Int32)).2.2.2.2.2.2.2.2.2.2.2.2.2.2.2.2.2.2.1)) >>> ((16 : Int32) &&& 31)) &&& (255 : Int32)) (((fX4_lookUp w w.2.2.2.2.2.2.2.2.2.1 (0 : Int32)).2.2.2.1 (ix (((((fX4_lookUp w w.2.2.2.2.2.2.2.2.2.1 (0 : Int32)).2.2.1 (ix (fX4_lookUp w w.2.2.2.2.2.2.2.2.2.1 (0 : Int32)).2.2.2.2.2.2.2.2.2.2.2.2.2.2.2.2.2.2.1)) >>> ((8 : Int32) &&& 31)) &&& (255 : Int32)) - ((((fX4_lookUp w w.2.2.2.2.2.2.2.2.2.1 (0 : Int32)).2.2.1 (ix (fX4_lookUp w w.2.2.2.2.2.2.2.2.2.1 (0 : Int32)).2.2.2.2.2.2.2.2.2.2.2.2.2.2.2.2.2.2.1)) >>> ((8 : Int32) &&& 31)) &&& (255 : Int32)) / (8 : Int32) * (8 : Int32)))) + (((fX4_lookUp w w.2.2.2.2.2.2.2.2.2.1 (0 : Int32)).2.2.1 (ix (fX4_lookUp w w.2.2.2.2.2.2.2.2.2.1 (0 : Int32)).2.2.2.2.2.2.2.2.2.2.2.2.2.2.2.2.2.2.1)) &&& (255 : Int32)))).2)
          else
            ((-1 : Int32), (fX4_put (ms10 (fX4_lookUp w w.2.2.2.2.2.2.2.2.2.1 (0 : Int32)).2 ((fX4_lookUp w w.2.2.2.2.2.2.2.2.2.1 (0 : Int32)).2.2.2.2.2.2.2.2.2.2.1 + (4 : Int32))) ((((fX4_lookUp w w.2.2.2.2.2.2.2.2.2.1 (0 : Int32)).2.2.1 (ix (fX4_lookUp w w.2.2.2.2.2.2.2.2.2.1 (0 : Int32)).2.2.2.2.2.2.2.2.2.2.2.2.2.2.2.2.2.2.1)) >>> ((16 : Int32) &&& 31)) &&& (255 : Int32)) (fX4_reckon (ms10 (fX4_lookUp w w.2.2.2.2.2.2.2.2.2.1 (0 : Int32)).2 ((fX4_lookUp w w.2.2.2.2.2.2.2.2.2.1 (0 : Int32)).2.2.2.2.2.2.2.2.2.2.1 + (4 : Int32))) (iu ((fX4_lookUp w w.2.2.2.2.2.2.2.2.2.1 (0 : Int32)).2.2.1 (ix (fX4_lookUp w w.2.2.2.2.2.2.2.2.2.1 (0 : Int32)).2.2.2.2.2.2.2.2.2.2.2.2.2.2.2.2.2.2.1)) (24 : Int32)) ((((fX4_lookUp w w.2.2.2.2.2.2.2.2.2.1 (0 : Int32)).2.2.1 (ix (fX4_lookUp w w.2.2.2.2.2.2.2.2.2.1 (0 : Int32)).2.2.2.2.2.2.2.2.2.2.2.2.2.2.2.2.2.2.1)) >>> ((8 : Int32) &&& 31)) &&& (255 : Int32)) (((fX4_lookUp w w.2.2.2.2.2.2.2.2.2.1 (0 : Int32)).2.2.1 (ix (fX4_lookUp w w.2.2.2.2.2.2.2.2.2.1 (0 : Int32)).2.2.2.2.2.2.2.2.2.2.2.2.2.2.2.2.2.2.1)) &&& (255 : Int32)) (((fX4_lookUp w w.2.2.2.2.2.2.2.2.2.1 (0 : Int32)).2.2.1 (ix (fX4_lookUp w w.2.2.2.2.2.2.2.2.2.1 (0 : Int32)).2.2.2.2.2.2.2.2.2.2.2.2.2.2.2.2.2.2.1)) &&& (255 : Int32)))))
        else
          ((fX4_with (ms10 (fX4_lookUp w w.2.2.2.2.2.2.2.2.2.1 (0 : Int32)).2 ((fX4_lookUp w w.2.2.2.2.2.2.2.2.2.1 (0 : Int32)).2.2.2.2.2.2.2.2.2.2.1 + (4 : Int32))) (13 : Int32) (0 : Int32) (0 : Int32)).1, (fX4_with (ms10 (fX4_lookUp w w.2.2.2.2.2.2.2.2.2.1 (0 : Int32)).2 ((fX4_lookUp w w.2.2.2.2.2.2.2.2.2.1 (0 : Int32)).2.2.2.2.2.2.2.2.2.2.1 + (4 : Int32))) (13 : Int32) (0 : Int32) (0 : Int32)).2)
  else
    ((fX4_lookUp w w.2.2.2.2.2.2.2.2.2.1 (0 : Int32)).1, (fX4_lookUp w w.2.2.2.2.2.2.2.2.2.1 (0 : Int32)).2)
set_option maxHeartbeats 4000000 in
set_option maxRecDepth 100000 in
theorem kX4_instruction (l : Launch) (D : va_G) (k : Nat → ClassId) (z : Nat → Nat) (w : MD)  (hf : vp_in w.2.2.2.2.2.2.2.2.2.2.2.1 4) (o : Int32 × (MD)) (ho : fX4_instruction w = o) : Met l yX4_instruction wsX4_instruction { frames := 4, cells := 0, slots := 0, locals := 99 } (wr_P D vwCl (tyL k) (wM k z w) (fun _ => True) [.ref (z 0)]) (wr_Q D vwCl (some (.int o.1)) (wM k z w) (wM k z o.2)) 0 0 (in_W (wM k z w)) := by
  refine Met.ofW (cc := cX4_instruction) (maxL := 8) (ret := (some .int)) (by decide) rfl ?_
  intro p e s m args below meth c s₁ B hml hv0
  obtain ⟨rfl, hP, hK, hX, hD0⟩ := hv0
  have hx := B.exec
  have hb := B.bytes
  have hr := B.returns
  have hts := atoms_spec (ws := wsX4_instruction) B.pre
  have hown : s.vm.findClass RX4 = some m.cls := findClass_of_methodNamed B.named
  have hlocks := B.notSynchronized
  have hD : va_D (in_W (wM k z w)) (wM k z w) := wD_self hD0
  have hS : va_S (in_W (wM k z w)) s.heap s.heap [] := va_S.rf
  have hl := lv_entry ([.ref (z 0)]) (n := 8) (Nat.le_of_ble_eq_true rfl)
  rw [lg_entry_eq]
  generalize (lg_sl ([.ref (z 0)]) ++ List.replicate (8 - (lg_sl ([.ref (z 0)])).length) Slot.unset).toArray = ls at hl ⊢
  have hl : lv_has ls 8 [(0, .ref (z 0))] := hl
  refine lv_aload_n hx hb dX4_instruction_0 rfl (lv_at hl 0 rfl) ?_
  refine lv_aload_n hx hb dX4_instruction_1 rfl (lv_at hl 0 rfl) ?_
  refine va_get (D := D) (ci := 3) (v := .int w.2.2.2.2.2.2.2.2.2.1) (C := RX4) (T := TX4) (N := 20) hx hb hts (by decide +kernel) hown hK hP 0 rfl rfl 10 (by decide) (hts (.fieldLink RX4 51 "TrapMachineModel" "place" "I") (by decide +kernel)) (fun _ h9 => h9) rfl dX4_instruction_2 ?_
  refine lv_iconst (v := (0 : Int32)) hx hb dX4_instruction_5 (by decide) ?_
  obtain ⟨o1, h_o1⟩ : ∃ o9, (fX4_lookUp w w.2.2.2.2.2.2.2.2.2.1 (0 : Int32)) = o9 := ⟨_, rfl⟩
  refine wr_call (r := (some (.int o1.1))) (ws' := wM k z o1.2) (W.runV (C := RX4) (b := (z 0)) (As := [.int w.2.2.2.2.2.2.2.2.2.1, .int (0 : Int32)]) (rest := []) ⟨hx, hb, hml, hown, hts⟩ (kX4_lookUp l D k z w w.2.2.2.2.2.2.2.2.2.1 (0 : Int32) o1 h_o1) (cwV 2 hts gX4_instruction_X4_lookUp rfl rfl rfl (by decide +kernel) ⟨Nat.le_of_ble_eq_true rfl, Nat.le_of_ble_eq_true rfl⟩) (wr_preV bl_T pr_T hK hP hD (va_recv hK hP (ci := 3) (q0 := 0) rfl rfl)) rfl rfl hl.1 rfl (lv_room (Nat.le_of_ble_eq_true rfl)) dX4_instruction_6 ⟨Nat.zero_le _, Nat.zero_le _⟩) hP hD hS [0, 1, 2, 3, 4, 5, 6, 7, 8, 9] [] [0, 1, 2, 3, 4, 5, 6, 7, 8, 9] allM (by decide) prmM adrM (fun H locs hP hD hS => ?_)
  refine lv_istore_n (lv' := [(1, .int o1.1), (0, .ref (z 0))]) hx hb dX4_instruction_9 rfl hl (by decide) rfl (fun ls hl => ?_)
  refine lv_iload_n hx hb dX4_instruction_10 rfl (lv_at hl 0 rfl) ?_
  refine lv_iconst (v := (-1 : Int32)) hx hb dX4_instruction_11 (by decide) ?_
  refine lv_icmp_eq (tgt := 17) hx hb dX4_instruction_12 (by decide) (fun c_12 => ?_) (fun c_12 => ?_)
  · refine lv_aload_n hx hb dX4_instruction_17 rfl (lv_at hl 1 rfl) ?_
    refine va_get (D := D) (ci := 3) (v := .ref (z 1)) (C := RX4) (T := TX4) (N := 20) hx hb hts (by decide +kernel) hown hK hP 0 rfl rfl 1 (by decide) (hts (.fieldLink RX4 7 "TrapMachineModel" "memory" "[I") (by decide +kernel)) (fun _ h9 => h9) rfl dX4_instruction_18 ?_
    refine lv_aload_n hx hb dX4_instruction_21 rfl (lv_at hl 1 rfl) ?_
    refine va_get (D := D) (ci := 3) (v := .int o1.2.2.2.2.2.2.2.2.2.2.2.2.2.2.2.2.2.2.1) (C := RX4) (T := TX4) (N := 20) hx hb hts (by decide +kernel) hown hK hP 0 rfl rfl 18 (by decide) (hts (.fieldLink RX4 68 "TrapMachineModel" "found" "I") (by decide +kernel)) (fun _ h9 => h9) rfl dX4_instruction_22 ?_
    refine q_iald (j := (ix o1.2.2.2.2.2.2.2.2.2.2.2.2.2.2.2.2.2.2.1)) (x9 := (o1.2.2.1 (ix o1.2.2.2.2.2.2.2.2.2.2.2.2.2.2.2.2.2.2.1))) hx hb hK hP 1 0 rfl rfl (found_in h_o1 c_12) rfl rfl dX4_instruction_25 ?_
    refine lv_istore_n (lv' := [(2, .int (o1.2.2.1 (ix o1.2.2.2.2.2.2.2.2.2.2.2.2.2.2.2.2.2.2.1))), (1, .int o1.1), (0, .ref (z 0))]) hx hb dX4_instruction_26 rfl hl (by decide) rfl (fun ls hl => ?_)
    refine lv_iload_n hx hb dX4_instruction_27 rfl (lv_at hl 0 rfl) ?_
    refine lv_bipush (v := (24 : Int32)) hx hb dX4_instruction_28 (by decide) ?_
    refine lv_iushr (v := (iu (o1.2.2.1 (ix o1.2.2.2.2.2.2.2.2.2.2.2.2.2.2.2.2.2.2.1)) (24 : Int32))) hx hb dX4_instruction_30 rfl ?_
    refine lv_istore_n (lv' := [(3, .int (iu (o1.2.2.1 (ix o1.2.2.2.2.2.2.2.2.2.2.2.2.2.2.2.2.2.2.1)) (24 : Int32))), (2, .int (o1.2.2.1 (ix o1.2.2.2.2.2.2.2.2.2.2.2.2.2.2.2.2.2.2.1))), (1, .int o1.1), (0, .ref (z 0))]) hx hb dX4_instruction_31 rfl hl (by decide) rfl (fun ls hl => ?_)
    refine lv_iload_n hx hb dX4_instruction_32 rfl (lv_at hl 1 rfl) ?_
    refine lv_bipush (v := (16 : Int32)) hx hb dX4_instruction_33 (by decide) ?_
    refine lv_ishr hx hb dX4_instruction_35 ?_
    refine lv_sipush (v := (255 : Int32)) hx hb dX4_instruction_36 (by decide) ?_
    refine lv_iand hx hb dX4_instruction_39 ?_
    refine lv_istore (lv' := [(4, .int (((o1.2.2.1 (ix o1.2.2.2.2.2.2.2.2.2.2.2.2.2.2.2.2.2.2.1)) >>> ((16 : Int32) &&& 31)) &&& (255 : Int32))), (3, .int (iu (o1.2.2.1 (ix o1.2.2.2.2.2.2.2.2.2.2.2.2.2.2.2.2.2.2.1)) (24 : Int32))), (2, .int (o1.2.2.1 (ix o1.2.2.2.2.2.2.2.2.2.2.2.2.2.2.2.2.2.2.1))), (1, .int o1.1), (0, .ref (z 0))]) hx hb dX4_instruction_40 hl (by decide) rfl (fun ls hl => ?_)
    refine lv_iload_n hx hb dX4_instruction_42 rfl (lv_at hl 2 rfl) ?_
    refine lv_bipush (v := (8 : Int32)) hx hb dX4_instruction_43 (by decide) ?_
    refine lv_ishr hx hb dX4_instruction_45 ?_
    refine lv_sipush (v := (255 : Int32)) hx hb dX4_instruction_46 (by decide) ?_
    refine lv_iand hx hb dX4_instruction_49 ?_
    refine lv_istore (lv' := [(5, .int (((o1.2.2.1 (ix o1.2.2.2.2.2.2.2.2.2.2.2.2.2.2.2.2.2.2.1)) >>> ((8 : Int32) &&& 31)) &&& (255 : Int32))), (4, .int (((o1.2.2.1 (ix o1.2.2.2.2.2.2.2.2.2.2.2.2.2.2.2.2.2.2.1)) >>> ((16 : Int32) &&& 31)) &&& (255 : Int32))), (3, .int (iu (o1.2.2.1 (ix o1.2.2.2.2.2.2.2.2.2.2.2.2.2.2.2.2.2.2.1)) (24 : Int32))), (2, .int (o1.2.2.1 (ix o1.2.2.2.2.2.2.2.2.2.2.2.2.2.2.2.2.2.2.1))), (1, .int o1.1), (0, .ref (z 0))]) hx hb dX4_instruction_50 hl (by decide) rfl (fun ls hl => ?_)
    refine lv_iload_n hx hb dX4_instruction_52 rfl (lv_at hl 3 rfl) ?_
    refine lv_sipush (v := (255 : Int32)) hx hb dX4_instruction_53 (by decide) ?_
    refine lv_iand hx hb dX4_instruction_56 ?_
    refine lv_istore (lv' := [(6, .int ((o1.2.2.1 (ix o1.2.2.2.2.2.2.2.2.2.2.2.2.2.2.2.2.2.2.1)) &&& (255 : Int32))), (5, .int (((o1.2.2.1 (ix o1.2.2.2.2.2.2.2.2.2.2.2.2.2.2.2.2.2.2.1)) >>> ((8 : Int32) &&& 31)) &&& (255 : Int32))), (4, .int (((o1.2.2.1 (ix o1.2.2.2.2.2.2.2.2.2.2.2.2.2.2.2.2.2.2.1)) >>> ((16 : Int32) &&& 31)) &&& (255 : Int32))), (3, .int (iu (o1.2.2.1 (ix o1.2.2.2.2.2.2.2.2.2.2.2.2.2.2.2.2.2.2.1)) (24 : Int32))), (2, .int (o1.2.2.1 (ix o1.2.2.2.2.2.2.2.2.2.2.2.2.2.2.2.2.2.2.1))), (1, .int o1.1), (0, .ref (z 0))]) hx hb dX4_instruction_57 hl (by decide) rfl (fun ls hl => ?_)
    refine lv_iload hx hb dX4_instruction_59 (lv_at hl 0 rfl) ?_
    refine lv_sipush (v := (128 : Int32)) hx hb dX4_instruction_61 (by decide) ?_
    refine lv_icmp_ge (tgt := 72) hx hb dX4_instruction_64 (by decide) (fun c_64 => ?_) (fun c_64 => ?_)
    · refine lv_iload hx hb dX4_instruction_72 (lv_at hl 0 rfl) ?_
      refine lv_sipush (v := (256 : Int32)) hx hb dX4_instruction_74 (by decide) ?_
      refine lv_isub hx hb dX4_instruction_77 ?_
      refine lv_istore (lv' := [(7, .int (((o1.2.2.1 (ix o1.2.2.2.2.2.2.2.2.2.2.2.2.2.2.2.2.2.2.1)) &&& (255 : Int32)) - (256 : Int32))), (6, .int ((o1.2.2.1 (ix o1.2.2.2.2.2.2.2.2.2.2.2.2.2.2.2.2.2.2.1)) &&& (255 : Int32))), (5, .int (((o1.2.2.1 (ix o1.2.2.2.2.2.2.2.2.2.2.2.2.2.2.2.2.2.2.1)) >>> ((8 : Int32) &&& 31)) &&& (255 : Int32))), (4, .int (((o1.2.2.1 (ix o1.2.2.2.2.2.2.2.2.2.2.2.2.2.2.2.2.2.2.1)) >>> ((16 : Int32) &&& 31)) &&& (255 : Int32))), (3, .int (iu (o1.2.2.1 (ix o1.2.2.2.2.2.2.2.2.2.2.2.2.2.2.2.2.2.2.1)) (24 : Int32))), (2, .int (o1.2.2.1 (ix o1.2.2.2.2.2.2.2.2.2.2.2.2.2.2.2.2.2.2.1))), (1, .int o1.1), (0, .ref (z 0))]) hx hb dX4_instruction_78 hl (by decide) rfl (fun ls hl => ?_)
      refine lv_aload_n hx hb dX4_instruction_80 rfl (lv_at hl 7 rfl) ?_
      refine lv_aload_n hx hb dX4_instruction_81 rfl (lv_at hl 7 rfl) ?_
      refine va_get (D := D) (ci := 3) (v := .int o1.2.2.2.2.2.2.2.2.2.2.1) (C := RX4) (T := TX4) (N := 20) hx hb hts (by decide +kernel) hown hK hP 0 rfl rfl 10 (by decide) (hts (.fieldLink RX4 51 "TrapMachineModel" "place" "I") (by decide +kernel)) (fun _ h9 => h9) rfl dX4_instruction_82 ?_
      refine lv_iconst (v := (4 : Int32)) hx hb dX4_instruction_85 (by decide) ?_
      refine lv_iadd hx hb dX4_instruction_86 ?_
      refine va_put (D := D) (ci := 3) (v := .int (o1.2.2.2.2.2.2.2.2.2.2.1 + (4 : Int32))) (ty := .int) (C := RX4) (T := TX4) (N := 20) hx hb hts (by decide +kernel) tyX4 tyX4_ok nmX4 hown hK hP hD hS 0 rfl rfl 11 (by decide) (hts (.fieldLink RX4 100 "TrapMachineModel" "next" "I") (by decide +kernel)) (fun _ h9 => h9) rfl (by decide +kernel) rfl rfl (Nat.le_of_ble_eq_true rfl) dX4_instruction_87 (fun H locs hP hD hS => ?_)
      have hP : va_P D vwCl (wM k z (ms10 o1.2 (o1.2.2.2.2.2.2.2.2.2.2.1 + (4 : Int32)))) H := hP
      have hD : va_D (in_W (wM k z w)) (wM k z (ms10 o1.2 (o1.2.2.2.2.2.2.2.2.2.2.1 + (4 : Int32)))) := hD
      refine lv_iload_n hx hb dX4_instruction_90 rfl (lv_at hl 4 rfl) ?_
      refine lv_iconst (v := (1 : Int32)) hx hb dX4_instruction_91 (by decide) ?_
      refine lv_icmp_lt (tgt := 101) hx hb dX4_instruction_92 (by decide) (fun c_92 => ?_) (fun c_92 => ?_)
      · refine lv_aload_n hx hb dX4_instruction_101 rfl (lv_at hl 7 rfl) ?_
        refine lv_bipush (v := (13 : Int32)) hx hb dX4_instruction_102 (by decide) ?_
        refine lv_iconst (v := (0 : Int32)) hx hb dX4_instruction_104 (by decide) ?_
        refine lv_iconst (v := (0 : Int32)) hx hb dX4_instruction_105 (by decide) ?_
        obtain ⟨o2, h_o2⟩ : ∃ o9, (fX4_with (ms10 o1.2 (o1.2.2.2.2.2.2.2.2.2.2.1 + (4 : Int32))) (13 : Int32) (0 : Int32) (0 : Int32)) = o9 := ⟨_, rfl⟩
        refine wr_call (r := (some (.int o2.1))) (ws' := wM k z o2.2) (W.runV (C := RX4) (b := (z 0)) (As := [.int (13 : Int32), .int (0 : Int32), .int (0 : Int32)]) (rest := []) ⟨hx, hb, hml, hown, hts⟩ (kX4_with l D k z (ms10 o1.2 (o1.2.2.2.2.2.2.2.2.2.2.1 + (4 : Int32))) (13 : Int32) (0 : Int32) (0 : Int32) o2 h_o2) (cwV 3 hts gX4_instruction_X4_with rfl rfl rfl (by decide +kernel) ⟨Nat.le_of_ble_eq_true rfl, Nat.le_of_ble_eq_true rfl⟩) (wr_preV bl_T pr_T hK hP hD (va_recv hK hP (ci := 3) (q0 := 0) rfl rfl)) rfl rfl hl.1 rfl (lv_room (Nat.le_of_ble_eq_true rfl)) dX4_instruction_106 ⟨Nat.zero_le _, Nat.zero_le _⟩) hP hD hS [0, 1, 2, 3, 4, 5, 6, 7, 8, 9] [] [0, 1, 2, 3, 4, 5, 6, 7, 8, 9] allM (by decide) prmM adrM (fun H locs hP hD hS => ?_)
        exact W.iret (v := o2.1) hx hb hr (wr_end (congrArg (fun t9 : Int32 × MD => some (Value.int t9.1)) ((show fX4_instruction w = (o2.1, o2.2) from (by subst h_o1; subst h_o2; exact (if_pos c_12).trans ((if_pos c_64).trans ((if_pos c_92).trans rfl)))).symm.trans ho)) (congrArg (fun t9 : Int32 × MD => wM k z t9.2) ((show fX4_instruction w = (o2.1, o2.2) from (by subst h_o1; subst h_o2; exact (if_pos c_12).trans ((if_pos c_64).trans ((if_pos c_92).trans rfl)))).symm.trans ho)) hP hS) hS.2.2 dX4_instruction_109
      · refine lv_iload_n hx hb dX4_instruction_95 rfl (lv_at hl 4 rfl) ?_
        refine lv_bipush (v := (27 : Int32)) hx hb dX4_instruction_96 (by decide) ?_
        refine lv_icmp_le (tgt := 110) hx hb dX4_instruction_98 (by decide) (fun c_98 => ?_) (fun c_98 => ?_)
        · refine lv_iload_n hx hb dX4_instruction_110 rfl (lv_at hl 4 rfl) ?_
          refine lv_bipush (v := (8 : Int32)) hx hb dX4_instruction_111 (by decide) ?_
          refine lv_icmp_ge (tgt := 135) hx hb dX4_instruction_113 (by decide) (fun c_113 => ?_) (fun c_113 => ?_)
          · refine lv_iload_n hx hb dX4_instruction_135 rfl (lv_at hl 4 rfl) ?_
            refine lv_bipush (v := (12 : Int32)) hx hb dX4_instruction_136 (by decide) ?_
            refine lv_icmp_ge (tgt := 162) hx hb dX4_instruction_138 (by decide) (fun c_138 => ?_) (fun c_138 => ?_)
            · refine lv_iload_n hx hb dX4_instruction_162 rfl (lv_at hl 4 rfl) ?_
              refine lv_bipush (v := (18 : Int32)) hx hb dX4_instruction_163 (by decide) ?_
              refine lv_icmp_ge (tgt := 182) hx hb dX4_instruction_165 (by decide) (fun c_165 => ?_) (fun c_165 => ?_)
              · refine lv_aload_n hx hb dX4_instruction_182 rfl (lv_at hl 7 rfl) ?_
                refine lv_iload_n hx hb dX4_instruction_183 rfl (lv_at hl 4 rfl) ?_
                refine lv_iload hx hb dX4_instruction_184 (lv_at hl 3 rfl) ?_
                refine lv_iload hx hb dX4_instruction_186 (lv_at hl 2 rfl) ?_
                refine lv_iload hx hb dX4_instruction_188 (lv_at hl 1 rfl) ?_
                obtain ⟨o3, h_o3⟩ : ∃ o9, (fX4_govern (ms10 o1.2 (o1.2.2.2.2.2.2.2.2.2.2.1 + (4 : Int32))) (iu (o1.2.2.1 (ix o1.2.2.2.2.2.2.2.2.2.2.2.2.2.2.2.2.2.2.1)) (24 : Int32)) (((o1.2.2.1 (ix o1.2.2.2.2.2.2.2.2.2.2.2.2.2.2.2.2.2.2.1)) >>> ((16 : Int32) &&& 31)) &&& (255 : Int32)) (((o1.2.2.1 (ix o1.2.2.2.2.2.2.2.2.2.2.2.2.2.2.2.2.2.2.1)) >>> ((8 : Int32) &&& 31)) &&& (255 : Int32)) ((o1.2.2.1 (ix o1.2.2.2.2.2.2.2.2.2.2.2.2.2.2.2.2.2.2.1)) &&& (255 : Int32))) = o9 := ⟨_, rfl⟩
                refine wr_call (r := (some (.int o3.1))) (ws' := wM k z o3.2) (W.runV (C := RX4) (b := (z 0)) (As := [.int (iu (o1.2.2.1 (ix o1.2.2.2.2.2.2.2.2.2.2.2.2.2.2.2.2.2.2.1)) (24 : Int32)), .int (((o1.2.2.1 (ix o1.2.2.2.2.2.2.2.2.2.2.2.2.2.2.2.2.2.2.1)) >>> ((16 : Int32) &&& 31)) &&& (255 : Int32)), .int (((o1.2.2.1 (ix o1.2.2.2.2.2.2.2.2.2.2.2.2.2.2.2.2.2.2.1)) >>> ((8 : Int32) &&& 31)) &&& (255 : Int32)), .int ((o1.2.2.1 (ix o1.2.2.2.2.2.2.2.2.2.2.2.2.2.2.2.2.2.2.1)) &&& (255 : Int32))]) (rest := []) ⟨hx, hb, hml, hown, hts⟩ (kX4_govern l D k z (ms10 o1.2 (o1.2.2.2.2.2.2.2.2.2.2.1 + (4 : Int32))) (iu (o1.2.2.1 (ix o1.2.2.2.2.2.2.2.2.2.2.2.2.2.2.2.2.2.2.1)) (24 : Int32)) (((o1.2.2.1 (ix o1.2.2.2.2.2.2.2.2.2.2.2.2.2.2.2.2.2.2.1)) >>> ((16 : Int32) &&& 31)) &&& (255 : Int32)) (((o1.2.2.1 (ix o1.2.2.2.2.2.2.2.2.2.2.2.2.2.2.2.2.2.2.1)) >>> ((8 : Int32) &&& 31)) &&& (255 : Int32)) ((o1.2.2.1 (ix o1.2.2.2.2.2.2.2.2.2.2.2.2.2.2.2.2.2.2.1)) &&& (255 : Int32)) (vi255 _) (vi255 _) (vi255 _) (lk_f h_o1 hf) o3 h_o3) (cwV 4 hts gX4_instruction_X4_govern rfl rfl rfl (by decide +kernel) ⟨Nat.le_of_ble_eq_true rfl, Nat.le_of_ble_eq_true rfl⟩) (wr_preV bl_T pr_T hK hP hD (va_recv hK hP (ci := 3) (q0 := 0) rfl rfl)) rfl rfl hl.1 rfl (lv_room (Nat.le_of_ble_eq_true rfl)) dX4_instruction_190 ⟨Nat.zero_le _, Nat.zero_le _⟩) hP hD hS [0, 1, 2, 3, 4, 5, 6, 7, 8, 9] [] [0, 1, 2, 3, 4, 5, 6, 7, 8, 9] allM (by decide) prmM adrM (fun H locs hP hD hS => ?_)
                exact W.iret (v := o3.1) hx hb hr (wr_end (congrArg (fun t9 : Int32 × MD => some (Value.int t9.1)) ((show fX4_instruction w = (o3.1, o3.2) from (by subst h_o1; subst h_o3; exact (if_pos c_12).trans ((if_pos c_64).trans ((if_neg c_92).trans ((if_pos c_98).trans ((if_pos c_113).trans ((if_pos c_138).trans ((if_pos c_165).trans rfl)))))))).symm.trans ho)) (congrArg (fun t9 : Int32 × MD => wM k z t9.2) ((show fX4_instruction w = (o3.1, o3.2) from (by subst h_o1; subst h_o3; exact (if_pos c_12).trans ((if_pos c_64).trans ((if_neg c_92).trans ((if_pos c_98).trans ((if_pos c_113).trans ((if_pos c_138).trans ((if_pos c_165).trans rfl)))))))).symm.trans ho)) hP hS) hS.2.2 dX4_instruction_193
              · refine lv_aload_n hx hb dX4_instruction_168 rfl (lv_at hl 7 rfl) ?_
                refine lv_iload_n hx hb dX4_instruction_169 rfl (lv_at hl 4 rfl) ?_
                refine lv_iload hx hb dX4_instruction_170 (lv_at hl 3 rfl) ?_
                refine lv_iload hx hb dX4_instruction_172 (lv_at hl 2 rfl) ?_
                refine lv_iload hx hb dX4_instruction_174 (lv_at hl 0 rfl) ?_
                obtain ⟨o4, h_o4⟩ : ∃ o9, (fX4_go (ms10 o1.2 (o1.2.2.2.2.2.2.2.2.2.2.1 + (4 : Int32))) (iu (o1.2.2.1 (ix o1.2.2.2.2.2.2.2.2.2.2.2.2.2.2.2.2.2.2.1)) (24 : Int32)) (((o1.2.2.1 (ix o1.2.2.2.2.2.2.2.2.2.2.2.2.2.2.2.2.2.2.1)) >>> ((16 : Int32) &&& 31)) &&& (255 : Int32)) (((o1.2.2.1 (ix o1.2.2.2.2.2.2.2.2.2.2.2.2.2.2.2.2.2.2.1)) >>> ((8 : Int32) &&& 31)) &&& (255 : Int32)) (((o1.2.2.1 (ix o1.2.2.2.2.2.2.2.2.2.2.2.2.2.2.2.2.2.2.1)) &&& (255 : Int32)) - (256 : Int32))) = o9 := ⟨_, rfl⟩
                refine wr_call (r := (some (.int o4.1))) (ws' := wM k z o4.2) (W.runV (C := RX4) (b := (z 0)) (As := [.int (iu (o1.2.2.1 (ix o1.2.2.2.2.2.2.2.2.2.2.2.2.2.2.2.2.2.2.1)) (24 : Int32)), .int (((o1.2.2.1 (ix o1.2.2.2.2.2.2.2.2.2.2.2.2.2.2.2.2.2.2.1)) >>> ((16 : Int32) &&& 31)) &&& (255 : Int32)), .int (((o1.2.2.1 (ix o1.2.2.2.2.2.2.2.2.2.2.2.2.2.2.2.2.2.2.1)) >>> ((8 : Int32) &&& 31)) &&& (255 : Int32)), .int (((o1.2.2.1 (ix o1.2.2.2.2.2.2.2.2.2.2.2.2.2.2.2.2.2.2.1)) &&& (255 : Int32)) - (256 : Int32))]) (rest := []) ⟨hx, hb, hml, hown, hts⟩ (kX4_go l D k z (ms10 o1.2 (o1.2.2.2.2.2.2.2.2.2.2.1 + (4 : Int32))) (iu (o1.2.2.1 (ix o1.2.2.2.2.2.2.2.2.2.2.2.2.2.2.2.2.2.2.1)) (24 : Int32)) (((o1.2.2.1 (ix o1.2.2.2.2.2.2.2.2.2.2.2.2.2.2.2.2.2.2.1)) >>> ((16 : Int32) &&& 31)) &&& (255 : Int32)) (((o1.2.2.1 (ix o1.2.2.2.2.2.2.2.2.2.2.2.2.2.2.2.2.2.2.1)) >>> ((8 : Int32) &&& 31)) &&& (255 : Int32)) (((o1.2.2.1 (ix o1.2.2.2.2.2.2.2.2.2.2.2.2.2.2.2.2.2.2.1)) &&& (255 : Int32)) - (256 : Int32)) (vi255 _) (vi255 _) o4 h_o4) (cwV 4 hts gX4_instruction_X4_go rfl rfl rfl (by decide +kernel) ⟨Nat.le_of_ble_eq_true rfl, Nat.le_of_ble_eq_true rfl⟩) (wr_preV bl_T pr_T hK hP hD (va_recv hK hP (ci := 3) (q0 := 0) rfl rfl)) rfl rfl hl.1 rfl (lv_room (Nat.le_of_ble_eq_true rfl)) dX4_instruction_176 ⟨Nat.zero_le _, Nat.zero_le _⟩) hP hD hS [0, 1, 2, 3, 4, 5, 6, 7, 8, 9] [] [0, 1, 2, 3, 4, 5, 6, 7, 8, 9] allM (by decide) prmM adrM (fun H locs hP hD hS => ?_)
                refine lv_goto (tgt := 193) hx hb dX4_instruction_179 (by decide) ?_
                exact W.iret (v := o4.1) hx hb hr (wr_end (congrArg (fun t9 : Int32 × MD => some (Value.int t9.1)) ((show fX4_instruction w = (o4.1, o4.2) from (by subst h_o1; subst h_o4; exact (if_pos c_12).trans ((if_pos c_64).trans ((if_neg c_92).trans ((if_pos c_98).trans ((if_pos c_113).trans ((if_pos c_138).trans ((if_neg c_165).trans rfl)))))))).symm.trans ho)) (congrArg (fun t9 : Int32 × MD => wM k z t9.2) ((show fX4_instruction w = (o4.1, o4.2) from (by subst h_o1; subst h_o4; exact (if_pos c_12).trans ((if_pos c_64).trans ((if_neg c_92).trans ((if_pos c_98).trans ((if_pos c_113).trans ((if_pos c_138).trans ((if_neg c_165).trans rfl)))))))).symm.trans ho)) hP hS) hS.2.2 dX4_instruction_193
            · refine lv_aload_n hx hb dX4_instruction_141 rfl (lv_at hl 7 rfl) ?_
              refine lv_iload_n hx hb dX4_instruction_142 rfl (lv_at hl 4 rfl) ?_
              refine lv_iload hx hb dX4_instruction_143 (lv_at hl 3 rfl) ?_
              refine lv_aload_n hx hb dX4_instruction_145 rfl (lv_at hl 7 rfl) ?_
              refine va_get (D := D) (ci := 3) (v := .ref (z 2)) (C := RX4) (T := TX4) (N := 20) hx hb hts (by decide +kernel) hown hK hP 0 rfl rfl 2 (by decide) (hts (.fieldLink RX4 13 "TrapMachineModel" "register" "[I") (by decide +kernel)) (fun _ h9 => h9) rfl dX4_instruction_146 ?_
              refine lv_iload hx hb dX4_instruction_149 (lv_at hl 2 rfl) ?_
              refine lv_bipush (v := (8 : Int32)) hx hb dX4_instruction_151 (by decide) ?_
              refine lv_irem hx hb dX4_instruction_153 (by decide) ?_
              refine q_iald (j := (ix ((((o1.2.2.1 (ix o1.2.2.2.2.2.2.2.2.2.2.2.2.2.2.2.2.2.2.1)) >>> ((8 : Int32) &&& 31)) &&& (255 : Int32)) - (((o1.2.2.1 (ix o1.2.2.2.2.2.2.2.2.2.2.2.2.2.2.2.2.2.2.1)) >>> ((8 : Int32) &&& 31)) &&& (255 : Int32)) / (8 : Int32) * (8 : Int32)))) (x9 := (o1.2.2.2.1 (ix ((((o1.2.2.1 (ix o1.2.2.2.2.2.2.2.2.2.2.2.2.2.2.2.2.2.2.1)) >>> ((8 : Int32) &&& 31)) &&& (255 : Int32)) - (((o1.2.2.1 (ix o1.2.2.2.2.2.2.2.2.2.2.2.2.2.2.2.2.2.2.1)) >>> ((8 : Int32) &&& 31)) &&& (255 : Int32)) / (8 : Int32) * (8 : Int32))))) hx hb hK hP 2 0 rfl rfl (rem8_in (vi255 _)) rfl rfl dX4_instruction_154 ?_
              refine lv_iload hx hb dX4_instruction_155 (lv_at hl 0 rfl) ?_
              refine lv_iadd hx hb dX4_instruction_157 ?_
              obtain ⟨o5, h_o5⟩ : ∃ o9, (fX4_reach (ms10 o1.2 (o1.2.2.2.2.2.2.2.2.2.2.1 + (4 : Int32))) (iu (o1.2.2.1 (ix o1.2.2.2.2.2.2.2.2.2.2.2.2.2.2.2.2.2.2.1)) (24 : Int32)) (((o1.2.2.1 (ix o1.2.2.2.2.2.2.2.2.2.2.2.2.2.2.2.2.2.2.1)) >>> ((16 : Int32) &&& 31)) &&& (255 : Int32)) ((o1.2.2.2.1 (ix ((((o1.2.2.1 (ix o1.2.2.2.2.2.2.2.2.2.2.2.2.2.2.2.2.2.2.1)) >>> ((8 : Int32) &&& 31)) &&& (255 : Int32)) - (((o1.2.2.1 (ix o1.2.2.2.2.2.2.2.2.2.2.2.2.2.2.2.2.2.2.1)) >>> ((8 : Int32) &&& 31)) &&& (255 : Int32)) / (8 : Int32) * (8 : Int32)))) + (((o1.2.2.1 (ix o1.2.2.2.2.2.2.2.2.2.2.2.2.2.2.2.2.2.2.1)) &&& (255 : Int32)) - (256 : Int32)))) = o9 := ⟨_, rfl⟩
              refine wr_call (r := (some (.int o5.1))) (ws' := wM k z o5.2) (W.runV (C := RX4) (b := (z 0)) (As := [.int (iu (o1.2.2.1 (ix o1.2.2.2.2.2.2.2.2.2.2.2.2.2.2.2.2.2.2.1)) (24 : Int32)), .int (((o1.2.2.1 (ix o1.2.2.2.2.2.2.2.2.2.2.2.2.2.2.2.2.2.2.1)) >>> ((16 : Int32) &&& 31)) &&& (255 : Int32)), .int ((o1.2.2.2.1 (ix ((((o1.2.2.1 (ix o1.2.2.2.2.2.2.2.2.2.2.2.2.2.2.2.2.2.2.1)) >>> ((8 : Int32) &&& 31)) &&& (255 : Int32)) - (((o1.2.2.1 (ix o1.2.2.2.2.2.2.2.2.2.2.2.2.2.2.2.2.2.2.1)) >>> ((8 : Int32) &&& 31)) &&& (255 : Int32)) / (8 : Int32) * (8 : Int32)))) + (((o1.2.2.1 (ix o1.2.2.2.2.2.2.2.2.2.2.2.2.2.2.2.2.2.2.1)) &&& (255 : Int32)) - (256 : Int32)))]) (rest := []) ⟨hx, hb, hml, hown, hts⟩ (kX4_reach l D k z (ms10 o1.2 (o1.2.2.2.2.2.2.2.2.2.2.1 + (4 : Int32))) (iu (o1.2.2.1 (ix o1.2.2.2.2.2.2.2.2.2.2.2.2.2.2.2.2.2.2.1)) (24 : Int32)) (((o1.2.2.1 (ix o1.2.2.2.2.2.2.2.2.2.2.2.2.2.2.2.2.2.2.1)) >>> ((16 : Int32) &&& 31)) &&& (255 : Int32)) ((o1.2.2.2.1 (ix ((((o1.2.2.1 (ix o1.2.2.2.2.2.2.2.2.2.2.2.2.2.2.2.2.2.2.1)) >>> ((8 : Int32) &&& 31)) &&& (255 : Int32)) - (((o1.2.2.1 (ix o1.2.2.2.2.2.2.2.2.2.2.2.2.2.2.2.2.2.2.1)) >>> ((8 : Int32) &&& 31)) &&& (255 : Int32)) / (8 : Int32) * (8 : Int32)))) + (((o1.2.2.1 (ix o1.2.2.2.2.2.2.2.2.2.2.2.2.2.2.2.2.2.2.1)) &&& (255 : Int32)) - (256 : Int32))) (vi255 _) o5 h_o5) (cwV 3 hts gX4_instruction_X4_reach rfl rfl rfl (by decide +kernel) ⟨Nat.le_of_ble_eq_true rfl, Nat.le_of_ble_eq_true rfl⟩) (wr_preV bl_T pr_T hK hP hD (va_recv hK hP (ci := 3) (q0 := 0) rfl rfl)) rfl rfl hl.1 rfl (lv_room (Nat.le_of_ble_eq_true rfl)) dX4_instruction_158 ⟨Nat.zero_le _, Nat.zero_le _⟩) hP hD hS [0, 1, 2, 3, 4, 5, 6, 7, 8, 9] [] [0, 1, 2, 3, 4, 5, 6, 7, 8, 9] allM (by decide) prmM adrM (fun H locs hP hD hS => ?_)
              exact W.iret (v := o5.1) hx hb hr (wr_end (congrArg (fun t9 : Int32 × MD => some (Value.int t9.1)) ((show fX4_instruction w = (o5.1, o5.2) from (by subst h_o1; subst h_o5; exact (if_pos c_12).trans ((if_pos c_64).trans ((if_neg c_92).trans ((if_pos c_98).trans ((if_pos c_113).trans ((if_neg c_138).trans rfl))))))).symm.trans ho)) (congrArg (fun t9 : Int32 × MD => wM k z t9.2) ((show fX4_instruction w = (o5.1, o5.2) from (by subst h_o1; subst h_o5; exact (if_pos c_12).trans ((if_pos c_64).trans ((if_neg c_92).trans ((if_pos c_98).trans ((if_pos c_113).trans ((if_neg c_138).trans rfl))))))).symm.trans ho)) hP hS) hS.2.2 dX4_instruction_161
          · refine lv_aload_n hx hb dX4_instruction_116 rfl (lv_at hl 7 rfl) ?_
            refine lv_iload hx hb dX4_instruction_117 (lv_at hl 3 rfl) ?_
            refine lv_aload_n hx hb dX4_instruction_119 rfl (lv_at hl 7 rfl) ?_
            refine lv_iload_n hx hb dX4_instruction_120 rfl (lv_at hl 4 rfl) ?_
            refine lv_iload hx hb dX4_instruction_121 (lv_at hl 2 rfl) ?_
            refine lv_iload hx hb dX4_instruction_123 (lv_at hl 1 rfl) ?_
            refine lv_iload hx hb dX4_instruction_125 (lv_at hl 0 rfl) ?_
            refine rd_call (r := (fX4_reckon (ms10 o1.2 (o1.2.2.2.2.2.2.2.2.2.2.1 + (4 : Int32))) (iu (o1.2.2.1 (ix o1.2.2.2.2.2.2.2.2.2.2.2.2.2.2.2.2.2.2.1)) (24 : Int32)) (((o1.2.2.1 (ix o1.2.2.2.2.2.2.2.2.2.2.2.2.2.2.2.2.2.2.1)) >>> ((8 : Int32) &&& 31)) &&& (255 : Int32)) ((o1.2.2.1 (ix o1.2.2.2.2.2.2.2.2.2.2.2.2.2.2.2.2.2.2.1)) &&& (255 : Int32)) (((o1.2.2.1 (ix o1.2.2.2.2.2.2.2.2.2.2.2.2.2.2.2.2.2.2.1)) &&& (255 : Int32)) - (256 : Int32)))) (W.runV (C := RX4) (b := (z 0)) (As := [.int (iu (o1.2.2.1 (ix o1.2.2.2.2.2.2.2.2.2.2.2.2.2.2.2.2.2.2.1)) (24 : Int32)), .int (((o1.2.2.1 (ix o1.2.2.2.2.2.2.2.2.2.2.2.2.2.2.2.2.2.2.1)) >>> ((8 : Int32) &&& 31)) &&& (255 : Int32)), .int ((o1.2.2.1 (ix o1.2.2.2.2.2.2.2.2.2.2.2.2.2.2.2.2.2.2.1)) &&& (255 : Int32)), .int (((o1.2.2.1 (ix o1.2.2.2.2.2.2.2.2.2.2.2.2.2.2.2.2.2.2.1)) &&& (255 : Int32)) - (256 : Int32))]) (rest := [.int (((o1.2.2.1 (ix o1.2.2.2.2.2.2.2.2.2.2.2.2.2.2.2.2.2.2.1)) >>> ((16 : Int32) &&& 31)) &&& (255 : Int32)), .ref (z 0)]) ⟨hx, hb, hml, hown, hts⟩ (kX4_reckon l D k z (ms10 o1.2 (o1.2.2.2.2.2.2.2.2.2.2.1 + (4 : Int32))) (iu (o1.2.2.1 (ix o1.2.2.2.2.2.2.2.2.2.2.2.2.2.2.2.2.2.2.1)) (24 : Int32)) (((o1.2.2.1 (ix o1.2.2.2.2.2.2.2.2.2.2.2.2.2.2.2.2.2.2.1)) >>> ((8 : Int32) &&& 31)) &&& (255 : Int32)) ((o1.2.2.1 (ix o1.2.2.2.2.2.2.2.2.2.2.2.2.2.2.2.2.2.2.1)) &&& (255 : Int32)) (((o1.2.2.1 (ix o1.2.2.2.2.2.2.2.2.2.2.2.2.2.2.2.2.2.2.1)) &&& (255 : Int32)) - (256 : Int32)) (vi255 _) (vi255 _)) (cwV 4 hts gX4_instruction_X4_reckon rfl rfl rfl (by decide +kernel) ⟨Nat.le_of_ble_eq_true rfl, Nat.le_of_ble_eq_true rfl⟩) (rd_preV bl_T pr_T hK hP (va_recv hK hP (ci := 3) (q0 := 0) rfl rfl)) rfl rfl hl.1 rfl (lv_room (Nat.le_of_ble_eq_true rfl)) dX4_instruction_127 ⟨Nat.zero_le _, Nat.zero_le _⟩) ?_
            obtain ⟨o6, h_o6⟩ : ∃ o9, (fX4_put (ms10 o1.2 (o1.2.2.2.2.2.2.2.2.2.2.1 + (4 : Int32))) (((o1.2.2.1 (ix o1.2.2.2.2.2.2.2.2.2.2.2.2.2.2.2.2.2.2.1)) >>> ((16 : Int32) &&& 31)) &&& (255 : Int32)) (fX4_reckon (ms10 o1.2 (o1.2.2.2.2.2.2.2.2.2.2.1 + (4 : Int32))) (iu (o1.2.2.1 (ix o1.2.2.2.2.2.2.2.2.2.2.2.2.2.2.2.2.2.2.1)) (24 : Int32)) (((o1.2.2.1 (ix o1.2.2.2.2.2.2.2.2.2.2.2.2.2.2.2.2.2.2.1)) >>> ((8 : Int32) &&& 31)) &&& (255 : Int32)) ((o1.2.2.1 (ix o1.2.2.2.2.2.2.2.2.2.2.2.2.2.2.2.2.2.2.1)) &&& (255 : Int32)) (((o1.2.2.1 (ix o1.2.2.2.2.2.2.2.2.2.2.2.2.2.2.2.2.2.2.1)) &&& (255 : Int32)) - (256 : Int32)))) = o9 := ⟨_, rfl⟩
            refine wr_call (r := none) (ws' := wM k z o6) (W.runV (C := RX4) (b := (z 0)) (As := [.int (((o1.2.2.1 (ix o1.2.2.2.2.2.2.2.2.2.2.2.2.2.2.2.2.2.2.1)) >>> ((16 : Int32) &&& 31)) &&& (255 : Int32)), .int (fX4_reckon (ms10 o1.2 (o1.2.2.2.2.2.2.2.2.2.2.1 + (4 : Int32))) (iu (o1.2.2.1 (ix o1.2.2.2.2.2.2.2.2.2.2.2.2.2.2.2.2.2.2.1)) (24 : Int32)) (((o1.2.2.1 (ix o1.2.2.2.2.2.2.2.2.2.2.2.2.2.2.2.2.2.2.1)) >>> ((8 : Int32) &&& 31)) &&& (255 : Int32)) ((o1.2.2.1 (ix o1.2.2.2.2.2.2.2.2.2.2.2.2.2.2.2.2.2.2.1)) &&& (255 : Int32)) (((o1.2.2.1 (ix o1.2.2.2.2.2.2.2.2.2.2.2.2.2.2.2.2.2.2.1)) &&& (255 : Int32)) - (256 : Int32)))]) (rest := []) ⟨hx, hb, hml, hown, hts⟩ (kX4_put l D k z (ms10 o1.2 (o1.2.2.2.2.2.2.2.2.2.2.1 + (4 : Int32))) (((o1.2.2.1 (ix o1.2.2.2.2.2.2.2.2.2.2.2.2.2.2.2.2.2.2.1)) >>> ((16 : Int32) &&& 31)) &&& (255 : Int32)) (fX4_reckon (ms10 o1.2 (o1.2.2.2.2.2.2.2.2.2.2.1 + (4 : Int32))) (iu (o1.2.2.1 (ix o1.2.2.2.2.2.2.2.2.2.2.2.2.2.2.2.2.2.2.1)) (24 : Int32)) (((o1.2.2.1 (ix o1.2.2.2.2.2.2.2.2.2.2.2.2.2.2.2.2.2.2.1)) >>> ((8 : Int32) &&& 31)) &&& (255 : Int32)) ((o1.2.2.1 (ix o1.2.2.2.2.2.2.2.2.2.2.2.2.2.2.2.2.2.2.1)) &&& (255 : Int32)) (((o1.2.2.1 (ix o1.2.2.2.2.2.2.2.2.2.2.2.2.2.2.2.2.2.2.1)) &&& (255 : Int32)) - (256 : Int32))) (vi255 _) o6 h_o6) (cwV 2 hts gX4_instruction_X4_put rfl rfl rfl (by decide +kernel) ⟨Nat.le_of_ble_eq_true rfl, Nat.le_of_ble_eq_true rfl⟩) (wr_preV bl_T pr_T hK hP hD (va_recv hK hP (ci := 3) (q0 := 0) rfl rfl)) rfl rfl hl.1 rfl (lv_room (Nat.le_of_ble_eq_true rfl)) dX4_instruction_130 ⟨Nat.zero_le _, Nat.zero_le _⟩) hP hD hS [0, 1, 2, 3, 4, 5, 6, 7, 8, 9] [] [0, 1, 2, 3, 4, 5, 6, 7, 8, 9] allM (by decide) prmM adrM (fun H locs hP hD hS => ?_)
            refine lv_iconst (v := (-1 : Int32)) hx hb dX4_instruction_133 (by decide) ?_
            exact W.iret (v := (-1 : Int32)) hx hb hr (wr_end (congrArg (fun t9 : Int32 × MD => some (Value.int t9.1)) ((show fX4_instruction w = ((-1 : Int32), o6) from (by subst h_o1; subst h_o6; exact (if_pos c_12).trans ((if_pos c_64).trans ((if_neg c_92).trans ((if_pos c_98).trans ((if_neg c_113).trans rfl)))))).symm.trans ho)) (congrArg (fun t9 : Int32 × MD => wM k z t9.2) ((show fX4_instruction w = ((-1 : Int32), o6) from (by subst h_o1; subst h_o6; exact (if_pos c_12).trans ((if_pos c_64).trans ((if_neg c_92).trans ((if_pos c_98).trans ((if_neg c_113).trans rfl)))))).symm.trans ho)) hP hS) hS.2.2 dX4_instruction_134
        · refine lv_aload_n hx hb dX4_instruction_101 rfl (lv_at hl 7 rfl) ?_
          refine lv_bipush (v := (13 : Int32)) hx hb dX4_instruction_102 (by decide) ?_
          refine lv_iconst (v := (0 : Int32)) hx hb dX4_instruction_104 (by decide) ?_
          refine lv_iconst (v := (0 : Int32)) hx hb dX4_instruction_105 (by decide) ?_
          obtain ⟨o7, h_o7⟩ : ∃ o9, (fX4_with (ms10 o1.2 (o1.2.2.2.2.2.2.2.2.2.2.1 + (4 : Int32))) (13 : Int32) (0 : Int32) (0 : Int32)) = o9 := ⟨_, rfl⟩
          refine wr_call (r := (some (.int o7.1))) (ws' := wM k z o7.2) (W.runV (C := RX4) (b := (z 0)) (As := [.int (13 : Int32), .int (0 : Int32), .int (0 : Int32)]) (rest := []) ⟨hx, hb, hml, hown, hts⟩ (kX4_with l D k z (ms10 o1.2 (o1.2.2.2.2.2.2.2.2.2.2.1 + (4 : Int32))) (13 : Int32) (0 : Int32) (0 : Int32) o7 h_o7) (cwV 3 hts gX4_instruction_X4_with rfl rfl rfl (by decide +kernel) ⟨Nat.le_of_ble_eq_true rfl, Nat.le_of_ble_eq_true rfl⟩) (wr_preV bl_T pr_T hK hP hD (va_recv hK hP (ci := 3) (q0 := 0) rfl rfl)) rfl rfl hl.1 rfl (lv_room (Nat.le_of_ble_eq_true rfl)) dX4_instruction_106 ⟨Nat.zero_le _, Nat.zero_le _⟩) hP hD hS [0, 1, 2, 3, 4, 5, 6, 7, 8, 9] [] [0, 1, 2, 3, 4, 5, 6, 7, 8, 9] allM (by decide) prmM adrM (fun H locs hP hD hS => ?_)
          exact W.iret (v := o7.1) hx hb hr (wr_end (congrArg (fun t9 : Int32 × MD => some (Value.int t9.1)) ((show fX4_instruction w = (o7.1, o7.2) from (by subst h_o1; subst h_o7; exact (if_pos c_12).trans ((if_pos c_64).trans ((if_neg c_92).trans ((if_neg c_98).trans rfl))))).symm.trans ho)) (congrArg (fun t9 : Int32 × MD => wM k z t9.2) ((show fX4_instruction w = (o7.1, o7.2) from (by subst h_o1; subst h_o7; exact (if_pos c_12).trans ((if_pos c_64).trans ((if_neg c_92).trans ((if_neg c_98).trans rfl))))).symm.trans ho)) hP hS) hS.2.2 dX4_instruction_109
    · refine lv_iload hx hb dX4_instruction_67 (lv_at hl 0 rfl) ?_
      refine lv_goto (tgt := 78) hx hb dX4_instruction_69 (by decide) ?_
      refine lv_istore (lv' := [(7, .int ((o1.2.2.1 (ix o1.2.2.2.2.2.2.2.2.2.2.2.2.2.2.2.2.2.2.1)) &&& (255 : Int32))), (6, .int ((o1.2.2.1 (ix o1.2.2.2.2.2.2.2.2.2.2.2.2.2.2.2.2.2.2.1)) &&& (255 : Int32))), (5, .int (((o1.2.2.1 (ix o1.2.2.2.2.2.2.2.2.2.2.2.2.2.2.2.2.2.2.1)) >>> ((8 : Int32) &&& 31)) &&& (255 : Int32))), (4, .int (((o1.2.2.1 (ix o1.2.2.2.2.2.2.2.2.2.2.2.2.2.2.2.2.2.2.1)) >>> ((16 : Int32) &&& 31)) &&& (255 : Int32))), (3, .int (iu (o1.2.2.1 (ix o1.2.2.2.2.2.2.2.2.2.2.2.2.2.2.2.2.2.2.1)) (24 : Int32))), (2, .int (o1.2.2.1 (ix o1.2.2.2.2.2.2.2.2.2.2.2.2.2.2.2.2.2.2.1))), (1, .int o1.1), (0, .ref (z 0))]) hx hb dX4_instruction_78 hl (by decide) rfl (fun ls hl => ?_)
      refine lv_aload_n hx hb dX4_instruction_80 rfl (lv_at hl 7 rfl) ?_
      refine lv_aload_n hx hb dX4_instruction_81 rfl (lv_at hl 7 rfl) ?_
      refine va_get (D := D) (ci := 3) (v := .int o1.2.2.2.2.2.2.2.2.2.2.1) (C := RX4) (T := TX4) (N := 20) hx hb hts (by decide +kernel) hown hK hP 0 rfl rfl 10 (by decide) (hts (.fieldLink RX4 51 "TrapMachineModel" "place" "I") (by decide +kernel)) (fun _ h9 => h9) rfl dX4_instruction_82 ?_
      refine lv_iconst (v := (4 : Int32)) hx hb dX4_instruction_85 (by decide) ?_
      refine lv_iadd hx hb dX4_instruction_86 ?_
      refine va_put (D := D) (ci := 3) (v := .int (o1.2.2.2.2.2.2.2.2.2.2.1 + (4 : Int32))) (ty := .int) (C := RX4) (T := TX4) (N := 20) hx hb hts (by decide +kernel) tyX4 tyX4_ok nmX4 hown hK hP hD hS 0 rfl rfl 11 (by decide) (hts (.fieldLink RX4 100 "TrapMachineModel" "next" "I") (by decide +kernel)) (fun _ h9 => h9) rfl (by decide +kernel) rfl rfl (Nat.le_of_ble_eq_true rfl) dX4_instruction_87 (fun H locs hP hD hS => ?_)
      have hP : va_P D vwCl (wM k z (ms10 o1.2 (o1.2.2.2.2.2.2.2.2.2.2.1 + (4 : Int32)))) H := hP
      have hD : va_D (in_W (wM k z w)) (wM k z (ms10 o1.2 (o1.2.2.2.2.2.2.2.2.2.2.1 + (4 : Int32)))) := hD
      refine lv_iload_n hx hb dX4_instruction_90 rfl (lv_at hl 4 rfl) ?_
      refine lv_iconst (v := (1 : Int32)) hx hb dX4_instruction_91 (by decide) ?_
      refine lv_icmp_lt (tgt := 101) hx hb dX4_instruction_92 (by decide) (fun c_92 => ?_) (fun c_92 => ?_)
      · refine lv_aload_n hx hb dX4_instruction_101 rfl (lv_at hl 7 rfl) ?_
        refine lv_bipush (v := (13 : Int32)) hx hb dX4_instruction_102 (by decide) ?_
        refine lv_iconst (v := (0 : Int32)) hx hb dX4_instruction_104 (by decide) ?_
        refine lv_iconst (v := (0 : Int32)) hx hb dX4_instruction_105 (by decide) ?_
        obtain ⟨o8, h_o8⟩ : ∃ o9, (fX4_with (ms10 o1.2 (o1.2.2.2.2.2.2.2.2.2.2.1 + (4 : Int32))) (13 : Int32) (0 : Int32) (0 : Int32)) = o9 := ⟨_, rfl⟩
        refine wr_call (r := (some (.int o8.1))) (ws' := wM k z o8.2) (W.runV (C := RX4) (b := (z 0)) (As := [.int (13 : Int32), .int (0 : Int32), .int (0 : Int32)]) (rest := []) ⟨hx, hb, hml, hown, hts⟩ (kX4_with l D k z (ms10 o1.2 (o1.2.2.2.2.2.2.2.2.2.2.1 + (4 : Int32))) (13 : Int32) (0 : Int32) (0 : Int32) o8 h_o8) (cwV 3 hts gX4_instruction_X4_with rfl rfl rfl (by decide +kernel) ⟨Nat.le_of_ble_eq_true rfl, Nat.le_of_ble_eq_true rfl⟩) (wr_preV bl_T pr_T hK hP hD (va_recv hK hP (ci := 3) (q0 := 0) rfl rfl)) rfl rfl hl.1 rfl (lv_room (Nat.le_of_ble_eq_true rfl)) dX4_instruction_106 ⟨Nat.zero_le _, Nat.zero_le _⟩) hP hD hS [0, 1, 2, 3, 4, 5, 6, 7, 8, 9] [] [0, 1, 2, 3, 4, 5, 6, 7, 8, 9] allM (by decide) prmM adrM (fun H locs hP hD hS => ?_)
        exact W.iret (v := o8.1) hx hb hr (wr_end (congrArg (fun t9 : Int32 × MD => some (Value.int t9.1)) ((show fX4_instruction w = (o8.1, o8.2) from (by subst h_o1; subst h_o8; exact (if_pos c_12).trans ((if_neg c_64).trans ((if_pos c_92).trans rfl)))).symm.trans ho)) (congrArg (fun t9 : Int32 × MD => wM k z t9.2) ((show fX4_instruction w = (o8.1, o8.2) from (by subst h_o1; subst h_o8; exact (if_pos c_12).trans ((if_neg c_64).trans ((if_pos c_92).trans rfl)))).symm.trans ho)) hP hS) hS.2.2 dX4_instruction_109
      · refine lv_iload_n hx hb dX4_instruction_95 rfl (lv_at hl 4 rfl) ?_
        refine lv_bipush (v := (27 : Int32)) hx hb dX4_instruction_96 (by decide) ?_
        refine lv_icmp_le (tgt := 110) hx hb dX4_instruction_98 (by decide) (fun c_98 => ?_) (fun c_98 => ?_)
        · refine lv_iload_n hx hb dX4_instruction_110 rfl (lv_at hl 4 rfl) ?_
          refine lv_bipush (v := (8 : Int32)) hx hb dX4_instruction_111 (by decide) ?_
          refine lv_icmp_ge (tgt := 135) hx hb dX4_instruction_113 (by decide) (fun c_113 => ?_) (fun c_113 => ?_)
          · refine lv_iload_n hx hb dX4_instruction_135 rfl (lv_at hl 4 rfl) ?_
            refine lv_bipush (v := (12 : Int32)) hx hb dX4_instruction_136 (by decide) ?_
            refine lv_icmp_ge (tgt := 162) hx hb dX4_instruction_138 (by decide) (fun c_138 => ?_) (fun c_138 => ?_)
            · refine lv_iload_n hx hb dX4_instruction_162 rfl (lv_at hl 4 rfl) ?_
              refine lv_bipush (v := (18 : Int32)) hx hb dX4_instruction_163 (by decide) ?_
              refine lv_icmp_ge (tgt := 182) hx hb dX4_instruction_165 (by decide) (fun c_165 => ?_) (fun c_165 => ?_)
              · refine lv_aload_n hx hb dX4_instruction_182 rfl (lv_at hl 7 rfl) ?_
                refine lv_iload_n hx hb dX4_instruction_183 rfl (lv_at hl 4 rfl) ?_
                refine lv_iload hx hb dX4_instruction_184 (lv_at hl 3 rfl) ?_
                refine lv_iload hx hb dX4_instruction_186 (lv_at hl 2 rfl) ?_
                refine lv_iload hx hb dX4_instruction_188 (lv_at hl 1 rfl) ?_
                obtain ⟨o9, h_o9⟩ : ∃ o9, (fX4_govern (ms10 o1.2 (o1.2.2.2.2.2.2.2.2.2.2.1 + (4 : Int32))) (iu (o1.2.2.1 (ix o1.2.2.2.2.2.2.2.2.2.2.2.2.2.2.2.2.2.2.1)) (24 : Int32)) (((o1.2.2.1 (ix o1.2.2.2.2.2.2.2.2.2.2.2.2.2.2.2.2.2.2.1)) >>> ((16 : Int32) &&& 31)) &&& (255 : Int32)) (((o1.2.2.1 (ix o1.2.2.2.2.2.2.2.2.2.2.2.2.2.2.2.2.2.2.1)) >>> ((8 : Int32) &&& 31)) &&& (255 : Int32)) ((o1.2.2.1 (ix o1.2.2.2.2.2.2.2.2.2.2.2.2.2.2.2.2.2.2.1)) &&& (255 : Int32))) = o9 := ⟨_, rfl⟩
                refine wr_call (r := (some (.int o9.1))) (ws' := wM k z o9.2) (W.runV (C := RX4) (b := (z 0)) (As := [.int (iu (o1.2.2.1 (ix o1.2.2.2.2.2.2.2.2.2.2.2.2.2.2.2.2.2.2.1)) (24 : Int32)), .int (((o1.2.2.1 (ix o1.2.2.2.2.2.2.2.2.2.2.2.2.2.2.2.2.2.2.1)) >>> ((16 : Int32) &&& 31)) &&& (255 : Int32)), .int (((o1.2.2.1 (ix o1.2.2.2.2.2.2.2.2.2.2.2.2.2.2.2.2.2.2.1)) >>> ((8 : Int32) &&& 31)) &&& (255 : Int32)), .int ((o1.2.2.1 (ix o1.2.2.2.2.2.2.2.2.2.2.2.2.2.2.2.2.2.2.1)) &&& (255 : Int32))]) (rest := []) ⟨hx, hb, hml, hown, hts⟩ (kX4_govern l D k z (ms10 o1.2 (o1.2.2.2.2.2.2.2.2.2.2.1 + (4 : Int32))) (iu (o1.2.2.1 (ix o1.2.2.2.2.2.2.2.2.2.2.2.2.2.2.2.2.2.2.1)) (24 : Int32)) (((o1.2.2.1 (ix o1.2.2.2.2.2.2.2.2.2.2.2.2.2.2.2.2.2.2.1)) >>> ((16 : Int32) &&& 31)) &&& (255 : Int32)) (((o1.2.2.1 (ix o1.2.2.2.2.2.2.2.2.2.2.2.2.2.2.2.2.2.2.1)) >>> ((8 : Int32) &&& 31)) &&& (255 : Int32)) ((o1.2.2.1 (ix o1.2.2.2.2.2.2.2.2.2.2.2.2.2.2.2.2.2.2.1)) &&& (255 : Int32)) (vi255 _) (vi255 _) (vi255 _) (lk_f h_o1 hf) o9 h_o9) (cwV 4 hts gX4_instruction_X4_govern rfl rfl rfl (by decide +kernel) ⟨Nat.le_of_ble_eq_true rfl, Nat.le_of_ble_eq_true rfl⟩) (wr_preV bl_T pr_T hK hP hD (va_recv hK hP (ci := 3) (q0 := 0) rfl rfl)) rfl rfl hl.1 rfl (lv_room (Nat.le_of_ble_eq_true rfl)) dX4_instruction_190 ⟨Nat.zero_le _, Nat.zero_le _⟩) hP hD hS [0, 1, 2, 3, 4, 5, 6, 7, 8, 9] [] [0, 1, 2, 3, 4, 5, 6, 7, 8, 9] allM (by decide) prmM adrM (fun H locs hP hD hS => ?_)
                exact W.iret (v := o9.1) hx hb hr (wr_end (congrArg (fun t9 : Int32 × MD => some (Value.int t9.1)) ((show fX4_instruction w = (o9.1, o9.2) from (by subst h_o1; subst h_o9; exact (if_pos c_12).trans ((if_neg c_64).trans ((if_neg c_92).trans ((if_pos c_98).trans ((if_pos c_113).trans ((if_pos c_138).trans ((if_pos c_165).trans rfl)))))))).symm.trans ho)) (congrArg (fun t9 : Int32 × MD => wM k z t9.2) ((show fX4_instruction w = (o9.1, o9.2) from (by subst h_o1; subst h_o9; exact (if_pos c_12).trans ((if_neg c_64).trans ((if_neg c_92).trans ((if_pos c_98).trans ((if_pos c_113).trans ((if_pos c_138).trans ((if_pos c_165).trans rfl)))))))).symm.trans ho)) hP hS) hS.2.2 dX4_instruction_193
              · refine lv_aload_n hx hb dX4_instruction_168 rfl (lv_at hl 7 rfl) ?_
                refine lv_iload_n hx hb dX4_instruction_169 rfl (lv_at hl 4 rfl) ?_
                refine lv_iload hx hb dX4_instruction_170 (lv_at hl 3 rfl) ?_
                refine lv_iload hx hb dX4_instruction_172 (lv_at hl 2 rfl) ?_
                refine lv_iload hx hb dX4_instruction_174 (lv_at hl 0 rfl) ?_
                obtain ⟨o10, h_o10⟩ : ∃ o9, (fX4_go (ms10 o1.2 (o1.2.2.2.2.2.2.2.2.2.2.1 + (4 : Int32))) (iu (o1.2.2.1 (ix o1.2.2.2.2.2.2.2.2.2.2.2.2.2.2.2.2.2.2.1)) (24 : Int32)) (((o1.2.2.1 (ix o1.2.2.2.2.2.2.2.2.2.2.2.2.2.2.2.2.2.2.1)) >>> ((16 : Int32) &&& 31)) &&& (255 : Int32)) (((o1.2.2.1 (ix o1.2.2.2.2.2.2.2.2.2.2.2.2.2.2.2.2.2.2.1)) >>> ((8 : Int32) &&& 31)) &&& (255 : Int32)) ((o1.2.2.1 (ix o1.2.2.2.2.2.2.2.2.2.2.2.2.2.2.2.2.2.2.1)) &&& (255 : Int32))) = o9 := ⟨_, rfl⟩
                refine wr_call (r := (some (.int o10.1))) (ws' := wM k z o10.2) (W.runV (C := RX4) (b := (z 0)) (As := [.int (iu (o1.2.2.1 (ix o1.2.2.2.2.2.2.2.2.2.2.2.2.2.2.2.2.2.2.1)) (24 : Int32)), .int (((o1.2.2.1 (ix o1.2.2.2.2.2.2.2.2.2.2.2.2.2.2.2.2.2.2.1)) >>> ((16 : Int32) &&& 31)) &&& (255 : Int32)), .int (((o1.2.2.1 (ix o1.2.2.2.2.2.2.2.2.2.2.2.2.2.2.2.2.2.2.1)) >>> ((8 : Int32) &&& 31)) &&& (255 : Int32)), .int ((o1.2.2.1 (ix o1.2.2.2.2.2.2.2.2.2.2.2.2.2.2.2.2.2.2.1)) &&& (255 : Int32))]) (rest := []) ⟨hx, hb, hml, hown, hts⟩ (kX4_go l D k z (ms10 o1.2 (o1.2.2.2.2.2.2.2.2.2.2.1 + (4 : Int32))) (iu (o1.2.2.1 (ix o1.2.2.2.2.2.2.2.2.2.2.2.2.2.2.2.2.2.2.1)) (24 : Int32)) (((o1.2.2.1 (ix o1.2.2.2.2.2.2.2.2.2.2.2.2.2.2.2.2.2.2.1)) >>> ((16 : Int32) &&& 31)) &&& (255 : Int32)) (((o1.2.2.1 (ix o1.2.2.2.2.2.2.2.2.2.2.2.2.2.2.2.2.2.2.1)) >>> ((8 : Int32) &&& 31)) &&& (255 : Int32)) ((o1.2.2.1 (ix o1.2.2.2.2.2.2.2.2.2.2.2.2.2.2.2.2.2.2.1)) &&& (255 : Int32)) (vi255 _) (vi255 _) o10 h_o10) (cwV 4 hts gX4_instruction_X4_go rfl rfl rfl (by decide +kernel) ⟨Nat.le_of_ble_eq_true rfl, Nat.le_of_ble_eq_true rfl⟩) (wr_preV bl_T pr_T hK hP hD (va_recv hK hP (ci := 3) (q0 := 0) rfl rfl)) rfl rfl hl.1 rfl (lv_room (Nat.le_of_ble_eq_true rfl)) dX4_instruction_176 ⟨Nat.zero_le _, Nat.zero_le _⟩) hP hD hS [0, 1, 2, 3, 4, 5, 6, 7, 8, 9] [] [0, 1, 2, 3, 4, 5, 6, 7, 8, 9] allM (by decide) prmM adrM (fun H locs hP hD hS => ?_)
                refine lv_goto (tgt := 193) hx hb dX4_instruction_179 (by decide) ?_
                exact W.iret (v := o10.1) hx hb hr (wr_end (congrArg (fun t9 : Int32 × MD => some (Value.int t9.1)) ((show fX4_instruction w = (o10.1, o10.2) from (by subst h_o1; subst h_o10; exact (if_pos c_12).trans ((if_neg c_64).trans ((if_neg c_92).trans ((if_pos c_98).trans ((if_pos c_113).trans ((if_pos c_138).trans ((if_neg c_165).trans rfl)))))))).symm.trans ho)) (congrArg (fun t9 : Int32 × MD => wM k z t9.2) ((show fX4_instruction w = (o10.1, o10.2) from (by subst h_o1; subst h_o10; exact (if_pos c_12).trans ((if_neg c_64).trans ((if_neg c_92).trans ((if_pos c_98).trans ((if_pos c_113).trans ((if_pos c_138).trans ((if_neg c_165).trans rfl)))))))).symm.trans ho)) hP hS) hS.2.2 dX4_instruction_193
            · refine lv_aload_n hx hb dX4_instruction_141 rfl (lv_at hl 7 rfl) ?_
              refine lv_iload_n hx hb dX4_instruction_142 rfl (lv_at hl 4 rfl) ?_
              refine lv_iload hx hb dX4_instruction_143 (lv_at hl 3 rfl) ?_
              refine lv_aload_n hx hb dX4_instruction_145 rfl (lv_at hl 7 rfl) ?_
              refine va_get (D := D) (ci := 3) (v := .ref (z 2)) (C := RX4) (T := TX4) (N := 20) hx hb hts (by decide +kernel) hown hK hP 0 rfl rfl 2 (by decide) (hts (.fieldLink RX4 13 "TrapMachineModel" "register" "[I") (by decide +kernel)) (fun _ h9 => h9) rfl dX4_instruction_146 ?_
              refine lv_iload hx hb dX4_instruction_149 (lv_at hl 2 rfl) ?_
              refine lv_bipush (v := (8 : Int32)) hx hb dX4_instruction_151 (by decide) ?_
              refine lv_irem hx hb dX4_instruction_153 (by decide) ?_
              refine q_iald (j := (ix ((((o1.2.2.1 (ix o1.2.2.2.2.2.2.2.2.2.2.2.2.2.2.2.2.2.2.1)) >>> ((8 : Int32) &&& 31)) &&& (255 : Int32)) - (((o1.2.2.1 (ix o1.2.2.2.2.2.2.2.2.2.2.2.2.2.2.2.2.2.2.1)) >>> ((8 : Int32) &&& 31)) &&& (255 : Int32)) / (8 : Int32) * (8 : Int32)))) (x9 := (o1.2.2.2.1 (ix ((((o1.2.2.1 (ix o1.2.2.2.2.2.2.2.2.2.2.2.2.2.2.2.2.2.2.1)) >>> ((8 : Int32) &&& 31)) &&& (255 : Int32)) - (((o1.2.2.1 (ix o1.2.2.2.2.2.2.2.2.2.2.2.2.2.2.2.2.2.2.1)) >>> ((8 : Int32) &&& 31)) &&& (255 : Int32)) / (8 : Int32) * (8 : Int32))))) hx hb hK hP 2 0 rfl rfl (rem8_in (vi255 _)) rfl rfl dX4_instruction_154 ?_
              refine lv_iload hx hb dX4_instruction_155 (lv_at hl 0 rfl) ?_
              refine lv_iadd hx hb dX4_instruction_157 ?_
              obtain ⟨o11, h_o11⟩ : ∃ o9, (fX4_reach (ms10 o1.2 (o1.2.2.2.2.2.2.2.2.2.2.1 + (4 : Int32))) (iu (o1.2.2.1 (ix o1.2.2.2.2.2.2.2.2.2.2.2.2.2.2.2.2.2.2.1)) (24 : Int32)) (((o1.2.2.1 (ix o1.2.2.2.2.2.2.2.2.2.2.2.2.2.2.2.2.2.2.1)) >>> ((16 : Int32) &&& 31)) &&& (255 : Int32)) ((o1.2.2.2.1 (ix ((((o1.2.2.1 (ix o1.2.2.2.2.2.2.2.2.2.2.2.2.2.2.2.2.2.2.1)) >>> ((8 : Int32) &&& 31)) &&& (255 : Int32)) - (((o1.2.2.1 (ix o1.2.2.2.2.2.2.2.2.2.2.2.2.2.2.2.2.2.2.1)) >>> ((8 : Int32) &&& 31)) &&& (255 : Int32)) / (8 : Int32) * (8 : Int32)))) + ((o1.2.2.1 (ix o1.2.2.2.2.2.2.2.2.2.2.2.2.2.2.2.2.2.2.1)) &&& (255 : Int32)))) = o9 := ⟨_, rfl⟩
              refine wr_call (r := (some (.int o11.1))) (ws' := wM k z o11.2) (W.runV (C := RX4) (b := (z 0)) (As := [.int (iu (o1.2.2.1 (ix o1.2.2.2.2.2.2.2.2.2.2.2.2.2.2.2.2.2.2.1)) (24 : Int32)), .int (((o1.2.2.1 (ix o1.2.2.2.2.2.2.2.2.2.2.2.2.2.2.2.2.2.2.1)) >>> ((16 : Int32) &&& 31)) &&& (255 : Int32)), .int ((o1.2.2.2.1 (ix ((((o1.2.2.1 (ix o1.2.2.2.2.2.2.2.2.2.2.2.2.2.2.2.2.2.2.1)) >>> ((8 : Int32) &&& 31)) &&& (255 : Int32)) - (((o1.2.2.1 (ix o1.2.2.2.2.2.2.2.2.2.2.2.2.2.2.2.2.2.2.1)) >>> ((8 : Int32) &&& 31)) &&& (255 : Int32)) / (8 : Int32) * (8 : Int32)))) + ((o1.2.2.1 (ix o1.2.2.2.2.2.2.2.2.2.2.2.2.2.2.2.2.2.2.1)) &&& (255 : Int32)))]) (rest := []) ⟨hx, hb, hml, hown, hts⟩ (kX4_reach l D k z (ms10 o1.2 (o1.2.2.2.2.2.2.2.2.2.2.1 + (4 : Int32))) (iu (o1.2.2.1 (ix o1.2.2.2.2.2.2.2.2.2.2.2.2.2.2.2.2.2.2.1)) (24 : Int32)) (((o1.2.2.1 (ix o1.2.2.2.2.2.2.2.2.2.2.2.2.2.2.2.2.2.2.1)) >>> ((16 : Int32) &&& 31)) &&& (255 : Int32)) ((o1.2.2.2.1 (ix ((((o1.2.2.1 (ix o1.2.2.2.2.2.2.2.2.2.2.2.2.2.2.2.2.2.2.1)) >>> ((8 : Int32) &&& 31)) &&& (255 : Int32)) - (((o1.2.2.1 (ix o1.2.2.2.2.2.2.2.2.2.2.2.2.2.2.2.2.2.2.1)) >>> ((8 : Int32) &&& 31)) &&& (255 : Int32)) / (8 : Int32) * (8 : Int32)))) + ((o1.2.2.1 (ix o1.2.2.2.2.2.2.2.2.2.2.2.2.2.2.2.2.2.2.1)) &&& (255 : Int32))) (vi255 _) o11 h_o11) (cwV 3 hts gX4_instruction_X4_reach rfl rfl rfl (by decide +kernel) ⟨Nat.le_of_ble_eq_true rfl, Nat.le_of_ble_eq_true rfl⟩) (wr_preV bl_T pr_T hK hP hD (va_recv hK hP (ci := 3) (q0 := 0) rfl rfl)) rfl rfl hl.1 rfl (lv_room (Nat.le_of_ble_eq_true rfl)) dX4_instruction_158 ⟨Nat.zero_le _, Nat.zero_le _⟩) hP hD hS [0, 1, 2, 3, 4, 5, 6, 7, 8, 9] [] [0, 1, 2, 3, 4, 5, 6, 7, 8, 9] allM (by decide) prmM adrM (fun H locs hP hD hS => ?_)
              exact W.iret (v := o11.1) hx hb hr (wr_end (congrArg (fun t9 : Int32 × MD => some (Value.int t9.1)) ((show fX4_instruction w = (o11.1, o11.2) from (by subst h_o1; subst h_o11; exact (if_pos c_12).trans ((if_neg c_64).trans ((if_neg c_92).trans ((if_pos c_98).trans ((if_pos c_113).trans ((if_neg c_138).trans rfl))))))).symm.trans ho)) (congrArg (fun t9 : Int32 × MD => wM k z t9.2) ((show fX4_instruction w = (o11.1, o11.2) from (by subst h_o1; subst h_o11; exact (if_pos c_12).trans ((if_neg c_64).trans ((if_neg c_92).trans ((if_pos c_98).trans ((if_pos c_113).trans ((if_neg c_138).trans rfl))))))).symm.trans ho)) hP hS) hS.2.2 dX4_instruction_161
          · refine lv_aload_n hx hb dX4_instruction_116 rfl (lv_at hl 7 rfl) ?_
            refine lv_iload hx hb dX4_instruction_117 (lv_at hl 3 rfl) ?_
            refine lv_aload_n hx hb dX4_instruction_119 rfl (lv_at hl 7 rfl) ?_
            refine lv_iload_n hx hb dX4_instruction_120 rfl (lv_at hl 4 rfl) ?_
            refine lv_iload hx hb dX4_instruction_121 (lv_at hl 2 rfl) ?_
            refine lv_iload hx hb dX4_instruction_123 (lv_at hl 1 rfl) ?_
            refine lv_iload hx hb dX4_instruction_125 (lv_at hl 0 rfl) ?_
            refine rd_call (r := (fX4_reckon (ms10 o1.2 (o1.2.2.2.2.2.2.2.2.2.2.1 + (4 : Int32))) (iu (o1.2.2.1 (ix o1.2.2.2.2.2.2.2.2.2.2.2.2.2.2.2.2.2.2.1)) (24 : Int32)) (((o1.2.2.1 (ix o1.2.2.2.2.2.2.2.2.2.2.2.2.2.2.2.2.2.2.1)) >>> ((8 : Int32) &&& 31)) &&& (255 : Int32)) ((o1.2.2.1 (ix o1.2.2.2.2.2.2.2.2.2.2.2.2.2.2.2.2.2.2.1)) &&& (255 : Int32)) ((o1.2.2.1 (ix o1.2.2.2.2.2.2.2.2.2.2.2.2.2.2.2.2.2.2.1)) &&& (255 : Int32)))) (W.runV (C := RX4) (b := (z 0)) (As := [.int (iu (o1.2.2.1 (ix o1.2.2.2.2.2.2.2.2.2.2.2.2.2.2.2.2.2.2.1)) (24 : Int32)), .int (((o1.2.2.1 (ix o1.2.2.2.2.2.2.2.2.2.2.2.2.2.2.2.2.2.2.1)) >>> ((8 : Int32) &&& 31)) &&& (255 : Int32)), .int ((o1.2.2.1 (ix o1.2.2.2.2.2.2.2.2.2.2.2.2.2.2.2.2.2.2.1)) &&& (255 : Int32)), .int ((o1.2.2.1 (ix o1.2.2.2.2.2.2.2.2.2.2.2.2.2.2.2.2.2.2.1)) &&& (255 : Int32))]) (rest := [.int (((o1.2.2.1 (ix o1.2.2.2.2.2.2.2.2.2.2.2.2.2.2.2.2.2.2.1)) >>> ((16 : Int32) &&& 31)) &&& (255 : Int32)), .ref (z 0)]) ⟨hx, hb, hml, hown, hts⟩ (kX4_reckon l D k z (ms10 o1.2 (o1.2.2.2.2.2.2.2.2.2.2.1 + (4 : Int32))) (iu (o1.2.2.1 (ix o1.2.2.2.2.2.2.2.2.2.2.2.2.2.2.2.2.2.2.1)) (24 : Int32)) (((o1.2.2.1 (ix o1.2.2.2.2.2.2.2.2.2.2.2.2.2.2.2.2.2.2.1)) >>> ((8 : Int32) &&& 31)) &&& (255 : Int32)) ((o1.2.2.1 (ix o1.2.2.2.2.2.2.2.2.2.2.2.2.2.2.2.2.2.2.1)) &&& (255 : Int32)) ((o1.2.2.1 (ix o1.2.2.2.2.2.2.2.2.2.2.2.2.2.2.2.2.2.2.1)) &&& (255 : Int32)) (vi255 _) (vi255 _)) (cwV 4 hts gX4_instruction_X4_reckon rfl rfl rfl (by decide +kernel) ⟨Nat.le_of_ble_eq_true rfl, Nat.le_of_ble_eq_true rfl⟩) (rd_preV bl_T pr_T hK hP (va_recv hK hP (ci := 3) (q0 := 0) rfl rfl)) rfl rfl hl.1 rfl (lv_room (Nat.le_of_ble_eq_true rfl)) dX4_instruction_127 ⟨Nat.zero_le _, Nat.zero_le _⟩) ?_
            obtain ⟨o12, h_o12⟩ : ∃ o9, (fX4_put (ms10 o1.2 (o1.2.2.2.2.2.2.2.2.2.2.1 + (4 : Int32))) (((o1.2.2.1 (ix o1.2.2.2.2.2.2.2.2.2.2.2.2.2.2.2.2.2.2.1)) >>> ((16 : Int32) &&& 31)) &&& (255 : Int32)) (fX4_reckon (ms10 o1.2 (o1.2.2.2.2.2.2.2.2.2.2.1 + (4 : Int32))) (iu (o1.2.2.1 (ix o1.2.2.2.2.2.2.2.2.2.2.2.2.2.2.2.2.2.2.1)) (24 : Int32)) (((o1.2.2.1 (ix o1.2.2.2.2.2.2.2.2.2.2.2.2.2.2.2.2.2.2.1)) >>> ((8 : Int32) &&& 31)) &&& (255 : Int32)) ((o1.2.2.1 (ix o1.2.2.2.2.2.2.2.2.2.2.2.2.2.2.2.2.2.2.1)) &&& (255 : Int32)) ((o1.2.2.1 (ix o1.2.2.2.2.2.2.2.2.2.2.2.2.2.2.2.2.2.2.1)) &&& (255 : Int32)))) = o9 := ⟨_, rfl⟩
            refine wr_call (r := none) (ws' := wM k z o12) (W.runV (C := RX4) (b := (z 0)) (As := [.int (((o1.2.2.1 (ix o1.2.2.2.2.2.2.2.2.2.2.2.2.2.2.2.2.2.2.1)) >>> ((16 : Int32) &&& 31)) &&& (255 : Int32)), .int (fX4_reckon (ms10 o1.2 (o1.2.2.2.2.2.2.2.2.2.2.1 + (4 : Int32))) (iu (o1.2.2.1 (ix o1.2.2.2.2.2.2.2.2.2.2.2.2.2.2.2.2.2.2.1)) (24 : Int32)) (((o1.2.2.1 (ix o1.2.2.2.2.2.2.2.2.2.2.2.2.2.2.2.2.2.2.1)) >>> ((8 : Int32) &&& 31)) &&& (255 : Int32)) ((o1.2.2.1 (ix o1.2.2.2.2.2.2.2.2.2.2.2.2.2.2.2.2.2.2.1)) &&& (255 : Int32)) ((o1.2.2.1 (ix o1.2.2.2.2.2.2.2.2.2.2.2.2.2.2.2.2.2.2.1)) &&& (255 : Int32)))]) (rest := []) ⟨hx, hb, hml, hown, hts⟩ (kX4_put l D k z (ms10 o1.2 (o1.2.2.2.2.2.2.2.2.2.2.1 + (4 : Int32))) (((o1.2.2.1 (ix o1.2.2.2.2.2.2.2.2.2.2.2.2.2.2.2.2.2.2.1)) >>> ((16 : Int32) &&& 31)) &&& (255 : Int32)) (fX4_reckon (ms10 o1.2 (o1.2.2.2.2.2.2.2.2.2.2.1 + (4 : Int32))) (iu (o1.2.2.1 (ix o1.2.2.2.2.2.2.2.2.2.2.2.2.2.2.2.2.2.2.1)) (24 : Int32)) (((o1.2.2.1 (ix o1.2.2.2.2.2.2.2.2.2.2.2.2.2.2.2.2.2.2.1)) >>> ((8 : Int32) &&& 31)) &&& (255 : Int32)) ((o1.2.2.1 (ix o1.2.2.2.2.2.2.2.2.2.2.2.2.2.2.2.2.2.2.1)) &&& (255 : Int32)) ((o1.2.2.1 (ix o1.2.2.2.2.2.2.2.2.2.2.2.2.2.2.2.2.2.2.1)) &&& (255 : Int32))) (vi255 _) o12 h_o12) (cwV 2 hts gX4_instruction_X4_put rfl rfl rfl (by decide +kernel) ⟨Nat.le_of_ble_eq_true rfl, Nat.le_of_ble_eq_true rfl⟩) (wr_preV bl_T pr_T hK hP hD (va_recv hK hP (ci := 3) (q0 := 0) rfl rfl)) rfl rfl hl.1 rfl (lv_room (Nat.le_of_ble_eq_true rfl)) dX4_instruction_130 ⟨Nat.zero_le _, Nat.zero_le _⟩) hP hD hS [0, 1, 2, 3, 4, 5, 6, 7, 8, 9] [] [0, 1, 2, 3, 4, 5, 6, 7, 8, 9] allM (by decide) prmM adrM (fun H locs hP hD hS => ?_)
            refine lv_iconst (v := (-1 : Int32)) hx hb dX4_instruction_133 (by decide) ?_
            exact W.iret (v := (-1 : Int32)) hx hb hr (wr_end (congrArg (fun t9 : Int32 × MD => some (Value.int t9.1)) ((show fX4_instruction w = ((-1 : Int32), o12) from (by subst h_o1; subst h_o12; exact (if_pos c_12).trans ((if_neg c_64).trans ((if_neg c_92).trans ((if_pos c_98).trans ((if_neg c_113).trans rfl)))))).symm.trans ho)) (congrArg (fun t9 : Int32 × MD => wM k z t9.2) ((show fX4_instruction w = ((-1 : Int32), o12) from (by subst h_o1; subst h_o12; exact (if_pos c_12).trans ((if_neg c_64).trans ((if_neg c_92).trans ((if_pos c_98).trans ((if_neg c_113).trans rfl)))))).symm.trans ho)) hP hS) hS.2.2 dX4_instruction_134
        · refine lv_aload_n hx hb dX4_instruction_101 rfl (lv_at hl 7 rfl) ?_
          refine lv_bipush (v := (13 : Int32)) hx hb dX4_instruction_102 (by decide) ?_
          refine lv_iconst (v := (0 : Int32)) hx hb dX4_instruction_104 (by decide) ?_
          refine lv_iconst (v := (0 : Int32)) hx hb dX4_instruction_105 (by decide) ?_
          obtain ⟨o13, h_o13⟩ : ∃ o9, (fX4_with (ms10 o1.2 (o1.2.2.2.2.2.2.2.2.2.2.1 + (4 : Int32))) (13 : Int32) (0 : Int32) (0 : Int32)) = o9 := ⟨_, rfl⟩
          refine wr_call (r := (some (.int o13.1))) (ws' := wM k z o13.2) (W.runV (C := RX4) (b := (z 0)) (As := [.int (13 : Int32), .int (0 : Int32), .int (0 : Int32)]) (rest := []) ⟨hx, hb, hml, hown, hts⟩ (kX4_with l D k z (ms10 o1.2 (o1.2.2.2.2.2.2.2.2.2.2.1 + (4 : Int32))) (13 : Int32) (0 : Int32) (0 : Int32) o13 h_o13) (cwV 3 hts gX4_instruction_X4_with rfl rfl rfl (by decide +kernel) ⟨Nat.le_of_ble_eq_true rfl, Nat.le_of_ble_eq_true rfl⟩) (wr_preV bl_T pr_T hK hP hD (va_recv hK hP (ci := 3) (q0 := 0) rfl rfl)) rfl rfl hl.1 rfl (lv_room (Nat.le_of_ble_eq_true rfl)) dX4_instruction_106 ⟨Nat.zero_le _, Nat.zero_le _⟩) hP hD hS [0, 1, 2, 3, 4, 5, 6, 7, 8, 9] [] [0, 1, 2, 3, 4, 5, 6, 7, 8, 9] allM (by decide) prmM adrM (fun H locs hP hD hS => ?_)
          exact W.iret (v := o13.1) hx hb hr (wr_end (congrArg (fun t9 : Int32 × MD => some (Value.int t9.1)) ((show fX4_instruction w = (o13.1, o13.2) from (by subst h_o1; subst h_o13; exact (if_pos c_12).trans ((if_neg c_64).trans ((if_neg c_92).trans ((if_neg c_98).trans rfl))))).symm.trans ho)) (congrArg (fun t9 : Int32 × MD => wM k z t9.2) ((show fX4_instruction w = (o13.1, o13.2) from (by subst h_o1; subst h_o13; exact (if_pos c_12).trans ((if_neg c_64).trans ((if_neg c_92).trans ((if_neg c_98).trans rfl))))).symm.trans ho)) hP hS) hS.2.2 dX4_instruction_109
  · refine lv_iload_n hx hb dX4_instruction_15 rfl (lv_at hl 0 rfl) ?_
    exact W.iret (v := o1.1) hx hb hr (wr_end (congrArg (fun t9 : Int32 × MD => some (Value.int t9.1)) ((show fX4_instruction w = (o1.1, o1.2) from (by subst h_o1; exact (if_neg c_12).trans rfl)).symm.trans ho)) (congrArg (fun t9 : Int32 × MD => wM k z t9.2) ((show fX4_instruction w = (o1.1, o1.2) from (by subst h_o1; exact (if_neg c_12).trans rfl)).symm.trans ho)) hP hS) hS.2.2 dX4_instruction_16
def fX4_tick (w : MD)  : MD :=
  if ((w.2.2.2.1 14) &&& (1 : Int32)) = (0 : Int32) then
    w
  else
    if (w.2.2.2.1 15) = (0 : Int32) then
      w
    else
      if ((w.2.2.2.1 15) - (1 : Int32)) ≤ (0 : Int32) then
        if ((w.2.2.2.1 14) &&& (2 : Int32)) = (0 : Int32) then
          (ms3 (ms3 (ms3 w (upd w.2.2.2.1 15 ((w.2.2.2.1 15) - (1 : Int32)))) (upd (upd w.2.2.2.1 15 ((w.2.2.2.1 15) - (1 : Int32))) 3 ((w.2.2.2.1 3) ||| (16 : Int32)))) (upd (upd (upd w.2.2.2.1 15 ((w.2.2.2.1 15) - (1 : Int32))) 3 ((w.2.2.2.1 3) ||| (16 : Int32))) 15 (0 : Int32)))
        else
          (ms3 (ms3 (ms3 w (upd w.2.2.2.1 15 ((w.2.2.2.1 15) - (1 : Int32)))) (upd (upd w.2.2.2.1 15 ((w.2.2.2.1 15) - (1 : Int32))) 3 ((w.2.2.2.1 3) ||| (16 : Int32)))) (upd (upd (upd w.2.2.2.1 15 ((w.2.2.2.1 15) - (1 : Int32))) 3 ((w.2.2.2.1 3) ||| (16 : Int32))) 15 ((w.2.2.2.1 14) &&& (65532 : Int32))))
      else
        (ms3 w (upd w.2.2.2.1 15 ((w.2.2.2.1 15) - (1 : Int32))))
set_option maxHeartbeats 4000000 in
set_option maxRecDepth 100000 in
theorem kX4_tick (l : Launch) (D : va_G) (k : Nat → ClassId) (z : Nat → Nat) (w : MD)   (o : MD) (ho : fX4_tick w = o) : Met l yX4_tick wsX4_tick { frames := 0, cells := 0, slots := 0, locals := 0 } (wr_P D vwCl (tyL k) (wM k z w) (fun _ => True) [.ref (z 0)]) (wr_Q D vwCl none (wM k z w) (wM k z o)) 0 0 (in_W (wM k z w)) := by
  refine Met.ofW (cc := cX4_tick) (maxL := 1) (ret := none) (by decide) rfl ?_
  intro p e s m args below meth c s₁ B hml hv0
  obtain ⟨rfl, hP, hK, hX, hD0⟩ := hv0
  have hx := B.exec
  have hb := B.bytes
  have hr := B.returns
  have hts := atoms_spec (ws := wsX4_tick) B.pre
  have hown : s.vm.findClass RX4 = some m.cls := findClass_of_methodNamed B.named
  have hlocks := B.notSynchronized
  have hD : va_D (in_W (wM k z w)) (wM k z w) := wD_self hD0
  have hS : va_S (in_W (wM k z w)) s.heap s.heap [] := va_S.rf
  have hl := lv_entry ([.ref (z 0)]) (n := 1) (Nat.le_of_ble_eq_true rfl)
  rw [lg_entry_eq]
  generalize (lg_sl ([.ref (z 0)]) ++ List.replicate (1 - (lg_sl ([.ref (z 0)])).length) Slot.unset).toArray = ls at hl ⊢
  have hl : lv_has ls 1 [(0, .ref (z 0))] := hl
  refine lv_aload_n hx hb dX4_tick_0 rfl (lv_at hl 0 rfl) ?_
  refine va_get (D := D) (ci := 3) (v := .ref (z 3)) (C := RX4) (T := TX4) (N := 20) hx hb hts (by decide +kernel) hown hK hP 0 rfl rfl 3 (by decide) (hts (.fieldLink RX4 16 "TrapMachineModel" "control" "[I") (by decide +kernel)) (fun _ h9 => h9) rfl dX4_tick_1 ?_
  refine lv_bipush (v := (14 : Int32)) hx hb dX4_tick_4 (by decide) ?_
  refine q_iald (j := 14) (x9 := (w.2.2.2.1 14)) hx hb hK hP 3 0 rfl rfl (vi_k (by decide)) rfl rfl dX4_tick_6 ?_
  refine lv_iconst (v := (1 : Int32)) hx hb dX4_tick_7 (by decide) ?_
  refine lv_iand hx hb dX4_tick_8 ?_
  refine lv_if_eq (tgt := 22) hx hb dX4_tick_9 (by decide) (fun c_9 => ?_) (fun c_9 => ?_)
  · exact W.vret hx hb hr (wr_end rfl (congrArg (wM k z) ((show fX4_tick w = w from (if_pos c_9).trans rfl).symm.trans ho)) hP hS) hS.2.2 dX4_tick_22
  · refine lv_aload_n hx hb dX4_tick_12 rfl (lv_at hl 0 rfl) ?_
    refine va_get (D := D) (ci := 3) (v := .ref (z 3)) (C := RX4) (T := TX4) (N := 20) hx hb hts (by decide +kernel) hown hK hP 0 rfl rfl 3 (by decide) (hts (.fieldLink RX4 16 "TrapMachineModel" "control" "[I") (by decide +kernel)) (fun _ h9 => h9) rfl dX4_tick_13 ?_
    refine lv_bipush (v := (15 : Int32)) hx hb dX4_tick_16 (by decide) ?_
    refine q_iald (j := 15) (x9 := (w.2.2.2.1 15)) hx hb hK hP 3 0 rfl rfl (vi_k (by decide)) rfl rfl dX4_tick_18 ?_
    refine lv_if_ne (tgt := 23) hx hb dX4_tick_19 (by decide) (fun c_19 => ?_) (fun c_19 => ?_)
    · refine lv_aload_n hx hb dX4_tick_23 rfl (lv_at hl 0 rfl) ?_
      refine va_get (D := D) (ci := 3) (v := .ref (z 3)) (C := RX4) (T := TX4) (N := 20) hx hb hts (by decide +kernel) hown hK hP 0 rfl rfl 3 (by decide) (hts (.fieldLink RX4 16 "TrapMachineModel" "control" "[I") (by decide +kernel)) (fun _ h9 => h9) rfl dX4_tick_24 ?_
      refine lv_bipush (v := (15 : Int32)) hx hb dX4_tick_27 (by decide) ?_
      refine lv_dup2_11 hx hb dX4_tick_29 rfl rfl ?_
      refine q_iald (j := 15) (x9 := (w.2.2.2.1 15)) hx hb hK hP 3 0 rfl rfl (vi_k (by decide)) rfl rfl dX4_tick_30 ?_
      refine lv_iconst (v := (1 : Int32)) hx hb dX4_tick_31 (by decide) ?_
      refine lv_isub hx hb dX4_tick_32 ?_
      refine q_iast (j := 15) (ws' := wM k z (ms3 w (upd w.2.2.2.1 15 ((w.2.2.2.1 15) - (1 : Int32))))) hx hb hK hP hD hS 3 0 rfl rfl (vi_k (by decide)) rfl rfl dX4_tick_33 (fun H locs hP hD hS => ?_)
      refine lv_aload_n hx hb dX4_tick_34 rfl (lv_at hl 0 rfl) ?_
      refine va_get (D := D) (ci := 3) (v := .ref (z 3)) (C := RX4) (T := TX4) (N := 20) hx hb hts (by decide +kernel) hown hK hP 0 rfl rfl 3 (by decide) (hts (.fieldLink RX4 16 "TrapMachineModel" "control" "[I") (by decide +kernel)) (fun _ h9 => h9) rfl dX4_tick_35 ?_
      refine lv_bipush (v := (15 : Int32)) hx hb dX4_tick_38 (by decide) ?_
      refine q_iald (j := 15) (x9 := ((w.2.2.2.1 15) - (1 : Int32))) hx hb hK hP 3 0 rfl rfl (vi_k (by decide)) rfl rfl dX4_tick_40 ?_
      refine lv_if_le (tgt := 45) hx hb dX4_tick_41 (by decide) (fun c_41 => ?_) (fun c_41 => ?_)
      · refine lv_aload_n hx hb dX4_tick_45 rfl (lv_at hl 0 rfl) ?_
        refine va_get (D := D) (ci := 3) (v := .ref (z 3)) (C := RX4) (T := TX4) (N := 20) hx hb hts (by decide +kernel) hown hK hP 0 rfl rfl 3 (by decide) (hts (.fieldLink RX4 16 "TrapMachineModel" "control" "[I") (by decide +kernel)) (fun _ h9 => h9) rfl dX4_tick_46 ?_
        refine lv_iconst (v := (3 : Int32)) hx hb dX4_tick_49 (by decide) ?_
        refine lv_dup2_11 hx hb dX4_tick_50 rfl rfl ?_
        refine q_iald (j := 3) (x9 := (w.2.2.2.1 3)) hx hb hK hP 3 0 rfl rfl (vi_k (by decide)) rfl rfl dX4_tick_51 ?_
        refine lv_bipush (v := (16 : Int32)) hx hb dX4_tick_52 (by decide) ?_
        refine lv_ior hx hb dX4_tick_54 ?_
        refine q_iast (j := 3) (ws' := wM k z (ms3 (ms3 w (upd w.2.2.2.1 15 ((w.2.2.2.1 15) - (1 : Int32)))) (upd (upd w.2.2.2.1 15 ((w.2.2.2.1 15) - (1 : Int32))) 3 ((w.2.2.2.1 3) ||| (16 : Int32))))) hx hb hK hP hD hS 3 0 rfl rfl (vi_k (by decide)) rfl rfl dX4_tick_55 (fun H locs hP hD hS => ?_)
        refine lv_aload_n hx hb dX4_tick_56 rfl (lv_at hl 0 rfl) ?_
        refine va_get (D := D) (ci := 3) (v := .ref (z 3)) (C := RX4) (T := TX4) (N := 20) hx hb hts (by decide +kernel) hown hK hP 0 rfl rfl 3 (by decide) (hts (.fieldLink RX4 16 "TrapMachineModel" "control" "[I") (by decide +kernel)) (fun _ h9 => h9) rfl dX4_tick_57 ?_
        refine lv_bipush (v := (15 : Int32)) hx hb dX4_tick_60 (by decide) ?_
        refine lv_aload_n hx hb dX4_tick_62 rfl (lv_at hl 0 rfl) ?_
        refine va_get (D := D) (ci := 3) (v := .ref (z 3)) (C := RX4) (T := TX4) (N := 20) hx hb hts (by decide +kernel) hown hK hP 0 rfl rfl 3 (by decide) (hts (.fieldLink RX4 16 "TrapMachineModel" "control" "[I") (by decide +kernel)) (fun _ h9 => h9) rfl dX4_tick_63 ?_
        refine lv_bipush (v := (14 : Int32)) hx hb dX4_tick_66 (by decide) ?_
        refine q_iald (j := 14) (x9 := (w.2.2.2.1 14)) hx hb hK hP 3 0 rfl rfl (vi_k (by decide)) rfl rfl dX4_tick_68 ?_
        refine lv_iconst (v := (2 : Int32)) hx hb dX4_tick_69 (by decide) ?_
        refine lv_iand hx hb dX4_tick_70 ?_
        refine lv_if_eq (tgt := 87) hx hb dX4_tick_71 (by decide) (fun c_71 => ?_) (fun c_71 => ?_)
        · refine lv_iconst (v := (0 : Int32)) hx hb dX4_tick_87 (by decide) ?_
          refine q_iast (j := 15) (ws' := wM k z (ms3 (ms3 (ms3 w (upd w.2.2.2.1 15 ((w.2.2.2.1 15) - (1 : Int32)))) (upd (upd w.2.2.2.1 15 ((w.2.2.2.1 15) - (1 : Int32))) 3 ((w.2.2.2.1 3) ||| (16 : Int32)))) (upd (upd (upd w.2.2.2.1 15 ((w.2.2.2.1 15) - (1 : Int32))) 3 ((w.2.2.2.1 3) ||| (16 : Int32))) 15 (0 : Int32)))) hx hb hK hP hD hS 3 0 rfl rfl (vi_k (by decide)) rfl rfl dX4_tick_88 (fun H locs hP hD hS => ?_)
          exact W.vret hx hb hr (wr_end rfl (congrArg (wM k z) ((show fX4_tick w = (ms3 (ms3 (ms3 w (upd w.2.2.2.1 15 ((w.2.2.2.1 15) - (1 : Int32)))) (upd (upd w.2.2.2.1 15 ((w.2.2.2.1 15) - (1 : Int32))) 3 ((w.2.2.2.1 3) ||| (16 : Int32)))) (upd (upd (upd w.2.2.2.1 15 ((w.2.2.2.1 15) - (1 : Int32))) 3 ((w.2.2.2.1 3) ||| (16 : Int32))) 15 (0 : Int32))) from (if_neg c_9).trans ((if_neg c_19).trans ((if_pos c_41).trans ((if_pos c_71).trans rfl)))).symm.trans ho)) hP hS) hS.2.2 dX4_tick_89
        · refine lv_aload_n hx hb dX4_tick_74 rfl (lv_at hl 0 rfl) ?_
          refine va_get (D := D) (ci := 3) (v := .ref (z 3)) (C := RX4) (T := TX4) (N := 20) hx hb hts (by decide +kernel) hown hK hP 0 rfl rfl 3 (by decide) (hts (.fieldLink RX4 16 "TrapMachineModel" "control" "[I") (by decide +kernel)) (fun _ h9 => h9) rfl dX4_tick_75 ?_
          refine lv_bipush (v := (14 : Int32)) hx hb dX4_tick_78 (by decide) ?_
          refine q_iald (j := 14) (x9 := (w.2.2.2.1 14)) hx hb hK hP 3 0 rfl rfl (vi_k (by decide)) rfl rfl dX4_tick_80 ?_
          refine lv_ldc (v := (65532 : Int32)) hx hb hown (hts (.constant RX4 82 (65532)) (by decide +kernel)) dX4_tick_81 ?_
          refine lv_iand hx hb dX4_tick_83 ?_
          refine lv_goto (tgt := 88) hx hb dX4_tick_84 (by decide) ?_
          refine q_iast (j := 15) (ws' := wM k z (ms3 (ms3 (ms3 w (upd w.2.2.2.1 15 ((w.2.2.2.1 15) - (1 : Int32)))) (upd (upd w.2.2.2.1 15 ((w.2.2.2.1 15) - (1 : Int32))) 3 ((w.2.2.2.1 3) ||| (16 : Int32)))) (upd (upd (upd w.2.2.2.1 15 ((w.2.2.2.1 15) - (1 : Int32))) 3 ((w.2.2.2.1 3) ||| (16 : Int32))) 15 ((w.2.2.2.1 14) &&& (65532 : Int32))))) hx hb hK hP hD hS 3 0 rfl rfl (vi_k (by decide)) rfl rfl dX4_tick_88 (fun H locs hP hD hS => ?_)
          exact W.vret hx hb hr (wr_end rfl (congrArg (wM k z) ((show fX4_tick w = (ms3 (ms3 (ms3 w (upd w.2.2.2.1 15 ((w.2.2.2.1 15) - (1 : Int32)))) (upd (upd w.2.2.2.1 15 ((w.2.2.2.1 15) - (1 : Int32))) 3 ((w.2.2.2.1 3) ||| (16 : Int32)))) (upd (upd (upd w.2.2.2.1 15 ((w.2.2.2.1 15) - (1 : Int32))) 3 ((w.2.2.2.1 3) ||| (16 : Int32))) 15 ((w.2.2.2.1 14) &&& (65532 : Int32)))) from (if_neg c_9).trans ((if_neg c_19).trans ((if_pos c_41).trans ((if_neg c_71).trans rfl)))).symm.trans ho)) hP hS) hS.2.2 dX4_tick_89
      · exact W.vret hx hb hr (wr_end rfl (congrArg (wM k z) ((show fX4_tick w = (ms3 w (upd w.2.2.2.1 15 ((w.2.2.2.1 15) - (1 : Int32)))) from (if_neg c_9).trans ((if_neg c_19).trans ((if_neg c_41).trans rfl))).symm.trans ho)) hP hS) hS.2.2 dX4_tick_44
    · exact W.vret hx hb hr (wr_end rfl (congrArg (wM k z) ((show fX4_tick w = w from (if_neg c_9).trans ((if_pos c_19).trans rfl)).symm.trans ho)) hP hS) hS.2.2 dX4_tick_22
def fX4_step (w : MD)  : MD :=
  if (((w.2.2.2.1 2) &&& (w.2.2.2.1 3)) &&& (31 : Int32)) = (0 : Int32) then
    if w.2.2.2.2.2.2.2.2.2.2.2.2.2.1 = (0 : Int32) then
      if (fX4_instruction w).1 = (-2 : Int32) then
        (ms14 (fX4_instruction w).2 (1 : Int32))
      else
        if (fX4_instruction w).1 = (-1 : Int32) then
          (fX4_tick (ms9 (ms18 (ms14 (fX4_instruction w).2 (0 : Int32)) (0 : Int32)) (fX4_instruction w).2.2.2.2.2.2.2.2.2.2.2.1))
        else
          (fX4_tick (fX4_enter (ms18 (ms14 (fX4_instruction w).2 (0 : Int32)) (1 : Int32)) (fX4_instruction w).1))
    else
      (fX4_tick (ms13 w (1 : Int32)))
  else
    if w.2.2.2.2.2.2.2.2.2.2.2.2.2.1 = (0 : Int32) then
      if ((w.2.2.2.1 0) &&& (4 : Int32)) = (0 : Int32) then
        if (fX4_instruction w).1 = (-2 : Int32) then
          (ms14 (fX4_instruction w).2 (1 : Int32))
        else
          if (fX4_instruction w).1 = (-1 : Int32) then
            (fX4_tick (ms9 (ms18 (ms14 (fX4_instruction w).2 (0 : Int32)) (0 : Int32)) (fX4_instruction w).2.2.2.2.2.2.2.2.2.2.2.1))
          else
            (fX4_tick (fX4_enter (ms18 (ms14 (fX4_instruction w).2 (0 : Int32)) (1 : Int32)) (fX4_instruction w).1))
      else
        if (fX4_with w (0 : Int32) (0 : Int32) (0 : Int32)).1 = (-2 : Int32) then
          (ms14 (fX4_with w (0 : Int32) (0 : Int32) (0 : Int32)).2 (1 : Int32))
        else
          if (fX4_with w (0 : Int32) (0 : Int32) (0 : Int32)).1 = (-1 : Int32) then
            (fX4_tick (ms9 (ms18 (ms14 (fX4_with w (0 : Int32) (0 : Int32) (0 : Int32)).2 (0 : Int32)) (0 : Int32)) (fX4_with w (0 : Int32) (0 : Int32) (0 : Int32)).2.2.2.2.2.2.2.2.2.2.2.1))
          else
            (fX4_tick (fX4_enter (ms18 (ms14 (fX4_with w (0 : Int32) (0 : Int32) (0 : Int32)).2 (0 : Int32)) (1 : Int32)) (fX4_with w (0 : Int32) (0 : Int32) (0 : Int32)).1))
    else
      (fX4_tick (ms13 w (0 : Int32)))
set_option maxHeartbeats 4000000 in
set_option maxRecDepth 100000 in
theorem kX4_step (l : Launch) (D : va_G) (k : Nat → ClassId) (z : Nat → Nat) (w : MD)  (hf : vp_in w.2.2.2.2.2.2.2.2.2.2.2.1 4) (o : MD) (ho : fX4_step w = o) : Met l yX4_step wsX4_step { frames := 5, cells := 0, slots := 0, locals := 126 } (wr_P D vwCl (tyL k) (wM k z w) (fun _ => True) [.ref (z 0)]) (wr_Q D vwCl none (wM k z w) (wM k z o)) 0 0 (in_W (wM k z w)) := by
  refine Met.ofW (cc := cX4_step) (maxL := 3) (ret := none) (by decide) rfl ?_
  intro p e s m args below meth c s₁ B hml hv0
  obtain ⟨rfl, hP, hK, hX, hD0⟩ := hv0
  have hx := B.exec
  have hb := B.bytes
  have hr := B.returns
  have hts := atoms_spec (ws := wsX4_step) B.pre
  have hown : s.vm.findClass RX4 = some m.cls := findClass_of_methodNamed B.named
  have hlocks := B.notSynchronized
  have hD : va_D (in_W (wM k z w)) (wM k z w) := wD_self hD0
  have hS : va_S (in_W (wM k z w)) s.heap s.heap [] := va_S.rf
  have hl := lv_entry ([.ref (z 0)]) (n := 3) (Nat.le_of_ble_eq_true rfl)
  rw [lg_entry_eq]
  generalize (lg_sl ([.ref (z 0)]) ++ List.replicate (3 - (lg_sl ([.ref (z 0)])).length) Slot.unset).toArray = ls at hl ⊢
  have hl : lv_has ls 3 [(0, .ref (z 0))] := hl
  refine lv_aload_n hx hb dX4_step_0 rfl (lv_at hl 0 rfl) ?_
  refine va_get (D := D) (ci := 3) (v := .ref (z 3)) (C := RX4) (T := TX4) (N := 20) hx hb hts (by decide +kernel) hown hK hP 0 rfl rfl 3 (by decide) (hts (.fieldLink RX4 16 "TrapMachineModel" "control" "[I") (by decide +kernel)) (fun _ h9 => h9) rfl dX4_step_1 ?_
  refine lv_iconst (v := (2 : Int32)) hx hb dX4_step_4 (by decide) ?_
  refine q_iald (j := 2) (x9 := (w.2.2.2.1 2)) hx hb hK hP 3 0 rfl rfl (vi_k (by decide)) rfl rfl dX4_step_5 ?_
  refine lv_aload_n hx hb dX4_step_6 rfl (lv_at hl 0 rfl) ?_
  refine va_get (D := D) (ci := 3) (v := .ref (z 3)) (C := RX4) (T := TX4) (N := 20) hx hb hts (by decide +kernel) hown hK hP 0 rfl rfl 3 (by decide) (hts (.fieldLink RX4 16 "TrapMachineModel" "control" "[I") (by decide +kernel)) (fun _ h9 => h9) rfl dX4_step_7 ?_
  refine lv_iconst (v := (3 : Int32)) hx hb dX4_step_10 (by decide) ?_
  refine q_iald (j := 3) (x9 := (w.2.2.2.1 3)) hx hb hK hP 3 0 rfl rfl (vi_k (by decide)) rfl rfl dX4_step_11 ?_
  refine lv_iand hx hb dX4_step_12 ?_
  refine lv_bipush (v := (31 : Int32)) hx hb dX4_step_13 (by decide) ?_
  refine lv_iand hx hb dX4_step_15 ?_
  refine lv_if_eq (tgt := 23) hx hb dX4_step_16 (by decide) (fun c_16 => ?_) (fun c_16 => ?_)
  · refine lv_iconst (v := (0 : Int32)) hx hb dX4_step_23 (by decide) ?_
    refine lv_istore_n (lv' := [(1, .int (0 : Int32)), (0, .ref (z 0))]) hx hb dX4_step_24 rfl hl (by decide) rfl (fun ls hl => ?_)
    refine lv_aload_n hx hb dX4_step_25 rfl (lv_at hl 1 rfl) ?_
    refine va_get (D := D) (ci := 3) (v := .int w.2.2.2.2.2.2.2.2.2.2.2.2.2.1) (C := RX4) (T := TX4) (N := 20) hx hb hts (by decide +kernel) hown hK hP 0 rfl rfl 14 (by decide) (hts (.fieldLink RX4 127 "TrapMachineModel" "rests" "Z") (by decide +kernel)) (fun _ h9 => h9) rfl dX4_step_26 ?_
    refine lv_if_eq (tgt := 50) hx hb dX4_step_29 (by decide) (fun c_29 => ?_) (fun c_29 => ?_)
    · refine lv_iload_n hx hb dX4_step_50 rfl (lv_at hl 0 rfl) ?_
      refine lv_if_eq (tgt := 75) hx hb dX4_step_51 (by decide) (fun _ => ?_) (fun c9 => absurd (by decide) c9)
      refine lv_aload_n hx hb dX4_step_75 rfl (lv_at hl 1 rfl) ?_
      obtain ⟨o1, h_o1⟩ : ∃ o9, (fX4_instruction w) = o9 := ⟨_, rfl⟩
      refine wr_call (r := (some (.int o1.1))) (ws' := wM k z o1.2) (W.runV (C := RX4) (b := (z 0)) (As := []) (rest := []) ⟨hx, hb, hml, hown, hts⟩ (kX4_instruction l D k z w hf o1 h_o1) (cwV 0 hts gX4_step_X4_instruction rfl rfl rfl (by decide +kernel) ⟨Nat.le_of_ble_eq_true rfl, Nat.le_of_ble_eq_true rfl⟩) (wr_preV bl_T pr_T hK hP hD (va_recv hK hP (ci := 3) (q0 := 0) rfl rfl)) rfl rfl hl.1 rfl (lv_room (Nat.le_of_ble_eq_true rfl)) dX4_step_76 ⟨Nat.zero_le _, Nat.zero_le _⟩) hP hD hS [0, 1, 2, 3, 4, 5, 6, 7, 8, 9] [] [0, 1, 2, 3, 4, 5, 6, 7, 8, 9] allM (by decide) prmM adrM (fun H locs hP hD hS => ?_)
      refine lv_istore_n (lv' := [(2, .int o1.1), (1, .int (0 : Int32)), (0, .ref (z 0))]) hx hb dX4_step_79 rfl hl (by decide) rfl (fun ls hl => ?_)
      refine lv_aload_n hx hb dX4_step_80 rfl (lv_at hl 2 rfl) ?_
      refine lv_iload_n hx hb dX4_step_81 rfl (lv_at hl 0 rfl) ?_
      refine lv_bipush (v := (-2 : Int32)) hx hb dX4_step_82 (by decide) ?_
      refine lv_icmp_ne (tgt := 91) hx hb dX4_step_84 (by decide) (fun c_84 => ?_) (fun c_84 => ?_)
      · refine lv_iconst (v := (0 : Int32)) hx hb dX4_step_91 (by decide) ?_
        refine va_put (D := D) (ci := 3) (v := .int (0 : Int32)) (ty := .boolean) (C := RX4) (T := TX4) (N := 20) hx hb hts (by decide +kernel) tyX4 tyX4_ok nmX4 hown hK hP hD hS 0 rfl rfl 15 (by decide) (hts (.fieldLink RX4 148 "TrapMachineModel" "stopped" "Z") (by decide +kernel)) (fun _ h9 => h9) rfl (by decide +kernel) rfl rfl (Nat.le_of_ble_eq_true rfl) dX4_step_92 (fun H locs hP hD hS => ?_)
        have hP : va_P D vwCl (wM k z (ms14 o1.2 (0 : Int32))) H := hP
        have hD : va_D (in_W (wM k z w)) (wM k z (ms14 o1.2 (0 : Int32))) := hD
        refine lv_aload_n hx hb dX4_step_95 rfl (lv_at hl 2 rfl) ?_
        refine va_get (D := D) (ci := 3) (v := .int (0 : Int32)) (C := RX4) (T := TX4) (N := 20) hx hb hts (by decide +kernel) hown hK hP 0 rfl rfl 15 (by decide) (hts (.fieldLink RX4 148 "TrapMachineModel" "stopped" "Z") (by decide +kernel)) (fun _ h9 => h9) rfl dX4_step_96 ?_
        refine lv_if_eq (tgt := 103) hx hb dX4_step_99 (by decide) (fun _ => ?_) (fun c9 => absurd (by decide) c9)
        refine lv_aload_n hx hb dX4_step_103 rfl (lv_at hl 2 rfl) ?_
        refine lv_iload_n hx hb dX4_step_104 rfl (lv_at hl 0 rfl) ?_
        refine lv_iconst (v := (-1 : Int32)) hx hb dX4_step_105 (by decide) ?_
        refine lv_icmp_eq (tgt := 113) hx hb dX4_step_106 (by decide) (fun c_106 => ?_) (fun c_106 => ?_)
        · refine lv_iconst (v := (0 : Int32)) hx hb dX4_step_113 (by decide) ?_
          refine va_put (D := D) (ci := 3) (v := .int (0 : Int32)) (ty := .boolean) (C := RX4) (T := TX4) (N := 20) hx hb hts (by decide +kernel) tyX4 tyX4_ok nmX4 hown hK hP hD hS 0 rfl rfl 19 (by decide) (hts (.fieldLink RX4 151 "TrapMachineModel" "raised" "Z") (by decide +kernel)) (fun _ h9 => h9) rfl (by decide +kernel) rfl rfl (Nat.le_of_ble_eq_true rfl) dX4_step_114 (fun H locs hP hD hS => ?_)
          have hP : va_P D vwCl (wM k z (ms18 (ms14 o1.2 (0 : Int32)) (0 : Int32))) H := hP
          have hD : va_D (in_W (wM k z w)) (wM k z (ms18 (ms14 o1.2 (0 : Int32)) (0 : Int32))) := hD
          refine lv_aload_n hx hb dX4_step_117 rfl (lv_at hl 2 rfl) ?_
          refine va_get (D := D) (ci := 3) (v := .int (0 : Int32)) (C := RX4) (T := TX4) (N := 20) hx hb hts (by decide +kernel) hown hK hP 0 rfl rfl 19 (by decide) (hts (.fieldLink RX4 151 "TrapMachineModel" "raised" "Z") (by decide +kernel)) (fun _ h9 => h9) rfl dX4_step_118 ?_
          refine lv_if_eq (tgt := 132) hx hb dX4_step_121 (by decide) (fun _ => ?_) (fun c9 => absurd (by decide) c9)
          refine lv_aload_n hx hb dX4_step_132 rfl (lv_at hl 2 rfl) ?_
          refine lv_aload_n hx hb dX4_step_133 rfl (lv_at hl 2 rfl) ?_
          refine va_get (D := D) (ci := 3) (v := .int o1.2.2.2.2.2.2.2.2.2.2.2.1) (C := RX4) (T := TX4) (N := 20) hx hb hts (by decide +kernel) hown hK hP 0 rfl rfl 11 (by decide) (hts (.fieldLink RX4 100 "TrapMachineModel" "next" "I") (by decide +kernel)) (fun _ h9 => h9) rfl dX4_step_134 ?_
          refine va_put (D := D) (ci := 3) (v := .int o1.2.2.2.2.2.2.2.2.2.2.2.1) (ty := .int) (C := RX4) (T := TX4) (N := 20) hx hb hts (by decide +kernel) tyX4 tyX4_ok nmX4 hown hK hP hD hS 0 rfl rfl 10 (by decide) (hts (.fieldLink RX4 51 "TrapMachineModel" "place" "I") (by decide +kernel)) (fun _ h9 => h9) rfl (by decide +kernel) rfl rfl (Nat.le_of_ble_eq_true rfl) dX4_step_137 (fun H locs hP hD hS => ?_)
          have hP : va_P D vwCl (wM k z (ms9 (ms18 (ms14 o1.2 (0 : Int32)) (0 : Int32)) o1.2.2.2.2.2.2.2.2.2.2.2.1)) H := hP
          have hD : va_D (in_W (wM k z w)) (wM k z (ms9 (ms18 (ms14 o1.2 (0 : Int32)) (0 : Int32)) o1.2.2.2.2.2.2.2.2.2.2.2.1)) := hD
          refine lv_aload_n hx hb dX4_step_140 rfl (lv_at hl 2 rfl) ?_
          obtain ⟨o2, h_o2⟩ : ∃ o9, (fX4_tick (ms9 (ms18 (ms14 o1.2 (0 : Int32)) (0 : Int32)) o1.2.2.2.2.2.2.2.2.2.2.2.1)) = o9 := ⟨_, rfl⟩
          refine wr_call (r := none) (ws' := wM k z o2) (W.runV (C := RX4) (b := (z 0)) (As := []) (rest := []) ⟨hx, hb, hml, hown, hts⟩ (kX4_tick l D k z (ms9 (ms18 (ms14 o1.2 (0 : Int32)) (0 : Int32)) o1.2.2.2.2.2.2.2.2.2.2.2.1) o2 h_o2) (cwV 0 hts gX4_step_X4_tick rfl rfl rfl (by decide +kernel) ⟨Nat.le_of_ble_eq_true rfl, Nat.le_of_ble_eq_true rfl⟩) (wr_preV bl_T pr_T hK hP hD (va_recv hK hP (ci := 3) (q0 := 0) rfl rfl)) rfl rfl hl.1 rfl (lv_room (Nat.le_of_ble_eq_true rfl)) dX4_step_141 ⟨Nat.zero_le _, Nat.zero_le _⟩) hP hD hS [0, 1, 2, 3, 4, 5, 6, 7, 8, 9] [] [0, 1, 2, 3, 4, 5, 6, 7, 8, 9] allM (by decide) prmM adrM (fun H locs hP hD hS => ?_)
          exact W.vret hx hb hr (wr_end rfl (congrArg (wM k z) ((show fX4_step w = o2 from (by subst h_o1; subst h_o2; exact (if_pos c_16).trans ((if_pos c_29).trans ((if_neg c_84).trans ((if_pos c_106).trans rfl))))).symm.trans ho)) hP hS) hS.2.2 dX4_step_144
        · refine lv_iconst (v := (1 : Int32)) hx hb dX4_step_109 (by decide) ?_
          refine lv_goto (tgt := 114) hx hb dX4_step_110 (by decide) ?_
          refine va_put (D := D) (ci := 3) (v := .int (1 : Int32)) (ty := .boolean) (C := RX4) (T := TX4) (N := 20) hx hb hts (by decide +kernel) tyX4 tyX4_ok nmX4 hown hK hP hD hS 0 rfl rfl 19 (by decide) (hts (.fieldLink RX4 151 "TrapMachineModel" "raised" "Z") (by decide +kernel)) (fun _ h9 => h9) rfl (by decide +kernel) rfl rfl (Nat.le_of_ble_eq_true rfl) dX4_step_114 (fun H locs hP hD hS => ?_)
          have hP : va_P D vwCl (wM k z (ms18 (ms14 o1.2 (0 : Int32)) (1 : Int32))) H := hP
          have hD : va_D (in_W (wM k z w)) (wM k z (ms18 (ms14 o1.2 (0 : Int32)) (1 : Int32))) := hD
          refine lv_aload_n hx hb dX4_step_117 rfl (lv_at hl 2 rfl) ?_
          refine va_get (D := D) (ci := 3) (v := .int (1 : Int32)) (C := RX4) (T := TX4) (N := 20) hx hb hts (by decide +kernel) hown hK hP 0 rfl rfl 19 (by decide) (hts (.fieldLink RX4 151 "TrapMachineModel" "raised" "Z") (by decide +kernel)) (fun _ h9 => h9) rfl dX4_step_118 ?_
          refine lv_if_eq (tgt := 132) hx hb dX4_step_121 (by decide) (fun c9 => absurd c9 (by decide)) (fun _ => ?_)
          refine lv_aload_n hx hb dX4_step_124 rfl (lv_at hl 2 rfl) ?_
          refine lv_iload_n hx hb dX4_step_125 rfl (lv_at hl 0 rfl) ?_
          obtain ⟨o3, h_o3⟩ : ∃ o9, (fX4_enter (ms18 (ms14 o1.2 (0 : Int32)) (1 : Int32)) o1.1) = o9 := ⟨_, rfl⟩
          refine wr_call (r := none) (ws' := wM k z o3) (W.runV (C := RX4) (b := (z 0)) (As := [.int o1.1]) (rest := []) ⟨hx, hb, hml, hown, hts⟩ (kX4_enter l D k z (ms18 (ms14 o1.2 (0 : Int32)) (1 : Int32)) o1.1 o3 h_o3) (cwV 1 hts gX4_step_X4_enter rfl rfl rfl (by decide +kernel) ⟨Nat.le_of_ble_eq_true rfl, Nat.le_of_ble_eq_true rfl⟩) (wr_preV bl_T pr_T hK hP hD (va_recv hK hP (ci := 3) (q0 := 0) rfl rfl)) rfl rfl hl.1 rfl (lv_room (Nat.le_of_ble_eq_true rfl)) dX4_step_126 ⟨Nat.zero_le _, Nat.zero_le _⟩) hP hD hS [0, 1, 2, 3, 4, 5, 6, 7, 8, 9] [] [0, 1, 2, 3, 4, 5, 6, 7, 8, 9] allM (by decide) prmM adrM (fun H locs hP hD hS => ?_)
          refine lv_goto (tgt := 140) hx hb dX4_step_129 (by decide) ?_
          refine lv_aload_n hx hb dX4_step_140 rfl (lv_at hl 2 rfl) ?_
          obtain ⟨o4, h_o4⟩ : ∃ o9, (fX4_tick o3) = o9 := ⟨_, rfl⟩
          refine wr_call (r := none) (ws' := wM k z o4) (W.runV (C := RX4) (b := (z 0)) (As := []) (rest := []) ⟨hx, hb, hml, hown, hts⟩ (kX4_tick l D k z o3 o4 h_o4) (cwV 0 hts gX4_step_X4_tick rfl rfl rfl (by decide +kernel) ⟨Nat.le_of_ble_eq_true rfl, Nat.le_of_ble_eq_true rfl⟩) (wr_preV bl_T pr_T hK hP hD (va_recv hK hP (ci := 3) (q0 := 0) rfl rfl)) rfl rfl hl.1 rfl (lv_room (Nat.le_of_ble_eq_true rfl)) dX4_step_141 ⟨Nat.zero_le _, Nat.zero_le _⟩) hP hD hS [0, 1, 2, 3, 4, 5, 6, 7, 8, 9] [] [0, 1, 2, 3, 4, 5, 6, 7, 8, 9] allM (by decide) prmM adrM (fun H locs hP hD hS => ?_)
          exact W.vret hx hb hr (wr_end rfl (congrArg (wM k z) ((show fX4_step w = o4 from (by subst h_o1; subst h_o3; subst h_o4; exact (if_pos c_16).trans ((if_pos c_29).trans ((if_neg c_84).trans ((if_neg c_106).trans rfl))))).symm.trans ho)) hP hS) hS.2.2 dX4_step_144
      · refine lv_iconst (v := (1 : Int32)) hx hb dX4_step_87 (by decide) ?_
        refine lv_goto (tgt := 92) hx hb dX4_step_88 (by decide) ?_
        refine va_put (D := D) (ci := 3) (v := .int (1 : Int32)) (ty := .boolean) (C := RX4) (T := TX4) (N := 20) hx hb hts (by decide +kernel) tyX4 tyX4_ok nmX4 hown hK hP hD hS 0 rfl rfl 15 (by decide) (hts (.fieldLink RX4 148 "TrapMachineModel" "stopped" "Z") (by decide +kernel)) (fun _ h9 => h9) rfl (by decide +kernel) rfl rfl (Nat.le_of_ble_eq_true rfl) dX4_step_92 (fun H locs hP hD hS => ?_)
        have hP : va_P D vwCl (wM k z (ms14 o1.2 (1 : Int32))) H := hP
        have hD : va_D (in_W (wM k z w)) (wM k z (ms14 o1.2 (1 : Int32))) := hD
        refine lv_aload_n hx hb dX4_step_95 rfl (lv_at hl 2 rfl) ?_
        refine va_get (D := D) (ci := 3) (v := .int (1 : Int32)) (C := RX4) (T := TX4) (N := 20) hx hb hts (by decide +kernel) hown hK hP 0 rfl rfl 15 (by decide) (hts (.fieldLink RX4 148 "TrapMachineModel" "stopped" "Z") (by decide +kernel)) (fun _ h9 => h9) rfl dX4_step_96 ?_
        refine lv_if_eq (tgt := 103) hx hb dX4_step_99 (by decide) (fun c9 => absurd c9 (by decide)) (fun _ => ?_)
        exact W.vret hx hb hr (wr_end rfl (congrArg (wM k z) ((show fX4_step w = (ms14 o1.2 (1 : Int32)) from (by subst h_o1; exact (if_pos c_16).trans ((if_pos c_29).trans ((if_pos c_84).trans rfl)))).symm.trans ho)) hP hS) hS.2.2 dX4_step_102
    · refine lv_aload_n hx hb dX4_step_32 rfl (lv_at hl 1 rfl) ?_
      refine lv_iload_n hx hb dX4_step_33 rfl (lv_at hl 0 rfl) ?_
      refine lv_if_ne (tgt := 41) hx hb dX4_step_34 (by decide) (fun c9 => absurd (by decide) c9) (fun _ => ?_)
      refine lv_iconst (v := (1 : Int32)) hx hb dX4_step_37 (by decide) ?_
      refine lv_goto (tgt := 42) hx hb dX4_step_38 (by decide) ?_
      refine va_put (D := D) (ci := 3) (v := .int (1 : Int32)) (ty := .boolean) (C := RX4) (T := TX4) (N := 20) hx hb hts (by decide +kernel) tyX4 tyX4_ok nmX4 hown hK hP hD hS 0 rfl rfl 14 (by decide) (hts (.fieldLink RX4 127 "TrapMachineModel" "rests" "Z") (by decide +kernel)) (fun _ h9 => h9) rfl (by decide +kernel) rfl rfl (Nat.le_of_ble_eq_true rfl) dX4_step_42 (fun H locs hP hD hS => ?_)
      have hP : va_P D vwCl (wM k z (ms13 w (1 : Int32))) H := hP
      have hD : va_D (in_W (wM k z w)) (wM k z (ms13 w (1 : Int32))) := hD
      refine lv_aload_n hx hb dX4_step_45 rfl (lv_at hl 1 rfl) ?_
      obtain ⟨o5, h_o5⟩ : ∃ o9, (fX4_tick (ms13 w (1 : Int32))) = o9 := ⟨_, rfl⟩
      refine wr_call (r := none) (ws' := wM k z o5) (W.runV (C := RX4) (b := (z 0)) (As := []) (rest := []) ⟨hx, hb, hml, hown, hts⟩ (kX4_tick l D k z (ms13 w (1 : Int32)) o5 h_o5) (cwV 0 hts gX4_step_X4_tick rfl rfl rfl (by decide +kernel) ⟨Nat.le_of_ble_eq_true rfl, Nat.le_of_ble_eq_true rfl⟩) (wr_preV bl_T pr_T hK hP hD (va_recv hK hP (ci := 3) (q0 := 0) rfl rfl)) rfl rfl hl.1 rfl (lv_room (Nat.le_of_ble_eq_true rfl)) dX4_step_46 ⟨Nat.zero_le _, Nat.zero_le _⟩) hP hD hS [0, 1, 2, 3, 4, 5, 6, 7, 8, 9] [] [0, 1, 2, 3, 4, 5, 6, 7, 8, 9] allM (by decide) prmM adrM (fun H locs hP hD hS => ?_)
      exact W.vret hx hb hr (wr_end rfl (congrArg (wM k z) ((show fX4_step w = o5 from (by subst h_o5; exact (if_pos c_16).trans ((if_neg c_29).trans rfl))).symm.trans ho)) hP hS) hS.2.2 dX4_step_49
  · refine lv_iconst (v := (1 : Int32)) hx hb dX4_step_19 (by decide) ?_
    refine lv_goto (tgt := 24) hx hb dX4_step_20 (by decide) ?_
    refine lv_istore_n (lv' := [(1, .int (1 : Int32)), (0, .ref (z 0))]) hx hb dX4_step_24 rfl hl (by decide) rfl (fun ls hl => ?_)
    refine lv_aload_n hx hb dX4_step_25 rfl (lv_at hl 1 rfl) ?_
    refine va_get (D := D) (ci := 3) (v := .int w.2.2.2.2.2.2.2.2.2.2.2.2.2.1) (C := RX4) (T := TX4) (N := 20) hx hb hts (by decide +kernel) hown hK hP 0 rfl rfl 14 (by decide) (hts (.fieldLink RX4 127 "TrapMachineModel" "rests" "Z") (by decide +kernel)) (fun _ h9 => h9) rfl dX4_step_26 ?_
    refine lv_if_eq (tgt := 50) hx hb dX4_step_29 (by decide) (fun c_29 => ?_) (fun c_29 => ?_)
    · refine lv_iload_n hx hb dX4_step_50 rfl (lv_at hl 0 rfl) ?_
      refine lv_if_eq (tgt := 75) hx hb dX4_step_51 (by decide) (fun c9 => absurd c9 (by decide)) (fun _ => ?_)
      refine lv_aload_n hx hb dX4_step_54 rfl (lv_at hl 1 rfl) ?_
      refine va_get (D := D) (ci := 3) (v := .ref (z 3)) (C := RX4) (T := TX4) (N := 20) hx hb hts (by decide +kernel) hown hK hP 0 rfl rfl 3 (by decide) (hts (.fieldLink RX4 16 "TrapMachineModel" "control" "[I") (by decide +kernel)) (fun _ h9 => h9) rfl dX4_step_55 ?_
      refine lv_iconst (v := (0 : Int32)) hx hb dX4_step_58 (by decide) ?_
      refine q_iald (j := 0) (x9 := (w.2.2.2.1 0)) hx hb hK hP 3 0 rfl rfl (vi_k (by decide)) rfl rfl dX4_step_59 ?_
      refine lv_iconst (v := (4 : Int32)) hx hb dX4_step_60 (by decide) ?_
      refine lv_iand hx hb dX4_step_61 ?_
      refine lv_if_eq (tgt := 75) hx hb dX4_step_62 (by decide) (fun c_62 => ?_) (fun c_62 => ?_)
      · refine lv_aload_n hx hb dX4_step_75 rfl (lv_at hl 1 rfl) ?_
        obtain ⟨o6, h_o6⟩ : ∃ o9, (fX4_instruction w) = o9 := ⟨_, rfl⟩
        refine wr_call (r := (some (.int o6.1))) (ws' := wM k z o6.2) (W.runV (C := RX4) (b := (z 0)) (As := []) (rest := []) ⟨hx, hb, hml, hown, hts⟩ (kX4_instruction l D k z w hf o6 h_o6) (cwV 0 hts gX4_step_X4_instruction rfl rfl rfl (by decide +kernel) ⟨Nat.le_of_ble_eq_true rfl, Nat.le_of_ble_eq_true rfl⟩) (wr_preV bl_T pr_T hK hP hD (va_recv hK hP (ci := 3) (q0 := 0) rfl rfl)) rfl rfl hl.1 rfl (lv_room (Nat.le_of_ble_eq_true rfl)) dX4_step_76 ⟨Nat.zero_le _, Nat.zero_le _⟩) hP hD hS [0, 1, 2, 3, 4, 5, 6, 7, 8, 9] [] [0, 1, 2, 3, 4, 5, 6, 7, 8, 9] allM (by decide) prmM adrM (fun H locs hP hD hS => ?_)
        refine lv_istore_n (lv' := [(2, .int o6.1), (1, .int (1 : Int32)), (0, .ref (z 0))]) hx hb dX4_step_79 rfl hl (by decide) rfl (fun ls hl => ?_)
        refine lv_aload_n hx hb dX4_step_80 rfl (lv_at hl 2 rfl) ?_
        refine lv_iload_n hx hb dX4_step_81 rfl (lv_at hl 0 rfl) ?_
        refine lv_bipush (v := (-2 : Int32)) hx hb dX4_step_82 (by decide) ?_
        refine lv_icmp_ne (tgt := 91) hx hb dX4_step_84 (by decide) (fun c_84 => ?_) (fun c_84 => ?_)
        · refine lv_iconst (v := (0 : Int32)) hx hb dX4_step_91 (by decide) ?_
          refine va_put (D := D) (ci := 3) (v := .int (0 : Int32)) (ty := .boolean) (C := RX4) (T := TX4) (N := 20) hx hb hts (by decide +kernel) tyX4 tyX4_ok nmX4 hown hK hP hD hS 0 rfl rfl 15 (by decide) (hts (.fieldLink RX4 148 "TrapMachineModel" "stopped" "Z") (by decide +kernel)) (fun _ h9 => h9) rfl (by decide +kernel) rfl rfl (Nat.le_of_ble_eq_true rfl) dX4_step_92 (fun H locs hP hD hS => ?_)
          have hP : va_P D vwCl (wM k z (ms14 o6.2 (0 : Int32))) H := hP
          have hD : va_D (in_W (wM k z w)) (wM k z (ms14 o6.2 (0 : Int32))) := hD
          refine lv_aload_n hx hb dX4_step_95 rfl (lv_at hl 2 rfl) ?_
          refine va_get (D := D) (ci := 3) (v := .int (0 : Int32)) (C := RX4) (T := TX4) (N := 20) hx hb hts (by decide +kernel) hown hK hP 0 rfl rfl 15 (by decide) (hts (.fieldLink RX4 148 "TrapMachineModel" "stopped" "Z") (by decide +kernel)) (fun _ h9 => h9) rfl dX4_step_96 ?_
          refine lv_if_eq (tgt := 103) hx hb dX4_step_99 (by decide) (fun _ => ?_) (fun c9 => absurd (by decide) c9)
          refine lv_aload_n hx hb dX4_step_103 rfl (lv_at hl 2 rfl) ?_
          refine lv_iload_n hx hb dX4_step_104 rfl (lv_at hl 0 rfl) ?_
          refine lv_iconst (v := (-1 : Int32)) hx hb dX4_step_105 (by decide) ?_
          refine lv_icmp_eq (tgt := 113) hx hb dX4_step_106 (by decide) (fun c_106 => ?_) (fun c_106 => ?_)
          · refine lv_iconst (v := (0 : Int32)) hx hb dX4_step_113 (by decide) ?_
            refine va_put (D := D) (ci := 3) (v := .int (0 : Int32)) (ty := .boolean) (C := RX4) (T := TX4) (N := 20) hx hb hts (by decide +kernel) tyX4 tyX4_ok nmX4 hown hK hP hD hS 0 rfl rfl 19 (by decide) (hts (.fieldLink RX4 151 "TrapMachineModel" "raised" "Z") (by decide +kernel)) (fun _ h9 => h9) rfl (by decide +kernel) rfl rfl (Nat.le_of_ble_eq_true rfl) dX4_step_114 (fun H locs hP hD hS => ?_)
            have hP : va_P D vwCl (wM k z (ms18 (ms14 o6.2 (0 : Int32)) (0 : Int32))) H := hP
            have hD : va_D (in_W (wM k z w)) (wM k z (ms18 (ms14 o6.2 (0 : Int32)) (0 : Int32))) := hD
            refine lv_aload_n hx hb dX4_step_117 rfl (lv_at hl 2 rfl) ?_
            refine va_get (D := D) (ci := 3) (v := .int (0 : Int32)) (C := RX4) (T := TX4) (N := 20) hx hb hts (by decide +kernel) hown hK hP 0 rfl rfl 19 (by decide) (hts (.fieldLink RX4 151 "TrapMachineModel" "raised" "Z") (by decide +kernel)) (fun _ h9 => h9) rfl dX4_step_118 ?_
            refine lv_if_eq (tgt := 132) hx hb dX4_step_121 (by decide) (fun _ => ?_) (fun c9 => absurd (by decide) c9)
            refine lv_aload_n hx hb dX4_step_132 rfl (lv_at hl 2 rfl) ?_
            refine lv_aload_n hx hb dX4_step_133 rfl (lv_at hl 2 rfl) ?_
            refine va_get (D := D) (ci := 3) (v := .int o6.2.2.2.2.2.2.2.2.2.2.2.1) (C := RX4) (T := TX4) (N := 20) hx hb hts (by decide +kernel) hown hK hP 0 rfl rfl 11 (by decide) (hts (.fieldLink RX4 100 "TrapMachineModel" "next" "I") (by decide +kernel)) (fun _ h9 => h9) rfl dX4_step_134 ?_
            refine va_put (D := D) (ci := 3) (v := .int o6.2.2.2.2.2.2.2.2.2.2.2.1) (ty := .int) (C := RX4) (T := TX4) (N := 20) hx hb hts (by decide +kernel) tyX4 tyX4_ok nmX4 hown hK hP hD hS 0 rfl rfl 10 (by decide) (hts (.fieldLink RX4 51 "TrapMachineModel" "place" "I") (by decide +kernel)) (fun _ h9 => h9) rfl (by decide +kernel) rfl rfl (Nat.le_of_ble_eq_true rfl) dX4_step_137 (fun H locs hP hD hS => ?_)
            have hP : va_P D vwCl (wM k z (ms9 (ms18 (ms14 o6.2 (0 : Int32)) (0 : Int32)) o6.2.2.2.2.2.2.2.2.2.2.2.1)) H := hP
            have hD : va_D (in_W (wM k z w)) (wM k z (ms9 (ms18 (ms14 o6.2 (0 : Int32)) (0 : Int32)) o6.2.2.2.2.2.2.2.2.2.2.2.1)) := hD
            refine lv_aload_n hx hb dX4_step_140 rfl (lv_at hl 2 rfl) ?_
            obtain ⟨o7, h_o7⟩ : ∃ o9, (fX4_tick (ms9 (ms18 (ms14 o6.2 (0 : Int32)) (0 : Int32)) o6.2.2.2.2.2.2.2.2.2.2.2.1)) = o9 := ⟨_, rfl⟩
            refine wr_call (r := none) (ws' := wM k z o7) (W.runV (C := RX4) (b := (z 0)) (As := []) (rest := []) ⟨hx, hb, hml, hown, hts⟩ (kX4_tick l D k z (ms9 (ms18 (ms14 o6.2 (0 : Int32)) (0 : Int32)) o6.2.2.2.2.2.2.2.2.2.2.2.1) o7 h_o7) (cwV 0 hts gX4_step_X4_tick rfl rfl rfl (by decide +kernel) ⟨Nat.le_of_ble_eq_true rfl, Nat.le_of_ble_eq_true rfl⟩) (wr_preV bl_T pr_T hK hP hD (va_recv hK hP (ci := 3) (q0 := 0) rfl rfl)) rfl rfl hl.1 rfl (lv_room (Nat.le_of_ble_eq_true rfl)) dX4_step_141 ⟨Nat.zero_le _, Nat.zero_le _⟩) hP hD hS [0, 1, 2, 3, 4, 5, 6, 7, 8, 9] [] [0, 1, 2, 3, 4, 5, 6, 7, 8, 9] allM (by decide) prmM adrM (fun H locs hP hD hS => ?_)
            exact W.vret hx hb hr (wr_end rfl (congrArg (wM k z) ((show fX4_step w = o7 from (by subst h_o6; subst h_o7; exact (if_neg c_16).trans ((if_pos c_29).trans ((if_pos c_62).trans ((if_neg c_84).trans ((if_pos c_106).trans rfl)))))).symm.trans ho)) hP hS) hS.2.2 dX4_step_144
          · refine lv_iconst (v := (1 : Int32)) hx hb dX4_step_109 (by decide) ?_
            refine lv_goto (tgt := 114) hx hb dX4_step_110 (by decide) ?_
            refine va_put (D := D) (ci := 3) (v := .int (1 : Int32)) (ty := .boolean) (C := RX4) (T := TX4) (N := 20) hx hb hts (by decide +kernel) tyX4 tyX4_ok nmX4 hown hK hP hD hS 0 rfl rfl 19 (by decide) (hts (.fieldLink RX4 151 "TrapMachineModel" "raised" "Z") (by decide +kernel)) (fun _ h9 => h9) rfl (by decide +kernel) rfl rfl (Nat.le_of_ble_eq_true rfl) dX4_step_114 (fun H locs hP hD hS => ?_)
            have hP : va_P D vwCl (wM k z (ms18 (ms14 o6.2 (0 : Int32)) (1 : Int32))) H := hP
            have hD : va_D (in_W (wM k z w)) (wM k z (ms18 (ms14 o6.2 (0 : Int32)) (1 : Int32))) := hD
            refine lv_aload_n hx hb dX4_step_117 rfl (lv_at hl 2 rfl) ?_
            refine va_get (D := D) (ci := 3) (v := .int (1 : Int32)) (C := RX4) (T := TX4) (N := 20) hx hb hts (by decide +kernel) hown hK hP 0 rfl rfl 19 (by decide) (hts (.fieldLink RX4 151 "TrapMachineModel" "raised" "Z") (by decide +kernel)) (fun _ h9 => h9) rfl dX4_step_118 ?_
            refine lv_if_eq (tgt := 132) hx hb dX4_step_121 (by decide) (fun c9 => absurd c9 (by decide)) (fun _ => ?_)
            refine lv_aload_n hx hb dX4_step_124 rfl (lv_at hl 2 rfl) ?_
            refine lv_iload_n hx hb dX4_step_125 rfl (lv_at hl 0 rfl) ?_
            obtain ⟨o8, h_o8⟩ : ∃ o9, (fX4_enter (ms18 (ms14 o6.2 (0 : Int32)) (1 : Int32)) o6.1) = o9 := ⟨_, rfl⟩
            refine wr_call (r := none) (ws' := wM k z o8) (W.runV (C := RX4) (b := (z 0)) (As := [.int o6.1]) (rest := []) ⟨hx, hb, hml, hown, hts⟩ (kX4_enter l D k z (ms18 (ms14 o6.2 (0 : Int32)) (1 : Int32)) o6.1 o8 h_o8) (cwV 1 hts gX4_step_X4_enter rfl rfl rfl (by decide +kernel) ⟨Nat.le_of_ble_eq_true rfl, Nat.le_of_ble_eq_true rfl⟩) (wr_preV bl_T pr_T hK hP hD (va_recv hK hP (ci := 3) (q0 := 0) rfl rfl)) rfl rfl hl.1 rfl (lv_room (Nat.le_of_ble_eq_true rfl)) dX4_step_126 ⟨Nat.zero_le _, Nat.zero_le _⟩) hP hD hS [0, 1, 2, 3, 4, 5, 6, 7, 8, 9] [] [0, 1, 2, 3, 4, 5, 6, 7, 8, 9] allM (by decide) prmM adrM (fun H locs hP hD hS => ?_)
            refine lv_goto (tgt := 140) hx hb dX4_step_129 (by decide) ?_
            refine lv_aload_n hx hb dX4_step_140 rfl (lv_at hl 2 rfl) ?_
            obtain ⟨o9, h_o9⟩ : ∃ o9, (fX4_tick o8) = o9 := ⟨_, rfl⟩
            refine wr_call (r := none) (ws' := wM k z o9) (W.runV (C := RX4) (b := (z 0)) (As := []) (rest := []) ⟨hx, hb, hml, hown, hts⟩ (kX4_tick l D k z o8 o9 h_o9) (cwV 0 hts gX4_step_X4_tick rfl rfl rfl (by decide +kernel) ⟨Nat.le_of_ble_eq_true rfl, Nat.le_of_ble_eq_true rfl⟩) (wr_preV bl_T pr_T hK hP hD (va_recv hK hP (ci := 3) (q0 := 0) rfl rfl)) rfl rfl hl.1 rfl (lv_room (Nat.le_of_ble_eq_true rfl)) dX4_step_141 ⟨Nat.zero_le _, Nat.zero_le _⟩) hP hD hS [0, 1, 2, 3, 4, 5, 6, 7, 8, 9] [] [0, 1, 2, 3, 4, 5, 6, 7, 8, 9] allM (by decide) prmM adrM (fun H locs hP hD hS => ?_)
            exact W.vret hx hb hr (wr_end rfl (congrArg (wM k z) ((show fX4_step w = o9 from (by subst h_o6; subst h_o8; subst h_o9; exact (if_neg c_16).trans ((if_pos c_29).trans ((if_pos c_62).trans ((if_neg c_84).trans ((if_neg c_106).trans rfl)))))).symm.trans ho)) hP hS) hS.2.2 dX4_step_144
        · refine lv_iconst (v := (1 : Int32)) hx hb dX4_step_87 (by decide) ?_
          refine lv_goto (tgt := 92) hx hb dX4_step_88 (by decide) ?_
          refine va_put (D := D) (ci := 3) (v := .int (1 : Int32)) (ty := .boolean) (C := RX4) (T := TX4) (N := 20) hx hb hts (by decide +kernel) tyX4 tyX4_ok nmX4 hown hK hP hD hS 0 rfl rfl 15 (by decide) (hts (.fieldLink RX4 148 "TrapMachineModel" "stopped" "Z") (by decide +kernel)) (fun _ h9 => h9) rfl (by decide +kernel) rfl rfl (Nat.le_of_ble_eq_true rfl) dX4_step_92 (fun H locs hP hD hS => ?_)
          have hP : va_P D vwCl (wM k z (ms14 o6.2 (1 : Int32))) H := hP
          have hD : va_D (in_W (wM k z w)) (wM k z (ms14 o6.2 (1 : Int32))) := hD
          refine lv_aload_n hx hb dX4_step_95 rfl (lv_at hl 2 rfl) ?_
          refine va_get (D := D) (ci := 3) (v := .int (1 : Int32)) (C := RX4) (T := TX4) (N := 20) hx hb hts (by decide +kernel) hown hK hP 0 rfl rfl 15 (by decide) (hts (.fieldLink RX4 148 "TrapMachineModel" "stopped" "Z") (by decide +kernel)) (fun _ h9 => h9) rfl dX4_step_96 ?_
          refine lv_if_eq (tgt := 103) hx hb dX4_step_99 (by decide) (fun c9 => absurd c9 (by decide)) (fun _ => ?_)
          exact W.vret hx hb hr (wr_end rfl (congrArg (wM k z) ((show fX4_step w = (ms14 o6.2 (1 : Int32)) from (by subst h_o6; exact (if_neg c_16).trans ((if_pos c_29).trans ((if_pos c_62).trans ((if_pos c_84).trans rfl))))).symm.trans ho)) hP hS) hS.2.2 dX4_step_102
      · refine lv_aload_n hx hb dX4_step_65 rfl (lv_at hl 1 rfl) ?_
        refine lv_iconst (v := (0 : Int32)) hx hb dX4_step_66 (by decide) ?_
        refine lv_iconst (v := (0 : Int32)) hx hb dX4_step_67 (by decide) ?_
        refine lv_iconst (v := (0 : Int32)) hx hb dX4_step_68 (by decide) ?_
        obtain ⟨o10, h_o10⟩ : ∃ o9, (fX4_with w (0 : Int32) (0 : Int32) (0 : Int32)) = o9 := ⟨_, rfl⟩
        refine wr_call (r := (some (.int o10.1))) (ws' := wM k z o10.2) (W.runV (C := RX4) (b := (z 0)) (As := [.int (0 : Int32), .int (0 : Int32), .int (0 : Int32)]) (rest := []) ⟨hx, hb, hml, hown, hts⟩ (kX4_with l D k z w (0 : Int32) (0 : Int32) (0 : Int32) o10 h_o10) (cwV 3 hts gX4_step_X4_with rfl rfl rfl (by decide +kernel) ⟨Nat.le_of_ble_eq_true rfl, Nat.le_of_ble_eq_true rfl⟩) (wr_preV bl_T pr_T hK hP hD (va_recv hK hP (ci := 3) (q0 := 0) rfl rfl)) rfl rfl hl.1 rfl (lv_room (Nat.le_of_ble_eq_true rfl)) dX4_step_69 ⟨Nat.zero_le _, Nat.zero_le _⟩) hP hD hS [0, 1, 2, 3, 4, 5, 6, 7, 8, 9] [] [0, 1, 2, 3, 4, 5, 6, 7, 8, 9] allM (by decide) prmM adrM (fun H locs hP hD hS => ?_)
        refine lv_goto (tgt := 79) hx hb dX4_step_72 (by decide) ?_
        refine lv_istore_n (lv' := [(2, .int o10.1), (1, .int (1 : Int32)), (0, .ref (z 0))]) hx hb dX4_step_79 rfl hl (by decide) rfl (fun ls hl => ?_)
        refine lv_aload_n hx hb dX4_step_80 rfl (lv_at hl 2 rfl) ?_
        refine lv_iload_n hx hb dX4_step_81 rfl (lv_at hl 0 rfl) ?_
        refine lv_bipush (v := (-2 : Int32)) hx hb dX4_step_82 (by decide) ?_
        refine lv_icmp_ne (tgt := 91) hx hb dX4_step_84 (by decide) (fun c_84 => ?_) (fun c_84 => ?_)
        · refine lv_iconst (v := (0 : Int32)) hx hb dX4_step_91 (by decide) ?_
          refine va_put (D := D) (ci := 3) (v := .int (0 : Int32)) (ty := .boolean) (C := RX4) (T := TX4) (N := 20) hx hb hts (by decide +kernel) tyX4 tyX4_ok nmX4 hown hK hP hD hS 0 rfl rfl 15 (by decide) (hts (.fieldLink RX4 148 "TrapMachineModel" "stopped" "Z") (by decide +kernel)) (fun _ h9 => h9) rfl (by decide +kernel) rfl rfl (Nat.le_of_ble_eq_true rfl) dX4_step_92 (fun H locs hP hD hS => ?_)
          have hP : va_P D vwCl (wM k z (ms14 o10.2 (0 : Int32))) H := hP
          have hD : va_D (in_W (wM k z w)) (wM k z (ms14 o10.2 (0 : Int32))) := hD
          refine lv_aload_n hx hb dX4_step_95 rfl (lv_at hl 2 rfl) ?_
          refine va_get (D := D) (ci := 3) (v := .int (0 : Int32)) (C := RX4) (T := TX4) (N := 20) hx hb hts (by decide +kernel) hown hK hP 0 rfl rfl 15 (by decide) (hts (.fieldLink RX4 148 "TrapMachineModel" "stopped" "Z") (by decide +kernel)) (fun _ h9 => h9) rfl dX4_step_96 ?_
          refine lv_if_eq (tgt := 103) hx hb dX4_step_99 (by decide) (fun _ => ?_) (fun c9 => absurd (by decide) c9)
          refine lv_aload_n hx hb dX4_step_103 rfl (lv_at hl 2 rfl) ?_
          refine lv_iload_n hx hb dX4_step_104 rfl (lv_at hl 0 rfl) ?_
          refine lv_iconst (v := (-1 : Int32)) hx hb dX4_step_105 (by decide) ?_
          refine lv_icmp_eq (tgt := 113) hx hb dX4_step_106 (by decide) (fun c_106 => ?_) (fun c_106 => ?_)
          · refine lv_iconst (v := (0 : Int32)) hx hb dX4_step_113 (by decide) ?_
            refine va_put (D := D) (ci := 3) (v := .int (0 : Int32)) (ty := .boolean) (C := RX4) (T := TX4) (N := 20) hx hb hts (by decide +kernel) tyX4 tyX4_ok nmX4 hown hK hP hD hS 0 rfl rfl 19 (by decide) (hts (.fieldLink RX4 151 "TrapMachineModel" "raised" "Z") (by decide +kernel)) (fun _ h9 => h9) rfl (by decide +kernel) rfl rfl (Nat.le_of_ble_eq_true rfl) dX4_step_114 (fun H locs hP hD hS => ?_)
            have hP : va_P D vwCl (wM k z (ms18 (ms14 o10.2 (0 : Int32)) (0 : Int32))) H := hP
            have hD : va_D (in_W (wM k z w)) (wM k z (ms18 (ms14 o10.2 (0 : Int32)) (0 : Int32))) := hD
            refine lv_aload_n hx hb dX4_step_117 rfl (lv_at hl 2 rfl) ?_
            refine va_get (D := D) (ci := 3) (v := .int (0 : Int32)) (C := RX4) (T := TX4) (N := 20) hx hb hts (by decide +kernel) hown hK hP 0 rfl rfl 19 (by decide) (hts (.fieldLink RX4 151 "TrapMachineModel" "raised" "Z") (by decide +kernel)) (fun _ h9 => h9) rfl dX4_step_118 ?_
            refine lv_if_eq (tgt := 132) hx hb dX4_step_121 (by decide) (fun _ => ?_) (fun c9 => absurd (by decide) c9)
            refine lv_aload_n hx hb dX4_step_132 rfl (lv_at hl 2 rfl) ?_
            refine lv_aload_n hx hb dX4_step_133 rfl (lv_at hl 2 rfl) ?_
            refine va_get (D := D) (ci := 3) (v := .int o10.2.2.2.2.2.2.2.2.2.2.2.1) (C := RX4) (T := TX4) (N := 20) hx hb hts (by decide +kernel) hown hK hP 0 rfl rfl 11 (by decide) (hts (.fieldLink RX4 100 "TrapMachineModel" "next" "I") (by decide +kernel)) (fun _ h9 => h9) rfl dX4_step_134 ?_
            refine va_put (D := D) (ci := 3) (v := .int o10.2.2.2.2.2.2.2.2.2.2.2.1) (ty := .int) (C := RX4) (T := TX4) (N := 20) hx hb hts (by decide +kernel) tyX4 tyX4_ok nmX4 hown hK hP hD hS 0 rfl rfl 10 (by decide) (hts (.fieldLink RX4 51 "TrapMachineModel" "place" "I") (by decide +kernel)) (fun _ h9 => h9) rfl (by decide +kernel) rfl rfl (Nat.le_of_ble_eq_true rfl) dX4_step_137 (fun H locs hP hD hS => ?_)
            have hP : va_P D vwCl (wM k z (ms9 (ms18 (ms14 o10.2 (0 : Int32)) (0 : Int32)) o10.2.2.2.2.2.2.2.2.2.2.2.1)) H := hP
            have hD : va_D (in_W (wM k z w)) (wM k z (ms9 (ms18 (ms14 o10.2 (0 : Int32)) (0 : Int32)) o10.2.2.2.2.2.2.2.2.2.2.2.1)) := hD
            refine lv_aload_n hx hb dX4_step_140 rfl (lv_at hl 2 rfl) ?_
            obtain ⟨o11, h_o11⟩ : ∃ o9, (fX4_tick (ms9 (ms18 (ms14 o10.2 (0 : Int32)) (0 : Int32)) o10.2.2.2.2.2.2.2.2.2.2.2.1)) = o9 := ⟨_, rfl⟩
            refine wr_call (r := none) (ws' := wM k z o11) (W.runV (C := RX4) (b := (z 0)) (As := []) (rest := []) ⟨hx, hb, hml, hown, hts⟩ (kX4_tick l D k z (ms9 (ms18 (ms14 o10.2 (0 : Int32)) (0 : Int32)) o10.2.2.2.2.2.2.2.2.2.2.2.1) o11 h_o11) (cwV 0 hts gX4_step_X4_tick rfl rfl rfl (by decide +kernel) ⟨Nat.le_of_ble_eq_true rfl, Nat.le_of_ble_eq_true rfl⟩) (wr_preV bl_T pr_T hK hP hD (va_recv hK hP (ci := 3) (q0 := 0) rfl rfl)) rfl rfl hl.1 rfl (lv_room (Nat.le_of_ble_eq_true rfl)) dX4_step_141 ⟨Nat.zero_le _, Nat.zero_le _⟩) hP hD hS [0, 1, 2, 3, 4, 5, 6, 7, 8, 9] [] [0, 1, 2, 3, 4, 5, 6, 7, 8, 9] allM (by decide) prmM adrM (fun H locs hP hD hS => ?_)
            exact W.vret hx hb hr (wr_end rfl (congrArg (wM k z) ((show fX4_step w = o11 from (by subst h_o10; subst h_o11; exact (if_neg c_16).trans ((if_pos c_29).trans ((if_neg c_62).trans ((if_neg c_84).trans ((if_pos c_106).trans rfl)))))).symm.trans ho)) hP hS) hS.2.2 dX4_step_144
          · refine lv_iconst (v := (1 : Int32)) hx hb dX4_step_109 (by decide) ?_
            refine lv_goto (tgt := 114) hx hb dX4_step_110 (by decide) ?_
            refine va_put (D := D) (ci := 3) (v := .int (1 : Int32)) (ty := .boolean) (C := RX4) (T := TX4) (N := 20) hx hb hts (by decide +kernel) tyX4 tyX4_ok nmX4 hown hK hP hD hS 0 rfl rfl 19 (by decide) (hts (.fieldLink RX4 151 "TrapMachineModel" "raised" "Z") (by decide +kernel)) (fun _ h9 => h9) rfl (by decide +kernel) rfl rfl (Nat.le_of_ble_eq_true rfl) dX4_step_114 (fun H locs hP hD hS => ?_)
            have hP : va_P D vwCl (wM k z (ms18 (ms14 o10.2 (0 : Int32)) (1 : Int32))) H := hP
            have hD : va_D (in_W (wM k z w)) (wM k z (ms18 (ms14 o10.2 (0 : Int32)) (1 : Int32))) := hD
            refine lv_aload_n hx hb dX4_step_117 rfl (lv_at hl 2 rfl) ?_
            refine va_get (D := D) (ci := 3) (v := .int (1 : Int32)) (C := RX4) (T := TX4) (N := 20) hx hb hts (by decide +kernel) hown hK hP 0 rfl rfl 19 (by decide) (hts (.fieldLink RX4 151 "TrapMachineModel" "raised" "Z") (by decide +kernel)) (fun _ h9 => h9) rfl dX4_step_118 ?_
            refine lv_if_eq (tgt := 132) hx hb dX4_step_121 (by decide) (fun c9 => absurd c9 (by decide)) (fun _ => ?_)
            refine lv_aload_n hx hb dX4_step_124 rfl (lv_at hl 2 rfl) ?_
            refine lv_iload_n hx hb dX4_step_125 rfl (lv_at hl 0 rfl) ?_
            obtain ⟨o12, h_o12⟩ : ∃ o9, (fX4_enter (ms18 (ms14 o10.2 (0 : Int32)) (1 : Int32)) o10.1) = o9 := ⟨_, rfl⟩
            refine wr_call (r := none) (ws' := wM k z o12) (W.runV (C := RX4) (b := (z 0)) (As := [.int o10.1]) (rest := []) ⟨hx, hb, hml, hown, hts⟩ (kX4_enter l D k z (ms18 (ms14 o10.2 (0 : Int32)) (1 : Int32)) o10.1 o12 h_o12) (cwV 1 hts gX4_step_X4_enter rfl rfl rfl (by decide +kernel) ⟨Nat.le_of_ble_eq_true rfl, Nat.le_of_ble_eq_true rfl⟩) (wr_preV bl_T pr_T hK hP hD (va_recv hK hP (ci := 3) (q0 := 0) rfl rfl)) rfl rfl hl.1 rfl (lv_room (Nat.le_of_ble_eq_true rfl)) dX4_step_126 ⟨Nat.zero_le _, Nat.zero_le _⟩) hP hD hS [0, 1, 2, 3, 4, 5, 6, 7, 8, 9] [] [0, 1, 2, 3, 4, 5, 6, 7, 8, 9] allM (by decide) prmM adrM (fun H locs hP hD hS => ?_)
            refine lv_goto (tgt := 140) hx hb dX4_step_129 (by decide) ?_
            refine lv_aload_n hx hb dX4_step_140 rfl (lv_at hl 2 rfl) ?_
            obtain ⟨o13, h_o13⟩ : ∃ o9, (fX4_tick o12) = o9 := ⟨_, rfl⟩
            refine wr_call (r := none) (ws' := wM k z o13) (W.runV (C := RX4) (b := (z 0)) (As := []) (rest := []) ⟨hx, hb, hml, hown, hts⟩ (kX4_tick l D k z o12 o13 h_o13) (cwV 0 hts gX4_step_X4_tick rfl rfl rfl (by decide +kernel) ⟨Nat.le_of_ble_eq_true rfl, Nat.le_of_ble_eq_true rfl⟩) (wr_preV bl_T pr_T hK hP hD (va_recv hK hP (ci := 3) (q0 := 0) rfl rfl)) rfl rfl hl.1 rfl (lv_room (Nat.le_of_ble_eq_true rfl)) dX4_step_141 ⟨Nat.zero_le _, Nat.zero_le _⟩) hP hD hS [0, 1, 2, 3, 4, 5, 6, 7, 8, 9] [] [0, 1, 2, 3, 4, 5, 6, 7, 8, 9] allM (by decide) prmM adrM (fun H locs hP hD hS => ?_)
            exact W.vret hx hb hr (wr_end rfl (congrArg (wM k z) ((show fX4_step w = o13 from (by subst h_o10; subst h_o12; subst h_o13; exact (if_neg c_16).trans ((if_pos c_29).trans ((if_neg c_62).trans ((if_neg c_84).trans ((if_neg c_106).trans rfl)))))).symm.trans ho)) hP hS) hS.2.2 dX4_step_144
        · refine lv_iconst (v := (1 : Int32)) hx hb dX4_step_87 (by decide) ?_
          refine lv_goto (tgt := 92) hx hb dX4_step_88 (by decide) ?_
          refine va_put (D := D) (ci := 3) (v := .int (1 : Int32)) (ty := .boolean) (C := RX4) (T := TX4) (N := 20) hx hb hts (by decide +kernel) tyX4 tyX4_ok nmX4 hown hK hP hD hS 0 rfl rfl 15 (by decide) (hts (.fieldLink RX4 148 "TrapMachineModel" "stopped" "Z") (by decide +kernel)) (fun _ h9 => h9) rfl (by decide +kernel) rfl rfl (Nat.le_of_ble_eq_true rfl) dX4_step_92 (fun H locs hP hD hS => ?_)
          have hP : va_P D vwCl (wM k z (ms14 o10.2 (1 : Int32))) H := hP
          have hD : va_D (in_W (wM k z w)) (wM k z (ms14 o10.2 (1 : Int32))) := hD
          refine lv_aload_n hx hb dX4_step_95 rfl (lv_at hl 2 rfl) ?_
          refine va_get (D := D) (ci := 3) (v := .int (1 : Int32)) (C := RX4) (T := TX4) (N := 20) hx hb hts (by decide +kernel) hown hK hP 0 rfl rfl 15 (by decide) (hts (.fieldLink RX4 148 "TrapMachineModel" "stopped" "Z") (by decide +kernel)) (fun _ h9 => h9) rfl dX4_step_96 ?_
          refine lv_if_eq (tgt := 103) hx hb dX4_step_99 (by decide) (fun c9 => absurd c9 (by decide)) (fun _ => ?_)
          exact W.vret hx hb hr (wr_end rfl (congrArg (wM k z) ((show fX4_step w = (ms14 o10.2 (1 : Int32)) from (by subst h_o10; exact (if_neg c_16).trans ((if_pos c_29).trans ((if_neg c_62).trans ((if_pos c_84).trans rfl))))).symm.trans ho)) hP hS) hS.2.2 dX4_step_102
    · refine lv_aload_n hx hb dX4_step_32 rfl (lv_at hl 1 rfl) ?_
      refine lv_iload_n hx hb dX4_step_33 rfl (lv_at hl 0 rfl) ?_
      refine lv_if_ne (tgt := 41) hx hb dX4_step_34 (by decide) (fun _ => ?_) (fun c9 => absurd c9 (by decide))
      refine lv_iconst (v := (0 : Int32)) hx hb dX4_step_41 (by decide) ?_
      refine va_put (D := D) (ci := 3) (v := .int (0 : Int32)) (ty := .boolean) (C := RX4) (T := TX4) (N := 20) hx hb hts (by decide +kernel) tyX4 tyX4_ok nmX4 hown hK hP hD hS 0 rfl rfl 14 (by decide) (hts (.fieldLink RX4 127 "TrapMachineModel" "rests" "Z") (by decide +kernel)) (fun _ h9 => h9) rfl (by decide +kernel) rfl rfl (Nat.le_of_ble_eq_true rfl) dX4_step_42 (fun H locs hP hD hS => ?_)
      have hP : va_P D vwCl (wM k z (ms13 w (0 : Int32))) H := hP
      have hD : va_D (in_W (wM k z w)) (wM k z (ms13 w (0 : Int32))) := hD
      refine lv_aload_n hx hb dX4_step_45 rfl (lv_at hl 1 rfl) ?_
      obtain ⟨o14, h_o14⟩ : ∃ o9, (fX4_tick (ms13 w (0 : Int32))) = o9 := ⟨_, rfl⟩
      refine wr_call (r := none) (ws' := wM k z o14) (W.runV (C := RX4) (b := (z 0)) (As := []) (rest := []) ⟨hx, hb, hml, hown, hts⟩ (kX4_tick l D k z (ms13 w (0 : Int32)) o14 h_o14) (cwV 0 hts gX4_step_X4_tick rfl rfl rfl (by decide +kernel) ⟨Nat.le_of_ble_eq_true rfl, Nat.le_of_ble_eq_true rfl⟩) (wr_preV bl_T pr_T hK hP hD (va_recv hK hP (ci := 3) (q0 := 0) rfl rfl)) rfl rfl hl.1 rfl (lv_room (Nat.le_of_ble_eq_true rfl)) dX4_step_46 ⟨Nat.zero_le _, Nat.zero_le _⟩) hP hD hS [0, 1, 2, 3, 4, 5, 6, 7, 8, 9] [] [0, 1, 2, 3, 4, 5, 6, 7, 8, 9] allM (by decide) prmM adrM (fun H locs hP hD hS => ?_)
      exact W.vret hx hb hr (wr_end rfl (congrArg (wM k z) ((show fX4_step w = o14 from (by subst h_o14; exact (if_neg c_16).trans ((if_neg c_29).trans rfl))).symm.trans ho)) hP hS) hS.2.2 dX4_step_49
