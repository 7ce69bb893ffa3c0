noncomputable def qf_J7_fill_53178_5 : Nat → Nat → Nat → Int32 → Int32 → Int32 → wm → Option wm
  | 0, _, _, _, _, _, _ => none
  | n + 1, ca, le, x1, x2, x3, m =>
  if x3 ≤ x2 then
    some m
  else
    qg (vp_in x2 le) <|
    qn (qw_u2 m ca x2.toNatClampNeg x1) fun m3 =>
    qn (x2 + nI 1) fun z4 =>
    qf_J7_fill_53178_5 n ca le x1 z4 x3 m3
noncomputable def qf_J7_fill_53178 (ca : Nat) (le : Nat) (x1 : Int32) (m : wm) : Option wm :=
  qn (nI le) fun z1 =>
  qf_J7_fill_53178_5 qfu ca le x1 (nI 0) z1 m
noncomputable def qf_X0_beginAnew (x1 : Int32) (m : wm) : Option wm :=
  qn (qw_u2 m 0 1 x1) fun m1 =>
  qn (x1 - (nI 1)) fun z2 =>
  qn (qw_u2 m1 0 2 z2) fun m3 =>
  qn (qw_u2 m3 0 3 (nI 0)) fun m4 =>
  qn (qw_u2 m4 0 4 (nI 0)) fun m5 =>
  qn (qw_u2 m5 0 5 (nI 0)) fun m6 =>
  qn (qw_u2 m6 0 6 (nI 0)) fun m7 =>
  qb1 (qf_J7_fill_53178 1 4 (nI 0) m7) fun m9 =>
  qb1 (qf_J7_fill_53178 2 4 (nI 0) m9) fun m11 =>
  qb1 (qf_J7_fill_53178 3 200 (nI 0) m11) fun m13 =>
  qb1 (qf_J7_fill_53178 13 16 (-9 : Int32) m13) fun m15 =>
  qb1 (qf_J7_fill_53178 14 16 (-9 : Int32) m15) fun m17 =>
  qb1 (qf_J7_fill_53178 15 16 (nI 0) m17) fun m19 =>
  some m19
noncomputable def qf_X0_copyRows_2 : Nat → Nat → wm → Int32 → Int32 → wm → Option wm
  | 0, _, _, _, _, _ => none
  | n + 1, t, mo, x2, x3, m =>
  qn (nI (qw_nr t)) fun z1 =>
  if z1 ≤ x3 then
    some m
  else
    qg (vp_in x3 (qw_nr t)) <|
    qg (vp_in x3 (qw_nr t)) <|
    qg (¬ x2 < 0) <|
    qg (0 + x2.toNatClampNeg ≤ (qw_rl t)) <|
    qg (0 + x2.toNatClampNeg ≤ (qw_rl t)) <|
    qn (qw_uc m ((qw_rb t) + x3.toNatClampNeg) (va_cpy (mo ((qw_rb t) + x3.toNatClampNeg)) (m ((qw_rb t) + x3.toNatClampNeg)) 0 0 x2.toNatClampNeg)) fun m8 =>
    qn (x3 + nI 1) fun z9 =>
    qf_X0_copyRows_2 n t mo x2 z9 m8
noncomputable def qf_X0_copyRows (t : Nat) (mo : wm) (x2 : Int32) (m : wm) : Option wm :=
  qf_X0_copyRows_2 qfu t mo x2 (nI 0) m
noncomputable def qf_X0_copyFrom (mo : wm) (m : wm) : Option wm :=
  qn (mo 0 0) fun z1 =>
  qn (qw_u2 m 0 0 z1) fun m2 =>
  qn (mo 0 1) fun z3 =>
  qn (qw_u2 m2 0 1 z3) fun m4 =>
  qn (mo 0 2) fun z5 =>
  qn (qw_u2 m4 0 2 z5) fun m6 =>
  qn (mo 0 3) fun z7 =>
  qn (qw_u2 m6 0 3 z7) fun m8 =>
  qn (mo 0 4) fun z9 =>
  qn (qw_u2 m8 0 4 z9) fun m10 =>
  qn (mo 0 5) fun z11 =>
  qn (qw_u2 m10 0 5 z11) fun m12 =>
  qn (mo 0 6) fun z13 =>
  qn (qw_u2 m12 0 6 z13) fun m14 =>
  qn (qw_uc m14 1 (va_cpy (mo 1) (m14 1) 0 0 4)) fun m15 =>
  qn (qw_uc m15 2 (va_cpy (mo 2) (m15 2) 0 0 4)) fun m16 =>
  qn (qw_uc m16 3 (va_cpy (mo 3) (m16 3) 0 0 200)) fun m17 =>
  qb1 (qf_X0_copyRows 4 mo (nI 40) m17) fun m19 =>
  qb1 (qf_X0_copyRows 5 mo (nI 16) m19) fun m21 =>
  qb1 (qf_X0_copyRows 6 mo (nI 200) m21) fun m23 =>
  qb1 (qf_X0_copyRows 7 mo (nI 12) m23) fun m25 =>
  some m25
noncomputable def qf_X0_isNumberFor (x0 : Int32) (x1 : Int32) : Option Int32 :=
  if x0 = 0 then
    if x1 < 0 then
      some (nI 0)
    else
      if (nI 999) < x1 then
        some (nI 0)
      else
        some (nI 1)
  else
    if x0 = (nI 3) then
      if x1 < (nI 1) then
        some (nI 0)
      else
        if (nI 40) < x1 then
          some (nI 0)
        else
          some (nI 1)
    else
      some (nI 1)
noncomputable def qf_X0_framesNeeded (x0 : Int32) (x1 : Int32) : Option Int32 :=
  if x0 = (nI 0) then
    some (nI 0)
  else
  if x0 = (nI 3) then
    some x1
  else
  some (nI 1)
noncomputable def qf_X0_errorOf (x1 : Int32) (x2 : Int32) (x3 : Int32) (m : wm) : Option Int32 :=
  if x2 < 0 then
    some (-1 : Int32)
  else
    if (nI 15) < x2 then
      some (-1 : Int32)
    else
      qb1 (qf_X0_isNumberFor x1 x3) fun r3 =>
      if r3 = 0 then
        some (-1 : Int32)
      else
        qn (m 0 3) fun z6 =>
        qb1 (qf_X0_framesNeeded x1 x3) fun r7 =>
        if r7 ≤ z6 then
          qn (m 0 5) fun z10 =>
          if (nI 200) ≤ z10 then
            some (-3 : Int32)
          else
            if x1 = 0 then
              qn (m 0 3) fun z13 =>
              if z13 < (nI 40) then
                some (nI 0)
              else
                some (-3 : Int32)
            else
              some (nI 0)
        else
          some (-2 : Int32)
noncomputable def qf_X0_isOverrun (x1 : Int32) (m : wm) : Option Int32 :=
  qg (vp_in x1 40) <|
  qn (m 12 x1.toNatClampNeg) fun z1 =>
  if z1 = (-9 : Int32) then
    some (nI 0)
  else
    some (nI 1)
noncomputable def qf_X0_overrunFramesOfTop_2 : Nat → Int32 → Int32 → wm → Option wm
  | 0, _, _, _ => none
  | n + 1, x1, x2, m =>
  qn (m 0 3) fun z1 =>
  if z1 ≤ x2 then
    some m
  else
    qg (vp_in x2 40) <|
    qn (m 11 x2.toNatClampNeg) fun z3 =>
    qn (m 0 2) fun z5 =>
    if z3 = z5 then
      qb1 (qf_X0_isOverrun x2 m) fun r8 =>
      if r8 = 0 then
        qg (vp_in x2 40) <|
        qn (qw_u2 m 12 x2.toNatClampNeg x1) fun m13 =>
        qn (x2 + nI 1) fun z14 =>
        qf_X0_overrunFramesOfTop_2 n x1 z14 m13
      else
        qn (x2 + nI 1) fun z11 =>
        qf_X0_overrunFramesOfTop_2 n x1 z11 m
    else
      qn (x2 + nI 1) fun z7 =>
      qf_X0_overrunFramesOfTop_2 n x1 z7 m
noncomputable def qf_X0_overrunFramesOfTop (x1 : Int32) (m : wm) : Option wm :=
  qf_X0_overrunFramesOfTop_2 qfu x1 (nI 0) m
noncomputable def qf_X0_addFrame_31 (x1 : Int32) (x2 : Int32) (x3 : Int32) (y0 : Int32) (m : wm) : Option (Int32 × wm) :=
  qn (qw_u2 m 0 2 y0) fun m1 =>
  qb1 (qf_X0_overrunFramesOfTop x3 m1) fun m3 =>
  qn (m3 0 2) fun z4 =>
  qg (vp_in z4 16) <|
  qn (qw_u2 m3 13 z4.toNatClampNeg x3) fun m6 =>
  qn (m6 0 2) fun z7 =>
  qg (vp_in z7 16) <|
  qn (qw_u2 m6 14 z7.toNatClampNeg x2) fun m9 =>
  qn (m9 0 2) fun z10 =>
  qg (vp_in z10 16) <|
  qn (m9 15 z10.toNatClampNeg) fun z11 =>
  qn (z11 + (nI 1)) fun z13 =>
  qg (vp_in z10 16) <|
  qn (qw_u2 m9 15 z10.toNatClampNeg z13) fun m15 =>
  qn (m15 0 3) fun z16 =>
  qg (vp_in z16 40) <|
  qn (qw_u2 m15 8 z16.toNatClampNeg x3) fun m18 =>
  qn (m18 0 3) fun z19 =>
  qg (vp_in z19 40) <|
  qn (qw_u2 m18 9 z19.toNatClampNeg x1) fun m21 =>
  qn (m21 0 3) fun z22 =>
  qg (vp_in z22 40) <|
  qn (qw_u2 m21 10 z22.toNatClampNeg x2) fun m24 =>
  qn (m24 0 3) fun z25 =>
  qn (m24 0 2) fun z26 =>
  qg (vp_in z25 40) <|
  qn (qw_u2 m24 11 z25.toNatClampNeg z26) fun m28 =>
  qn (m28 0 3) fun z29 =>
  qg (vp_in z29 40) <|
  qn (qw_u2 m28 12 z29.toNatClampNeg (-9 : Int32)) fun m31 =>
  qn (m31 0 3) fun z32 =>
  qn (z32 + (nI 1)) fun z33 =>
  qn (qw_u2 m31 0 3 z33) fun m34 =>
  qn (m34 0 4) fun z35 =>
  qn (m34 0 3) fun z36 =>
  qn (if z35 < z36 then z36 else z35) fun z37 =>
  qn (qw_u2 m34 0 4 z37) fun m38 =>
  some (x3, m38)
noncomputable def qf_X0_addFrame (x1 : Int32) (x2 : Int32) (m : wm) : Option (Int32 × wm) :=
  qn (m 1 0) fun z1 =>
  qn (m 0 2) fun z2 =>
  qn (z2 + (nI 1)) fun z3 =>
  qn (m 0 1) fun z4 =>
  if z4 ≤ z3 then
    qf_X0_addFrame_31 x1 x2 z1 (nI 0) m
  else
    qn (m 0 2) fun z6 =>
    qn (z6 + (nI 1)) fun z7 =>
    qf_X0_addFrame_31 x1 x2 z1 z7 m
noncomputable def qf_X0_replaceFunction (x1 : Int32) (m : wm) : Option (Int32 × wm) :=
  qn (m 0 3) fun z1 =>
  qn (z1 - (nI 1)) fun z2 =>
  qg (vp_in z2 40) <|
  qn (m 9 z2.toNatClampNeg) fun z3 =>
  qn (m 0 3) fun z5 =>
  qn (z5 - (nI 1)) fun z6 =>
  qg (vp_in z6 40) <|
  qn (qw_u2 m 9 z6.toNatClampNeg x1) fun m8 =>
  some (z3, m8)
noncomputable def qf_X0_outcomeOf (x1 : Int32) (x2 : Int32) (m : wm) : Option Int32 :=
  qg (vp_in x2 16) <|
  qn (m 14 x2.toNatClampNeg) fun z1 =>
  qg (vp_in x1 40) <|
  qn (m 10 x1.toNatClampNeg) fun z3 =>
  if z1 = z3 then
    qg (vp_in x2 16) <|
    qn (m 13 x2.toNatClampNeg) fun z9 =>
    qg (vp_in x1 40) <|
    qn (m 8 x1.toNatClampNeg) fun z11 =>
    if z9 = z11 then
      some (nI 0)
    else
      some (nI 1)
  else
    qb1 (qf_X0_isOverrun x1 m) fun r6 =>
    if r6 = 0 then
      some (nI 3)
    else
      some (nI 2)
noncomputable def qf_X0_confess_99 (x2 : Int32) (x4 : Int32) (y0 : Int32) (y1 : Int32) (m : wm) : Option wm :=
  qg (vp_in y1 12) <|
  qn (qw_u2 m 19 y1.toNatClampNeg y0) fun m2 =>
  qn (qw_u2 m2 20 0 x4) fun m3 =>
  qg (vp_in x2 40) <|
  qn (m3 8 x2.toNatClampNeg) fun z4 =>
  qn (qw_u2 m3 21 0 z4) fun m6 =>
  qn (m6 0 2) fun z7 =>
  qg (vp_in z7 16) <|
  qn (m6 14 z7.toNatClampNeg) fun z8 =>
  qn (qw_u2 m6 22 0 z8) fun m10 =>
  qg (vp_in x2 40) <|
  qn (m10 10 x2.toNatClampNeg) fun z11 =>
  qn (qw_u2 m10 23 0 z11) fun m13 =>
  qn (m13 0 5) fun z14 =>
  qn (qw_u2 m13 24 0 z14) fun m15 =>
  qn (m15 0 6) fun z16 =>
  qn (z16 + (nI 1)) fun z17 =>
  qn (if (nI 12) < z17 then (nI 12) else z17) fun z18 =>
  qn (qw_u2 m15 0 6 z18) fun m19 =>
  if x4 < 0 then
    some m19
  else
    qg (vp_in x4 200) <|
    qn (m19 3 x4.toNatClampNeg) fun z21 =>
    qn (z21 + (nI 1)) fun z23 =>
    qg (vp_in x4 200) <|
    qn (qw_u2 m19 3 x4.toNatClampNeg z23) fun m25 =>
    some m25
noncomputable def qf_X0_confess_83 (x2 : Int32) (x3 : Int32) (x4 : Int32) (m : wm) : Option wm :=
  if x3 = 0 then
    qf_X0_confess_99 x2 x4 (nI 2) (nI 0) m
  else
    qf_X0_confess_99 x2 x4 (nI 1) (nI 0) m
noncomputable def qf_X0_confess_49 : Nat → Int32 → Int32 → Int32 → Int32 → wm → Option wm
  | 0, _, _, _, _, _ => none
  | n + 1, x2, x3, x4, x5, m =>
  if (nI 6) ≤ x5 then
    qf_X0_confess_83 x2 x3 x4 m
  else
    qg (vp_in x5 6) <|
    qg (vp_in x5 6) <|
    qn (qw_uc m (19 + x5.toNatClampNeg) (va_cpy (m (19 + x5.toNatClampNeg)) (m (19 + x5.toNatClampNeg)) 0 1 11)) fun m4 =>
    qn (x5 + nI 1) fun z5 =>
    qf_X0_confess_49 n x2 x3 x4 z5 m4
noncomputable def qf_X0_confess_44 (x2 : Int32) (x3 : Int32) (y0 : Int32) (m : wm) : Option wm :=
  qf_X0_confess_49 qfu x2 x3 y0 (nI 0) m
noncomputable def qf_X0_confess_17 (x2 : Int32) (y0 : Int32) (m : wm) : Option wm :=
  if y0 = 0 then
    qn (m 0 2) fun z2 =>
    qg (vp_in z2 16) <|
    qn (m 13 z2.toNatClampNeg) fun z3 =>
    qf_X0_confess_44 x2 y0 z3 m
  else
    qg (vp_in x2 40) <|
    qn (m 12 x2.toNatClampNeg) fun z5 =>
    qf_X0_confess_44 x2 y0 z5 m
noncomputable def qf_X0_confess (x1 : Int32) (m : wm) : Option wm :=
  qn (m 0 3) fun z1 =>
  qn (z1 - (nI 1)) fun z2 =>
  if x1 = (nI 2) then
    qf_X0_confess_17 z2 (nI 1) m
  else
    qf_X0_confess_17 z2 (nI 0) m
noncomputable def qf_X0_slotBefore (x1 : Int32) (m : wm) : Option Int32 :=
  if x1 ≤ 0 then
    qn (m 0 1) fun z2 =>
    qn (z2 - (nI 1)) fun z3 =>
    some z3
  else
    qn (x1 - (nI 1)) fun z4 =>
    some z4
noncomputable def qf_X0_removeFrame_30 (x1 : Int32) (m : wm) : Option (Int32 × wm) :=
  qg (vp_in x1 4) <|
  qn (m 2 x1.toNatClampNeg) fun z1 =>
  qn (z1 + (nI 1)) fun z3 =>
  qg (vp_in x1 4) <|
  qn (qw_u2 m 2 x1.toNatClampNeg z3) fun m5 =>
  qn (m5 0 3) fun z6 =>
  qn (z6 - (nI 1)) fun z7 =>
  qn (qw_u2 m5 0 3 z7) fun m8 =>
  qn (m8 0 2) fun z9 =>
  qb1 (qf_X0_slotBefore z9 m8) fun r10 =>
  qn (qw_u2 m8 0 2 r10) fun m12 =>
  some (x1, m12)
noncomputable def qf_X0_removeFrame_25 (x1 : Int32) (m : wm) : Option (Int32 × wm) :=
  qb1 (qf_X0_confess x1 m) fun m2 =>
  qf_X0_removeFrame_30 x1 m2
noncomputable def qf_X0_removeFrame (m : wm) : Option (Int32 × wm) :=
  qn (m 0 3) fun z1 =>
  qn (z1 - (nI 1)) fun z2 =>
  qn (m 0 2) fun z3 =>
  qb1 (qf_X0_outcomeOf z2 z3 m) fun r4 =>
  if r4 = (nI 2) then
    qf_X0_removeFrame_25 r4 m
  else
    if r4 = (nI 3) then
      qf_X0_removeFrame_25 r4 m
    else
      qf_X0_removeFrame_30 r4 m
noncomputable def qf_X0_removeFrames_20 : Nat → Int32 → Int32 → wm → Option (Int32 × wm)
  | 0, _, _, _ => none
  | n + 1, x1, x2, m =>
  if x1 ≤ x2 then
    qn (m 0 3) fun z2 =>
    some (z2, m)
  else
    qn (m 0 2) fun z3 =>
    qb1 (qf_X0_slotBefore z3 m) fun r4 =>
    qn (qw_u2 m 0 2 r4) fun m6 =>
    qn (x2 + nI 1) fun z7 =>
    qf_X0_removeFrames_20 n x1 z7 m6
noncomputable def qf_X0_removeFrames (x1 : Int32) (m : wm) : Option (Int32 × wm) :=
  qn (m 0 3) fun z1 =>
  qn (z1 - x1) fun z2 =>
  qn (qw_u2 m 0 3 z2) fun m3 =>
  qn (m3 0 0) fun z4 =>
  if z4 = (nI 1) then
    qf_X0_removeFrames_20 qfu x1 (nI 0) m3
  else
    qn (m3 0 3) fun z6 =>
    some (z6, m3)
noncomputable def qf_X0_remember (x1 : Int32) (x2 : Int32) (x3 : Int32) (m : wm) : Option wm :=
  qn (m 0 5) fun z1 =>
  qg (vp_in z1 200) <|
  qn (qw_u2 m 16 z1.toNatClampNeg x1) fun m3 =>
  qn (m3 0 5) fun z4 =>
  qg (vp_in z4 200) <|
  qn (qw_u2 m3 17 z4.toNatClampNeg x2) fun m6 =>
  qn (m6 0 5) fun z7 =>
  qg (vp_in z7 200) <|
  qn (qw_u2 m6 18 z7.toNatClampNeg x3) fun m9 =>
  qn (m9 0 5) fun z10 =>
  qn (z10 + (nI 1)) fun z11 =>
  qn (qw_u2 m9 0 5 z11) fun m12 =>
  qg (vp_in x1 4) <|
  qn (m12 1 x1.toNatClampNeg) fun z13 =>
  qn (z13 + (nI 1)) fun z15 =>
  qg (vp_in x1 4) <|
  qn (qw_u2 m12 1 x1.toNatClampNeg z15) fun m17 =>
  some m17
noncomputable def qf_X0_take_81 (x1 : Int32) (x2 : Int32) (x3 : Int32) (x5 : Int32) (m : wm) : Option (Int32 × wm) :=
  qb1 (qf_X0_remember x1 x2 x3 m) fun m2 =>
  some (x5, m2)
noncomputable def qf_X0_take (x1 : Int32) (x2 : Int32) (x3 : Int32) (m : wm) : Option (Int32 × wm) :=
  qb1 (qf_X0_errorOf x1 x2 x3 m) fun r1 =>
  if r1 = 0 then
    if x1 = (nI 0) then
      qb2 (qf_X0_addFrame x2 x3 m) fun r5 m7 =>
      qf_X0_take_81 x1 x2 x3 r5 m7
    else
    if x1 = (nI 1) then
      qb2 (qf_X0_replaceFunction x2 m) fun r9 m11 =>
      qf_X0_take_81 x1 x2 x3 r9 m11
    else
    if x1 = (nI 2) then
      qb2 (qf_X0_removeFrame m) fun r13 m15 =>
      qf_X0_take_81 x1 x2 x3 r13 m15
    else
    qb2 (qf_X0_removeFrames x3 m) fun r16 m18 =>
    qf_X0_take_81 x1 x2 x3 r16 m18
  else
    some (r1, m)
noncomputable def qf_X0_overrunFrames_4 : Nat → Int32 → Int32 → wm → Option Int32
  | 0, _, _, _ => none
  | n + 1, x1, x2, m =>
  qn (m 0 3) fun z1 =>
  if z1 ≤ x2 then
    some x1
  else
    qb1 (qf_X0_isOverrun x2 m) fun r3 =>
    if r3 = 0 then
      qn (x2 + nI 1) fun z6 =>
      qf_X0_overrunFrames_4 n x1 z6 m
    else
      qn (x1 + nI 1) fun z7 =>
      qn (x2 + nI 1) fun z8 =>
      qf_X0_overrunFrames_4 n z7 z8 m
noncomputable def qf_X0_overrunFrames (m : wm) : Option Int32 :=
  qf_X0_overrunFrames_4 qfu (nI 0) (nI 0) m
noncomputable def qf_X2_dropOldest_34 (o1 : Nat) (M : wM) (h : (Nat → Nat)) : Option (wM × (Nat → Nat)) :=
  qn (qw_hu h 4 o1) fun h1 =>
  qn (qw_u1 M 8 (qw_u2 (M 8) 0 4 (nI 4))) fun M2 =>
  some (M2, h1)
noncomputable def qf_X2_dropOldest_9 : Nat → Nat → Int32 → wM → (Nat → Nat) → Option (wM × (Nat → Nat))
  | 0, _, _, _, _ => none
  | n + 1, o1, x2, M, h =>
  if (nI 5) ≤ x2 then
    qf_X2_dropOldest_34 o1 M h
  else
    qn (x2 - (nI 1)) fun z2 =>
    qg (vp_in x2 5) <|
    qn (h x2.toNatClampNeg) fun o4 =>
    qg (o4 < 8) <|
    qg (vp_in z2 5) <|
    qn (qw_hu h z2.toNatClampNeg o4) fun h7 =>
    qn (x2 + nI 1) fun z8 =>
    qf_X2_dropOldest_9 n o1 z8 M h7
noncomputable def qf_X2_dropOldest (M : wM) (h : (Nat → Nat)) : Option (wM × (Nat → Nat)) :=
  qn (h 0) fun o1 =>
  qg (o1 < 8) <|
  qf_X2_dropOldest_9 qfu o1 (nI 1) M h
noncomputable def qf_X2_record_12 (o : Nat) (M : wM) (h : (Nat → Nat)) : Option (wM × (Nat → Nat)) :=
  qn (M 8 0 4) fun z1 =>
  qg (vp_in z1 5) <|
  qn (h z1.toNatClampNeg) fun o3 =>
  qg (o3 < 8) <|
  qg (o ≠ o3) <|
  qg (o < 8) <|
  qb1 (qf_X0_copyFrom (M o) (M o3)) fun m8 =>
  qn (qw_u1 M o3 m8) fun M9 =>
  qn (M9 8 0 4) fun z10 =>
  qn (z10 + (nI 1)) fun z11 =>
  qn (qw_u1 M9 8 (qw_u2 (M9 8) 0 4 z11)) fun M12 =>
  some (M12, h)
noncomputable def qf_X2_record (o : Nat) (M : wM) (h : (Nat → Nat)) : Option (wM × (Nat → Nat)) :=
  qn (M 8 0 4) fun z1 =>
  if z1 = (nI 5) then
    qb2 (qf_X2_dropOldest M h) fun M4 h5 =>
    qf_X2_record_12 o M4 h5
  else
    qf_X2_record_12 o M h
noncomputable def qf_X2_takeAsAction (x1 : Int32) (x2 : Int32) (x3 : Int32) (M : wM) (h : (Nat → Nat)) : Option (Int32 × wM × (Nat → Nat)) :=
  qb1 (qf_X0_copyFrom (M 0) (M 1)) fun m2 =>
  qn (qw_u1 M 1 m2) fun M3 =>
  qb2 (qf_X0_take x1 x2 x3 (M3 0)) fun r4 m6 =>
  qn (qw_u1 M3 0 m6) fun M7 =>
  if r4 < 0 then
    some (r4, M7, h)
  else
    qb2 (qf_X2_record 1 M7 h) fun M10 h11 =>
    some (r4, M10, h11)
noncomputable def qf_X2_call (x1 : Int32) (x2 : Int32) (M : wM) (h : (Nat → Nat)) : Option (Int32 × wM × (Nat → Nat)) :=
  qb3 (qf_X2_takeAsAction (nI 0) x1 x2 M h) fun r1 M3 h4 =>
  some (r1, M3, h4)
noncomputable def qf_X2_tail (x1 : Int32) (M : wM) (h : (Nat → Nat)) : Option (Int32 × wM × (Nat → Nat)) :=
  qb3 (qf_X2_takeAsAction (nI 1) x1 (nI 0) M h) fun r1 M3 h4 =>
  some (r1, M3, h4)
noncomputable def qf_X2_ret (M : wM) (h : (Nat → Nat)) : Option (Int32 × wM × (Nat → Nat)) :=
  qb3 (qf_X2_takeAsAction (nI 2) (nI 0) (nI 0) M h) fun r1 M3 h4 =>
  some (r1, M3, h4)
noncomputable def qf_X2_raise (x1 : Int32) (M : wM) (h : (Nat → Nat)) : Option (Int32 × wM × (Nat → Nat)) :=
  qb3 (qf_X2_takeAsAction (nI 3) (nI 0) x1 M h) fun r1 M3 h4 =>
  some (r1, M3, h4)
noncomputable def qf_X2_setRepair (x1 : Int32) (M : wM) (h : (Nat → Nat)) : Option (Int32 × wM × (Nat → Nat)) :=
  if x1 < 0 then
    some ((-1 : Int32), M, h)
  else
    if x1 ≤ (nI 1) then
      qb2 (qf_X2_record 0 M h) fun M4 h5 =>
      qn (M4 0 0 0) fun z6 =>
      qn (qw_u1 M4 0 (qw_u2 (M4 0) 0 0 x1)) fun M7 =>
      some (z6, M7, h5)
    else
      some ((-1 : Int32), M, h)
noncomputable def qf_X2_isSize (x0 : Int32) : Option Int32 :=
  if x0 < (nI 2) then
    some (nI 0)
  else
    if (nI 16) < x0 then
      some (nI 0)
    else
      some (nI 1)
noncomputable def qf_X2_begin (x1 : Int32) (M : wM) (h : (Nat → Nat)) : Option (Int32 × wM × (Nat → Nat)) :=
  qb1 (qf_X2_isSize x1) fun r1 =>
  if r1 = 0 then
    some ((-1 : Int32), M, h)
  else
    qb2 (qf_X2_record 0 M h) fun M5 h6 =>
    qn (M5 0 0 1) fun z7 =>
    qb1 (qf_X0_beginAnew x1 (M5 0)) fun m9 =>
    qn (qw_u1 M5 0 m9) fun M10 =>
    some (z7, M10, h6)
noncomputable def qf_X2_count (x1 : Int32) (M : wM) (h : (Nat → Nat)) : Option Int32 :=
  if x1 = (nI 0) then
    qn (M 0 0 3) fun z2 =>
    some z2
  else
  if x1 = (nI 1) then
    qn (M 0 0 5) fun z4 =>
    some z4
  else
  if x1 = (nI 2) then
    qn (M 0 1 0) fun z6 =>
    some z6
  else
  if x1 = (nI 3) then
    qn (M 0 1 1) fun z8 =>
    some z8
  else
  if x1 = (nI 4) then
    qn (M 0 1 2) fun z10 =>
    some z10
  else
  if x1 = (nI 5) then
    qn (M 0 1 3) fun z12 =>
    some z12
  else
  if x1 = (nI 6) then
    qn (M 0 2 0) fun z14 =>
    qn (M 0 2 1) fun z15 =>
    qn (z14 + z15) fun z16 =>
    some z16
  else
  if x1 = (nI 7) then
    qn (M 0 2 1) fun z18 =>
    some z18
  else
  if x1 = (nI 8) then
    qn (M 0 2 2) fun z20 =>
    some z20
  else
  if x1 = (nI 9) then
    qn (M 0 2 3) fun z22 =>
    some z22
  else
  if x1 = (nI 10) then
    qn (M 0 0 6) fun z24 =>
    some z24
  else
  if x1 = (nI 11) then
    qn (M 0 0 1) fun z26 =>
    some z26
  else
  if x1 = (nI 12) then
    qn (M 0 0 2) fun z28 =>
    some z28
  else
  if x1 = (nI 13) then
    qn (M 0 0 4) fun z30 =>
    some z30
  else
  if x1 = (nI 14) then
    qn (M 0 0 0) fun z32 =>
    some z32
  else
  if x1 = (nI 15) then
    qn (M 8 0 4) fun z34 =>
    some z34
  else
  if x1 = (nI 16) then
    qn (M 8 2 1) fun z36 =>
    some z36
  else
  if x1 = (nI 17) then
    qb1 (qf_X0_overrunFrames (M 0)) fun r38 =>
    some r38
  else
  some (-1 : Int32)
noncomputable def qf_X2_frame (x1 : Int32) (x2 : Int32) (M : wM) (h : (Nat → Nat)) : Option Int32 :=
  if x1 < 0 then
    some (-1 : Int32)
  else
    qn (M 0 0 3) fun z2 =>
    if z2 ≤ x1 then
      some (-1 : Int32)
    else
      if x2 < 0 then
        some (-1 : Int32)
      else
        if x2 < (nI 5) then
          qg (vp_in x2 5) <|
          qn (M 0 0 3) fun z7 =>
          qn (z7 - (nI 1)) fun z8 =>
          qn (z8 - x1) fun z9 =>
          qg (vp_in z9 40) <|
          qn (M 0 (8 + x2.toNatClampNeg) z9.toNatClampNeg) fun z10 =>
          some z10
        else
          some (-1 : Int32)
noncomputable def qf_X2_slot (x1 : Int32) (x2 : Int32) (M : wM) (h : (Nat → Nat)) : Option Int32 :=
  if x1 < 0 then
    some (-1 : Int32)
  else
    qn (M 0 0 1) fun z2 =>
    if z2 ≤ x1 then
      some (-1 : Int32)
    else
      if x2 < 0 then
        some (-1 : Int32)
      else
        if x2 < (nI 3) then
          qg (vp_in x2 3) <|
          qg (vp_in x1 16) <|
          qn (M 0 (13 + x2.toNatClampNeg) x1.toNatClampNeg) fun z7 =>
          some z7
        else
          some (-1 : Int32)
noncomputable def qf_X2_confession (x1 : Int32) (x2 : Int32) (M : wM) (h : (Nat → Nat)) : Option Int32 :=
  if x1 < 0 then
    some (-1 : Int32)
  else
    if x2 < 0 then
      some (-1 : Int32)
    else
      if x2 < (nI 6) then
        qn (M 0 0 6) fun z4 =>
        if x1 < z4 then
          qg (vp_in x2 6) <|
          qg (vp_in x1 12) <|
          qn (M 0 (19 + x2.toNatClampNeg) x1.toNatClampNeg) fun z7 =>
          some z7
        else
          some (-9 : Int32)
      else
        some (-1 : Int32)
noncomputable def qf_X2_named (x1 : Int32) (M : wM) (h : (Nat → Nat)) : Option Int32 :=
  if x1 < 0 then
    some (-1 : Int32)
  else
    qn (M 0 1 0) fun z2 =>
    if x1 < z2 then
      qg (vp_in x1 200) <|
      qn (M 0 3 x1.toNatClampNeg) fun z4 =>
      some z4
    else
      some (-1 : Int32)
noncomputable def qf_X2_worst_7 : Nat → Int32 → Int32 → Int32 → wM → (Nat → Nat) → Option Int32
  | 0, _, _, _, _, _ => none
  | n + 1, x1, x2, x3, M, h =>
  qn (M 0 1 0) fun z1 =>
  if z1 ≤ x3 then
    some x1
  else
    qg (vp_in x3 200) <|
    qn (M 0 3 x3.toNatClampNeg) fun z3 =>
    if z3 ≤ x2 then
      qn (x3 + nI 1) fun z6 =>
      qf_X2_worst_7 n x1 x2 z6 M h
    else
      qg (vp_in x3 200) <|
      qn (M 0 3 x3.toNatClampNeg) fun z7 =>
      qn (x3 + nI 1) fun z9 =>
      qf_X2_worst_7 n x3 z7 z9 M h
noncomputable def qf_X2_worst (M : wM) (h : (Nat → Nat)) : Option Int32 :=
  qf_X2_worst_7 qfu (-9 : Int32) (nI 0) (nI 0) M h
noncomputable def qf_L_low (x0 : Int32) (x1 : Int32) : Option Int32 :=
  qn (x0 &&& (2147483647 : Int32)) fun z1 =>
  qg (¬ x1 = 0) <|
  qn (z1 - z1 / x1 * x1) fun z2 =>
  some z2
noncomputable def qf_L_by (x0 : Int64) : Option Int32 :=
  qn (x0 >>> (((nI 26)).toInt64 &&& 63)) fun z1 =>
  qn ((z1).toInt32) fun z2 =>
  qn (z2 - (nI 9)) fun z3 =>
  some z3
noncomputable def qf_L_fresh_46 : Nat → Int32 → wm → Option wm
  | 0, _, _ => none
  | n + 1, x4, m =>
  if (nI 48) ≤ x4 then
    some m
  else
    qn (x4 - x4 / (nI 3) * (nI 3)) fun z2 =>
    if z2 = (nI 2) then
      qg (vp_in x4 48) <|
      qn (qw_u2 m 3 x4.toNatClampNeg (nI 0)) fun m8 =>
      qn (x4 + nI 1) fun z9 =>
      qf_L_fresh_46 n z9 m8
    else
      qg (vp_in x4 48) <|
      qn (qw_u2 m 3 x4.toNatClampNeg (-9 : Int32)) fun m5 =>
      qn (x4 + nI 1) fun z6 =>
      qf_L_fresh_46 n z6 m5
noncomputable def qf_L_fresh_26 (x2 : Int32) (x3 : Int32) (m : wm) : Option wm :=
  qn (qw_u2 m 1 14 x3) fun m1 =>
  qn (qw_u2 m1 1 11 x2) fun m2 =>
  qn (x2 - (nI 1)) fun z3 =>
  qn (qw_u2 m2 1 12 z3) fun m4 =>
  qf_L_fresh_46 qfu (nI 0) m4
noncomputable def qf_L_fresh_8 : Nat → Int32 → Int32 → Int32 → wm → Option wm
  | 0, _, _, _, _ => none
  | n + 1, x2, x3, x4, m =>
  if (nI 15) ≤ x4 then
    qf_L_fresh_26 x2 x3 m
  else
    qg (vp_in x4 15) <|
    qn (qw_u2 m 1 x4.toNatClampNeg (nI 0)) fun m3 =>
    qn (x4 + nI 1) fun z4 =>
    qf_L_fresh_8 n x2 x3 z4 m3
noncomputable def qf_L_fresh (x2 : Int32) (m : wm) : Option wm :=
  qn (m 1 14) fun z1 =>
  qf_L_fresh_8 qfu x2 z1 (nI 0) m
noncomputable def qf_L_steps (x2 : Int32) (x3 : Int32) (m : wm) : Option wm :=
  qn (m 1 1) fun z1 =>
  qn ((nI 1000) * x2) fun z2 =>
  qn (z2 + x3) fun z3 =>
  qg (vp_in z1 64) <|
  qn (qw_u2 m 4 z1.toNatClampNeg z3) fun m5 =>
  qn (m5 1 1) fun z6 =>
  qn (z6 + (nI 1)) fun z7 =>
  qn (qw_u2 m5 1 1 z7) fun m8 =>
  qn ((nI 2) + x2) fun z9 =>
  qg (vp_in z9 15) <|
  qn (m8 1 z9.toNatClampNeg) fun z10 =>
  qn (z10 + (nI 1)) fun z12 =>
  qg (vp_in z9 15) <|
  qn (qw_u2 m8 1 z9.toNatClampNeg z12) fun m14 =>
  some m14
noncomputable def qf_L_called_209 (x6 : Int32) (x7 : Int32) (y0 : Int32) (y1 : Int32) (m : wm) : Option (Int32 × wm) :=
  qg (vp_in y1 15) <|
  qn (qw_u2 m 1 y1.toNatClampNeg y0) fun m2 =>
  qg (vp_in x7 64) <|
  qn (qw_u2 m2 6 x7.toNatClampNeg (nI 0)) fun m4 =>
  qb1 (qf_L_steps (nI 0) x6 m4) fun m6 =>
  some (x7, m6)
noncomputable def qf_L_called_112 (x5 : Int32) (x6 : Int32) (x7 : Int32) (m : wm) : Option (Int32 × wm) :=
  qn (m 1 12) fun z1 =>
  qn ((nI 3) * z1) fun z2 =>
  qg (vp_in z2 48) <|
  qn (qw_u2 m 3 z2.toNatClampNeg x7) fun m4 =>
  qn (m4 1 12) fun z5 =>
  qn ((nI 3) * z5) fun z6 =>
  qn (z6 + (nI 1)) fun z7 =>
  qg (vp_in z7 48) <|
  qn (qw_u2 m4 3 z7.toNatClampNeg x6) fun m9 =>
  qn (m9 1 12) fun z10 =>
  qn ((nI 3) * z10) fun z11 =>
  qn (z11 + (nI 2)) fun z12 =>
  qg (vp_in z12 48) <|
  qn (m9 3 z12.toNatClampNeg) fun z13 =>
  qn (z13 + (nI 1)) fun z15 =>
  qg (vp_in z12 48) <|
  qn (qw_u2 m9 3 z12.toNatClampNeg z15) fun m17 =>
  qn (m17 1 0) fun z18 =>
  qn ((x7).toInt64) fun z19 =>
  qn ((x5).toInt64) fun z20 =>
  qn (z20 <<< (((nI 8)).toInt64 &&& 63)) fun z21 =>
  qn (z19 ||| z21) fun z22 =>
  qn ((x6).toInt64) fun z23 =>
  qn (z23 <<< (((nI 12)).toInt64 &&& 63)) fun z24 =>
  qn (z22 ||| z24) fun z25 =>
  qn (m17 1 12) fun z26 =>
  qn ((z26).toInt64) fun z27 =>
  qn (z27 <<< (((nI 22)).toInt64 &&& 63)) fun z28 =>
  qn (z25 ||| z28) fun z29 =>
  qg (vp_in z18 40) <|
  qn (qw_uc m17 2 (qj_s (m17 2) z18.toNatClampNeg z29)) fun m31 =>
  qn (m31 1 0) fun z32 =>
  qn (z32 + (nI 1)) fun z33 =>
  qn (qw_u2 m31 1 0 z33) fun m34 =>
  qn (m34 1 0) fun z35 =>
  qn (m34 1 13) fun z36 =>
  if z35 ≤ z36 then
    qn (m34 1 13) fun z38 =>
    qf_L_called_209 x6 x7 z38 (nI 13) m34
  else
    qn (m34 1 0) fun z39 =>
    qf_L_called_209 x6 x7 z39 (nI 13) m34
noncomputable def qf_L_called_35 : Nat → Int32 → Int32 → Int32 → Int32 → wm → Option (Int32 × wm)
  | 0, _, _, _, _, _ => none
  | n + 1, x5, x6, x7, x8, m =>
  qn (m 1 0) fun z1 =>
  if z1 ≤ x8 then
    qf_L_called_112 x5 x6 x7 m
  else
    qg (vp_in x8 40) <|
    qn (qj_l (m 2) x8.toNatClampNeg) fun z3 =>
    qn (z3 >>> (((nI 22)).toInt64 &&& 63)) fun z5 =>
    qn (z5 &&& (15 : Int64)) fun z6 =>
    qn (m 1 12) fun z7 =>
    qn ((z7).toInt64) fun z8 =>
    qn (lg_cmp z6 z8) fun z9 =>
    if z9 = 0 then
      qg (vp_in x8 40) <|
      qn (qj_l (m 2) x8.toNatClampNeg) fun z18 =>
      qb1 (qf_L_by z18) fun r20 =>
      if 0 ≤ r20 then
        qg (vp_in x8 40) <|
        qn (qj_l (m 2) x8.toNatClampNeg) fun z23 =>
        qn (z23 + (lN 0)) fun z26 =>
        qg (vp_in x8 40) <|
        qn (qw_uc m 2 (qj_s (m 2) x8.toNatClampNeg z26)) fun m28 =>
        qn (x8 + nI 1) fun z29 =>
        qf_L_called_35 n x5 x6 x7 z29 m28
      else
        qg (vp_in x8 40) <|
        qn (qj_l (m 2) x8.toNatClampNeg) fun z30 =>
        qn ((x7).toInt64) fun z33 =>
        qn (z33 + (9 : Int64)) fun z34 =>
        qn (z34 <<< (((nI 26)).toInt64 &&& 63)) fun z35 =>
        qn (z30 + z35) fun z36 =>
        qg (vp_in x8 40) <|
        qn (qw_uc m 2 (qj_s (m 2) x8.toNatClampNeg z36)) fun m38 =>
        qn (x8 + nI 1) fun z39 =>
        qf_L_called_35 n x5 x6 x7 z39 m38
    else
      qg (vp_in x8 40) <|
      qn (qj_l (m 2) x8.toNatClampNeg) fun z11 =>
      qn (z11 + (lN 0)) fun z14 =>
      qg (vp_in x8 40) <|
      qn (qw_uc m 2 (qj_s (m 2) x8.toNatClampNeg z14)) fun m16 =>
      qn (x8 + nI 1) fun z17 =>
      qf_L_called_35 n x5 x6 x7 z17 m16
noncomputable def qf_L_called_31 (x5 : Int32) (x6 : Int32) (x7 : Int32) (y0 : Int32) (y1 : Int32) (m : wm) : Option (Int32 × wm) :=
  qg (vp_in y1 15) <|
  qn (qw_u2 m 1 y1.toNatClampNeg y0) fun m2 =>
  qf_L_called_35 qfu x5 x6 x7 (nI 0) m2
noncomputable def qf_L_called (x5 : Int32) (x6 : Int32) (m : wm) : Option (Int32 × wm) :=
  qn (m 1 2) fun z1 =>
  qn (m 1 12) fun z2 =>
  qn (z2 + (nI 1)) fun z3 =>
  qn (m 1 11) fun z4 =>
  if z3 = z4 then
    qf_L_called_31 x5 x6 z1 (nI 0) (nI 12) m
  else
    qn (m 1 12) fun z6 =>
    qn (z6 + (nI 1)) fun z7 =>
    qf_L_called_31 x5 x6 z1 z7 (nI 12) m
noncomputable def qf_L_returned_294 (x12 : Int32) (y0 : Int32) (y1 : Int32) (m : wm) : Option (Int32 × wm) :=
  qg (vp_in y1 15) <|
  qn (qw_u2 m 1 y1.toNatClampNeg y0) fun m2 =>
  qb1 (qf_L_steps (nI 2) (nI 0) m2) fun m4 =>
  some (x12, m4)
noncomputable def qf_L_returned_262 (x12 : Int32) (m : wm) : Option (Int32 × wm) :=
  qn (m 1 0) fun z1 =>
  qn (z1 - (nI 1)) fun z2 =>
  qn (qw_u2 m 1 0 z2) fun m3 =>
  qn (m3 1 12) fun z4 =>
  if z4 = 0 then
    qn (m3 1 11) fun z8 =>
    qn (z8 - (nI 1)) fun z9 =>
    qf_L_returned_294 x12 z9 (nI 12) m3
  else
    qn (m3 1 12) fun z6 =>
    qn (z6 - (nI 1)) fun z7 =>
    qf_L_returned_294 x12 z7 (nI 12) m3
noncomputable def qf_L_returned_183 (x9 : Int32) (x10 : Int32) (x11 : Int32) (x12 : Int32) (y0 : Int32) (m : wm) : Option (Int32 × wm) :=
  qn (m 1 10) fun z1 =>
  qn ((x12).toInt64) fun z2 =>
  qn (z2 - (lN 1)) fun z3 =>
  qn ((y0).toInt64) fun z4 =>
  qn (z4 + (9 : Int64)) fun z5 =>
  qn (z5 <<< (((nI 2)).toInt64 &&& 63)) fun z6 =>
  qn (z3 ||| z6) fun z7 =>
  qn ((x11).toInt64) fun z8 =>
  qn (z8 <<< (((nI 10)).toInt64 &&& 63)) fun z9 =>
  qn (z7 ||| z9) fun z10 =>
  qn ((x9).toInt64) fun z11 =>
  qn (z11 + (9 : Int64)) fun z12 =>
  qn (z12 <<< (((nI 18)).toInt64 &&& 63)) fun z13 =>
  qn (z10 ||| z13) fun z14 =>
  qn ((x10).toInt64) fun z15 =>
  qn (z15 <<< (((nI 28)).toInt64 &&& 63)) fun z16 =>
  qn (z14 ||| z16) fun z17 =>
  qn (m 1 1) fun z18 =>
  qn ((z18).toInt64) fun z19 =>
  qn (z19 <<< (((nI 38)).toInt64 &&& 63)) fun z20 =>
  qn (z17 ||| z20) fun z21 =>
  qg (vp_in z1 64) <|
  qn (qw_uc m 5 (qj_s (m 5) z1.toNatClampNeg z21)) fun m23 =>
  qn (m23 1 10) fun z24 =>
  qn (z24 + (nI 1)) fun z25 =>
  qn (qw_u2 m23 1 10 z25) fun m26 =>
  if y0 < 0 then
    qf_L_returned_262 x12 m26
  else
    qg (vp_in y0 64) <|
    qn (m26 6 y0.toNatClampNeg) fun z28 =>
    qn (z28 + (nI 1)) fun z30 =>
    qg (vp_in y0 64) <|
    qn (qw_u2 m26 6 y0.toNatClampNeg z30) fun m32 =>
    qf_L_returned_262 x12 m32
noncomputable def qf_L_returned_159 (x6 : Int64) (x8 : Int32) (x9 : Int32) (x10 : Int32) (x11 : Int32) (x12 : Int32) (y0 : Int32) (y1 : Int32) (y2 : Int32) (m : wm) : Option (Int32 × wm) :=
  qn (y1 + y0) fun z1 =>
  qg (vp_in y2 15) <|
  qn (qw_u2 m 1 y2.toNatClampNeg z1) fun m3 =>
  if x12 ≤ (nI 1) then
    qf_L_returned_262 x12 m3
  else
    if x12 = (nI 2) then
      qb1 (qf_L_by x6) fun r6 =>
      qf_L_returned_183 x9 x10 x11 x12 r6 m3
    else
      qf_L_returned_183 x9 x10 x11 x12 x8 m3
noncomputable def qf_L_returned_141 (x6 : Int64) (x8 : Int32) (x9 : Int32) (x10 : Int32) (x11 : Int32) (x12 : Int32) (y0 : Int32) (y1 : Int32) (y2 : Int32) (m : wm) : Option (Int32 × wm) :=
  qn (y1 + y0) fun z1 =>
  qg (vp_in y2 15) <|
  qn (qw_u2 m 1 y2.toNatClampNeg z1) fun m3 =>
  qn (m3 1 9) fun z4 =>
  if x12 = (nI 3) then
    qf_L_returned_159 x6 x8 x9 x10 x11 x12 (nI 1) z4 (nI 9) m3
  else
    qf_L_returned_159 x6 x8 x9 x10 x11 x12 (nI 0) z4 (nI 9) m3
noncomputable def qf_L_returned_123 (x6 : Int64) (x8 : Int32) (x9 : Int32) (x10 : Int32) (x11 : Int32) (x12 : Int32) (y0 : Int32) (y1 : Int32) (y2 : Int32) (m : wm) : Option (Int32 × wm) :=
  qn (y1 + y0) fun z1 =>
  qg (vp_in y2 15) <|
  qn (qw_u2 m 1 y2.toNatClampNeg z1) fun m3 =>
  qn (m3 1 8) fun z4 =>
  if x12 = (nI 2) then
    qf_L_returned_141 x6 x8 x9 x10 x11 x12 (nI 1) z4 (nI 8) m3
  else
    qf_L_returned_141 x6 x8 x9 x10 x11 x12 (nI 0) z4 (nI 8) m3
noncomputable def qf_L_returned_105 (x6 : Int64) (x8 : Int32) (x9 : Int32) (x10 : Int32) (x11 : Int32) (x12 : Int32) (y0 : Int32) (y1 : Int32) (y2 : Int32) (m : wm) : Option (Int32 × wm) :=
  qn (y1 + y0) fun z1 =>
  qg (vp_in y2 15) <|
  qn (qw_u2 m 1 y2.toNatClampNeg z1) fun m3 =>
  qn (m3 1 7) fun z4 =>
  if x12 = (nI 1) then
    qf_L_returned_123 x6 x8 x9 x10 x11 x12 (nI 1) z4 (nI 7) m3
  else
    qf_L_returned_123 x6 x8 x9 x10 x11 x12 (nI 0) z4 (nI 7) m3
noncomputable def qf_L_returned_87 (x6 : Int64) (x8 : Int32) (x9 : Int32) (x10 : Int32) (x11 : Int32) (y0 : Int32) (m : wm) : Option (Int32 × wm) :=
  qn (m 1 6) fun z1 =>
  if (nI 2) ≤ y0 then
    qf_L_returned_105 x6 x8 x9 x10 x11 y0 (nI 0) z1 (nI 6) m
  else
    qf_L_returned_105 x6 x8 x9 x10 x11 y0 (nI 1) z1 (nI 6) m
noncomputable def qf_L_returned (m : wm) : Option (Int32 × wm) :=
  qn (m 1 0) fun z1 =>
  qn (z1 - (nI 1)) fun z2 =>
  qg (vp_in z2 40) <|
  qn (qj_l (m 2) z2.toNatClampNeg) fun z3 =>
  qn (m 1 12) fun z5 =>
  qn ((nI 3) * z5) fun z6 =>
  qg (vp_in z6 48) <|
  qn (m 3 z6.toNatClampNeg) fun z7 =>
  qn (m 1 12) fun z9 =>
  qn ((nI 3) * z9) fun z10 =>
  qn (z10 + (nI 1)) fun z11 =>
  qg (vp_in z11 48) <|
  qn (m 3 z11.toNatClampNeg) fun z12 =>
  qn (z3 >>> (((nI 12)).toInt64 &&& 63)) fun z14 =>
  qn (z14 &&& (1023 : Int64)) fun z15 =>
  qn ((z15).toInt32) fun z16 =>
  qn (z3 &&& (255 : Int64)) fun z17 =>
  qn ((z17).toInt32) fun z18 =>
  if z12 = z16 then
    if z7 = z18 then
      qf_L_returned_87 z3 z7 z12 z16 z18 (nI 0) m
    else
      qf_L_returned_87 z3 z7 z12 z16 z18 (nI 1) m
  else
    qb1 (qf_L_by z3) fun r20 =>
    if r20 < 0 then
      qf_L_returned_87 z3 z7 z12 z16 z18 (nI 3) m
    else
      qf_L_returned_87 z3 z7 z12 z16 z18 (nI 2) m
noncomputable def qf_L_acts_58 (x8 : Int32) (y0 : Int32) (M : wM) (h : (Nat → Nat)) : Option (Int32 × wM × (Nat → Nat)) :=
  qn (M 9 1 0) fun z1 =>
  if z1 = (nI 40) then
    qn (x8 - x8 / (nI 16) * (nI 16)) fun z14 =>
    qb3 (qf_X2_call z14 y0 M h) fun r15 M17 h18 =>
    if r15 = (-3 : Int32) then
      some ((nI 1), M17, h18)
    else
      some ((nI 0), M17, h18)
  else
    qn (x8 - x8 / (nI 16) * (nI 16)) fun z3 =>
    qb3 (qf_X2_call z3 y0 M h) fun r4 M6 h7 =>
    qn (x8 - x8 / (nI 16) * (nI 16)) fun z8 =>
    qb2 (qf_L_called z8 y0 (M6 9)) fun r9 m11 =>
    qn (qw_u1 M6 9 m11) fun M12 =>
    if r4 = r9 then
      some ((nI 1), M12, h7)
    else
      some ((nI 0), M12, h7)
noncomputable def qf_L_acts_34 (x8 : Int32) (M : wM) (h : (Nat → Nat)) : Option (Int32 × wM × (Nat → Nat)) :=
  qn (x8 - x8 / (nI 4) * (nI 4)) fun z1 =>
  if z1 = 0 then
    qn (x8 / (nI 4)) fun z5 =>
    qn (z5 - z5 / (nI 1000) * (nI 1000)) fun z6 =>
    qf_L_acts_58 x8 z6 M h
  else
    qn (x8 / (nI 4)) fun z3 =>
    qn (z3 - z3 / (nI 4) * (nI 4)) fun z4 =>
    qf_L_acts_58 x8 z4 M h
noncomputable def qf_L_acts_402 (x10 : Int32) (M : wM) (h : (Nat → Nat)) : Option (Int32 × wM × (Nat → Nat)) :=
  qb1 (qf_L_steps (nI 3) x10 (M 9)) fun m2 =>
  qn (qw_u1 M 9 m2) fun M3 =>
  qb3 (qf_X2_raise x10 M3 h) fun r4 M6 h7 =>
  qn (M6 9 1 0) fun z8 =>
  if r4 = z8 then
    some ((nI 1), M6, h7)
  else
    some ((nI 0), M6, h7)
noncomputable def qf_L_acts_355 : Nat → Int32 → Int32 → wM → (Nat → Nat) → Option (Int32 × wM × (Nat → Nat))
  | 0, _, _, _, _ => none
  | n + 1, x10, x11, M, h =>
  if x10 ≤ x11 then
    qf_L_acts_402 x10 M h
  else
    qn (M 9 1 14) fun z2 =>
    if z2 = (nI 1) then
      qn (M 9 1 12) fun z4 =>
      if z4 = 0 then
        qn (M 9 1 11) fun z10 =>
        qn (z10 - (nI 1)) fun z11 =>
        qn (qw_u1 M 9 (qw_u2 (M 9) 1 12 z11)) fun M12 =>
        qn (x11 + nI 1) fun z13 =>
        qf_L_acts_355 n x10 z13 M12 h
      else
        qn (M 9 1 12) fun z6 =>
        qn (z6 - (nI 1)) fun z7 =>
        qn (qw_u1 M 9 (qw_u2 (M 9) 1 12 z7)) fun M8 =>
        qn (x11 + nI 1) fun z9 =>
        qf_L_acts_355 n x10 z9 M8 h
    else
      qf_L_acts_402 x10 M h
noncomputable def qf_L_acts (x7 : Int32) (M : wM) (h : (Nat → Nat)) : Option (Int32 × wM × (Nat → Nat)) :=
  qn (x7 >>> ((nI 5) &&& 31)) fun z1 =>
  qb1 (qf_L_low z1 (10000000 : Int32)) fun r2 =>
  qb1 (qf_L_low x7 (nI 26)) fun r4 =>
  if r4 < (nI 11) then
    qf_L_acts_34 r2 M h
  else
    if r4 ≤ (nI 22) then
      if (nI 13) ≤ r4 then
        if (nI 19) ≤ r4 then
          if (nI 21) ≤ r4 then
            if r4 = (nI 21) then
              qn (M 9 1 14) fun z57 =>
              qn (r2 - r2 / (nI 2) * (nI 2)) fun z58 =>
              qn (qw_u1 M 9 (qw_u2 (M 9) 1 14 z58)) fun M59 =>
              qn (r2 - r2 / (nI 2) * (nI 2)) fun z60 =>
              qb3 (qf_X2_setRepair z60 M59 h) fun r61 M63 h64 =>
              if r61 = z57 then
                some ((nI 1), M63, h64)
              else
                some ((nI 0), M63, h64)
            else
              qn (r2 - r2 / (nI 6) * (nI 6)) fun z12 =>
              if z12 ≤ 0 then
                qn (M 9 1 11) fun z14 =>
                qn (r2 / (nI 6)) fun z15 =>
                qn (z15 - z15 / (nI 15) * (nI 15)) fun z16 =>
                qn ((nI 2) + z16) fun z17 =>
                qb1 (qf_L_fresh z17 (M 9)) fun m19 =>
                qn (qw_u1 M 9 m19) fun M20 =>
                qn (M20 9 1 11) fun z21 =>
                qb3 (qf_X2_begin z21 M20 h) fun r22 M24 h25 =>
                if r22 = z14 then
                  some ((nI 1), M24, h25)
                else
                  some ((nI 0), M24, h25)
              else
                qb3 (qf_X2_begin (nI 1) M h) fun r27 M29 h30 =>
                if r27 = (-1 : Int32) then
                  qb3 (qf_X2_begin (nI 17) M29 h30) fun r32 M34 h35 =>
                  if r32 = (-1 : Int32) then
                    qb3 (qf_X2_setRepair (nI 2) M34 h35) fun r37 M39 h40 =>
                    if r37 = (-1 : Int32) then
                      qb3 (qf_X2_call (nI 16) (nI 0) M39 h40) fun r42 M44 h45 =>
                      if r42 = (-1 : Int32) then
                        qb3 (qf_X2_call (nI 0) (nI 1000) M44 h45) fun r47 M49 h50 =>
                        if r47 = (-1 : Int32) then
                          qb3 (qf_X2_tail (-1 : Int32) M49 h50) fun r52 M54 h55 =>
                          if r52 = (-1 : Int32) then
                            some ((nI 1), M54, h55)
                          else
                            some ((nI 0), M54, h55)
                        else
                          some ((nI 0), M49, h50)
                      else
                        some ((nI 0), M44, h45)
                    else
                      some ((nI 0), M39, h40)
                  else
                    some ((nI 0), M34, h35)
                else
                  some ((nI 0), M29, h30)
          else
            qn (r2 - r2 / (nI 4) * (nI 4)) fun z66 =>
            qn ((nI 1) + z66) fun z67 =>
            qn (M 9 1 0) fun z68 =>
            if z67 ≤ z68 then
              qn (M 9 1 0) fun z70 =>
              qn (z70 - z67) fun z71 =>
              qn (qw_u1 M 9 (qw_u2 (M 9) 1 0 z71)) fun M72 =>
              qf_L_acts_355 qfu z67 (nI 0) M72 h
            else
              qb3 (qf_X2_raise z67 M h) fun r73 M75 h76 =>
              if r73 = (-2 : Int32) then
                qb3 (qf_X2_raise (nI 41) M75 h76) fun r78 M80 h81 =>
                if r78 = (-1 : Int32) then
                  qb3 (qf_X2_raise (nI 0) M80 h81) fun r83 M85 h86 =>
                  if r83 = (-1 : Int32) then
                    some ((nI 1), M85, h86)
                  else
                    some ((nI 0), M85, h86)
                else
                  some ((nI 0), M80, h81)
              else
                some ((nI 0), M75, h76)
        else
          qn (M 9 1 0) fun z88 =>
          if z88 = 0 then
            qb3 (qf_X2_ret M h) fun r99 M101 h102 =>
            if r99 = (-2 : Int32) then
              some ((nI 1), M101, h102)
            else
              some ((nI 0), M101, h102)
          else
            qb3 (qf_X2_ret M h) fun r90 M92 h93 =>
            qb2 (qf_L_returned (M92 9)) fun r94 m96 =>
            qn (qw_u1 M92 9 m96) fun M97 =>
            if r90 = r94 then
              some ((nI 1), M97, h93)
            else
              some ((nI 0), M97, h93)
      else
        qn (M 9 1 0) fun z104 =>
        if z104 = 0 then
          qn (r2 - r2 / (nI 16) * (nI 16)) fun z132 =>
          qb3 (qf_X2_tail z132 M h) fun r133 M135 h136 =>
          if r133 = (-2 : Int32) then
            some ((nI 1), M135, h136)
          else
            some ((nI 0), M135, h136)
        else
          qn (M 9 1 0) fun z106 =>
          qn (z106 - (nI 1)) fun z107 =>
          qg (vp_in z107 40) <|
          qn (qj_l (M 9 2) z107.toNatClampNeg) fun z108 =>
          qn (z108 >>> (((nI 8)).toInt64 &&& 63)) fun z110 =>
          qn (z110 &&& (15 : Int64)) fun z111 =>
          qn ((z111).toInt32) fun z112 =>
          qg (vp_in z107 40) <|
          qn (qj_l (M 9 2) z107.toNatClampNeg) fun z113 =>
          qn (r2 - r2 / (nI 16) * (nI 16)) fun z115 =>
          qn (z115 - z112) fun z116 =>
          qn (z116 <<< ((nI 8) &&& 31)) fun z117 =>
          qn ((z117).toInt64) fun z118 =>
          qn (z113 + z118) fun z119 =>
          qg (vp_in z107 40) <|
          qn (qw_u1 M 9 (qw_uc (M 9) 2 (qj_s ((M 9) 2) z107.toNatClampNeg z119))) fun M121 =>
          qn (r2 - r2 / (nI 16) * (nI 16)) fun z122 =>
          qb1 (qf_L_steps (nI 1) z122 (M121 9)) fun m124 =>
          qn (qw_u1 M121 9 m124) fun M125 =>
          qn (r2 - r2 / (nI 16) * (nI 16)) fun z126 =>
          qb3 (qf_X2_tail z126 M125 h) fun r127 M129 h130 =>
          if r127 = z112 then
            some ((nI 1), M129, h130)
          else
            some ((nI 0), M129, h130)
    else
      qf_L_acts_34 r2 M h
noncomputable def qf_L_isSo_611 (x6 : Int32) (x8 : Int32) (x11 : Int32) (y0 : Int32) (M : wM) (h : (Nat → Nat)) : Option Int32 :=
  if y0 = 0 then
    some (nI 0)
  else
    qb1 (qf_X2_count (nI 16) M h) fun r2 =>
    if r2 = 0 then
      qb1 (qf_X2_count (nI 17) M h) fun r5 =>
      if r5 = x6 then
        qb1 (qf_X2_worst M h) fun r8 =>
        if r8 = x8 then
          qn (M 9 1 0) fun z11 =>
          qb1 (qf_X2_frame z11 (nI 0) M h) fun r12 =>
          if r12 = (-1 : Int32) then
            qn (M 9 1 11) fun z15 =>
            qb1 (qf_X2_slot z15 (nI 0) M h) fun r16 =>
            if r16 = (-1 : Int32) then
              qb1 (qf_X2_confession x11 (nI 0) M h) fun r19 =>
              if r19 = (-9 : Int32) then
                qn (M 9 1 2) fun z22 =>
                qb1 (qf_X2_named z22 M h) fun r23 =>
                if r23 = (-1 : Int32) then
                  some (nI 1)
                else
                  some (nI 0)
              else
                some (nI 0)
            else
              some (nI 0)
          else
            some (nI 0)
        else
          some (nI 0)
      else
        some (nI 0)
    else
      some (nI 0)
noncomputable def qf_L_isSo_610 (x6 : Int32) (x8 : Int32) (x11 : Int32) (M : wM) (h : (Nat → Nat)) : Option Int32 :=
  qf_L_isSo_611 x6 x8 x11 (nI 0) M h
noncomputable def qf_L_isSo_558 (x6 : Int32) (x8 : Int32) (x9 : Int32) (x10 : Int32) (x11 : Int32) (M : wM) (h : (Nat → Nat)) : Option Int32 :=
  if x10 = 0 then
    qf_L_isSo_610 x6 x8 x11 M h
  else
    qn (M 9 1 4) fun z2 =>
    qn (M 9 1 6) fun z3 =>
    qn (M 9 1 8) fun z4 =>
    qn (z3 + z4) fun z5 =>
    qn (M 9 1 9) fun z6 =>
    qn (z5 + z6) fun z7 =>
    if z2 = z7 then
      qn (M 9 1 8) fun z9 =>
      qn (M 9 1 9) fun z10 =>
      qn (z9 + z10) fun z11 =>
      if z11 < x9 then
        qf_L_isSo_610 x6 x8 x11 M h
      else
        qn (M 9 1 8) fun z13 =>
        if x9 < z13 then
          qf_L_isSo_610 x6 x8 x11 M h
        else
          qf_L_isSo_611 x6 x8 x11 (nI 1) M h
    else
      qf_L_isSo_610 x6 x8 x11 M h
noncomputable def qf_L_isSo_508 : Nat → Int32 → Int32 → Int32 → Int32 → Int32 → Int32 → wM → (Nat → Nat) → Option Int32
  | 0, _, _, _, _, _, _, _, _ => none
  | n + 1, x6, x8, x9, x10, x11, x12, M, h =>
  if (nI 15) ≤ x12 then
    qf_L_isSo_558 x6 x8 x9 x10 x11 M h
  else
    if x10 = 0 then
      qn (x12 + nI 1) fun z3 =>
      qf_L_isSo_508 n x6 x8 x9 (nI 0) x11 z3 M h
    else
      qb1 (qf_X2_count x12 M h) fun r4 =>
      if x12 = (nI 10) then
        if r4 = x11 then
          qn (x12 + nI 1) fun z14 =>
          qf_L_isSo_508 n x6 x8 x9 (nI 1) x11 z14 M h
        else
          qn (x12 + nI 1) fun z13 =>
          qf_L_isSo_508 n x6 x8 x9 (nI 0) x11 z13 M h
      else
        qg (vp_in x12 15) <|
        qn (M 9 1 x12.toNatClampNeg) fun z7 =>
        if r4 = z7 then
          qn (x12 + nI 1) fun z11 =>
          qf_L_isSo_508 n x6 x8 x9 (nI 1) x11 z11 M h
        else
          qn (x12 + nI 1) fun z10 =>
          qf_L_isSo_508 n x6 x8 x9 (nI 0) x11 z10 M h
noncomputable def qf_L_isSo_505 (x6 : Int32) (x8 : Int32) (x9 : Int32) (x10 : Int32) (x11 : Int32) (M : wM) (h : (Nat → Nat)) : Option Int32 :=
  qf_L_isSo_508 qfu x6 x8 x9 x10 x11 (nI 0) M h
noncomputable def qf_L_isSo_414 : Nat → Int32 → Int32 → Int32 → Int32 → Int32 → Int32 → Int32 → wM → (Nat → Nat) → Option Int32
  | 0, _, _, _, _, _, _, _, _, _ => none
  | n + 1, x6, x7, x8, x9, x10, x11, x12, M, h =>
  qn (M 9 1 2) fun z1 =>
  if z1 ≤ x12 then
    qf_L_isSo_505 x6 x8 x9 x10 x11 M h
  else
    if x10 = 0 then
      qf_L_isSo_505 x6 x8 x9 x10 x11 M h
    else
      qg (vp_in x12 64) <|
      qn (M 9 6 x12.toNatClampNeg) fun z4 =>
      if z4 ≤ x7 then
        qg (vp_in x12 64) <|
        qn (M 9 6 x12.toNatClampNeg) fun z7 =>
        if z7 ≤ x7 then
          qg (vp_in x12 64) <|
          qn (M 9 6 x12.toNatClampNeg) fun z10 =>
          qn (x9 + z10) fun z12 =>
          qb1 (qf_X2_named x12 M h) fun r13 =>
          qg (vp_in x12 64) <|
          qn (M 9 6 x12.toNatClampNeg) fun z15 =>
          if r13 = z15 then
            qn (x12 + nI 1) fun z19 =>
            qf_L_isSo_414 n x6 x7 x8 z12 (nI 1) x11 z19 M h
          else
            qn (x12 + nI 1) fun z18 =>
            qf_L_isSo_414 n x6 x7 x8 z12 (nI 0) x11 z18 M h
        else
          qg (vp_in x12 64) <|
          qn (M 9 6 x12.toNatClampNeg) fun z20 =>
          qg (vp_in x12 64) <|
          qn (M 9 6 x12.toNatClampNeg) fun z22 =>
          qn (x9 + z22) fun z24 =>
          qb1 (qf_X2_named x12 M h) fun r25 =>
          qg (vp_in x12 64) <|
          qn (M 9 6 x12.toNatClampNeg) fun z27 =>
          if r25 = z27 then
            qn (x12 + nI 1) fun z31 =>
            qf_L_isSo_414 n x6 z20 x8 z24 (nI 1) x11 z31 M h
          else
            qn (x12 + nI 1) fun z30 =>
            qf_L_isSo_414 n x6 z20 x8 z24 (nI 0) x11 z30 M h
      else
        qg (vp_in x12 64) <|
        qn (M 9 6 x12.toNatClampNeg) fun z32 =>
        if z32 ≤ x7 then
          qg (vp_in x12 64) <|
          qn (M 9 6 x12.toNatClampNeg) fun z35 =>
          qn (x9 + z35) fun z37 =>
          qb1 (qf_X2_named x12 M h) fun r38 =>
          qg (vp_in x12 64) <|
          qn (M 9 6 x12.toNatClampNeg) fun z40 =>
          if r38 = z40 then
            qn (x12 + nI 1) fun z44 =>
            qf_L_isSo_414 n x6 x7 x12 z37 (nI 1) x11 z44 M h
          else
            qn (x12 + nI 1) fun z43 =>
            qf_L_isSo_414 n x6 x7 x12 z37 (nI 0) x11 z43 M h
        else
          qg (vp_in x12 64) <|
          qn (M 9 6 x12.toNatClampNeg) fun z45 =>
          qg (vp_in x12 64) <|
          qn (M 9 6 x12.toNatClampNeg) fun z47 =>
          qn (x9 + z47) fun z49 =>
          qb1 (qf_X2_named x12 M h) fun r50 =>
          qg (vp_in x12 64) <|
          qn (M 9 6 x12.toNatClampNeg) fun z52 =>
          if r50 = z52 then
            qn (x12 + nI 1) fun z56 =>
            qf_L_isSo_414 n x6 z45 x12 z49 (nI 1) x11 z56 M h
          else
            qn (x12 + nI 1) fun z55 =>
            qf_L_isSo_414 n x6 z45 x12 z49 (nI 0) x11 z55 M h
noncomputable def qf_L_isSo_411 (x6 : Int32) (x7 : Int32) (x8 : Int32) (x9 : Int32) (x10 : Int32) (x11 : Int32) (M : wM) (h : (Nat → Nat)) : Option Int32 :=
  qf_L_isSo_414 qfu x6 x7 x8 x9 x10 x11 (nI 0) M h
noncomputable def qf_L_isSo_246 : Nat → Int32 → Int32 → Int32 → Int32 → Int32 → Int32 → Int32 → wM → (Nat → Nat) → Option Int32
  | 0, _, _, _, _, _, _, _, _, _ => none
  | n + 1, x6, x7, x8, x9, x10, x11, x12, M, h =>
  if x11 ≤ x12 then
    qf_L_isSo_411 x6 x7 x8 x9 x10 x11 M h
  else
    if x10 = 0 then
      qf_L_isSo_411 x6 x7 x8 x9 x10 x11 M h
    else
      qn (M 9 1 10) fun z3 =>
      qn (z3 - (nI 1)) fun z4 =>
      qn (z4 - x12) fun z5 =>
      qg (vp_in z5 64) <|
      qn (qj_l (M 9 5) z5.toNatClampNeg) fun z6 =>
      qb1 (qf_X2_confession x12 (nI 0) M h) fun r8 =>
      qn ((r8).toInt64) fun z10 =>
      qn (z6 &&& (3 : Int64)) fun z11 =>
      qn (lg_cmp z10 z11) fun z12 =>
      if z12 = 0 then
        qb1 (qf_X2_confession x12 (nI 1) M h) fun r15 =>
        qn ((r15).toInt64) fun z17 =>
        qn (z6 >>> (((nI 2)).toInt64 &&& 63)) fun z18 =>
        qn (z18 &&& (255 : Int64)) fun z19 =>
        qn (z19 - (9 : Int64)) fun z20 =>
        qn (lg_cmp z17 z20) fun z21 =>
        if z21 = 0 then
          qb1 (qf_X2_confession x12 (nI 2) M h) fun r24 =>
          qn ((r24).toInt64) fun z26 =>
          qn (z6 >>> (((nI 10)).toInt64 &&& 63)) fun z27 =>
          qn (z27 &&& (255 : Int64)) fun z28 =>
          qn (lg_cmp z26 z28) fun z29 =>
          if z29 = 0 then
            qb1 (qf_X2_confession x12 (nI 3) M h) fun r32 =>
            qn ((r32).toInt64) fun z34 =>
            qn (z6 >>> (((nI 18)).toInt64 &&& 63)) fun z35 =>
            qn (z35 &&& (1023 : Int64)) fun z36 =>
            qn (z36 - (9 : Int64)) fun z37 =>
            qn (lg_cmp z34 z37) fun z38 =>
            if z38 = 0 then
              qb1 (qf_X2_confession x12 (nI 4) M h) fun r41 =>
              qn ((r41).toInt64) fun z43 =>
              qn (z6 >>> (((nI 28)).toInt64 &&& 63)) fun z44 =>
              qn (z44 &&& (1023 : Int64)) fun z45 =>
              qn (lg_cmp z43 z45) fun z46 =>
              if z46 = 0 then
                qb1 (qf_X2_confession x12 (nI 5) M h) fun r49 =>
                qn ((r49).toInt64) fun z51 =>
                qn (z6 >>> (((nI 38)).toInt64 &&& 63)) fun z52 =>
                qn (lg_cmp z51 z52) fun z53 =>
                if z53 = 0 then
                  qn (x12 + nI 1) fun z56 =>
                  qf_L_isSo_246 n x6 x7 x8 x9 (nI 1) x11 z56 M h
                else
                  qn (x12 + nI 1) fun z55 =>
                  qf_L_isSo_246 n x6 x7 x8 x9 (nI 0) x11 z55 M h
              else
                qn (x12 + nI 1) fun z48 =>
                qf_L_isSo_246 n x6 x7 x8 x9 (nI 0) x11 z48 M h
            else
              qn (x12 + nI 1) fun z40 =>
              qf_L_isSo_246 n x6 x7 x8 x9 (nI 0) x11 z40 M h
          else
            qn (x12 + nI 1) fun z31 =>
            qf_L_isSo_246 n x6 x7 x8 x9 (nI 0) x11 z31 M h
        else
          qn (x12 + nI 1) fun z23 =>
          qf_L_isSo_246 n x6 x7 x8 x9 (nI 0) x11 z23 M h
      else
        qn (x12 + nI 1) fun z14 =>
        qf_L_isSo_246 n x6 x7 x8 x9 (nI 0) x11 z14 M h
noncomputable def qf_L_isSo_241 (x6 : Int32) (x7 : Int32) (x8 : Int32) (x9 : Int32) (x10 : Int32) (y0 : Int32) (M : wM) (h : (Nat → Nat)) : Option Int32 :=
  qf_L_isSo_246 qfu x6 x7 x8 x9 x10 y0 (nI 0) M h
noncomputable def qf_L_isSo_223 (x6 : Int32) (x7 : Int32) (x8 : Int32) (x9 : Int32) (x10 : Int32) (M : wM) (h : (Nat → Nat)) : Option Int32 :=
  qn (M 9 1 10) fun z1 =>
  if (nI 12) ≤ z1 then
    qf_L_isSo_241 x6 x7 x8 x9 x10 (nI 12) M h
  else
    qn (M 9 1 10) fun z3 =>
    qf_L_isSo_241 x6 x7 x8 x9 x10 z3 M h
noncomputable def qf_L_isSo_175 : Nat → Int32 → Int32 → Int32 → Int32 → Int32 → Int32 → wM → (Nat → Nat) → Option Int32
  | 0, _, _, _, _, _, _, _, _ => none
  | n + 1, x6, x7, x8, x9, x10, x11, M, h =>
  qn (M 9 1 11) fun z1 =>
  qn ((nI 3) * z1) fun z2 =>
  if z2 ≤ x11 then
    qf_L_isSo_223 x6 x7 x8 x9 x10 M h
  else
    if x10 = 0 then
      qf_L_isSo_223 x6 x7 x8 x9 x10 M h
    else
      qn (x11 / (nI 3)) fun z5 =>
      qn (x11 - x11 / (nI 3) * (nI 3)) fun z6 =>
      qb1 (qf_X2_slot z5 z6 M h) fun r7 =>
      qg (vp_in x11 48) <|
      qn (M 9 3 x11.toNatClampNeg) fun z9 =>
      if r7 = z9 then
        qn (x11 + nI 1) fun z13 =>
        qf_L_isSo_175 n x6 x7 x8 x9 (nI 1) z13 M h
      else
        qn (x11 + nI 1) fun z12 =>
        qf_L_isSo_175 n x6 x7 x8 x9 (nI 0) z12 M h
noncomputable def qf_L_isSo_172 (x6 : Int32) (x7 : Int32) (x8 : Int32) (x9 : Int32) (x10 : Int32) (M : wM) (h : (Nat → Nat)) : Option Int32 :=
  qf_L_isSo_175 qfu x6 x7 x8 x9 x10 (nI 0) M h
noncomputable def qf_L_isSo_19 : Nat → Int32 → Int32 → Int32 → Int32 → Int32 → Int32 → wM → (Nat → Nat) → Option Int32
  | 0, _, _, _, _, _, _, _, _ => none
  | n + 1, x6, x7, x8, x9, x10, x11, M, h =>
  qn (M 9 1 0) fun z1 =>
  if z1 ≤ x11 then
    qf_L_isSo_172 x6 x7 x8 x9 x10 M h
  else
    if x10 = 0 then
      qf_L_isSo_172 x6 x7 x8 x9 x10 M h
    else
      qn (M 9 1 0) fun z4 =>
      qn (z4 - (nI 1)) fun z5 =>
      qn (z5 - x11) fun z6 =>
      qg (vp_in z6 40) <|
      qn (qj_l (M 9 2) z6.toNatClampNeg) fun z7 =>
      qb1 (qf_L_by z7) fun r9 =>
      if r9 < 0 then
        qn (x6 + (nI 0)) fun z12 =>
        qb1 (qf_X2_frame x11 (nI 0) M h) fun r13 =>
        qn ((r13).toInt64) fun z15 =>
        qn (z7 &&& (255 : Int64)) fun z16 =>
        qn (lg_cmp z15 z16) fun z17 =>
        if z17 = 0 then
          qb1 (qf_X2_frame x11 (nI 1) M h) fun r20 =>
          qn ((r20).toInt64) fun z22 =>
          qn (z7 >>> (((nI 8)).toInt64 &&& 63)) fun z23 =>
          qn (z23 &&& (15 : Int64)) fun z24 =>
          qn (lg_cmp z22 z24) fun z25 =>
          if z25 = 0 then
            qb1 (qf_X2_frame x11 (nI 2) M h) fun r28 =>
            qn ((r28).toInt64) fun z30 =>
            qn (z7 >>> (((nI 12)).toInt64 &&& 63)) fun z31 =>
            qn (z31 &&& (1023 : Int64)) fun z32 =>
            qn (lg_cmp z30 z32) fun z33 =>
            if z33 = 0 then
              qb1 (qf_X2_frame x11 (nI 3) M h) fun r36 =>
              qn ((r36).toInt64) fun z38 =>
              qn (z7 >>> (((nI 22)).toInt64 &&& 63)) fun z39 =>
              qn (z39 &&& (15 : Int64)) fun z40 =>
              qn (lg_cmp z38 z40) fun z41 =>
              if z41 = 0 then
                qb1 (qf_X2_frame x11 (nI 4) M h) fun r44 =>
                if r44 = r9 then
                  qn (x11 + nI 1) fun z48 =>
                  qf_L_isSo_19 n z12 x7 x8 x9 (nI 1) z48 M h
                else
                  qn (x11 + nI 1) fun z47 =>
                  qf_L_isSo_19 n z12 x7 x8 x9 (nI 0) z47 M h
              else
                qn (x11 + nI 1) fun z43 =>
                qf_L_isSo_19 n z12 x7 x8 x9 (nI 0) z43 M h
            else
              qn (x11 + nI 1) fun z35 =>
              qf_L_isSo_19 n z12 x7 x8 x9 (nI 0) z35 M h
          else
            qn (x11 + nI 1) fun z27 =>
            qf_L_isSo_19 n z12 x7 x8 x9 (nI 0) z27 M h
        else
          qn (x11 + nI 1) fun z19 =>
          qf_L_isSo_19 n z12 x7 x8 x9 (nI 0) z19 M h
      else
        qn (x6 + (nI 1)) fun z49 =>
        qb1 (qf_X2_frame x11 (nI 0) M h) fun r50 =>
        qn ((r50).toInt64) fun z52 =>
        qn (z7 &&& (255 : Int64)) fun z53 =>
        qn (lg_cmp z52 z53) fun z54 =>
        if z54 = 0 then
          qb1 (qf_X2_frame x11 (nI 1) M h) fun r57 =>
          qn ((r57).toInt64) fun z59 =>
          qn (z7 >>> (((nI 8)).toInt64 &&& 63)) fun z60 =>
          qn (z60 &&& (15 : Int64)) fun z61 =>
          qn (lg_cmp z59 z61) fun z62 =>
          if z62 = 0 then
            qb1 (qf_X2_frame x11 (nI 2) M h) fun r65 =>
            qn ((r65).toInt64) fun z67 =>
            qn (z7 >>> (((nI 12)).toInt64 &&& 63)) fun z68 =>
            qn (z68 &&& (1023 : Int64)) fun z69 =>
            qn (lg_cmp z67 z69) fun z70 =>
            if z70 = 0 then
              qb1 (qf_X2_frame x11 (nI 3) M h) fun r73 =>
              qn ((r73).toInt64) fun z75 =>
              qn (z7 >>> (((nI 22)).toInt64 &&& 63)) fun z76 =>
              qn (z76 &&& (15 : Int64)) fun z77 =>
              qn (lg_cmp z75 z77) fun z78 =>
              if z78 = 0 then
                qb1 (qf_X2_frame x11 (nI 4) M h) fun r81 =>
                if r81 = r9 then
                  qn (x11 + nI 1) fun z85 =>
                  qf_L_isSo_19 n z49 x7 x8 x9 (nI 1) z85 M h
                else
                  qn (x11 + nI 1) fun z84 =>
                  qf_L_isSo_19 n z49 x7 x8 x9 (nI 0) z84 M h
              else
                qn (x11 + nI 1) fun z80 =>
                qf_L_isSo_19 n z49 x7 x8 x9 (nI 0) z80 M h
            else
              qn (x11 + nI 1) fun z72 =>
              qf_L_isSo_19 n z49 x7 x8 x9 (nI 0) z72 M h
          else
            qn (x11 + nI 1) fun z64 =>
            qf_L_isSo_19 n z49 x7 x8 x9 (nI 0) z64 M h
        else
          qn (x11 + nI 1) fun z56 =>
          qf_L_isSo_19 n z49 x7 x8 x9 (nI 0) z56 M h
noncomputable def qf_L_isSo (M : wM) (h : (Nat → Nat)) : Option Int32 :=
  qf_L_isSo_19 qfu (nI 0) (nI 0) (-9 : Int32) (nI 0) (nI 1) (nI 0) M h
