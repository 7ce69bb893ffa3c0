noncomputable def qf_J7_fill_53178_5 : Nat → Nat → Nat → Int32 → Int32 → Int32 → wm → Option wm
  | 0, _, _, _, _, _, _ => none
  | n + 1, ca, le, x1, x2, x3, m =>
  if x3 ≤ x2 then
    some m
  else
    qg (vp_in x2 le) <|
    qn (qw_u2 m ca x2.toNatClampNeg x1) fun m3 =>
    qn (x2 + nI 1) fun z4 =>
    qf_J7_fill_53178_5 n ca le x1 z4 x3 m3
noncomputable def qf_J7_fill_53178 (ca : Nat) (le : Nat) (x1 : Int32) (m : wm) : Option wm :=
  qn (nI le) fun z1 =>
  qf_J7_fill_53178_5 qfu ca le x1 (nI 0) z1 m
noncomputable def qf_X0_beginAnew (x1 : Int32) (m : wm) : Option wm :=
  qn (qw_u2 m 0 1 x1) fun m1 =>
  qn (x1 - (nI 1)) fun z2 =>
  qn (qw_u2 m1 0 2 z2) fun m3 =>
  qn (qw_u2 m3 0 3 (nI 0)) fun m4 =>
  qn (qw_u2 m4 0 4 (nI 0)) fun m5 =>
  qn (qw_u2 m5 0 5 (nI 0)) fun m6 =>
  qn (qw_u2 m6 0 6 (nI 0)) fun m7 =>
  qb1 (qf_J7_fill_53178 1 4 (nI 0) m7) fun m9 =>
  qb1 (qf_J7_fill_53178 2 4 (nI 0) m9) fun m11 =>
  qb1 (qf_J7_fill_53178 3 200 (nI 0) m11) fun m13 =>
  qb1 (qf_J7_fill_53178 13 16 (-9 : Int32) m13) fun m15 =>
  qb1 (qf_J7_fill_53178 14 16 (-9 : Int32) m15) fun m17 =>
  qb1 (qf_J7_fill_53178 15 16 (nI 0) m17) fun m19 =>
  some m19
noncomputable def qf_X0_copyRows_2 : Nat → Nat → wm → Int32 → Int32 → wm → Option wm
  | 0, _, _, _, _, _ => none
  | n + 1, t, mo, x2, x3, m =>
  qn (nI (qw_nr t)) fun z1 =>
  if z1 ≤ x3 then
    some m
  else
    qg (vp_in x3 (qw_nr t)) <|
    qg (vp_in x3 (qw_nr t)) <|
    qg (¬ x2 < 0) <|
    qg (0 + x2.toNatClampNeg ≤ (qw_rl t)) <|
    qg (0 + x2.toNatClampNeg ≤ (qw_rl t)) <|
    qn (qw_uc m ((qw_rb t) + x3.toNatClampNeg) (va_cpy (mo ((qw_rb t) + x3.toNatClampNeg)) (m ((qw_rb t) + x3.toNatClampNeg)) 0 0 x2.toNatClampNeg)) fun m8 =>
    qn (x3 + nI 1) fun z9 =>
    qf_X0_copyRows_2 n t mo x2 z9 m8
noncomputable def qf_X0_copyRows (t : Nat) (mo : wm) (x2 : Int32) (m : wm) : Option wm :=
  qf_X0_copyRows_2 qfu t mo x2 (nI 0) m
noncomputable def qf_X0_copyFrom (mo : wm) (m : wm) : Option wm :=
  qn (mo 0 0) fun z1 =>
  qn (qw_u2 m 0 0 z1) fun m2 =>
  qn (mo 0 1) fun z3 =>
  qn (qw_u2 m2 0 1 z3) fun m4 =>
  qn (mo 0 2) fun z5 =>
  qn (qw_u2 m4 0 2 z5) fun m6 =>
  qn (mo 0 3) fun z7 =>
  qn (qw_u2 m6 0 3 z7) fun m8 =>
  qn (mo 0 4) fun z9 =>
  qn (qw_u2 m8 0 4 z9) fun m10 =>
  qn (mo 0 5) fun z11 =>
  qn (qw_u2 m10 0 5 z11) fun m12 =>
  qn (mo 0 6) fun z13 =>
  qn (qw_u2 m12 0 6 z13) fun m14 =>
  qn (qw_uc m14 1 (va_cpy (mo 1) (m14 1) 0 0 4)) fun m15 =>
  qn (qw_uc m15 2 (va_cpy (mo 2) (m15 2) 0 0 4)) fun m16 =>
  qn (qw_uc m16 3 (va_cpy (mo 3) (m16 3) 0 0 200)) fun m17 =>
  qb1 (qf_X0_copyRows 4 mo (nI 40) m17) fun m19 =>
  qb1 (qf_X0_copyRows 5 mo (nI 16) m19) fun m21 =>
  qb1 (qf_X0_copyRows 6 mo (nI 200) m21) fun m23 =>
  qb1 (qf_X0_copyRows 7 mo (nI 12) m23) fun m25 =>
  some m25
noncomputable def qf_X0_isNumberFor (x0 : Int32) (x1 : Int32) : Option Int32 :=
  if x0 = 0 then
    if x1 < 0 then
      some (nI 0)
    else
      if (nI 999) < x1 then
        some (nI 0)
      else
        some (nI 1)
  else
    if x0 = (nI 3) then
      if x1 < (nI 1) then
        some (nI 0)
      else
        if (nI 40) < x1 then
          some (nI 0)
        else
          some (nI 1)
    else
      some (nI 1)
noncomputable def qf_X0_framesNeeded (x0 : Int32) (x1 : Int32) : Option Int32 :=
  if x0 = (nI 0) then
    some (nI 0)
  else
  if x0 = (nI 3) then
    some x1
  else
  some (nI 1)
noncomputable def qf_X0_errorOf (x1 : Int32) (x2 : Int32) (x3 : Int32) (m : wm) : Option Int32 :=
  if x2 < 0 then
    some (-1 : Int32)
  else
    if (nI 15) < x2 then
      some (-1 : Int32)
    else
      qb1 (qf_X0_isNumberFor x1 x3) fun r3 =>
      if r3 = 0 then
        some (-1 : Int32)
      else
        qn (m 0 3) fun z6 =>
        qb1 (qf_X0_framesNeeded x1 x3) fun r7 =>
        if r7 ≤ z6 then
          qn (m 0 5) fun z10 =>
          if (nI 200) ≤ z10 then
            some (-3 : Int32)
          else
            if x1 = 0 then
              qn (m 0 3) fun z13 =>
              if z13 < (nI 40) then
                some (nI 0)
              else
                some (-3 : Int32)
            else
              some (nI 0)
        else
          some (-2 : Int32)
noncomputable def qf_X0_isOverrun (x1 : Int32) (m : wm) : Option Int32 :=
  qg (vp_in x1 40) <|
  qn (m 12 x1.toNatClampNeg) fun z1 =>
  if z1 = (-9 : Int32) then
    some (nI 0)
  else
    some (nI 1)
noncomputable def qf_X0_overrunFramesOfTop_2 : Nat → Int32 → Int32 → wm → Option wm
  | 0, _, _, _ => none
  | n + 1, x1, x2, m =>
  qn (m 0 3) fun z1 =>
  if z1 ≤ x2 then
    some m
  else
    qg (vp_in x2 40) <|
    qn (m 11 x2.toNatClampNeg) fun z3 =>
    qn (m 0 2) fun z5 =>
    if z3 = z5 then
      qb1 (qf_X0_isOverrun x2 m) fun r8 =>
      if r8 = 0 then
        qg (vp_in x2 40) <|
        qn (qw_u2 m 12 x2.toNatClampNeg x1) fun m13 =>
        qn (x2 + nI 1) fun z14 =>
        qf_X0_overrunFramesOfTop_2 n x1 z14 m13
      else
        qn (x2 + nI 1) fun z11 =>
        qf_X0_overrunFramesOfTop_2 n x1 z11 m
    else
      qn (x2 + nI 1) fun z7 =>
      qf_X0_overrunFramesOfTop_2 n x1 z7 m
noncomputable def qf_X0_overrunFramesOfTop (x1 : Int32) (m : wm) : Option wm :=
  qf_X0_overrunFramesOfTop_2 qfu x1 (nI 0) m
noncomputable def qf_X0_addFrame_31 (x1 : Int32) (x2 : Int32) (x3 : Int32) (y0 : Int32) (m : wm) : Option (Int32 × wm) :=
  qn (qw_u2 m 0 2 y0) fun m1 =>
  qb1 (qf_X0_overrunFramesOfTop x3 m1) fun m3 =>
  qn (m3 0 2) fun z4 =>
  qg (vp_in z4 16) <|
  qn (qw_u2 m3 13 z4.toNatClampNeg x3) fun m6 =>
  qn (m6 0 2) fun z7 =>
  qg (vp_in z7 16) <|
  qn (qw_u2 m6 14 z7.toNatClampNeg x2) fun m9 =>
  qn (m9 0 2) fun z10 =>
  qg (vp_in z10 16) <|
  qn (m9 15 z10.toNatClampNeg) fun z11 =>
  qn (z11 + (nI 1)) fun z13 =>
  qg (vp_in z10 16) <|
  qn (qw_u2 m9 15 z10.toNatClampNeg z13) fun m15 =>
  qn (m15 0 3) fun z16 =>
  qg (vp_in z16 40) <|
  qn (qw_u2 m15 8 z16.toNatClampNeg x3) fun m18 =>
  qn (m18 0 3) fun z19 =>
  qg (vp_in z19 40) <|
  qn (qw_u2 m18 9 z19.toNatClampNeg x1) fun m21 =>
  qn (m21 0 3) fun z22 =>
  qg (vp_in z22 40) <|
  qn (qw_u2 m21 10 z22.toNatClampNeg x2) fun m24 =>
  qn (m24 0 3) fun z25 =>
  qn (m24 0 2) fun z26 =>
  qg (vp_in z25 40) <|
  qn (qw_u2 m24 11 z25.toNatClampNeg z26) fun m28 =>
  qn (m28 0 3) fun z29 =>
  qg (vp_in z29 40) <|
  qn (qw_u2 m28 12 z29.toNatClampNeg (-9 : Int32)) fun m31 =>
  qn (m31 0 3) fun z32 =>
  qn (z32 + (nI 1)) fun z33 =>
  qn (qw_u2 m31 0 3 z33) fun m34 =>
  qn (m34 0 4) fun z35 =>
  qn (m34 0 3) fun z36 =>
  qn (if z35 < z36 then z36 else z35) fun z37 =>
  qn (qw_u2 m34 0 4 z37) fun m38 =>
  some (x3, m38)
noncomputable def qf_X0_addFrame (x1 : Int32) (x2 : Int32) (m : wm) : Option (Int32 × wm) :=
  qn (m 1 0) fun z1 =>
  qn (m 0 2) fun z2 =>
  qn (z2 + (nI 1)) fun z3 =>
  qn (m 0 1) fun z4 =>
  if z4 ≤ z3 then
    qf_X0_addFrame_31 x1 x2 z1 (nI 0) m
  else
    qn (m 0 2) fun z6 =>
    qn (z6 + (nI 1)) fun z7 =>
    qf_X0_addFrame_31 x1 x2 z1 z7 m
noncomputable def qf_X0_replaceFunction (x1 : Int32) (m : wm) : Option (Int32 × wm) :=
  qn (m 0 3) fun z1 =>
  qn (z1 - (nI 1)) fun z2 =>
  qg (vp_in z2 40) <|
  qn (m 9 z2.toNatClampNeg) fun z3 =>
  qn (m 0 3) fun z5 =>
  qn (z5 - (nI 1)) fun z6 =>
  qg (vp_in z6 40) <|
  qn (qw_u2 m 9 z6.toNatClampNeg x1) fun m8 =>
  some (z3, m8)
noncomputable def qf_X0_outcomeOf (x1 : Int32) (x2 : Int32) (m : wm) : Option Int32 :=
  qg (vp_in x2 16) <|
  qn (m 14 x2.toNatClampNeg) fun z1 =>
  qg (vp_in x1 40) <|
  qn (m 10 x1.toNatClampNeg) fun z3 =>
  if z1 = z3 then
    qg (vp_in x2 16) <|
    qn (m 13 x2.toNatClampNeg) fun z9 =>
    qg (vp_in x1 40) <|
    qn (m 8 x1.toNatClampNeg) fun z11 =>
    if z9 = z11 then
      some (nI 0)
    else
      some (nI 1)
  else
    qb1 (qf_X0_isOverrun x1 m) fun r6 =>
    if r6 = 0 then
      some (nI 3)
    else
      some (nI 2)
noncomputable def qf_X0_confess_99 (x2 : Int32) (x4 : Int32) (y0 : Int32) (y1 : Int32) (m : wm) : Option wm :=
  qg (vp_in y1 12) <|
  qn (qw_u2 m 19 y1.toNatClampNeg y0) fun m2 =>
  qn (qw_u2 m2 20 0 x4) fun m3 =>
  qg (vp_in x2 40) <|
  qn (m3 8 x2.toNatClampNeg) fun z4 =>
  qn (qw_u2 m3 21 0 z4) fun m6 =>
  qn (m6 0 2) fun z7 =>
  qg (vp_in z7 16) <|
  qn (m6 14 z7.toNatClampNeg) fun z8 =>
  qn (qw_u2 m6 22 0 z8) fun m10 =>
  qg (vp_in x2 40) <|
  qn (m10 10 x2.toNatClampNeg) fun z11 =>
  qn (qw_u2 m10 23 0 z11) fun m13 =>
  qn (m13 0 5) fun z14 =>
  qn (qw_u2 m13 24 0 z14) fun m15 =>
  qn (m15 0 6) fun z16 =>
  qn (z16 + (nI 1)) fun z17 =>
  qn (if (nI 12) < z17 then (nI 12) else z17) fun z18 =>
  qn (qw_u2 m15 0 6 z18) fun m19 =>
  if x4 < 0 then
    some m19
  else
    qg (vp_in x4 200) <|
    qn (m19 3 x4.toNatClampNeg) fun z21 =>
    qn (z21 + (nI 1)) fun z23 =>
    qg (vp_in x4 200) <|
    qn (qw_u2 m19 3 x4.toNatClampNeg z23) fun m25 =>
    some m25
noncomputable def qf_X0_confess_83 (x2 : Int32) (x3 : Int32) (x4 : Int32) (m : wm) : Option wm :=
  if x3 = 0 then
    qf_X0_confess_99 x2 x4 (nI 2) (nI 0) m
  else
    qf_X0_confess_99 x2 x4 (nI 1) (nI 0) m
noncomputable def qf_X0_confess_49 : Nat → Int32 → Int32 → Int32 → Int32 → wm → Option wm
  | 0, _, _, _, _, _ => none
  | n + 1, x2, x3, x4, x5, m =>
  if (nI 6) ≤ x5 then
    qf_X0_confess_83 x2 x3 x4 m
  else
    qg (vp_in x5 6) <|
    qg (vp_in x5 6) <|
    qn (qw_uc m (19 + x5.toNatClampNeg) (va_cpy (m (19 + x5.toNatClampNeg)) (m (19 + x5.toNatClampNeg)) 0 1 11)) fun m4 =>
    qn (x5 + nI 1) fun z5 =>
    qf_X0_confess_49 n x2 x3 x4 z5 m4
noncomputable def qf_X0_confess_44 (x2 : Int32) (x3 : Int32) (y0 : Int32) (m : wm) : Option wm :=
  qf_X0_confess_49 qfu x2 x3 y0 (nI 0) m
noncomputable def qf_X0_confess_17 (x2 : Int32) (y0 : Int32) (m : wm) : Option wm :=
  if y0 = 0 then
    qn (m 0 2) fun z2 =>
    qg (vp_in z2 16) <|
    qn (m 13 z2.toNatClampNeg) fun z3 =>
    qf_X0_confess_44 x2 y0 z3 m
  else
    qg (vp_in x2 40) <|
    qn (m 12 x2.toNatClampNeg) fun z5 =>
    qf_X0_confess_44 x2 y0 z5 m
noncomputable def qf_X0_confess (x1 : Int32) (m : wm) : Option wm :=
  qn (m 0 3) fun z1 =>
  qn (z1 - (nI 1)) fun z2 =>
  if x1 = (nI 2) then
    qf_X0_confess_17 z2 (nI 1) m
  else
    qf_X0_confess_17 z2 (nI 0) m
noncomputable def qf_X0_slotBefore (x1 : Int32) (m : wm) : Option Int32 :=
  if x1 ≤ 0 then
    qn (m 0 1) fun z2 =>
    qn (z2 - (nI 1)) fun z3 =>
    some z3
  else
    qn (x1 - (nI 1)) fun z4 =>
    some z4
noncomputable def qf_X0_removeFrame_30 (x1 : Int32) (m : wm) : Option (Int32 × wm) :=
  qg (vp_in x1 4) <|
  qn (m 2 x1.toNatClampNeg) fun z1 =>
  qn (z1 + (nI 1)) fun z3 =>
  qg (vp_in x1 4) <|
  qn (qw_u2 m 2 x1.toNatClampNeg z3) fun m5 =>
  qn (m5 0 3) fun z6 =>
  qn (z6 - (nI 1)) fun z7 =>
  qn (qw_u2 m5 0 3 z7) fun m8 =>
  qn (m8 0 2) fun z9 =>
  qb1 (qf_X0_slotBefore z9 m8) fun r10 =>
  qn (qw_u2 m8 0 2 r10) fun m12 =>
  some (x1, m12)
noncomputable def qf_X0_removeFrame_25 (x1 : Int32) (m : wm) : Option (Int32 × wm) :=
  qb1 (qf_X0_confess x1 m) fun m2 =>
  qf_X0_removeFrame_30 x1 m2
noncomputable def qf_X0_removeFrame (m : wm) : Option (Int32 × wm) :=
  qn (m 0 3) fun z1 =>
  qn (z1 - (nI 1)) fun z2 =>
  qn (m 0 2) fun z3 =>
  qb1 (qf_X0_outcomeOf z2 z3 m) fun r4 =>
  if r4 = (nI 2) then
    qf_X0_removeFrame_25 r4 m
  else
    if r4 = (nI 3) then
      qf_X0_removeFrame_25 r4 m
    else
      qf_X0_removeFrame_30 r4 m
noncomputable def qf_X0_removeFrames_20 : Nat → Int32 → Int32 → wm → Option (Int32 × wm)
  | 0, _, _, _ => none
  | n + 1, x1, x2, m =>
  if x1 ≤ x2 then
    qn (m 0 3) fun z2 =>
    some (z2, m)
  else
    qn (m 0 2) fun z3 =>
    qb1 (qf_X0_slotBefore z3 m) fun r4 =>
    qn (qw_u2 m 0 2 r4) fun m6 =>
    qn (x2 + nI 1) fun z7 =>
    qf_X0_removeFrames_20 n x1 z7 m6
noncomputable def qf_X0_removeFrames (x1 : Int32) (m : wm) : Option (Int32 × wm) :=
  qn (m 0 3) fun z1 =>
  qn (z1 - x1) fun z2 =>
  qn (qw_u2 m 0 3 z2) fun m3 =>
  qn (m3 0 0) fun z4 =>
  if z4 = (nI 1) then
    qf_X0_removeFrames_20 qfu x1 (nI 0) m3
  else
    qn (m3 0 3) fun z6 =>
    some (z6, m3)
noncomputable def qf_X0_remember (x1 : Int32) (x2 : Int32) (x3 : Int32) (m : wm) : Option wm :=
  qn (m 0 5) fun z1 =>
  qg (vp_in z1 200) <|
  qn (qw_u2 m 16 z1.toNatClampNeg x1) fun m3 =>
  qn (m3 0 5) fun z4 =>
  qg (vp_in z4 200) <|
  qn (qw_u2 m3 17 z4.toNatClampNeg x2) fun m6 =>
  qn (m6 0 5) fun z7 =>
  qg (vp_in z7 200) <|
  qn (qw_u2 m6 18 z7.toNatClampNeg x3) fun m9 =>
  qn (m9 0 5) fun z10 =>
  qn (z10 + (nI 1)) fun z11 =>
  qn (qw_u2 m9 0 5 z11) fun m12 =>
  qg (vp_in x1 4) <|
  qn (m12 1 x1.toNatClampNeg) fun z13 =>
  qn (z13 + (nI 1)) fun z15 =>
  qg (vp_in x1 4) <|
  qn (qw_u2 m12 1 x1.toNatClampNeg z15) fun m17 =>
  some m17
noncomputable def qf_X0_take_81 (x1 : Int32) (x2 : Int32) (x3 : Int32) (x5 : Int32) (m : wm) : Option (Int32 × wm) :=
  qb1 (qf_X0_remember x1 x2 x3 m) fun m2 =>
  some (x5, m2)
noncomputable def qf_X0_take (x1 : Int32) (x2 : Int32) (x3 : Int32) (m : wm) : Option (Int32 × wm) :=
  qb1 (qf_X0_errorOf x1 x2 x3 m) fun r1 =>
  if r1 = 0 then
    if x1 = (nI 0) then
      qb2 (qf_X0_addFrame x2 x3 m) fun r5 m7 =>
      qf_X0_take_81 x1 x2 x3 r5 m7
    else
    if x1 = (nI 1) then
      qb2 (qf_X0_replaceFunction x2 m) fun r9 m11 =>
      qf_X0_take_81 x1 x2 x3 r9 m11
    else
    if x1 = (nI 2) then
      qb2 (qf_X0_removeFrame m) fun r13 m15 =>
      qf_X0_take_81 x1 x2 x3 r13 m15
    else
    qb2 (qf_X0_removeFrames x3 m) fun r16 m18 =>
    qf_X0_take_81 x1 x2 x3 r16 m18
  else
    some (r1, m)
noncomputable def qf_X0_overrunFrames_4 : Nat → Int32 → Int32 → wm → Option Int32
  | 0, _, _, _ => none
  | n + 1, x1, x2, m =>
  qn (m 0 3) fun z1 =>
  if z1 ≤ x2 then
    some x1
  else
    qb1 (qf_X0_isOverrun x2 m) fun r3 =>
    if r3 = 0 then
      qn (x2 + nI 1) fun z6 =>
      qf_X0_overrunFrames_4 n x1 z6 m
    else
      qn (x1 + nI 1) fun z7 =>
      qn (x2 + nI 1) fun z8 =>
      qf_X0_overrunFrames_4 n z7 z8 m
noncomputable def qf_X0_overrunFrames (m : wm) : Option Int32 :=
  qf_X0_overrunFrames_4 qfu (nI 0) (nI 0) m
noncomputable def qf_X0_hitsAhead_10 : Nat → Int32 → Int32 → Int32 → Int32 → wm → Option Int32
  | 0, _, _, _, _, _ => none
  | n + 1, x1, x2, x3, x4, m =>
  if x1 < x4 then
    some x2
  else
    qn (m 0 3) fun z2 =>
    qn (z2 - x4) fun z3 =>
    qb1 (qf_X0_outcomeOf z3 x3 m) fun r4 =>
    if r4 = 0 then
      qn (x2 + nI 1) fun z7 =>
      qb1 (qf_X0_slotBefore x3 m) fun r8 =>
      qn (x4 + nI 1) fun z10 =>
      qf_X0_hitsAhead_10 n x1 z7 r8 z10 m
    else
      if r4 = (nI 1) then
        qn (x2 + nI 1) fun z15 =>
        qb1 (qf_X0_slotBefore x3 m) fun r16 =>
        qn (x4 + nI 1) fun z18 =>
        qf_X0_hitsAhead_10 n x1 z15 r16 z18 m
      else
        qb1 (qf_X0_slotBefore x3 m) fun r12 =>
        qn (x4 + nI 1) fun z14 =>
        qf_X0_hitsAhead_10 n x1 x2 r12 z14 m
noncomputable def qf_X0_hitsAhead (x1 : Int32) (m : wm) : Option Int32 :=
  qn (m 0 2) fun z1 =>
  qf_X0_hitsAhead_10 qfu x1 (nI 0) z1 (nI 1) m
noncomputable def qf_X0_misses (m : wm) : Option Int32 :=
  qn (m 2 2) fun z1 =>
  qn (m 2 3) fun z2 =>
  qn (z1 + z2) fun z3 =>
  some z3
noncomputable def qf_X1_add (x1 : Int32) (m : wm) : Option wm :=
  qn (m 2 1) fun z1 =>
  qg (vp_in z1 120) <|
  qn (qw_u2 m 3 z1.toNatClampNeg x1) fun m3 =>
  qn (m3 2 1) fun z4 =>
  qn (z4 + (nI 1)) fun z5 =>
  qn (qw_u2 m3 2 1 z5) fun m6 =>
  some m6
noncomputable def qf_X1_isAtEnd (m : wm) : Option Int32 :=
  qn (m 2 2) fun z1 =>
  qn (m 2 1) fun z2 =>
  if z1 < z2 then
    some (nI 0)
  else
    some (nI 1)
noncomputable def qf_X1_sign (m : wm) : Option Int32 :=
  qn (m 2 2) fun z1 =>
  qn (m 2 1) fun z2 =>
  if z2 ≤ z1 then
    some (nI 0)
  else
    qn (m 2 2) fun z4 =>
    qg (vp_in z4 120) <|
    qn (m 3 z4.toNatClampNeg) fun z5 =>
    some z5
noncomputable def qf_X1_skipSpaces_0 : Nat → wm → Option wm
  | 0, _ => none
  | n + 1, m =>
  qn (m 2 2) fun z1 =>
  qn (m 2 1) fun z2 =>
  if z2 ≤ z1 then
    some m
  else
    qn (m 2 2) fun z4 =>
    qg (vp_in z4 120) <|
    qn (m 3 z4.toNatClampNeg) fun z5 =>
    if z5 = (nI 32) then
      qn (m 2 2) fun z8 =>
      qn (z8 + (nI 1)) fun z9 =>
      qn (qw_u2 m 2 2 z9) fun m10 =>
      qf_X1_skipSpaces_0 n m10
    else
      some m
noncomputable def qf_X1_skipSpaces (m : wm) : Option wm :=
  qn (m 2 2) fun z1 =>
  qn (m 2 1) fun z2 =>
  if z2 ≤ z1 then
    some m
  else
    qn (m 2 2) fun z4 =>
    qg (vp_in z4 120) <|
    qn (m 3 z4.toNatClampNeg) fun z5 =>
    if z5 = (nI 32) then
      qn (m 2 2) fun z8 =>
      qn (z8 + (nI 1)) fun z9 =>
      qn (qw_u2 m 2 2 z9) fun m10 =>
      qf_X1_skipSpaces_0 qfu m10
    else
      some m
noncomputable def qf_X1_readSign (x1 : Int32) (m : wm) : Option (Int32 × wm) :=
  qb1 (qf_X1_skipSpaces m) fun m2 =>
  qb1 (qf_X1_sign m2) fun r3 =>
  if r3 = x1 then
    qn (m2 2 2) fun z6 =>
    qn (z6 + (nI 1)) fun z7 =>
    qn (qw_u2 m2 2 2 z7) fun m8 =>
    some ((nI 1), m8)
  else
    some ((nI 0), m2)
noncomputable def qf_X1_isDigit (x0 : Int32) : Option Int32 :=
  if x0 < (nI 48) then
    some (nI 0)
  else
    if (nI 57) < x0 then
      some (nI 0)
    else
      some (nI 1)
noncomputable def qf_X1_readNumber_116 (x1 : Int32) (x2 : Int32) (y0 : Int32) (m : wm) : Option (Int32 × wm) :=
  if y0 = 0 then
    qn (qw_u2 m 2 2 x1) fun m2 =>
    some ((-1 : Int32), m2)
  else
    some (x2, m)
noncomputable def qf_X1_readNumber_111 (x1 : Int32) (x2 : Int32) (m : wm) : Option (Int32 × wm) :=
  qf_X1_readNumber_116 x1 x2 (nI 1) m
noncomputable def qf_X1_readNumber_115 (x1 : Int32) (x2 : Int32) (m : wm) : Option (Int32 × wm) :=
  qf_X1_readNumber_116 x1 x2 (nI 0) m
noncomputable def qf_X1_readNumber_78 (x1 : Int32) (x2 : Int32) (m : wm) : Option (Int32 × wm) :=
  qn (m 2 2) fun z1 =>
  qn (z1 - x1) fun z2 =>
  if z2 = (nI 1) then
    qf_X1_readNumber_111 x1 x2 m
  else
    if z2 ≤ (nI 1) then
      qf_X1_readNumber_115 x1 x2 m
    else
      if (nI 3) < z2 then
        qf_X1_readNumber_115 x1 x2 m
      else
        qg (vp_in x1 120) <|
        qn (m 3 x1.toNatClampNeg) fun z6 =>
        if z6 = (nI 48) then
          qf_X1_readNumber_115 x1 x2 m
        else
          qf_X1_readNumber_111 x1 x2 m
noncomputable def qf_X1_readNumber_11 : Nat → Int32 → Int32 → wm → Option (Int32 × wm)
  | 0, _, _, _ => none
  | n + 1, x1, x2, m =>
  qn (m 2 2) fun z1 =>
  qn (m 2 1) fun z2 =>
  if z2 ≤ z1 then
    qf_X1_readNumber_78 x1 x2 m
  else
    qn (m 2 2) fun z4 =>
    qn (z4 - x1) fun z5 =>
    if (nI 3) < z5 then
      qf_X1_readNumber_78 x1 x2 m
    else
      qn (m 2 2) fun z7 =>
      qg (vp_in z7 120) <|
      qn (m 3 z7.toNatClampNeg) fun z8 =>
      qb1 (qf_X1_isDigit z8) fun r10 =>
      if r10 = 0 then
        qf_X1_readNumber_78 x1 x2 m
      else
        qn ((nI 10) * x2) fun z13 =>
        qn (m 2 2) fun z14 =>
        qg (vp_in z14 120) <|
        qn (m 3 z14.toNatClampNeg) fun z15 =>
        qn (z13 + z15) fun z17 =>
        qn (z17 - (nI 48)) fun z18 =>
        qn (m 2 2) fun z19 =>
        qn (z19 + (nI 1)) fun z20 =>
        qn (qw_u2 m 2 2 z20) fun m21 =>
        qf_X1_readNumber_11 n x1 z18 m21
noncomputable def qf_X1_readNumber (m : wm) : Option (Int32 × wm) :=
  qb1 (qf_X1_skipSpaces m) fun m2 =>
  qn (m2 2 2) fun z3 =>
  qf_X1_readNumber_11 qfu z3 (nI 0) m2
noncomputable def qf_X2_dropOldest_34 (o1 : Nat) (M : wM) (h : (Nat → Nat)) : Option (wM × (Nat → Nat)) :=
  qn (qw_hu h 4 o1) fun h1 =>
  qn (qw_u1 M 8 (qw_u2 (M 8) 0 4 (nI 4))) fun M2 =>
  some (M2, h1)
noncomputable def qf_X2_dropOldest_9 : Nat → Nat → Int32 → wM → (Nat → Nat) → Option (wM × (Nat → Nat))
  | 0, _, _, _, _ => none
  | n + 1, o1, x2, M, h =>
  if (nI 5) ≤ x2 then
    qf_X2_dropOldest_34 o1 M h
  else
    qn (x2 - (nI 1)) fun z2 =>
    qg (vp_in x2 5) <|
    qn (h x2.toNatClampNeg) fun o4 =>
    qg (o4 < 8) <|
    qg (vp_in z2 5) <|
    qn (qw_hu h z2.toNatClampNeg o4) fun h7 =>
    qn (x2 + nI 1) fun z8 =>
    qf_X2_dropOldest_9 n o1 z8 M h7
noncomputable def qf_X2_dropOldest (M : wM) (h : (Nat → Nat)) : Option (wM × (Nat → Nat)) :=
  qn (h 0) fun o1 =>
  qg (o1 < 8) <|
  qf_X2_dropOldest_9 qfu o1 (nI 1) M h
noncomputable def qf_X2_record_12 (o : Nat) (M : wM) (h : (Nat → Nat)) : Option (wM × (Nat → Nat)) :=
  qn (M 8 0 4) fun z1 =>
  qg (vp_in z1 5) <|
  qn (h z1.toNatClampNeg) fun o3 =>
  qg (o3 < 8) <|
  qg (o ≠ o3) <|
  qg (o < 8) <|
  qb1 (qf_X0_copyFrom (M o) (M o3)) fun m8 =>
  qn (qw_u1 M o3 m8) fun M9 =>
  qn (M9 8 0 4) fun z10 =>
  qn (z10 + (nI 1)) fun z11 =>
  qn (qw_u1 M9 8 (qw_u2 (M9 8) 0 4 z11)) fun M12 =>
  some (M12, h)
noncomputable def qf_X2_record (o : Nat) (M : wM) (h : (Nat → Nat)) : Option (wM × (Nat → Nat)) :=
  qn (M 8 0 4) fun z1 =>
  if z1 = (nI 5) then
    qb2 (qf_X2_dropOldest M h) fun M4 h5 =>
    qf_X2_record_12 o M4 h5
  else
    qf_X2_record_12 o M h
noncomputable def qf_X2_takeAsAction (x1 : Int32) (x2 : Int32) (x3 : Int32) (M : wM) (h : (Nat → Nat)) : Option (Int32 × wM × (Nat → Nat)) :=
  qb1 (qf_X0_copyFrom (M 0) (M 1)) fun m2 =>
  qn (qw_u1 M 1 m2) fun M3 =>
  qb2 (qf_X0_take x1 x2 x3 (M3 0)) fun r4 m6 =>
  qn (qw_u1 M3 0 m6) fun M7 =>
  if r4 < 0 then
    some (r4, M7, h)
  else
    qb2 (qf_X2_record 1 M7 h) fun M10 h11 =>
    some (r4, M10, h11)
noncomputable def qf_X2_call (x1 : Int32) (x2 : Int32) (M : wM) (h : (Nat → Nat)) : Option (Int32 × wM × (Nat → Nat)) :=
  qb3 (qf_X2_takeAsAction (nI 0) x1 x2 M h) fun r1 M3 h4 =>
  some (r1, M3, h4)
noncomputable def qf_X2_tail (x1 : Int32) (M : wM) (h : (Nat → Nat)) : Option (Int32 × wM × (Nat → Nat)) :=
  qb3 (qf_X2_takeAsAction (nI 1) x1 (nI 0) M h) fun r1 M3 h4 =>
  some (r1, M3, h4)
noncomputable def qf_X2_ret (M : wM) (h : (Nat → Nat)) : Option (Int32 × wM × (Nat → Nat)) :=
  qb3 (qf_X2_takeAsAction (nI 2) (nI 0) (nI 0) M h) fun r1 M3 h4 =>
  some (r1, M3, h4)
noncomputable def qf_X2_raise (x1 : Int32) (M : wM) (h : (Nat → Nat)) : Option (Int32 × wM × (Nat → Nat)) :=
  qb3 (qf_X2_takeAsAction (nI 3) (nI 0) x1 M h) fun r1 M3 h4 =>
  some (r1, M3, h4)
noncomputable def qf_X2_setRepair (x1 : Int32) (M : wM) (h : (Nat → Nat)) : Option (Int32 × wM × (Nat → Nat)) :=
  if x1 < 0 then
    some ((-1 : Int32), M, h)
  else
    if x1 ≤ (nI 1) then
      qb2 (qf_X2_record 0 M h) fun M4 h5 =>
      qn (M4 0 0 0) fun z6 =>
      qn (qw_u1 M4 0 (qw_u2 (M4 0) 0 0 x1)) fun M7 =>
      some (z6, M7, h5)
    else
      some ((-1 : Int32), M, h)
noncomputable def qf_X2_isSize (x0 : Int32) : Option Int32 :=
  if x0 < (nI 2) then
    some (nI 0)
  else
    if (nI 16) < x0 then
      some (nI 0)
    else
      some (nI 1)
noncomputable def qf_X2_begin (x1 : Int32) (M : wM) (h : (Nat → Nat)) : Option (Int32 × wM × (Nat → Nat)) :=
  qb1 (qf_X2_isSize x1) fun r1 =>
  if r1 = 0 then
    some ((-1 : Int32), M, h)
  else
    qb2 (qf_X2_record 0 M h) fun M5 h6 =>
    qn (M5 0 0 1) fun z7 =>
    qb1 (qf_X0_beginAnew x1 (M5 0)) fun m9 =>
    qn (qw_u1 M5 0 m9) fun M10 =>
    some (z7, M10, h6)
noncomputable def qf_X2_undo (M : wM) (h : (Nat → Nat)) : Option (Int32 × wM × (Nat → Nat)) :=
  qn (M 8 0 4) fun z1 =>
  if z1 = 0 then
    some ((-2 : Int32), M, h)
  else
    qn (M 8 0 4) fun z3 =>
    qn (z3 - (nI 1)) fun z4 =>
    qn (qw_u1 M 8 (qw_u2 (M 8) 0 4 z4)) fun M5 =>
    qn (M5 8 0 4) fun z6 =>
    qg (vp_in z6 5) <|
    qn (h z6.toNatClampNeg) fun o8 =>
    qg (o8 < 8) <|
    qg (o8 ≠ 0) <|
    qb1 (qf_X0_copyFrom (M5 o8) (M5 0)) fun m12 =>
    qn (qw_u1 M5 0 m12) fun M13 =>
    qn (M13 8 0 4) fun z14 =>
    some (z14, M13, h)
noncomputable def qf_X2_append (x1 : Int32) (M : wM) (h : (Nat → Nat)) : Option (Int32 × wM × (Nat → Nat)) :=
  if x1 < (nI 1) then
    some ((-1 : Int32), M, h)
  else
    if x1 ≤ (nI 255) then
      qn (M 8 2 1) fun z3 =>
      if z3 = (nI 120) then
        some ((-3 : Int32), M, h)
      else
        qb1 (qf_X1_add x1 (M 8)) fun m6 =>
        qn (qw_u1 M 8 m6) fun M7 =>
        qn (M7 8 2 1) fun z8 =>
        some (z8, M7, h)
    else
      some ((-1 : Int32), M, h)
noncomputable def qf_X2_clearText (M : wM) (h : (Nat → Nat)) : Option (Int32 × wM × (Nat → Nat)) :=
  qn (M 8 2 1) fun z1 =>
  qn (qw_u1 M 8 (qw_u2 (M 8) 2 1 (nI 0))) fun M2 =>
  some (z1, M2, h)
noncomputable def qf_X2_kindOf (x0 : Int32) : Option Int32 :=
  if x0 = (nI 99) then
    some (nI 0)
  else
  if x0 = (nI 114) then
    some (nI 2)
  else
  if x0 = (nI 116) then
    some (nI 1)
  else
  if x0 = (nI 120) then
    some (nI 3)
  else
  some (-1 : Int32)
noncomputable def qf_X2_takeStepOfText_101 (x1 : Int32) (x2 : Int32) (x3 : Int32) (x4 : Int32) (M : wM) (h : (Nat → Nat)) : Option (Int32 × wM × (Nat → Nat)) :=
  if 0 ≤ x4 then
    qb2 (qf_X0_take x2 x3 x4 (M 0)) fun r2 m4 =>
    qn (qw_u1 M 0 m4) fun M5 =>
    if 0 ≤ r2 then
      some ((nI 1), M5, h)
    else
      qn (qw_u1 M5 8 (qw_u2 (M5 8) 2 2 x1)) fun M7 =>
      some ((nI 0), M7, h)
  else
    some ((nI 0), M, h)
noncomputable def qf_X2_takeStepOfText_92 (x1 : Int32) (x2 : Int32) (x3 : Int32) (M : wM) (h : (Nat → Nat)) : Option (Int32 × wM × (Nat → Nat)) :=
  qb2 (qf_X1_readNumber (M 8)) fun r1 m3 =>
  qn (qw_u1 M 8 m3) fun M4 =>
  qf_X2_takeStepOfText_101 x1 x2 x3 r1 M4 h
noncomputable def qf_X2_takeStepOfText_83 (x1 : Int32) (x2 : Int32) (x3 : Int32) (x4 : Int32) (M : wM) (h : (Nat → Nat)) : Option (Int32 × wM × (Nat → Nat)) :=
  if x2 = 0 then
    qf_X2_takeStepOfText_92 x1 x2 x3 M h
  else
    if x2 = (nI 3) then
      qf_X2_takeStepOfText_92 x1 x2 x3 M h
    else
      qf_X2_takeStepOfText_101 x1 x2 x3 x4 M h
noncomputable def qf_X2_takeStepOfText_61 (x1 : Int32) (x2 : Int32) (x3 : Int32) (x4 : Int32) (M : wM) (h : (Nat → Nat)) : Option (Int32 × wM × (Nat → Nat)) :=
  if x3 < 0 then
    some ((nI 0), M, h)
  else
    if x2 = 0 then
      qb2 (qf_X1_readSign (nI 64) (M 8)) fun r3 m5 =>
      qn (qw_u1 M 8 m5) fun M6 =>
      if r3 = 0 then
        some ((nI 0), M6, h)
      else
        qf_X2_takeStepOfText_83 x1 x2 x3 x4 M6 h
    else
      qf_X2_takeStepOfText_83 x1 x2 x3 x4 M h
noncomputable def qf_X2_takeStepOfText_53 (x1 : Int32) (x2 : Int32) (x4 : Int32) (M : wM) (h : (Nat → Nat)) : Option (Int32 × wM × (Nat → Nat)) :=
  qb2 (qf_X1_readNumber (M 8)) fun r1 m3 =>
  qn (qw_u1 M 8 m3) fun M4 =>
  qf_X2_takeStepOfText_61 x1 x2 r1 x4 M4 h
noncomputable def qf_X2_takeStepOfText (M : wM) (h : (Nat → Nat)) : Option (Int32 × wM × (Nat → Nat)) :=
  qn (M 8 2 2) fun z1 =>
  qb1 (qf_X1_sign (M 8)) fun r2 =>
  qb1 (qf_X2_kindOf r2) fun r4 =>
  if r4 = (-1 : Int32) then
    some ((nI 0), M, h)
  else
    qn (M 8 2 2) fun z7 =>
    qn (z7 + (nI 1)) fun z8 =>
    qn (qw_u1 M 8 (qw_u2 (M 8) 2 2 z8)) fun M9 =>
    if r4 = 0 then
      qf_X2_takeStepOfText_53 z1 r4 (nI 0) M9 h
    else
      if r4 = (nI 1) then
        qf_X2_takeStepOfText_53 z1 r4 (nI 0) M9 h
      else
        qf_X2_takeStepOfText_61 z1 r4 (nI 0) (nI 0) M9 h
noncomputable def qf_X2_takeStepsOfText_10 : Nat → Int32 → wM → (Nat → Nat) → Option (Int32 × wM × (Nat → Nat))
  | 0, _, _, _ => none
  | n + 1, x1, M, h =>
  if (nI 120) < x1 then
    some ((-1 : Int32), M, h)
  else
    qb1 (qf_X1_skipSpaces (M 8)) fun m3 =>
    qn (qw_u1 M 8 m3) fun M4 =>
    qb1 (qf_X1_isAtEnd (M4 8)) fun r5 =>
    if r5 = 0 then
      qb3 (qf_X2_takeStepOfText M4 h) fun r8 M10 h11 =>
      if r8 = 0 then
        some ((-1 : Int32), M10, h11)
      else
        qn (x1 + nI 1) fun z13 =>
        qf_X2_takeStepsOfText_10 n z13 M10 h11
    else
      some (x1, M4, h)
noncomputable def qf_X2_takeStepsOfText (M : wM) (h : (Nat → Nat)) : Option (Int32 × wM × (Nat → Nat)) :=
  qn (qw_u1 M 8 (qw_u2 (M 8) 2 2 (nI 0))) fun M1 =>
  qf_X2_takeStepsOfText_10 qfu (nI 0) M1 h
noncomputable def qf_X2_run (M : wM) (h : (Nat → Nat)) : Option (Int32 × wM × (Nat → Nat)) :=
  qb1 (qf_X0_copyFrom (M 0) (M 1)) fun m2 =>
  qn (qw_u1 M 1 m2) fun M3 =>
  qb3 (qf_X2_takeStepsOfText M3 h) fun r4 M6 h7 =>
  if 0 ≤ r4 then
    qb2 (qf_X2_record 1 M6 h7) fun M10 h11 =>
    qn (qw_u1 M10 8 (qw_u2 (M10 8) 2 1 (nI 0))) fun M12 =>
    some (r4, M12, h11)
  else
    qb1 (qf_X0_copyFrom (M6 1) (M6 0)) fun m14 =>
    qn (qw_u1 M6 0 m14) fun M15 =>
    qn (M15 8 2 2) fun z16 =>
    qn ((-1000 : Int32) - z16) fun z17 =>
    some (z17, M15, h7)
noncomputable def qf_X2_count (x1 : Int32) (M : wM) (h : (Nat → Nat)) : Option Int32 :=
  if x1 = (nI 0) then
    qn (M 0 0 3) fun z2 =>
    some z2
  else
  if x1 = (nI 1) then
    qn (M 0 0 5) fun z4 =>
    some z4
  else
  if x1 = (nI 2) then
    qn (M 0 1 0) fun z6 =>
    some z6
  else
  if x1 = (nI 3) then
    qn (M 0 1 1) fun z8 =>
    some z8
  else
  if x1 = (nI 4) then
    qn (M 0 1 2) fun z10 =>
    some z10
  else
  if x1 = (nI 5) then
    qn (M 0 1 3) fun z12 =>
    some z12
  else
  if x1 = (nI 6) then
    qn (M 0 2 0) fun z14 =>
    qn (M 0 2 1) fun z15 =>
    qn (z14 + z15) fun z16 =>
    some z16
  else
  if x1 = (nI 7) then
    qn (M 0 2 1) fun z18 =>
    some z18
  else
  if x1 = (nI 8) then
    qn (M 0 2 2) fun z20 =>
    some z20
  else
  if x1 = (nI 9) then
    qn (M 0 2 3) fun z22 =>
    some z22
  else
  if x1 = (nI 10) then
    qn (M 0 0 6) fun z24 =>
    some z24
  else
  if x1 = (nI 11) then
    qn (M 0 0 1) fun z26 =>
    some z26
  else
  if x1 = (nI 12) then
    qn (M 0 0 2) fun z28 =>
    some z28
  else
  if x1 = (nI 13) then
    qn (M 0 0 4) fun z30 =>
    some z30
  else
  if x1 = (nI 14) then
    qn (M 0 0 0) fun z32 =>
    some z32
  else
  if x1 = (nI 15) then
    qn (M 8 0 4) fun z34 =>
    some z34
  else
  if x1 = (nI 16) then
    qn (M 8 2 1) fun z36 =>
    some z36
  else
  if x1 = (nI 17) then
    qb1 (qf_X0_overrunFrames (M 0)) fun r38 =>
    some r38
  else
  some (-1 : Int32)
noncomputable def qf_X2_frame (x1 : Int32) (x2 : Int32) (M : wM) (h : (Nat → Nat)) : Option Int32 :=
  if x1 < 0 then
    some (-1 : Int32)
  else
    qn (M 0 0 3) fun z2 =>
    if z2 ≤ x1 then
      some (-1 : Int32)
    else
      if x2 < 0 then
        some (-1 : Int32)
      else
        if x2 < (nI 5) then
          qg (vp_in x2 5) <|
          qn (M 0 0 3) fun z7 =>
          qn (z7 - (nI 1)) fun z8 =>
          qn (z8 - x1) fun z9 =>
          qg (vp_in z9 40) <|
          qn (M 0 (8 + x2.toNatClampNeg) z9.toNatClampNeg) fun z10 =>
          some z10
        else
          some (-1 : Int32)
noncomputable def qf_X2_slot (x1 : Int32) (x2 : Int32) (M : wM) (h : (Nat → Nat)) : Option Int32 :=
  if x1 < 0 then
    some (-1 : Int32)
  else
    qn (M 0 0 1) fun z2 =>
    if z2 ≤ x1 then
      some (-1 : Int32)
    else
      if x2 < 0 then
        some (-1 : Int32)
      else
        if x2 < (nI 3) then
          qg (vp_in x2 3) <|
          qg (vp_in x1 16) <|
          qn (M 0 (13 + x2.toNatClampNeg) x1.toNatClampNeg) fun z7 =>
          some z7
        else
          some (-1 : Int32)
noncomputable def qf_X2_confession (x1 : Int32) (x2 : Int32) (M : wM) (h : (Nat → Nat)) : Option Int32 :=
  if x1 < 0 then
    some (-1 : Int32)
  else
    if x2 < 0 then
      some (-1 : Int32)
    else
      if x2 < (nI 6) then
        qn (M 0 0 6) fun z4 =>
        if x1 < z4 then
          qg (vp_in x2 6) <|
          qg (vp_in x1 12) <|
          qn (M 0 (19 + x2.toNatClampNeg) x1.toNatClampNeg) fun z7 =>
          some z7
        else
          some (-9 : Int32)
      else
        some (-1 : Int32)
noncomputable def qf_X2_named (x1 : Int32) (M : wM) (h : (Nat → Nat)) : Option Int32 :=
  if x1 < 0 then
    some (-1 : Int32)
  else
    qn (M 0 1 0) fun z2 =>
    if x1 < z2 then
      qg (vp_in x1 200) <|
      qn (M 0 3 x1.toNatClampNeg) fun z4 =>
      some z4
    else
      some (-1 : Int32)
noncomputable def qf_X2_worst_7 : Nat → Int32 → Int32 → Int32 → wM → (Nat → Nat) → Option Int32
  | 0, _, _, _, _, _ => none
  | n + 1, x1, x2, x3, M, h =>
  qn (M 0 1 0) fun z1 =>
  if z1 ≤ x3 then
    some x1
  else
    qg (vp_in x3 200) <|
    qn (M 0 3 x3.toNatClampNeg) fun z3 =>
    if z3 ≤ x2 then
      qn (x3 + nI 1) fun z6 =>
      qf_X2_worst_7 n x1 x2 z6 M h
    else
      qg (vp_in x3 200) <|
      qn (M 0 3 x3.toNatClampNeg) fun z7 =>
      qn (x3 + nI 1) fun z9 =>
      qf_X2_worst_7 n x3 z7 z9 M h
noncomputable def qf_X2_worst (M : wM) (h : (Nat → Nat)) : Option Int32 :=
  qf_X2_worst_7 qfu (-9 : Int32) (nI 0) (nI 0) M h
noncomputable def qf_X2_ahead (x1 : Int32) (x2 : Int32) (M : wM) (h : (Nat → Nat)) : Option Int32 :=
  if x1 < (nI 1) then
    some (-1 : Int32)
  else
    if (nI 40) < x1 then
      some (-1 : Int32)
    else
      if x2 < 0 then
        some (-1 : Int32)
      else
        if x2 ≤ (nI 1) then
          qn (M 0 0 3) fun z5 =>
          if x1 ≤ z5 then
            qb1 (qf_X0_hitsAhead x1 (M 0)) fun r7 =>
            if x2 = 0 then
              some r7
            else
              qn (x1 - r7) fun z10 =>
              some z10
          else
            some (-2 : Int32)
        else
          some (-1 : Int32)
noncomputable def qf_X2_missesInTrial_82 (M : wM) (h : (Nat → Nat)) : Option (Int32 × wM × (Nat → Nat)) :=
  qb1 (qf_X0_misses (M 2)) fun r1 =>
  some (r1, M, h)
noncomputable def qf_X2_missesInTrial_24 : Nat → Int32 → wM → (Nat → Nat) → Option (Int32 × wM × (Nat → Nat))
  | 0, _, _, _ => none
  | n + 1, x2, M, h =>
  qn (M 0 0 5) fun z1 =>
  if z1 ≤ x2 then
    qf_X2_missesInTrial_82 M h
  else
    qg (vp_in x2 200) <|
    qn (M 0 16 x2.toNatClampNeg) fun z3 =>
    qg (vp_in x2 200) <|
    qn (M 0 17 x2.toNatClampNeg) fun z5 =>
    qg (vp_in x2 200) <|
    qn (M 0 18 x2.toNatClampNeg) fun z7 =>
    qb2 (qf_X0_take z3 z5 z7 (M 2)) fun r9 m11 =>
    qn (qw_u1 M 2 m11) fun M12 =>
    qn (x2 + nI 1) fun z13 =>
    qf_X2_missesInTrial_24 n z13 M12 h
noncomputable def qf_X2_missesInTrial (x1 : Int32) (M : wM) (h : (Nat → Nat)) : Option (Int32 × wM × (Nat → Nat)) :=
  qn (M 0 0 0) fun z1 =>
  qn (qw_u1 M 2 (qw_u2 (M 2) 0 0 z1)) fun M2 =>
  qb1 (qf_X0_beginAnew x1 (M2 2)) fun m4 =>
  qn (qw_u1 M2 2 m4) fun M5 =>
  qf_X2_missesInTrial_24 qfu (nI 0) M5 h
noncomputable def qf_X2_missesWith (x1 : Int32) (M : wM) (h : (Nat → Nat)) : Option (Int32 × wM × (Nat → Nat)) :=
  qb1 (qf_X2_isSize x1) fun r1 =>
  if r1 = 0 then
    some ((-1 : Int32), M, h)
  else
    qb3 (qf_X2_missesInTrial x1 M h) fun r4 M6 h7 =>
    some (r4, M6, h7)
noncomputable def qf_X2_bestSize_10 : Nat → Int32 → Int32 → Int32 → wM → (Nat → Nat) → Option (Int32 × wM × (Nat → Nat))
  | 0, _, _, _, _, _ => none
  | n + 1, x1, x2, x3, M, h =>
  if (nI 16) < x3 then
    some (x1, M, h)
  else
    qb3 (qf_X2_missesInTrial x3 M h) fun r2 M4 h5 =>
    if x2 ≤ r2 then
      qn (x3 + nI 1) fun z7 =>
      qf_X2_bestSize_10 n x1 x2 z7 M4 h5
    else
      qn (x3 + nI 1) fun z8 =>
      qf_X2_bestSize_10 n x3 r2 z8 M4 h5
noncomputable def qf_X2_bestSize (M : wM) (h : (Nat → Nat)) : Option (Int32 × wM × (Nat → Nat)) :=
  qb3 (qf_X2_missesInTrial (nI 2) M h) fun r1 M3 h4 =>
  qf_X2_bestSize_10 qfu (nI 2) r1 (nI 3) M3 h4
noncomputable def qf_X2_callsUntil (x1 : Int32) (M : wM) (h : (Nat → Nat)) : Option Int32 :=
  if x1 < 0 then
    some (-1 : Int32)
  else
    qn (M 0 0 3) fun z2 =>
    if x1 < z2 then
      qn (M 0 0 3) fun z4 =>
      qn (z4 - (nI 1)) fun z5 =>
      qn (z5 - x1) fun z6 =>
      qb1 (qf_X0_isOverrun z6 (M 0)) fun r7 =>
      if r7 = 0 then
        qg (vp_in z6 40) <|
        qn (M 0 11 z6.toNatClampNeg) fun z10 =>
        qn (M 0 0 2) fun z12 =>
        qn (z10 - z12) fun z13 =>
        if z13 ≤ 0 then
          qn (M 0 0 1) fun z15 =>
          qn (z13 + z15) fun z16 =>
          some z16
        else
          some z13
      else
        some (nI 0)
    else
      some (-1 : Int32)
noncomputable def qf_X3_in (x0 : Int32) (x1 : Int32) (x2 : Int32) : Option Int32 :=
  if x0 < x1 then
    some (nI 0)
  else
    if x2 < x0 then
      some (nI 0)
    else
      some (nI 1)
noncomputable def qf_X3_acts_93 (m : wm) : Option wm :=
  qn (m 0 3) fun z1 =>
  qn (z1 + (nI 1)) fun z2 =>
  qn (qw_u2 m 0 3 z2) fun m3 =>
  some m3
noncomputable def qf_X3_acts_59 : Nat → Int32 → wm → Option wm
  | 0, _, _ => none
  | n + 1, x1, m =>
  if (nI 935) ≤ x1 then
    qf_X3_acts_93 m
  else
    qn (m 0 3) fun z2 =>
    qn ((nI 935) * z2) fun z3 =>
    qn (z3 + x1) fun z4 =>
    qg (vp_in x1 935) <|
    qn (m 1 x1.toNatClampNeg) fun z5 =>
    qg (vp_in z4 4675) <|
    qn (qw_u2 m 2 z4.toNatClampNeg z5) fun m8 =>
    qn (x1 + nI 1) fun z9 =>
    qf_X3_acts_59 n z9 m8
noncomputable def qf_X3_acts_57 (m : wm) : Option wm :=
  qf_X3_acts_59 qfu (nI 0) m
noncomputable def qf_X3_acts_47 (m : wm) : Option wm :=
  qn (m 0 3) fun z1 =>
  qn (z1 - (nI 1)) fun z2 =>
  qn (qw_u2 m 0 3 z2) fun m3 =>
  qf_X3_acts_57 m3
noncomputable def qf_X3_acts_18 : Nat → Int32 → wm → Option wm
  | 0, _, _ => none
  | n + 1, x1, m =>
  if (nI 3740) ≤ x1 then
    qf_X3_acts_47 m
  else
    qn (x1 + (nI 935)) fun z2 =>
    qg (vp_in z2 4675) <|
    qn (m 2 z2.toNatClampNeg) fun z3 =>
    qg (vp_in x1 4675) <|
    qn (qw_u2 m 2 x1.toNatClampNeg z3) fun m6 =>
    qn (x1 + nI 1) fun z7 =>
    qf_X3_acts_18 n z7 m6
noncomputable def qf_X3_acts (m : wm) : Option wm :=
  qn (m 0 4) fun z1 =>
  if z1 = 0 then
    qn (m 0 3) fun z3 =>
    if z3 = (nI 5) then
      qf_X3_acts_18 qfu (nI 0) m
    else
      qf_X3_acts_57 m
  else
    some m
noncomputable def qf_X3_begins_58 : Nat → Int32 → wm → Option wm
  | 0, _, _ => none
  | n + 1, x3, m =>
  if (nI 16) ≤ x3 then
    some m
  else
    qn ((nI 3) * x3) fun z2 =>
    qn ((nI 215) + z2) fun z3 =>
    qn (z3 + (nI 0)) fun z4 =>
    qg (vp_in z4 935) <|
    qn (qw_u2 m 1 z4.toNatClampNeg (-9 : Int32)) fun m6 =>
    qn ((nI 3) * x3) fun z7 =>
    qn ((nI 215) + z7) fun z8 =>
    qn (z8 + (nI 1)) fun z9 =>
    qg (vp_in z9 935) <|
    qn (qw_u2 m6 1 z9.toNatClampNeg (-9 : Int32)) fun m11 =>
    qn (x3 + nI 1) fun z12 =>
    qf_X3_begins_58 n z12 m11
noncomputable def qf_X3_begins_30 (x1 : Int32) (x2 : Int32) (m : wm) : Option wm :=
  qn (qw_u2 m 1 14 x2) fun m1 =>
  qn (qw_u2 m1 1 11 x1) fun m2 =>
  qn (x1 - (nI 1)) fun z3 =>
  qn (qw_u2 m2 1 12 z3) fun m4 =>
  qf_X3_begins_58 qfu (nI 0) m4
noncomputable def qf_X3_begins_10 : Nat → Int32 → Int32 → Int32 → wm → Option wm
  | 0, _, _, _, _ => none
  | n + 1, x1, x2, x3, m =>
  if (nI 935) ≤ x3 then
    qf_X3_begins_30 x1 x2 m
  else
    qg (vp_in x3 935) <|
    qn (qw_u2 m 1 x3.toNatClampNeg (nI 0)) fun m3 =>
    qn (x3 + nI 1) fun z4 =>
    qf_X3_begins_10 n x1 x2 z4 m3
noncomputable def qf_X3_begins (x1 : Int32) (m : wm) : Option wm :=
  qn (m 1 14) fun z1 =>
  qf_X3_begins_10 qfu x1 z1 (nI 0) m
noncomputable def qf_X3_ofFrame (x1 : Int32) (x2 : Int32) (m : wm) : Option Int32 :=
  qn ((nI 5) * x1) fun z1 =>
  qn ((nI 15) + z1) fun z2 =>
  qn (z2 + x2) fun z3 =>
  qg (vp_in z3 935) <|
  qn (m 1 z3.toNatClampNeg) fun z4 =>
  some z4
noncomputable def qf_X3_ofSlot (x1 : Int32) (x2 : Int32) (m : wm) : Option Int32 :=
  qn ((nI 3) * x1) fun z1 =>
  qn ((nI 215) + z1) fun z2 =>
  qn (z2 + x2) fun z3 =>
  qg (vp_in z3 935) <|
  qn (m 1 z3.toNatClampNeg) fun z4 =>
  some z4
noncomputable def qf_X3_notes (x1 : Int32) (x2 : Int32) (m : wm) : Option wm :=
  qn (m 1 1) fun z1 =>
  qn ((nI 2) * z1) fun z2 =>
  qn ((nI 335) + z2) fun z3 =>
  qg (vp_in z3 935) <|
  qn (qw_u2 m 1 z3.toNatClampNeg x1) fun m5 =>
  qn (m5 1 1) fun z6 =>
  qn ((nI 2) * z6) fun z7 =>
  qn ((nI 335) + z7) fun z8 =>
  qn (z8 + (nI 1)) fun z9 =>
  qg (vp_in z9 935) <|
  qn (qw_u2 m5 1 z9.toNatClampNeg x2) fun m11 =>
  qn (m11 1 1) fun z12 =>
  qn (z12 + (nI 1)) fun z13 =>
  qn (qw_u2 m11 1 1 z13) fun m14 =>
  qn ((nI 2) + x1) fun z15 =>
  qg (vp_in z15 935) <|
  qn (m14 1 z15.toNatClampNeg) fun z16 =>
  qn (z16 + (nI 1)) fun z18 =>
  qg (vp_in z15 935) <|
  qn (qw_u2 m14 1 z15.toNatClampNeg z18) fun m20 =>
  some m20
noncomputable def qf_X3_call_333 (x2 : Int32) (x3 : Int32) (y0 : Int32) (y1 : Int32) (m : wm) : Option (Int32 × wm) :=
  qg (vp_in y1 935) <|
  qn (qw_u2 m 1 y1.toNatClampNeg y0) fun m2 =>
  qn ((nI 735) + x3) fun z3 =>
  qg (vp_in z3 935) <|
  qn (qw_u2 m2 1 z3.toNatClampNeg (nI 0)) fun m5 =>
  qb1 (qf_X3_notes (nI 0) x2 m5) fun m7 =>
  some (x3, m7)
noncomputable def qf_X3_call_160 (x1 : Int32) (x2 : Int32) (x3 : Int32) (x4 : Int32) (m : wm) : Option (Int32 × wm) :=
  qn (qw_u2 m 1 12 x4) fun m1 =>
  qn ((nI 3) * x4) fun z2 =>
  qn ((nI 215) + z2) fun z3 =>
  qn (z3 + (nI 0)) fun z4 =>
  qg (vp_in z4 935) <|
  qn (qw_u2 m1 1 z4.toNatClampNeg x3) fun m6 =>
  qn ((nI 3) * x4) fun z7 =>
  qn ((nI 215) + z7) fun z8 =>
  qn (z8 + (nI 1)) fun z9 =>
  qg (vp_in z9 935) <|
  qn (qw_u2 m6 1 z9.toNatClampNeg x2) fun m11 =>
  qn ((nI 3) * x4) fun z12 =>
  qn ((nI 215) + z12) fun z13 =>
  qn (z13 + (nI 2)) fun z14 =>
  qg (vp_in z14 935) <|
  qn (m11 1 z14.toNatClampNeg) fun z15 =>
  qn (z15 + (nI 1)) fun z17 =>
  qg (vp_in z14 935) <|
  qn (qw_u2 m11 1 z14.toNatClampNeg z17) fun m19 =>
  qn (m19 1 0) fun z20 =>
  qn ((nI 5) * z20) fun z21 =>
  qn ((nI 15) + z21) fun z22 =>
  qn (z22 + (nI 0)) fun z23 =>
  qg (vp_in z23 935) <|
  qn (qw_u2 m19 1 z23.toNatClampNeg x3) fun m25 =>
  qn (z22 + (nI 1)) fun z26 =>
  qg (vp_in z26 935) <|
  qn (qw_u2 m25 1 z26.toNatClampNeg x1) fun m28 =>
  qn (z22 + (nI 2)) fun z29 =>
  qg (vp_in z29 935) <|
  qn (qw_u2 m28 1 z29.toNatClampNeg x2) fun m31 =>
  qn (z22 + (nI 3)) fun z32 =>
  qg (vp_in z32 935) <|
  qn (qw_u2 m31 1 z32.toNatClampNeg x4) fun m34 =>
  qn (z22 + (nI 4)) fun z35 =>
  qg (vp_in z35 935) <|
  qn (qw_u2 m34 1 z35.toNatClampNeg (-9 : Int32)) fun m37 =>
  qn (m37 1 0) fun z38 =>
  qn (z38 + (nI 1)) fun z39 =>
  qn (qw_u2 m37 1 0 z39) fun m40 =>
  qn (m40 1 0) fun z41 =>
  qn (m40 1 13) fun z42 =>
  if z41 ≤ z42 then
    qn (m40 1 13) fun z44 =>
    qf_X3_call_333 x2 x3 z44 (nI 13) m40
  else
    qn (m40 1 0) fun z45 =>
    qf_X3_call_333 x2 x3 z45 (nI 13) m40
noncomputable def qf_X3_call_82 : Nat → Int32 → Int32 → Int32 → Int32 → Int32 → wm → Option (Int32 × wm)
  | 0, _, _, _, _, _, _ => none
  | n + 1, x1, x2, x3, x4, x5, m =>
  qn (m 1 0) fun z1 =>
  if z1 ≤ x5 then
    qf_X3_call_160 x1 x2 x3 x4 m
  else
    qb1 (qf_X3_ofFrame x5 (nI 3) m) fun r3 =>
    if r3 = x4 then
      qb1 (qf_X3_ofFrame x5 (nI 4) m) fun r15 =>
      if r15 = (-9 : Int32) then
        qn ((nI 5) * x5) fun z27 =>
        qn ((nI 15) + z27) fun z28 =>
        qn (z28 + (nI 4)) fun z29 =>
        qg (vp_in z29 935) <|
        qn (qw_u2 m 1 z29.toNatClampNeg x3) fun m32 =>
        qn (x5 + nI 1) fun z33 =>
        qf_X3_call_82 n x1 x2 x3 x4 z33 m32
      else
        qn ((nI 5) * x5) fun z18 =>
        qn ((nI 15) + z18) fun z19 =>
        qn (z19 + (nI 4)) fun z20 =>
        qb1 (qf_X3_ofFrame x5 (nI 4) m) fun r22 =>
        qg (vp_in z20 935) <|
        qn (qw_u2 m 1 z20.toNatClampNeg r22) fun m25 =>
        qn (x5 + nI 1) fun z26 =>
        qf_X3_call_82 n x1 x2 x3 x4 z26 m25
    else
      qn ((nI 5) * x5) fun z6 =>
      qn ((nI 15) + z6) fun z7 =>
      qn (z7 + (nI 4)) fun z8 =>
      qb1 (qf_X3_ofFrame x5 (nI 4) m) fun r10 =>
      qg (vp_in z8 935) <|
      qn (qw_u2 m 1 z8.toNatClampNeg r10) fun m13 =>
      qn (x5 + nI 1) fun z14 =>
      qf_X3_call_82 n x1 x2 x3 x4 z14 m13
noncomputable def qf_X3_call (x1 : Int32) (x2 : Int32) (m : wm) : Option (Int32 × wm) :=
  qb1 (qf_X3_in x1 (nI 0) (nI 15)) fun r1 =>
  if r1 = 0 then
    some ((-1 : Int32), m)
  else
    qb1 (qf_X3_in x2 (nI 0) (nI 999)) fun r4 =>
    if r4 = 0 then
      some ((-1 : Int32), m)
    else
      qn (m 1 0) fun z7 =>
      if z7 = (nI 40) then
        some ((-3 : Int32), m)
      else
        qn (m 1 1) fun z9 =>
        if z9 = (nI 200) then
          some ((-3 : Int32), m)
        else
          qb1 (qf_X3_acts m) fun m12 =>
          qn (m12 1 2) fun z13 =>
          qn (m12 1 12) fun z14 =>
          qn (z14 + (nI 1)) fun z15 =>
          qn (m12 1 11) fun z16 =>
          qg (¬ z16 = 0) <|
          qn (z15 - z15 / z16 * z16) fun z17 =>
          qf_X3_call_82 qfu x1 x2 z13 z17 (nI 0) m12
noncomputable def qf_X3_tail (x1 : Int32) (m : wm) : Option (Int32 × wm) :=
  qb1 (qf_X3_in x1 (nI 0) (nI 15)) fun r1 =>
  if r1 = 0 then
    some ((-1 : Int32), m)
  else
    qn (m 1 0) fun z4 =>
    if z4 = 0 then
      some ((-2 : Int32), m)
    else
      qn (m 1 1) fun z6 =>
      if z6 = (nI 200) then
        some ((-3 : Int32), m)
      else
        qb1 (qf_X3_acts m) fun m9 =>
        qn (m9 1 0) fun z10 =>
        qn (z10 - (nI 1)) fun z11 =>
        qn ((nI 5) * z11) fun z12 =>
        qn ((nI 15) + z12) fun z13 =>
        qn (z13 + (nI 1)) fun z14 =>
        qg (vp_in z14 935) <|
        qn (m9 1 z14.toNatClampNeg) fun z15 =>
        qg (vp_in z14 935) <|
        qn (qw_u2 m9 1 z14.toNatClampNeg x1) fun m18 =>
        qb1 (qf_X3_notes (nI 1) x1 m18) fun m20 =>
        some (z15, m20)
noncomputable def qf_X3_tells_59 (x1 : Int32) (x2 : Int32) (x3 : Int32) (m : wm) : Option wm :=
  qn (m 1 10) fun z1 =>
  qn ((nI 6) * z1) fun z2 =>
  qn ((nI 263) + z2) fun z3 =>
  qg (vp_in z3 935) <|
  qn (qw_u2 m 1 z3.toNatClampNeg x1) fun m5 =>
  qn (z3 + (nI 1)) fun z6 =>
  qg (vp_in z6 935) <|
  qn (qw_u2 m5 1 z6.toNatClampNeg x2) fun m8 =>
  qn (z3 + (nI 2)) fun z9 =>
  qb1 (qf_X3_ofFrame x3 (nI 0) m8) fun r10 =>
  qg (vp_in z9 935) <|
  qn (qw_u2 m8 1 z9.toNatClampNeg r10) fun m13 =>
  qn (z3 + (nI 3)) fun z14 =>
  qn (m13 1 12) fun z15 =>
  qb1 (qf_X3_ofSlot z15 (nI 1) m13) fun r16 =>
  qg (vp_in z14 935) <|
  qn (qw_u2 m13 1 z14.toNatClampNeg r16) fun m19 =>
  qn (z3 + (nI 4)) fun z20 =>
  qb1 (qf_X3_ofFrame x3 (nI 2) m19) fun r21 =>
  qg (vp_in z20 935) <|
  qn (qw_u2 m19 1 z20.toNatClampNeg r21) fun m24 =>
  qn (z3 + (nI 5)) fun z25 =>
  qn (m24 1 1) fun z26 =>
  qg (vp_in z25 935) <|
  qn (qw_u2 m24 1 z25.toNatClampNeg z26) fun m28 =>
  qn (m28 1 10) fun z29 =>
  qn (z29 + (nI 1)) fun z30 =>
  qn (qw_u2 m28 1 10 z30) fun m31 =>
  if x2 = (-9 : Int32) then
    some m31
  else
    qn ((nI 735) + x2) fun z33 =>
    qg (vp_in z33 935) <|
    qn (m31 1 z33.toNatClampNeg) fun z34 =>
    qn (z34 + (nI 1)) fun z36 =>
    qg (vp_in z33 935) <|
    qn (qw_u2 m31 1 z33.toNatClampNeg z36) fun m38 =>
    some m38
noncomputable def qf_X3_tells_48 (x1 : Int32) (x2 : Int32) (x3 : Int32) (m : wm) : Option wm :=
  qn (m 1 10) fun z1 =>
  qn (z1 - (nI 1)) fun z2 =>
  qn (qw_u2 m 1 10 z2) fun m3 =>
  qf_X3_tells_59 x1 x2 x3 m3
noncomputable def qf_X3_tells_17 : Nat → Int32 → Int32 → Int32 → Int32 → wm → Option wm
  | 0, _, _, _, _, _ => none
  | n + 1, x1, x2, x3, x4, m =>
  if (nI 329) ≤ x4 then
    qf_X3_tells_48 x1 x2 x3 m
  else
    qn (x4 + (nI 6)) fun z2 =>
    qg (vp_in z2 935) <|
    qn (m 1 z2.toNatClampNeg) fun z3 =>
    qg (vp_in x4 935) <|
    qn (qw_u2 m 1 x4.toNatClampNeg z3) fun m6 =>
    qn (x4 + nI 1) fun z7 =>
    qf_X3_tells_17 n x1 x2 x3 z7 m6
noncomputable def qf_X3_tells (x1 : Int32) (x2 : Int32) (x3 : Int32) (m : wm) : Option wm :=
  qn (m 1 10) fun z1 =>
  if z1 = (nI 12) then
    qf_X3_tells_17 qfu x1 x2 x3 (nI 263) m
  else
    qf_X3_tells_59 x1 x2 x3 m
noncomputable def qf_X3_returns_85 (x2 : Int32) (y0 : Int32) (y1 : Int32) (y2 : Int32) (m : wm) : Option (Int32 × wm) :=
  qn (y1 + y0) fun z1 =>
  qg (vp_in y2 935) <|
  qn (qw_u2 m 1 y2.toNatClampNeg z1) fun m3 =>
  if x2 = 0 then
    some ((nI 0), m3)
  else
    some ((nI 1), m3)
noncomputable def qf_X3_returns_56 (y0 : Int32) (m : wm) : Option (Int32 × wm) :=
  qn (m 1 6) fun z1 =>
  qn (z1 + (nI 1)) fun z2 =>
  qn (qw_u2 m 1 6 z2) fun m3 =>
  qn (m3 1 7) fun z4 =>
  if y0 = 0 then
    qf_X3_returns_85 y0 (nI 0) z4 (nI 7) m3
  else
    qf_X3_returns_85 y0 (nI 1) z4 (nI 7) m3
noncomputable def qf_X3_returns (m : wm) : Option (Int32 × wm) :=
  qn (m 1 0) fun z1 =>
  qn (z1 - (nI 1)) fun z2 =>
  qn (m 1 12) fun z3 =>
  qb1 (qf_X3_ofSlot z3 (nI 1) m) fun r4 =>
  qb1 (qf_X3_ofFrame z2 (nI 2) m) fun r6 =>
  if r4 = r6 then
    qn (m 1 12) fun z27 =>
    qb1 (qf_X3_ofSlot z27 (nI 0) m) fun r28 =>
    qb1 (qf_X3_ofFrame z2 (nI 0) m) fun r30 =>
    if r28 = r30 then
      qf_X3_returns_56 (nI 0) m
    else
      qf_X3_returns_56 (nI 1) m
  else
    qb1 (qf_X3_ofFrame z2 (nI 4) m) fun r9 =>
    if r9 = (-9 : Int32) then
      qn (m 1 9) fun z12 =>
      qn (z12 + (nI 1)) fun z13 =>
      qn (qw_u2 m 1 9 z13) fun m14 =>
      qn (m14 1 12) fun z15 =>
      qb1 (qf_X3_ofSlot z15 (nI 0) m14) fun r16 =>
      qb1 (qf_X3_tells (nI 2) r16 z2 m14) fun m19 =>
      some ((nI 3), m19)
    else
      qn (m 1 8) fun z20 =>
      qn (z20 + (nI 1)) fun z21 =>
      qn (qw_u2 m 1 8 z21) fun m22 =>
      qb1 (qf_X3_ofFrame z2 (nI 4) m22) fun r23 =>
      qb1 (qf_X3_tells (nI 1) r23 z2 m22) fun m26 =>
      some ((nI 2), m26)
noncomputable def qf_X3_back (x0 : Int32) (x1 : Int32) (x2 : Int32) : Option Int32 :=
  qn (x2 * (nI 40)) fun z1 =>
  qn (x0 + z1) fun z2 =>
  qn (z2 - x1) fun z3 =>
  qg (¬ x2 = 0) <|
  qn (z3 - z3 / x2 * x2) fun z4 =>
  some z4
noncomputable def qf_X3_ret (m : wm) : Option (Int32 × wm) :=
  qn (m 1 0) fun z1 =>
  if z1 = 0 then
    some ((-2 : Int32), m)
  else
    qn (m 1 1) fun z3 =>
    if z3 = (nI 200) then
      some ((-3 : Int32), m)
    else
      qb1 (qf_X3_acts m) fun m6 =>
      qb2 (qf_X3_returns m6) fun r7 m9 =>
      qn (m9 1 0) fun z10 =>
      qn (z10 - (nI 1)) fun z11 =>
      qn (qw_u2 m9 1 0 z11) fun m12 =>
      qn (m12 1 12) fun z13 =>
      qn (m12 1 11) fun z14 =>
      qb1 (qf_X3_back z13 (nI 1) z14) fun r15 =>
      qn (qw_u2 m12 1 12 r15) fun m17 =>
      qb1 (qf_X3_notes (nI 2) (nI 0) m17) fun m19 =>
      some (r7, m19)
noncomputable def qf_X3_raise_99 (x1 : Int32) (y0 : Int32) (y1 : Int32) (m : wm) : Option (Int32 × wm) :=
  qg (vp_in y1 935) <|
  qn (qw_u2 m 1 y1.toNatClampNeg y0) fun m2 =>
  qb1 (qf_X3_notes (nI 3) x1 m2) fun m4 =>
  qn (m4 1 0) fun z5 =>
  some (z5, m4)
noncomputable def qf_X3_raise (x1 : Int32) (m : wm) : Option (Int32 × wm) :=
  qb1 (qf_X3_in x1 (nI 1) (nI 40)) fun r1 =>
  if r1 = 0 then
    some ((-1 : Int32), m)
  else
    qn (m 1 0) fun z4 =>
    if x1 ≤ z4 then
      qn (m 1 1) fun z6 =>
      if z6 = (nI 200) then
        some ((-3 : Int32), m)
      else
        qb1 (qf_X3_acts m) fun m9 =>
        qn (m9 1 0) fun z10 =>
        qn (z10 - x1) fun z11 =>
        qn (qw_u2 m9 1 0 z11) fun m12 =>
        qn (m12 1 14) fun z13 =>
        if z13 = (nI 1) then
          qn (m12 1 12) fun z16 =>
          qn (m12 1 11) fun z17 =>
          qb1 (qf_X3_back z16 x1 z17) fun r18 =>
          qf_X3_raise_99 x1 r18 (nI 12) m12
        else
          qn (m12 1 12) fun z15 =>
          qf_X3_raise_99 x1 z15 (nI 12) m12
    else
      some ((-2 : Int32), m)
noncomputable def qf_X3_setRepair (x1 : Int32) (m : wm) : Option (Int32 × wm) :=
  qb1 (qf_X3_in x1 (nI 0) (nI 1)) fun r1 =>
  if r1 = 0 then
    some ((-1 : Int32), m)
  else
    qb1 (qf_X3_acts m) fun m5 =>
    qn (m5 1 14) fun z6 =>
    qn (qw_u2 m5 1 14 x1) fun m7 =>
    some (z6, m7)
noncomputable def qf_X3_begin (x1 : Int32) (m : wm) : Option (Int32 × wm) :=
  qb1 (qf_X3_in x1 (nI 2) (nI 16)) fun r1 =>
  if r1 = 0 then
    some ((-1 : Int32), m)
  else
    qb1 (qf_X3_acts m) fun m5 =>
    qn (m5 1 11) fun z6 =>
    qb1 (qf_X3_begins x1 m5) fun m8 =>
    some (z6, m8)
noncomputable def qf_X3_undo_22 : Nat → Int32 → wm → Option (Int32 × wm)
  | 0, _, _ => none
  | n + 1, x1, m =>
  if (nI 935) ≤ x1 then
    qn (m 0 3) fun z2 =>
    some (z2, m)
  else
    qn (m 0 3) fun z3 =>
    qn ((nI 935) * z3) fun z4 =>
    qn (z4 + x1) fun z5 =>
    qg (vp_in z5 4675) <|
    qn (m 2 z5.toNatClampNeg) fun z6 =>
    qg (vp_in x1 935) <|
    qn (qw_u2 m 1 x1.toNatClampNeg z6) fun m9 =>
    qn (x1 + nI 1) fun z10 =>
    qf_X3_undo_22 n z10 m9
noncomputable def qf_X3_undo (m : wm) : Option (Int32 × wm) :=
  qn (m 0 3) fun z1 =>
  if z1 = 0 then
    some ((-2 : Int32), m)
  else
    qn (m 0 3) fun z3 =>
    qn (z3 - (nI 1)) fun z4 =>
    qn (qw_u2 m 0 3 z4) fun m5 =>
    qf_X3_undo_22 qfu (nI 0) m5
noncomputable def qf_X3_append (x1 : Int32) (m : wm) : Option (Int32 × wm) :=
  qb1 (qf_X3_in x1 (nI 1) (nI 255)) fun r1 =>
  if r1 = 0 then
    some ((-1 : Int32), m)
  else
    qn (m 0 6) fun z4 =>
    if z4 = (nI 120) then
      some ((-3 : Int32), m)
    else
      qn (m 0 6) fun z6 =>
      qg (vp_in z6 120) <|
      qn (qw_u2 m 4 z6.toNatClampNeg x1) fun m8 =>
      qn (m8 0 6) fun z9 =>
      qn (z9 + (nI 1)) fun z10 =>
      qn (qw_u2 m8 0 6 z10) fun m11 =>
      qn (m11 0 6) fun z12 =>
      some (z12, m11)
noncomputable def qf_X3_clearText (m : wm) : Option (Int32 × wm) :=
  qn (m 0 6) fun z1 =>
  qn (qw_u2 m 0 6 (nI 0)) fun m2 =>
  some (z1, m2)
noncomputable def qf_X3_skips_0 : Nat → wm → Option wm
  | 0, _ => none
  | n + 1, m =>
  qn (m 0 7) fun z1 =>
  qn (m 0 6) fun z2 =>
  if z2 ≤ z1 then
    some m
  else
    qn (m 0 7) fun z4 =>
    qg (vp_in z4 120) <|
    qn (m 4 z4.toNatClampNeg) fun z5 =>
    if z5 = (nI 32) then
      qn (m 0 7) fun z8 =>
      qn (z8 + (nI 1)) fun z9 =>
      qn (qw_u2 m 0 7 z9) fun m10 =>
      qf_X3_skips_0 n m10
    else
      some m
noncomputable def qf_X3_skips (m : wm) : Option wm :=
  qn (m 0 7) fun z1 =>
  qn (m 0 6) fun z2 =>
  if z2 ≤ z1 then
    some m
  else
    qn (m 0 7) fun z4 =>
    qg (vp_in z4 120) <|
    qn (m 4 z4.toNatClampNeg) fun z5 =>
    if z5 = (nI 32) then
      qn (m 0 7) fun z8 =>
      qn (z8 + (nI 1)) fun z9 =>
      qn (qw_u2 m 0 7 z9) fun m10 =>
      qf_X3_skips_0 qfu m10
    else
      some m
noncomputable def qf_X3_isDigit (x1 : Int32) (m : wm) : Option Int32 :=
  qn (m 0 6) fun z1 =>
  if z1 ≤ x1 then
    some (nI 0)
  else
    qg (vp_in x1 120) <|
    qn (m 4 x1.toNatClampNeg) fun z3 =>
    qb1 (qf_X3_in z3 (nI 48) (nI 57)) fun r5 =>
    if r5 = 0 then
      some (nI 0)
    else
      some (nI 1)
noncomputable def qf_X3_number_123 (x1 : Int32) (y0 : Int32) (m : wm) : Option (Int32 × wm) :=
  if y0 = 0 then
    qn (qw_u2 m 0 7 x1) fun m2 =>
    qg (y0 = 0 ∨ y0 = 1) <|
    some (y0, m2)
  else
    qn (m 0 7) fun z4 =>
    qn (qw_u2 m 0 7 z4) fun m5 =>
    qg (y0 = 0 ∨ y0 = 1) <|
    some (y0, m5)
noncomputable def qf_X3_number_118 (x1 : Int32) (m : wm) : Option (Int32 × wm) :=
  qf_X3_number_123 x1 (nI 1) m
noncomputable def qf_X3_number_122 (x1 : Int32) (m : wm) : Option (Int32 × wm) :=
  qf_X3_number_123 x1 (nI 0) m
noncomputable def qf_X3_number_79 (x1 : Int32) (m : wm) : Option (Int32 × wm) :=
  qn (m 0 7) fun z1 =>
  if z1 ≤ x1 then
    qf_X3_number_122 x1 m
  else
    qn (m 0 7) fun z3 =>
    qn (z3 - x1) fun z4 =>
    if (nI 4) ≤ z4 then
      qf_X3_number_122 x1 m
    else
      qg (vp_in x1 120) <|
      qn (m 4 x1.toNatClampNeg) fun z6 =>
      if z6 = (nI 48) then
        qn (m 0 7) fun z9 =>
        qn (z9 - x1) fun z10 =>
        if z10 = (nI 1) then
          qf_X3_number_118 x1 m
        else
          qf_X3_number_122 x1 m
      else
        qf_X3_number_118 x1 m
noncomputable def qf_X3_number_14 : Nat → Int32 → wm → Option (Int32 × wm)
  | 0, _, _ => none
  | n + 1, x1, m =>
  qn (m 0 7) fun z1 =>
  qb1 (qf_X3_isDigit z1 m) fun r2 =>
  if r2 = 0 then
    qf_X3_number_79 x1 m
  else
    qn (m 0 7) fun z5 =>
    qn (z5 - x1) fun z6 =>
    if (nI 3) ≤ z6 then
      qn (m 0 8) fun z8 =>
      qn (qw_u2 m 0 8 z8) fun m9 =>
      qn (m9 0 7) fun z10 =>
      qn (z10 + (nI 1)) fun z11 =>
      qn (qw_u2 m9 0 7 z11) fun m12 =>
      qf_X3_number_14 n x1 m12
    else
      qn (m 0 8) fun z13 =>
      qn ((nI 10) * z13) fun z14 =>
      qn (m 0 7) fun z15 =>
      qg (vp_in z15 120) <|
      qn (m 4 z15.toNatClampNeg) fun z16 =>
      qn (z14 + z16) fun z18 =>
      qn (z18 - (nI 48)) fun z19 =>
      qn (qw_u2 m 0 8 z19) fun m20 =>
      qn (m20 0 7) fun z21 =>
      qn (z21 + (nI 1)) fun z22 =>
      qn (qw_u2 m20 0 7 z22) fun m23 =>
      qf_X3_number_14 n x1 m23
noncomputable def qf_X3_number (m : wm) : Option (Int32 × wm) :=
  qb1 (qf_X3_skips m) fun m2 =>
  qn (m2 0 7) fun z3 =>
  qn (qw_u2 m2 0 8 (nI 0)) fun m4 =>
  qf_X3_number_14 qfu z3 m4
noncomputable def qf_X3_runsOne_186 (x1 : Int32) (y0 : Int32) (m : wm) : Option (Int32 × wm) :=
  qb1 (qf_X3_skips m) fun m2 =>
  if 0 ≤ y0 then
    some ((-9 : Int32), m2)
  else
    some (x1, m2)
noncomputable def qf_X3_runsOne_136 (x1 : Int32) (x2 : Int32) (x3 : Int32) (m : wm) : Option (Int32 × wm) :=
  if x2 = (nI 99) then
    qn (m 0 8) fun z13 =>
    qb2 (qf_X3_call x3 z13 m) fun r14 m16 =>
    qf_X3_runsOne_186 x1 r14 m16
  else
    if x2 = (nI 116) then
      qb2 (qf_X3_tail x3 m) fun r10 m12 =>
      qf_X3_runsOne_186 x1 r10 m12
    else
      if x2 = (nI 114) then
        qb2 (qf_X3_ret m) fun r7 m9 =>
        qf_X3_runsOne_186 x1 r7 m9
      else
        qb2 (qf_X3_raise x3 m) fun r4 m6 =>
        qf_X3_runsOne_186 x1 r4 m6
noncomputable def qf_X3_runsOne_69 (x1 : Int32) (x2 : Int32) (m : wm) : Option (Int32 × wm) :=
  qn (m 0 8) fun z1 =>
  if x2 = (nI 99) then
    qb1 (qf_X3_skips m) fun m4 =>
    qn (m4 0 7) fun z5 =>
    qn (m4 0 6) fun z6 =>
    if z5 = z6 then
      qn (m4 0 7) fun z8 =>
      some (z8, m4)
    else
      qn (m4 0 7) fun z9 =>
      qg (vp_in z9 120) <|
      qn (m4 4 z9.toNatClampNeg) fun z10 =>
      if z10 = (nI 64) then
        qn (m4 0 7) fun z13 =>
        qn (z13 + (nI 1)) fun z14 =>
        qn (qw_u2 m4 0 7 z14) fun m15 =>
        qb2 (qf_X3_number m15) fun r16 m18 =>
        if r16 = 0 then
          qn (m18 0 7) fun z20 =>
          some (z20, m18)
        else
          qf_X3_runsOne_136 x1 x2 z1 m18
      else
        qn (m4 0 7) fun z21 =>
        some (z21, m4)
  else
    qf_X3_runsOne_136 x1 x2 z1 m
noncomputable def qf_X3_runsOne_41 (x1 : Int32) (x2 : Int32) (m : wm) : Option (Int32 × wm) :=
  qn (m 0 7) fun z1 =>
  qn (z1 + (nI 1)) fun z2 =>
  qn (qw_u2 m 0 7 z2) fun m3 =>
  if x2 = (nI 114) then
    qf_X3_runsOne_69 x1 x2 m3
  else
    qb2 (qf_X3_number m3) fun r5 m7 =>
    if r5 = 0 then
      qn (m7 0 7) fun z9 =>
      some (z9, m7)
    else
      qf_X3_runsOne_69 x1 x2 m7
noncomputable def qf_X3_runsOne (m : wm) : Option (Int32 × wm) :=
  qn (m 0 7) fun z1 =>
  qn (m 0 7) fun z2 =>
  qg (vp_in z2 120) <|
  qn (m 4 z2.toNatClampNeg) fun z3 =>
  if z3 = (nI 99) then
    qf_X3_runsOne_41 z1 z3 m
  else
    if z3 = (nI 116) then
      qf_X3_runsOne_41 z1 z3 m
    else
      if z3 = (nI 114) then
        qf_X3_runsOne_41 z1 z3 m
      else
        if z3 = (nI 120) then
          qf_X3_runsOne_41 z1 z3 m
        else
          some (z1, m)
noncomputable def qf_X3_exchanges_2 : Nat → Int32 → wm → Option wm
  | 0, _, _ => none
  | n + 1, x1, m =>
  if (nI 935) ≤ x1 then
    some m
  else
    qg (vp_in x1 935) <|
    qn (m 1 x1.toNatClampNeg) fun z2 =>
    qg (vp_in x1 935) <|
    qn (m 3 x1.toNatClampNeg) fun z4 =>
    qg (vp_in x1 935) <|
    qn (qw_u2 m 1 x1.toNatClampNeg z4) fun m7 =>
    qg (vp_in x1 935) <|
    qn (qw_u2 m7 3 x1.toNatClampNeg z2) fun m9 =>
    qn (x1 + nI 1) fun z10 =>
    qf_X3_exchanges_2 n z10 m9
noncomputable def qf_X3_exchanges (m : wm) : Option wm :=
  qf_X3_exchanges_2 qfu (nI 0) m
noncomputable def qf_X3_run_74 (x1 : Int32) (x2 : Int32) (m : wm) : Option (Int32 × wm) :=
  qn (qw_u2 m 0 4 (nI 0)) fun m1 =>
  qb1 (qf_X3_exchanges m1) fun m3 =>
  if x2 = (-9 : Int32) then
    qb1 (qf_X3_acts m3) fun m6 =>
    qb1 (qf_X3_exchanges m6) fun m8 =>
    qn (qw_u2 m8 0 6 (nI 0)) fun m9 =>
    some (x1, m9)
  else
    qn ((-1000 : Int32) - x2) fun z10 =>
    some (z10, m3)
noncomputable def qf_X3_run_46 : Nat → Int32 → Int32 → wm → Option (Int32 × wm)
  | 0, _, _, _ => none
  | n + 1, x1, x2, m =>
  if x2 = (-9 : Int32) then
    qn (m 0 7) fun z2 =>
    qn (m 0 6) fun z3 =>
    if z3 ≤ z2 then
      qf_X3_run_74 x1 x2 m
    else
      qb2 (qf_X3_runsOne m) fun r5 m7 =>
      qn (x1 + nI 1) fun z8 =>
      qf_X3_run_46 n z8 r5 m7
  else
    qf_X3_run_74 x1 x2 m
noncomputable def qf_X3_run_27 (m : wm) : Option (Int32 × wm) :=
  qn (qw_u2 m 0 4 (nI 1)) fun m1 =>
  qn (qw_u2 m1 0 7 (nI 0)) fun m2 =>
  qb1 (qf_X3_skips m2) fun m4 =>
  qf_X3_run_46 qfu (nI 0) (-9 : Int32) m4
noncomputable def qf_X3_run_2 : Nat → Int32 → wm → Option (Int32 × wm)
  | 0, _, _ => none
  | n + 1, x1, m =>
  if (nI 935) ≤ x1 then
    qf_X3_run_27 m
  else
    qg (vp_in x1 935) <|
    qn (m 1 x1.toNatClampNeg) fun z2 =>
    qg (vp_in x1 935) <|
    qn (qw_u2 m 3 x1.toNatClampNeg z2) fun m5 =>
    qn (x1 + nI 1) fun z6 =>
    qf_X3_run_2 n z6 m5
noncomputable def qf_X3_run (m : wm) : Option (Int32 × wm) :=
  qf_X3_run_2 qfu (nI 0) m
noncomputable def qf_X3_overrun_4 : Nat → Int32 → Int32 → wm → Option Int32
  | 0, _, _, _ => none
  | n + 1, x1, x2, m =>
  qn (m 1 0) fun z1 =>
  if z1 ≤ x2 then
    some x1
  else
    qb1 (qf_X3_ofFrame x2 (nI 4) m) fun r3 =>
    if r3 = (-9 : Int32) then
      qn (x1 + (nI 0)) fun z6 =>
      qn (x2 + nI 1) fun z7 =>
      qf_X3_overrun_4 n z6 z7 m
    else
      qn (x1 + (nI 1)) fun z8 =>
      qn (x2 + nI 1) fun z9 =>
      qf_X3_overrun_4 n z8 z9 m
noncomputable def qf_X3_overrun (m : wm) : Option Int32 :=
  qf_X3_overrun_4 qfu (nI 0) (nI 0) m
noncomputable def qf_X3_count (x1 : Int32) (m : wm) : Option Int32 :=
  qb1 (qf_X3_in x1 (nI 0) (nI 14)) fun r1 =>
  if r1 = 0 then
    if x1 = (nI 15) then
      qn (m 0 3) fun z10 =>
      some z10
    else
      if x1 = (nI 16) then
        qn (m 0 6) fun z9 =>
        some z9
      else
        if x1 = (nI 17) then
          qb1 (qf_X3_overrun m) fun r7 =>
          some r7
        else
          some (-1 : Int32)
  else
    qg (vp_in x1 935) <|
    qn (m 1 x1.toNatClampNeg) fun z11 =>
    some z11
noncomputable def qf_X3_isFrame (x1 : Int32) (m : wm) : Option Int32 :=
  if x1 < 0 then
    some (nI 0)
  else
    qn (m 1 0) fun z2 =>
    if z2 ≤ x1 then
      some (nI 0)
    else
      some (nI 1)
noncomputable def qf_X3_frame (x1 : Int32) (x2 : Int32) (m : wm) : Option Int32 :=
  qb1 (qf_X3_isFrame x1 m) fun r1 =>
  if r1 = 0 then
    some (-1 : Int32)
  else
    qb1 (qf_X3_in x2 (nI 0) (nI 4)) fun r4 =>
    if r4 = 0 then
      some (-1 : Int32)
    else
      qn (m 1 0) fun z7 =>
      qn (z7 - (nI 1)) fun z8 =>
      qn (z8 - x1) fun z9 =>
      qb1 (qf_X3_ofFrame z9 x2 m) fun r10 =>
      some r10
noncomputable def qf_X3_slot (x1 : Int32) (x2 : Int32) (m : wm) : Option Int32 :=
  if x1 < 0 then
    some (-1 : Int32)
  else
    qn (m 1 11) fun z2 =>
    if z2 ≤ x1 then
      some (-1 : Int32)
    else
      qb1 (qf_X3_in x2 (nI 0) (nI 2)) fun r4 =>
      if r4 = 0 then
        some (-1 : Int32)
      else
        qb1 (qf_X3_ofSlot x1 x2 m) fun r7 =>
        some r7
noncomputable def qf_X3_confession (x1 : Int32) (x2 : Int32) (m : wm) : Option Int32 :=
  if x1 < 0 then
    some (-1 : Int32)
  else
    qb1 (qf_X3_in x2 (nI 0) (nI 5)) fun r2 =>
    if r2 = 0 then
      some (-1 : Int32)
    else
      qn (m 1 10) fun z5 =>
      if z5 ≤ x1 then
        some (-9 : Int32)
      else
        qn (m 1 10) fun z7 =>
        qn (z7 - (nI 1)) fun z8 =>
        qn (z8 - x1) fun z9 =>
        qn ((nI 6) * z9) fun z10 =>
        qn ((nI 263) + z10) fun z11 =>
        qn (z11 + x2) fun z12 =>
        qg (vp_in z12 935) <|
        qn (m 1 z12.toNatClampNeg) fun z13 =>
        some z13
noncomputable def qf_X3_named (x1 : Int32) (m : wm) : Option Int32 :=
  if x1 < 0 then
    some (-1 : Int32)
  else
    qn (m 1 2) fun z2 =>
    if z2 ≤ x1 then
      some (-1 : Int32)
    else
      qn ((nI 735) + x1) fun z4 =>
      qg (vp_in z4 935) <|
      qn (m 1 z4.toNatClampNeg) fun z5 =>
      some z5
noncomputable def qf_X3_worst_7 : Nat → Int32 → Int32 → Int32 → wm → Option Int32
  | 0, _, _, _, _ => none
  | n + 1, x1, x2, x3, m =>
  qn (m 1 2) fun z1 =>
  if z1 ≤ x3 then
    some x1
  else
    qn ((nI 735) + x3) fun z3 =>
    qg (vp_in z3 935) <|
    qn (m 1 z3.toNatClampNeg) fun z4 =>
    if z4 ≤ x2 then
      qn ((nI 735) + x3) fun z7 =>
      qg (vp_in z7 935) <|
      qn (m 1 z7.toNatClampNeg) fun z8 =>
      if z8 ≤ x2 then
        qn (x3 + nI 1) fun z11 =>
        qf_X3_worst_7 n x1 x2 z11 m
      else
        qn ((nI 735) + x3) fun z12 =>
        qg (vp_in z12 935) <|
        qn (m 1 z12.toNatClampNeg) fun z13 =>
        qn (x3 + nI 1) fun z15 =>
        qf_X3_worst_7 n x1 z13 z15 m
    else
      qn ((nI 735) + x3) fun z16 =>
      qg (vp_in z16 935) <|
      qn (m 1 z16.toNatClampNeg) fun z17 =>
      if z17 ≤ x2 then
        qn (x3 + nI 1) fun z20 =>
        qf_X3_worst_7 n x3 x2 z20 m
      else
        qn ((nI 735) + x3) fun z21 =>
        qg (vp_in z21 935) <|
        qn (m 1 z21.toNatClampNeg) fun z22 =>
        qn (x3 + nI 1) fun z24 =>
        qf_X3_worst_7 n x3 z22 z24 m
noncomputable def qf_X3_worst (m : wm) : Option Int32 :=
  qf_X3_worst_7 qfu (-9 : Int32) (nI 0) (nI 0) m
noncomputable def qf_X3_ahead_102 (x1 : Int32) (x2 : Int32) (x3 : Int32) (m : wm) : Option Int32 :=
  if x2 = 0 then
    some x3
  else
    qn (x1 - x3) fun z2 =>
    some z2
noncomputable def qf_X3_ahead_39 : Nat → Int32 → Int32 → Int32 → Int32 → wm → Option Int32
  | 0, _, _, _, _, _ => none
  | n + 1, x1, x2, x3, x4, m =>
  if x1 ≤ x4 then
    qf_X3_ahead_102 x1 x2 x3 m
  else
    qn (m 1 12) fun z2 =>
    qn (m 1 11) fun z3 =>
    qb1 (qf_X3_back z2 x4 z3) fun r4 =>
    qb1 (qf_X3_ofSlot r4 (nI 1) m) fun r6 =>
    qn (m 1 0) fun z8 =>
    qn (z8 - (nI 1)) fun z9 =>
    qn (z9 - x4) fun z10 =>
    qb1 (qf_X3_ofFrame z10 (nI 2) m) fun r11 =>
    if r6 = r11 then
      qn (x3 + (nI 1)) fun z16 =>
      qn (x4 + nI 1) fun z17 =>
      qf_X3_ahead_39 n x1 x2 z16 z17 m
    else
      qn (x3 + (nI 0)) fun z14 =>
      qn (x4 + nI 1) fun z15 =>
      qf_X3_ahead_39 n x1 x2 z14 z15 m
noncomputable def qf_X3_ahead (x1 : Int32) (x2 : Int32) (m : wm) : Option Int32 :=
  qb1 (qf_X3_in x1 (nI 1) (nI 40)) fun r1 =>
  if r1 = 0 then
    some (-1 : Int32)
  else
    qb1 (qf_X3_in x2 (nI 0) (nI 1)) fun r4 =>
    if r4 = 0 then
      some (-1 : Int32)
    else
      qn (m 1 0) fun z7 =>
      if x1 ≤ z7 then
        qf_X3_ahead_39 qfu x1 x2 (nI 0) (nI 0) m
      else
        some (-2 : Int32)
noncomputable def qf_X3_misses_34 : Nat → Int32 → Int32 → Int32 → Int32 → Int32 → wm → Option (Int32 × wm)
  | 0, _, _, _, _, _, _ => none
  | n + 1, x1, x2, x3, x4, x5, m =>
  qn (m 1 1) fun z1 =>
  if z1 ≤ x5 then
    some (x4, m)
  else
    qn ((nI 2) * x5) fun z3 =>
    qn ((nI 335) + z3) fun z4 =>
    qg (vp_in z4 935) <|
    qn (m 1 z4.toNatClampNeg) fun z5 =>
    qn ((nI 2) * x5) fun z7 =>
    qn ((nI 335) + z7) fun z8 =>
    qn (z8 + (nI 1)) fun z9 =>
    qg (vp_in z9 935) <|
    qn (m 1 z9.toNatClampNeg) fun z10 =>
    if z5 = 0 then
      qn (x2 + (nI 1)) fun z37 =>
      qg (¬ x1 = 0) <|
      qn (z37 - z37 / x1 * x1) fun z38 =>
      qg (vp_in z38 16) <|
      qn (qw_u2 m 5 z38.toNatClampNeg z10) fun m41 =>
      qg (vp_in x3 40) <|
      qn (qw_u2 m41 6 x3.toNatClampNeg z10) fun m43 =>
      qn (x3 + nI 1) fun z44 =>
      qn (x5 + nI 1) fun z45 =>
      qf_X3_misses_34 n x1 z38 z44 x4 z45 m43
    else
      if z5 = (nI 2) then
        qn (x3 + (-1)) fun z23 =>
        qg (vp_in x2 16) <|
        qn (m 5 x2.toNatClampNeg) fun z24 =>
        qg (vp_in z23 40) <|
        qn (m 6 z23.toNatClampNeg) fun z26 =>
        if z24 = z26 then
          qn (x4 + (nI 0)) fun z33 =>
          qb1 (qf_X3_back x2 (nI 1) x1) fun r34 =>
          qn (x5 + nI 1) fun z36 =>
          qf_X3_misses_34 n x1 r34 z23 z33 z36 m
        else
          qn (x4 + (nI 1)) fun z29 =>
          qb1 (qf_X3_back x2 (nI 1) x1) fun r30 =>
          qn (x5 + nI 1) fun z32 =>
          qf_X3_misses_34 n x1 r30 z23 z29 z32 m
      else
        if z5 = (nI 3) then
          qn (x3 - z10) fun z16 =>
          qn (m 1 14) fun z17 =>
          if z17 = (nI 1) then
            qb1 (qf_X3_back x2 z10 x1) fun r20 =>
            qn (x5 + nI 1) fun z22 =>
            qf_X3_misses_34 n x1 r20 z16 x4 z22 m
          else
            qn (x5 + nI 1) fun z19 =>
            qf_X3_misses_34 n x1 x2 z16 x4 z19 m
        else
          qn (x5 + nI 1) fun z15 =>
          qf_X3_misses_34 n x1 x2 x3 x4 z15 m
noncomputable def qf_X3_misses_22 (x1 : Int32) (m : wm) : Option (Int32 × wm) :=
  qn (x1 - (nI 1)) fun z1 =>
  qf_X3_misses_34 qfu x1 z1 (nI 0) (nI 0) (nI 0) m
noncomputable def qf_X3_misses_2 : Nat → Int32 → Int32 → wm → Option (Int32 × wm)
  | 0, _, _, _ => none
  | n + 1, x1, x2, m =>
  if (nI 16) ≤ x2 then
    qf_X3_misses_22 x1 m
  else
    qg (vp_in x2 16) <|
    qn (qw_u2 m 5 x2.toNatClampNeg (-9 : Int32)) fun m3 =>
    qn (x2 + nI 1) fun z4 =>
    qf_X3_misses_2 n x1 z4 m3
noncomputable def qf_X3_misses (x1 : Int32) (m : wm) : Option (Int32 × wm) :=
  qf_X3_misses_2 qfu x1 (nI 0) m
noncomputable def qf_X3_missesWith (x1 : Int32) (m : wm) : Option (Int32 × wm) :=
  qb1 (qf_X3_in x1 (nI 2) (nI 16)) fun r1 =>
  if r1 = 0 then
    some ((-1 : Int32), m)
  else
    qb2 (qf_X3_misses x1 m) fun r4 m6 =>
    some (r4, m6)
noncomputable def qf_X3_bestSize_4 : Nat → Int32 → Int32 → wm → Option (Int32 × wm)
  | 0, _, _, _ => none
  | n + 1, x1, x2, m =>
  if (nI 16) < x2 then
    some (x1, m)
  else
    qb2 (qf_X3_misses x2 m) fun r2 m4 =>
    qb2 (qf_X3_misses x1 m4) fun r5 m7 =>
    if r5 ≤ r2 then
      qn (x2 + nI 1) fun z9 =>
      qf_X3_bestSize_4 n x1 z9 m7
    else
      qn (x2 + nI 1) fun z10 =>
      qf_X3_bestSize_4 n x2 z10 m7
noncomputable def qf_X3_bestSize (m : wm) : Option (Int32 × wm) :=
  qf_X3_bestSize_4 qfu (nI 2) (nI 3) m
noncomputable def qf_X3_callsUntil (x1 : Int32) (m : wm) : Option Int32 :=
  qb1 (qf_X3_isFrame x1 m) fun r1 =>
  if r1 = 0 then
    some (-1 : Int32)
  else
    qn (m 1 0) fun z4 =>
    qn (z4 - (nI 1)) fun z5 =>
    qn (z5 - x1) fun z6 =>
    qb1 (qf_X3_ofFrame z6 (nI 4) m) fun r7 =>
    if r7 = (-9 : Int32) then
      qb1 (qf_X3_ofFrame z6 (nI 3) m) fun r10 =>
      qn (m 1 12) fun z12 =>
      qn (r10 - z12) fun z13 =>
      qn (m 1 11) fun z14 =>
      qn (z13 + z14) fun z15 =>
      qn (m 1 11) fun z16 =>
      qg (¬ z16 = 0) <|
      qn (z15 - z15 / z16 * z16) fun z17 =>
      if z17 = 0 then
        qn (m 1 11) fun z20 =>
        some z20
      else
        some z17
    else
      some (nI 0)
