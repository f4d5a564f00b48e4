def fn_P_halt (xrn : Int32) (xca : Int32) (j1 : Int32) : Option (Int32 × Int32) :=
  some ((0 : Int32), j1)
def fn_P_resume (xrn : Int32) (xps : Int32) : Option (Int32 × Int32) :=
  some ((1 : Int32), (1 : Int32))
def fn_P_setTrap (xpt : (Nat → Int32)) (j1 : Int32) (j2 : Int32) : Option ((Nat → Int32)) :=
  if (j2 &&& (192 : Int32)) = (192 : Int32) then
    ck j1 2 <|
      some (upd xpt (Int32.toNatClampNeg j1) (j2 &&& (63 : Int32)))
  else
    ck j1 2 <|
      some (upd xpt (Int32.toNatClampNeg j1) (j2 &&& (255 : Int32)))
def fn_P_status (xpc : Int32) (xrn : Int32) (xca : Int32) : Option (Int32) :=
  if xrn = (0 : Int32) then
    some (((1 : Int32) ||| (xca <<< ((1 : Int32) &&& (31 : Int32)))) ||| (xpc <<< ((4 : Int32) &&& (31 : Int32))))
  else
    some (((0 : Int32) ||| (xca <<< ((1 : Int32) &&& (31 : Int32)))) ||| (xpc <<< ((4 : Int32) &&& (31 : Int32))))
def fn_P_isTrapped_J67 (rc : (Nat → Int32) → (Nat → Int32) → Int32 → Int32 → Int32 → Int32 → Int32 → Option (Int32)) (xpr : (Nat → Int32)) (xpt : (Nat → Int32)) (xpc : Int32) (xps : Int32) (z2 : Int32) (z3 : Int32) (z4 : Int32) : Option (Int32) :=
  if z3 = (0 : Int32) then
    rc xpr xpt xpc xps z2 z3 (z4 + (1 : Int32))
  else
    ck z4 2 <|
      if (xpt (Int32.toNatClampNeg z4)) = ((128 : Int32) + z2) then
        some (1 : Int32)
      else
        rc xpr xpt xpc xps z2 z3 (z4 + (1 : Int32))
def fn_P_isTrapped_B35 (rc : (Nat → Int32) → (Nat → Int32) → Int32 → Int32 → Int32 → Int32 → Int32 → Option (Int32)) (xpr : (Nat → Int32)) (xpt : (Nat → Int32)) (xpc : Int32) (xps : Int32) (z2 : Int32) (z3 : Int32) (z4 : Int32) : Option (Int32) :=
  if (2 : Int32) ≤ z4 then
    some (0 : Int32)
  else
    if xps = (0 : Int32) then
      ck z4 2 <|
        if (xpt (Int32.toNatClampNeg z4)) = ((64 : Int32) + xpc) then
          some (1 : Int32)
        else
          fn_P_isTrapped_J67 rc xpr xpt xpc xps z2 z3 z4
    else
      fn_P_isTrapped_J67 rc xpr xpt xpc xps z2 z3 z4
def fn_P_isTrapped_L35 : Nat → (Nat → Int32) → (Nat → Int32) → Int32 → Int32 → Int32 → Int32 → Int32 → Option (Int32)
  | 0 => fun _ _ _ _ _ _ _ => none
  | n + 1 => fn_P_isTrapped_B35 (fn_P_isTrapped_L35 n)
theorem fn_P_isTrapped_S35 (n : Nat) : fn_P_isTrapped_L35 (n + 1) = fn_P_isTrapped_B35 (fn_P_isTrapped_L35 n) := rfl
def fn_P_isTrapped (xpr : (Nat → Int32)) (xpt : (Nat → Int32)) (xpc : Int32) (xps : Int32) (j1 : Int32) : Option (Int32) :=
  ck ((j1 >>> ((6 : Int32) &&& (31 : Int32))) &&& (7 : Int32)) 8 <|
    if (j1 >>> ((12 : Int32) &&& (31 : Int32))) = (5 : Int32) then
      fn_P_isTrapped_L35 64 xpr xpt xpc xps (((xpr (Int32.toNatClampNeg ((j1 >>> ((6 : Int32) &&& (31 : Int32))) &&& (7 : Int32)))) + j1) &&& (63 : Int32)) (1 : Int32) (0 : Int32)
    else
      fn_P_isTrapped_L35 64 xpr xpt xpc xps (((xpr (Int32.toNatClampNeg ((j1 >>> ((6 : Int32) &&& (31 : Int32))) &&& (7 : Int32)))) + j1) &&& (63 : Int32)) (0 : Int32) (0 : Int32)
def fn_P_isJump (j0 : Int32) : Option (Int32) :=
  if (j0 >>> ((12 : Int32) &&& (31 : Int32))) < (6 : Int32) then
    some (0 : Int32)
  else
    if (9 : Int32) < (j0 >>> ((12 : Int32) &&& (31 : Int32))) then
      some (0 : Int32)
    else
      some (1 : Int32)
def fn_P_perform (xpr : (Nat → Int32)) (xpw : (Nat → Int32)) (j1 : Int32) : Option ((Nat → Int32) × (Nat → Int32)) :=
  ck ((j1 >>> ((6 : Int32) &&& (31 : Int32))) &&& (7 : Int32)) 8 <|
    if (j1 >>> ((12 : Int32) &&& (31 : Int32))) = (1 : Int32) then
      ck ((j1 >>> ((9 : Int32) &&& (31 : Int32))) &&& (7 : Int32)) 8 <|
        some ((upd xpr (Int32.toNatClampNeg ((j1 >>> ((9 : Int32) &&& (31 : Int32))) &&& (7 : Int32))) (j1 &&& (63 : Int32))), xpw)
    else
      if (j1 >>> ((12 : Int32) &&& (31 : Int32))) = (2 : Int32) then
        ck ((j1 >>> ((9 : Int32) &&& (31 : Int32))) &&& (7 : Int32)) 8 <|
          ck ((j1 >>> ((6 : Int32) &&& (31 : Int32))) &&& (7 : Int32)) 8 <|
            ck ((j1 >>> ((9 : Int32) &&& (31 : Int32))) &&& (7 : Int32)) 8 <|
              some ((upd xpr (Int32.toNatClampNeg ((j1 >>> ((9 : Int32) &&& (31 : Int32))) &&& (7 : Int32))) (((xpr (Int32.toNatClampNeg ((j1 >>> ((9 : Int32) &&& (31 : Int32))) &&& (7 : Int32)))) + (xpr (Int32.toNatClampNeg ((j1 >>> ((6 : Int32) &&& (31 : Int32))) &&& (7 : Int32))))) &&& (65535 : Int32))), xpw)
      else
        if (j1 >>> ((12 : Int32) &&& (31 : Int32))) = (3 : Int32) then
          ck ((j1 >>> ((9 : Int32) &&& (31 : Int32))) &&& (7 : Int32)) 8 <|
            ck ((j1 >>> ((6 : Int32) &&& (31 : Int32))) &&& (7 : Int32)) 8 <|
              ck ((j1 >>> ((9 : Int32) &&& (31 : Int32))) &&& (7 : Int32)) 8 <|
                some ((upd xpr (Int32.toNatClampNeg ((j1 >>> ((9 : Int32) &&& (31 : Int32))) &&& (7 : Int32))) (((xpr (Int32.toNatClampNeg ((j1 >>> ((9 : Int32) &&& (31 : Int32))) &&& (7 : Int32)))) - (xpr (Int32.toNatClampNeg ((j1 >>> ((6 : Int32) &&& (31 : Int32))) &&& (7 : Int32))))) &&& (65535 : Int32))), xpw)
        else
          if (j1 >>> ((12 : Int32) &&& (31 : Int32))) = (4 : Int32) then
            ck (((xpr (Int32.toNatClampNeg ((j1 >>> ((6 : Int32) &&& (31 : Int32))) &&& (7 : Int32)))) + (j1 &&& (63 : Int32))) &&& (63 : Int32)) 64 <|
              ck ((j1 >>> ((9 : Int32) &&& (31 : Int32))) &&& (7 : Int32)) 8 <|
                some ((upd xpr (Int32.toNatClampNeg ((j1 >>> ((9 : Int32) &&& (31 : Int32))) &&& (7 : Int32))) (xpw (Int32.toNatClampNeg (((xpr (Int32.toNatClampNeg ((j1 >>> ((6 : Int32) &&& (31 : Int32))) &&& (7 : Int32)))) + (j1 &&& (63 : Int32))) &&& (63 : Int32))))), xpw)
          else
            if (j1 >>> ((12 : Int32) &&& (31 : Int32))) = (5 : Int32) then
              ck ((j1 >>> ((9 : Int32) &&& (31 : Int32))) &&& (7 : Int32)) 8 <|
                ck (((xpr (Int32.toNatClampNeg ((j1 >>> ((6 : Int32) &&& (31 : Int32))) &&& (7 : Int32)))) + (j1 &&& (63 : Int32))) &&& (63 : Int32)) 64 <|
                  some (xpr, (upd xpw (Int32.toNatClampNeg (((xpr (Int32.toNatClampNeg ((j1 >>> ((6 : Int32) &&& (31 : Int32))) &&& (7 : Int32)))) + (j1 &&& (63 : Int32))) &&& (63 : Int32))) (xpr (Int32.toNatClampNeg ((j1 >>> ((9 : Int32) &&& (31 : Int32))) &&& (7 : Int32))))))
            else
              some (xpr, xpw)
def fn_P_jump (xpr : (Nat → Int32)) (xpc : Int32) (j1 : Int32) : Option ((Nat → Int32) × Int32) :=
  if (j1 >>> ((12 : Int32) &&& (31 : Int32))) = (6 : Int32) then
    some (xpr, (j1 &&& (63 : Int32)))
  else
    if (j1 >>> ((12 : Int32) &&& (31 : Int32))) = (7 : Int32) then
      ck ((j1 >>> ((9 : Int32) &&& (31 : Int32))) &&& (7 : Int32)) 8 <|
        if (xpr (Int32.toNatClampNeg ((j1 >>> ((9 : Int32) &&& (31 : Int32))) &&& (7 : Int32)))) = (0 : Int32) then
          some (xpr, (j1 &&& (63 : Int32)))
        else
          some (xpr, xpc)
    else
      if (j1 >>> ((12 : Int32) &&& (31 : Int32))) = (8 : Int32) then
        ck ((j1 >>> ((9 : Int32) &&& (31 : Int32))) &&& (7 : Int32)) 8 <|
          ck ((j1 >>> ((6 : Int32) &&& (31 : Int32))) &&& (7 : Int32)) 8 <|
            if (xpr (Int32.toNatClampNeg ((j1 >>> ((6 : Int32) &&& (31 : Int32))) &&& (7 : Int32)))) ≤ (xpr (Int32.toNatClampNeg ((j1 >>> ((9 : Int32) &&& (31 : Int32))) &&& (7 : Int32)))) then
              some (xpr, xpc)
            else
              some (xpr, (j1 &&& (63 : Int32)))
      else
        if (j1 >>> ((12 : Int32) &&& (31 : Int32))) = (9 : Int32) then
          ck ((j1 >>> ((6 : Int32) &&& (31 : Int32))) &&& (7 : Int32)) 8 <|
            ck ((j1 >>> ((9 : Int32) &&& (31 : Int32))) &&& (7 : Int32)) 8 <|
              some ((upd xpr (Int32.toNatClampNeg ((j1 >>> ((9 : Int32) &&& (31 : Int32))) &&& (7 : Int32))) xpc), ((xpr (Int32.toNatClampNeg ((j1 >>> ((6 : Int32) &&& (31 : Int32))) &&& (7 : Int32)))) &&& (63 : Int32)))
        else
          some (xpr, xpc)
def fn_P_advance_J32 (xpr : (Nat → Int32)) (xpw : (Nat → Int32)) (xpt : (Nat → Int32)) (xpc : Int32) (xrn : Int32) (xca : Int32) (xst : Int32) (xps : Int32) (z1 : Int32) : Option (Int32 × (Nat → Int32) × (Nat → Int32) × Int32 × Int32 × Int32 × Int32 × Int32) :=
  if (z1 >>> ((12 : Int32) &&& (31 : Int32))) = (10 : Int32) then
    (fn_P_halt xrn xca (1 : Int32)).bind fun v43 =>
      some ((0 : Int32), xpr, xpw, xpc, v43.1, v43.2, xst, xps)
  else
    (fn_P_isJump z1).bind fun v62 =>
      if v62 = (0 : Int32) then
        (fn_P_perform xpr xpw z1).bind fun v78 =>
          some ((1 : Int32), v78.1, v78.2, ((xpc + (1 : Int32)) &&& (63 : Int32)), xrn, xca, (xst + (1 : Int32)), xps)
      else
        (fn_P_jump xpr ((xpc + (1 : Int32)) &&& (63 : Int32)) z1).bind fun v70 =>
          some ((1 : Int32), v70.1, xpw, v70.2, xrn, xca, (xst + (1 : Int32)), xps)
def fn_P_advance (xpr : (Nat → Int32)) (xpw : (Nat → Int32)) (xpt : (Nat → Int32)) (xpc : Int32) (xrn : Int32) (xca : Int32) (xst : Int32) (xps : Int32) : Option (Int32 × (Nat → Int32) × (Nat → Int32) × Int32 × Int32 × Int32 × Int32 × Int32) :=
  ck xpc 64 <|
    (fn_P_isTrapped xpr xpt xpc xps (xpw (Int32.toNatClampNeg xpc))).bind fun v12 =>
      if v12 = (0 : Int32) then
        fn_P_advance_J32 xpr xpw xpt xpc xrn xca xst (0 : Int32) (xpw (Int32.toNatClampNeg xpc))
      else
        (fn_P_halt xrn xca (2 : Int32)).bind fun v27 =>
          some ((0 : Int32), xpr, xpw, xpc, v27.1, v27.2, xst, (0 : Int32))
def fn_B_hasRegister (j0 : Int32) : Option (Int32) :=
  if j0 < (0 : Int32) then
    some (0 : Int32)
  else
    if (16 : Int32) ≤ j0 then
      some (0 : Int32)
    else
      some (1 : Int32)
def fn_B_passAddress (xbx : Int32) : Option (Int32 × Int32) :=
  some (xbx, ((xbx + (1 : Int32)) &&& (63 : Int32)))
def fn_B_control_J42 (xbs : Int32) (xpr : (Nat → Int32)) (xpw : (Nat → Int32)) (xpt : (Nat → Int32)) (xpc : Int32) (xrn : Int32) (xca : Int32) (xst : Int32) (xps : Int32) (z1 : Int32) : Option (Int32 × (Nat → Int32) × (Nat → Int32) × Int32 × Int32 × Int32 × Int32 × Int32) :=
  if (z1 &&& (2 : Int32)) = (0 : Int32) then
    some (xbs, xpr, xpw, xpc, xrn, xca, xst, xps)
  else
    if xrn = (0 : Int32) then
      (fn_P_resume xrn xps).bind fun v62 =>
        if xbs = (0 : Int32) then
          some (xbs, xpr, xpw, xpc, v62.1, xca, xst, v62.2)
        else
          (fn_P_advance xpr xpw xpt xpc v62.1 xca xst v62.2).bind fun v76 =>
            if v76.1 = (0 : Int32) then
              some (xbs, v76.2.1, v76.2.2.1, v76.2.2.2.1, v76.2.2.2.2.1, v76.2.2.2.2.2.1, v76.2.2.2.2.2.2.1, v76.2.2.2.2.2.2.2)
            else
              (fn_P_halt v76.2.2.2.2.1 v76.2.2.2.2.2.1 (4 : Int32)).bind fun v87 =>
                some (xbs, v76.2.1, v76.2.2.1, v76.2.2.2.1, v87.1, v87.2, v76.2.2.2.2.2.2.1, v76.2.2.2.2.2.2.2)
    else
      some (xbs, xpr, xpw, xpc, xrn, xca, xst, xps)
def fn_B_control_J12 (xbs : Int32) (xpr : (Nat → Int32)) (xpw : (Nat → Int32)) (xpt : (Nat → Int32)) (xpc : Int32) (xrn : Int32) (xca : Int32) (xst : Int32) (xps : Int32) (z1 : Int32) (w1 : Int32) : Option (Int32 × (Nat → Int32) × (Nat → Int32) × Int32 × Int32 × Int32 × Int32 × Int32) :=
  ckb w1 <|
    if (z1 &&& (1 : Int32)) = (0 : Int32) then
      fn_B_control_J42 w1 xpr xpw xpt xpc xrn xca xst xps z1
    else
      if xrn = (0 : Int32) then
        fn_B_control_J42 w1 xpr xpw xpt xpc xrn xca xst xps z1
      else
        (fn_P_halt xrn xca (3 : Int32)).bind fun v36 =>
          some (w1, xpr, xpw, xpc, v36.1, v36.2, xst, xps)
def fn_B_control (xbs : Int32) (xpr : (Nat → Int32)) (xpw : (Nat → Int32)) (xpt : (Nat → Int32)) (xpc : Int32) (xrn : Int32) (xca : Int32) (xst : Int32) (xps : Int32) (j1 : Int32) : Option (Int32 × (Nat → Int32) × (Nat → Int32) × Int32 × Int32 × Int32 × Int32 × Int32) :=
  if (j1 &&& (4 : Int32)) = (0 : Int32) then
    fn_B_control_J12 xbs xpr xpw xpt xpc xrn xca xst xps j1 (0 : Int32)
  else
    fn_B_control_J12 xbs xpr xpw xpt xpc xrn xca xst xps j1 (1 : Int32)
def fn_B_doProgram_B2 (rc : (Nat → Int32) → Int32 → (Nat → Int32) → (Nat → Int32) → Int32 → Option (Int32 × (Nat → Int32) × (Nat → Int32))) (xba : (Nat → Int32)) (xbe : Int32) (xpr : (Nat → Int32)) (xpw : (Nat → Int32)) (z1 : Int32) : Option (Int32 × (Nat → Int32) × (Nat → Int32)) :=
  if (4 : Int32) ≤ z1 then
    some (xbe, xpr, xpw)
  else
    ck z1 4 <|
      if ((xba (Int32.toNatClampNeg z1)) >>> ((12 : Int32) &&& (31 : Int32))) = (10 : Int32) then
        some (xbe, xpr, xpw)
      else
        (fn_P_isJump (xba (Int32.toNatClampNeg z1))).bind fun v29 =>
          if v29 = (0 : Int32) then
            (fn_P_perform xpr xpw (xba (Int32.toNatClampNeg z1))).bind fun v46 =>
              rc xba xbe v46.1 v46.2 (z1 + (1 : Int32))
          else
            some ((3 : Int32), xpr, xpw)
def fn_B_doProgram_L2 : Nat → (Nat → Int32) → Int32 → (Nat → Int32) → (Nat → Int32) → Int32 → Option (Int32 × (Nat → Int32) × (Nat → Int32))
  | 0 => fun _ _ _ _ _ => none
  | n + 1 => fn_B_doProgram_B2 (fn_B_doProgram_L2 n)
theorem fn_B_doProgram_S2 (n : Nat) : fn_B_doProgram_L2 (n + 1) = fn_B_doProgram_B2 (fn_B_doProgram_L2 n) := rfl
def fn_B_doProgram (xba : (Nat → Int32)) (xbe : Int32) (xpr : (Nat → Int32)) (xpw : (Nat → Int32)) : Option (Int32 × (Nat → Int32) × (Nat → Int32)) :=
  fn_B_doProgram_L2 64 xba xbe xpr xpw (0 : Int32)
def fn_B_command (xba : (Nat → Int32)) (xbd : Int32) (xbe : Int32) (xpr : (Nat → Int32)) (xpw : (Nat → Int32)) (xpc : Int32) (xrn : Int32) (j1 : Int32) : Option (Int32 × Int32 × (Nat → Int32) × (Nat → Int32) × Int32) :=
  if xbe = (0 : Int32) then
    if xrn = (0 : Int32) then
      if ((j1 >>> ((8 : Int32) &&& (31 : Int32))) &&& (7 : Int32)) = (0 : Int32) then
        ck (j1 &&& (7 : Int32)) 8 <|
          some ((xpr (Int32.toNatClampNeg (j1 &&& (7 : Int32)))), xbe, xpr, xpw, xpc)
      else
        if ((j1 >>> ((8 : Int32) &&& (31 : Int32))) &&& (7 : Int32)) = (1 : Int32) then
          ck (j1 &&& (7 : Int32)) 8 <|
            some (xbd, xbe, (upd xpr (Int32.toNatClampNeg (j1 &&& (7 : Int32))) xbd), xpw, xpc)
        else
          if ((j1 >>> ((8 : Int32) &&& (31 : Int32))) &&& (7 : Int32)) = (2 : Int32) then
            some (xpc, xbe, xpr, xpw, xpc)
          else
            if ((j1 >>> ((8 : Int32) &&& (31 : Int32))) &&& (7 : Int32)) = (3 : Int32) then
              some (xbd, xbe, xpr, xpw, (xbd &&& (63 : Int32)))
            else
              if ((j1 >>> ((8 : Int32) &&& (31 : Int32))) &&& (7 : Int32)) = (4 : Int32) then
                (fn_B_doProgram xba xbe xpr xpw).bind fun v134 =>
                  some (xbd, v134.1, v134.2.1, v134.2.2, xpc)
              else
                some (xbd, (2 : Int32), xpr, xpw, xpc)
    else
      some (xbd, (1 : Int32), xpr, xpw, xpc)
  else
    some (xbd, xbe, xpr, xpw, xpc)
def fn_B_fetch_J45 (xba : (Nat → Int32)) (xbs : Int32) (xbd : Int32) (xbe : Int32) (xbx : Int32) (xpw : (Nat → Int32)) (xpt : (Nat → Int32)) (xpc : Int32) (xrn : Int32) (xca : Int32) (z1 : Int32) : Option (Int32 × Int32) :=
  if z1 = (0 : Int32) then
    if xbs = (0 : Int32) then
      some ((0 : Int32), xbx)
    else
      some ((4 : Int32), xbx)
  else
    if z1 = (1 : Int32) then
      (fn_P_status xpc xrn xca).bind fun v133 =>
        some (v133, xbx)
    else
      if z1 = (2 : Int32) then
        some (xbd, xbx)
      else
        if z1 = (3 : Int32) then
          some ((0 : Int32), xbx)
        else
          if z1 = (4 : Int32) then
            some (xbe, xbx)
          else
            if z1 = (5 : Int32) then
              some ((0 : Int32), xbx)
            else
              if z1 = (6 : Int32) then
                some ((0 : Int32), xbx)
              else
                if z1 = (7 : Int32) then
                  some ((0 : Int32), xbx)
                else
                  if z1 = (8 : Int32) then
                    some ((0 : Int32), xbx)
                  else
                    if z1 = (9 : Int32) then
                      some (xbx, xbx)
                    else
                      if z1 = (10 : Int32) then
                        (fn_B_passAddress xbx).bind fun v160 =>
                          ck v160.1 64 <|
                            some ((xpw (Int32.toNatClampNeg v160.1)), v160.2)
                      else
                        if z1 = (11 : Int32) then
                          some ((0 : Int32), xbx)
                        else
                          if z1 = (12 : Int32) then
                            some ((0 : Int32), xbx)
                          else
                            if z1 = (13 : Int32) then
                              some ((23130 : Int32), xbx)
                            else
                              some ((0 : Int32), xbx)
def fn_B_fetch (xba : (Nat → Int32)) (xbs : Int32) (xbd : Int32) (xbe : Int32) (xbx : Int32) (xpw : (Nat → Int32)) (xpt : (Nat → Int32)) (xpc : Int32) (xrn : Int32) (xca : Int32) (j1 : Int32) : Option (Int32 × Int32) :=
  if j1 < (5 : Int32) then
    if j1 < (11 : Int32) then
      fn_B_fetch_J45 xba xbs xbd xbe xbx xpw xpt xpc xrn xca j1
    else
      if (12 : Int32) < j1 then
        fn_B_fetch_J45 xba xbs xbd xbe xbx xpw xpt xpc xrn xca j1
      else
        ck (j1 - (11 : Int32)) 2 <|
          some ((xpt (Int32.toNatClampNeg (j1 - (11 : Int32)))), xbx)
  else
    if (8 : Int32) < j1 then
      if j1 < (11 : Int32) then
        fn_B_fetch_J45 xba xbs xbd xbe xbx xpw xpt xpc xrn xca j1
      else
        if (12 : Int32) < j1 then
          fn_B_fetch_J45 xba xbs xbd xbe xbx xpw xpt xpc xrn xca j1
        else
          ck (j1 - (11 : Int32)) 2 <|
            some ((xpt (Int32.toNatClampNeg (j1 - (11 : Int32)))), xbx)
    else
      ck (j1 - (5 : Int32)) 4 <|
        some ((xba (Int32.toNatClampNeg (j1 - (5 : Int32)))), xbx)
def fn_B_put_J46 (xba : (Nat → Int32)) (xbs : Int32) (xbd : Int32) (xbe : Int32) (xbx : Int32) (xpr : (Nat → Int32)) (xpw : (Nat → Int32)) (xpt : (Nat → Int32)) (xpc : Int32) (xrn : Int32) (xca : Int32) (xst : Int32) (xps : Int32) (z1 : Int32) (z2 : Int32) : Option ((Nat → Int32) × Int32 × Int32 × Int32 × Int32 × (Nat → Int32) × (Nat → Int32) × (Nat → Int32) × Int32 × Int32 × Int32 × Int32 × Int32) :=
  if z1 = (0 : Int32) then
    (fn_B_control xbs xpr xpw xpt xpc xrn xca xst xps z2).bind fun v106 =>
      some (xba, v106.1, xbd, xbe, xbx, v106.2.1, v106.2.2.1, xpt, v106.2.2.2.1, v106.2.2.2.2.1, v106.2.2.2.2.2.1, v106.2.2.2.2.2.2.1, v106.2.2.2.2.2.2.2)
  else
    if z1 = (1 : Int32) then
      some (xba, xbs, xbd, xbe, xbx, xpr, xpw, xpt, xpc, xrn, xca, xst, xps)
    else
      if z1 = (2 : Int32) then
        some (xba, xbs, z2, xbe, xbx, xpr, xpw, xpt, xpc, xrn, xca, xst, xps)
      else
        if z1 = (3 : Int32) then
          (fn_B_command xba xbd xbe xpr xpw xpc xrn z2).bind fun v122 =>
            some (xba, xbs, v122.1, v122.2.1, xbx, v122.2.2.1, v122.2.2.2.1, xpt, v122.2.2.2.2, xrn, xca, xst, xps)
        else
          if z1 = (4 : Int32) then
            if (z2 &&& (1 : Int32)) = (1 : Int32) then
              some (xba, xbs, xbd, (0 : Int32), xbx, xpr, xpw, xpt, xpc, xrn, xca, xst, xps)
            else
              some (xba, xbs, xbd, xbe, xbx, xpr, xpw, xpt, xpc, xrn, xca, xst, xps)
          else
            if z1 = (5 : Int32) then
              some (xba, xbs, xbd, xbe, xbx, xpr, xpw, xpt, xpc, xrn, xca, xst, xps)
            else
              if z1 = (6 : Int32) then
                some (xba, xbs, xbd, xbe, xbx, xpr, xpw, xpt, xpc, xrn, xca, xst, xps)
              else
                if z1 = (7 : Int32) then
                  some (xba, xbs, xbd, xbe, xbx, xpr, xpw, xpt, xpc, xrn, xca, xst, xps)
                else
                  if z1 = (8 : Int32) then
                    some (xba, xbs, xbd, xbe, xbx, xpr, xpw, xpt, xpc, xrn, xca, xst, xps)
                  else
                    if z1 = (9 : Int32) then
                      some (xba, xbs, xbd, xbe, (z2 &&& (63 : Int32)), xpr, xpw, xpt, xpc, xrn, xca, xst, xps)
                    else
                      if z1 = (10 : Int32) then
                        (fn_B_passAddress xbx).bind fun v169 =>
                          ck v169.1 64 <|
                            some (xba, xbs, xbd, xbe, v169.2, xpr, (upd xpw (Int32.toNatClampNeg v169.1) z2), xpt, xpc, xrn, xca, xst, xps)
                      else
                        some (xba, xbs, xbd, xbe, xbx, xpr, xpw, xpt, xpc, xrn, xca, xst, xps)
def fn_B_put (xba : (Nat → Int32)) (xbs : Int32) (xbd : Int32) (xbe : Int32) (xbx : Int32) (xpr : (Nat → Int32)) (xpw : (Nat → Int32)) (xpt : (Nat → Int32)) (xpc : Int32) (xrn : Int32) (xca : Int32) (xst : Int32) (xps : Int32) (j1 : Int32) (j2 : Int32) : Option ((Nat → Int32) × Int32 × Int32 × Int32 × Int32 × (Nat → Int32) × (Nat → Int32) × (Nat → Int32) × Int32 × Int32 × Int32 × Int32 × Int32) :=
  if j1 < (5 : Int32) then
    if j1 < (11 : Int32) then
      fn_B_put_J46 xba xbs xbd xbe xbx xpr xpw xpt xpc xrn xca xst xps j1 j2
    else
      if (12 : Int32) < j1 then
        fn_B_put_J46 xba xbs xbd xbe xbx xpr xpw xpt xpc xrn xca xst xps j1 j2
      else
        (fn_P_setTrap xpt (j1 - (11 : Int32)) j2).bind fun v42 =>
          some (xba, xbs, xbd, xbe, xbx, xpr, xpw, v42, xpc, xrn, xca, xst, xps)
  else
    if (8 : Int32) < j1 then
      if j1 < (11 : Int32) then
        fn_B_put_J46 xba xbs xbd xbe xbx xpr xpw xpt xpc xrn xca xst xps j1 j2
      else
        if (12 : Int32) < j1 then
          fn_B_put_J46 xba xbs xbd xbe xbx xpr xpw xpt xpc xrn xca xst xps j1 j2
        else
          (fn_P_setTrap xpt (j1 - (11 : Int32)) j2).bind fun v42 =>
            some (xba, xbs, xbd, xbe, xbx, xpr, xpw, v42, xpc, xrn, xca, xst, xps)
    else
      ck (j1 - (5 : Int32)) 4 <|
        some ((upd xba (Int32.toNatClampNeg (j1 - (5 : Int32))) j2), xbs, xbd, xbe, xbx, xpr, xpw, xpt, xpc, xrn, xca, xst, xps)
def fn_N_setRow (xnr : Int32) (xnl : Int32) (j1 : Int32) (j2 : Int32) : Option (Int32 × Int32) :=
  some (j2, j1)
def fn_N_captureData_J12 (xns : Int32) (xnr : Int32) (xnl : Int32) (xnb : Int32) (xnv : Int32) (xnn : Int32) (w0 : Int32) : Option (Int32 × Int32) :=
  if xns = (1 : Int32) then
    (fn_N_setRow xnr xnl (16 : Int32) (23130 : Int32)).bind fun v50 =>
      some (v50.1, v50.2)
  else
    if xns = (2 : Int32) then
      (fn_N_setRow xnr xnl (4 : Int32) w0).bind fun v59 =>
        some (v59.1, v59.2)
    else
      if xns = (3 : Int32) then
        (fn_N_setRow xnr xnl (22 : Int32) ((w0 ||| (xnv <<< ((2 : Int32) &&& (31 : Int32)))) ||| (xnn <<< ((18 : Int32) &&& (31 : Int32))))).bind fun v84 =>
          some (v84.1, v84.2)
      else
        (fn_N_setRow xnr xnl (1 : Int32) (0 : Int32)).bind fun v93 =>
          some (v93.1, v93.2)
def fn_N_captureData (xns : Int32) (xnr : Int32) (xnl : Int32) (xnb : Int32) (xnv : Int32) (xnn : Int32) : Option (Int32 × Int32) :=
  if xnb = (0 : Int32) then
    fn_N_captureData_J12 xns xnr xnl xnb xnv xnn (0 : Int32)
  else
    fn_N_captureData_J12 xns xnr xnl xnb xnv xnn (3 : Int32)
def fn_N_comesTooSoon (xnh : Int32) (xnt : Int32) (xng : Int32) : Option (Int32) :=
  if xnh = (0 : Int32) then
    some (0 : Int32)
  else
    if (4 : Int32) ≤ ((xnt - xng) - (1 : Int32)) then
      some (0 : Int32)
    else
      some (1 : Int32)
def fn_N_noteBegin (xnr : Int32) (xnn : Int32) (xnh : Int32) (xnt : Int32) (xng : Int32) : Option (Int32 × Int32 × Int32) :=
  some (((xnr >>> ((18 : Int32) &&& (31 : Int32))) &&& (15 : Int32)), (1 : Int32), xnt)
def fn_N_updateData_J23 (xns : Int32) (xnr : Int32) (xnb : Int32) (xnv : Int32) (xnn : Int32) (xnh : Int32) (xnt : Int32) (xng : Int32) (xba : (Nat → Int32)) (xbs : Int32) (xbd : Int32) (xbe : Int32) (xbx : Int32) (xpr : (Nat → Int32)) (xpw : (Nat → Int32)) (xpt : (Nat → Int32)) (xpc : Int32) (xrn : Int32) (xca : Int32) (xst : Int32) (xps : Int32) : Option (Int32 × Int32 × Int32 × Int32 × Int32 × (Nat → Int32) × Int32 × Int32 × Int32 × Int32 × (Nat → Int32) × (Nat → Int32) × (Nat → Int32) × Int32 × Int32 × Int32 × Int32 × Int32) :=
  if xns = (3 : Int32) then
    if xnb = (0 : Int32) then
      (fn_N_comesTooSoon xnh xnt xng).bind fun v40 =>
        if v40 = (0 : Int32) then
          if (xnr &&& (3 : Int32)) = (1 : Int32) then
            (fn_N_noteBegin xnr xnn xnh xnt xng).bind fun v65 =>
              (fn_B_fetch xba xbs xbd xbe xbx xpw xpt xpc xrn xca v65.1).bind fun v77 =>
                some (xnb, v77.1, v65.1, v65.2.1, v65.2.2, xba, xbs, xbd, xbe, v77.2, xpr, xpw, xpt, xpc, xrn, xca, xst, xps)
          else
            if (xnr &&& (3 : Int32)) = (2 : Int32) then
              (fn_N_noteBegin xnr xnn xnh xnt xng).bind fun v92 =>
                (fn_B_put xba xbs xbd xbe xbx xpr xpw xpt xpc xrn xca xst xps v92.1 ((xnr >>> ((2 : Int32) &&& (31 : Int32))) &&& (65535 : Int32))).bind fun v112 =>
                  some (xnb, xnv, v92.1, v92.2.1, v92.2.2, v112.1, v112.2.1, v112.2.2.1, v112.2.2.2.1, v112.2.2.2.2.1, v112.2.2.2.2.2.1, v112.2.2.2.2.2.2.1, v112.2.2.2.2.2.2.2.1, v112.2.2.2.2.2.2.2.2.1, v112.2.2.2.2.2.2.2.2.2.1, v112.2.2.2.2.2.2.2.2.2.2.1, v112.2.2.2.2.2.2.2.2.2.2.2.1, v112.2.2.2.2.2.2.2.2.2.2.2.2)
            else
              some (xnb, xnv, xnn, xnh, xng, xba, xbs, xbd, xbe, xbx, xpr, xpw, xpt, xpc, xrn, xca, xst, xps)
        else
          some ((1 : Int32), xnv, xnn, xnh, xng, xba, xbs, xbd, xbe, xbx, xpr, xpw, xpt, xpc, xrn, xca, xst, xps)
    else
      some (xnb, xnv, xnn, xnh, xng, xba, xbs, xbd, xbe, xbx, xpr, xpw, xpt, xpc, xrn, xca, xst, xps)
  else
    some (xnb, xnv, xnn, xnh, xng, xba, xbs, xbd, xbe, xbx, xpr, xpw, xpt, xpc, xrn, xca, xst, xps)
def fn_N_updateData (xns : Int32) (xnr : Int32) (xnb : Int32) (xnv : Int32) (xnn : Int32) (xnh : Int32) (xnt : Int32) (xng : Int32) (xba : (Nat → Int32)) (xbs : Int32) (xbd : Int32) (xbe : Int32) (xbx : Int32) (xpr : (Nat → Int32)) (xpw : (Nat → Int32)) (xpt : (Nat → Int32)) (xpc : Int32) (xrn : Int32) (xca : Int32) (xst : Int32) (xps : Int32) : Option (Int32 × Int32 × Int32 × Int32 × Int32 × (Nat → Int32) × Int32 × Int32 × Int32 × Int32 × (Nat → Int32) × (Nat → Int32) × (Nat → Int32) × Int32 × Int32 × Int32 × Int32 × Int32) :=
  if xns = (2 : Int32) then
    if (xnr &&& (1 : Int32)) = (1 : Int32) then
      fn_N_updateData_J23 xns xnr (0 : Int32) xnv xnn xnh xnt xng xba xbs xbd xbe xbx xpr xpw xpt xpc xrn xca xst xps
    else
      fn_N_updateData_J23 xns xnr xnb xnv xnn xnh xnt xng xba xbs xbd xbe xbx xpr xpw xpt xpc xrn xca xst xps
  else
    fn_N_updateData_J23 xns xnr xnb xnv xnn xnh xnt xng xba xbs xbd xbe xbx xpr xpw xpt xpc xrn xca xst xps
def fn_N_clock_J155 (xnc : Int32) (xns : Int32) (xnr : Int32) (xnl : Int32) (xnb : Int32) (xnv : Int32) (xnn : Int32) (xnh : Int32) (xnt : Int32) (xng : Int32) (xba : (Nat → Int32)) (xbs : Int32) (xbd : Int32) (xbe : Int32) (xbx : Int32) (xpr : (Nat → Int32)) (xpw : (Nat → Int32)) (xpt : (Nat → Int32)) (xpc : Int32) (xrn : Int32) (xca : Int32) (xst : Int32) (xps : Int32) (z1 : Int32) (z3 : Int32) : Option (Int32 × Int32 × Int32 × Int32 × Int32 × Int32 × Int32 × Int32 × Int32 × Int32 × Int32 × (Nat → Int32) × Int32 × Int32 × Int32 × Int32 × (Nat → Int32) × (Nat → Int32) × (Nat → Int32) × Int32 × Int32 × Int32 × Int32 × Int32) :=
  if z1 = (0 : Int32) then
    ck xnc 16 <|
      some (z3, (tb_0 (Int32.toNatClampNeg xnc)), xns, xnr, xnl, xnb, xnv, xnn, xnh, (xnt + (1 : Int32)), xng, xba, xbs, xbd, xbe, xbx, xpr, xpw, xpt, xpc, xrn, xca, xst, xps)
  else
    ck xnc 16 <|
      some (z3, (tb_1 (Int32.toNatClampNeg xnc)), xns, xnr, xnl, xnb, xnv, xnn, xnh, (xnt + (1 : Int32)), xng, xba, xbs, xbd, xbe, xbx, xpr, xpw, xpt, xpc, xrn, xca, xst, xps)
def fn_N_clock_J101 (xnc : Int32) (xns : Int32) (xnr : Int32) (xnl : Int32) (xnb : Int32) (xnv : Int32) (xnn : Int32) (xnh : Int32) (xnt : Int32) (xng : Int32) (xba : (Nat → Int32)) (xbs : Int32) (xbd : Int32) (xbe : Int32) (xbx : Int32) (xpr : (Nat → Int32)) (xpw : (Nat → Int32)) (xpt : (Nat → Int32)) (xpc : Int32) (xrn : Int32) (xca : Int32) (xst : Int32) (xps : Int32) (z1 : Int32) (z2 : Int32) : Option (Int32 × Int32 × Int32 × Int32 × Int32 × Int32 × Int32 × Int32 × Int32 × Int32 × Int32 × (Nat → Int32) × Int32 × Int32 × Int32 × Int32 × (Nat → Int32) × (Nat → Int32) × (Nat → Int32) × Int32 × Int32 × Int32 × Int32 × Int32) :=
  fn_N_clock_J155 xnc xns ((xnr >>> ((1 : Int32) &&& (31 : Int32))) ||| (z2 <<< ((xnl - (1 : Int32)) &&& (31 : Int32)))) xnl xnb xnv xnn xnh xnt xng xba xbs xbd xbe xbx xpr xpw xpt xpc xrn xca xst xps z1 (xnr &&& (1 : Int32))
def fn_N_clock (xnc : Int32) (xns : Int32) (xnr : Int32) (xnl : Int32) (xnb : Int32) (xnv : Int32) (xnn : Int32) (xnh : Int32) (xnt : Int32) (xng : Int32) (xba : (Nat → Int32)) (xbs : Int32) (xbd : Int32) (xbe : Int32) (xbx : Int32) (xpr : (Nat → Int32)) (xpw : (Nat → Int32)) (xpt : (Nat → Int32)) (xpc : Int32) (xrn : Int32) (xca : Int32) (xst : Int32) (xps : Int32) (j1 : Int32) (j2 : Int32) : Option (Int32 × Int32 × Int32 × Int32 × Int32 × Int32 × Int32 × Int32 × Int32 × Int32 × Int32 × (Nat → Int32) × Int32 × Int32 × Int32 × Int32 × (Nat → Int32) × (Nat → Int32) × (Nat → Int32) × Int32 × Int32 × Int32 × Int32 × Int32) :=
  if xnc = (0 : Int32) then
    fn_N_clock_J155 xnc (1 : Int32) xnr xnl xnb xnv xnn xnh xnt xng xba xbs xbd xbe xbx xpr xpw xpt xpc xrn xca xst xps j1 (0 : Int32)
  else
    if xnc = (1 : Int32) then
      fn_N_clock_J155 xnc xns xnr xnl xnb xnv xnn xnh xnt xng xba xbs xbd xbe xbx xpr xpw xpt xpc xrn xca xst xps j1 (0 : Int32)
    else
      if xnc = (2 : Int32) then
        fn_N_clock_J155 xnc xns xnr xnl xnb xnv xnn xnh xnt xng xba xbs xbd xbe xbx xpr xpw xpt xpc xrn xca xst xps j1 (0 : Int32)
      else
        if xnc = (3 : Int32) then
          (fn_N_captureData xns xnr xnl xnb xnv xnn).bind fun v142 =>
            fn_N_clock_J155 xnc xns v142.1 v142.2 xnb xnv xnn xnh xnt xng xba xbs xbd xbe xbx xpr xpw xpt xpc xrn xca xst xps j1 (0 : Int32)
        else
          if xnc = (4 : Int32) then
            fn_N_clock_J101 xnc xns xnr xnl xnb xnv xnn xnh xnt xng xba xbs xbd xbe xbx xpr xpw xpt xpc xrn xca xst xps j1 j2
          else
            if xnc = (5 : Int32) then
              fn_N_clock_J155 xnc xns xnr xnl xnb xnv xnn xnh xnt xng xba xbs xbd xbe xbx xpr xpw xpt xpc xrn xca xst xps j1 (0 : Int32)
            else
              if xnc = (6 : Int32) then
                fn_N_clock_J155 xnc xns xnr xnl xnb xnv xnn xnh xnt xng xba xbs xbd xbe xbx xpr xpw xpt xpc xrn xca xst xps j1 (0 : Int32)
              else
                if xnc = (7 : Int32) then
                  fn_N_clock_J155 xnc xns xnr xnl xnb xnv xnn xnh xnt xng xba xbs xbd xbe xbx xpr xpw xpt xpc xrn xca xst xps j1 (0 : Int32)
                else
                  if xnc = (8 : Int32) then
                    (fn_N_updateData xns xnr xnb xnv xnn xnh xnt xng xba xbs xbd xbe xbx xpr xpw xpt xpc xrn xca xst xps).bind fun v149 =>
                      fn_N_clock_J155 xnc xns xnr xnl v149.1 v149.2.1 v149.2.2.1 v149.2.2.2.1 xnt v149.2.2.2.2.1 v149.2.2.2.2.2.1 v149.2.2.2.2.2.2.1 v149.2.2.2.2.2.2.2.1 v149.2.2.2.2.2.2.2.2.1 v149.2.2.2.2.2.2.2.2.2.1 v149.2.2.2.2.2.2.2.2.2.2.1 v149.2.2.2.2.2.2.2.2.2.2.2.1 v149.2.2.2.2.2.2.2.2.2.2.2.2.1 v149.2.2.2.2.2.2.2.2.2.2.2.2.2.1 v149.2.2.2.2.2.2.2.2.2.2.2.2.2.2.1 v149.2.2.2.2.2.2.2.2.2.2.2.2.2.2.2.1 v149.2.2.2.2.2.2.2.2.2.2.2.2.2.2.2.2.1 v149.2.2.2.2.2.2.2.2.2.2.2.2.2.2.2.2.2 j1 (0 : Int32)
                  else
                    if xnc = (9 : Int32) then
                      fn_N_clock_J155 xnc xns xnr xnl xnb xnv xnn xnh xnt xng xba xbs xbd xbe xbx xpr xpw xpt xpc xrn xca xst xps j1 (0 : Int32)
                    else
                      if xnc = (10 : Int32) then
                        (fn_N_setRow xnr xnl (4 : Int32) (5 : Int32)).bind fun v95 =>
                          fn_N_clock_J155 xnc xns v95.1 v95.2 xnb xnv xnn xnh xnt xng xba xbs xbd xbe xbx xpr xpw xpt xpc xrn xca xst xps j1 (0 : Int32)
                      else
                        if xnc = (11 : Int32) then
                          fn_N_clock_J101 xnc xns xnr xnl xnb xnv xnn xnh xnt xng xba xbs xbd xbe xbx xpr xpw xpt xpc xrn xca xst xps j1 j2
                        else
                          if xnc = (12 : Int32) then
                            fn_N_clock_J155 xnc xns xnr xnl xnb xnv xnn xnh xnt xng xba xbs xbd xbe xbx xpr xpw xpt xpc xrn xca xst xps j1 (0 : Int32)
                          else
                            if xnc = (13 : Int32) then
                              fn_N_clock_J155 xnc xns xnr xnl xnb xnv xnn xnh xnt xng xba xbs xbd xbe xbx xpr xpw xpt xpc xrn xca xst xps j1 (0 : Int32)
                            else
                              if xnc = (14 : Int32) then
                                fn_N_clock_J155 xnc xns xnr xnl xnb xnv xnn xnh xnt xng xba xbs xbd xbe xbx xpr xpw xpt xpc xrn xca xst xps j1 (0 : Int32)
                              else
                                if xnc = (15 : Int32) then
                                  fn_N_clock_J155 xnc xnr xnr xnl xnb xnv xnn xnh xnt xng xba xbs xbd xbe xbx xpr xpw xpt xpc xrn xca xst xps j1 (0 : Int32)
                                else
                                  fn_N_clock_J155 xnc xns xnr xnl xnb xnv xnn xnh xnt xng xba xbs xbd xbe xbx xpr xpw xpt xpc xrn xca xst xps j1 (0 : Int32)
def fn_K_tick_B19 (rc : Int32 → Int32 → Int32 → Int32 → Int32 → Int32 → Int32 → Int32 → Int32 → Int32 → (Nat → Int32) → Int32 → Int32 → Int32 → Int32 → (Nat → Int32) → (Nat → Int32) → (Nat → Int32) → Int32 → Int32 → Int32 → Int32 → Int32 → Int32 → Int32 → Int32 → Int32 → Int32 → Option (Int32 × Int32 × Int32 × Int32 × Int32 × Int32 × Int32 × Int32 × Int32 × Int32 × Int32 × (Nat → Int32) × Int32 × Int32 × Int32 × Int32 × (Nat → Int32) × (Nat → Int32) × (Nat → Int32) × Int32 × Int32 × Int32 × Int32 × Int32)) (xnc : Int32) (xns : Int32) (xnr : Int32) (xnl : Int32) (xnb : Int32) (xnv : Int32) (xnn : Int32) (xnh : Int32) (xnt : Int32) (xng : Int32) (xba : (Nat → Int32)) (xbs : Int32) (xbd : Int32) (xbe : Int32) (xbx : Int32) (xpr : (Nat → Int32)) (xpw : (Nat → Int32)) (xpt : (Nat → Int32)) (xpc : Int32) (xrn : Int32) (xca : Int32) (xst : Int32) (xps : Int32) (z1 : Int32) (z2 : Int32) (z3 : Int32) (z4 : Int32) (z5 : Int32) : Option (Int32 × Int32 × Int32 × Int32 × Int32 × Int32 × Int32 × Int32 × Int32 × Int32 × Int32 × (Nat → Int32) × Int32 × Int32 × Int32 × Int32 × (Nat → Int32) × (Nat → Int32) × (Nat → Int32) × Int32 × Int32 × Int32 × Int32 × Int32) :=
  if z1 ≤ z5 then
    some (z4, xnc, xns, xnr, xnl, xnb, xnv, xnn, xnh, xnt, xng, xba, xbs, xbd, xbe, xbx, xpr, xpw, xpt, xpc, xrn, xca, xst, xps)
  else
    (fn_N_clock xnc xns xnr xnl xnb xnv xnn xnh xnt xng xba xbs xbd xbe xbx xpr xpw xpt xpc xrn xca xst xps ((z2 >>> (z5 &&& (31 : Int32))) &&& (1 : Int32)) ((z3 >>> (z5 &&& (31 : Int32))) &&& (1 : Int32))).bind fun v43 =>
      rc v43.2.1 v43.2.2.1 v43.2.2.2.1 v43.2.2.2.2.1 v43.2.2.2.2.2.1 v43.2.2.2.2.2.2.1 v43.2.2.2.2.2.2.2.1 v43.2.2.2.2.2.2.2.2.1 v43.2.2.2.2.2.2.2.2.2.1 v43.2.2.2.2.2.2.2.2.2.2.1 v43.2.2.2.2.2.2.2.2.2.2.2.1 v43.2.2.2.2.2.2.2.2.2.2.2.2.1 v43.2.2.2.2.2.2.2.2.2.2.2.2.2.1 v43.2.2.2.2.2.2.2.2.2.2.2.2.2.2.1 v43.2.2.2.2.2.2.2.2.2.2.2.2.2.2.2.1 v43.2.2.2.2.2.2.2.2.2.2.2.2.2.2.2.2.1 v43.2.2.2.2.2.2.2.2.2.2.2.2.2.2.2.2.2.1 v43.2.2.2.2.2.2.2.2.2.2.2.2.2.2.2.2.2.2.1 v43.2.2.2.2.2.2.2.2.2.2.2.2.2.2.2.2.2.2.2.1 v43.2.2.2.2.2.2.2.2.2.2.2.2.2.2.2.2.2.2.2.2.1 v43.2.2.2.2.2.2.2.2.2.2.2.2.2.2.2.2.2.2.2.2.2.1 v43.2.2.2.2.2.2.2.2.2.2.2.2.2.2.2.2.2.2.2.2.2.2.1 v43.2.2.2.2.2.2.2.2.2.2.2.2.2.2.2.2.2.2.2.2.2.2.2 z1 z2 z3 (z4 ||| (v43.1 <<< (z5 &&& (31 : Int32)))) (z5 + (1 : Int32))
def fn_K_tick_L19 : Nat → Int32 → Int32 → Int32 → Int32 → Int32 → Int32 → Int32 → Int32 → Int32 → Int32 → (Nat → Int32) → Int32 → Int32 → Int32 → Int32 → (Nat → Int32) → (Nat → Int32) → (Nat → Int32) → Int32 → Int32 → Int32 → Int32 → Int32 → Int32 → Int32 → Int32 → Int32 → Int32 → Option (Int32 × Int32 × Int32 × Int32 × Int32 × Int32 × Int32 × Int32 × Int32 × Int32 × Int32 × (Nat → Int32) × Int32 × Int32 × Int32 × Int32 × (Nat → Int32) × (Nat → Int32) × (Nat → Int32) × Int32 × Int32 × Int32 × Int32 × Int32)
  | 0 => fun _ _ _ _ _ _ _ _ _ _ _ _ _ _ _ _ _ _ _ _ _ _ _ _ _ _ _ _ => none
  | n + 1 => fn_K_tick_B19 (fn_K_tick_L19 n)
theorem fn_K_tick_S19 (n : Nat) : fn_K_tick_L19 (n + 1) = fn_K_tick_B19 (fn_K_tick_L19 n) := rfl
def fn_K_tick (xnc : Int32) (xns : Int32) (xnr : Int32) (xnl : Int32) (xnb : Int32) (xnv : Int32) (xnn : Int32) (xnh : Int32) (xnt : Int32) (xng : Int32) (xba : (Nat → Int32)) (xbs : Int32) (xbd : Int32) (xbe : Int32) (xbx : Int32) (xpr : (Nat → Int32)) (xpw : (Nat → Int32)) (xpt : (Nat → Int32)) (xpc : Int32) (xrn : Int32) (xca : Int32) (xst : Int32) (xps : Int32) (j1 : Int32) (j2 : Int32) (j3 : Int32) : Option (Int32 × Int32 × Int32 × Int32 × Int32 × Int32 × Int32 × Int32 × Int32 × Int32 × Int32 × (Nat → Int32) × Int32 × Int32 × Int32 × Int32 × (Nat → Int32) × (Nat → Int32) × (Nat → Int32) × Int32 × Int32 × Int32 × Int32 × Int32) :=
  if j1 < (1 : Int32) then
    some ((-1 : Int32), xnc, xns, xnr, xnl, xnb, xnv, xnn, xnh, xnt, xng, xba, xbs, xbd, xbe, xbx, xpr, xpw, xpt, xpc, xrn, xca, xst, xps)
  else
    if j1 ≤ (24 : Int32) then
      fn_K_tick_L19 64 xnc xns xnr xnl xnb xnv xnn xnh xnt xng xba xbs xbd xbe xbx xpr xpw xpt xpc xrn xca xst xps j1 j2 j3 (0 : Int32) (0 : Int32)
    else
      some ((-1 : Int32), xnc, xns, xnr, xnl, xnb, xnv, xnn, xnh, xnt, xng, xba, xbs, xbd, xbe, xbx, xpr, xpw, xpt, xpc, xrn, xca, xst, xps)
def fn_K_run_B15 (rc : (Nat → Int32) → (Nat → Int32) → (Nat → Int32) → Int32 → Int32 → Int32 → Int32 → Int32 → Int32 → Int32 → Option (Int32 × (Nat → Int32) × (Nat → Int32) × Int32 × Int32 × Int32 × Int32 × Int32)) (xpr : (Nat → Int32)) (xpw : (Nat → Int32)) (xpt : (Nat → Int32)) (xpc : Int32) (xrn : Int32) (xca : Int32) (xst : Int32) (xps : Int32) (z1 : Int32) (z2 : Int32) : Option (Int32 × (Nat → Int32) × (Nat → Int32) × Int32 × Int32 × Int32 × Int32 × Int32) :=
  if z1 ≤ z2 then
    some (z2, xpr, xpw, xpc, xrn, xca, xst, xps)
  else
    if xrn = (0 : Int32) then
      some (z2, xpr, xpw, xpc, xrn, xca, xst, xps)
    else
      (fn_P_advance xpr xpw xpt xpc xrn xca xst xps).bind fun v34 =>
        if v34.1 = (0 : Int32) then
          some (z2, v34.2.1, v34.2.2.1, v34.2.2.2.1, v34.2.2.2.2.1, v34.2.2.2.2.2.1, v34.2.2.2.2.2.2.1, v34.2.2.2.2.2.2.2)
        else
          rc v34.2.1 v34.2.2.1 xpt v34.2.2.2.1 v34.2.2.2.2.1 v34.2.2.2.2.2.1 v34.2.2.2.2.2.2.1 v34.2.2.2.2.2.2.2 z1 (z2 + (1 : Int32))
def fn_K_run_L15 : Nat → (Nat → Int32) → (Nat → Int32) → (Nat → Int32) → Int32 → Int32 → Int32 → Int32 → Int32 → Int32 → Int32 → Option (Int32 × (Nat → Int32) × (Nat → Int32) × Int32 × Int32 × Int32 × Int32 × Int32)
  | 0 => fun _ _ _ _ _ _ _ _ _ _ => none
  | n + 1 => fn_K_run_B15 (fn_K_run_L15 n)
theorem fn_K_run_S15 (n : Nat) : fn_K_run_L15 (n + 1) = fn_K_run_B15 (fn_K_run_L15 n) := rfl
def fn_K_run (xpr : (Nat → Int32)) (xpw : (Nat → Int32)) (xpt : (Nat → Int32)) (xpc : Int32) (xrn : Int32) (xca : Int32) (xst : Int32) (xps : Int32) (j1 : Int32) : Option (Int32 × (Nat → Int32) × (Nat → Int32) × Int32 × Int32 × Int32 × Int32 × Int32) :=
  if j1 < (1 : Int32) then
    some ((-1 : Int32), xpr, xpw, xpc, xrn, xca, xst, xps)
  else
    if j1 ≤ (50 : Int32) then
      fn_K_run_L15 64 xpr xpw xpt xpc xrn xca xst xps j1 (0 : Int32)
    else
      some ((-1 : Int32), xpr, xpw, xpc, xrn, xca, xst, xps)
def fn_K_read (xba : (Nat → Int32)) (xbs : Int32) (xbd : Int32) (xbe : Int32) (xbx : Int32) (xpw : (Nat → Int32)) (xpt : (Nat → Int32)) (xpc : Int32) (xrn : Int32) (xca : Int32) (j1 : Int32) : Option (Int32 × Int32) :=
  (fn_B_hasRegister j1).bind fun v1 =>
    if v1 = (0 : Int32) then
      some ((-1 : Int32), xbx)
    else
      (fn_B_fetch xba xbs xbd xbe xbx xpw xpt xpc xrn xca j1).bind fun v12 =>
        some (v12.1, v12.2)
def fn_K_write (xba : (Nat → Int32)) (xbs : Int32) (xbd : Int32) (xbe : Int32) (xbx : Int32) (xpr : (Nat → Int32)) (xpw : (Nat → Int32)) (xpt : (Nat → Int32)) (xpc : Int32) (xrn : Int32) (xca : Int32) (xst : Int32) (xps : Int32) (j1 : Int32) (j2 : Int32) : Option (Int32 × (Nat → Int32) × Int32 × Int32 × Int32 × Int32 × (Nat → Int32) × (Nat → Int32) × (Nat → Int32) × Int32 × Int32 × Int32 × Int32 × Int32) :=
  (fn_B_hasRegister j1).bind fun v1 =>
    if v1 = (0 : Int32) then
      some ((0 : Int32), xba, xbs, xbd, xbe, xbx, xpr, xpw, xpt, xpc, xrn, xca, xst, xps)
    else
      (fn_B_put xba xbs xbd xbe xbx xpr xpw xpt xpc xrn xca xst xps j1 (j2 &&& (65535 : Int32))).bind fun v18 =>
        some ((1 : Int32), v18.1, v18.2.1, v18.2.2.1, v18.2.2.2.1, v18.2.2.2.2.1, v18.2.2.2.2.2.1, v18.2.2.2.2.2.2.1, v18.2.2.2.2.2.2.2.1, v18.2.2.2.2.2.2.2.2.1, v18.2.2.2.2.2.2.2.2.2.1, v18.2.2.2.2.2.2.2.2.2.2.1, v18.2.2.2.2.2.2.2.2.2.2.2.1, v18.2.2.2.2.2.2.2.2.2.2.2.2)
def fn_K_state (xnc : Int32) : Option (Int32) :=
  some xnc
def fn_K_instruction (xns : Int32) : Option (Int32) :=
  some xns
def fn_K_register (xpr : (Nat → Int32)) (j1 : Int32) : Option (Int32) :=
  if j1 < (0 : Int32) then
    some (-1 : Int32)
  else
    if (8 : Int32) ≤ j1 then
      some (-1 : Int32)
    else
      ck j1 8 <|
        some (xpr (Int32.toNatClampNeg j1))
def fn_K_word (xpw : (Nat → Int32)) (j1 : Int32) : Option (Int32) :=
  if j1 < (0 : Int32) then
    some (-1 : Int32)
  else
    if (64 : Int32) ≤ j1 then
      some (-1 : Int32)
    else
      ck j1 64 <|
        some (xpw (Int32.toNatClampNeg j1))
def fn_K_pc (xpc : Int32) : Option (Int32) :=
  some xpc
def fn_K_steps (xst : Int32) : Option (Int32) :=
  some xst
def fn_M_in (j0 : Int32) (j1 : Int32) (j2 : Int32) : Option (Int32) :=
  if j0 < j1 then
    some (0 : Int32)
  else
    if j2 < j0 then
      some (0 : Int32)
    else
      some (1 : Int32)
def fn_M_halt (yha : Int32) (yca : Int32) (j1 : Int32) : Option (Int32 × Int32) :=
  some ((1 : Int32), j1)
def fn_M_isTrap_B5 (rc : (Nat → Int32) → (Nat → Int32) → Int32 → Int32 → Int32 → Int32 → Option (Int32)) (ytk : (Nat → Int32)) (yta : (Nat → Int32)) (z1 : Int32) (z2 : Int32) (z3 : Int32) (z4 : Int32) : Option (Int32) :=
  if (2 : Int32) ≤ z4 then
    ckb z3 <|
      some z3
  else
    if z3 = (0 : Int32) then
      ck z4 2 <|
        if (ytk (Int32.toNatClampNeg z4)) = z1 then
          ck z4 2 <|
            if (yta (Int32.toNatClampNeg z4)) = z2 then
              rc ytk yta z1 z2 (1 : Int32) (z4 + (1 : Int32))
            else
              rc ytk yta z1 z2 (0 : Int32) (z4 + (1 : Int32))
        else
          rc ytk yta z1 z2 (0 : Int32) (z4 + (1 : Int32))
    else
      rc ytk yta z1 z2 (1 : Int32) (z4 + (1 : Int32))
def fn_M_isTrap_L5 : Nat → (Nat → Int32) → (Nat → Int32) → Int32 → Int32 → Int32 → Int32 → Option (Int32)
  | 0 => fun _ _ _ _ _ _ => none
  | n + 1 => fn_M_isTrap_B5 (fn_M_isTrap_L5 n)
theorem fn_M_isTrap_S5 (n : Nat) : fn_M_isTrap_L5 (n + 1) = fn_M_isTrap_B5 (fn_M_isTrap_L5 n) := rfl
def fn_M_isTrap (ytk : (Nat → Int32)) (yta : (Nat → Int32)) (j1 : Int32) (j2 : Int32) : Option (Int32) :=
  fn_M_isTrap_L5 64 ytk yta j1 j2 (0 : Int32) (0 : Int32)
def fn_M_work (ymr : (Nat → Int32)) (ymm : (Nat → Int32)) (j1 : Int32) : Option ((Nat → Int32) × (Nat → Int32)) :=
  ck ((j1 >>> ((6 : Int32) &&& (31 : Int32))) &&& (7 : Int32)) 8 <|
    if (j1 >>> ((12 : Int32) &&& (31 : Int32))) = (1 : Int32) then
      ck ((j1 >>> ((9 : Int32) &&& (31 : Int32))) &&& (7 : Int32)) 8 <|
        some ((upd ymr (Int32.toNatClampNeg ((j1 >>> ((9 : Int32) &&& (31 : Int32))) &&& (7 : Int32))) (j1 &&& (63 : Int32))), ymm)
    else
      if (j1 >>> ((12 : Int32) &&& (31 : Int32))) = (2 : Int32) then
        ck ((j1 >>> ((9 : Int32) &&& (31 : Int32))) &&& (7 : Int32)) 8 <|
          ck ((j1 >>> ((9 : Int32) &&& (31 : Int32))) &&& (7 : Int32)) 8 <|
            some ((upd ymr (Int32.toNatClampNeg ((j1 >>> ((9 : Int32) &&& (31 : Int32))) &&& (7 : Int32))) (((ymr (Int32.toNatClampNeg ((j1 >>> ((9 : Int32) &&& (31 : Int32))) &&& (7 : Int32)))) + (ymr (Int32.toNatClampNeg ((j1 >>> ((6 : Int32) &&& (31 : Int32))) &&& (7 : Int32))))) - ((ymr (Int32.toNatClampNeg ((j1 >>> ((9 : Int32) &&& (31 : Int32))) &&& (7 : Int32)))) + (ymr (Int32.toNatClampNeg ((j1 >>> ((6 : Int32) &&& (31 : Int32))) &&& (7 : Int32))))) / (65536 : Int32) * (65536 : Int32))), ymm)
      else
        if (j1 >>> ((12 : Int32) &&& (31 : Int32))) = (3 : Int32) then
          ck ((j1 >>> ((9 : Int32) &&& (31 : Int32))) &&& (7 : Int32)) 8 <|
            ck ((j1 >>> ((9 : Int32) &&& (31 : Int32))) &&& (7 : Int32)) 8 <|
              some ((upd ymr (Int32.toNatClampNeg ((j1 >>> ((9 : Int32) &&& (31 : Int32))) &&& (7 : Int32))) ((((ymr (Int32.toNatClampNeg ((j1 >>> ((9 : Int32) &&& (31 : Int32))) &&& (7 : Int32)))) + (65536 : Int32)) - (ymr (Int32.toNatClampNeg ((j1 >>> ((6 : Int32) &&& (31 : Int32))) &&& (7 : Int32))))) - (((ymr (Int32.toNatClampNeg ((j1 >>> ((9 : Int32) &&& (31 : Int32))) &&& (7 : Int32)))) + (65536 : Int32)) - (ymr (Int32.toNatClampNeg ((j1 >>> ((6 : Int32) &&& (31 : Int32))) &&& (7 : Int32))))) / (65536 : Int32) * (65536 : Int32))), ymm)
        else
          if (j1 >>> ((12 : Int32) &&& (31 : Int32))) = (4 : Int32) then
            ck (((ymr (Int32.toNatClampNeg ((j1 >>> ((6 : Int32) &&& (31 : Int32))) &&& (7 : Int32)))) + (j1 &&& (63 : Int32))) - ((ymr (Int32.toNatClampNeg ((j1 >>> ((6 : Int32) &&& (31 : Int32))) &&& (7 : Int32)))) + (j1 &&& (63 : Int32))) / (64 : Int32) * (64 : Int32)) 64 <|
              ck ((j1 >>> ((9 : Int32) &&& (31 : Int32))) &&& (7 : Int32)) 8 <|
                some ((upd ymr (Int32.toNatClampNeg ((j1 >>> ((9 : Int32) &&& (31 : Int32))) &&& (7 : Int32))) (ymm (Int32.toNatClampNeg (((ymr (Int32.toNatClampNeg ((j1 >>> ((6 : Int32) &&& (31 : Int32))) &&& (7 : Int32)))) + (j1 &&& (63 : Int32))) - ((ymr (Int32.toNatClampNeg ((j1 >>> ((6 : Int32) &&& (31 : Int32))) &&& (7 : Int32)))) + (j1 &&& (63 : Int32))) / (64 : Int32) * (64 : Int32))))), ymm)
          else
            if (j1 >>> ((12 : Int32) &&& (31 : Int32))) = (5 : Int32) then
              ck ((j1 >>> ((9 : Int32) &&& (31 : Int32))) &&& (7 : Int32)) 8 <|
                ck (((ymr (Int32.toNatClampNeg ((j1 >>> ((6 : Int32) &&& (31 : Int32))) &&& (7 : Int32)))) + (j1 &&& (63 : Int32))) - ((ymr (Int32.toNatClampNeg ((j1 >>> ((6 : Int32) &&& (31 : Int32))) &&& (7 : Int32)))) + (j1 &&& (63 : Int32))) / (64 : Int32) * (64 : Int32)) 64 <|
                  some (ymr, (upd ymm (Int32.toNatClampNeg (((ymr (Int32.toNatClampNeg ((j1 >>> ((6 : Int32) &&& (31 : Int32))) &&& (7 : Int32)))) + (j1 &&& (63 : Int32))) - ((ymr (Int32.toNatClampNeg ((j1 >>> ((6 : Int32) &&& (31 : Int32))) &&& (7 : Int32)))) + (j1 &&& (63 : Int32))) / (64 : Int32) * (64 : Int32))) (ymr (Int32.toNatClampNeg ((j1 >>> ((9 : Int32) &&& (31 : Int32))) &&& (7 : Int32))))))
            else
              some (ymr, ymm)
def fn_M_step_J194 (ymr : (Nat → Int32)) (ymm : (Nat → Int32)) (ypc : Int32) (yha : Int32) (yca : Int32) (yfr : Int32) (yst : Int32) (ytk : (Nat → Int32)) (yta : (Nat → Int32)) (z1 : Int32) (z2 : Int32) (z6 : Int32) (z7 : Int32) (w1 : Int32) : Option (Int32 × (Nat → Int32) × (Nat → Int32) × Int32 × Int32 × Int32 × Int32 × Int32) :=
  if z2 = (9 : Int32) then
    ck z6 8 <|
      (fn_M_work (upd ymr (Int32.toNatClampNeg z6) z7) ymm z1).bind fun v214 =>
        some ((1 : Int32), v214.1, v214.2, w1, yha, yca, yfr, (yst + (1 : Int32)))
  else
    (fn_M_work ymr ymm z1).bind fun v214 =>
      some ((1 : Int32), v214.1, v214.2, w1, yha, yca, yfr, (yst + (1 : Int32)))
def fn_M_step_J166 (ymr : (Nat → Int32)) (ymm : (Nat → Int32)) (ypc : Int32) (yha : Int32) (yca : Int32) (yfr : Int32) (yst : Int32) (ytk : (Nat → Int32)) (yta : (Nat → Int32)) (z1 : Int32) (z2 : Int32) (z3 : Int32) (z4 : Int32) (z6 : Int32) (z7 : Int32) (w0 : Int32) : Option (Int32 × (Nat → Int32) × (Nat → Int32) × Int32 × Int32 × Int32 × Int32 × Int32) :=
  if w0 = (0 : Int32) then
    if z2 = (9 : Int32) then
      fn_M_step_J194 ymr ymm ypc yha yca yfr yst ytk yta z1 z2 z6 z7 (z3 - z3 / (64 : Int32) * (64 : Int32))
    else
      fn_M_step_J194 ymr ymm ypc yha yca yfr yst ytk yta z1 z2 z6 z7 z7
  else
    fn_M_step_J194 ymr ymm ypc yha yca yfr yst ytk yta z1 z2 z6 z7 z4
def fn_M_step_J89 (ymr : (Nat → Int32)) (ymm : (Nat → Int32)) (ypc : Int32) (yha : Int32) (yca : Int32) (yfr : Int32) (yst : Int32) (ytk : (Nat → Int32)) (yta : (Nat → Int32)) (z1 : Int32) (z2 : Int32) (z3 : Int32) (z4 : Int32) : Option (Int32 × (Nat → Int32) × (Nat → Int32) × Int32 × Int32 × Int32 × Int32 × Int32) :=
  if z2 = (10 : Int32) then
    (fn_M_halt yha yca (1 : Int32)).bind fun v97 =>
      some ((0 : Int32), ymr, ymm, ypc, v97.1, v97.2, yfr, yst)
  else
    if z2 = (6 : Int32) then
      fn_M_step_J166 ymr ymm ypc yha yca yfr yst ytk yta z1 z2 z3 z4 ((z1 >>> ((9 : Int32) &&& (31 : Int32))) &&& (7 : Int32)) ((ypc + (1 : Int32)) - (ypc + (1 : Int32)) / (64 : Int32) * (64 : Int32)) (1 : Int32)
    else
      if z2 = (7 : Int32) then
        ck ((z1 >>> ((9 : Int32) &&& (31 : Int32))) &&& (7 : Int32)) 8 <|
          if (ymr (Int32.toNatClampNeg ((z1 >>> ((9 : Int32) &&& (31 : Int32))) &&& (7 : Int32)))) = (0 : Int32) then
            fn_M_step_J166 ymr ymm ypc yha yca yfr yst ytk yta z1 z2 z3 z4 ((z1 >>> ((9 : Int32) &&& (31 : Int32))) &&& (7 : Int32)) ((ypc + (1 : Int32)) - (ypc + (1 : Int32)) / (64 : Int32) * (64 : Int32)) (1 : Int32)
          else
            if z2 = (8 : Int32) then
              ck ((z1 >>> ((9 : Int32) &&& (31 : Int32))) &&& (7 : Int32)) 8 <|
                if z3 ≤ (ymr (Int32.toNatClampNeg ((z1 >>> ((9 : Int32) &&& (31 : Int32))) &&& (7 : Int32)))) then
                  fn_M_step_J166 ymr ymm ypc yha yca yfr yst ytk yta z1 z2 z3 z4 ((z1 >>> ((9 : Int32) &&& (31 : Int32))) &&& (7 : Int32)) ((ypc + (1 : Int32)) - (ypc + (1 : Int32)) / (64 : Int32) * (64 : Int32)) (0 : Int32)
                else
                  fn_M_step_J166 ymr ymm ypc yha yca yfr yst ytk yta z1 z2 z3 z4 ((z1 >>> ((9 : Int32) &&& (31 : Int32))) &&& (7 : Int32)) ((ypc + (1 : Int32)) - (ypc + (1 : Int32)) / (64 : Int32) * (64 : Int32)) (1 : Int32)
            else
              fn_M_step_J166 ymr ymm ypc yha yca yfr yst ytk yta z1 z2 z3 z4 ((z1 >>> ((9 : Int32) &&& (31 : Int32))) &&& (7 : Int32)) ((ypc + (1 : Int32)) - (ypc + (1 : Int32)) / (64 : Int32) * (64 : Int32)) (0 : Int32)
      else
        if z2 = (8 : Int32) then
          ck ((z1 >>> ((9 : Int32) &&& (31 : Int32))) &&& (7 : Int32)) 8 <|
            if z3 ≤ (ymr (Int32.toNatClampNeg ((z1 >>> ((9 : Int32) &&& (31 : Int32))) &&& (7 : Int32)))) then
              fn_M_step_J166 ymr ymm ypc yha yca yfr yst ytk yta z1 z2 z3 z4 ((z1 >>> ((9 : Int32) &&& (31 : Int32))) &&& (7 : Int32)) ((ypc + (1 : Int32)) - (ypc + (1 : Int32)) / (64 : Int32) * (64 : Int32)) (0 : Int32)
            else
              fn_M_step_J166 ymr ymm ypc yha yca yfr yst ytk yta z1 z2 z3 z4 ((z1 >>> ((9 : Int32) &&& (31 : Int32))) &&& (7 : Int32)) ((ypc + (1 : Int32)) - (ypc + (1 : Int32)) / (64 : Int32) * (64 : Int32)) (1 : Int32)
        else
          fn_M_step_J166 ymr ymm ypc yha yca yfr yst ytk yta z1 z2 z3 z4 ((z1 >>> ((9 : Int32) &&& (31 : Int32))) &&& (7 : Int32)) ((ypc + (1 : Int32)) - (ypc + (1 : Int32)) / (64 : Int32) * (64 : Int32)) (0 : Int32)
def fn_M_step_J62 (ymr : (Nat → Int32)) (ymm : (Nat → Int32)) (ypc : Int32) (yha : Int32) (yca : Int32) (yfr : Int32) (yst : Int32) (ytk : (Nat → Int32)) (yta : (Nat → Int32)) (z1 : Int32) (z2 : Int32) (z3 : Int32) (z4 : Int32) : Option (Int32 × (Nat → Int32) × (Nat → Int32) × Int32 × Int32 × Int32 × Int32 × Int32) :=
  if z2 = (5 : Int32) then
    (fn_M_isTrap ytk yta (2 : Int32) ((z3 + z4) - (z3 + z4) / (64 : Int32) * (64 : Int32))).bind fun v76 =>
      if v76 = (0 : Int32) then
        fn_M_step_J89 ymr ymm ypc yha yca yfr yst ytk yta z1 z2 z3 z4
      else
        (fn_M_halt yha yca (2 : Int32)).bind fun v84 =>
          some ((0 : Int32), ymr, ymm, ypc, v84.1, v84.2, yfr, yst)
  else
    fn_M_step_J89 ymr ymm ypc yha yca yfr yst ytk yta z1 z2 z3 z4
def fn_M_step (ymr : (Nat → Int32)) (ymm : (Nat → Int32)) (ypc : Int32) (yha : Int32) (yca : Int32) (yfr : Int32) (yst : Int32) (ytk : (Nat → Int32)) (yta : (Nat → Int32)) : Option (Int32 × (Nat → Int32) × (Nat → Int32) × Int32 × Int32 × Int32 × Int32 × Int32) :=
  ck ypc 64 <|
    ck (((ymm (Int32.toNatClampNeg ypc)) >>> ((6 : Int32) &&& (31 : Int32))) &&& (7 : Int32)) 8 <|
      if yfr = (0 : Int32) then
        (fn_M_isTrap ytk yta (1 : Int32) ypc).bind fun v56 =>
          if v56 = (0 : Int32) then
            fn_M_step_J62 ymr ymm ypc yha yca (0 : Int32) yst ytk yta (ymm (Int32.toNatClampNeg ypc)) ((ymm (Int32.toNatClampNeg ypc)) >>> ((12 : Int32) &&& (31 : Int32))) (ymr (Int32.toNatClampNeg (((ymm (Int32.toNatClampNeg ypc)) >>> ((6 : Int32) &&& (31 : Int32))) &&& (7 : Int32)))) ((ymm (Int32.toNatClampNeg ypc)) &&& (63 : Int32))
          else
            (fn_M_halt yha yca (2 : Int32)).bind fun v84 =>
              some ((0 : Int32), ymr, ymm, ypc, v84.1, v84.2, (0 : Int32), yst)
      else
        fn_M_step_J62 ymr ymm ypc yha yca (0 : Int32) yst ytk yta (ymm (Int32.toNatClampNeg ypc)) ((ymm (Int32.toNatClampNeg ypc)) >>> ((12 : Int32) &&& (31 : Int32))) (ymr (Int32.toNatClampNeg (((ymm (Int32.toNatClampNeg ypc)) >>> ((6 : Int32) &&& (31 : Int32))) &&& (7 : Int32)))) ((ymm (Int32.toNatClampNeg ypc)) &&& (63 : Int32))
def fn_M_run_B16 (rc : (Nat → Int32) → (Nat → Int32) → Int32 → Int32 → Int32 → Int32 → Int32 → (Nat → Int32) → (Nat → Int32) → Int32 → Int32 → Int32 → Option (Int32 × (Nat → Int32) × (Nat → Int32) × Int32 × Int32 × Int32 × Int32 × Int32)) (ymr : (Nat → Int32)) (ymm : (Nat → Int32)) (ypc : Int32) (yha : Int32) (yca : Int32) (yfr : Int32) (yst : Int32) (ytk : (Nat → Int32)) (yta : (Nat → Int32)) (z1 : Int32) (z2 : Int32) (z3 : Int32) : Option (Int32 × (Nat → Int32) × (Nat → Int32) × Int32 × Int32 × Int32 × Int32 × Int32) :=
  if z1 ≤ z3 then
    some (z2, ymr, ymm, ypc, yha, yca, yfr, yst)
  else
    if yha = (0 : Int32) then
      (fn_M_step ymr ymm ypc yha yca yfr yst ytk yta).bind fun v29 =>
        if v29.1 = (0 : Int32) then
          rc v29.2.1 v29.2.2.1 v29.2.2.2.1 v29.2.2.2.2.1 v29.2.2.2.2.2.1 v29.2.2.2.2.2.2.1 v29.2.2.2.2.2.2.2 ytk yta z1 z2 (z3 + (1 : Int32))
        else
          rc v29.2.1 v29.2.2.1 v29.2.2.2.1 v29.2.2.2.2.1 v29.2.2.2.2.2.1 v29.2.2.2.2.2.2.1 v29.2.2.2.2.2.2.2 ytk yta z1 (z2 + (1 : Int32)) (z3 + (1 : Int32))
    else
      rc ymr ymm ypc yha yca yfr yst ytk yta z1 z2 (z3 + (1 : Int32))
def fn_M_run_L16 : Nat → (Nat → Int32) → (Nat → Int32) → Int32 → Int32 → Int32 → Int32 → Int32 → (Nat → Int32) → (Nat → Int32) → Int32 → Int32 → Int32 → Option (Int32 × (Nat → Int32) × (Nat → Int32) × Int32 × Int32 × Int32 × Int32 × Int32)
  | 0 => fun _ _ _ _ _ _ _ _ _ _ _ _ => none
  | n + 1 => fn_M_run_B16 (fn_M_run_L16 n)
theorem fn_M_run_S16 (n : Nat) : fn_M_run_L16 (n + 1) = fn_M_run_B16 (fn_M_run_L16 n) := rfl
def fn_M_run (ymr : (Nat → Int32)) (ymm : (Nat → Int32)) (ypc : Int32) (yha : Int32) (yca : Int32) (yfr : Int32) (yst : Int32) (ytk : (Nat → Int32)) (yta : (Nat → Int32)) (j1 : Int32) : Option (Int32 × (Nat → Int32) × (Nat → Int32) × Int32 × Int32 × Int32 × Int32 × Int32) :=
  (fn_M_in j1 (1 : Int32) (50 : Int32)).bind fun v4 =>
    if v4 = (0 : Int32) then
      some ((-1 : Int32), ymr, ymm, ypc, yha, yca, yfr, yst)
    else
      fn_M_run_L16 64 ymr ymm ypc yha yca yfr yst ytk yta j1 (0 : Int32) (0 : Int32)
def fn_M_control_J12 (ymr : (Nat → Int32)) (ymm : (Nat → Int32)) (ypc : Int32) (yha : Int32) (yca : Int32) (ysp : Int32) (yfr : Int32) (yst : Int32) (ytk : (Nat → Int32)) (yta : (Nat → Int32)) (z1 : Int32) (w1 : Int32) : Option ((Nat → Int32) × (Nat → Int32) × Int32 × Int32 × Int32 × Int32 × Int32 × Int32) :=
  ckb w1 <|
    if yha = (0 : Int32) then
      if (z1 &&& (1 : Int32)) = (0 : Int32) then
        some (ymr, ymm, ypc, yha, yca, w1, yfr, yst)
      else
        (fn_M_halt yha yca (3 : Int32)).bind fun v69 =>
          some (ymr, ymm, ypc, v69.1, v69.2, w1, yfr, yst)
    else
      if (z1 &&& (2 : Int32)) = (0 : Int32) then
        some (ymr, ymm, ypc, yha, yca, w1, yfr, yst)
      else
        if w1 = (0 : Int32) then
          some (ymr, ymm, ypc, (0 : Int32), yca, w1, (1 : Int32), yst)
        else
          (fn_M_step ymr ymm ypc (0 : Int32) yca (1 : Int32) yst ytk yta).bind fun v47 =>
            if v47.1 = (0 : Int32) then
              some (v47.2.1, v47.2.2.1, v47.2.2.2.1, v47.2.2.2.2.1, v47.2.2.2.2.2.1, w1, v47.2.2.2.2.2.2.1, v47.2.2.2.2.2.2.2)
            else
              (fn_M_halt v47.2.2.2.2.1 v47.2.2.2.2.2.1 (4 : Int32)).bind fun v55 =>
                some (v47.2.1, v47.2.2.1, v47.2.2.2.1, v55.1, v55.2, w1, v47.2.2.2.2.2.2.1, v47.2.2.2.2.2.2.2)
def fn_M_control (ymr : (Nat → Int32)) (ymm : (Nat → Int32)) (ypc : Int32) (yha : Int32) (yca : Int32) (ysp : Int32) (yfr : Int32) (yst : Int32) (ytk : (Nat → Int32)) (yta : (Nat → Int32)) (j1 : Int32) : Option ((Nat → Int32) × (Nat → Int32) × Int32 × Int32 × Int32 × Int32 × Int32 × Int32) :=
  if (j1 &&& (4 : Int32)) = (0 : Int32) then
    fn_M_control_J12 ymr ymm ypc yha yca ysp yfr yst ytk yta j1 (0 : Int32)
  else
    fn_M_control_J12 ymr ymm ypc yha yca ysp yfr yst ytk yta j1 (1 : Int32)
def fn_M_runProgram_B2 (rc : (Nat → Int32) → (Nat → Int32) → Int32 → (Nat → Int32) → Int32 → Option ((Nat → Int32) × (Nat → Int32) × Int32)) (ymr : (Nat → Int32)) (ymm : (Nat → Int32)) (yer : Int32) (ypg : (Nat → Int32)) (z1 : Int32) : Option ((Nat → Int32) × (Nat → Int32) × Int32) :=
  if (4 : Int32) ≤ z1 then
    some (ymr, ymm, yer)
  else
    ck z1 4 <|
      if ((ypg (Int32.toNatClampNeg z1)) >>> ((12 : Int32) &&& (31 : Int32))) = (10 : Int32) then
        some (ymr, ymm, yer)
      else
        (fn_M_in ((ypg (Int32.toNatClampNeg z1)) >>> ((12 : Int32) &&& (31 : Int32))) (6 : Int32) (9 : Int32)).bind fun v29 =>
          if v29 = (0 : Int32) then
            ck z1 4 <|
              (fn_M_work ymr ymm (ypg (Int32.toNatClampNeg z1))).bind fun v48 =>
                rc v48.1 v48.2 yer ypg (z1 + (1 : Int32))
          else
            some (ymr, ymm, (3 : Int32))
def fn_M_runProgram_L2 : Nat → (Nat → Int32) → (Nat → Int32) → Int32 → (Nat → Int32) → Int32 → Option ((Nat → Int32) × (Nat → Int32) × Int32)
  | 0 => fun _ _ _ _ _ => none
  | n + 1 => fn_M_runProgram_B2 (fn_M_runProgram_L2 n)
theorem fn_M_runProgram_S2 (n : Nat) : fn_M_runProgram_L2 (n + 1) = fn_M_runProgram_B2 (fn_M_runProgram_L2 n) := rfl
def fn_M_runProgram (ymr : (Nat → Int32)) (ymm : (Nat → Int32)) (yer : Int32) (ypg : (Nat → Int32)) : Option ((Nat → Int32) × (Nat → Int32) × Int32) :=
  fn_M_runProgram_L2 64 ymr ymm yer ypg (0 : Int32)
def fn_M_command (ymr : (Nat → Int32)) (ymm : (Nat → Int32)) (ypc : Int32) (yha : Int32) (yda : Int32) (yer : Int32) (ypg : (Nat → Int32)) (j1 : Int32) : Option ((Nat → Int32) × (Nat → Int32) × Int32 × Int32 × Int32) :=
  if yer = (0 : Int32) then
    if yha = (0 : Int32) then
      some (ymr, ymm, ypc, yda, (1 : Int32))
    else
      if ((j1 >>> ((8 : Int32) &&& (31 : Int32))) &&& (7 : Int32)) = (0 : Int32) then
        ck (j1 &&& (7 : Int32)) 8 <|
          some (ymr, ymm, ypc, (ymr (Int32.toNatClampNeg (j1 &&& (7 : Int32)))), yer)
      else
        if ((j1 >>> ((8 : Int32) &&& (31 : Int32))) &&& (7 : Int32)) = (1 : Int32) then
          ck (j1 &&& (7 : Int32)) 8 <|
            some ((upd ymr (Int32.toNatClampNeg (j1 &&& (7 : Int32))) yda), ymm, ypc, yda, yer)
        else
          if ((j1 >>> ((8 : Int32) &&& (31 : Int32))) &&& (7 : Int32)) = (2 : Int32) then
            some (ymr, ymm, ypc, ypc, yer)
          else
            if ((j1 >>> ((8 : Int32) &&& (31 : Int32))) &&& (7 : Int32)) = (3 : Int32) then
              some (ymr, ymm, (yda - yda / (64 : Int32) * (64 : Int32)), yda, yer)
            else
              if ((j1 >>> ((8 : Int32) &&& (31 : Int32))) &&& (7 : Int32)) = (4 : Int32) then
                (fn_M_runProgram ymr ymm yer ypg).bind fun v112 =>
                  some (v112.1, v112.2.1, ypc, yda, v112.2.2)
              else
                some (ymr, ymm, ypc, yda, (2 : Int32))
  else
    some (ymr, ymm, ypc, yda, yer)
def fn_M_next (yad : Int32) : Option (Int32 × Int32) :=
  some (yad, ((yad + (1 : Int32)) - (yad + (1 : Int32)) / (64 : Int32) * (64 : Int32)))
def fn_M_read (ymm : (Nat → Int32)) (ypc : Int32) (yha : Int32) (yca : Int32) (ysp : Int32) (yda : Int32) (yer : Int32) (yad : Int32) (ypg : (Nat → Int32)) (ytk : (Nat → Int32)) (yta : (Nat → Int32)) (j1 : Int32) : Option (Int32 × Int32) :=
  (fn_M_in j1 (0 : Int32) (15 : Int32)).bind fun v4 =>
    if v4 = (0 : Int32) then
      some ((-1 : Int32), yad)
    else
      (fn_M_in j1 (5 : Int32) (8 : Int32)).bind fun v16 =>
        if v16 = (0 : Int32) then
          if j1 = (11 : Int32) then
            ck (j1 - (11 : Int32)) 2 <|
              ck (j1 - (11 : Int32)) 2 <|
                some (((yta (Int32.toNatClampNeg (j1 - (11 : Int32)))) + ((64 : Int32) * (ytk (Int32.toNatClampNeg (j1 - (11 : Int32)))))), yad)
          else
            if j1 = (12 : Int32) then
              ck (j1 - (11 : Int32)) 2 <|
                ck (j1 - (11 : Int32)) 2 <|
                  some (((yta (Int32.toNatClampNeg (j1 - (11 : Int32)))) + ((64 : Int32) * (ytk (Int32.toNatClampNeg (j1 - (11 : Int32)))))), yad)
            else
              if j1 = (0 : Int32) then
                if ysp = (0 : Int32) then
                  some ((0 : Int32), yad)
                else
                  some ((4 : Int32), yad)
              else
                if j1 = (1 : Int32) then
                  if yha = (0 : Int32) then
                    some ((((0 : Int32) + ((2 : Int32) * yca)) + ((16 : Int32) * ypc)), yad)
                  else
                    some ((((1 : Int32) + ((2 : Int32) * yca)) + ((16 : Int32) * ypc)), yad)
                else
                  if j1 = (2 : Int32) then
                    some (yda, yad)
                  else
                    if j1 = (3 : Int32) then
                      some ((0 : Int32), yad)
                    else
                      if j1 = (4 : Int32) then
                        some (yer, yad)
                      else
                        if j1 = (5 : Int32) then
                          some ((0 : Int32), yad)
                        else
                          if j1 = (6 : Int32) then
                            some ((0 : Int32), yad)
                          else
                            if j1 = (7 : Int32) then
                              some ((0 : Int32), yad)
                            else
                              if j1 = (8 : Int32) then
                                some ((0 : Int32), yad)
                              else
                                if j1 = (9 : Int32) then
                                  some (yad, yad)
                                else
                                  if j1 = (10 : Int32) then
                                    (fn_M_next yad).bind fun v197 =>
                                      ck v197.1 64 <|
                                        some ((ymm (Int32.toNatClampNeg v197.1)), v197.2)
                                  else
                                    if j1 = (11 : Int32) then
                                      some ((0 : Int32), yad)
                                    else
                                      if j1 = (12 : Int32) then
                                        some ((0 : Int32), yad)
                                      else
                                        if j1 = (13 : Int32) then
                                          some ((23130 : Int32), yad)
                                        else
                                          some ((0 : Int32), yad)
        else
          ck (j1 - (5 : Int32)) 4 <|
            some ((ypg (Int32.toNatClampNeg (j1 - (5 : Int32)))), yad)
def fn_M_write_J136 (ymr : (Nat → Int32)) (ymm : (Nat → Int32)) (ypc : Int32) (yha : Int32) (yca : Int32) (ysp : Int32) (yfr : Int32) (yst : Int32) (yda : Int32) (yer : Int32) (yad : Int32) (ypg : (Nat → Int32)) (ytk : (Nat → Int32)) (yta : (Nat → Int32)) (z1 : Int32) (z3 : Int32) : Option (Int32 × (Nat → Int32) × (Nat → Int32) × Int32 × Int32 × Int32 × Int32 × Int32 × Int32 × Int32 × Int32 × Int32 × (Nat → Int32) × (Nat → Int32) × (Nat → Int32)) :=
  if z1 = (9 : Int32) then
    if z1 = (10 : Int32) then
      (fn_M_next (z3 - z3 / (64 : Int32) * (64 : Int32))).bind fun v157 =>
        ck v157.1 64 <|
          some ((1 : Int32), ymr, (upd ymm (Int32.toNatClampNeg v157.1) z3), ypc, yha, yca, ysp, yfr, yst, yda, yer, v157.2, ypg, ytk, yta)
    else
      some ((1 : Int32), ymr, ymm, ypc, yha, yca, ysp, yfr, yst, yda, yer, (z3 - z3 / (64 : Int32) * (64 : Int32)), ypg, ytk, yta)
  else
    if z1 = (10 : Int32) then
      (fn_M_next yad).bind fun v157 =>
        ck v157.1 64 <|
          some ((1 : Int32), ymr, (upd ymm (Int32.toNatClampNeg v157.1) z3), ypc, yha, yca, ysp, yfr, yst, yda, yer, v157.2, ypg, ytk, yta)
    else
      some ((1 : Int32), ymr, ymm, ypc, yha, yca, ysp, yfr, yst, yda, yer, yad, ypg, ytk, yta)
def fn_M_write_J109 (ymr : (Nat → Int32)) (ymm : (Nat → Int32)) (ypc : Int32) (yha : Int32) (yca : Int32) (ysp : Int32) (yfr : Int32) (yst : Int32) (yda : Int32) (yer : Int32) (yad : Int32) (ypg : (Nat → Int32)) (ytk : (Nat → Int32)) (yta : (Nat → Int32)) (z1 : Int32) (z3 : Int32) : Option (Int32 × (Nat → Int32) × (Nat → Int32) × Int32 × Int32 × Int32 × Int32 × Int32 × Int32 × Int32 × Int32 × Int32 × (Nat → Int32) × (Nat → Int32) × (Nat → Int32)) :=
  if z1 = (3 : Int32) then
    (fn_M_command ymr ymm ypc yha yda yer ypg z3).bind fun v116 =>
      if z1 = (4 : Int32) then
        if (z3 &&& (1 : Int32)) = (1 : Int32) then
          fn_M_write_J136 v116.1 v116.2.1 v116.2.2.1 yha yca ysp yfr yst v116.2.2.2.1 (0 : Int32) yad ypg ytk yta z1 z3
        else
          fn_M_write_J136 v116.1 v116.2.1 v116.2.2.1 yha yca ysp yfr yst v116.2.2.2.1 v116.2.2.2.2 yad ypg ytk yta z1 z3
      else
        fn_M_write_J136 v116.1 v116.2.1 v116.2.2.1 yha yca ysp yfr yst v116.2.2.2.1 v116.2.2.2.2 yad ypg ytk yta z1 z3
  else
    if z1 = (4 : Int32) then
      if (z3 &&& (1 : Int32)) = (1 : Int32) then
        fn_M_write_J136 ymr ymm ypc yha yca ysp yfr yst yda (0 : Int32) yad ypg ytk yta z1 z3
      else
        fn_M_write_J136 ymr ymm ypc yha yca ysp yfr yst yda yer yad ypg ytk yta z1 z3
    else
      fn_M_write_J136 ymr ymm ypc yha yca ysp yfr yst yda yer yad ypg ytk yta z1 z3
def fn_M_write_J90 (ymr : (Nat → Int32)) (ymm : (Nat → Int32)) (ypc : Int32) (yha : Int32) (yca : Int32) (ysp : Int32) (yfr : Int32) (yst : Int32) (yda : Int32) (yer : Int32) (yad : Int32) (ypg : (Nat → Int32)) (ytk : (Nat → Int32)) (yta : (Nat → Int32)) (z1 : Int32) (z3 : Int32) : Option (Int32 × (Nat → Int32) × (Nat → Int32) × Int32 × Int32 × Int32 × Int32 × Int32 × Int32 × Int32 × Int32 × Int32 × (Nat → Int32) × (Nat → Int32) × (Nat → Int32)) :=
  if z1 = (0 : Int32) then
    (fn_M_control ymr ymm ypc yha yca ysp yfr yst ytk yta z3).bind fun v96 =>
      if z1 = (2 : Int32) then
        fn_M_write_J109 v96.1 v96.2.1 v96.2.2.1 v96.2.2.2.1 v96.2.2.2.2.1 v96.2.2.2.2.2.1 v96.2.2.2.2.2.2.1 v96.2.2.2.2.2.2.2 z3 yer yad ypg ytk yta z1 z3
      else
        fn_M_write_J109 v96.1 v96.2.1 v96.2.2.1 v96.2.2.2.1 v96.2.2.2.2.1 v96.2.2.2.2.2.1 v96.2.2.2.2.2.2.1 v96.2.2.2.2.2.2.2 yda yer yad ypg ytk yta z1 z3
  else
    if z1 = (2 : Int32) then
      fn_M_write_J109 ymr ymm ypc yha yca ysp yfr yst z3 yer yad ypg ytk yta z1 z3
    else
      fn_M_write_J109 ymr ymm ypc yha yca ysp yfr yst yda yer yad ypg ytk yta z1 z3
def fn_M_write_J48 (ymr : (Nat → Int32)) (ymm : (Nat → Int32)) (ypc : Int32) (yha : Int32) (yca : Int32) (ysp : Int32) (yfr : Int32) (yst : Int32) (yda : Int32) (yer : Int32) (yad : Int32) (ypg : (Nat → Int32)) (ytk : (Nat → Int32)) (yta : (Nat → Int32)) (z1 : Int32) (z3 : Int32) : Option (Int32 × (Nat → Int32) × (Nat → Int32) × Int32 × Int32 × Int32 × Int32 × Int32 × Int32 × Int32 × Int32 × Int32 × (Nat → Int32) × (Nat → Int32) × (Nat → Int32)) :=
  ck (z1 - (11 : Int32)) 2 <|
    if ((z3 >>> ((6 : Int32) &&& (31 : Int32))) &&& (3 : Int32)) = (3 : Int32) then
      ck (z1 - (11 : Int32)) 2 <|
        fn_M_write_J90 ymr ymm ypc yha yca ysp yfr yst yda yer yad ypg (upd ytk (Int32.toNatClampNeg (z1 - (11 : Int32))) (0 : Int32)) (upd yta (Int32.toNatClampNeg (z1 - (11 : Int32))) (z3 &&& (63 : Int32))) z1 z3
    else
      ck (z1 - (11 : Int32)) 2 <|
        fn_M_write_J90 ymr ymm ypc yha yca ysp yfr yst yda yer yad ypg (upd ytk (Int32.toNatClampNeg (z1 - (11 : Int32))) ((z3 >>> ((6 : Int32) &&& (31 : Int32))) &&& (3 : Int32))) (upd yta (Int32.toNatClampNeg (z1 - (11 : Int32))) (z3 &&& (63 : Int32))) z1 z3
def fn_M_write (ymr : (Nat → Int32)) (ymm : (Nat → Int32)) (ypc : Int32) (yha : Int32) (yca : Int32) (ysp : Int32) (yfr : Int32) (yst : Int32) (yda : Int32) (yer : Int32) (yad : Int32) (ypg : (Nat → Int32)) (ytk : (Nat → Int32)) (yta : (Nat → Int32)) (j1 : Int32) (j2 : Int32) : Option (Int32 × (Nat → Int32) × (Nat → Int32) × Int32 × Int32 × Int32 × Int32 × Int32 × Int32 × Int32 × Int32 × Int32 × (Nat → Int32) × (Nat → Int32) × (Nat → Int32)) :=
  (fn_M_in j1 (0 : Int32) (15 : Int32)).bind fun v4 =>
    if v4 = (0 : Int32) then
      some ((0 : Int32), ymr, ymm, ypc, yha, yca, ysp, yfr, yst, yda, yer, yad, ypg, ytk, yta)
    else
      (fn_M_in j1 (5 : Int32) (8 : Int32)).bind fun v21 =>
        if v21 = (0 : Int32) then
          if j1 = (11 : Int32) then
            fn_M_write_J48 ymr ymm ypc yha yca ysp yfr yst yda yer yad ypg ytk yta j1 (j2 &&& (65535 : Int32))
          else
            if j1 = (12 : Int32) then
              fn_M_write_J48 ymr ymm ypc yha yca ysp yfr yst yda yer yad ypg ytk yta j1 (j2 &&& (65535 : Int32))
            else
              fn_M_write_J90 ymr ymm ypc yha yca ysp yfr yst yda yer yad ypg ytk yta j1 (j2 &&& (65535 : Int32))
        else
          ck (j1 - (5 : Int32)) 4 <|
            if j1 = (11 : Int32) then
              fn_M_write_J48 ymr ymm ypc yha yca ysp yfr yst yda yer yad (upd ypg (Int32.toNatClampNeg (j1 - (5 : Int32))) (j2 &&& (65535 : Int32))) ytk yta j1 (j2 &&& (65535 : Int32))
            else
              if j1 = (12 : Int32) then
                fn_M_write_J48 ymr ymm ypc yha yca ysp yfr yst yda yer yad (upd ypg (Int32.toNatClampNeg (j1 - (5 : Int32))) (j2 &&& (65535 : Int32))) ytk yta j1 (j2 &&& (65535 : Int32))
              else
                fn_M_write_J90 ymr ymm ypc yha yca ysp yfr yst yda yer yad (upd ypg (Int32.toNatClampNeg (j1 - (5 : Int32))) (j2 &&& (65535 : Int32))) ytk yta j1 (j2 &&& (65535 : Int32))
def fn_M_bits_B7 (rc : (Nat → Int32) → Int32 → Int32 → Int32 → Option (Int32)) (yrw : (Nat → Int32)) (z1 : Int32) (z3 : Int32) (z4 : Int32) : Option (Int32) :=
  if z4 < (0 : Int32) then
    some z3
  else
    ck (z1 + z4) 22 <|
      rc yrw z1 (((2 : Int32) * z3) + (yrw (Int32.toNatClampNeg (z1 + z4)))) (z4 + (-1 : Int32))
def fn_M_bits_L7 : Nat → (Nat → Int32) → Int32 → Int32 → Int32 → Option (Int32)
  | 0 => fun _ _ _ _ => none
  | n + 1 => fn_M_bits_B7 (fn_M_bits_L7 n)
theorem fn_M_bits_S7 (n : Nat) : fn_M_bits_L7 (n + 1) = fn_M_bits_B7 (fn_M_bits_L7 n) := rfl
def fn_M_bits (yrw : (Nat → Int32)) (j1 : Int32) (j2 : Int32) : Option (Int32) :=
  fn_M_bits_L7 64 yrw j1 (0 : Int32) (j2 - (1 : Int32))
def fn_M_fill_B3 (rc : (Nat → Int32) → Int32 → Int32 → Int32 → Int32 → Option ((Nat → Int32))) (yrw : (Nat → Int32)) (z1 : Int32) (z2 : Int32) (z3 : Int32) (z4 : Int32) : Option ((Nat → Int32)) :=
  if z2 ≤ z4 then
    some yrw
  else
    ck (z1 + z4) 22 <|
      rc (upd yrw (Int32.toNatClampNeg (z1 + z4)) ((z3 >>> (z4 &&& (31 : Int32))) &&& (1 : Int32))) z1 z2 z3 (z4 + (1 : Int32))
def fn_M_fill_L3 : Nat → (Nat → Int32) → Int32 → Int32 → Int32 → Int32 → Option ((Nat → Int32))
  | 0 => fun _ _ _ _ _ => none
  | n + 1 => fn_M_fill_B3 (fn_M_fill_L3 n)
theorem fn_M_fill_S3 (n : Nat) : fn_M_fill_L3 (n + 1) = fn_M_fill_B3 (fn_M_fill_L3 n) := rfl
def fn_M_fill (yrw : (Nat → Int32)) (j1 : Int32) (j2 : Int32) (j3 : Int32) : Option ((Nat → Int32)) :=
  fn_M_fill_L3 64 yrw j1 j2 j3 (0 : Int32)
def fn_M_capture_J105 (yin : Int32) (yrw : (Nat → Int32)) (ywd : Int32) (ybs : Int32) (yva : Int32) (ynu : Int32) : Option ((Nat → Int32) × Int32) :=
  if yin = (3 : Int32) then
    (fn_M_fill yrw (2 : Int32) (16 : Int32) yva).bind fun v121 =>
      (fn_M_fill v121 (18 : Int32) (4 : Int32) ynu).bind fun v132 =>
        some (v132, ywd)
  else
    some (yrw, ywd)
def fn_M_capture_J71 (yin : Int32) (yrw : (Nat → Int32)) (ywd : Int32) (ybs : Int32) (yva : Int32) (ynu : Int32) : Option ((Nat → Int32) × Int32) :=
  if yin = (2 : Int32) then
    if ybs = (0 : Int32) then
      (fn_M_fill yrw (0 : Int32) (2 : Int32) (0 : Int32)).bind fun v102 =>
        fn_M_capture_J105 yin v102 ywd ybs yva ynu
    else
      (fn_M_fill yrw (0 : Int32) (2 : Int32) (3 : Int32)).bind fun v102 =>
        fn_M_capture_J105 yin v102 ywd ybs yva ynu
  else
    if yin = (3 : Int32) then
      if ybs = (0 : Int32) then
        (fn_M_fill yrw (0 : Int32) (2 : Int32) (0 : Int32)).bind fun v102 =>
          fn_M_capture_J105 yin v102 ywd ybs yva ynu
      else
        (fn_M_fill yrw (0 : Int32) (2 : Int32) (3 : Int32)).bind fun v102 =>
          fn_M_capture_J105 yin v102 ywd ybs yva ynu
    else
      fn_M_capture_J105 yin yrw ywd ybs yva ynu
def fn_M_capture_J40 (yin : Int32) (yrw : (Nat → Int32)) (ywd : Int32) (ybs : Int32) (yva : Int32) (ynu : Int32) (w1 : Int32) : Option ((Nat → Int32) × Int32) :=
  (fn_M_fill yrw (0 : Int32) w1 (0 : Int32)).bind fun v50 =>
    if yin = (1 : Int32) then
      (fn_M_fill v50 (0 : Int32) (16 : Int32) (23130 : Int32)).bind fun v68 =>
        fn_M_capture_J71 yin v68 w1 ybs yva ynu
    else
      fn_M_capture_J71 yin v50 w1 ybs yva ynu
def fn_M_capture (yin : Int32) (yrw : (Nat → Int32)) (ywd : Int32) (ybs : Int32) (yva : Int32) (ynu : Int32) : Option ((Nat → Int32) × Int32) :=
  if yin = (1 : Int32) then
    fn_M_capture_J40 yin yrw ywd ybs yva ynu (16 : Int32)
  else
    if yin = (2 : Int32) then
      fn_M_capture_J40 yin yrw ywd ybs yva ynu (4 : Int32)
    else
      if yin = (3 : Int32) then
        fn_M_capture_J40 yin yrw ywd ybs yva ynu (22 : Int32)
      else
        fn_M_capture_J40 yin yrw ywd ybs yva ynu (1 : Int32)
def fn_M_update_J65 (ymr : (Nat → Int32)) (ymm : (Nat → Int32)) (ypc : Int32) (yha : Int32) (yca : Int32) (ysp : Int32) (yfr : Int32) (yst : Int32) (yda : Int32) (yer : Int32) (yad : Int32) (ypg : (Nat → Int32)) (ytk : (Nat → Int32)) (yta : (Nat → Int32)) (yin : Int32) (yrw : (Nat → Int32)) (ytm : Int32) (ybg : Int32) (yan : Int32) (ybs : Int32) (yva : Int32) (ynu : Int32) : Option ((Nat → Int32) × (Nat → Int32) × Int32 × Int32 × Int32 × Int32 × Int32 × Int32 × Int32 × Int32 × Int32 × (Nat → Int32) × (Nat → Int32) × (Nat → Int32) × Int32 × Int32 × Int32 × Int32 × Int32) :=
  (fn_M_bits yrw (0 : Int32) (2 : Int32)).bind fun v68 =>
    if v68 = (0 : Int32) then
      some (ymr, ymm, ypc, yha, yca, ysp, yfr, yst, yda, yer, yad, ypg, ytk, yta, ybg, yan, ybs, yva, ynu)
    else
      if v68 = (3 : Int32) then
        some (ymr, ymm, ypc, yha, yca, ysp, yfr, yst, yda, yer, yad, ypg, ytk, yta, ybg, yan, ybs, yva, ynu)
      else
        (fn_M_bits yrw (18 : Int32) (4 : Int32)).bind fun v100 =>
          if v68 = (1 : Int32) then
            (fn_M_read ymm ypc yha yca ysp yda yer yad ypg ytk yta v100).bind fun v117 =>
              some (ymr, ymm, ypc, yha, yca, ysp, yfr, yst, yda, yer, v117.2, ypg, ytk, yta, ytm, (1 : Int32), ybs, v117.1, v100)
          else
            (fn_M_bits yrw (2 : Int32) (16 : Int32)).bind fun v135 =>
              (fn_M_write ymr ymm ypc yha yca ysp yfr yst yda yer yad ypg ytk yta v100 v135).bind fun v138 =>
                some (v138.2.1, v138.2.2.1, v138.2.2.2.1, v138.2.2.2.2.1, v138.2.2.2.2.2.1, v138.2.2.2.2.2.2.1, v138.2.2.2.2.2.2.2.1, v138.2.2.2.2.2.2.2.2.1, v138.2.2.2.2.2.2.2.2.2.1, v138.2.2.2.2.2.2.2.2.2.2.1, v138.2.2.2.2.2.2.2.2.2.2.2.1, v138.2.2.2.2.2.2.2.2.2.2.2.2.1, v138.2.2.2.2.2.2.2.2.2.2.2.2.2.1, v138.2.2.2.2.2.2.2.2.2.2.2.2.2.2, ytm, (1 : Int32), ybs, yva, v100)
def fn_M_update_J23 (ymr : (Nat → Int32)) (ymm : (Nat → Int32)) (ypc : Int32) (yha : Int32) (yca : Int32) (ysp : Int32) (yfr : Int32) (yst : Int32) (yda : Int32) (yer : Int32) (yad : Int32) (ypg : (Nat → Int32)) (ytk : (Nat → Int32)) (yta : (Nat → Int32)) (yin : Int32) (yrw : (Nat → Int32)) (ytm : Int32) (ybg : Int32) (yan : Int32) (ybs : Int32) (yva : Int32) (ynu : Int32) : Option ((Nat → Int32) × (Nat → Int32) × Int32 × Int32 × Int32 × Int32 × Int32 × Int32 × Int32 × Int32 × Int32 × (Nat → Int32) × (Nat → Int32) × (Nat → Int32) × Int32 × Int32 × Int32 × Int32 × Int32) :=
  if yin = (3 : Int32) then
    if ybs = (0 : Int32) then
      if yan = (0 : Int32) then
        fn_M_update_J65 ymr ymm ypc yha yca ysp yfr yst yda yer yad ypg ytk yta yin yrw ytm ybg yan ybs yva ynu
      else
        if (5 : Int32) ≤ (ytm - ybg) then
          fn_M_update_J65 ymr ymm ypc yha yca ysp yfr yst yda yer yad ypg ytk yta yin yrw ytm ybg yan ybs yva ynu
        else
          some (ymr, ymm, ypc, yha, yca, ysp, yfr, yst, yda, yer, yad, ypg, ytk, yta, ybg, yan, (1 : Int32), yva, ynu)
    else
      some (ymr, ymm, ypc, yha, yca, ysp, yfr, yst, yda, yer, yad, ypg, ytk, yta, ybg, yan, ybs, yva, ynu)
  else
    some (ymr, ymm, ypc, yha, yca, ysp, yfr, yst, yda, yer, yad, ypg, ytk, yta, ybg, yan, ybs, yva, ynu)
def fn_M_update (ymr : (Nat → Int32)) (ymm : (Nat → Int32)) (ypc : Int32) (yha : Int32) (yca : Int32) (ysp : Int32) (yfr : Int32) (yst : Int32) (yda : Int32) (yer : Int32) (yad : Int32) (ypg : (Nat → Int32)) (ytk : (Nat → Int32)) (yta : (Nat → Int32)) (yin : Int32) (yrw : (Nat → Int32)) (ytm : Int32) (ybg : Int32) (yan : Int32) (ybs : Int32) (yva : Int32) (ynu : Int32) : Option ((Nat → Int32) × (Nat → Int32) × Int32 × Int32 × Int32 × Int32 × Int32 × Int32 × Int32 × Int32 × Int32 × (Nat → Int32) × (Nat → Int32) × (Nat → Int32) × Int32 × Int32 × Int32 × Int32 × Int32) :=
  if yin = (2 : Int32) then
    ck (0 : Int32) 22 <|
      if (yrw (Int32.toNatClampNeg (0 : Int32))) = (1 : Int32) then
        fn_M_update_J23 ymr ymm ypc yha yca ysp yfr yst yda yer yad ypg ytk yta yin yrw ytm ybg yan (0 : Int32) yva ynu
      else
        fn_M_update_J23 ymr ymm ypc yha yca ysp yfr yst yda yer yad ypg ytk yta yin yrw ytm ybg yan ybs yva ynu
  else
    fn_M_update_J23 ymr ymm ypc yha yca ysp yfr yst yda yer yad ypg ytk yta yin yrw ytm ybg yan ybs yva ynu
def fn_M_leads_J15 (yse : Int32) (z1 : Int32) (w0 : Int32) : Option (Int32) :=
  if yse = (0 : Int32) then
    if z1 = (0 : Int32) then
      some (1 : Int32)
    else
      some (0 : Int32)
  else
    if yse = (1 : Int32) then
      if z1 = (0 : Int32) then
        some (1 : Int32)
      else
        some (2 : Int32)
    else
      if yse = (2 : Int32) then
        if z1 = (0 : Int32) then
          some (3 : Int32)
        else
          some (9 : Int32)
      else
        if yse = (3 : Int32) then
          if z1 = (0 : Int32) then
            some ((4 : Int32) + w0)
          else
            some ((5 : Int32) + w0)
        else
          if yse = (4 : Int32) then
            if z1 = (0 : Int32) then
              some ((4 : Int32) + w0)
            else
              some ((5 : Int32) + w0)
          else
            if yse = (5 : Int32) then
              if z1 = (0 : Int32) then
                some ((6 : Int32) + w0)
              else
                some ((8 : Int32) + w0)
            else
              if yse = (6 : Int32) then
                if z1 = (0 : Int32) then
                  some ((6 : Int32) + w0)
                else
                  some ((7 : Int32) + w0)
              else
                if yse = (7 : Int32) then
                  if z1 = (0 : Int32) then
                    some ((4 : Int32) + w0)
                  else
                    some ((8 : Int32) + w0)
                else
                  if yse = (8 : Int32) then
                    if z1 = (0 : Int32) then
                      some (1 : Int32)
                    else
                      some (2 : Int32)
                  else
                    if yse = (9 : Int32) then
                      if z1 = (0 : Int32) then
                        some (10 : Int32)
                      else
                        some (0 : Int32)
                    else
                      if yse = (10 : Int32) then
                        if z1 = (0 : Int32) then
                          some ((4 : Int32) + w0)
                        else
                          some ((5 : Int32) + w0)
                      else
                        if yse = (11 : Int32) then
                          if z1 = (0 : Int32) then
                            some ((4 : Int32) + w0)
                          else
                            some ((5 : Int32) + w0)
                        else
                          if yse = (12 : Int32) then
                            if z1 = (0 : Int32) then
                              some ((6 : Int32) + w0)
                            else
                              some ((8 : Int32) + w0)
                          else
                            if yse = (13 : Int32) then
                              if z1 = (0 : Int32) then
                                some ((6 : Int32) + w0)
                              else
                                some ((7 : Int32) + w0)
                            else
                              if yse = (14 : Int32) then
                                if z1 = (0 : Int32) then
                                  some ((4 : Int32) + w0)
                                else
                                  some ((8 : Int32) + w0)
                              else
                                if yse = (15 : Int32) then
                                  if z1 = (0 : Int32) then
                                    some (1 : Int32)
                                  else
                                    some (2 : Int32)
                                else
                                  if z1 = (0 : Int32) then
                                    some ((4 : Int32) + w0)
                                  else
                                    some ((8 : Int32) + w0)
def fn_M_leads (yse : Int32) (j1 : Int32) : Option (Int32) :=
  if yse < (10 : Int32) then
    fn_M_leads_J15 yse j1 (0 : Int32)
  else
    fn_M_leads_J15 yse j1 (7 : Int32)
def fn_M_shift_B9 (rc : (Nat → Int32) → Int32 → Int32 → Int32 → Int32 → Option (Int32 × (Nat → Int32))) (yrw : (Nat → Int32)) (ywd : Int32) (z1 : Int32) (z2 : Int32) (z3 : Int32) : Option (Int32 × (Nat → Int32)) :=
  if (ywd - (1 : Int32)) ≤ z3 then
    ck (ywd - (1 : Int32)) 22 <|
      some (z2, (upd yrw (Int32.toNatClampNeg (ywd - (1 : Int32))) z1))
  else
    ck (z3 + (1 : Int32)) 22 <|
      ck z3 22 <|
        rc (upd yrw (Int32.toNatClampNeg z3) (yrw (Int32.toNatClampNeg (z3 + (1 : Int32))))) ywd z1 z2 (z3 + (1 : Int32))
def fn_M_shift_L9 : Nat → (Nat → Int32) → Int32 → Int32 → Int32 → Int32 → Option (Int32 × (Nat → Int32))
  | 0 => fun _ _ _ _ _ => none
  | n + 1 => fn_M_shift_B9 (fn_M_shift_L9 n)
theorem fn_M_shift_S9 (n : Nat) : fn_M_shift_L9 (n + 1) = fn_M_shift_B9 (fn_M_shift_L9 n) := rfl
def fn_M_shift (yrw : (Nat → Int32)) (ywd : Int32) (j1 : Int32) : Option (Int32 × (Nat → Int32)) :=
  ck (0 : Int32) 22 <|
    fn_M_shift_L9 64 yrw ywd j1 (yrw (Int32.toNatClampNeg (0 : Int32))) (0 : Int32)
def fn_M_one_J99 (ymr : (Nat → Int32)) (ymm : (Nat → Int32)) (ypc : Int32) (yha : Int32) (yca : Int32) (ysp : Int32) (yfr : Int32) (yst : Int32) (yda : Int32) (yer : Int32) (yad : Int32) (ypg : (Nat → Int32)) (ytk : (Nat → Int32)) (yta : (Nat → Int32)) (yse : Int32) (yin : Int32) (yrw : (Nat → Int32)) (ywd : Int32) (ytm : Int32) (ybg : Int32) (yan : Int32) (ybs : Int32) (yva : Int32) (ynu : Int32) (z1 : Int32) (z3 : Int32) : Option (Int32 × (Nat → Int32) × (Nat → Int32) × Int32 × Int32 × Int32 × Int32 × Int32 × Int32 × Int32 × Int32 × Int32 × (Nat → Int32) × (Nat → Int32) × (Nat → Int32) × Int32 × Int32 × (Nat → Int32) × Int32 × Int32 × Int32 × Int32 × Int32 × Int32 × Int32) :=
  if yse = (8 : Int32) then
    (fn_M_update ymr ymm ypc yha yca ysp yfr yst yda yer yad ypg ytk yta yin yrw ytm ybg yan ybs yva ynu).bind fun v109 =>
      (fn_M_leads yse z1).bind fun v115 =>
        some (z3, v109.1, v109.2.1, v109.2.2.1, v109.2.2.2.1, v109.2.2.2.2.1, v109.2.2.2.2.2.1, v109.2.2.2.2.2.2.1, v109.2.2.2.2.2.2.2.1, v109.2.2.2.2.2.2.2.2.1, v109.2.2.2.2.2.2.2.2.2.1, v109.2.2.2.2.2.2.2.2.2.2.1, v109.2.2.2.2.2.2.2.2.2.2.2.1, v109.2.2.2.2.2.2.2.2.2.2.2.2.1, v109.2.2.2.2.2.2.2.2.2.2.2.2.2.1, v115, yin, yrw, ywd, ytm, v109.2.2.2.2.2.2.2.2.2.2.2.2.2.2.1, v109.2.2.2.2.2.2.2.2.2.2.2.2.2.2.2.1, v109.2.2.2.2.2.2.2.2.2.2.2.2.2.2.2.2.1, v109.2.2.2.2.2.2.2.2.2.2.2.2.2.2.2.2.2.1, v109.2.2.2.2.2.2.2.2.2.2.2.2.2.2.2.2.2.2)
  else
    (fn_M_leads yse z1).bind fun v115 =>
      some (z3, ymr, ymm, ypc, yha, yca, ysp, yfr, yst, yda, yer, yad, ypg, ytk, yta, v115, yin, yrw, ywd, ytm, ybg, yan, ybs, yva, ynu)
def fn_M_one_J68 (ymr : (Nat → Int32)) (ymm : (Nat → Int32)) (ypc : Int32) (yha : Int32) (yca : Int32) (ysp : Int32) (yfr : Int32) (yst : Int32) (yda : Int32) (yer : Int32) (yad : Int32) (ypg : (Nat → Int32)) (ytk : (Nat → Int32)) (yta : (Nat → Int32)) (yse : Int32) (yin : Int32) (yrw : (Nat → Int32)) (ywd : Int32) (ytm : Int32) (ybg : Int32) (yan : Int32) (ybs : Int32) (yva : Int32) (ynu : Int32) (z1 : Int32) (z3 : Int32) : Option (Int32 × (Nat → Int32) × (Nat → Int32) × Int32 × Int32 × Int32 × Int32 × Int32 × Int32 × Int32 × Int32 × Int32 × (Nat → Int32) × (Nat → Int32) × (Nat → Int32) × Int32 × Int32 × (Nat → Int32) × Int32 × Int32 × Int32 × Int32 × Int32 × Int32 × Int32) :=
  if yse = (15 : Int32) then
    (fn_M_bits yrw (0 : Int32) (4 : Int32)).bind fun v81 =>
      if yse = (3 : Int32) then
        (fn_M_capture v81 yrw ywd ybs yva ynu).bind fun v96 =>
          fn_M_one_J99 ymr ymm ypc yha yca ysp yfr yst yda yer yad ypg ytk yta yse v81 v96.1 v96.2 ytm ybg yan ybs yva ynu z1 z3
      else
        fn_M_one_J99 ymr ymm ypc yha yca ysp yfr yst yda yer yad ypg ytk yta yse v81 yrw ywd ytm ybg yan ybs yva ynu z1 z3
  else
    if yse = (3 : Int32) then
      (fn_M_capture yin yrw ywd ybs yva ynu).bind fun v96 =>
        fn_M_one_J99 ymr ymm ypc yha yca ysp yfr yst yda yer yad ypg ytk yta yse yin v96.1 v96.2 ytm ybg yan ybs yva ynu z1 z3
    else
      fn_M_one_J99 ymr ymm ypc yha yca ysp yfr yst yda yer yad ypg ytk yta yse yin yrw ywd ytm ybg yan ybs yva ynu z1 z3
def fn_M_one_J45 (ymr : (Nat → Int32)) (ymm : (Nat → Int32)) (ypc : Int32) (yha : Int32) (yca : Int32) (ysp : Int32) (yfr : Int32) (yst : Int32) (yda : Int32) (yer : Int32) (yad : Int32) (ypg : (Nat → Int32)) (ytk : (Nat → Int32)) (yta : (Nat → Int32)) (yse : Int32) (yin : Int32) (yrw : (Nat → Int32)) (ywd : Int32) (ytm : Int32) (ybg : Int32) (yan : Int32) (ybs : Int32) (yva : Int32) (ynu : Int32) (z1 : Int32) (z2 : Int32) (z3 : Int32) : Option (Int32 × (Nat → Int32) × (Nat → Int32) × Int32 × Int32 × Int32 × Int32 × Int32 × Int32 × Int32 × Int32 × Int32 × (Nat → Int32) × (Nat → Int32) × (Nat → Int32) × Int32 × Int32 × (Nat → Int32) × Int32 × Int32 × Int32 × Int32 × Int32 × Int32 × Int32) :=
  if yse = (4 : Int32) then
    (fn_M_shift yrw ywd z2).bind fun v64 =>
      fn_M_one_J68 ymr ymm ypc yha yca ysp yfr yst yda yer yad ypg ytk yta yse yin v64.2 ywd ytm ybg yan ybs yva ynu z1 v64.1
  else
    if yse = (11 : Int32) then
      (fn_M_shift yrw ywd z2).bind fun v64 =>
        fn_M_one_J68 ymr ymm ypc yha yca ysp yfr yst yda yer yad ypg ytk yta yse yin v64.2 ywd ytm ybg yan ybs yva ynu z1 v64.1
    else
      fn_M_one_J68 ymr ymm ypc yha yca ysp yfr yst yda yer yad ypg ytk yta yse yin yrw ywd ytm ybg yan ybs yva ynu z1 z3
def fn_M_one (ymr : (Nat → Int32)) (ymm : (Nat → Int32)) (ypc : Int32) (yha : Int32) (yca : Int32) (ysp : Int32) (yfr : Int32) (yst : Int32) (yda : Int32) (yer : Int32) (yad : Int32) (ypg : (Nat → Int32)) (ytk : (Nat → Int32)) (yta : (Nat → Int32)) (yse : Int32) (yin : Int32) (yrw : (Nat → Int32)) (ywd : Int32) (ytm : Int32) (ybg : Int32) (yan : Int32) (ybs : Int32) (yva : Int32) (ynu : Int32) (j1 : Int32) (j2 : Int32) : Option (Int32 × (Nat → Int32) × (Nat → Int32) × Int32 × Int32 × Int32 × Int32 × Int32 × Int32 × Int32 × Int32 × Int32 × (Nat → Int32) × (Nat → Int32) × (Nat → Int32) × Int32 × Int32 × (Nat → Int32) × Int32 × Int32 × Int32 × Int32 × Int32 × Int32 × Int32) :=
  if yse = (0 : Int32) then
    if yse = (10 : Int32) then
      (fn_M_fill yrw (0 : Int32) (4 : Int32) (5 : Int32)).bind fun v42 =>
        fn_M_one_J45 ymr ymm ypc yha yca ysp yfr yst yda yer yad ypg ytk yta yse (1 : Int32) v42 (4 : Int32) (ytm + (1 : Int32)) ybg yan ybs yva ynu j1 j2 (0 : Int32)
    else
      fn_M_one_J45 ymr ymm ypc yha yca ysp yfr yst yda yer yad ypg ytk yta yse (1 : Int32) yrw ywd (ytm + (1 : Int32)) ybg yan ybs yva ynu j1 j2 (0 : Int32)
  else
    if yse = (10 : Int32) then
      (fn_M_fill yrw (0 : Int32) (4 : Int32) (5 : Int32)).bind fun v42 =>
        fn_M_one_J45 ymr ymm ypc yha yca ysp yfr yst yda yer yad ypg ytk yta yse yin v42 (4 : Int32) (ytm + (1 : Int32)) ybg yan ybs yva ynu j1 j2 (0 : Int32)
    else
      fn_M_one_J45 ymr ymm ypc yha yca ysp yfr yst yda yer yad ypg ytk yta yse yin yrw ywd (ytm + (1 : Int32)) ybg yan ybs yva ynu j1 j2 (0 : Int32)
def fn_M_tick_B18 (rc : (Nat → Int32) → (Nat → Int32) → Int32 → Int32 → Int32 → Int32 → Int32 → Int32 → Int32 → Int32 → Int32 → (Nat → Int32) → (Nat → Int32) → (Nat → Int32) → Int32 → Int32 → (Nat → Int32) → Int32 → Int32 → Int32 → Int32 → Int32 → Int32 → Int32 → Int32 → Int32 → Int32 → Int32 → Int32 → Option (Int32 × (Nat → Int32) × (Nat → Int32) × Int32 × Int32 × Int32 × Int32 × Int32 × Int32 × Int32 × Int32 × Int32 × (Nat → Int32) × (Nat → Int32) × (Nat → Int32) × Int32 × Int32 × (Nat → Int32) × Int32 × Int32 × Int32 × Int32 × Int32 × Int32 × Int32)) (ymr : (Nat → Int32)) (ymm : (Nat → Int32)) (ypc : Int32) (yha : Int32) (yca : Int32) (ysp : Int32) (yfr : Int32) (yst : Int32) (yda : Int32) (yer : Int32) (yad : Int32) (ypg : (Nat → Int32)) (ytk : (Nat → Int32)) (yta : (Nat → Int32)) (yse : Int32) (yin : Int32) (yrw : (Nat → Int32)) (ywd : Int32) (ytm : Int32) (ybg : Int32) (yan : Int32) (ybs : Int32) (yva : Int32) (ynu : Int32) (z1 : Int32) (z2 : Int32) (z3 : Int32) (z4 : Int32) (z5 : Int32) : Option (Int32 × (Nat → Int32) × (Nat → Int32) × Int32 × Int32 × Int32 × Int32 × Int32 × Int32 × Int32 × Int32 × Int32 × (Nat → Int32) × (Nat → Int32) × (Nat → Int32) × Int32 × Int32 × (Nat → Int32) × Int32 × Int32 × Int32 × Int32 × Int32 × Int32 × Int32) :=
  if z1 ≤ z5 then
    some (z4, ymr, ymm, ypc, yha, yca, ysp, yfr, yst, yda, yer, yad, ypg, ytk, yta, yse, yin, yrw, ywd, ytm, ybg, yan, ybs, yva, ynu)
  else
    if ((z2 >>> (z5 &&& (31 : Int32))) &&& (1 : Int32)) = (1 : Int32) then
      (fn_M_one ymr ymm ypc yha yca ysp yfr yst yda yer yad ypg ytk yta yse yin yrw ywd ytm ybg yan ybs yva ynu (1 : Int32) ((z3 >>> (z5 &&& (31 : Int32))) &&& (1 : Int32))).bind fun v46 =>
        rc v46.2.1 v46.2.2.1 v46.2.2.2.1 v46.2.2.2.2.1 v46.2.2.2.2.2.1 v46.2.2.2.2.2.2.1 v46.2.2.2.2.2.2.2.1 v46.2.2.2.2.2.2.2.2.1 v46.2.2.2.2.2.2.2.2.2.1 v46.2.2.2.2.2.2.2.2.2.2.1 v46.2.2.2.2.2.2.2.2.2.2.2.1 v46.2.2.2.2.2.2.2.2.2.2.2.2.1 v46.2.2.2.2.2.2.2.2.2.2.2.2.2.1 v46.2.2.2.2.2.2.2.2.2.2.2.2.2.2.1 v46.2.2.2.2.2.2.2.2.2.2.2.2.2.2.2.1 v46.2.2.2.2.2.2.2.2.2.2.2.2.2.2.2.2.1 v46.2.2.2.2.2.2.2.2.2.2.2.2.2.2.2.2.2.1 v46.2.2.2.2.2.2.2.2.2.2.2.2.2.2.2.2.2.2.1 v46.2.2.2.2.2.2.2.2.2.2.2.2.2.2.2.2.2.2.2.1 v46.2.2.2.2.2.2.2.2.2.2.2.2.2.2.2.2.2.2.2.2.1 v46.2.2.2.2.2.2.2.2.2.2.2.2.2.2.2.2.2.2.2.2.2.1 v46.2.2.2.2.2.2.2.2.2.2.2.2.2.2.2.2.2.2.2.2.2.2.1 v46.2.2.2.2.2.2.2.2.2.2.2.2.2.2.2.2.2.2.2.2.2.2.2.1 v46.2.2.2.2.2.2.2.2.2.2.2.2.2.2.2.2.2.2.2.2.2.2.2.2 z1 z2 z3 (z4 ||| (v46.1 <<< (z5 &&& (31 : Int32)))) (z5 + (1 : Int32))
    else
      (fn_M_one ymr ymm ypc yha yca ysp yfr yst yda yer yad ypg ytk yta yse yin yrw ywd ytm ybg yan ybs yva ynu (0 : Int32) ((z3 >>> (z5 &&& (31 : Int32))) &&& (1 : Int32))).bind fun v46 =>
        rc v46.2.1 v46.2.2.1 v46.2.2.2.1 v46.2.2.2.2.1 v46.2.2.2.2.2.1 v46.2.2.2.2.2.2.1 v46.2.2.2.2.2.2.2.1 v46.2.2.2.2.2.2.2.2.1 v46.2.2.2.2.2.2.2.2.2.1 v46.2.2.2.2.2.2.2.2.2.2.1 v46.2.2.2.2.2.2.2.2.2.2.2.1 v46.2.2.2.2.2.2.2.2.2.2.2.2.1 v46.2.2.2.2.2.2.2.2.2.2.2.2.2.1 v46.2.2.2.2.2.2.2.2.2.2.2.2.2.2.1 v46.2.2.2.2.2.2.2.2.2.2.2.2.2.2.2.1 v46.2.2.2.2.2.2.2.2.2.2.2.2.2.2.2.2.1 v46.2.2.2.2.2.2.2.2.2.2.2.2.2.2.2.2.2.1 v46.2.2.2.2.2.2.2.2.2.2.2.2.2.2.2.2.2.2.1 v46.2.2.2.2.2.2.2.2.2.2.2.2.2.2.2.2.2.2.2.1 v46.2.2.2.2.2.2.2.2.2.2.2.2.2.2.2.2.2.2.2.2.1 v46.2.2.2.2.2.2.2.2.2.2.2.2.2.2.2.2.2.2.2.2.2.1 v46.2.2.2.2.2.2.2.2.2.2.2.2.2.2.2.2.2.2.2.2.2.2.1 v46.2.2.2.2.2.2.2.2.2.2.2.2.2.2.2.2.2.2.2.2.2.2.2.1 v46.2.2.2.2.2.2.2.2.2.2.2.2.2.2.2.2.2.2.2.2.2.2.2.2 z1 z2 z3 (z4 ||| (v46.1 <<< (z5 &&& (31 : Int32)))) (z5 + (1 : Int32))
def fn_M_tick_L18 : Nat → (Nat → Int32) → (Nat → Int32) → Int32 → Int32 → Int32 → Int32 → Int32 → Int32 → Int32 → Int32 → Int32 → (Nat → Int32) → (Nat → Int32) → (Nat → Int32) → Int32 → Int32 → (Nat → Int32) → Int32 → Int32 → Int32 → Int32 → Int32 → Int32 → Int32 → Int32 → Int32 → Int32 → Int32 → Int32 → Option (Int32 × (Nat → Int32) × (Nat → Int32) × Int32 × Int32 × Int32 × Int32 × Int32 × Int32 × Int32 × Int32 × Int32 × (Nat → Int32) × (Nat → Int32) × (Nat → Int32) × Int32 × Int32 × (Nat → Int32) × Int32 × Int32 × Int32 × Int32 × Int32 × Int32 × Int32)
  | 0 => fun _ _ _ _ _ _ _ _ _ _ _ _ _ _ _ _ _ _ _ _ _ _ _ _ _ _ _ _ _ => none
  | n + 1 => fn_M_tick_B18 (fn_M_tick_L18 n)
theorem fn_M_tick_S18 (n : Nat) : fn_M_tick_L18 (n + 1) = fn_M_tick_B18 (fn_M_tick_L18 n) := rfl
def fn_M_tick (ymr : (Nat → Int32)) (ymm : (Nat → Int32)) (ypc : Int32) (yha : Int32) (yca : Int32) (ysp : Int32) (yfr : Int32) (yst : Int32) (yda : Int32) (yer : Int32) (yad : Int32) (ypg : (Nat → Int32)) (ytk : (Nat → Int32)) (yta : (Nat → Int32)) (yse : Int32) (yin : Int32) (yrw : (Nat → Int32)) (ywd : Int32) (ytm : Int32) (ybg : Int32) (yan : Int32) (ybs : Int32) (yva : Int32) (ynu : Int32) (j1 : Int32) (j2 : Int32) (j3 : Int32) : Option (Int32 × (Nat → Int32) × (Nat → Int32) × Int32 × Int32 × Int32 × Int32 × Int32 × Int32 × Int32 × Int32 × Int32 × (Nat → Int32) × (Nat → Int32) × (Nat → Int32) × Int32 × Int32 × (Nat → Int32) × Int32 × Int32 × Int32 × Int32 × Int32 × Int32 × Int32) :=
  (fn_M_in j1 (1 : Int32) (24 : Int32)).bind fun v4 =>
    if v4 = (0 : Int32) then
      some ((-1 : Int32), ymr, ymm, ypc, yha, yca, ysp, yfr, yst, yda, yer, yad, ypg, ytk, yta, yse, yin, yrw, ywd, ytm, ybg, yan, ybs, yva, ynu)
    else
      fn_M_tick_L18 64 ymr ymm ypc yha yca ysp yfr yst yda yer yad ypg ytk yta yse yin yrw ywd ytm ybg yan ybs yva ynu j1 j2 j3 (0 : Int32) (0 : Int32)
def fn_M_state (yse : Int32) : Option (Int32) :=
  some yse
def fn_M_instruction (yin : Int32) : Option (Int32) :=
  some yin
def fn_M_register (ymr : (Nat → Int32)) (j1 : Int32) : Option (Int32) :=
  (fn_M_in j1 (0 : Int32) (7 : Int32)).bind fun v4 =>
    if v4 = (0 : Int32) then
      some (-1 : Int32)
    else
      ck j1 8 <|
        some (ymr (Int32.toNatClampNeg j1))
def fn_M_word (ymm : (Nat → Int32)) (j1 : Int32) : Option (Int32) :=
  (fn_M_in j1 (0 : Int32) (63 : Int32)).bind fun v4 =>
    if v4 = (0 : Int32) then
      some (-1 : Int32)
    else
      ck j1 64 <|
        some (ymm (Int32.toNatClampNeg j1))
def fn_M_pc (ypc : Int32) : Option (Int32) :=
  some ypc
def fn_M_steps (yst : Int32) : Option (Int32) :=
  some yst
