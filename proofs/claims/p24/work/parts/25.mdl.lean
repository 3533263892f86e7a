/-! A MODEL OF A TOWN AND ITS NIGHT, as plain functions (rows of the proof of whole, without their walks): what layer 2 speaks of -/
def kS (M : St) : St := fun k => match k with
  | 1 => M 8
  | 2 => M 9
  | 3 => M 12
  | _ => fun _ => 0
def f3_thrown (M : St) : Option (Int32) :=
  some (M 0 0)
def f3_fail (M : St) (p1 : Int32) : Option (Int32 × St) :=
  lt_ (up2 M 0 0 p1) fun M1 =>
  some (0, M1)
def f3_isIn (p1 : Int32) (p2 : Int32) (p3 : Int32) : Option (Int32) :=
  if p1 < p2 then
  (
    some 0
  )
  else
  (
    if p3 < p1 then
    (
      some 0
    )
    else
    (
      some 1
    )
  )
def f3_isCorner (M : St) (p1 : Int32) : Option (Int32) :=
  bd (f3_isIn p1 0 ((M 1 0) - 1)) fun v1 =>
  some v1
def f3_isStreet (M : St) (p1 : Int32) : Option (Int32) :=
  bd (f3_isIn p1 0 ((M 2 0) - 1)) fun v1 =>
  some v1
def f3_isLamp (M : St) (p1 : Int32) : Option (Int32) :=
  bd (f3_isIn p1 0 ((M 3 0) - 1)) fun v1 =>
  some v1
def f3_isLighter (M : St) (p1 : Int32) : Option (Int32) :=
  bd (f3_isIn p1 0 ((M 4 0) - 1)) fun v1 =>
  some v1
def f3_ro (M : St) (p1 : Int32) (p2 : Int32) : Option (Int32) :=
  gd (xin ((3 * p1) + p2) 54) <|
  some (M 6 ((3 * p1) + p2).toNatClampNeg)
def f3_la (M : St) (p1 : Int32) (p2 : Int32) : Option (Int32) :=
  gd (xin ((8 * p1) + p2) 160) <|
  some (M 8 ((8 * p1) + p2).toNatClampNeg)
def f3_setLamp (M : St) (p1 : Int32) (p2 : Int32) (p3 : Int32) : Option (St) :=
  gd (xin ((8 * p1) + p2) 160) <|
  lt_ (up2 M 8 ((8 * p1) + p2).toNatClampNeg p3) fun M2 =>
  some M2
def f3_pe (M : St) (p1 : Int32) (p2 : Int32) : Option (Int32) :=
  gd (xin ((10 * p1) + p2) 40) <|
  some (M 9 ((10 * p1) + p2).toNatClampNeg)
def f3_put (M : St) (p1 : Int32) (p2 : Int32) (p3 : Int32) : Option (St) :=
  gd (xin ((10 * p1) + p2) 40) <|
  lt_ (up2 M 9 ((10 * p1) + p2).toNatClampNeg p3) fun M2 =>
  some M2
def f3_reckon_L12 (v1 : Int32) (K : St → Option (St)) : Nat → Int32 → St → Option (St)
  | 0, _, _ => none
  | fu + 1, v4, M5 =>
  if (M5 1 0) ≤ v4 then
  (
    K M5
  )
  else
  (
    lt_ (fun (v7 : Int32) =>
    (
      gd (xin ((12 * v1) + v4) 144) <|
      lt_ (up2 M5 7 ((12 * v1) + v4).toNatClampNeg v7) fun M9 =>
      f3_reckon_L12 v1 K fu (v4 + 1) M9
    )
    ) fun J42 =>
    if v1 = v4 then
    (
      J42 0
    )
    else
    (
      J42 9999
    )
  )
def f3_reckon_L2 (K : St → Option (St)) : Nat → Int32 → St → Option (St)
  | 0, _, _ => none
  | fu + 1, v1, M2 =>
  if (M2 1 0) ≤ v1 then
  (
    K M2
  )
  else
  (
    f3_reckon_L12 v1 (fun (M6 : St) =>
    (
      f3_reckon_L2 K fu (v1 + 1) M6
    )
    ) xF 0 M2
  )
def f3_reckon_L67 (v10 : Int32) (K : St → Option (St)) : Nat → Int32 → St → Option (St)
  | 0, _, _ => none
  | fu + 1, v13, M14 =>
  if 2 ≤ v13 then
  (
    K M14
  )
  else
  (
    lt_ (fun (v16 : Int32) =>
    (
      bd (f3_ro M14 v10 v16) fun v17 =>
      lt_ (fun (v20 : Int32) =>
      (
        bd (f3_ro M14 v10 v20) fun v21 =>
        bd (f3_ro M14 v10 2) fun v24 =>
        gd (xin v21 12) <|
        gd (xin v17 12) <|
        lt_ (v24 + ((if (0 : Int32) < ((M14 5 v21.toNatClampNeg) - (M14 5 v17.toNatClampNeg)) then ((M14 5 v21.toNatClampNeg) - (M14 5 v17.toNatClampNeg)) else (0 : Int32)) / 2)) fun v29 =>
        gd (xin ((12 * v17) + v21) 144) <|
        lt_ (up2 M14 7 ((12 * v17) + v21).toNatClampNeg (if v29 < (M14 7 ((12 * v17) + v21).toNatClampNeg) then v29 else (M14 7 ((12 * v17) + v21).toNatClampNeg))) fun M31 =>
        f3_reckon_L67 v10 K fu (v13 + 1) M31
      )
      ) fun J98 =>
      if v13 = 0 then
      (
        J98 1
      )
      else
      (
        J98 0
      )
    )
    ) fun J83 =>
    if v13 = 0 then
    (
      J83 0
    )
    else
    (
      J83 1
    )
  )
def f3_reckon_L57 (K : St → Option (St)) : Nat → Int32 → St → Option (St)
  | 0, _, _ => none
  | fu + 1, v10, M11 =>
  if (M11 2 0) ≤ v10 then
  (
    K M11
  )
  else
  (
    f3_reckon_L67 v10 (fun (M15 : St) =>
    (
      f3_reckon_L57 K fu (v10 + 1) M15
    )
    ) xF 0 M11
  )
def f3_reckon_L195 (v32 : Int32) (v34 : Int32) (K : St → Option (St)) : Nat → Int32 → St → Option (St)
  | 0, _, _ => none
  | fu + 1, v37, M38 =>
  if (M38 1 0) ≤ v37 then
  (
    K M38
  )
  else
  (
    gd (xin ((12 * v34) + v37) 144) <|
    gd (xin ((12 * v34) + v32) 144) <|
    gd (xin ((12 * v32) + v37) 144) <|
    lt_ (up2 M38 7 ((12 * v34) + v37).toNatClampNeg (if ((M38 7 ((12 * v34) + v32).toNatClampNeg) + (M38 7 ((12 * v32) + v37).toNatClampNeg)) < (M38 7 ((12 * v34) + v37).toNatClampNeg) then ((M38 7 ((12 * v34) + v32).toNatClampNeg) + (M38 7 ((12 * v32) + v37).toNatClampNeg)) else (M38 7 ((12 * v34) + v37).toNatClampNeg))) fun M43 =>
    f3_reckon_L195 v32 v34 K fu (v37 + 1) M43
  )
def f3_reckon_L185 (v32 : Int32) (K : St → Option (St)) : Nat → Int32 → St → Option (St)
  | 0, _, _ => none
  | fu + 1, v34, M35 =>
  if (M35 1 0) ≤ v34 then
  (
    K M35
  )
  else
  (
    f3_reckon_L195 v32 v34 (fun (M39 : St) =>
    (
      f3_reckon_L185 v32 K fu (v34 + 1) M39
    )
    ) xF 0 M35
  )
def f3_reckon_L175 : Nat → Int32 → St → Option (St)
  | 0, _, _ => none
  | fu + 1, v32, M33 =>
  if (M33 1 0) ≤ v32 then
  (
    some M33
  )
  else
  (
    f3_reckon_L185 v32 (fun (M36 : St) =>
    (
      f3_reckon_L175 fu (v32 + 1) M36
    )
    ) xF 0 M33
  )
def f3_reckon (M : St) : Option (St) :=
  f3_reckon_L2 (fun (M3 : St) =>
  (
    f3_reckon_L57 (fun (M12 : St) =>
    (
      f3_reckon_L175 xF 0 M12
    )
    ) xF 0 M3
  )
  ) xF 0 M
def f3_corner (M : St) (p1 : Int32) : Option (Int32 × St) :=
  lt_ (up2 M 0 0 0) fun M1 =>
  bd (f3_isIn p1 0 30) fun v2 =>
  if v2 = 0 then
  (
    bd2 (f3_fail M1 1) fun v14 M15 =>
    some (v14, M15)
  )
  else
  (
    if (M1 1 0) = 12 then
    (
      bd2 (f3_fail M1 2) fun v10 M11 =>
      some (v10, M11)
    )
    else
    (
      gd (xin (M1 1 0) 12) <|
      lt_ (up2 M1 5 (M1 1 0).toNatClampNeg p1) fun M6 =>
      lt_ (up2 M6 1 0 ((M6 1 0) + 1)) fun M7 =>
      bd (f3_reckon M7) fun M8 =>
      some (((M8 1 0) - 1), M8)
    )
  )
def f3_street (M : St) (p1 : Int32) (p2 : Int32) (p3 : Int32) : Option (Int32 × St) :=
  lt_ (up2 M 0 0 0) fun M1 =>
  bd (f3_isCorner M1 p1) fun v2 =>
  lt_ (fun (u_ : Unit) =>
  (
    bd2 (f3_fail M1 1) fun v5 M6 =>
    some (v5, M6)
  )
  ) fun J21 =>
  if v2 = 0 then
  (
    J21 ()
  )
  else
  (
    bd (f3_isCorner M1 p2) fun v9 =>
    if v9 = 0 then
    (
      J21 ()
    )
    else
    (
      lt_ (fun (u_ : Unit) =>
      (
        bd2 (f3_fail M1 2) fun v12 M13 =>
        some (v12, M13)
      )
      ) fun J42 =>
      if p1 = p2 then
      (
        J42 ()
      )
      else
      (
        bd (f3_isIn p3 1 9) fun v16 =>
        if v16 = 0 then
        (
          J42 ()
        )
        else
        (
          if (M1 2 0) = 18 then
          (
            bd2 (f3_fail M1 3) fun v31 M32 =>
            some (v31, M32)
          )
          else
          (
            lt_ (upd ((fun _ => 0)) (0 : Int32).toNatClampNeg p1) fun f21 =>
            lt_ (upd f21 (1 : Int32).toNatClampNeg p2) fun f23 =>
            lt_ (upd f23 (2 : Int32).toNatClampNeg p3) fun f25 =>
            gd (xcp 0 (3 * (M1 2 0)) 3 3 54) <|
            lt_ (up1 M1 6 (va_cpy (f25) (M1 6) (0 : Int32).toNatClampNeg (3 * (M1 2 0)).toNatClampNeg (3 : Int32).toNatClampNeg)) fun M27 =>
            lt_ (up2 M27 2 0 ((M27 2 0) + 1)) fun M28 =>
            bd (f3_reckon M28) fun M29 =>
            some (((M29 2 0) - 1), M29)
          )
        )
      )
    )
  )
def f3_lamp (M : St) (p1 : Int32) (p2 : Int32) : Option (Int32 × St) :=
  lt_ (up2 M 0 0 0) fun M1 =>
  bd (f3_isStreet M1 p1) fun v2 =>
  if v2 = 0 then
  (
    bd2 (f3_fail M1 1) fun v36 M37 =>
    some (v36, M37)
  )
  else
  (
    bd (f3_isIn p2 2 9) fun v5 =>
    if v5 = 0 then
    (
      bd2 (f3_fail M1 2) fun v32 M33 =>
      some (v32, M33)
    )
    else
    (
      if (M1 3 0) = 20 then
      (
        bd2 (f3_fail M1 3) fun v28 M29 =>
        some (v28, M29)
      )
      else
      (
        lt_ (upd ((fun _ => 0)) (0 : Int32).toNatClampNeg p1) fun f10 =>
        lt_ (upd f10 (1 : Int32).toNatClampNeg p2) fun f12 =>
        lt_ (upd f12 (2 : Int32).toNatClampNeg 0) fun f14 =>
        lt_ (upd f14 (3 : Int32).toNatClampNeg 0) fun f16 =>
        lt_ (upd f16 (4 : Int32).toNatClampNeg 0) fun f18 =>
        lt_ (upd f18 (5 : Int32).toNatClampNeg 0) fun f20 =>
        lt_ (upd f20 (6 : Int32).toNatClampNeg 0) fun f22 =>
        lt_ (upd f22 (7 : Int32).toNatClampNeg 0) fun f24 =>
        gd (xcp 0 (8 * (M1 3 0)) 8 8 160) <|
        lt_ (up1 M1 8 (va_cpy (f24) (M1 8) (0 : Int32).toNatClampNeg (8 * (M1 3 0)).toNatClampNeg (8 : Int32).toNatClampNeg)) fun M26 =>
        lt_ (up2 M26 3 0 ((M26 3 0) + 1)) fun M27 =>
        some (((M27 3 0) - 1), M27)
      )
    )
  )
def f3_lid (M : St) (p1 : Int32) (p2 : Int32) : Option (Int32 × St) :=
  lt_ (up2 M 0 0 0) fun M1 =>
  bd (f3_isLamp M1 p1) fun v2 =>
  if v2 = 0 then
  (
    bd2 (f3_fail M1 1) fun v17 M18 =>
    some (v17, M18)
  )
  else
  (
    bd (f3_isIn p2 0 9) fun v5 =>
    if v5 = 0 then
    (
      bd2 (f3_fail M1 2) fun v13 M14 =>
      some (v13, M14)
    )
    else
    (
      bd (f3_la M1 p1 2) fun v8 =>
      bd (f3_setLamp M1 p1 2 p2) fun M11 =>
      some (v8, M11)
    )
  )
def f3_setWind (M : St) (p1 : Int32) (p2 : Int32) : Option (Int32 × St) :=
  lt_ (up2 M 0 0 0) fun M1 =>
  bd (f3_isIn p1 0 9) fun v2 =>
  if v2 = 0 then
  (
    bd2 (f3_fail M1 1) fun v15 M16 =>
    some (v15, M16)
  )
  else
  (
    bd (f3_isIn p2 0 9) fun v5 =>
    if v5 = 0 then
    (
      bd2 (f3_fail M1 2) fun v11 M12 =>
      some (v11, M12)
    )
    else
    (
      gd (xin p1 10) <|
      lt_ (M1 11 p1.toNatClampNeg) fun v9 =>
      lt_ (up2 M1 11 p1.toNatClampNeg p2) fun M10 =>
      some (v9, M10)
    )
  )
def f3_hire (M : St) (p1 : Int32) (p2 : Int32) (p3 : Int32) : Option (Int32 × St) :=
  lt_ (up2 M 0 0 0) fun M1 =>
  bd (f3_isCorner M1 p1) fun v2 =>
  if v2 = 0 then
  (
    bd2 (f3_fail M1 1) fun v43 M44 =>
    some (v43, M44)
  )
  else
  (
    bd (f3_isIn p2 1 9) fun v5 =>
    lt_ (fun (u_ : Unit) =>
    (
      bd2 (f3_fail M1 2) fun v8 M9 =>
      some (v8, M9)
    )
    ) fun J40 =>
    if v5 = 0 then
    (
      J40 ()
    )
    else
    (
      bd (f3_isIn p3 0 999) fun v12 =>
      if v12 = 0 then
      (
        J40 ()
      )
      else
      (
        if (M1 4 0) = 4 then
        (
          bd2 (f3_fail M1 3) fun v39 M40 =>
          some (v39, M40)
        )
        else
        (
          lt_ (upd ((fun _ => 0)) (0 : Int32).toNatClampNeg p1) fun f17 =>
          lt_ (upd f17 (1 : Int32).toNatClampNeg p1) fun f19 =>
          lt_ (upd f19 (2 : Int32).toNatClampNeg p2) fun f21 =>
          lt_ (upd f21 (3 : Int32).toNatClampNeg p3) fun f23 =>
          lt_ (upd f23 (4 : Int32).toNatClampNeg 0) fun f25 =>
          lt_ (upd f25 (5 : Int32).toNatClampNeg (-1)) fun f27 =>
          lt_ (upd f27 (6 : Int32).toNatClampNeg 0) fun f29 =>
          lt_ (upd f29 (7 : Int32).toNatClampNeg (-1)) fun f31 =>
          lt_ (upd f31 (8 : Int32).toNatClampNeg (-1)) fun f33 =>
          lt_ (upd f33 (9 : Int32).toNatClampNeg 0) fun f35 =>
          gd (xcp 0 (10 * (M1 4 0)) 10 10 40) <|
          lt_ (up1 M1 9 (va_cpy (f35) (M1 9) (0 : Int32).toNatClampNeg (10 * (M1 4 0)).toNatClampNeg (10 : Int32).toNatClampNeg)) fun M37 =>
          lt_ (up2 M37 4 0 ((M37 4 0) + 1)) fun M38 =>
          some (((M38 4 0) - 1), M38)
        )
      )
    )
  )
def f3_round_L40 (p1 : Int32) (p2 : Int32) (v12 : Int32) (M1 : St) (K : Int32 → Option (Int32 × St)) : Nat → Int32 → Int32 → Option (Int32 × St)
  | 0, _, _ => none
  | fu + 1, v15, v16 =>
  if v12 ≤ v16 then
  (
    K v15
  )
  else
  (
    gd (xin ((10 * p1) + v16) 40) <|
    lt_ (fun (v19 : Int32) =>
    (
      lt_ (v15 ||| v19) fun v20 =>
      f3_round_L40 p1 p2 v12 M1 K fu v20 (v16 + 1)
    )
    ) fun J69 =>
    if (M1 10 ((10 * p1) + v16).toNatClampNeg) = p2 then
    (
      J69 1
    )
    else
    (
      J69 0
    )
  )
def f3_round (M : St) (p1 : Int32) (p2 : Int32) : Option (Int32 × St) :=
  lt_ (up2 M 0 0 0) fun M1 =>
  bd (f3_isLighter M1 p1) fun v2 =>
  lt_ (fun (u_ : Unit) =>
  (
    bd2 (f3_fail M1 1) fun v5 M6 =>
    some (v5, M6)
  )
  ) fun J21 =>
  if v2 = 0 then
  (
    J21 ()
  )
  else
  (
    bd (f3_isLamp M1 p2) fun v9 =>
    if v9 = 0 then
    (
      J21 ()
    )
    else
    (
      bd (f3_pe M1 p1 4) fun v12 =>
      f3_round_L40 p1 p2 v12 M1 (fun (v17 : Int32) =>
      (
        lt_ (fun (u_ : Unit) =>
        (
          bd2 (f3_fail M1 2) fun v21 M22 =>
          some (v21, M22)
        )
        ) fun J89 =>
        if v17 = 0 then
        (
          if v12 = 10 then
          (
            J89 ()
          )
          else
          (
            gd (xin ((10 * p1) + v12) 40) <|
            lt_ (up2 M1 10 ((10 * p1) + v12).toNatClampNeg p2) fun M26 =>
            bd (f3_put M26 p1 4 (v12 + 1)) fun M27 =>
            some ((v12 + 1), M27)
          )
        )
        else
        (
          J89 ()
        )
      )
      ) xF 0 0
    )
  )
def f3_fill (M : St) (p1 : Int32) (p2 : Int32) : Option (Int32 × St) :=
  lt_ (up2 M 0 0 0) fun M1 =>
  bd (f3_isLighter M1 p1) fun v2 =>
  if v2 = 0 then
  (
    bd2 (f3_fail M1 1) fun v20 M21 =>
    some (v20, M21)
  )
  else
  (
    bd (f3_isIn p2 1 999) fun v5 =>
    if v5 = 0 then
    (
      bd2 (f3_fail M1 2) fun v16 M17 =>
      some (v16, M17)
    )
    else
    (
      bd (f3_pe M1 p1 3) fun v8 =>
      bd (f3_put M1 p1 3 (if (v8 + p2) < (999 : Int32) then (v8 + p2) else (999 : Int32))) fun M11 =>
      bd (f3_pe M11 p1 3) fun v13 =>
      some (v13, M11)
    )
  )
def f3_away (M : St) (p1 : Int32) (p2 : Int32) : Option (Int32) :=
  gd (xin ((12 * p1) + p2) 144) <|
  some (if (M 7 ((12 * p1) + p2).toNatClampNeg) < (9999 : Int32) then (M 7 ((12 * p1) + p2).toNatClampNeg) else (9999 : Int32))
def f3_way (M : St) (p1 : Int32) (p2 : Int32) : Option (Int32 × St) :=
  lt_ (up2 M 0 0 0) fun M1 =>
  bd (f3_isCorner M1 p1) fun v2 =>
  lt_ (fun (u_ : Unit) =>
  (
    bd2 (f3_fail M1 1) fun v5 M6 =>
    some (v5, M6)
  )
  ) fun J21 =>
  if v2 = 0 then
  (
    J21 ()
  )
  else
  (
    bd (f3_isCorner M1 p2) fun v9 =>
    if v9 = 0 then
    (
      J21 ()
    )
    else
    (
      bd (f3_away M1 p1 p2) fun v12 =>
      if v12 = 9999 then
      (
        some ((-1), M1)
      )
      else
      (
        bd (f3_away M1 p1 p2) fun v15 =>
        some (v15, M1)
      )
    )
  )
def f3_goer_L2 (p1 : Int32) (M : St) : Nat → Int32 → Option (Int32)
  | 0, _ => none
  | fu + 1, v1 =>
  if (M 4 0) ≤ v1 then
  (
    some (-1)
  )
  else
  (
    bd (f3_pe M v1 5) fun v2 =>
    if v2 = p1 then
    (
      some v1
    )
    else
    (
      f3_goer_L2 p1 M fu (v1 + 1)
    )
  )
def f3_goer (M : St) (p1 : Int32) : Option (Int32) :=
  f3_goer_L2 p1 M xF 0
def f3_lampTold (M : St) (p1 : Int32) (p2 : Int32) : Option (Int32) :=
  if 6 ≤ p2 then
  (
    if p2 = 6 then
    (
      bd (f3_goer M p1) fun v4 =>
      some v4
    )
    else
    (
      bd (f3_la M p1 (p2 - 1)) fun v1 =>
      some v1
    )
  )
  else
  (
    bd (f3_la M p1 p2) fun v7 =>
    some v7
  )
def f3_told (M : St) (p1 : Int32) (p2 : Int32) : Option (Int32 × St) :=
  lt_ (up2 M 0 0 0) fun M1 =>
  bd (f3_isLamp M1 p1) fun v2 =>
  lt_ (fun (u_ : Unit) =>
  (
    bd2 (f3_fail M1 1) fun v5 M6 =>
    some (v5, M6)
  )
  ) fun J32 =>
  if v2 = 0 then
  (
    J32 ()
  )
  else
  (
    bd (f3_isIn p2 0 8) fun v9 =>
    if v9 = 0 then
    (
      J32 ()
    )
    else
    (
      bd (f3_lampTold M1 p1 p2) fun v12 =>
      some (v12, M1)
    )
  )
def f3_lighterTold (M : St) (p1 : Int32) (p2 : Int32) : Option (Int32) :=
  bd (f3_pe M p1 1) fun v2 =>
  lt_ (upd ((fun _ => 0)) (0 : Int32).toNatClampNeg v2) fun f6 =>
  bd (f3_pe M p1 2) fun v7 =>
  lt_ (upd f6 (1 : Int32).toNatClampNeg v7) fun f11 =>
  bd (f3_pe M p1 3) fun v12 =>
  lt_ (upd f11 (2 : Int32).toNatClampNeg v12) fun f16 =>
  bd (f3_pe M p1 4) fun v17 =>
  lt_ (upd f16 (3 : Int32).toNatClampNeg v17) fun f21 =>
  bd (f3_pe M p1 5) fun v22 =>
  lt_ (upd f21 (4 : Int32).toNatClampNeg v22) fun f26 =>
  bd (f3_pe M p1 6) fun v27 =>
  lt_ (upd f26 (5 : Int32).toNatClampNeg v27) fun f31 =>
  bd (f3_pe M p1 9) fun v32 =>
  lt_ (upd f31 (6 : Int32).toNatClampNeg v32) fun f36 =>
  gd (xin p2 7) <|
  some (f36 p2.toNatClampNeg)
def f3_lighter (M : St) (p1 : Int32) (p2 : Int32) : Option (Int32 × St) :=
  lt_ (up2 M 0 0 0) fun M1 =>
  bd (f3_isLighter M1 p1) fun v2 =>
  lt_ (fun (u_ : Unit) =>
  (
    bd2 (f3_fail M1 1) fun v5 M6 =>
    some (v5, M6)
  )
  ) fun J32 =>
  if v2 = 0 then
  (
    J32 ()
  )
  else
  (
    bd (f3_isIn p2 0 6) fun v9 =>
    if v9 = 0 then
    (
      J32 ()
    )
    else
    (
      bd (f3_lighterTold M1 p1 p2) fun v12 =>
      some (v12, M1)
    )
  )
def f3_burns_L4 (p1 : Int32) (M : St) : Nat → Int32 → Int32 → Option (Int32)
  | 0, _, _ => none
  | fu + 1, v1, v2 =>
  if (M 3 0) ≤ v2 then
  (
    some v1
  )
  else
  (
    bd (f3_la M v2 0) fun v3 =>
    lt_ (fun (v6 : Int32) =>
    (
      lt_ (v1 + v6) fun v7 =>
      f3_burns_L4 p1 M fu v7 (v2 + 1)
    )
    ) fun J33 =>
    if v3 = p1 then
    (
      bd (f3_la M v2 5) fun v8 =>
      J33 v8
    )
    else
    (
      J33 0
    )
  )
def f3_burns (M : St) (p1 : Int32) : Option (Int32) :=
  f3_burns_L4 p1 M xF 0 0
def f3_burning (M : St) (p1 : Int32) : Option (Int32 × St) :=
  lt_ (up2 M 0 0 0) fun M1 =>
  bd (f3_isStreet M1 p1) fun v2 =>
  if v2 = 0 then
  (
    bd2 (f3_fail M1 1) fun v5 M6 =>
    some (v5, M6)
  )
  else
  (
    bd (f3_burns M1 p1) fun v9 =>
    some (v9, M1)
  )
def f3_all_L4 (p1 : Int32) (M : St) : Nat → Int32 → Int32 → Option (Int32)
  | 0, _, _ => none
  | fu + 1, v1, v2 =>
  if (M 3 0) ≤ v2 then
  (
    some v1
  )
  else
  (
    bd (f3_la M v2 p1) fun v3 =>
    lt_ (v1 + v3) fun v6 =>
    f3_all_L4 p1 M fu v6 (v2 + 1)
  )
def f3_all (M : St) (p1 : Int32) : Option (Int32) :=
  f3_all_L4 p1 M xF 0 0
def f3_dark_L4 (M : St) : Nat → Int32 → Int32 → Option (Int32)
  | 0, _, _ => none
  | fu + 1, v1, v2 =>
  if (M 2 0) ≤ v2 then
  (
    some v1
  )
  else
  (
    bd (f3_burns M v2) fun v3 =>
    lt_ (fun (v6 : Int32) =>
    (
      lt_ (v1 + v6) fun v7 =>
      f3_dark_L4 M fu v7 (v2 + 1)
    )
    ) fun J26 =>
    if v3 = 0 then
    (
      J26 1
    )
    else
    (
      J26 0
    )
  )
def f3_dark (M : St) : Option (Int32) :=
  f3_dark_L4 M xF 0 0
def f3_counted (M : St) (p1 : Int32) : Option (Int32) :=
  lt_ (upd ((fun _ => 0)) (0 : Int32).toNatClampNeg (M 12 (0 : Int32).toNatClampNeg)) fun f4 =>
  lt_ (upd f4 (1 : Int32).toNatClampNeg (M 12 (1 : Int32).toNatClampNeg)) fun f7 =>
  lt_ (upd f7 (2 : Int32).toNatClampNeg (M 1 0)) fun f9 =>
  lt_ (upd f9 (3 : Int32).toNatClampNeg (M 2 0)) fun f11 =>
  lt_ (upd f11 (4 : Int32).toNatClampNeg (M 3 0)) fun f13 =>
  bd (f3_all M 5) fun v14 =>
  lt_ (upd f13 (5 : Int32).toNatClampNeg v14) fun f18 =>
  bd (f3_dark M) fun v19 =>
  lt_ (upd f18 (6 : Int32).toNatClampNeg v19) fun f23 =>
  lt_ (upd f23 (7 : Int32).toNatClampNeg (M 4 0)) fun f25 =>
  bd (f3_all M 3) fun v26 =>
  lt_ (upd f25 (8 : Int32).toNatClampNeg v26) fun f30 =>
  lt_ (upd f30 (9 : Int32).toNatClampNeg (M 12 (2 : Int32).toNatClampNeg)) fun f33 =>
  gd (xin p1 10) <|
  some (f33 p1.toNatClampNeg)
def f3_count (M : St) (p1 : Int32) : Option (Int32 × St) :=
  lt_ (up2 M 0 0 0) fun M1 =>
  bd (f3_isIn p1 0 9) fun v2 =>
  if v2 = 0 then
  (
    bd2 (f3_fail M1 1) fun v5 M6 =>
    some (v5, M6)
  )
  else
  (
    bd (f3_counted M1 p1) fun v9 =>
    some (v9, M1)
  )
def f3_corner_ (M : St) (p1 : Int32) (p2 : Int32) : Option (Int32) :=
  bd (f3_la M p2 0) fun v1 =>
  bd (f3_ro M v1 0) fun v4 =>
  bd (f3_la M p2 0) fun v7 =>
  bd (f3_ro M v7 1) fun v10 =>
  bd (f3_pe M p1 1) fun v13 =>
  bd (f3_away M v13 v10) fun v16 =>
  bd (f3_pe M p1 1) fun v19 =>
  bd (f3_away M v19 v4) fun v22 =>
  lt_ (fun (v25 : Int32) =>
  (
    bd (f3_la M p2 1) fun v26 =>
    bd (f3_pe M p1 2) fun v29 =>
    lt_ (fun (u_ : Unit) =>
    (
      some (-1)
    )
    ) fun J94 =>
    if (v29 + 2) < v26 then
    (
      J94 ()
    )
    else
    (
      bd (f3_pe M p1 1) fun v32 =>
      bd (f3_away M v32 v25) fun v35 =>
      if v35 = 9999 then
      (
        J94 ()
      )
      else
      (
        some v25
      )
    )
  )
  ) fun J57 =>
  if v22 ≤ v16 then
  (
    J57 v4
  )
  else
  (
    J57 v10
  )
def f3_look_L9 (p1 : Int32) (v1 : Int32) (M : St) (K : Int32 → Int32 → Option (St)) : Nat → Int32 → Option (St)
  | 0, _ => none
  | fu + 1, v4 =>
  if v1 < v4 then
  (
    some M
  )
  else
  (
    bd (f3_pe M p1 8) fun v7 =>
    gd (decide (¬ v1 = 0)) <|
    lt_ ((v7 + v4) - (v7 + v4) / v1 * v1) fun v11 =>
    gd (xin ((10 * p1) + v11) 40) <|
    lt_ (M 10 ((10 * p1) + v11).toNatClampNeg) fun v13 =>
    bd (f3_la M v13 5) fun v14 =>
    lt_ (fun (u_ : Unit) =>
    (
      f3_look_L9 p1 v1 M K fu (v4 + 1)
    )
    ) fun J154 =>
    if v14 = 1 then
    (
      J154 ()
    )
    else
    (
      bd (f3_goer M v13) fun v17 =>
      if v17 = (-1) then
      (
        bd (f3_corner_ M p1 v13) fun v20 =>
        if v20 = (-1) then
        (
          J154 ()
        )
        else
        (
          K v11 v13
        )
      )
      else
      (
        J154 ()
      )
    )
  )
def f3_look (M : St) (p1 : Int32) : Option (St) :=
  bd (f3_pe M p1 4) fun v1 =>
  f3_look_L9 p1 v1 M (fun (v5 : Int32) (v6 : Int32) =>
  (
    bd (f3_pe M p1 3) fun v23 =>
    lt_ (fun (u_ : Unit) =>
    (
      bd (f3_put M p1 5 v6) fun M26 =>
      bd (f3_corner_ M26 p1 v6) fun v28 =>
      bd (f3_put M26 p1 7 v28) fun M31 =>
      bd (f3_pe M31 p1 1) fun v33 =>
      bd (f3_pe M31 p1 7) fun v36 =>
      bd (f3_away M31 v33 v36) fun v39 =>
      bd (f3_put M31 p1 6 (v39 + 3)) fun M42 =>
      bd (f3_put M42 p1 8 v5) fun M44 =>
      some M44
    )
    ) fun J96 =>
    if v23 = 0 then
    (
      bd (f3_la M v6 3) fun v46 =>
      if v46 = 0 then
      (
        some M
      )
      else
      (
        J96 ()
      )
    )
    else
    (
      J96 ()
    )
  )
  ) xF 1
def f3_goOn (M : St) (p1 : Int32) : Option (Int32 × St) :=
  bd (f3_pe M p1 5) fun v1 =>
  lt_ (fun (M4 : St) =>
  (
    bd (f3_pe M4 p1 5) fun v5 =>
    if v5 = (-1) then
    (
      some ((-1), M4)
    )
    else
    (
      bd (f3_pe M4 p1 6) fun v8 =>
      bd (f3_put M4 p1 6 (v8 - 1)) fun M11 =>
      bd (f3_pe M11 p1 6) fun v13 =>
      if v13 ≤ 0 then
      (
        bd (f3_pe M11 p1 7) fun v16 =>
        bd (f3_put M11 p1 1 v16) fun M19 =>
        bd (f3_put M19 p1 5 (-1)) fun M21 =>
        bd (f3_la M21 v5 3) fun v23 =>
        bd (f3_pe M21 p1 3) fun v26 =>
        lt_ (if v26 < (300 - v23) then v26 else (300 - v23)) fun v29 =>
        bd (f3_pe M21 p1 3) fun v30 =>
        bd (f3_put M21 p1 3 (v30 - v29)) fun M33 =>
        bd (f3_la M33 v5 3) fun v35 =>
        bd (f3_setLamp M33 v5 3 (v35 + v29)) fun M38 =>
        bd (f3_setLamp M38 v5 4 0) fun M40 =>
        bd (f3_la M40 v5 3) fun v42 =>
        if v42 ≤ 0 then
        (
          some (v5, M40)
        )
        else
        (
          bd (f3_setLamp M40 v5 5 1) fun M45 =>
          bd (f3_la M45 v5 6) fun v47 =>
          bd (f3_setLamp M45 v5 6 (v47 + 1)) fun M50 =>
          bd (f3_pe M50 p1 9) fun v52 =>
          bd (f3_put M50 p1 9 (v52 + 1)) fun M55 =>
          some (v5, M55)
        )
      )
      else
      (
        some ((-1), M11)
      )
    )
  )
  ) fun J15 =>
  if v1 = (-1) then
  (
    bd (f3_look M p1) fun M57 =>
    J15 M57
  )
  else
  (
    J15 M
  )
def f3_gust (M : St) (p1 : Int32) (p2 : Int32) : Option (Int32) :=
  bd (f3_la M p1 0) fun v1 =>
  bd (f3_ro M v1 0) fun v4 =>
  gd (xin v4 12) <|
  bd (f3_la M p1 0) fun v8 =>
  bd (f3_ro M v8 1) fun v11 =>
  gd (xin v11 12) <|
  some (p2 + ((if (M 5 v4.toNatClampNeg) < (M 5 v11.toNatClampNeg) then (M 5 v11.toNatClampNeg) else (M 5 v4.toNatClampNeg)) / 10))
def f3_burn (M : St) (p1 : Int32) : Option (St) :=
  bd (f3_la M p1 5) fun v1 =>
  if v1 = 0 then
  (
    some M
  )
  else
  (
    bd (f3_la M p1 3) fun v4 =>
    bd (f3_la M p1 4) fun v7 =>
    lt_ (fun (v10 : Int32) =>
    (
      lt_ (if v10 < v4 then v10 else v4) fun v11 =>
      bd (f3_la M p1 3) fun v12 =>
      bd (f3_setLamp M p1 3 (v12 - v11)) fun M15 =>
      lt_ (up2 M15 12 (2 : Int32).toNatClampNeg ((M15 12 (2 : Int32).toNatClampNeg) + v11)) fun M18 =>
      bd (f3_la M18 p1 3) fun v19 =>
      lt_ (fun (M22 : St) =>
      (
        bd (f3_la M22 p1 5) fun v23 =>
        if v23 = 0 then
        (
          some M22
        )
        else
        (
          if ((M22 12 (0 : Int32).toNatClampNeg) - (M22 12 (0 : Int32).toNatClampNeg) / 10 * 10) = 0 then
          (
            gd (xin ((M22 12 (0 : Int32).toNatClampNeg) / 60) 10) <|
            bd (f3_gust M22 p1 (M22 11 ((M22 12 (0 : Int32).toNatClampNeg) / 60).toNatClampNeg)) fun v28 =>
            bd (f3_la M22 p1 2) fun v31 =>
            if (v31 + 4) < v28 then
            (
              bd (f3_setLamp M22 p1 5 0) fun M34 =>
              bd (f3_la M34 p1 7) fun v36 =>
              bd (f3_setLamp M34 p1 7 (v36 + 1)) fun M39 =>
              some M39
            )
            else
            (
              some M22
            )
          )
          else
          (
            some M22
          )
        )
      )
      ) fun J109 =>
      if v19 = 0 then
      (
        bd (f3_setLamp M18 p1 5 0) fun M47 =>
        J109 M47
      )
      else
      (
        if ((M18 12 (0 : Int32).toNatClampNeg) - (M18 12 (0 : Int32).toNatClampNeg) / 30 * 30) = 0 then
        (
          bd (f3_la M18 p1 4) fun v42 =>
          bd (f3_setLamp M18 p1 4 (if (v42 + 1) < (9 : Int32) then (v42 + 1) else (9 : Int32))) fun M45 =>
          J109 M45
        )
        else
        (
          J109 M18
        )
      )
    )
    ) fun J31 =>
    if v7 < 5 then
    (
      J31 1
    )
    else
    (
      J31 2
    )
  )
def f3_isOver (M : St) : Option (Int32) :=
  if (M 12 (0 : Int32).toNatClampNeg) = 600 then
  (
    some 1
  )
  else
  (
    some 0
  )
def f3_minuteOn_L4 (K : Int32 → St → Option (Int32 × St)) : Nat → Int32 → Int32 → St → Option (Int32 × St)
  | 0, _, _, _ => none
  | fu + 1, v1, v2, M3 =>
  if (M3 4 0) ≤ v2 then
  (
    K v1 M3
  )
  else
  (
    bd2 (f3_goOn M3 v2) fun v6 M7 =>
    lt_ (fun (v10 : Int32) =>
    (
      lt_ (v1 ||| v10) fun v11 =>
      f3_minuteOn_L4 K fu v11 (v2 + 1) M7
    )
    ) fun J31 =>
    if v6 = (-1) then
    (
      J31 0
    )
    else
    (
      J31 (1 <<< (v6 &&& 31))
    )
  )
def f3_minuteOn_L41 (K : St → Option (Int32 × St)) : Nat → Int32 → St → Option (Int32 × St)
  | 0, _, _ => none
  | fu + 1, v12, M13 =>
  if (M13 3 0) ≤ v12 then
  (
    K M13
  )
  else
  (
    bd (f3_burn M13 v12) fun M15 =>
    f3_minuteOn_L41 K fu (v12 + 1) M15
  )
def f3_minuteOn (M : St) : Option (Int32 × St) :=
  f3_minuteOn_L4 (fun (v4 : Int32) (M5 : St) =>
  (
    f3_minuteOn_L41 (fun (M14 : St) =>
    (
      lt_ (up2 M14 12 (0 : Int32).toNatClampNeg ((M14 12 (0 : Int32).toNatClampNeg) + 1)) fun M18 =>
      some (v4, M18)
    )
    ) xF 0 M5
  )
  ) xF 0 0 M
def f3_minutesOn_L2 (p1 : Int32) : Nat → Int32 → St → Option (St)
  | 0, _, _ => none
  | fu + 1, v1, M2 =>
  if p1 ≤ v1 then
  (
    some M2
  )
  else
  (
    bd (f3_isOver M2) fun v3 =>
    if v3 = 0 then
    (
      bd2 (f3_minuteOn M2) fun v6 M7 =>
      f3_minutesOn_L2 p1 fu (v1 + 1) M7
    )
    else
    (
      some M2
    )
  )
def f3_minutesOn (M : St) (p1 : Int32) : Option (St) :=
  f3_minutesOn_L2 p1 xF 0 M
def f3_pass (M : St) (p1 : Int32) : Option (Int32 × St) :=
  lt_ (up2 M 0 0 0) fun M1 =>
  bd (f3_isIn p1 1 600) fun v2 =>
  if v2 = 0 then
  (
    bd2 (f3_fail M1 1) fun v13 M14 =>
    some (v13, M14)
  )
  else
  (
    bd (f3_all M1 6) fun v5 =>
    bd (f3_minutesOn M1 p1) fun M8 =>
    bd (f3_all M8 6) fun v10 =>
    some ((v10 - v5), M8)
  )
def f3_dawn_L26 (K : St → Option (Int32 × St)) : Nat → Int32 → St → Option (Int32 × St)
  | 0, _, _ => none
  | fu + 1, v8, M9 =>
  if (M9 3 0) ≤ v8 then
  (
    K M9
  )
  else
  (
    bd (f3_setLamp M9 v8 5 0) fun M11 =>
    f3_dawn_L26 K fu (v8 + 1) M11
  )
def f3_dawn_L49 (K : St → Option (Int32 × St)) : Nat → Int32 → St → Option (Int32 × St)
  | 0, _, _ => none
  | fu + 1, v13, M14 =>
  if (M14 4 0) ≤ v13 then
  (
    K M14
  )
  else
  (
    bd (f3_pe M14 v13 0) fun v16 =>
    bd (f3_put M14 v13 1 v16) fun M19 =>
    bd (f3_put M19 v13 5 (-1)) fun M21 =>
    bd (f3_put M21 v13 6 0) fun M23 =>
    bd (f3_put M23 v13 8 (-1)) fun M25 =>
    f3_dawn_L49 K fu (v13 + 1) M25
  )
def f3_dawn (M : St) : Option (Int32 × St) :=
  lt_ (up2 M 0 0 0) fun M1 =>
  bd (f3_isOver M1) fun v2 =>
  if v2 = 0 then
  (
    bd2 (f3_fail M1 1) fun v31 M32 =>
    some (v31, M32)
  )
  else
  (
    bd (f3_all M1 5) fun v5 =>
    f3_dawn_L26 (fun (M10 : St) =>
    (
      f3_dawn_L49 (fun (M15 : St) =>
      (
        lt_ (up2 M15 12 (0 : Int32).toNatClampNeg 0) fun M28 =>
        lt_ (up2 M28 12 (1 : Int32).toNatClampNeg ((M28 12 (1 : Int32).toNatClampNeg) + 1)) fun M30 =>
        some (v5, M30)
      )
      ) xF 0 M10
    )
    ) xF 0 M1
  )
def f3_needs_L33 (p1 : Int32) (M1 : St) (K : Int32 → Option (Int32 × St)) : Nat → Int32 → Int32 → Option (Int32 × St)
  | 0, _, _ => none
  | fu + 1, v5, v6 =>
  if 10 ≤ v6 then
  (
    K v5
  )
  else
  (
    gd (xin v6 10) <|
    lt_ (M1 11 v6.toNatClampNeg) fun v9 =>
    bd (f3_gust M1 p1 v9) fun v10 =>
    lt_ (if v5 < v10 then v10 else v5) fun v13 =>
    f3_needs_L33 p1 M1 K fu v13 (v6 + 1)
  )
def f3_needs (M : St) (p1 : Int32) : Option (Int32 × St) :=
  lt_ (up2 M 0 0 0) fun M1 =>
  bd (f3_isLamp M1 p1) fun v2 =>
  if v2 = 0 then
  (
    bd2 (f3_fail M1 1) fun v15 M16 =>
    some (v15, M16)
  )
  else
  (
    f3_needs_L33 p1 M1 (fun (v7 : Int32) =>
    (
      lt_ (if (0 : Int32) < (v7 - 4) then (v7 - 4) else (0 : Int32)) fun v14 =>
      if v14 ≤ 9 then
      (
        some (v14, M1)
      )
      else
      (
        some ((-1), M1)
      )
    )
    ) xF 0 0
  )
def f3_bringBack (M : St) (K : St) : Option (St) :=
  gd (xcp 0 0 160 160 160) <|
  lt_ (up1 M 8 (va_cpy (K 1) (M 8) (0 : Int32).toNatClampNeg (0 : Int32).toNatClampNeg (160 : Int32).toNatClampNeg)) fun M2 =>
  gd (xcp 0 0 40 40 40) <|
  lt_ (up1 M2 9 (va_cpy (K 2) (M2 9) (0 : Int32).toNatClampNeg (0 : Int32).toNatClampNeg (40 : Int32).toNatClampNeg)) fun M4 =>
  gd (xcp 0 0 3 3 3) <|
  lt_ (up1 M4 12 (va_cpy (K 3) (M4 12) (0 : Int32).toNatClampNeg (0 : Int32).toNatClampNeg (3 : Int32).toNatClampNeg)) fun M6 =>
  some M6
def f3_comes_L29 (p1 : Int32) (K : Int32 → St → Option (Int32 × St)) : Nat → Int32 → Int32 → St → Option (Int32 × St)
  | 0, _, _, _ => none
  | fu + 1, v6, v7, M8 =>
  if v6 = (-1) then
  (
    bd (f3_isOver M8) fun v11 =>
    if v11 = 0 then
    (
      bd2 (f3_minuteOn M8) fun v14 M15 =>
      lt_ (fun (v18 : Int32) =>
      (
        f3_comes_L29 p1 K fu v18 (v7 + 1) M15
      )
      ) fun J56 =>
      if ((v14 >>> (p1 &&& 31)) &&& 1) = 1 then
      (
        J56 v7
      )
      else
      (
        J56 v6
      )
    )
    else
    (
      K v6 M8
    )
  )
  else
  (
    K v6 M8
  )
def f3_comes (M : St) (p1 : Int32) : Option (Int32 × St) :=
  lt_ (up2 M 0 0 0) fun M1 =>
  bd (f3_isLamp M1 p1) fun v2 =>
  if v2 = 0 then
  (
    bd2 (f3_fail M1 1) fun v21 M22 =>
    some (v21, M22)
  )
  else
  (
    lt_ (kS M1) fun K5 =>
    f3_comes_L29 p1 (fun (v9 : Int32) (M10 : St) =>
    (
      bd (f3_bringBack M10 K5) fun M19 =>
      some (v9, M19)
    )
    ) xF (-1) 1 M1
  )
def f3_darkest_L29 (M12 : St) (K : (Nat → Int32) → Option (Int32 × St)) : Nat → Int32 → (Nat → Int32) → Option (Int32 × St)
  | 0, _, _ => none
  | fu + 1, v15, f16 =>
  if (M12 2 0) ≤ v15 then
  (
    K f16
  )
  else
  (
    gd (xin v15 18) <|
    bd (f3_burns M12 v15) fun v19 =>
    lt_ (fun (v22 : Int32) =>
    (
      lt_ (upd f16 v15.toNatClampNeg ((f16 v15.toNatClampNeg) + v22)) fun f23 =>
      f3_darkest_L29 M12 K fu (v15 + 1) f23
    )
    ) fun J54 =>
    if v19 = 0 then
    (
      J54 1
    )
    else
    (
      J54 0
    )
  )
def f3_darkest_L15 (K : St → (Nat → Int32) → Option (Int32 × St)) : Nat → St → (Nat → Int32) → Option (Int32 × St)
  | 0, _, _ => none
  | fu + 1, M4, f5 =>
  bd (f3_isOver M4) fun v8 =>
  if v8 = 0 then
  (
    bd2 (f3_minuteOn M4) fun v11 M12 =>
    f3_darkest_L29 M12 (fun (f17 : (Nat → Int32)) =>
    (
      f3_darkest_L15 K fu M12 f17
    )
    ) xF 0 f5
  )
  else
  (
    K M4 f5
  )
def f3_darkest_L75 (M24 : St) (f7 : (Nat → Int32)) : Nat → Int32 → Int32 → Option (Int32 × St)
  | 0, _, _ => none
  | fu + 1, v26, v27 =>
  if (M24 2 0) ≤ v27 then
  (
    some (v26, M24)
  )
  else
  (
    gd (xin v27 18) <|
    lt_ (fun (v29 : Int32) =>
    (
      lt_ (fun (v30 : Int32) =>
      (
        f3_darkest_L75 M24 f7 fu v30 (v27 + 1)
      )
      ) fun J106 =>
      if (f7 v27.toNatClampNeg) ≤ v29 then
      (
        J106 v26
      )
      else
      (
        J106 v27
      )
    )
    ) fun J100 =>
    if v26 = (-1) then
    (
      J100 0
    )
    else
    (
      gd (xin v26 18) <|
      J100 (f7 v26.toNatClampNeg)
    )
  )
def f3_darkest (M : St) : Option (Int32 × St) :=
  lt_ (up2 M 0 0 0) fun M1 =>
  lt_ (kS M1) fun K2 =>
  f3_darkest_L15 (fun (M6 : St) (f7 : (Nat → Int32)) =>
  (
    bd (f3_bringBack M6 K2) fun M24 =>
    f3_darkest_L75 M24 f7 xF (-1) 0
  )
  ) xF M1 ((fun _ => 0))
def f3_foresee (M : St) (p1 : Int32) (p2 : Int32) : Option (Int32 × St) :=
  lt_ (up2 M 0 0 0) fun M1 =>
  bd (f3_isIn p1 1 600) fun v2 =>
  if v2 = 0 then
  (
    bd2 (f3_fail M1 1) fun v26 M27 =>
    some (v26, M27)
  )
  else
  (
    bd (f3_isIn p2 0 2) fun v5 =>
    if v5 = 0 then
    (
      bd2 (f3_fail M1 2) fun v22 M23 =>
      some (v22, M23)
    )
    else
    (
      lt_ (kS M1) fun K8 =>
      lt_ (M1 12 (2 : Int32).toNatClampNeg) fun v10 =>
      bd (f3_minutesOn M1 p1) fun M11 =>
      lt_ (fun (v13 : Int32) =>
      (
        bd (f3_bringBack M11 K8) fun M14 =>
        some (v13, M14)
      )
      ) fun J88 =>
      if p2 = 0 then
      (
        bd (f3_all M11 5) fun v19 =>
        J88 v19
      )
      else
      (
        if p2 = 1 then
        (
          bd (f3_dark M11) fun v16 =>
          J88 v16
        )
        else
        (
          J88 ((M11 12 (2 : Int32).toNatClampNeg) - v10)
        )
      )
    )
  )
def f3_digest_L11 (M1 : St) (K : Int64 → Option (Int64 × St)) : Nat → Int64 → Int32 → Option (Int64 × St)
  | 0, _, _ => none
  | fu + 1, v2, v3 =>
  if 10 ≤ v3 then
  (
    K v2
  )
  else
  (
    bd (f3_counted M1 v3) fun v5 =>
    lt_ ((v2 * 31) + (v5.toInt64)) fun v8 =>
    f3_digest_L11 M1 K fu v8 (v3 + 1)
  )
def f3_digest_L38 (M1 : St) (K : Int64 → Option (Int64 × St)) : Nat → Int64 → Int32 → Option (Int64 × St)
  | 0, _, _ => none
  | fu + 1, v9, v10 =>
  if (M1 1 0) ≤ v10 then
  (
    K v9
  )
  else
  (
    gd (xin v10 12) <|
    lt_ ((v9 * 31) + ((M1 5 v10.toNatClampNeg).toInt64)) fun v13 =>
    f3_digest_L38 M1 K fu v13 (v10 + 1)
  )
def f3_digest_L79 (v15 : Int32) (M1 : St) (K : Int64 → Option (Int64 × St)) : Nat → Int64 → Int32 → Option (Int64 × St)
  | 0, _, _ => none
  | fu + 1, v17, v18 =>
  if 3 ≤ v18 then
  (
    K v17
  )
  else
  (
    bd (f3_ro M1 v15 v18) fun v20 =>
    lt_ ((v17 * 31) + (v20.toInt64)) fun v23 =>
    f3_digest_L79 v15 M1 K fu v23 (v18 + 1)
  )
def f3_digest_L68 (M1 : St) (K : Int64 → Option (Int64 × St)) : Nat → Int64 → Int32 → Option (Int64 × St)
  | 0, _, _ => none
  | fu + 1, v14, v15 =>
  if (M1 2 0) ≤ v15 then
  (
    K v14
  )
  else
  (
    f3_digest_L79 v15 M1 (fun (v19 : Int64) =>
    (
      bd (f3_burns M1 v15) fun v24 =>
      lt_ ((v19 * 31) + (v24.toInt64)) fun v27 =>
      f3_digest_L68 M1 K fu v27 (v15 + 1)
    )
    ) xF v14 0
  )
def f3_digest_L138 (v29 : Int32) (M1 : St) (K : Int64 → Option (Int64 × St)) : Nat → Int64 → Int32 → Option (Int64 × St)
  | 0, _, _ => none
  | fu + 1, v31, v32 =>
  if 9 ≤ v32 then
  (
    K v31
  )
  else
  (
    bd (f3_lampTold M1 v29 v32) fun v34 =>
    lt_ ((v31 * 31) + (v34.toInt64)) fun v37 =>
    f3_digest_L138 v29 M1 K fu v37 (v32 + 1)
  )
def f3_digest_L127 (M1 : St) (K : Int64 → Option (Int64 × St)) : Nat → Int64 → Int32 → Option (Int64 × St)
  | 0, _, _ => none
  | fu + 1, v28, v29 =>
  if (M1 3 0) ≤ v29 then
  (
    K v28
  )
  else
  (
    f3_digest_L138 v29 M1 (fun (v33 : Int64) =>
    (
      f3_digest_L127 M1 K fu v33 (v29 + 1)
    )
    ) xF v28 0
  )
def f3_digest_L185 (v39 : Int32) (M1 : St) (K : Int64 → Option (Int64 × St)) : Nat → Int64 → Int32 → Option (Int64 × St)
  | 0, _, _ => none
  | fu + 1, v41, v42 =>
  if 7 ≤ v42 then
  (
    K v41
  )
  else
  (
    bd (f3_lighterTold M1 v39 v42) fun v44 =>
    lt_ ((v41 * 31) + (v44.toInt64)) fun v47 =>
    f3_digest_L185 v39 M1 K fu v47 (v42 + 1)
  )
def f3_digest_L216 (v39 : Int32) (M1 : St) (K : Int64 → Option (Int64 × St)) : Nat → Int64 → Int32 → Option (Int64 × St)
  | 0, _, _ => none
  | fu + 1, v48, v49 =>
  bd (f3_pe M1 v39 4) fun v51 =>
  if v51 ≤ v49 then
  (
    K v48
  )
  else
  (
    gd (xin ((10 * v39) + v49) 40) <|
    lt_ ((v48 * 31) + ((M1 10 ((10 * v39) + v49).toNatClampNeg).toInt64)) fun v55 =>
    f3_digest_L216 v39 M1 K fu v55 (v49 + 1)
  )
def f3_digest_L174 (M1 : St) (K : Int64 → Option (Int64 × St)) : Nat → Int64 → Int32 → Option (Int64 × St)
  | 0, _, _ => none
  | fu + 1, v38, v39 =>
  if (M1 4 0) ≤ v39 then
  (
    K v38
  )
  else
  (
    f3_digest_L185 v39 M1 (fun (v43 : Int64) =>
    (
      f3_digest_L216 v39 M1 (fun (v50 : Int64) =>
      (
        f3_digest_L174 M1 K fu v50 (v39 + 1)
      )
      ) xF v43 0
    )
    ) xF8 v38 0
  )
def f3_digest_L271 (M1 : St) : Nat → Int64 → Int32 → Option (Int64 × St)
  | 0, _, _ => none
  | fu + 1, v56, v57 =>
  if 10 ≤ v57 then
  (
    some (v56, M1)
  )
  else
  (
    gd (xin v57 10) <|
    lt_ (M1 11 v57.toNatClampNeg) fun v59 =>
    lt_ ((v56 * 31) + (v59.toInt64)) fun v60 =>
    f3_digest_L271 M1 fu v60 (v57 + 1)
  )
def f3_digest (M : St) : Option (Int64 × St) :=
  lt_ (up2 M 0 0 0) fun M1 =>
  f3_digest_L11 M1 (fun (v4 : Int64) =>
  (
    f3_digest_L38 M1 (fun (v11 : Int64) =>
    (
      f3_digest_L68 M1 (fun (v16 : Int64) =>
      (
        f3_digest_L127 M1 (fun (v30 : Int64) =>
        (
          f3_digest_L174 M1 (fun (v40 : Int64) =>
          (
            f3_digest_L271 M1 xF v40 0
          )
          ) xF5 v30 0
        )
        ) xF v16 0
      )
      ) xF v11 0
    )
    ) xF v4 0
  )
  ) xF11 941 0
def f3_mean (M : St) : Option ((Option (Int32 × Int32)) × St) :=
  lt_ (up2 M 0 0 0) fun M1 =>
  if (M1 3 0) = 0 then
  (
    some ((none), M1)
  )
  else
  (
    bd (f3_all M1 3) fun v2 =>
    some ((some (v2, M1 3 0)), M1)
  )
def S0 : St := fun _ _ => 0
def f2_clearDarkMinutes_L2 : Nat → Int32 → St → Option (St)
  | 0, _, _ => none
  | fu + 1, v1, G2 =>
  if 18 ≤ v1 then
  (
    some G2
  )
  else
  (
    gd (xin v1 18) <|
    lt_ (up2 G2 0 v1.toNatClampNeg 0) fun G4 =>
    f2_clearDarkMinutes_L2 fu (v1 + 1) G4
  )
def f2_clearDarkMinutes (G : St) (N : St) (F : St) (T : St) : Option (St) :=
  f2_clearDarkMinutes_L2 xF 0 G
def f2_addDarkMinute_L2 (F : St) (T : St) : Nat → Int32 → St → Option (St)
  | 0, _, _ => none
  | fu + 1, v1, G2 =>
  if (T 3 0) ≤ v1 then
  (
    some G2
  )
  else
  (
    bd (f0_isDark F v1) fun v3 =>
    lt_ (fun (G6 : St) =>
    (
      f2_addDarkMinute_L2 F T fu (v1 + 1) G6
    )
    ) fun J34 =>
    if v3 = 0 then
    (
      J34 G2
    )
    else
    (
      gd (xin v1 18) <|
      lt_ (up2 G2 0 v1.toNatClampNeg ((G2 0 v1.toNatClampNeg) + 1)) fun G8 =>
      J34 G8
    )
  )
def f2_addDarkMinute (G : St) (N : St) (F : St) (T : St) : Option (St) :=
  f2_addDarkMinute_L2 F T xF 0 G
def f2_streetOfMostDarkMinutes_L6 (G : St) (T : St) : Nat → Int32 → Int32 → Int32 → Option (Int32)
  | 0, _, _, _ => none
  | fu + 1, v1, v2, v3 =>
  if (T 3 0) ≤ v3 then
  (
    some v1
  )
  else
  (
    gd (xin v3 18) <|
    lt_ (fun (v5 : Int32) (v6 : Int32) =>
    (
      f2_streetOfMostDarkMinutes_L6 G T fu v5 v6 (v3 + 1)
    )
    ) fun J36 =>
    if (G 0 v3.toNatClampNeg) ≤ v2 then
    (
      J36 v1 v2
    )
    else
    (
      lt_ (G 0 v3.toNatClampNeg) fun v7 =>
      J36 v3 v7
    )
  )
def f2_streetOfMostDarkMinutes (G : St) (N : St) (F : St) (T : St) : Option (Int32) :=
  f2_streetOfMostDarkMinutes_L6 G T xF (-1) 0 0
def f2_way (G : St) (N : St) (F : St) (T : St) (p1 : Int32) (p2 : Int32) : Option (Nat ⊕ (Int32)) :=
  bx0 (f2_requireIndex p1 (T 0 0)) <|
  bx0 (f2_requireIndex p2 (T 0 0)) <|
  gd (xin p1 12) <|
  gd (xin p2 12) <|
  lt_ (T (100 + p1.toNatClampNeg) p2.toNatClampNeg) fun v5 =>
  if 1000000 ≤ v5 then
  (
    some (.inr (-1))
  )
  else
  (
    some (.inr v5)
  )
def f2_darkest_L29 (v5 : Int32) (N : St) (T : St) (K : St → St → Option (Int32 × St × St)) : Nat → Int32 → St → St → Option (Int32 × St × St)
  | 0, _, _, _ => none
  | fu + 1, v6, G7, F8 =>
  if v5 < v6 then
  (
    K G7 F8
  )
  else
  (
    bd2 (f0_goBy F8 T 1) fun v11 F12 =>
    bd (f2_addDarkMinute G7 N F12 T) fun G15 =>
    f2_darkest_L29 v5 N T K fu (v6 + 1) G15 F12
  )
def f2_darkest (G : St) (N : St) (F : St) (T : St) : Option (Int32 × St × St) :=
  bd (f2_clearDarkMinutes G N F T) fun G1 =>
  bd (f0_copy F N) fun F3 =>
  lt_ (600 - (N 0 0)) fun v5 =>
  f2_darkest_L29 v5 N T (fun (G9 : St) (F10 : St) =>
  (
    bd (f2_streetOfMostDarkMinutes G9 N F10 T) fun v17 =>
    some (v17, G9, F10)
  )
  ) xF 1 G1 F3
def f2_needs_L15 (T : St) (K : Int32 → Option (Nat ⊕ (Int32))) : Nat → Int32 → Int32 → Option (Nat ⊕ (Int32))
  | 0, _, _ => none
  | fu + 1, v2, v3 =>
  if 10 ≤ v3 then
  (
    K v2
  )
  else
  (
    gd (xin v3 10) <|
    lt_ (if v2 < (T 11 v3.toNatClampNeg) then (T 11 v3.toNatClampNeg) else v2) fun v6 =>
    f2_needs_L15 T K fu v6 (v3 + 1)
  )
def f2_needs (G : St) (N : St) (F : St) (T : St) (p1 : Int32) : Option (Nat ⊕ (Int32)) :=
  bx0 (f2_requireIndex p1 (T 7 0)) <|
  f2_needs_L15 T (fun (v4 : Int32) =>
  (
    bd (f1_windAtLamp T p1 v4) fun v7 =>
    lt_ (if (0 : Int32) < (v7 - 4) then (v7 - 4) else (0 : Int32)) fun v10 =>
    if 9 < v10 then
    (
      some (.inr (-1))
    )
    else
    (
      some (.inr v10)
    )
  )
  ) xF 0 0
def f2_digestStreets_L5 (T : St) (K : Int64 → Option (Nat ⊕ (Int64))) : Nat → Int64 → Int32 → Option (Nat ⊕ (Int64))
  | 0, _, _ => none
  | fu + 1, v1, v2 =>
  if (T 0 0) ≤ v2 then
  (
    K v1
  )
  else
  (
    gd (xin v2 12) <|
    lt_ ((v1 * 31) + ((T 1 v2.toNatClampNeg).toInt64)) fun v5 =>
    f2_digestStreets_L5 T K fu v5 (v2 + 1)
  )
def f2_digestStreets_L44 (G : St) (N : St) (F : St) (T : St) : Nat → Int64 → Int32 → Option (Nat ⊕ (Int64))
  | 0, _, _ => none
  | fu + 1, v6, v7 =>
  if (T 3 0) ≤ v7 then
  (
    some (.inr v6)
  )
  else
  (
    gd (xin v7 18) <|
    lt_ ((v6 * 31) + ((T 4 v7.toNatClampNeg).toInt64)) fun v9 =>
    lt_ ((v9 * 31) + ((T 5 v7.toNatClampNeg).toInt64)) fun v10 =>
    lt_ ((v10 * 31) + ((T 6 v7.toNatClampNeg).toInt64)) fun v11 =>
    bx1 (f2_burning G N F T v7) fun v12 =>
    lt_ ((v11 * 31) + (v12.toInt64)) fun v15 =>
    f2_digestStreets_L44 G N F T fu v15 (v7 + 1)
  )
def f2_digestStreets (G : St) (N : St) (F : St) (T : St) (p1 : Int64) : Option (Nat ⊕ (Int64)) :=
  f2_digestStreets_L5 T (fun (v3 : Int64) =>
  (
    f2_digestStreets_L44 G N F T xF v3 0
  )
  ) xF p1 0
def f2_digestLamps_L20 (v2 : Int32) (G : St) (N : St) (F : St) (T : St) (K : Int64 → Option (Nat ⊕ (Int64))) : Nat → Int64 → Int32 → Option (Nat ⊕ (Int64))
  | 0, _, _ => none
  | fu + 1, v3, v4 =>
  if 9 ≤ v4 then
  (
    K v3
  )
  else
  (
    bx1 (f2_told G N F T v2 v4) fun v6 =>
    lt_ ((v3 * 31) + (v6.toInt64)) fun v9 =>
    f2_digestLamps_L20 v2 G N F T K fu v9 (v4 + 1)
  )
def f2_digestLamps_L5 (G : St) (N : St) (F : St) (T : St) : Nat → Int64 → Int32 → Option (Nat ⊕ (Int64))
  | 0, _, _ => none
  | fu + 1, v1, v2 =>
  if (T 7 0) ≤ v2 then
  (
    some (.inr v1)
  )
  else
  (
    f2_digestLamps_L20 v2 G N F T (fun (v5 : Int64) =>
    (
      f2_digestLamps_L5 G N F T fu v5 (v2 + 1)
    )
    ) xF v1 0
  )
def f2_digestLamps (G : St) (N : St) (F : St) (T : St) (p1 : Int64) : Option (Nat ⊕ (Int64)) :=
  f2_digestLamps_L5 G N F T xF p1 0
def f2_digestLighters_L20 (v2 : Int32) (G : St) (N : St) (F : St) (T : St) (K : Int64 → Option (Nat ⊕ (Int64))) : Nat → Int64 → Int32 → Option (Nat ⊕ (Int64))
  | 0, _, _ => none
  | fu + 1, v3, v4 =>
  if 7 ≤ v4 then
  (
    K v3
  )
  else
  (
    bx1 (f2_lighter G N F T v2 v4) fun v6 =>
    lt_ ((v3 * 31) + (v6.toInt64)) fun v9 =>
    f2_digestLighters_L20 v2 G N F T K fu v9 (v4 + 1)
  )
def f2_digestLighters_L52 (v2 : Int32) (T : St) (K : Int64 → Option (Nat ⊕ (Int64))) : Nat → Int64 → Int32 → Option (Nat ⊕ (Int64))
  | 0, _, _ => none
  | fu + 1, v10, v11 =>
  gd (xin v2 4) <|
  if (T 15 v2.toNatClampNeg) ≤ v11 then
  (
    K v10
  )
  else
  (
    gd (xin v11 10) <|
    lt_ ((v10 * 31) + ((T (200 + v2.toNatClampNeg) v11.toNatClampNeg).toInt64)) fun v15 =>
    f2_digestLighters_L52 v2 T K fu v15 (v11 + 1)
  )
def f2_digestLighters_L5 (G : St) (N : St) (F : St) (T : St) : Nat → Int64 → Int32 → Option (Nat ⊕ (Int64))
  | 0, _, _ => none
  | fu + 1, v1, v2 =>
  if (T 12 0) ≤ v2 then
  (
    some (.inr v1)
  )
  else
  (
    f2_digestLighters_L20 v2 G N F T (fun (v5 : Int64) =>
    (
      f2_digestLighters_L52 v2 T (fun (v12 : Int64) =>
      (
        f2_digestLighters_L5 G N F T fu v12 (v2 + 1)
      )
      ) xF v5 0
    )
    ) xF v1 0
  )
def f2_digestLighters (G : St) (N : St) (F : St) (T : St) (p1 : Int64) : Option (Nat ⊕ (Int64)) :=
  f2_digestLighters_L5 G N F T xF p1 0
def f2_digest_L6 (G : St) (N : St) (F : St) (T : St) (K : Int64 → Option (Nat ⊕ (Int64))) : Nat → Int64 → Int32 → Option (Nat ⊕ (Int64))
  | 0, _, _ => none
  | fu + 1, v1, v2 =>
  if 10 ≤ v2 then
  (
    K v1
  )
  else
  (
    bx1 (f2_count G N F T v2) fun v4 =>
    lt_ ((v1 * 31) + (v4.toInt64)) fun v7 =>
    f2_digest_L6 G N F T K fu v7 (v2 + 1)
  )
def f2_digest_L51 (T : St) : Nat → Int64 → Int32 → Option (Nat ⊕ (Int64))
  | 0, _, _ => none
  | fu + 1, v17, v18 =>
  if 10 ≤ v18 then
  (
    some (.inr v17)
  )
  else
  (
    gd (xin v18 10) <|
    lt_ ((v17 * 31) + ((T 11 v18.toNatClampNeg).toInt64)) fun v20 =>
    f2_digest_L51 T fu v20 (v18 + 1)
  )
def f2_digest (G : St) (N : St) (F : St) (T : St) : Option (Nat ⊕ (Int64)) :=
  f2_digest_L6 G N F T (fun (v3 : Int64) =>
  (
    bx1 (f2_digestStreets G N F T v3) fun v8 =>
    bx1 (f2_digestLamps G N F T v8) fun v11 =>
    bx1 (f2_digestLighters G N F T v11) fun v14 =>
    f2_digest_L51 T xF v14 0
  )
  ) xF 941 0
