/-! LampHillsLaw.law, from 20 to 1168 -/
theorem kb_103 : (Int8.ofInt 103).toInt32 = 103 := by decide
theorem kb_16 : (Int8.ofInt 16).toInt32 = 16 := by decide
theorem flL_law_76 : Cond.fieldLink RL 76 "LampHillsLaw$Sim" "rounds" "[[I" ∈ wsL_law := List.mem_of_getElem? (i := 5) (by decide +kernel)
theorem iuL_law_X3 : ∀ w ∈ u_ws RX3 TX3 10, w ∈ wsL_law := inlX3
theorem kmmL_law_116 : Cond.classLink RL 116 "[[I" ∈ wsL_law := List.mem_of_getElem? (i := 3) (by decide +kernel)
theorem knL_law : Cond.arrayClass .int ∈ wsL_law := List.mem_of_getElem? (i := 4) (by decide +kernel)
theorem yi_L_act : xY yL_act wsL_act cL_act 9 (some .boolean) 3 := ⟨⟨_, rfl⟩, by decide +kernel, by decide +kernel, by decide +kernel⟩
theorem yi_X2_comes : xY yX2_comes wsX2_comes cX2_comes 4 (some .int) 1 := ⟨⟨_, rfl⟩, by decide +kernel, by decide +kernel, by decide +kernel⟩
theorem yi_X2_foresee : xY yX2_foresee wsX2_foresee cX2_foresee 3 (some .int) 2 := ⟨⟨_, rfl⟩, by decide +kernel, by decide +kernel, by decide +kernel⟩
theorem yi_X2_pass : xY yX2_pass wsX2_pass cX2_pass 2 (some .int) 1 := ⟨⟨_, rfl⟩, by decide +kernel, by decide +kernel, by decide +kernel⟩
theorem yi_X3_pass_ : xY yX3_pass_ wsX3_pass_ cX3_pass_ 3 none 1 := ⟨⟨_, rfl⟩, by decide +kernel, by decide +kernel, by decide +kernel⟩
def f6_law_L141 (v25 : Int32) (v34 : Int32) (G : St) (N23 : St) (F4 : St) (T20 : St) (K : St → Option (St × St × St × (Nat → Nat) × St)) : Nat → Int32 → St → Option (St × St × St × (Nat → Nat) × St)
  | 0, _, _ => none
  | fu + 1, v37, W38 =>
  if 9 ≤ v37 then
  (
    K W38
  )
  else
  (
    gd (xin v34 v25.toNatClampNeg) <|
    br (f2_told G N23 F4 T20 v34 v37) fun v41 =>
    gd (xin v37 9) <|
    lt_ (up2 W38 v34.toNatClampNeg v37.toNatClampNeg v41) fun W45 =>
    f6_law_L141 v25 v34 G N23 F4 T20 K fu (v37 + 1) W45
  )
def f6_law_L131 (v25 : Int32) (G : St) (N23 : St) (F4 : St) (T20 : St) (K : St → Option (St × St × St × (Nat → Nat) × St)) : Nat → Int32 → St → Option (St × St × St × (Nat → Nat) × St)
  | 0, _, _ => none
  | fu + 1, v34, W35 =>
  if v25 ≤ v34 then
  (
    K W35
  )
  else
  (
    f6_law_L141 v25 v34 G N23 F4 T20 (fun (W39 : St) =>
    (
      f6_law_L131 v25 G N23 F4 T20 K fu (v34 + 1) W39
    )
    ) xF 0 W35
  )
def f6_law_L214 (v28 : Int32) (v57 : Int32) (G : St) (N23 : St) (F4 : St) (T20 : St) (K : St → Option (St × St × St × (Nat → Nat) × St)) : Nat → Int32 → St → Option (St × St × St × (Nat → Nat) × St)
  | 0, _, _ => none
  | fu + 1, v61, W62 =>
  if 7 ≤ v61 then
  (
    K W62
  )
  else
  (
    gd (xin v57 v28.toNatClampNeg) <|
    br (f2_lighter G N23 F4 T20 v57 v61) fun v65 =>
    gd (xin v61 7) <|
    lt_ (up2 W62 v57.toNatClampNeg v61.toNatClampNeg v65) fun W69 =>
    f6_law_L214 v28 v57 G N23 F4 T20 K fu (v61 + 1) W69
  )
def f6_law_L204 (v28 : Int32) (G : St) (N23 : St) (F4 : St) (T20 : St) (K : Int32 → St → Option (St × St × St × (Nat → Nat) × St)) : Nat → Int32 → Int32 → St → Option (St × St × St × (Nat → Nat) × St)
  | 0, _, _, _ => none
  | fu + 1, v56, v57, W58 =>
  if v28 ≤ v57 then
  (
    K v56 W58
  )
  else
  (
    f6_law_L214 v28 v57 G N23 F4 T20 (fun (W63 : St) =>
    (
      gd (xin v57 v28.toNatClampNeg) <|
      lt_ (v56 + (W63 v57.toNatClampNeg (2 : Int32).toNatClampNeg)) fun v72 =>
      f6_law_L204 v28 G N23 F4 T20 K fu v72 (v57 + 1) W63
    )
    ) xF 0 W58
  )
def f6_law_L653 (v120 : Int32) (v123 : Int32) (v151 : Int32) (Y21 : (Nat → Nat)) (S98 : St) (K : Int32 → Option (St × St × St × (Nat → Nat) × St)) : Nat → Int32 → Int32 → Option (St × St × St × (Nat → Nat) × St)
  | 0, _, _ => none
  | fu + 1, v152, v153 =>
  if v151 ≤ v153 then
  (
    K v152
  )
  else
  (
    gd (xin v153 (Y21 (rk 13 v120.toNatClampNeg))) <|
    lt_ (S98 (rk 13 v120.toNatClampNeg) v153.toNatClampNeg) fun v156 =>
    lt_ (fun (v157 : Int32) =>
    (
      f6_law_L653 v120 v123 v151 Y21 S98 K fu v157 (v153 + 1)
    )
    ) fun J684 =>
    lt_ (fun (u_ : Unit) =>
    (
      J684 1
    )
    ) fun J679 =>
    if v152 = 0 then
    (
      if v156 = v123 then
      (
        J679 ()
      )
      else
      (
        J684 0
      )
    )
    else
    (
      J679 ()
    )
  )
def f6_law_L433 (v28 : Int32) (G : St) (N95 : St) (F110 : St) (T20 : St) (Y21 : (Nat → Nat)) (S98 : St) (W60 : St) (K : Int32 → Int32 → Option (St × St × St × (Nat → Nat) × St)) : Nat → Int32 → Int32 → Int32 → Option (St × St × St × (Nat → Nat) × St)
  | 0, _, _, _ => none
  | fu + 1, v118, v119, v120 =>
  if v28 ≤ v120 then
  (
    K v118 v119
  )
  else
  (
    br (f2_lighter G N95 F110 T20 v120 4) fun v123 =>
    br (f2_lighter G N95 F110 T20 v120 5) fun v126 =>
    br (f2_lighter G N95 F110 T20 v120 2) fun v129 =>
    lt_ (v118 + v129) fun v132 =>
    br (f2_lighter G N95 F110 T20 v120 6) fun v133 =>
    gd (xin v120 v28.toNatClampNeg) <|
    lt_ (v119 + (v133 - (W60 v120.toNatClampNeg (6 : Int32).toNatClampNeg))) fun v138 =>
    lt_ (fun (v139 : Int32) =>
    (
      lt_ (fun (v140 : Int32) =>
      (
        if v139 = v140 then
        (
          br (f2_lighter G N95 F110 T20 v120 2) fun v141 =>
          if (W60 v120.toNatClampNeg (2 : Int32).toNatClampNeg) < v141 then
          (
            none
          )
          else
          (
            br (f2_lighter G N95 F110 T20 v120 1) fun v145 =>
            if v145 = (W60 v120.toNatClampNeg (1 : Int32).toNatClampNeg) then
            (
              lt_ (fun (u_ : Unit) =>
              (
                lt_ (fun (u_ : Unit) =>
                (
                  lt_ (fun (u_ : Unit) =>
                  (
                    f6_law_L433 v28 G N95 F110 T20 Y21 S98 W60 K fu v132 v138 (v120 + 1)
                  )
                  ) fun J759 =>
                  if 0 ≤ v123 then
                  (
                    gd (xin v120 (Y21 5)) <|
                    lt_ (Int32.ofNat (Y21 (rk 13 v120.toNatClampNeg))) fun v151 =>
                    f6_law_L653 v120 v123 v151 Y21 S98 (fun (v154 : Int32) =>
                    (
                      if v154 = 0 then
                      (
                        none
                      )
                      else
                      (
                        br (f2_told G N95 F110 T20 v123 6) fun v158 =>
                        if v158 = v120 then
                        (
                          br (f2_told G N95 F110 T20 v123 5) fun v161 =>
                          if v161 = 0 then
                          (
                            br (f2_told G N95 F110 T20 v123 1) fun v164 =>
                            br (f2_lighter G N95 F110 T20 v120 1) fun v167 =>
                            if v164 ≤ (v167 + 2) then
                            (
                              gd (xin v120 v28.toNatClampNeg) <|
                              if 0 ≤ (W60 v120.toNatClampNeg (4 : Int32).toNatClampNeg) then
                              (
                                J759 ()
                              )
                              else
                              (
                                if 2 ≤ v126 then
                                (
                                  J759 ()
                                )
                                else
                                (
                                  none
                                )
                              )
                            )
                            else
                            (
                              none
                            )
                          )
                          else
                          (
                            none
                          )
                        )
                        else
                        (
                          none
                        )
                      )
                    )
                    ) xF 0 0
                  )
                  else
                  (
                    J759 ()
                  )
                )
                ) fun J625 =>
                if (W60 v120.toNatClampNeg (5 : Int32).toNatClampNeg) = 1 then
                (
                  if v123 < 0 then
                  (
                    J625 ()
                  )
                  else
                  (
                    none
                  )
                )
                else
                (
                  J625 ()
                )
              )
              ) fun J607 =>
              if (W60 v120.toNatClampNeg (5 : Int32).toNatClampNeg) ≤ 1 then
              (
                J607 ()
              )
              else
              (
                if v123 = (W60 v120.toNatClampNeg (4 : Int32).toNatClampNeg) then
                (
                  if v126 = ((W60 v120.toNatClampNeg (5 : Int32).toNatClampNeg) - 1) then
                  (
                    br (f2_lighter G N95 F110 T20 v120 0) fun v173 =>
                    if v173 = (W60 v120.toNatClampNeg (0 : Int32).toNatClampNeg) then
                    (
                      J607 ()
                    )
                    else
                    (
                      none
                    )
                  )
                  else
                  (
                    none
                  )
                )
                else
                (
                  none
                )
              )
            )
            else
            (
              none
            )
          )
        )
        else
        (
          none
        )
      )
      ) fun J512 =>
      if v126 = 0 then
      (
        J512 1
      )
      else
      (
        J512 0
      )
    )
    ) fun J502 =>
    if 0 ≤ v123 then
    (
      J502 0
    )
    else
    (
      J502 1
    )
  )
def f6_law_L790 (v25 : Int32) (v73 : Int32) (G : St) (N95 : St) (F110 : St) (T20 : St) (W36 : St) (K : Int32 → Int32 → Option (St × St × St × (Nat → Nat) × St)) : Nat → Int32 → Int32 → Int32 → Option (St × St × St × (Nat → Nat) × St)
  | 0, _, _, _ => none
  | fu + 1, v177, v178, v179 =>
  if v25 ≤ v179 then
  (
    K v177 v178
  )
  else
  (
    br (f2_told G N95 F110 T20 v179 5) fun v182 =>
    lt_ (fun (v185 : Int32) =>
    (
      lt_ (fun (v186 : Int32) =>
      (
        lt_ (v177 + v186) fun v187 =>
        br (f2_told G N95 F110 T20 v179 3) fun v188 =>
        lt_ (v178 + v188) fun v191 =>
        lt_ (fun (u_ : Unit) =>
        (
          br (f2_told G N95 F110 T20 v179 3) fun v192 =>
          if v192 < 0 then
          (
            none
          )
          else
          (
            br (f2_told G N95 F110 T20 v179 3) fun v195 =>
            if 300 < v195 then
            (
              none
            )
            else
            (
              br (f2_told G N95 F110 T20 v179 4) fun v198 =>
              if v198 < 0 then
              (
                none
              )
              else
              (
                br (f2_told G N95 F110 T20 v179 4) fun v201 =>
                if v201 ≤ 9 then
                (
                  br (f2_told G N95 F110 T20 v179 0) fun v204 =>
                  gd (xin v179 v25.toNatClampNeg) <|
                  if v204 = (W36 v179.toNatClampNeg (0 : Int32).toNatClampNeg) then
                  (
                    br (f2_told G N95 F110 T20 v179 1) fun v209 =>
                    if v209 = (W36 v179.toNatClampNeg (1 : Int32).toNatClampNeg) then
                    (
                      br (f2_told G N95 F110 T20 v179 2) fun v213 =>
                      if v213 = (W36 v179.toNatClampNeg (2 : Int32).toNatClampNeg) then
                      (
                        br (f2_told G N95 F110 T20 v179 7) fun v217 =>
                        lt_ (v217 - (W36 v179.toNatClampNeg (7 : Int32).toNatClampNeg)) fun v221 =>
                        br (f2_told G N95 F110 T20 v179 8) fun v222 =>
                        lt_ (v222 - (W36 v179.toNatClampNeg (8 : Int32).toNatClampNeg)) fun v226 =>
                        if v221 < 0 then
                        (
                          none
                        )
                        else
                        (
                          if 1 < v221 then
                          (
                            none
                          )
                          else
                          (
                            if v226 < 0 then
                            (
                              none
                            )
                            else
                            (
                              if 1 < v226 then
                              (
                                none
                              )
                              else
                              (
                                lt_ (fun (u_ : Unit) =>
                                (
                                  lt_ (fun (u_ : Unit) =>
                                  (
                                    lt_ (fun (u_ : Unit) =>
                                    (
                                      lt_ (fun (u_ : Unit) =>
                                      (
                                        lt_ (fun (u_ : Unit) =>
                                        (
                                          f6_law_L790 v25 v73 G N95 F110 T20 W36 K fu v187 v191 (v179 + 1)
                                        )
                                        ) fun J1133 =>
                                        if (W36 v179.toNatClampNeg (5 : Int32).toNatClampNeg) = 0 then
                                        (
                                          if v221 = 0 then
                                          (
                                            br (f2_told G N95 F110 T20 v179 3) fun v228 =>
                                            if (W36 v179.toNatClampNeg (3 : Int32).toNatClampNeg) ≤ v228 then
                                            (
                                              J1133 ()
                                            )
                                            else
                                            (
                                              none
                                            )
                                          )
                                          else
                                          (
                                            J1133 ()
                                          )
                                        )
                                        else
                                        (
                                          J1133 ()
                                        )
                                      )
                                      ) fun J1099 =>
                                      if v221 = 0 then
                                      (
                                        br (f2_told G N95 F110 T20 v179 3) fun v232 =>
                                        if v232 < ((W36 v179.toNatClampNeg (3 : Int32).toNatClampNeg) - 2) then
                                        (
                                          none
                                        )
                                        else
                                        (
                                          J1099 ()
                                        )
                                      )
                                      else
                                      (
                                        J1099 ()
                                      )
                                    )
                                    ) fun J1075 =>
                                    if v185 = 0 then
                                    (
                                      J1075 ()
                                    )
                                    else
                                    (
                                      if (W36 v179.toNatClampNeg (5 : Int32).toNatClampNeg) = 0 then
                                      (
                                        if v221 = 0 then
                                        (
                                          none
                                        )
                                        else
                                        (
                                          J1075 ()
                                        )
                                      )
                                      else
                                      (
                                        J1075 ()
                                      )
                                    )
                                  )
                                  ) fun J1053 =>
                                  if v226 = 1 then
                                  (
                                    if v185 = 0 then
                                    (
                                      if (v73 - v73 / 10 * 10) = 0 then
                                      (
                                        J1053 ()
                                      )
                                      else
                                      (
                                        none
                                      )
                                    )
                                    else
                                    (
                                      none
                                    )
                                  )
                                  else
                                  (
                                    J1053 ()
                                  )
                                )
                                ) fun J1034 =>
                                if v221 = 1 then
                                (
                                  if (W36 v179.toNatClampNeg (5 : Int32).toNatClampNeg) = 1 then
                                  (
                                    none
                                  )
                                  else
                                  (
                                    J1034 ()
                                  )
                                )
                                else
                                (
                                  J1034 ()
                                )
                              )
                            )
                          )
                        )
                      )
                      else
                      (
                        none
                      )
                    )
                    else
                    (
                      none
                    )
                  )
                  else
                  (
                    none
                  )
                )
                else
                (
                  none
                )
              )
            )
          )
        )
        ) fun J857 =>
        if v185 = 0 then
        (
          J857 ()
        )
        else
        (
          br (f2_told G N95 F110 T20 v179 3) fun v238 =>
          if v238 = 0 then
          (
            none
          )
          else
          (
            J857 ()
          )
        )
      )
      ) fun J827 =>
      if v185 = 0 then
      (
        J827 0
      )
      else
      (
        J827 1
      )
    )
    ) fun J813 =>
    if v182 = 1 then
    (
      J813 1
    )
    else
    (
      J813 0
    )
  )
def f6_law_L22 (xs : (Nat → Int32)) (LX : Nat) (G : St) (K : St → St → St → (Nat → Nat) → St → Option (St × St × St × (Nat → Nat) × St)) : Nat → Int32 → St → St → St → (Nat → Nat) → St → Option (St × St × St × (Nat → Nat) × St)
  | 0, _, _, _, _, _, _ => none
  | fu + 1, v2, N3, F4, T5, Y6, S7 =>
  if 60 ≤ v2 then
  (
    K N3 F4 T5 Y6 S7
  )
  else
  (
    bd (lcell xs LX (v2 - v2 / 16 * 16)) fun v14 =>
    lt_ ((v14 >>> (((v2 / 16) * 3) &&& 31)) + (103 * v2)) fun v17 =>
    lt_ (fun (N19 : St) (T20 : St) (Y21 : (Nat → Nat)) (S22 : St) =>
    (
      lt_ (fun (N23 : St) (S24 : St) =>
      (
        br (f2_count G N23 F4 T20 4) fun v25 =>
        br (f2_count G N23 F4 T20 7) fun v28 =>
        gd (decide (¬ v25 < 0 ∧ v25.toNatClampNeg ≤ 32)) <|
        f6_law_L131 v25 G N23 F4 T20 (fun (W36 : St) =>
        (
          gd (decide (¬ v28 < 0 ∧ v28.toNatClampNeg ≤ 32)) <|
          br (f2_count G N23 F4 T20 8) fun v49 =>
          br (f2_count G N23 F4 T20 9) fun v52 =>
          lt_ (v49 + v52) fun v55 =>
          f6_law_L204 v28 G N23 F4 T20 (fun (v59 : Int32) (W60 : St) =>
          (
            br (f2_count G N23 F4 T20 0) fun v73 =>
            bd (lbelow (v17 >>> (2 &&& 31)) v25) fun v76 =>
            br2 (f2_comes G N23 F4 T20 v76) fun v79 F80 =>
            br2 (f2_foresee G N23 F80 T20 1 0) fun v83 F84 =>
            br2 (f2_foresee G N23 F84 T20 1 2) fun v87 F88 =>
            br (f2_count G N23 F88 T20 9) fun v91 =>
            br2 (f2_pass G N23 F88 T20 1) fun v94 N95 =>
            bd (f5_pass_ Y21 S24 1) fun S98 =>
            lt_ (fun (F100 : St) =>
            (
              f6_law_L22 xs LX G K fu (v2 + 1) N95 F100 T20 Y21 S98
            )
            ) fun J1162 =>
            if v73 = 600 then
            (
              br (f2_count G N95 F88 T20 0) fun v251 =>
              if v251 = 600 then
              (
                if v94 = 0 then
                (
                  if v79 = (-1) then
                  (
                    J1162 F88
                  )
                  else
                  (
                    none
                  )
                )
                else
                (
                  none
                )
              )
              else
              (
                none
              )
            )
            else
            (
              br (f2_count G N95 F88 T20 0) fun v101 =>
              if v101 = (v73 + 1) then
              (
                br (f2_count G N95 F88 T20 5) fun v104 =>
                if v104 = v83 then
                (
                  br (f2_count G N95 F88 T20 9) fun v107 =>
                  if v107 = (v91 + v87) then
                  (
                    lt_ (fun (F110 : St) =>
                    (
                      br (f2_count G N95 F110 T20 8) fun v111 =>
                      br (f2_count G N95 F110 T20 9) fun v114 =>
                      lt_ (v111 + v114) fun v117 =>
                      f6_law_L433 v28 G N95 F110 T20 Y21 S98 W60 (fun (v121 : Int32) (v122 : Int32) =>
                      (
                        if v121 = v59 then
                        (
                          if v122 = v94 then
                          (
                            f6_law_L790 v25 v73 G N95 F110 T20 W36 (fun (v180 : Int32) (v181 : Int32) =>
                            (
                              br (f2_count G N95 F110 T20 5) fun v241 =>
                              if v241 = v180 then
                              (
                                br (f2_count G N95 F110 T20 8) fun v244 =>
                                if v244 = v181 then
                                (
                                  J1162 F110
                                )
                                else
                                (
                                  none
                                )
                              )
                              else
                              (
                                none
                              )
                            )
                            ) xF 0 0 0
                          )
                          else
                          (
                            none
                          )
                        )
                        else
                        (
                          none
                        )
                      )
                      ) xF v117 0 0
                    )
                    ) fun J412 =>
                    if v79 ≤ 1 then
                    (
                      J412 F88
                    )
                    else
                    (
                      br2 (f2_comes G N95 F88 T20 v76) fun v247 F248 =>
                      if v247 = (v79 - 1) then
                      (
                        J412 F248
                      )
                      else
                      (
                        none
                      )
                    )
                  )
                  else
                  (
                    none
                  )
                )
                else
                (
                  none
                )
              )
              else
              (
                none
              )
            )
          )
          ) xF v55 0 W0
        )
        ) xF 0 W0
      )
      ) fun J103 =>
      if (v2 - v2 / 9 * 9) = 8 then
      (
        bd (lbelow (v17 >>> (4 &&& 31)) 90) fun v254 =>
        lt_ (1 + v254) fun v257 =>
        br2 (f2_pass G N19 F4 T20 v257) fun v258 N259 =>
        bd (f5_pass_ Y21 S22 v257) fun S262 =>
        J103 N259 S262
      )
      else
      (
        J103 N19 S22
      )
    )
    ) fun J68 =>
    if (v2 - v2 / 3 * 3) = 0 then
    (
      bd5 (f6_act G N3 F4 T5 Y6 S7 v17) fun v264 N265 T266 Y267 S268 =>
      if v264 = 0 then
      (
        none
      )
      else
      (
        J68 N265 T266 Y267 S268
      )
    )
    else
    (
      J68 N3 T5 Y6 S7
    )
  )
def f6_law (G : St) (N : St) (F : St) (T : St) (Y : (Nat → Nat)) (S : St) (xs : Nat → Int32) (LX : Nat) : Option (St × St × St × (Nat → Nat) × St) :=
  f6_law_L22 xs LX G (fun (N9 : St) (F10 : St) (T11 : St) (Y12 : (Nat → Nat)) (S13 : St) =>
  (
    some (N9, F10, T11, Y12, S13)
  )
  ) xF64 0 N F T Y S
set_option maxHeartbeats 4000000 in
set_option maxRecDepth 100000 in
theorem w6_law_L141 {p : Program} {l : Launch} {e : Env} {s : State} {m : MethodId} {args : Array Value} {below : List Frame} {meth : Method} {c : Code} {D : va_G} {A : Nat → Prop} {y : Nat → ClassId} {bS : Nat} {aH : Nat} {aG aN aF aT : Nat → Nat} {aS18 : Nat → Nat} {Q : State → Prop} {bX LX : Nat} {xs : Nat → Int32} {G : St} {N23 : St} {F4 : St} {T20 : St} {Y21 : (Nat → Nat)} {S24 : St} {v2 : Int32} {v17 : Int32} {v25 : Int32} {v28 : Int32} {v34 : Int32} {N' : St} {F' : St} {T' : St} {Y' : (Nat → Nat)} {S' : St} {q31 : Nat} {r32 : (Nat → Nat)} {K : St → Option (St × St × St × (Nat → Nat) × St)} (C : xC p s m args meth c D A cL_law RL 27 wsL_law (xT y) (some .boolean)) (hJ : xJ2 s) (hX : xS bX LX xs s A) {k0_ n0_ : Nat} (hg1 : k0_ ≤ 1092944) (hg2 : n0_ ≤ 5822636) (hK : ∀ (W39 : St), K W39 = some (N', F', T', Y', S') → xV p l e room_1 s m args below meth c D A Q 27 (hC aH aN aF aT aG ++ (gC y aG G ++ (nC y aN N23 ++ (nC y aF F4 ++ (tC y aT T20 ++ (sC y bS aS18 Y21 S24 ++ ggC y q31 r32 (v25.toNatClampNeg) 9 W39)))))) k0_ n0_ [(0, .ref bX), (1, .ref aH), (2, .ref bS), (3, .int v2), (4, .int v17), (5, .int v25), (6, .int v28), (7, .ref q31), (8, .int v34)] 170 []) : ∀ (fu : Nat) (v37 : Int32) (W38 : St), f6_law_L141 v25 v34 G N23 F4 T20 K fu v37 W38 = some (N', F', T', Y', S') → xV p l e room_1 s m args below meth c D A Q 27 (hC aH aN aF aT aG ++ (gC y aG G ++ (nC y aN N23 ++ (nC y aF F4 ++ (tC y aT T20 ++ (sC y bS aS18 Y21 S24 ++ ggC y q31 r32 (v25.toNatClampNeg) 9 W38)))))) k0_ n0_ [(0, .ref bX), (1, .ref aH), (2, .ref bS), (3, .int v2), (4, .int v17), (5, .int v25), (6, .int v28), (7, .ref q31), (8, .int v34), (9, .int v37)] 141 [] := by
  intro fu
  induction fu with
  | zero => intro v37 W38 hf; rw [f6_law_L141] at hf; cases hf
  | succ fu ih =>
    intro v37 W38 hf
    rw [f6_law_L141] at hf
    refine x_iload (q := 143) C 9 dL_law_141 rfl rfl ?_
    refine x_bipush (q := 145) C dL_law_143 kb_9 rfl ?_
    refine x_icmp_ge (t := 170) (q := 148) C dL_law_145 (by decide) rfl (fun hc => ?_) (fun hc => ?_)
    · have hf := (if_pos hc).symm.trans hf
      refine x_sub [0, 1, 2, 3, 4, 5, 6, 7, 8] (L' := [(0, .ref bX), (1, .ref aH), (2, .ref bS), (3, .int v2), (4, .int v17), (5, .int v25), (6, .int v28), (7, .ref q31), (8, .int v34)]) rfl ?_
      exact hK W38 hf
    · have hf := (if_neg hc).symm.trans hf
      refine x_aload (q := 150) C 7 dL_law_148 rfl rfl ?_
      refine x_iload (q := 152) C 8 dL_law_150 rfl rfl ?_
      obtain ⟨hb40, hf⟩ := gd_some hf
      refine x_aald (q := 153) C 2 dL_law_152 (((((((ggR y q31 r32 (v25.toNatClampNeg) 9 W38).R).R).R).R).R).R) rfl rfl hb40 (if_pos (xin_lt hb40)) rfl ?_
      refine x_iload (q := 155) C 9 dL_law_153 rfl rfl ?_
      refine x_aload_n (q := 156) C 1 dL_law_155 rfl rfl rfl ?_
      refine x_iload (q := 158) C 8 dL_law_156 rfl rfl ?_
      refine x_iload (q := 160) C 9 dL_law_158 rfl rfl ?_
      obtain ⟨v41, hcal42, hf⟩ := br_some hf
      refine x_callVi (q := 163) C (c2_told (l := l) (D := D) (y := y) (aH := aH) (aG := aG) (aN := aN) (aF := aF) (aT := aT) hcal42) yi_X2_told gL_law_X2_told rfl ((oX2 aH aN aF aT aG).L) rfl ⟨(Nat.le_of_ble_eq_true rfl), (Nat.le_of_ble_eq_true rfl)⟩ dL_law_160 (pm7_01234 _ _ _ _ _ _ _) rfl rfl (Nat.le_of_ble_eq_true rfl) ⟨by simp only [room_1]; omega, by simp only [room_1]; omega⟩ rfl ?_
      intro rr43 uu hrr
      have hrr : v41 = rr43 := Eq.symm hrr
      subst hrr
      refine x_perm (ws' := hC aH aN aF aT aG ++ (gC y aG G ++ (nC y aN N23 ++ (nC y aF F4 ++ (tC y aT T20 ++ (sC y bS aS18 Y21 S24 ++ ggC y q31 r32 (v25.toNatClampNeg) 9 W38)))))) (pm7_01234 _ _ _ _ _ _ _).symm ?_
      obtain ⟨hb44, hf⟩ := gd_some hf
      obtain ⟨W45, eW45, hf⟩ := lt_elim hf
      refine x_iast (q := 164) (ws' := hC aH aN aF aT aG ++ (gC y aG G ++ (nC y aN N23 ++ (nC y aF F4 ++ (tC y aT T20 ++ (sC y bS aS18 Y21 S24 ++ ggC y q31 r32 (v25.toNatClampNeg) 9 W45)))))) C 0 dL_law_163 (((((((ggA y q31 r32 (v25.toNatClampNeg) 9 W38 (xin_lt hb40)).R).R).R).R).R).R) rfl hb44 (congrArg (fun z => hC aH aN aF aT aG ++ (gC y aG G ++ (nC y aN N23 ++ (nC y aF F4 ++ (tC y aT T20 ++ (sC y bS aS18 Y21 S24 ++ ggC y q31 r32 (v25.toNatClampNeg) 9 z)))))) eW45.symm) rfl ?_
      refine x_iinc (q := 167) C 9 (v37 + 1) [1, 2, 3, 4, 5, 6, 7, 8, 9, 0] [(0, .ref bX), (1, .ref aH), (2, .ref bS), (3, .int v2), (4, .int v17), (5, .int v25), (6, .int v28), (7, .ref q31), (8, .int v34), (9, .int (v37 + 1))] dL_law_164 rfl (congrArg (fun z => v37 + z) ki_1) (by decide) rfl rfl ?_
      refine x_goto (t := 141) C dL_law_167 (by decide) ?_
      exact ih (v37 + 1) W45 hf
set_option maxHeartbeats 4000000 in
set_option maxRecDepth 100000 in
theorem w6_law_L131 {p : Program} {l : Launch} {e : Env} {s : State} {m : MethodId} {args : Array Value} {below : List Frame} {meth : Method} {c : Code} {D : va_G} {A : Nat → Prop} {y : Nat → ClassId} {bS : Nat} {aH : Nat} {aG aN aF aT : Nat → Nat} {aS18 : Nat → Nat} {Q : State → Prop} {bX LX : Nat} {xs : Nat → Int32} {G : St} {N23 : St} {F4 : St} {T20 : St} {Y21 : (Nat → Nat)} {S24 : St} {v2 : Int32} {v17 : Int32} {v25 : Int32} {v28 : Int32} {N' : St} {F' : St} {T' : St} {Y' : (Nat → Nat)} {S' : St} {q31 : Nat} {r32 : (Nat → Nat)} {K : St → Option (St × St × St × (Nat → Nat) × St)} (C : xC p s m args meth c D A cL_law RL 27 wsL_law (xT y) (some .boolean)) (hJ : xJ2 s) (hX : xS bX LX xs s A) {k0_ n0_ : Nat} (hg1 : k0_ ≤ 1092944) (hg2 : n0_ ≤ 5822636) (hK : ∀ (W36 : St), K W36 = some (N', F', T', Y', S') → xV p l e room_1 s m args below meth c D A Q 27 (hC aH aN aF aT aG ++ (gC y aG G ++ (nC y aN N23 ++ (nC y aF F4 ++ (tC y aT T20 ++ (sC y bS aS18 Y21 S24 ++ ggC y q31 r32 (v25.toNatClampNeg) 9 W36)))))) k0_ n0_ [(0, .ref bX), (1, .ref aH), (2, .ref bS), (3, .int v2), (4, .int v17), (5, .int v25), (6, .int v28), (7, .ref q31)] 176 []) : ∀ (fu : Nat) (v34 : Int32) (W35 : St), f6_law_L131 v25 G N23 F4 T20 K fu v34 W35 = some (N', F', T', Y', S') → xV p l e room_1 s m args below meth c D A Q 27 (hC aH aN aF aT aG ++ (gC y aG G ++ (nC y aN N23 ++ (nC y aF F4 ++ (tC y aT T20 ++ (sC y bS aS18 Y21 S24 ++ ggC y q31 r32 (v25.toNatClampNeg) 9 W35)))))) k0_ n0_ [(0, .ref bX), (1, .ref aH), (2, .ref bS), (3, .int v2), (4, .int v17), (5, .int v25), (6, .int v28), (7, .ref q31), (8, .int v34)] 131 [] := by
  intro fu
  induction fu with
  | zero => intro v34 W35 hf; rw [f6_law_L131] at hf; cases hf
  | succ fu ih =>
    intro v34 W35 hf
    rw [f6_law_L131] at hf
    refine x_iload (q := 133) C 8 dL_law_131 rfl rfl ?_
    refine x_iload (q := 135) C 5 dL_law_133 rfl rfl ?_
    refine x_icmp_ge (t := 176) (q := 138) C dL_law_135 (by decide) rfl (fun hc => ?_) (fun hc => ?_)
    · have hf := (if_pos hc).symm.trans hf
      refine x_sub [0, 1, 2, 3, 4, 5, 6, 7] (L' := [(0, .ref bX), (1, .ref aH), (2, .ref bS), (3, .int v2), (4, .int v17), (5, .int v25), (6, .int v28), (7, .ref q31)]) rfl ?_
      exact hK W35 hf
    · have hf := (if_neg hc).symm.trans hf
      refine x_iconst (q := 139) C dL_law_138 ki_0 rfl ?_
      refine x_istore (q := 141) C [1, 2, 3, 4, 5, 6, 7, 8, 9, 0] [(0, .ref bX), (1, .ref aH), (2, .ref bS), (3, .int v2), (4, .int v17), (5, .int v25), (6, .int v28), (7, .ref q31), (8, .int v34), (9, .int 0)] dL_law_139 (by decide) rfl rfl ?_
      refine w6_law_L141 C hJ hX (by omega) (by omega) (fun W39 hf => ?_) xF 0 W35 hf
      refine x_iinc (q := 173) C 8 (v34 + 1) [1, 2, 3, 4, 5, 6, 7, 8, 0] [(0, .ref bX), (1, .ref aH), (2, .ref bS), (3, .int v2), (4, .int v17), (5, .int v25), (6, .int v28), (7, .ref q31), (8, .int (v34 + 1))] dL_law_170 rfl (congrArg (fun z => v34 + z) ki_1) (by decide) rfl rfl ?_
      refine x_goto (t := 131) C dL_law_173 (by decide) ?_
      exact ih (v34 + 1) W39 hf
set_option maxHeartbeats 4000000 in
set_option maxRecDepth 100000 in
theorem w6_law_L214 {p : Program} {l : Launch} {e : Env} {s : State} {m : MethodId} {args : Array Value} {below : List Frame} {meth : Method} {c : Code} {D : va_G} {A : Nat → Prop} {y : Nat → ClassId} {bS : Nat} {aH : Nat} {aG aN aF aT : Nat → Nat} {aS18 : Nat → Nat} {Q : State → Prop} {bX LX : Nat} {xs : Nat → Int32} {G : St} {N23 : St} {F4 : St} {T20 : St} {Y21 : (Nat → Nat)} {S24 : St} {v2 : Int32} {v17 : Int32} {v25 : Int32} {v28 : Int32} {v56 : Int32} {v57 : Int32} {W36 : St} {N' : St} {F' : St} {T' : St} {Y' : (Nat → Nat)} {S' : St} {q31 : Nat} {r32 : (Nat → Nat)} {q46 : Nat} {r47 : (Nat → Nat)} {K : St → Option (St × St × St × (Nat → Nat) × St)} (C : xC p s m args meth c D A cL_law RL 27 wsL_law (xT y) (some .boolean)) (hJ : xJ2 s) (hX : xS bX LX xs s A) {k0_ n0_ : Nat} (hg1 : k0_ ≤ 1092944) (hg2 : n0_ ≤ 5822636) (hK : ∀ (W63 : St), K W63 = some (N', F', T', Y', S') → xV p l e room_1 s m args below meth c D A Q 27 (hC aH aN aF aT aG ++ (gC y aG G ++ (nC y aN N23 ++ (nC y aF F4 ++ (tC y aT T20 ++ (sC y bS aS18 Y21 S24 ++ (ggC y q31 r32 (v25.toNatClampNeg) 9 W36 ++ ggC y q46 r47 (v28.toNatClampNeg) 7 W63))))))) k0_ n0_ [(0, .ref bX), (1, .ref aH), (2, .ref bS), (3, .int v2), (4, .int v17), (5, .int v25), (6, .int v28), (7, .ref q31), (8, .ref q46), (9, .int v56), (10, .int v57)] 243 []) : ∀ (fu : Nat) (v61 : Int32) (W62 : St), f6_law_L214 v28 v57 G N23 F4 T20 K fu v61 W62 = some (N', F', T', Y', S') → xV p l e room_1 s m args below meth c D A Q 27 (hC aH aN aF aT aG ++ (gC y aG G ++ (nC y aN N23 ++ (nC y aF F4 ++ (tC y aT T20 ++ (sC y bS aS18 Y21 S24 ++ (ggC y q31 r32 (v25.toNatClampNeg) 9 W36 ++ ggC y q46 r47 (v28.toNatClampNeg) 7 W62))))))) k0_ n0_ [(0, .ref bX), (1, .ref aH), (2, .ref bS), (3, .int v2), (4, .int v17), (5, .int v25), (6, .int v28), (7, .ref q31), (8, .ref q46), (9, .int v56), (10, .int v57), (11, .int v61)] 214 [] := by
  intro fu
  induction fu with
  | zero => intro v61 W62 hf; rw [f6_law_L214] at hf; cases hf
  | succ fu ih =>
    intro v61 W62 hf
    rw [f6_law_L214] at hf
    refine x_iload (q := 216) C 11 dL_law_214 rfl rfl ?_
    refine x_bipush (q := 218) C dL_law_216 kb_7 rfl ?_
    refine x_icmp_ge (t := 243) (q := 221) C dL_law_218 (by decide) rfl (fun hc => ?_) (fun hc => ?_)
    · have hf := (if_pos hc).symm.trans hf
      refine x_sub [0, 1, 2, 3, 4, 5, 6, 7, 8, 9, 10] (L' := [(0, .ref bX), (1, .ref aH), (2, .ref bS), (3, .int v2), (4, .int v17), (5, .int v25), (6, .int v28), (7, .ref q31), (8, .ref q46), (9, .int v56), (10, .int v57)]) rfl ?_
      exact hK W62 hf
    · have hf := (if_neg hc).symm.trans hf
      refine x_aload (q := 223) C 8 dL_law_221 rfl rfl ?_
      refine x_iload (q := 225) C 10 dL_law_223 rfl rfl ?_
      obtain ⟨hb64, hf⟩ := gd_some hf
      refine x_aald (q := 226) C 2 dL_law_225 ((((((((ggR y q46 r47 (v28.toNatClampNeg) 7 W62).R).R).R).R).R).R).R) rfl rfl hb64 (if_pos (xin_lt hb64)) rfl ?_
      refine x_iload (q := 228) C 11 dL_law_226 rfl rfl ?_
      refine x_aload_n (q := 229) C 1 dL_law_228 rfl rfl rfl ?_
      refine x_iload (q := 231) C 10 dL_law_229 rfl rfl ?_
      refine x_iload (q := 233) C 11 dL_law_231 rfl rfl ?_
      obtain ⟨v65, hcal66, hf⟩ := br_some hf
      refine x_callVi (q := 236) C (c2_lighter (l := l) (D := D) (y := y) (aH := aH) (aG := aG) (aN := aN) (aF := aF) (aT := aT) hcal66) yi_X2_lighter gL_law_X2_lighter rfl ((oX2 aH aN aF aT aG).L) rfl ⟨(Nat.le_of_ble_eq_true rfl), (Nat.le_of_ble_eq_true rfl)⟩ dL_law_233 (pm8_01234 _ _ _ _ _ _ _ _) rfl rfl (Nat.le_of_ble_eq_true rfl) ⟨by simp only [room_1]; omega, by simp only [room_1]; omega⟩ rfl ?_
      intro rr67 uu hrr
      have hrr : v65 = rr67 := Eq.symm hrr
      subst hrr
      refine x_perm (ws' := hC aH aN aF aT aG ++ (gC y aG G ++ (nC y aN N23 ++ (nC y aF F4 ++ (tC y aT T20 ++ (sC y bS aS18 Y21 S24 ++ (ggC y q31 r32 (v25.toNatClampNeg) 9 W36 ++ ggC y q46 r47 (v28.toNatClampNeg) 7 W62))))))) (pm8_01234 _ _ _ _ _ _ _ _).symm ?_
      obtain ⟨hb68, hf⟩ := gd_some hf
      obtain ⟨W69, eW69, hf⟩ := lt_elim hf
      refine x_iast (q := 237) (ws' := hC aH aN aF aT aG ++ (gC y aG G ++ (nC y aN N23 ++ (nC y aF F4 ++ (tC y aT T20 ++ (sC y bS aS18 Y21 S24 ++ (ggC y q31 r32 (v25.toNatClampNeg) 9 W36 ++ ggC y q46 r47 (v28.toNatClampNeg) 7 W69))))))) C 0 dL_law_236 ((((((((ggA y q46 r47 (v28.toNatClampNeg) 7 W62 (xin_lt hb64)).R).R).R).R).R).R).R) rfl hb68 (congrArg (fun z => hC aH aN aF aT aG ++ (gC y aG G ++ (nC y aN N23 ++ (nC y aF F4 ++ (tC y aT T20 ++ (sC y bS aS18 Y21 S24 ++ (ggC y q31 r32 (v25.toNatClampNeg) 9 W36 ++ ggC y q46 r47 (v28.toNatClampNeg) 7 z))))))) eW69.symm) rfl ?_
      refine x_iinc (q := 240) C 11 (v61 + 1) [1, 2, 3, 4, 5, 6, 7, 8, 9, 10, 11, 0] [(0, .ref bX), (1, .ref aH), (2, .ref bS), (3, .int v2), (4, .int v17), (5, .int v25), (6, .int v28), (7, .ref q31), (8, .ref q46), (9, .int v56), (10, .int v57), (11, .int (v61 + 1))] dL_law_237 rfl (congrArg (fun z => v61 + z) ki_1) (by decide) rfl rfl ?_
      refine x_goto (t := 214) C dL_law_240 (by decide) ?_
      exact ih (v61 + 1) W69 hf
set_option maxHeartbeats 4000000 in
set_option maxRecDepth 100000 in
theorem w6_law_L204 {p : Program} {l : Launch} {e : Env} {s : State} {m : MethodId} {args : Array Value} {below : List Frame} {meth : Method} {c : Code} {D : va_G} {A : Nat → Prop} {y : Nat → ClassId} {bS : Nat} {aH : Nat} {aG aN aF aT : Nat → Nat} {aS18 : Nat → Nat} {Q : State → Prop} {bX LX : Nat} {xs : Nat → Int32} {G : St} {N23 : St} {F4 : St} {T20 : St} {Y21 : (Nat → Nat)} {S24 : St} {v2 : Int32} {v17 : Int32} {v25 : Int32} {v28 : Int32} {W36 : St} {N' : St} {F' : St} {T' : St} {Y' : (Nat → Nat)} {S' : St} {q31 : Nat} {r32 : (Nat → Nat)} {q46 : Nat} {r47 : (Nat → Nat)} {K : Int32 → St → Option (St × St × St × (Nat → Nat) × St)} (C : xC p s m args meth c D A cL_law RL 27 wsL_law (xT y) (some .boolean)) (hJ : xJ2 s) (hX : xS bX LX xs s A) {k0_ n0_ : Nat} (hg1 : k0_ ≤ 1092944) (hg2 : n0_ ≤ 5822636) (hK : ∀ (v59 : Int32) (W60 : St), K v59 W60 = some (N', F', T', Y', S') → xV p l e room_1 s m args below meth c D A Q 27 (hC aH aN aF aT aG ++ (gC y aG G ++ (nC y aN N23 ++ (nC y aF F4 ++ (tC y aT T20 ++ (sC y bS aS18 Y21 S24 ++ (ggC y q31 r32 (v25.toNatClampNeg) 9 W36 ++ ggC y q46 r47 (v28.toNatClampNeg) 7 W60))))))) k0_ n0_ [(0, .ref bX), (1, .ref aH), (2, .ref bS), (3, .int v2), (4, .int v17), (5, .int v25), (6, .int v28), (7, .ref q31), (8, .ref q46), (9, .int v59)] 261 []) : ∀ (fu : Nat) (v56 : Int32) (v57 : Int32) (W58 : St), f6_law_L204 v28 G N23 F4 T20 K fu v56 v57 W58 = some (N', F', T', Y', S') → xV p l e room_1 s m args below meth c D A Q 27 (hC aH aN aF aT aG ++ (gC y aG G ++ (nC y aN N23 ++ (nC y aF F4 ++ (tC y aT T20 ++ (sC y bS aS18 Y21 S24 ++ (ggC y q31 r32 (v25.toNatClampNeg) 9 W36 ++ ggC y q46 r47 (v28.toNatClampNeg) 7 W58))))))) k0_ n0_ [(0, .ref bX), (1, .ref aH), (2, .ref bS), (3, .int v2), (4, .int v17), (5, .int v25), (6, .int v28), (7, .ref q31), (8, .ref q46), (9, .int v56), (10, .int v57)] 204 [] := by
  intro fu
  induction fu with
  | zero => intro v56 v57 W58 hf; rw [f6_law_L204] at hf; cases hf
  | succ fu ih =>
    intro v56 v57 W58 hf
    rw [f6_law_L204] at hf
    refine x_iload (q := 206) C 10 dL_law_204 rfl rfl ?_
    refine x_iload (q := 208) C 6 dL_law_206 rfl rfl ?_
    refine x_icmp_ge (t := 261) (q := 211) C dL_law_208 (by decide) rfl (fun hc => ?_) (fun hc => ?_)
    · have hf := (if_pos hc).symm.trans hf
      refine x_sub [0, 1, 2, 3, 4, 5, 6, 7, 8, 9] (L' := [(0, .ref bX), (1, .ref aH), (2, .ref bS), (3, .int v2), (4, .int v17), (5, .int v25), (6, .int v28), (7, .ref q31), (8, .ref q46), (9, .int v56)]) rfl ?_
      exact hK v56 W58 hf
    · have hf := (if_neg hc).symm.trans hf
      refine x_iconst (q := 212) C dL_law_211 ki_0 rfl ?_
      refine x_istore (q := 214) C [1, 2, 3, 4, 5, 6, 7, 8, 9, 10, 11, 0] [(0, .ref bX), (1, .ref aH), (2, .ref bS), (3, .int v2), (4, .int v17), (5, .int v25), (6, .int v28), (7, .ref q31), (8, .ref q46), (9, .int v56), (10, .int v57), (11, .int 0)] dL_law_212 (by decide) rfl rfl ?_
      refine w6_law_L214 C hJ hX (by omega) (by omega) (fun W63 hf => ?_) xF 0 W58 hf
      refine x_iload (q := 245) C 9 dL_law_243 rfl rfl ?_
      refine x_aload (q := 247) C 8 dL_law_245 rfl rfl ?_
      refine x_iload (q := 249) C 10 dL_law_247 rfl rfl ?_
      obtain ⟨hb70, hf⟩ := gd_some hf
      refine x_aald (q := 250) C 2 dL_law_249 ((((((((ggR y q46 r47 (v28.toNatClampNeg) 7 W63).R).R).R).R).R).R).R) rfl rfl hb70 (if_pos (xin_lt hb70)) rfl ?_
      refine x_iconst (q := 251) C dL_law_250 ki_2 rfl ?_
      have hb71 : xin 2 7 = true := by decide
      refine x_iald (q := 252) C 0 dL_law_251 ((((((((ggA y q46 r47 (v28.toNatClampNeg) 7 W63 (xin_lt hb70)).R).R).R).R).R).R).R) rfl hb71 rfl ?_
      refine x_iadd (q := 253) C dL_law_252 rfl ?_
      obtain ⟨v72, ev72, hf⟩ := lt_elim hf
      refine x_topi ev72 ?_
      refine x_istore (q := 255) C [1, 2, 3, 4, 5, 6, 7, 8, 9, 0, 10] [(0, .ref bX), (1, .ref aH), (2, .ref bS), (3, .int v2), (4, .int v17), (5, .int v25), (6, .int v28), (7, .ref q31), (8, .ref q46), (9, .int v72), (10, .int v57)] dL_law_253 (by decide) rfl rfl ?_
      refine x_iinc (q := 258) C 10 (v57 + 1) [1, 2, 3, 4, 5, 6, 7, 8, 9, 10, 0] [(0, .ref bX), (1, .ref aH), (2, .ref bS), (3, .int v2), (4, .int v17), (5, .int v25), (6, .int v28), (7, .ref q31), (8, .ref q46), (9, .int v72), (10, .int (v57 + 1))] dL_law_255 rfl (congrArg (fun z => v57 + z) ki_1) (by decide) rfl rfl ?_
      refine x_goto (t := 204) C dL_law_258 (by decide) ?_
      exact ih v72 (v57 + 1) W63 hf
set_option maxHeartbeats 4000000 in
set_option maxRecDepth 100000 in
theorem w6_law_L653 {p : Program} {l : Launch} {e : Env} {s : State} {m : MethodId} {args : Array Value} {below : List Frame} {meth : Method} {c : Code} {D : va_G} {A : Nat → Prop} {y : Nat → ClassId} {bS : Nat} {aH : Nat} {aG aN aF aT : Nat → Nat} {aS18 : Nat → Nat} {Q : State → Prop} {bX LX : Nat} {xs : Nat → Int32} {G : St} {N95 : St} {F110 : St} {T20 : St} {Y21 : (Nat → Nat)} {S98 : St} {v2 : Int32} {v25 : Int32} {v28 : Int32} {v59 : Int32} {v73 : Int32} {v94 : Int32} {v132 : Int32} {v138 : Int32} {v120 : Int32} {v123 : Int32} {v126 : Int32} {v151 : Int32} {W36 : St} {W60 : St} {N' : St} {F' : St} {T' : St} {Y' : (Nat → Nat)} {S' : St} {q31 : Nat} {r32 : (Nat → Nat)} {q46 : Nat} {r47 : (Nat → Nat)} {K : Int32 → Option (St × St × St × (Nat → Nat) × St)} (C : xC p s m args meth c D A cL_law RL 27 wsL_law (xT y) (some .boolean)) (hJ : xJ2 s) (hX : xS bX LX xs s A) (hb150 : xin v120 (Y21 5) = true) {k0_ n0_ : Nat} (hg1 : k0_ ≤ 1092944) (hg2 : n0_ ≤ 5822636) (hK : ∀ (v154 : Int32), K v154 = some (N', F', T', Y', S') → xV p l e room_1 s m args below meth c D A Q 27 (hC aH aN aF aT aG ++ (gC y aG G ++ (nC y aN N95 ++ (nC y aF F110 ++ (tC y aT T20 ++ (sC y bS aS18 Y21 S98 ++ (ggC y q31 r32 (v25.toNatClampNeg) 9 W36 ++ ggC y q46 r47 (v28.toNatClampNeg) 7 W60))))))) k0_ n0_ [(0, .ref bX), (1, .ref aH), (2, .ref bS), (3, .int v2), (5, .int v25), (6, .int v28), (7, .ref q31), (8, .ref q46), (9, .int v59), (10, .int v73), (16, .int v94), (17, .int v132), (18, .int v138), (19, .int v120), (20, .int v123), (21, .int v126), (22, .int v154)] 692 []) : ∀ (fu : Nat) (v152 : Int32) (v153 : Int32), f6_law_L653 v120 v123 v151 Y21 S98 K fu v152 v153 = some (N', F', T', Y', S') → xV p l e room_1 s m args below meth c D A Q 27 (hC aH aN aF aT aG ++ (gC y aG G ++ (nC y aN N95 ++ (nC y aF F110 ++ (tC y aT T20 ++ (sC y bS aS18 Y21 S98 ++ (ggC y q31 r32 (v25.toNatClampNeg) 9 W36 ++ ggC y q46 r47 (v28.toNatClampNeg) 7 W60))))))) k0_ n0_ [(0, .ref bX), (1, .ref aH), (2, .ref bS), (3, .int v2), (5, .int v25), (6, .int v28), (7, .ref q31), (8, .ref q46), (9, .int v59), (10, .int v73), (16, .int v94), (17, .int v132), (18, .int v138), (19, .int v120), (20, .int v123), (21, .int v126), (22, .int v152), (23, .ref (aS18 (rk 13 v120.toNatClampNeg))), (24, .int v151), (25, .int v153)] 653 [] := by
  intro fu
  induction fu with
  | zero => intro v152 v153 hf; rw [f6_law_L653] at hf; cases hf
  | succ fu ih =>
    intro v152 v153 hf
    rw [f6_law_L653] at hf
    refine x_iload (q := 655) C 19 dL_law_653 rfl rfl ?_
    refine x_iload (q := 657) C 18 dL_law_655 rfl rfl ?_
    refine x_icmp_ge (t := 692) (q := 660) C dL_law_657 (by decide) rfl (fun hc => ?_) (fun hc => ?_)
    · have hf := (if_pos hc).symm.trans hf
      refine x_sub [0, 1, 2, 3, 4, 5, 6, 7, 8, 9, 10, 11, 12, 13, 14, 15, 16] (L' := [(0, .ref bX), (1, .ref aH), (2, .ref bS), (3, .int v2), (5, .int v25), (6, .int v28), (7, .ref q31), (8, .ref q46), (9, .int v59), (10, .int v73), (16, .int v94), (17, .int v132), (18, .int v138), (19, .int v120), (20, .int v123), (21, .int v126), (22, .int v152)]) rfl ?_
      exact hK v152 hf
    · have hf := (if_neg hc).symm.trans hf
      refine x_aload (q := 662) C 17 dL_law_660 rfl rfl ?_
      refine x_iload (q := 664) C 19 dL_law_662 rfl rfl ?_
      obtain ⟨hb155, hf⟩ := gd_some hf
      refine x_iald (q := 665) C 0 dL_law_664 (((((((aX3_r4 y bS aS18 Y21 S98 (xin_lt hb150)).L).R).R).R).R).R) rfl hb155 rfl ?_
      obtain ⟨v156, ev156, hf⟩ := lt_elim hf
      refine x_topi ev156 ?_
      refine x_istore (q := 667) C [1, 2, 3, 4, 5, 6, 7, 8, 9, 10, 11, 12, 13, 14, 15, 16, 17, 18, 19, 20, 0] [(0, .ref bX), (1, .ref aH), (2, .ref bS), (3, .int v2), (5, .int v25), (6, .int v28), (7, .ref q31), (8, .ref q46), (9, .int v59), (10, .int v73), (16, .int v94), (17, .int v132), (18, .int v138), (19, .int v120), (20, .int v123), (21, .int v126), (22, .int v152), (23, .ref (aS18 (rk 13 v120.toNatClampNeg))), (24, .int v151), (25, .int v153), (26, .int v156)] dL_law_665 (by decide) rfl rfl ?_
      refine x_iload (q := 669) C 16 dL_law_667 rfl rfl ?_
      obtain ⟨J684, eJ684, hf⟩ := lt_elim hf
      have hJ684 : ∀ (v157 : Int32), J684 v157 = some (N', F', T', Y', S') → xV p l e room_1 s m args below meth c D A Q 27 (hC aH aN aF aT aG ++ (gC y aG G ++ (nC y aN N95 ++ (nC y aF F110 ++ (tC y aT T20 ++ (sC y bS aS18 Y21 S98 ++ (ggC y q31 r32 (v25.toNatClampNeg) 9 W36 ++ ggC y q46 r47 (v28.toNatClampNeg) 7 W60))))))) k0_ n0_ [(0, .ref bX), (1, .ref aH), (2, .ref bS), (3, .int v2), (5, .int v25), (6, .int v28), (7, .ref q31), (8, .ref q46), (9, .int v59), (10, .int v73), (16, .int v94), (17, .int v132), (18, .int v138), (19, .int v120), (20, .int v123), (21, .int v126), (23, .ref (aS18 (rk 13 v120.toNatClampNeg))), (24, .int v151), (25, .int v153)] 684 [.int v157] := by
        intro v157 hf
        subst eJ684
        refine x_istore (q := 686) C [1, 2, 3, 4, 5, 6, 7, 8, 9, 10, 11, 12, 13, 14, 15, 16, 0, 17, 18, 19] [(0, .ref bX), (1, .ref aH), (2, .ref bS), (3, .int v2), (5, .int v25), (6, .int v28), (7, .ref q31), (8, .ref q46), (9, .int v59), (10, .int v73), (16, .int v94), (17, .int v132), (18, .int v138), (19, .int v120), (20, .int v123), (21, .int v126), (22, .int v157), (23, .ref (aS18 (rk 13 v120.toNatClampNeg))), (24, .int v151), (25, .int v153)] dL_law_684 (by decide) rfl rfl ?_
        refine x_iinc (q := 689) C 19 (v153 + 1) [1, 2, 3, 4, 5, 6, 7, 8, 9, 10, 11, 12, 13, 14, 15, 16, 17, 18, 19, 0] [(0, .ref bX), (1, .ref aH), (2, .ref bS), (3, .int v2), (5, .int v25), (6, .int v28), (7, .ref q31), (8, .ref q46), (9, .int v59), (10, .int v73), (16, .int v94), (17, .int v132), (18, .int v138), (19, .int v120), (20, .int v123), (21, .int v126), (22, .int v157), (23, .ref (aS18 (rk 13 v120.toNatClampNeg))), (24, .int v151), (25, .int (v153 + 1))] dL_law_686 rfl (congrArg (fun z => v153 + z) ki_1) (by decide) rfl rfl ?_
        refine x_goto (t := 653) C dL_law_689 (by decide) ?_
        exact ih v157 (v153 + 1) hf
      obtain ⟨J679, eJ679, hf⟩ := lt_elim hf
      have hJ679 : ∀ (u_ : Unit), J679 u_ = some (N', F', T', Y', S') → xV p l e room_1 s m args below meth c D A Q 27 (hC aH aN aF aT aG ++ (gC y aG G ++ (nC y aN N95 ++ (nC y aF F110 ++ (tC y aT T20 ++ (sC y bS aS18 Y21 S98 ++ (ggC y q31 r32 (v25.toNatClampNeg) 9 W36 ++ ggC y q46 r47 (v28.toNatClampNeg) 7 W60))))))) k0_ n0_ [(0, .ref bX), (1, .ref aH), (2, .ref bS), (3, .int v2), (5, .int v25), (6, .int v28), (7, .ref q31), (8, .ref q46), (9, .int v59), (10, .int v73), (16, .int v94), (17, .int v132), (18, .int v138), (19, .int v120), (20, .int v123), (21, .int v126), (23, .ref (aS18 (rk 13 v120.toNatClampNeg))), (24, .int v151), (25, .int v153)] 679 [] := by
        intro u_ hf
        subst eJ679
        refine x_iconst (q := 680) C dL_law_679 ki_1 rfl ?_
        refine x_goto (t := 684) C dL_law_680 (by decide) ?_
        exact hJ684 1 hf
      refine x_if_ne (t := 679) (q := 672) C dL_law_669 (by decide) rfl (fun hc => ?_) (fun hc => ?_)
      · have hf := (if_neg hc).symm.trans hf
        refine x_sub [0, 1, 2, 3, 4, 5, 6, 7, 8, 9, 10, 11, 12, 13, 14, 15, 17, 18, 19] (L' := [(0, .ref bX), (1, .ref aH), (2, .ref bS), (3, .int v2), (5, .int v25), (6, .int v28), (7, .ref q31), (8, .ref q46), (9, .int v59), (10, .int v73), (16, .int v94), (17, .int v132), (18, .int v138), (19, .int v120), (20, .int v123), (21, .int v126), (23, .ref (aS18 (rk 13 v120.toNatClampNeg))), (24, .int v151), (25, .int v153)]) rfl ?_
        exact hJ679 () hf
      · have hf := (if_pos hc).symm.trans hf
        refine x_iload (q := 674) C 20 dL_law_672 rfl rfl ?_
        refine x_iload (q := 676) C 14 dL_law_674 rfl rfl ?_
        refine x_icmp_ne (t := 683) (q := 679) C dL_law_676 (by decide) rfl (fun hc => ?_) (fun hc => ?_)
        · have hf := (if_neg hc).symm.trans hf
          refine x_iconst (q := 684) C dL_law_683 ki_0 rfl ?_
          refine x_sub [0, 1, 2, 3, 4, 5, 6, 7, 8, 9, 10, 11, 12, 13, 14, 15, 17, 18, 19] (L' := [(0, .ref bX), (1, .ref aH), (2, .ref bS), (3, .int v2), (5, .int v25), (6, .int v28), (7, .ref q31), (8, .ref q46), (9, .int v59), (10, .int v73), (16, .int v94), (17, .int v132), (18, .int v138), (19, .int v120), (20, .int v123), (21, .int v126), (23, .ref (aS18 (rk 13 v120.toNatClampNeg))), (24, .int v151), (25, .int v153)]) rfl ?_
          exact hJ684 0 hf
        · have hf := (if_pos hc).symm.trans hf
          refine x_sub [0, 1, 2, 3, 4, 5, 6, 7, 8, 9, 10, 11, 12, 13, 14, 15, 17, 18, 19] (L' := [(0, .ref bX), (1, .ref aH), (2, .ref bS), (3, .int v2), (5, .int v25), (6, .int v28), (7, .ref q31), (8, .ref q46), (9, .int v59), (10, .int v73), (16, .int v94), (17, .int v132), (18, .int v138), (19, .int v120), (20, .int v123), (21, .int v126), (23, .ref (aS18 (rk 13 v120.toNatClampNeg))), (24, .int v151), (25, .int v153)]) rfl ?_
          exact hJ679 () hf
set_option maxHeartbeats 4000000 in
set_option maxRecDepth 100000 in
theorem w6_law_L433 {p : Program} {l : Launch} {e : Env} {s : State} {m : MethodId} {args : Array Value} {below : List Frame} {meth : Method} {c : Code} {D : va_G} {A : Nat → Prop} {y : Nat → ClassId} {bS : Nat} {aH : Nat} {aG aN aF aT : Nat → Nat} {aS18 : Nat → Nat} {Q : State → Prop} {bX LX : Nat} {xs : Nat → Int32} {G : St} {N95 : St} {F110 : St} {T20 : St} {Y21 : (Nat → Nat)} {S98 : St} {v2 : Int32} {v25 : Int32} {v28 : Int32} {v59 : Int32} {v73 : Int32} {v94 : Int32} {W36 : St} {W60 : St} {N' : St} {F' : St} {T' : St} {Y' : (Nat → Nat)} {S' : St} {q31 : Nat} {r32 : (Nat → Nat)} {q46 : Nat} {r47 : (Nat → Nat)} {K : Int32 → Int32 → Option (St × St × St × (Nat → Nat) × St)} (C : xC p s m args meth c D A cL_law RL 27 wsL_law (xT y) (some .boolean)) (hJ : xJ2 s) (hX : xS bX LX xs s A) {k0_ n0_ : Nat} (hg1 : k0_ ≤ 1092944) (hg2 : n0_ ≤ 5822636) (hK : ∀ (v121 : Int32) (v122 : Int32), K v121 v122 = some (N', F', T', Y', S') → xV p l e room_1 s m args below meth c D A Q 27 (hC aH aN aF aT aG ++ (gC y aG G ++ (nC y aN N95 ++ (nC y aF F110 ++ (tC y aT T20 ++ (sC y bS aS18 Y21 S98 ++ (ggC y q31 r32 (v25.toNatClampNeg) 9 W36 ++ ggC y q46 r47 (v28.toNatClampNeg) 7 W60))))))) k0_ n0_ [(0, .ref bX), (1, .ref aH), (2, .ref bS), (3, .int v2), (5, .int v25), (7, .ref q31), (9, .int v59), (10, .int v73), (16, .int v94), (17, .int v121), (18, .int v122)] 765 []) : ∀ (fu : Nat) (v118 : Int32) (v119 : Int32) (v120 : Int32), f6_law_L433 v28 G N95 F110 T20 Y21 S98 W60 K fu v118 v119 v120 = some (N', F', T', Y', S') → xV p l e room_1 s m args below meth c D A Q 27 (hC aH aN aF aT aG ++ (gC y aG G ++ (nC y aN N95 ++ (nC y aF F110 ++ (tC y aT T20 ++ (sC y bS aS18 Y21 S98 ++ (ggC y q31 r32 (v25.toNatClampNeg) 9 W36 ++ ggC y q46 r47 (v28.toNatClampNeg) 7 W60))))))) k0_ n0_ [(0, .ref bX), (1, .ref aH), (2, .ref bS), (3, .int v2), (5, .int v25), (6, .int v28), (7, .ref q31), (8, .ref q46), (9, .int v59), (10, .int v73), (16, .int v94), (17, .int v118), (18, .int v119), (19, .int v120)] 433 [] := by
  intro fu
  induction fu with
  | zero => intro v118 v119 v120 hf; rw [f6_law_L433] at hf; cases hf
  | succ fu ih =>
    intro v118 v119 v120 hf
    rw [f6_law_L433] at hf
    refine x_iload (q := 435) C 13 dL_law_433 rfl rfl ?_
    refine x_iload (q := 437) C 5 dL_law_435 rfl rfl ?_
    refine x_icmp_ge (t := 765) (q := 440) C dL_law_437 (by decide) rfl (fun hc => ?_) (fun hc => ?_)
    · have hf := (if_pos hc).symm.trans hf
      refine x_sub [0, 1, 2, 3, 4, 6, 8, 9, 10, 11, 12] (L' := [(0, .ref bX), (1, .ref aH), (2, .ref bS), (3, .int v2), (5, .int v25), (7, .ref q31), (9, .int v59), (10, .int v73), (16, .int v94), (17, .int v118), (18, .int v119)]) rfl ?_
      exact hK v118 v119 hf
    · have hf := (if_neg hc).symm.trans hf
      refine x_aload_n (q := 441) C 1 dL_law_440 rfl rfl rfl ?_
      refine x_iload (q := 443) C 13 dL_law_441 rfl rfl ?_
      refine x_iconst (q := 444) C dL_law_443 ki_4 rfl ?_
      obtain ⟨v123, hcal124, hf⟩ := br_some hf
      refine x_callVi (q := 447) C (c2_lighter (l := l) (D := D) (y := y) (aH := aH) (aG := aG) (aN := aN) (aF := aF) (aT := aT) hcal124) yi_X2_lighter gL_law_X2_lighter rfl ((oX2 aH aN aF aT aG).L) rfl ⟨(Nat.le_of_ble_eq_true rfl), (Nat.le_of_ble_eq_true rfl)⟩ dL_law_444 (pm8_01234 _ _ _ _ _ _ _ _) rfl rfl (Nat.le_of_ble_eq_true rfl) ⟨by simp only [room_1]; omega, by simp only [room_1]; omega⟩ rfl ?_
      intro rr125 uu hrr
      have hrr : v123 = rr125 := Eq.symm hrr
      subst hrr
      refine x_perm (ws' := hC aH aN aF aT aG ++ (gC y aG G ++ (nC y aN N95 ++ (nC y aF F110 ++ (tC y aT T20 ++ (sC y bS aS18 Y21 S98 ++ (ggC y q31 r32 (v25.toNatClampNeg) 9 W36 ++ ggC y q46 r47 (v28.toNatClampNeg) 7 W60))))))) (pm8_01234 _ _ _ _ _ _ _ _).symm ?_
      refine x_istore (q := 449) C [1, 2, 3, 4, 5, 6, 7, 8, 9, 10, 11, 12, 13, 14, 0] [(0, .ref bX), (1, .ref aH), (2, .ref bS), (3, .int v2), (5, .int v25), (6, .int v28), (7, .ref q31), (8, .ref q46), (9, .int v59), (10, .int v73), (16, .int v94), (17, .int v118), (18, .int v119), (19, .int v120), (20, .int v123)] dL_law_447 (by decide) rfl rfl ?_
      refine x_aload_n (q := 450) C 1 dL_law_449 rfl rfl rfl ?_
      refine x_iload (q := 452) C 13 dL_law_450 rfl rfl ?_
      refine x_iconst (q := 453) C dL_law_452 ki_5 rfl ?_
      obtain ⟨v126, hcal127, hf⟩ := br_some hf
      refine x_callVi (q := 456) C (c2_lighter (l := l) (D := D) (y := y) (aH := aH) (aG := aG) (aN := aN) (aF := aF) (aT := aT) hcal127) yi_X2_lighter gL_law_X2_lighter rfl ((oX2 aH aN aF aT aG).L) rfl ⟨(Nat.le_of_ble_eq_true rfl), (Nat.le_of_ble_eq_true rfl)⟩ dL_law_453 (pm8_01234 _ _ _ _ _ _ _ _) rfl rfl (Nat.le_of_ble_eq_true rfl) ⟨by simp only [room_1]; omega, by simp only [room_1]; omega⟩ rfl ?_
      intro rr128 uu hrr
      have hrr : v126 = rr128 := Eq.symm hrr
      subst hrr
      refine x_perm (ws' := hC aH aN aF aT aG ++ (gC y aG G ++ (nC y aN N95 ++ (nC y aF F110 ++ (tC y aT T20 ++ (sC y bS aS18 Y21 S98 ++ (ggC y q31 r32 (v25.toNatClampNeg) 9 W36 ++ ggC y q46 r47 (v28.toNatClampNeg) 7 W60))))))) (pm8_01234 _ _ _ _ _ _ _ _).symm ?_
      refine x_istore (q := 458) C [1, 2, 3, 4, 5, 6, 7, 8, 9, 10, 11, 12, 13, 14, 15, 0] [(0, .ref bX), (1, .ref aH), (2, .ref bS), (3, .int v2), (5, .int v25), (6, .int v28), (7, .ref q31), (8, .ref q46), (9, .int v59), (10, .int v73), (16, .int v94), (17, .int v118), (18, .int v119), (19, .int v120), (20, .int v123), (21, .int v126)] dL_law_456 (by decide) rfl rfl ?_
      refine x_iload (q := 460) C 11 dL_law_458 rfl rfl ?_
      refine x_aload_n (q := 461) C 1 dL_law_460 rfl rfl rfl ?_
      refine x_iload (q := 463) C 13 dL_law_461 rfl rfl ?_
      refine x_iconst (q := 464) C dL_law_463 ki_2 rfl ?_
      obtain ⟨v129, hcal130, hf⟩ := br_some hf
      refine x_callVi (q := 467) C (c2_lighter (l := l) (D := D) (y := y) (aH := aH) (aG := aG) (aN := aN) (aF := aF) (aT := aT) hcal130) yi_X2_lighter gL_law_X2_lighter rfl ((oX2 aH aN aF aT aG).L) rfl ⟨(Nat.le_of_ble_eq_true rfl), (Nat.le_of_ble_eq_true rfl)⟩ dL_law_464 (pm8_01234 _ _ _ _ _ _ _ _) rfl rfl (Nat.le_of_ble_eq_true rfl) ⟨by simp only [room_1]; omega, by simp only [room_1]; omega⟩ rfl ?_
      intro rr131 uu hrr
      have hrr : v129 = rr131 := Eq.symm hrr
      subst hrr
      refine x_perm (ws' := hC aH aN aF aT aG ++ (gC y aG G ++ (nC y aN N95 ++ (nC y aF F110 ++ (tC y aT T20 ++ (sC y bS aS18 Y21 S98 ++ (ggC y q31 r32 (v25.toNatClampNeg) 9 W36 ++ ggC y q46 r47 (v28.toNatClampNeg) 7 W60))))))) (pm8_01234 _ _ _ _ _ _ _ _).symm ?_
      refine x_iadd (q := 468) C dL_law_467 rfl ?_
      obtain ⟨v132, ev132, hf⟩ := lt_elim hf
      refine x_topi ev132 ?_
      refine x_istore (q := 470) C [1, 2, 3, 4, 5, 6, 7, 8, 9, 10, 11, 0, 12, 13, 14, 15] [(0, .ref bX), (1, .ref aH), (2, .ref bS), (3, .int v2), (5, .int v25), (6, .int v28), (7, .ref q31), (8, .ref q46), (9, .int v59), (10, .int v73), (16, .int v94), (17, .int v132), (18, .int v119), (19, .int v120), (20, .int v123), (21, .int v126)] dL_law_468 (by decide) rfl rfl ?_
      refine x_iload (q := 472) C 12 dL_law_470 rfl rfl ?_
      refine x_aload_n (q := 473) C 1 dL_law_472 rfl rfl rfl ?_
      refine x_iload (q := 475) C 13 dL_law_473 rfl rfl ?_
      refine x_bipush (q := 477) C dL_law_475 kb_6 rfl ?_
      obtain ⟨v133, hcal134, hf⟩ := br_some hf
      refine x_callVi (q := 480) C (c2_lighter (l := l) (D := D) (y := y) (aH := aH) (aG := aG) (aN := aN) (aF := aF) (aT := aT) hcal134) yi_X2_lighter gL_law_X2_lighter rfl ((oX2 aH aN aF aT aG).L) rfl ⟨(Nat.le_of_ble_eq_true rfl), (Nat.le_of_ble_eq_true rfl)⟩ dL_law_477 (pm8_01234 _ _ _ _ _ _ _ _) rfl rfl (Nat.le_of_ble_eq_true rfl) ⟨by simp only [room_1]; omega, by simp only [room_1]; omega⟩ rfl ?_
      intro rr135 uu hrr
      have hrr : v133 = rr135 := Eq.symm hrr
      subst hrr
      refine x_perm (ws' := hC aH aN aF aT aG ++ (gC y aG G ++ (nC y aN N95 ++ (nC y aF F110 ++ (tC y aT T20 ++ (sC y bS aS18 Y21 S98 ++ (ggC y q31 r32 (v25.toNatClampNeg) 9 W36 ++ ggC y q46 r47 (v28.toNatClampNeg) 7 W60))))))) (pm8_01234 _ _ _ _ _ _ _ _).symm ?_
      refine x_aload (q := 482) C 7 dL_law_480 rfl rfl ?_
      refine x_iload (q := 484) C 13 dL_law_482 rfl rfl ?_
      obtain ⟨hb136, hf⟩ := gd_some hf
      refine x_aald (q := 485) C 2 dL_law_484 ((((((((ggR y q46 r47 (v28.toNatClampNeg) 7 W60).R).R).R).R).R).R).R) rfl rfl hb136 (if_pos (xin_lt hb136)) rfl ?_
      refine x_bipush (q := 487) C dL_law_485 kb_6 rfl ?_
      have hb137 : xin 6 7 = true := by decide
      refine x_iald (q := 488) C 0 dL_law_487 ((((((((ggA y q46 r47 (v28.toNatClampNeg) 7 W60 (xin_lt hb136)).R).R).R).R).R).R).R) rfl hb137 rfl ?_
      refine x_isub (q := 489) C dL_law_488 rfl ?_
      refine x_iadd (q := 490) C dL_law_489 rfl ?_
      obtain ⟨v138, ev138, hf⟩ := lt_elim hf
      refine x_topi ev138 ?_
      refine x_istore (q := 492) C [1, 2, 3, 4, 5, 6, 7, 8, 9, 10, 11, 12, 0, 13, 14, 15] [(0, .ref bX), (1, .ref aH), (2, .ref bS), (3, .int v2), (5, .int v25), (6, .int v28), (7, .ref q31), (8, .ref q46), (9, .int v59), (10, .int v73), (16, .int v94), (17, .int v132), (18, .int v138), (19, .int v120), (20, .int v123), (21, .int v126)] dL_law_490 (by decide) rfl rfl ?_
      refine x_iload (q := 494) C 14 dL_law_492 rfl rfl ?_
      obtain ⟨J502, eJ502, hf⟩ := lt_elim hf
      have hJ502 : ∀ (v139 : Int32), J502 v139 = some (N', F', T', Y', S') → xV p l e room_1 s m args below meth c D A Q 27 (hC aH aN aF aT aG ++ (gC y aG G ++ (nC y aN N95 ++ (nC y aF F110 ++ (tC y aT T20 ++ (sC y bS aS18 Y21 S98 ++ (ggC y q31 r32 (v25.toNatClampNeg) 9 W36 ++ ggC y q46 r47 (v28.toNatClampNeg) 7 W60))))))) k0_ n0_ [(0, .ref bX), (1, .ref aH), (2, .ref bS), (3, .int v2), (5, .int v25), (6, .int v28), (7, .ref q31), (8, .ref q46), (9, .int v59), (10, .int v73), (16, .int v94), (17, .int v132), (18, .int v138), (19, .int v120), (20, .int v123), (21, .int v126)] 502 [.int v139] := by
        intro v139 hf
        subst eJ502
        refine x_iload (q := 504) C 15 dL_law_502 rfl rfl ?_
        obtain ⟨J512, eJ512, hf⟩ := lt_elim hf
        have hJ512 : ∀ (v140 : Int32), J512 v140 = some (N', F', T', Y', S') → xV p l e room_1 s m args below meth c D A Q 27 (hC aH aN aF aT aG ++ (gC y aG G ++ (nC y aN N95 ++ (nC y aF F110 ++ (tC y aT T20 ++ (sC y bS aS18 Y21 S98 ++ (ggC y q31 r32 (v25.toNatClampNeg) 9 W36 ++ ggC y q46 r47 (v28.toNatClampNeg) 7 W60))))))) k0_ n0_ [(0, .ref bX), (1, .ref aH), (2, .ref bS), (3, .int v2), (5, .int v25), (6, .int v28), (7, .ref q31), (8, .ref q46), (9, .int v59), (10, .int v73), (16, .int v94), (17, .int v132), (18, .int v138), (19, .int v120), (20, .int v123), (21, .int v126)] 512 [.int v140, .int v139] := by
          intro v140 hf
          subst eJ512
          refine x_icmp_ne (t := 549) (q := 515) C dL_law_512 (by decide) rfl (fun hc => ?_) (fun hc => ?_)
          · have hf := (if_neg hc).symm.trans hf
            refine x_iconst (q := 550) C dL_law_549 ki_0 rfl ?_
            cases hf
          · have hf := (if_pos hc).symm.trans hf
            refine x_aload_n (q := 516) C 1 dL_law_515 rfl rfl rfl ?_
            refine x_iload (q := 518) C 13 dL_law_516 rfl rfl ?_
            refine x_iconst (q := 519) C dL_law_518 ki_2 rfl ?_
            obtain ⟨v141, hcal142, hf⟩ := br_some hf
            refine x_callVi (q := 522) C (c2_lighter (l := l) (D := D) (y := y) (aH := aH) (aG := aG) (aN := aN) (aF := aF) (aT := aT) hcal142) yi_X2_lighter gL_law_X2_lighter rfl ((oX2 aH aN aF aT aG).L) rfl ⟨(Nat.le_of_ble_eq_true rfl), (Nat.le_of_ble_eq_true rfl)⟩ dL_law_519 (pm8_01234 _ _ _ _ _ _ _ _) rfl rfl (Nat.le_of_ble_eq_true rfl) ⟨by simp only [room_1]; omega, by simp only [room_1]; omega⟩ rfl ?_
            intro rr143 uu hrr
            have hrr : v141 = rr143 := Eq.symm hrr
            subst hrr
            refine x_perm (ws' := hC aH aN aF aT aG ++ (gC y aG G ++ (nC y aN N95 ++ (nC y aF F110 ++ (tC y aT T20 ++ (sC y bS aS18 Y21 S98 ++ (ggC y q31 r32 (v25.toNatClampNeg) 9 W36 ++ ggC y q46 r47 (v28.toNatClampNeg) 7 W60))))))) (pm8_01234 _ _ _ _ _ _ _ _).symm ?_
            refine x_aload (q := 524) C 7 dL_law_522 rfl rfl ?_
            refine x_iload (q := 526) C 13 dL_law_524 rfl rfl ?_
            refine x_aald (q := 527) C 2 dL_law_526 ((((((((ggR y q46 r47 (v28.toNatClampNeg) 7 W60).R).R).R).R).R).R).R) rfl rfl hb136 (if_pos (xin_lt hb136)) rfl ?_
            refine x_iconst (q := 528) C dL_law_527 ki_2 rfl ?_
            have hb144 : xin 2 7 = true := by decide
            refine x_iald (q := 529) C 0 dL_law_528 ((((((((ggA y q46 r47 (v28.toNatClampNeg) 7 W60 (xin_lt hb136)).R).R).R).R).R).R).R) rfl hb144 rfl ?_
            refine x_icmp_gt (t := 549) (q := 532) C dL_law_529 (by decide) rfl (fun hc => ?_) (fun hc => ?_)
            · have hf := (if_pos hc).symm.trans hf
              refine x_iconst (q := 550) C dL_law_549 ki_0 rfl ?_
              cases hf
            · have hf := (if_neg hc).symm.trans hf
              refine x_aload_n (q := 533) C 1 dL_law_532 rfl rfl rfl ?_
              refine x_iload (q := 535) C 13 dL_law_533 rfl rfl ?_
              refine x_iconst (q := 536) C dL_law_535 ki_1 rfl ?_
              obtain ⟨v145, hcal146, hf⟩ := br_some hf
              refine x_callVi (q := 539) C (c2_lighter (l := l) (D := D) (y := y) (aH := aH) (aG := aG) (aN := aN) (aF := aF) (aT := aT) hcal146) yi_X2_lighter gL_law_X2_lighter rfl ((oX2 aH aN aF aT aG).L) rfl ⟨(Nat.le_of_ble_eq_true rfl), (Nat.le_of_ble_eq_true rfl)⟩ dL_law_536 (pm8_01234 _ _ _ _ _ _ _ _) rfl rfl (Nat.le_of_ble_eq_true rfl) ⟨by simp only [room_1]; omega, by simp only [room_1]; omega⟩ rfl ?_
              intro rr147 uu hrr
              have hrr : v145 = rr147 := Eq.symm hrr
              subst hrr
              refine x_perm (ws' := hC aH aN aF aT aG ++ (gC y aG G ++ (nC y aN N95 ++ (nC y aF F110 ++ (tC y aT T20 ++ (sC y bS aS18 Y21 S98 ++ (ggC y q31 r32 (v25.toNatClampNeg) 9 W36 ++ ggC y q46 r47 (v28.toNatClampNeg) 7 W60))))))) (pm8_01234 _ _ _ _ _ _ _ _).symm ?_
              refine x_aload (q := 541) C 7 dL_law_539 rfl rfl ?_
              refine x_iload (q := 543) C 13 dL_law_541 rfl rfl ?_
              refine x_aald (q := 544) C 2 dL_law_543 ((((((((ggR y q46 r47 (v28.toNatClampNeg) 7 W60).R).R).R).R).R).R).R) rfl rfl hb136 (if_pos (xin_lt hb136)) rfl ?_
              refine x_iconst (q := 545) C dL_law_544 ki_1 rfl ?_
              have hb148 : xin 1 7 = true := by decide
              refine x_iald (q := 546) C 0 dL_law_545 ((((((((ggA y q46 r47 (v28.toNatClampNeg) 7 W60 (xin_lt hb136)).R).R).R).R).R).R).R) rfl hb148 rfl ?_
              refine x_icmp_eq (t := 551) (q := 549) C dL_law_546 (by decide) rfl (fun hc => ?_) (fun hc => ?_)
              · have hf := (if_pos hc).symm.trans hf
                refine x_aload (q := 553) C 7 dL_law_551 rfl rfl ?_
                refine x_iload (q := 555) C 13 dL_law_553 rfl rfl ?_
                refine x_aald (q := 556) C 2 dL_law_555 ((((((((ggR y q46 r47 (v28.toNatClampNeg) 7 W60).R).R).R).R).R).R).R) rfl rfl hb136 (if_pos (xin_lt hb136)) rfl ?_
                refine x_iconst (q := 557) C dL_law_556 ki_5 rfl ?_
                have hb149 : xin 5 7 = true := by decide
                refine x_iald (q := 558) C 0 dL_law_557 ((((((((ggA y q46 r47 (v28.toNatClampNeg) 7 W60 (xin_lt hb136)).R).R).R).R).R).R).R) rfl hb149 rfl ?_
                refine x_iconst (q := 559) C dL_law_558 ki_1 rfl ?_
                obtain ⟨J607, eJ607, hf⟩ := lt_elim hf
                have hJ607 : ∀ (u_ : Unit), J607 u_ = some (N', F', T', Y', S') → xV p l e room_1 s m args below meth c D A Q 27 (hC aH aN aF aT aG ++ (gC y aG G ++ (nC y aN N95 ++ (nC y aF F110 ++ (tC y aT T20 ++ (sC y bS aS18 Y21 S98 ++ (ggC y q31 r32 (v25.toNatClampNeg) 9 W36 ++ ggC y q46 r47 (v28.toNatClampNeg) 7 W60))))))) k0_ n0_ [(0, .ref bX), (1, .ref aH), (2, .ref bS), (3, .int v2), (5, .int v25), (6, .int v28), (7, .ref q31), (8, .ref q46), (9, .int v59), (10, .int v73), (16, .int v94), (17, .int v132), (18, .int v138), (19, .int v120), (20, .int v123), (21, .int v126)] 607 [] := by
                  intro u_ hf
                  subst eJ607
                  refine x_aload (q := 609) C 7 dL_law_607 rfl rfl ?_
                  refine x_iload (q := 611) C 13 dL_law_609 rfl rfl ?_
                  refine x_aald (q := 612) C 2 dL_law_611 ((((((((ggR y q46 r47 (v28.toNatClampNeg) 7 W60).R).R).R).R).R).R).R) rfl rfl hb136 (if_pos (xin_lt hb136)) rfl ?_
                  refine x_iconst (q := 613) C dL_law_612 ki_5 rfl ?_
                  refine x_iald (q := 614) C 0 dL_law_613 ((((((((ggA y q46 r47 (v28.toNatClampNeg) 7 W60 (xin_lt hb136)).R).R).R).R).R).R).R) rfl hb149 rfl ?_
                  refine x_iconst (q := 615) C dL_law_614 ki_1 rfl ?_
                  obtain ⟨J625, eJ625, hf⟩ := lt_elim hf
                  have hJ625 : ∀ (u_ : Unit), J625 u_ = some (N', F', T', Y', S') → xV p l e room_1 s m args below meth c D A Q 27 (hC aH aN aF aT aG ++ (gC y aG G ++ (nC y aN N95 ++ (nC y aF F110 ++ (tC y aT T20 ++ (sC y bS aS18 Y21 S98 ++ (ggC y q31 r32 (v25.toNatClampNeg) 9 W36 ++ ggC y q46 r47 (v28.toNatClampNeg) 7 W60))))))) k0_ n0_ [(0, .ref bX), (1, .ref aH), (2, .ref bS), (3, .int v2), (5, .int v25), (6, .int v28), (7, .ref q31), (8, .ref q46), (9, .int v59), (10, .int v73), (16, .int v94), (17, .int v132), (18, .int v138), (19, .int v120), (20, .int v123), (21, .int v126)] 625 [] := by
                    intro u_ hf
                    subst eJ625
                    refine x_iload (q := 627) C 14 dL_law_625 rfl rfl ?_
                    obtain ⟨J759, eJ759, hf⟩ := lt_elim hf
                    have hJ759 : ∀ (u_ : Unit), J759 u_ = some (N', F', T', Y', S') → xV p l e room_1 s m args below meth c D A Q 27 (hC aH aN aF aT aG ++ (gC y aG G ++ (nC y aN N95 ++ (nC y aF F110 ++ (tC y aT T20 ++ (sC y bS aS18 Y21 S98 ++ (ggC y q31 r32 (v25.toNatClampNeg) 9 W36 ++ ggC y q46 r47 (v28.toNatClampNeg) 7 W60))))))) k0_ n0_ [(0, .ref bX), (1, .ref aH), (2, .ref bS), (3, .int v2), (5, .int v25), (6, .int v28), (7, .ref q31), (8, .ref q46), (9, .int v59), (10, .int v73), (16, .int v94), (17, .int v132), (18, .int v138), (19, .int v120)] 759 [] := by
                      intro u_ hf
                      subst eJ759
                      refine x_iinc (q := 762) C 13 (v120 + 1) [1, 2, 3, 4, 5, 6, 7, 8, 9, 10, 11, 12, 13, 0] [(0, .ref bX), (1, .ref aH), (2, .ref bS), (3, .int v2), (5, .int v25), (6, .int v28), (7, .ref q31), (8, .ref q46), (9, .int v59), (10, .int v73), (16, .int v94), (17, .int v132), (18, .int v138), (19, .int (v120 + 1))] dL_law_759 rfl (congrArg (fun z => v120 + z) ki_1) (by decide) rfl rfl ?_
                      refine x_goto (t := 433) C dL_law_762 (by decide) ?_
                      exact ih v132 v138 (v120 + 1) hf
                    refine x_if_ge (t := 633) (q := 630) C dL_law_627 (by decide) rfl (fun hc => ?_) (fun hc => ?_)
                    · have hf := (if_pos hc).symm.trans hf
                      refine x_iconst (q := 634) C dL_law_633 ki_0 rfl ?_
                      refine x_istore (q := 636) C [1, 2, 3, 4, 5, 6, 7, 8, 9, 10, 11, 12, 13, 14, 15, 16, 0] [(0, .ref bX), (1, .ref aH), (2, .ref bS), (3, .int v2), (5, .int v25), (6, .int v28), (7, .ref q31), (8, .ref q46), (9, .int v59), (10, .int v73), (16, .int v94), (17, .int v132), (18, .int v138), (19, .int v120), (20, .int v123), (21, .int v126), (22, .int 0)] dL_law_634 (by decide) rfl rfl ?_
                      refine x_aload_n (q := 637) C 2 dL_law_636 rfl rfl rfl ?_
                      refine x_get (q := 640) C 4 dL_law_637 (((((((oX3 y bS aS18 Y21 S98).L).R).R).R).R).R) rfl iuL_law_X3 flL_law_76 rfl (by decide) rfl rfl ?_
                      refine x_iload (q := 642) C 13 dL_law_640 rfl rfl ?_
                      obtain ⟨hb150, hf⟩ := gd_some hf
                      refine x_aald (q := 643) C 2 dL_law_642 (((((((gX3_4 y bS aS18 Y21 S98).L).R).R).R).R).R) rfl rfl hb150 (if_pos (xin_lt hb150)) rfl ?_
                      refine x_astore (q := 645) C [1, 2, 3, 4, 5, 6, 7, 8, 9, 10, 11, 12, 13, 14, 15, 16, 17, 0] [(0, .ref bX), (1, .ref aH), (2, .ref bS), (3, .int v2), (5, .int v25), (6, .int v28), (7, .ref q31), (8, .ref q46), (9, .int v59), (10, .int v73), (16, .int v94), (17, .int v132), (18, .int v138), (19, .int v120), (20, .int v123), (21, .int v126), (22, .int 0), (23, .ref (aS18 (rk 13 v120.toNatClampNeg)))] dL_law_643 (by decide) rfl rfl ?_
                      refine x_aload (q := 647) C 17 dL_law_645 rfl rfl ?_
                      refine x_alen (q := 648) C 0 dL_law_647 (((((((aX3_r4 y bS aS18 Y21 S98 (xin_lt hb150)).L).R).R).R).R).R) rfl rfl rfl ?_
                      obtain ⟨v151, ev151, hf⟩ := lt_elim hf
                      refine x_topi ev151 ?_
                      refine x_istore (q := 650) C [1, 2, 3, 4, 5, 6, 7, 8, 9, 10, 11, 12, 13, 14, 15, 16, 17, 18, 0] [(0, .ref bX), (1, .ref aH), (2, .ref bS), (3, .int v2), (5, .int v25), (6, .int v28), (7, .ref q31), (8, .ref q46), (9, .int v59), (10, .int v73), (16, .int v94), (17, .int v132), (18, .int v138), (19, .int v120), (20, .int v123), (21, .int v126), (22, .int 0), (23, .ref (aS18 (rk 13 v120.toNatClampNeg))), (24, .int v151)] dL_law_648 (by decide) rfl rfl ?_
                      refine x_iconst (q := 651) C dL_law_650 ki_0 rfl ?_
                      refine x_istore (q := 653) C [1, 2, 3, 4, 5, 6, 7, 8, 9, 10, 11, 12, 13, 14, 15, 16, 17, 18, 19, 0] [(0, .ref bX), (1, .ref aH), (2, .ref bS), (3, .int v2), (5, .int v25), (6, .int v28), (7, .ref q31), (8, .ref q46), (9, .int v59), (10, .int v73), (16, .int v94), (17, .int v132), (18, .int v138), (19, .int v120), (20, .int v123), (21, .int v126), (22, .int 0), (23, .ref (aS18 (rk 13 v120.toNatClampNeg))), (24, .int v151), (25, .int 0)] dL_law_651 (by decide) rfl rfl ?_
                      refine w6_law_L653 C hJ hX hb150 (by omega) (by omega) (fun v154 hf => ?_) xF 0 0 hf
                      refine x_iload (q := 694) C 16 dL_law_692 rfl rfl ?_
                      refine x_if_eq (t := 739) (q := 697) C dL_law_694 (by decide) rfl (fun hc => ?_) (fun hc => ?_)
                      · have hf := (if_pos hc).symm.trans hf
                        refine x_iconst (q := 740) C dL_law_739 ki_0 rfl ?_
                        cases hf
                      · have hf := (if_neg hc).symm.trans hf
                        refine x_aload_n (q := 698) C 1 dL_law_697 rfl rfl rfl ?_
                        refine x_iload (q := 700) C 14 dL_law_698 rfl rfl ?_
                        refine x_bipush (q := 702) C dL_law_700 kb_6 rfl ?_
                        obtain ⟨v158, hcal159, hf⟩ := br_some hf
                        refine x_callVi (q := 705) C (c2_told (l := l) (D := D) (y := y) (aH := aH) (aG := aG) (aN := aN) (aF := aF) (aT := aT) hcal159) yi_X2_told gL_law_X2_told rfl ((oX2 aH aN aF aT aG).L) rfl ⟨(Nat.le_of_ble_eq_true rfl), (Nat.le_of_ble_eq_true rfl)⟩ dL_law_702 (pm8_01234 _ _ _ _ _ _ _ _) rfl rfl (Nat.le_of_ble_eq_true rfl) ⟨by simp only [room_1]; omega, by simp only [room_1]; omega⟩ rfl ?_
                        intro rr160 uu hrr
                        have hrr : v158 = rr160 := Eq.symm hrr
                        subst hrr
                        refine x_perm (ws' := hC aH aN aF aT aG ++ (gC y aG G ++ (nC y aN N95 ++ (nC y aF F110 ++ (tC y aT T20 ++ (sC y bS aS18 Y21 S98 ++ (ggC y q31 r32 (v25.toNatClampNeg) 9 W36 ++ ggC y q46 r47 (v28.toNatClampNeg) 7 W60))))))) (pm8_01234 _ _ _ _ _ _ _ _).symm ?_
                        refine x_iload (q := 707) C 13 dL_law_705 rfl rfl ?_
                        refine x_icmp_ne (t := 739) (q := 710) C dL_law_707 (by decide) rfl (fun hc => ?_) (fun hc => ?_)
                        · have hf := (if_neg hc).symm.trans hf
                          refine x_iconst (q := 740) C dL_law_739 ki_0 rfl ?_
                          cases hf
                        · have hf := (if_pos hc).symm.trans hf
                          refine x_aload_n (q := 711) C 1 dL_law_710 rfl rfl rfl ?_
                          refine x_iload (q := 713) C 14 dL_law_711 rfl rfl ?_
                          refine x_iconst (q := 714) C dL_law_713 ki_5 rfl ?_
                          obtain ⟨v161, hcal162, hf⟩ := br_some hf
                          refine x_callVi (q := 717) C (c2_told (l := l) (D := D) (y := y) (aH := aH) (aG := aG) (aN := aN) (aF := aF) (aT := aT) hcal162) yi_X2_told gL_law_X2_told rfl ((oX2 aH aN aF aT aG).L) rfl ⟨(Nat.le_of_ble_eq_true rfl), (Nat.le_of_ble_eq_true rfl)⟩ dL_law_714 (pm8_01234 _ _ _ _ _ _ _ _) rfl rfl (Nat.le_of_ble_eq_true rfl) ⟨by simp only [room_1]; omega, by simp only [room_1]; omega⟩ rfl ?_
                          intro rr163 uu hrr
                          have hrr : v161 = rr163 := Eq.symm hrr
                          subst hrr
                          refine x_perm (ws' := hC aH aN aF aT aG ++ (gC y aG G ++ (nC y aN N95 ++ (nC y aF F110 ++ (tC y aT T20 ++ (sC y bS aS18 Y21 S98 ++ (ggC y q31 r32 (v25.toNatClampNeg) 9 W36 ++ ggC y q46 r47 (v28.toNatClampNeg) 7 W60))))))) (pm8_01234 _ _ _ _ _ _ _ _).symm ?_
                          refine x_if_ne (t := 739) (q := 720) C dL_law_717 (by decide) rfl (fun hc => ?_) (fun hc => ?_)
                          · have hf := (if_neg hc).symm.trans hf
                            refine x_iconst (q := 740) C dL_law_739 ki_0 rfl ?_
                            cases hf
                          · have hf := (if_pos hc).symm.trans hf
                            refine x_aload_n (q := 721) C 1 dL_law_720 rfl rfl rfl ?_
                            refine x_iload (q := 723) C 14 dL_law_721 rfl rfl ?_
                            refine x_iconst (q := 724) C dL_law_723 ki_1 rfl ?_
                            obtain ⟨v164, hcal165, hf⟩ := br_some hf
                            refine x_callVi (q := 727) C (c2_told (l := l) (D := D) (y := y) (aH := aH) (aG := aG) (aN := aN) (aF := aF) (aT := aT) hcal165) yi_X2_told gL_law_X2_told rfl ((oX2 aH aN aF aT aG).L) rfl ⟨(Nat.le_of_ble_eq_true rfl), (Nat.le_of_ble_eq_true rfl)⟩ dL_law_724 (pm8_01234 _ _ _ _ _ _ _ _) rfl rfl (Nat.le_of_ble_eq_true rfl) ⟨by simp only [room_1]; omega, by simp only [room_1]; omega⟩ rfl ?_
                            intro rr166 uu hrr
                            have hrr : v164 = rr166 := Eq.symm hrr
                            subst hrr
                            refine x_perm (ws' := hC aH aN aF aT aG ++ (gC y aG G ++ (nC y aN N95 ++ (nC y aF F110 ++ (tC y aT T20 ++ (sC y bS aS18 Y21 S98 ++ (ggC y q31 r32 (v25.toNatClampNeg) 9 W36 ++ ggC y q46 r47 (v28.toNatClampNeg) 7 W60))))))) (pm8_01234 _ _ _ _ _ _ _ _).symm ?_
                            refine x_aload_n (q := 728) C 1 dL_law_727 rfl rfl rfl ?_
                            refine x_iload (q := 730) C 13 dL_law_728 rfl rfl ?_
                            refine x_iconst (q := 731) C dL_law_730 ki_1 rfl ?_
                            obtain ⟨v167, hcal168, hf⟩ := br_some hf
                            refine x_callVi (q := 734) C (c2_lighter (l := l) (D := D) (y := y) (aH := aH) (aG := aG) (aN := aN) (aF := aF) (aT := aT) hcal168) yi_X2_lighter gL_law_X2_lighter rfl ((oX2 aH aN aF aT aG).L) rfl ⟨(Nat.le_of_ble_eq_true rfl), (Nat.le_of_ble_eq_true rfl)⟩ dL_law_731 (pm8_01234 _ _ _ _ _ _ _ _) rfl rfl (Nat.le_of_ble_eq_true rfl) ⟨by simp only [room_1]; omega, by simp only [room_1]; omega⟩ rfl ?_
                            intro rr169 uu hrr
                            have hrr : v167 = rr169 := Eq.symm hrr
                            subst hrr
                            refine x_perm (ws' := hC aH aN aF aT aG ++ (gC y aG G ++ (nC y aN N95 ++ (nC y aF F110 ++ (tC y aT T20 ++ (sC y bS aS18 Y21 S98 ++ (ggC y q31 r32 (v25.toNatClampNeg) 9 W36 ++ ggC y q46 r47 (v28.toNatClampNeg) 7 W60))))))) (pm8_01234 _ _ _ _ _ _ _ _).symm ?_
                            refine x_iconst (q := 735) C dL_law_734 ki_2 rfl ?_
                            refine x_iadd (q := 736) C dL_law_735 rfl ?_
                            refine x_icmp_le (t := 741) (q := 739) C dL_law_736 (by decide) rfl (fun hc => ?_) (fun hc => ?_)
                            · have hf := (if_pos hc).symm.trans hf
                              refine x_aload (q := 743) C 7 dL_law_741 rfl rfl ?_
                              refine x_iload (q := 745) C 13 dL_law_743 rfl rfl ?_
                              obtain ⟨hb170, hf⟩ := gd_some hf
                              refine x_aald (q := 746) C 2 dL_law_745 ((((((((ggR y q46 r47 (v28.toNatClampNeg) 7 W60).R).R).R).R).R).R).R) rfl rfl hb170 (if_pos (xin_lt hb170)) rfl ?_
                              refine x_iconst (q := 747) C dL_law_746 ki_4 rfl ?_
                              have hb171 : xin 4 7 = true := by decide
                              refine x_iald (q := 748) C 0 dL_law_747 ((((((((ggA y q46 r47 (v28.toNatClampNeg) 7 W60 (xin_lt hb170)).R).R).R).R).R).R).R) rfl hb171 rfl ?_
                              refine x_if_ge (t := 759) (q := 751) C dL_law_748 (by decide) rfl (fun hc => ?_) (fun hc => ?_)
                              · have hf := (if_pos hc).symm.trans hf
                                refine x_sub [0, 1, 2, 3, 4, 5, 6, 7, 8, 9, 10, 11, 12, 13] (L' := [(0, .ref bX), (1, .ref aH), (2, .ref bS), (3, .int v2), (5, .int v25), (6, .int v28), (7, .ref q31), (8, .ref q46), (9, .int v59), (10, .int v73), (16, .int v94), (17, .int v132), (18, .int v138), (19, .int v120)]) rfl ?_
                                exact hJ759 () hf
                              · have hf := (if_neg hc).symm.trans hf
                                refine x_iload (q := 753) C 15 dL_law_751 rfl rfl ?_
                                refine x_iconst (q := 754) C dL_law_753 ki_2 rfl ?_
                                refine x_icmp_ge (t := 759) (q := 757) C dL_law_754 (by decide) rfl (fun hc => ?_) (fun hc => ?_)
                                · have hf := (if_pos hc).symm.trans hf
                                  refine x_sub [0, 1, 2, 3, 4, 5, 6, 7, 8, 9, 10, 11, 12, 13] (L' := [(0, .ref bX), (1, .ref aH), (2, .ref bS), (3, .int v2), (5, .int v25), (6, .int v28), (7, .ref q31), (8, .ref q46), (9, .int v59), (10, .int v73), (16, .int v94), (17, .int v132), (18, .int v138), (19, .int v120)]) rfl ?_
                                  exact hJ759 () hf
                                · have hf := (if_neg hc).symm.trans hf
                                  refine x_iconst (q := 758) C dL_law_757 ki_0 rfl ?_
                                  cases hf
                            · have hf := (if_neg hc).symm.trans hf
                              refine x_iconst (q := 740) C dL_law_739 ki_0 rfl ?_
                              cases hf
                    · have hf := (if_neg hc).symm.trans hf
                      refine x_goto (t := 759) C dL_law_630 (by decide) ?_
                      refine x_sub [0, 1, 2, 3, 4, 5, 6, 7, 8, 9, 10, 11, 12, 13] (L' := [(0, .ref bX), (1, .ref aH), (2, .ref bS), (3, .int v2), (5, .int v25), (6, .int v28), (7, .ref q31), (8, .ref q46), (9, .int v59), (10, .int v73), (16, .int v94), (17, .int v132), (18, .int v138), (19, .int v120)]) rfl ?_
                      exact hJ759 () hf
                  refine x_icmp_ne (t := 625) (q := 618) C dL_law_615 (by decide) rfl (fun hc => ?_) (fun hc => ?_)
                  · have hf := (if_neg hc).symm.trans hf
                    exact hJ625 () hf
                  · have hf := (if_pos hc).symm.trans hf
                    refine x_iload (q := 620) C 14 dL_law_618 rfl rfl ?_
                    refine x_if_lt (t := 625) (q := 623) C dL_law_620 (by decide) rfl (fun hc => ?_) (fun hc => ?_)
                    · have hf := (if_pos hc).symm.trans hf
                      exact hJ625 () hf
                    · have hf := (if_neg hc).symm.trans hf
                      refine x_iconst (q := 624) C dL_law_623 ki_0 rfl ?_
                      cases hf
                refine x_icmp_le (t := 607) (q := 562) C dL_law_559 (by decide) rfl (fun hc => ?_) (fun hc => ?_)
                · have hf := (if_pos hc).symm.trans hf
                  exact hJ607 () hf
                · have hf := (if_neg hc).symm.trans hf
                  refine x_iload (q := 564) C 14 dL_law_562 rfl rfl ?_
                  refine x_aload (q := 566) C 7 dL_law_564 rfl rfl ?_
                  refine x_iload (q := 568) C 13 dL_law_566 rfl rfl ?_
                  refine x_aald (q := 569) C 2 dL_law_568 ((((((((ggR y q46 r47 (v28.toNatClampNeg) 7 W60).R).R).R).R).R).R).R) rfl rfl hb136 (if_pos (xin_lt hb136)) rfl ?_
                  refine x_iconst (q := 570) C dL_law_569 ki_4 rfl ?_
                  have hb172 : xin 4 7 = true := by decide
                  refine x_iald (q := 571) C 0 dL_law_570 ((((((((ggA y q46 r47 (v28.toNatClampNeg) 7 W60 (xin_lt hb136)).R).R).R).R).R).R).R) rfl hb172 rfl ?_
                  refine x_icmp_ne (t := 605) (q := 574) C dL_law_571 (by decide) rfl (fun hc => ?_) (fun hc => ?_)
                  · have hf := (if_neg hc).symm.trans hf
                    refine x_iconst (q := 606) C dL_law_605 ki_0 rfl ?_
                    cases hf
                  · have hf := (if_pos hc).symm.trans hf
                    refine x_iload (q := 576) C 15 dL_law_574 rfl rfl ?_
                    refine x_aload (q := 578) C 7 dL_law_576 rfl rfl ?_
                    refine x_iload (q := 580) C 13 dL_law_578 rfl rfl ?_
                    refine x_aald (q := 581) C 2 dL_law_580 ((((((((ggR y q46 r47 (v28.toNatClampNeg) 7 W60).R).R).R).R).R).R).R) rfl rfl hb136 (if_pos (xin_lt hb136)) rfl ?_
                    refine x_iconst (q := 582) C dL_law_581 ki_5 rfl ?_
                    refine x_iald (q := 583) C 0 dL_law_582 ((((((((ggA y q46 r47 (v28.toNatClampNeg) 7 W60 (xin_lt hb136)).R).R).R).R).R).R).R) rfl hb149 rfl ?_
                    refine x_iconst (q := 584) C dL_law_583 ki_1 rfl ?_
                    refine x_isub (q := 585) C dL_law_584 rfl ?_
                    refine x_icmp_ne (t := 605) (q := 588) C dL_law_585 (by decide) rfl (fun hc => ?_) (fun hc => ?_)
                    · have hf := (if_neg hc).symm.trans hf
                      refine x_iconst (q := 606) C dL_law_605 ki_0 rfl ?_
                      cases hf
                    · have hf := (if_pos hc).symm.trans hf
                      refine x_aload_n (q := 589) C 1 dL_law_588 rfl rfl rfl ?_
                      refine x_iload (q := 591) C 13 dL_law_589 rfl rfl ?_
                      refine x_iconst (q := 592) C dL_law_591 ki_0 rfl ?_
                      obtain ⟨v173, hcal174, hf⟩ := br_some hf
                      refine x_callVi (q := 595) C (c2_lighter (l := l) (D := D) (y := y) (aH := aH) (aG := aG) (aN := aN) (aF := aF) (aT := aT) hcal174) yi_X2_lighter gL_law_X2_lighter rfl ((oX2 aH aN aF aT aG).L) rfl ⟨(Nat.le_of_ble_eq_true rfl), (Nat.le_of_ble_eq_true rfl)⟩ dL_law_592 (pm8_01234 _ _ _ _ _ _ _ _) rfl rfl (Nat.le_of_ble_eq_true rfl) ⟨by simp only [room_1]; omega, by simp only [room_1]; omega⟩ rfl ?_
                      intro rr175 uu hrr
                      have hrr : v173 = rr175 := Eq.symm hrr
                      subst hrr
                      refine x_perm (ws' := hC aH aN aF aT aG ++ (gC y aG G ++ (nC y aN N95 ++ (nC y aF F110 ++ (tC y aT T20 ++ (sC y bS aS18 Y21 S98 ++ (ggC y q31 r32 (v25.toNatClampNeg) 9 W36 ++ ggC y q46 r47 (v28.toNatClampNeg) 7 W60))))))) (pm8_01234 _ _ _ _ _ _ _ _).symm ?_
                      refine x_aload (q := 597) C 7 dL_law_595 rfl rfl ?_
                      refine x_iload (q := 599) C 13 dL_law_597 rfl rfl ?_
                      refine x_aald (q := 600) C 2 dL_law_599 ((((((((ggR y q46 r47 (v28.toNatClampNeg) 7 W60).R).R).R).R).R).R).R) rfl rfl hb136 (if_pos (xin_lt hb136)) rfl ?_
                      refine x_iconst (q := 601) C dL_law_600 ki_0 rfl ?_
                      have hb176 : xin 0 7 = true := by decide
                      refine x_iald (q := 602) C 0 dL_law_601 ((((((((ggA y q46 r47 (v28.toNatClampNeg) 7 W60 (xin_lt hb136)).R).R).R).R).R).R).R) rfl hb176 rfl ?_
                      refine x_icmp_eq (t := 607) (q := 605) C dL_law_602 (by decide) rfl (fun hc => ?_) (fun hc => ?_)
                      · have hf := (if_pos hc).symm.trans hf
                        exact hJ607 () hf
                      · have hf := (if_neg hc).symm.trans hf
                        refine x_iconst (q := 606) C dL_law_605 ki_0 rfl ?_
                        cases hf
              · have hf := (if_neg hc).symm.trans hf
                refine x_iconst (q := 550) C dL_law_549 ki_0 rfl ?_
                cases hf
        refine x_if_ne (t := 511) (q := 507) C dL_law_504 (by decide) rfl (fun hc => ?_) (fun hc => ?_)
        · have hf := (if_neg hc).symm.trans hf
          refine x_iconst (q := 512) C dL_law_511 ki_0 rfl ?_
          exact hJ512 0 hf
        · have hf := (if_pos hc).symm.trans hf
          refine x_iconst (q := 508) C dL_law_507 ki_1 rfl ?_
          refine x_goto (t := 512) C dL_law_508 (by decide) ?_
          exact hJ512 1 hf
      refine x_if_ge (t := 501) (q := 497) C dL_law_494 (by decide) rfl (fun hc => ?_) (fun hc => ?_)
      · have hf := (if_pos hc).symm.trans hf
        refine x_iconst (q := 502) C dL_law_501 ki_0 rfl ?_
        exact hJ502 0 hf
      · have hf := (if_neg hc).symm.trans hf
        refine x_iconst (q := 498) C dL_law_497 ki_1 rfl ?_
        refine x_goto (t := 502) C dL_law_498 (by decide) ?_
        exact hJ502 1 hf
set_option maxHeartbeats 4000000 in
set_option maxRecDepth 100000 in
theorem w6_law_L790 {p : Program} {l : Launch} {e : Env} {s : State} {m : MethodId} {args : Array Value} {below : List Frame} {meth : Method} {c : Code} {D : va_G} {A : Nat → Prop} {y : Nat → ClassId} {bS : Nat} {aH : Nat} {aG aN aF aT : Nat → Nat} {aS18 : Nat → Nat} {Q : State → Prop} {bX LX : Nat} {xs : Nat → Int32} {G : St} {N95 : St} {F110 : St} {T20 : St} {Y21 : (Nat → Nat)} {S98 : St} {v2 : Int32} {v25 : Int32} {v73 : Int32} {W36 : St} {W60 : St} {v28 : Int32} {N' : St} {F' : St} {T' : St} {Y' : (Nat → Nat)} {S' : St} {q31 : Nat} {r32 : (Nat → Nat)} {q46 : Nat} {r47 : (Nat → Nat)} {K : Int32 → Int32 → Option (St × St × St × (Nat → Nat) × St)} (C : xC p s m args meth c D A cL_law RL 27 wsL_law (xT y) (some .boolean)) (hJ : xJ2 s) (hX : xS bX LX xs s A) {k0_ n0_ : Nat} (hg1 : k0_ ≤ 1092944) (hg2 : n0_ ≤ 5822636) (hK : ∀ (v180 : Int32) (v181 : Int32), K v180 v181 = some (N', F', T', Y', S') → xV p l e room_1 s m args below meth c D A Q 27 (hC aH aN aF aT aG ++ (gC y aG G ++ (nC y aN N95 ++ (nC y aF F110 ++ (tC y aT T20 ++ (sC y bS aS18 Y21 S98 ++ (ggC y q31 r32 (v25.toNatClampNeg) 9 W36 ++ ggC y q46 r47 (v28.toNatClampNeg) 7 W60))))))) k0_ n0_ [(0, .ref bX), (1, .ref aH), (2, .ref bS), (3, .int v2), (19, .int v180), (20, .int v181)] 1139 []) : ∀ (fu : Nat) (v177 : Int32) (v178 : Int32) (v179 : Int32), f6_law_L790 v25 v73 G N95 F110 T20 W36 K fu v177 v178 v179 = some (N', F', T', Y', S') → xV p l e room_1 s m args below meth c D A Q 27 (hC aH aN aF aT aG ++ (gC y aG G ++ (nC y aN N95 ++ (nC y aF F110 ++ (tC y aT T20 ++ (sC y bS aS18 Y21 S98 ++ (ggC y q31 r32 (v25.toNatClampNeg) 9 W36 ++ ggC y q46 r47 (v28.toNatClampNeg) 7 W60))))))) k0_ n0_ [(0, .ref bX), (1, .ref aH), (2, .ref bS), (3, .int v2), (5, .int v25), (7, .ref q31), (10, .int v73), (19, .int v177), (20, .int v178), (21, .int v179)] 790 [] := by
  intro fu
  induction fu with
  | zero => intro v177 v178 v179 hf; rw [f6_law_L790] at hf; cases hf
  | succ fu ih =>
    intro v177 v178 v179 hf
    rw [f6_law_L790] at hf
    refine x_iload (q := 792) C 9 dL_law_790 rfl rfl ?_
    refine x_iload (q := 794) C 4 dL_law_792 rfl rfl ?_
    refine x_icmp_ge (t := 1139) (q := 797) C dL_law_794 (by decide) rfl (fun hc => ?_) (fun hc => ?_)
    · have hf := (if_pos hc).symm.trans hf
      refine x_sub [0, 1, 2, 3, 7, 8] (L' := [(0, .ref bX), (1, .ref aH), (2, .ref bS), (3, .int v2), (19, .int v177), (20, .int v178)]) rfl ?_
      exact hK v177 v178 hf
    · have hf := (if_neg hc).symm.trans hf
      refine x_aload_n (q := 798) C 1 dL_law_797 rfl rfl rfl ?_
      refine x_iload (q := 800) C 9 dL_law_798 rfl rfl ?_
      refine x_iconst (q := 801) C dL_law_800 ki_5 rfl ?_
      obtain ⟨v182, hcal183, hf⟩ := br_some hf
      refine x_callVi (q := 804) C (c2_told (l := l) (D := D) (y := y) (aH := aH) (aG := aG) (aN := aN) (aF := aF) (aT := aT) hcal183) yi_X2_told gL_law_X2_told rfl ((oX2 aH aN aF aT aG).L) rfl ⟨(Nat.le_of_ble_eq_true rfl), (Nat.le_of_ble_eq_true rfl)⟩ dL_law_801 (pm8_01234 _ _ _ _ _ _ _ _) rfl rfl (Nat.le_of_ble_eq_true rfl) ⟨by simp only [room_1]; omega, by simp only [room_1]; omega⟩ rfl ?_
      intro rr184 uu hrr
      have hrr : v182 = rr184 := Eq.symm hrr
      subst hrr
      refine x_perm (ws' := hC aH aN aF aT aG ++ (gC y aG G ++ (nC y aN N95 ++ (nC y aF F110 ++ (tC y aT T20 ++ (sC y bS aS18 Y21 S98 ++ (ggC y q31 r32 (v25.toNatClampNeg) 9 W36 ++ ggC y q46 r47 (v28.toNatClampNeg) 7 W60))))))) (pm8_01234 _ _ _ _ _ _ _ _).symm ?_
      refine x_iconst (q := 805) C dL_law_804 ki_1 rfl ?_
      obtain ⟨J813, eJ813, hf⟩ := lt_elim hf
      have hJ813 : ∀ (v185 : Int32), J813 v185 = some (N', F', T', Y', S') → xV p l e room_1 s m args below meth c D A Q 27 (hC aH aN aF aT aG ++ (gC y aG G ++ (nC y aN N95 ++ (nC y aF F110 ++ (tC y aT T20 ++ (sC y bS aS18 Y21 S98 ++ (ggC y q31 r32 (v25.toNatClampNeg) 9 W36 ++ ggC y q46 r47 (v28.toNatClampNeg) 7 W60))))))) k0_ n0_ [(0, .ref bX), (1, .ref aH), (2, .ref bS), (3, .int v2), (5, .int v25), (7, .ref q31), (10, .int v73), (19, .int v177), (20, .int v178), (21, .int v179)] 813 [.int v185] := by
        intro v185 hf
        subst eJ813
        refine x_istore (q := 815) C [1, 2, 3, 4, 5, 6, 7, 8, 9, 10, 0] [(0, .ref bX), (1, .ref aH), (2, .ref bS), (3, .int v2), (5, .int v25), (7, .ref q31), (10, .int v73), (19, .int v177), (20, .int v178), (21, .int v179), (22, .int v185)] dL_law_813 (by decide) rfl rfl ?_
        refine x_iload (q := 817) C 7 dL_law_815 rfl rfl ?_
        refine x_iload (q := 819) C 10 dL_law_817 rfl rfl ?_
        obtain ⟨J827, eJ827, hf⟩ := lt_elim hf
        have hJ827 : ∀ (v186 : Int32), J827 v186 = some (N', F', T', Y', S') → xV p l e room_1 s m args below meth c D A Q 27 (hC aH aN aF aT aG ++ (gC y aG G ++ (nC y aN N95 ++ (nC y aF F110 ++ (tC y aT T20 ++ (sC y bS aS18 Y21 S98 ++ (ggC y q31 r32 (v25.toNatClampNeg) 9 W36 ++ ggC y q46 r47 (v28.toNatClampNeg) 7 W60))))))) k0_ n0_ [(0, .ref bX), (1, .ref aH), (2, .ref bS), (3, .int v2), (5, .int v25), (7, .ref q31), (10, .int v73), (20, .int v178), (21, .int v179), (22, .int v185)] 827 [.int v186, .int v177] := by
          intro v186 hf
          subst eJ827
          refine x_iadd (q := 828) C dL_law_827 rfl ?_
          obtain ⟨v187, ev187, hf⟩ := lt_elim hf
          refine x_topi ev187 ?_
          refine x_istore (q := 830) C [1, 2, 3, 4, 5, 6, 7, 0, 8, 9, 10] [(0, .ref bX), (1, .ref aH), (2, .ref bS), (3, .int v2), (5, .int v25), (7, .ref q31), (10, .int v73), (19, .int v187), (20, .int v178), (21, .int v179), (22, .int v185)] dL_law_828 (by decide) rfl rfl ?_
          refine x_iload (q := 832) C 8 dL_law_830 rfl rfl ?_
          refine x_aload_n (q := 833) C 1 dL_law_832 rfl rfl rfl ?_
          refine x_iload (q := 835) C 9 dL_law_833 rfl rfl ?_
          refine x_iconst (q := 836) C dL_law_835 ki_3 rfl ?_
          obtain ⟨v188, hcal189, hf⟩ := br_some hf
          refine x_callVi (q := 839) C (c2_told (l := l) (D := D) (y := y) (aH := aH) (aG := aG) (aN := aN) (aF := aF) (aT := aT) hcal189) yi_X2_told gL_law_X2_told rfl ((oX2 aH aN aF aT aG).L) rfl ⟨(Nat.le_of_ble_eq_true rfl), (Nat.le_of_ble_eq_true rfl)⟩ dL_law_836 (pm8_01234 _ _ _ _ _ _ _ _) rfl rfl (Nat.le_of_ble_eq_true rfl) ⟨by simp only [room_1]; omega, by simp only [room_1]; omega⟩ rfl ?_
          intro rr190 uu hrr
          have hrr : v188 = rr190 := Eq.symm hrr
          subst hrr
          refine x_perm (ws' := hC aH aN aF aT aG ++ (gC y aG G ++ (nC y aN N95 ++ (nC y aF F110 ++ (tC y aT T20 ++ (sC y bS aS18 Y21 S98 ++ (ggC y q31 r32 (v25.toNatClampNeg) 9 W36 ++ ggC y q46 r47 (v28.toNatClampNeg) 7 W60))))))) (pm8_01234 _ _ _ _ _ _ _ _).symm ?_
          refine x_iadd (q := 840) C dL_law_839 rfl ?_
          obtain ⟨v191, ev191, hf⟩ := lt_elim hf
          refine x_topi ev191 ?_
          refine x_istore (q := 842) C [1, 2, 3, 4, 5, 6, 7, 8, 0, 9, 10] [(0, .ref bX), (1, .ref aH), (2, .ref bS), (3, .int v2), (5, .int v25), (7, .ref q31), (10, .int v73), (19, .int v187), (20, .int v191), (21, .int v179), (22, .int v185)] dL_law_840 (by decide) rfl rfl ?_
          refine x_iload (q := 844) C 10 dL_law_842 rfl rfl ?_
          obtain ⟨J857, eJ857, hf⟩ := lt_elim hf
          have hJ857 : ∀ (u_ : Unit), J857 u_ = some (N', F', T', Y', S') → xV p l e room_1 s m args below meth c D A Q 27 (hC aH aN aF aT aG ++ (gC y aG G ++ (nC y aN N95 ++ (nC y aF F110 ++ (tC y aT T20 ++ (sC y bS aS18 Y21 S98 ++ (ggC y q31 r32 (v25.toNatClampNeg) 9 W36 ++ ggC y q46 r47 (v28.toNatClampNeg) 7 W60))))))) k0_ n0_ [(0, .ref bX), (1, .ref aH), (2, .ref bS), (3, .int v2), (5, .int v25), (7, .ref q31), (10, .int v73), (19, .int v187), (20, .int v191), (21, .int v179), (22, .int v185)] 857 [] := by
            intro u_ hf
            subst eJ857
            refine x_aload_n (q := 858) C 1 dL_law_857 rfl rfl rfl ?_
            refine x_iload (q := 860) C 9 dL_law_858 rfl rfl ?_
            refine x_iconst (q := 861) C dL_law_860 ki_3 rfl ?_
            obtain ⟨v192, hcal193, hf⟩ := br_some hf
            refine x_callVi (q := 864) C (c2_told (l := l) (D := D) (y := y) (aH := aH) (aG := aG) (aN := aN) (aF := aF) (aT := aT) hcal193) yi_X2_told gL_law_X2_told rfl ((oX2 aH aN aF aT aG).L) rfl ⟨(Nat.le_of_ble_eq_true rfl), (Nat.le_of_ble_eq_true rfl)⟩ dL_law_861 (pm8_01234 _ _ _ _ _ _ _ _) rfl rfl (Nat.le_of_ble_eq_true rfl) ⟨by simp only [room_1]; omega, by simp only [room_1]; omega⟩ rfl ?_
            intro rr194 uu hrr
            have hrr : v192 = rr194 := Eq.symm hrr
            subst hrr
            refine x_perm (ws' := hC aH aN aF aT aG ++ (gC y aG G ++ (nC y aN N95 ++ (nC y aF F110 ++ (tC y aT T20 ++ (sC y bS aS18 Y21 S98 ++ (ggC y q31 r32 (v25.toNatClampNeg) 9 W36 ++ ggC y q46 r47 (v28.toNatClampNeg) 7 W60))))))) (pm8_01234 _ _ _ _ _ _ _ _).symm ?_
            refine x_if_lt (t := 902) (q := 867) C dL_law_864 (by decide) rfl (fun hc => ?_) (fun hc => ?_)
            · have hf := (if_pos hc).symm.trans hf
              refine x_iconst (q := 903) C dL_law_902 ki_0 rfl ?_
              cases hf
            · have hf := (if_neg hc).symm.trans hf
              refine x_aload_n (q := 868) C 1 dL_law_867 rfl rfl rfl ?_
              refine x_iload (q := 870) C 9 dL_law_868 rfl rfl ?_
              refine x_iconst (q := 871) C dL_law_870 ki_3 rfl ?_
              obtain ⟨v195, hcal196, hf⟩ := br_some hf
              refine x_callVi (q := 874) C (c2_told (l := l) (D := D) (y := y) (aH := aH) (aG := aG) (aN := aN) (aF := aF) (aT := aT) hcal196) yi_X2_told gL_law_X2_told rfl ((oX2 aH aN aF aT aG).L) rfl ⟨(Nat.le_of_ble_eq_true rfl), (Nat.le_of_ble_eq_true rfl)⟩ dL_law_871 (pm8_01234 _ _ _ _ _ _ _ _) rfl rfl (Nat.le_of_ble_eq_true rfl) ⟨by simp only [room_1]; omega, by simp only [room_1]; omega⟩ rfl ?_
              intro rr197 uu hrr
              have hrr : v195 = rr197 := Eq.symm hrr
              subst hrr
              refine x_perm (ws' := hC aH aN aF aT aG ++ (gC y aG G ++ (nC y aN N95 ++ (nC y aF F110 ++ (tC y aT T20 ++ (sC y bS aS18 Y21 S98 ++ (ggC y q31 r32 (v25.toNatClampNeg) 9 W36 ++ ggC y q46 r47 (v28.toNatClampNeg) 7 W60))))))) (pm8_01234 _ _ _ _ _ _ _ _).symm ?_
              refine x_sipush (q := 877) C dL_law_874 ks_300 rfl ?_
              refine x_icmp_gt (t := 902) (q := 880) C dL_law_877 (by decide) rfl (fun hc => ?_) (fun hc => ?_)
              · have hf := (if_pos hc).symm.trans hf
                refine x_iconst (q := 903) C dL_law_902 ki_0 rfl ?_
                cases hf
              · have hf := (if_neg hc).symm.trans hf
                refine x_aload_n (q := 881) C 1 dL_law_880 rfl rfl rfl ?_
                refine x_iload (q := 883) C 9 dL_law_881 rfl rfl ?_
                refine x_iconst (q := 884) C dL_law_883 ki_4 rfl ?_
                obtain ⟨v198, hcal199, hf⟩ := br_some hf
                refine x_callVi (q := 887) C (c2_told (l := l) (D := D) (y := y) (aH := aH) (aG := aG) (aN := aN) (aF := aF) (aT := aT) hcal199) yi_X2_told gL_law_X2_told rfl ((oX2 aH aN aF aT aG).L) rfl ⟨(Nat.le_of_ble_eq_true rfl), (Nat.le_of_ble_eq_true rfl)⟩ dL_law_884 (pm8_01234 _ _ _ _ _ _ _ _) rfl rfl (Nat.le_of_ble_eq_true rfl) ⟨by simp only [room_1]; omega, by simp only [room_1]; omega⟩ rfl ?_
                intro rr200 uu hrr
                have hrr : v198 = rr200 := Eq.symm hrr
                subst hrr
                refine x_perm (ws' := hC aH aN aF aT aG ++ (gC y aG G ++ (nC y aN N95 ++ (nC y aF F110 ++ (tC y aT T20 ++ (sC y bS aS18 Y21 S98 ++ (ggC y q31 r32 (v25.toNatClampNeg) 9 W36 ++ ggC y q46 r47 (v28.toNatClampNeg) 7 W60))))))) (pm8_01234 _ _ _ _ _ _ _ _).symm ?_
                refine x_if_lt (t := 902) (q := 890) C dL_law_887 (by decide) rfl (fun hc => ?_) (fun hc => ?_)
                · have hf := (if_pos hc).symm.trans hf
                  refine x_iconst (q := 903) C dL_law_902 ki_0 rfl ?_
                  cases hf
                · have hf := (if_neg hc).symm.trans hf
                  refine x_aload_n (q := 891) C 1 dL_law_890 rfl rfl rfl ?_
                  refine x_iload (q := 893) C 9 dL_law_891 rfl rfl ?_
                  refine x_iconst (q := 894) C dL_law_893 ki_4 rfl ?_
                  obtain ⟨v201, hcal202, hf⟩ := br_some hf
                  refine x_callVi (q := 897) C (c2_told (l := l) (D := D) (y := y) (aH := aH) (aG := aG) (aN := aN) (aF := aF) (aT := aT) hcal202) yi_X2_told gL_law_X2_told rfl ((oX2 aH aN aF aT aG).L) rfl ⟨(Nat.le_of_ble_eq_true rfl), (Nat.le_of_ble_eq_true rfl)⟩ dL_law_894 (pm8_01234 _ _ _ _ _ _ _ _) rfl rfl (Nat.le_of_ble_eq_true rfl) ⟨by simp only [room_1]; omega, by simp only [room_1]; omega⟩ rfl ?_
                  intro rr203 uu hrr
                  have hrr : v201 = rr203 := Eq.symm hrr
                  subst hrr
                  refine x_perm (ws' := hC aH aN aF aT aG ++ (gC y aG G ++ (nC y aN N95 ++ (nC y aF F110 ++ (tC y aT T20 ++ (sC y bS aS18 Y21 S98 ++ (ggC y q31 r32 (v25.toNatClampNeg) 9 W36 ++ ggC y q46 r47 (v28.toNatClampNeg) 7 W60))))))) (pm8_01234 _ _ _ _ _ _ _ _).symm ?_
                  refine x_bipush (q := 899) C dL_law_897 kb_9 rfl ?_
                  refine x_icmp_le (t := 904) (q := 902) C dL_law_899 (by decide) rfl (fun hc => ?_) (fun hc => ?_)
                  · have hf := (if_pos hc).symm.trans hf
                    refine x_aload_n (q := 905) C 1 dL_law_904 rfl rfl rfl ?_
                    refine x_iload (q := 907) C 9 dL_law_905 rfl rfl ?_
                    refine x_iconst (q := 908) C dL_law_907 ki_0 rfl ?_
                    obtain ⟨v204, hcal205, hf⟩ := br_some hf
                    refine x_callVi (q := 911) C (c2_told (l := l) (D := D) (y := y) (aH := aH) (aG := aG) (aN := aN) (aF := aF) (aT := aT) hcal205) yi_X2_told gL_law_X2_told rfl ((oX2 aH aN aF aT aG).L) rfl ⟨(Nat.le_of_ble_eq_true rfl), (Nat.le_of_ble_eq_true rfl)⟩ dL_law_908 (pm8_01234 _ _ _ _ _ _ _ _) rfl rfl (Nat.le_of_ble_eq_true rfl) ⟨by simp only [room_1]; omega, by simp only [room_1]; omega⟩ rfl ?_
                    intro rr206 uu hrr
                    have hrr : v204 = rr206 := Eq.symm hrr
                    subst hrr
                    refine x_perm (ws' := hC aH aN aF aT aG ++ (gC y aG G ++ (nC y aN N95 ++ (nC y aF F110 ++ (tC y aT T20 ++ (sC y bS aS18 Y21 S98 ++ (ggC y q31 r32 (v25.toNatClampNeg) 9 W36 ++ ggC y q46 r47 (v28.toNatClampNeg) 7 W60))))))) (pm8_01234 _ _ _ _ _ _ _ _).symm ?_
                    refine x_aload (q := 913) C 5 dL_law_911 rfl rfl ?_
                    refine x_iload (q := 915) C 9 dL_law_913 rfl rfl ?_
                    obtain ⟨hb207, hf⟩ := gd_some hf
                    refine x_aald (q := 916) C 2 dL_law_915 ((((((((ggR y q31 r32 (v25.toNatClampNeg) 9 W36).L).R).R).R).R).R).R) rfl rfl hb207 (if_pos (xin_lt hb207)) rfl ?_
                    refine x_iconst (q := 917) C dL_law_916 ki_0 rfl ?_
                    have hb208 : xin 0 9 = true := by decide
                    refine x_iald (q := 918) C 0 dL_law_917 ((((((((ggA y q31 r32 (v25.toNatClampNeg) 9 W36 (xin_lt hb207)).L).R).R).R).R).R).R) rfl hb208 rfl ?_
                    refine x_icmp_ne (t := 955) (q := 921) C dL_law_918 (by decide) rfl (fun hc => ?_) (fun hc => ?_)
                    · have hf := (if_neg hc).symm.trans hf
                      refine x_iconst (q := 956) C dL_law_955 ki_0 rfl ?_
                      cases hf
                    · have hf := (if_pos hc).symm.trans hf
                      refine x_aload_n (q := 922) C 1 dL_law_921 rfl rfl rfl ?_
                      refine x_iload (q := 924) C 9 dL_law_922 rfl rfl ?_
                      refine x_iconst (q := 925) C dL_law_924 ki_1 rfl ?_
                      obtain ⟨v209, hcal210, hf⟩ := br_some hf
                      refine x_callVi (q := 928) C (c2_told (l := l) (D := D) (y := y) (aH := aH) (aG := aG) (aN := aN) (aF := aF) (aT := aT) hcal210) yi_X2_told gL_law_X2_told rfl ((oX2 aH aN aF aT aG).L) rfl ⟨(Nat.le_of_ble_eq_true rfl), (Nat.le_of_ble_eq_true rfl)⟩ dL_law_925 (pm8_01234 _ _ _ _ _ _ _ _) rfl rfl (Nat.le_of_ble_eq_true rfl) ⟨by simp only [room_1]; omega, by simp only [room_1]; omega⟩ rfl ?_
                      intro rr211 uu hrr
                      have hrr : v209 = rr211 := Eq.symm hrr
                      subst hrr
                      refine x_perm (ws' := hC aH aN aF aT aG ++ (gC y aG G ++ (nC y aN N95 ++ (nC y aF F110 ++ (tC y aT T20 ++ (sC y bS aS18 Y21 S98 ++ (ggC y q31 r32 (v25.toNatClampNeg) 9 W36 ++ ggC y q46 r47 (v28.toNatClampNeg) 7 W60))))))) (pm8_01234 _ _ _ _ _ _ _ _).symm ?_
                      refine x_aload (q := 930) C 5 dL_law_928 rfl rfl ?_
                      refine x_iload (q := 932) C 9 dL_law_930 rfl rfl ?_
                      refine x_aald (q := 933) C 2 dL_law_932 ((((((((ggR y q31 r32 (v25.toNatClampNeg) 9 W36).L).R).R).R).R).R).R) rfl rfl hb207 (if_pos (xin_lt hb207)) rfl ?_
                      refine x_iconst (q := 934) C dL_law_933 ki_1 rfl ?_
                      have hb212 : xin 1 9 = true := by decide
                      refine x_iald (q := 935) C 0 dL_law_934 ((((((((ggA y q31 r32 (v25.toNatClampNeg) 9 W36 (xin_lt hb207)).L).R).R).R).R).R).R) rfl hb212 rfl ?_
                      refine x_icmp_ne (t := 955) (q := 938) C dL_law_935 (by decide) rfl (fun hc => ?_) (fun hc => ?_)
                      · have hf := (if_neg hc).symm.trans hf
                        refine x_iconst (q := 956) C dL_law_955 ki_0 rfl ?_
                        cases hf
                      · have hf := (if_pos hc).symm.trans hf
                        refine x_aload_n (q := 939) C 1 dL_law_938 rfl rfl rfl ?_
                        refine x_iload (q := 941) C 9 dL_law_939 rfl rfl ?_
                        refine x_iconst (q := 942) C dL_law_941 ki_2 rfl ?_
                        obtain ⟨v213, hcal214, hf⟩ := br_some hf
                        refine x_callVi (q := 945) C (c2_told (l := l) (D := D) (y := y) (aH := aH) (aG := aG) (aN := aN) (aF := aF) (aT := aT) hcal214) yi_X2_told gL_law_X2_told rfl ((oX2 aH aN aF aT aG).L) rfl ⟨(Nat.le_of_ble_eq_true rfl), (Nat.le_of_ble_eq_true rfl)⟩ dL_law_942 (pm8_01234 _ _ _ _ _ _ _ _) rfl rfl (Nat.le_of_ble_eq_true rfl) ⟨by simp only [room_1]; omega, by simp only [room_1]; omega⟩ rfl ?_
                        intro rr215 uu hrr
                        have hrr : v213 = rr215 := Eq.symm hrr
                        subst hrr
                        refine x_perm (ws' := hC aH aN aF aT aG ++ (gC y aG G ++ (nC y aN N95 ++ (nC y aF F110 ++ (tC y aT T20 ++ (sC y bS aS18 Y21 S98 ++ (ggC y q31 r32 (v25.toNatClampNeg) 9 W36 ++ ggC y q46 r47 (v28.toNatClampNeg) 7 W60))))))) (pm8_01234 _ _ _ _ _ _ _ _).symm ?_
                        refine x_aload (q := 947) C 5 dL_law_945 rfl rfl ?_
                        refine x_iload (q := 949) C 9 dL_law_947 rfl rfl ?_
                        refine x_aald (q := 950) C 2 dL_law_949 ((((((((ggR y q31 r32 (v25.toNatClampNeg) 9 W36).L).R).R).R).R).R).R) rfl rfl hb207 (if_pos (xin_lt hb207)) rfl ?_
                        refine x_iconst (q := 951) C dL_law_950 ki_2 rfl ?_
                        have hb216 : xin 2 9 = true := by decide
                        refine x_iald (q := 952) C 0 dL_law_951 ((((((((ggA y q31 r32 (v25.toNatClampNeg) 9 W36 (xin_lt hb207)).L).R).R).R).R).R).R) rfl hb216 rfl ?_
                        refine x_icmp_eq (t := 957) (q := 955) C dL_law_952 (by decide) rfl (fun hc => ?_) (fun hc => ?_)
                        · have hf := (if_pos hc).symm.trans hf
                          refine x_aload_n (q := 958) C 1 dL_law_957 rfl rfl rfl ?_
                          refine x_iload (q := 960) C 9 dL_law_958 rfl rfl ?_
                          refine x_bipush (q := 962) C dL_law_960 kb_7 rfl ?_
                          obtain ⟨v217, hcal218, hf⟩ := br_some hf
                          refine x_callVi (q := 965) C (c2_told (l := l) (D := D) (y := y) (aH := aH) (aG := aG) (aN := aN) (aF := aF) (aT := aT) hcal218) yi_X2_told gL_law_X2_told rfl ((oX2 aH aN aF aT aG).L) rfl ⟨(Nat.le_of_ble_eq_true rfl), (Nat.le_of_ble_eq_true rfl)⟩ dL_law_962 (pm8_01234 _ _ _ _ _ _ _ _) rfl rfl (Nat.le_of_ble_eq_true rfl) ⟨by simp only [room_1]; omega, by simp only [room_1]; omega⟩ rfl ?_
                          intro rr219 uu hrr
                          have hrr : v217 = rr219 := Eq.symm hrr
                          subst hrr
                          refine x_perm (ws' := hC aH aN aF aT aG ++ (gC y aG G ++ (nC y aN N95 ++ (nC y aF F110 ++ (tC y aT T20 ++ (sC y bS aS18 Y21 S98 ++ (ggC y q31 r32 (v25.toNatClampNeg) 9 W36 ++ ggC y q46 r47 (v28.toNatClampNeg) 7 W60))))))) (pm8_01234 _ _ _ _ _ _ _ _).symm ?_
                          refine x_aload (q := 967) C 5 dL_law_965 rfl rfl ?_
                          refine x_iload (q := 969) C 9 dL_law_967 rfl rfl ?_
                          refine x_aald (q := 970) C 2 dL_law_969 ((((((((ggR y q31 r32 (v25.toNatClampNeg) 9 W36).L).R).R).R).R).R).R) rfl rfl hb207 (if_pos (xin_lt hb207)) rfl ?_
                          refine x_bipush (q := 972) C dL_law_970 kb_7 rfl ?_
                          have hb220 : xin 7 9 = true := by decide
                          refine x_iald (q := 973) C 0 dL_law_972 ((((((((ggA y q31 r32 (v25.toNatClampNeg) 9 W36 (xin_lt hb207)).L).R).R).R).R).R).R) rfl hb220 rfl ?_
                          refine x_isub (q := 974) C dL_law_973 rfl ?_
                          obtain ⟨v221, ev221, hf⟩ := lt_elim hf
                          refine x_topi ev221 ?_
                          refine x_istore (q := 976) C [1, 2, 3, 4, 5, 6, 7, 8, 9, 10, 11, 0] [(0, .ref bX), (1, .ref aH), (2, .ref bS), (3, .int v2), (5, .int v25), (7, .ref q31), (10, .int v73), (19, .int v187), (20, .int v191), (21, .int v179), (22, .int v185), (23, .int v221)] dL_law_974 (by decide) rfl rfl ?_
                          refine x_aload_n (q := 977) C 1 dL_law_976 rfl rfl rfl ?_
                          refine x_iload (q := 979) C 9 dL_law_977 rfl rfl ?_
                          refine x_bipush (q := 981) C dL_law_979 kb_8 rfl ?_
                          obtain ⟨v222, hcal223, hf⟩ := br_some hf
                          refine x_callVi (q := 984) C (c2_told (l := l) (D := D) (y := y) (aH := aH) (aG := aG) (aN := aN) (aF := aF) (aT := aT) hcal223) yi_X2_told gL_law_X2_told rfl ((oX2 aH aN aF aT aG).L) rfl ⟨(Nat.le_of_ble_eq_true rfl), (Nat.le_of_ble_eq_true rfl)⟩ dL_law_981 (pm8_01234 _ _ _ _ _ _ _ _) rfl rfl (Nat.le_of_ble_eq_true rfl) ⟨by simp only [room_1]; omega, by simp only [room_1]; omega⟩ rfl ?_
                          intro rr224 uu hrr
                          have hrr : v222 = rr224 := Eq.symm hrr
                          subst hrr
                          refine x_perm (ws' := hC aH aN aF aT aG ++ (gC y aG G ++ (nC y aN N95 ++ (nC y aF F110 ++ (tC y aT T20 ++ (sC y bS aS18 Y21 S98 ++ (ggC y q31 r32 (v25.toNatClampNeg) 9 W36 ++ ggC y q46 r47 (v28.toNatClampNeg) 7 W60))))))) (pm8_01234 _ _ _ _ _ _ _ _).symm ?_
                          refine x_aload (q := 986) C 5 dL_law_984 rfl rfl ?_
                          refine x_iload (q := 988) C 9 dL_law_986 rfl rfl ?_
                          refine x_aald (q := 989) C 2 dL_law_988 ((((((((ggR y q31 r32 (v25.toNatClampNeg) 9 W36).L).R).R).R).R).R).R) rfl rfl hb207 (if_pos (xin_lt hb207)) rfl ?_
                          refine x_bipush (q := 991) C dL_law_989 kb_8 rfl ?_
                          have hb225 : xin 8 9 = true := by decide
                          refine x_iald (q := 992) C 0 dL_law_991 ((((((((ggA y q31 r32 (v25.toNatClampNeg) 9 W36 (xin_lt hb207)).L).R).R).R).R).R).R) rfl hb225 rfl ?_
                          refine x_isub (q := 993) C dL_law_992 rfl ?_
                          obtain ⟨v226, ev226, hf⟩ := lt_elim hf
                          refine x_topi ev226 ?_
                          refine x_istore (q := 995) C [1, 2, 3, 4, 5, 6, 7, 8, 9, 10, 11, 12, 0] [(0, .ref bX), (1, .ref aH), (2, .ref bS), (3, .int v2), (5, .int v25), (7, .ref q31), (10, .int v73), (19, .int v187), (20, .int v191), (21, .int v179), (22, .int v185), (23, .int v221), (24, .int v226)] dL_law_993 (by decide) rfl rfl ?_
                          refine x_iload (q := 997) C 11 dL_law_995 rfl rfl ?_
                          refine x_if_lt (t := 1073) (q := 1000) C dL_law_997 (by decide) rfl (fun hc => ?_) (fun hc => ?_)
                          · have hf := (if_pos hc).symm.trans hf
                            refine x_iconst (q := 1074) C dL_law_1073 ki_0 rfl ?_
                            cases hf
                          · have hf := (if_neg hc).symm.trans hf
                            refine x_iload (q := 1002) C 11 dL_law_1000 rfl rfl ?_
                            refine x_iconst (q := 1003) C dL_law_1002 ki_1 rfl ?_
                            refine x_icmp_gt (t := 1073) (q := 1006) C dL_law_1003 (by decide) rfl (fun hc => ?_) (fun hc => ?_)
                            · have hf := (if_pos hc).symm.trans hf
                              refine x_iconst (q := 1074) C dL_law_1073 ki_0 rfl ?_
                              cases hf
                            · have hf := (if_neg hc).symm.trans hf
                              refine x_iload (q := 1008) C 12 dL_law_1006 rfl rfl ?_
                              refine x_if_lt (t := 1073) (q := 1011) C dL_law_1008 (by decide) rfl (fun hc => ?_) (fun hc => ?_)
                              · have hf := (if_pos hc).symm.trans hf
                                refine x_iconst (q := 1074) C dL_law_1073 ki_0 rfl ?_
                                cases hf
                              · have hf := (if_neg hc).symm.trans hf
                                refine x_iload (q := 1013) C 12 dL_law_1011 rfl rfl ?_
                                refine x_iconst (q := 1014) C dL_law_1013 ki_1 rfl ?_
                                refine x_icmp_gt (t := 1073) (q := 1017) C dL_law_1014 (by decide) rfl (fun hc => ?_) (fun hc => ?_)
                                · have hf := (if_pos hc).symm.trans hf
                                  refine x_iconst (q := 1074) C dL_law_1073 ki_0 rfl ?_
                                  cases hf
                                · have hf := (if_neg hc).symm.trans hf
                                  refine x_iload (q := 1019) C 11 dL_law_1017 rfl rfl ?_
                                  refine x_iconst (q := 1020) C dL_law_1019 ki_1 rfl ?_
                                  obtain ⟨J1034, eJ1034, hf⟩ := lt_elim hf
                                  have hJ1034 : ∀ (u_ : Unit), J1034 u_ = some (N', F', T', Y', S') → xV p l e room_1 s m args below meth c D A Q 27 (hC aH aN aF aT aG ++ (gC y aG G ++ (nC y aN N95 ++ (nC y aF F110 ++ (tC y aT T20 ++ (sC y bS aS18 Y21 S98 ++ (ggC y q31 r32 (v25.toNatClampNeg) 9 W36 ++ ggC y q46 r47 (v28.toNatClampNeg) 7 W60))))))) k0_ n0_ [(0, .ref bX), (1, .ref aH), (2, .ref bS), (3, .int v2), (5, .int v25), (7, .ref q31), (10, .int v73), (19, .int v187), (20, .int v191), (21, .int v179), (22, .int v185), (23, .int v221), (24, .int v226)] 1034 [] := by
                                    intro u_ hf
                                    subst eJ1034
                                    refine x_iload (q := 1036) C 12 dL_law_1034 rfl rfl ?_
                                    refine x_iconst (q := 1037) C dL_law_1036 ki_1 rfl ?_
                                    obtain ⟨J1053, eJ1053, hf⟩ := lt_elim hf
                                    have hJ1053 : ∀ (u_ : Unit), J1053 u_ = some (N', F', T', Y', S') → xV p l e room_1 s m args below meth c D A Q 27 (hC aH aN aF aT aG ++ (gC y aG G ++ (nC y aN N95 ++ (nC y aF F110 ++ (tC y aT T20 ++ (sC y bS aS18 Y21 S98 ++ (ggC y q31 r32 (v25.toNatClampNeg) 9 W36 ++ ggC y q46 r47 (v28.toNatClampNeg) 7 W60))))))) k0_ n0_ [(0, .ref bX), (1, .ref aH), (2, .ref bS), (3, .int v2), (5, .int v25), (7, .ref q31), (10, .int v73), (19, .int v187), (20, .int v191), (21, .int v179), (22, .int v185), (23, .int v221)] 1053 [] := by
                                      intro u_ hf
                                      subst eJ1053
                                      refine x_iload (q := 1055) C 10 dL_law_1053 rfl rfl ?_
                                      obtain ⟨J1075, eJ1075, hf⟩ := lt_elim hf
                                      have hJ1075 : ∀ (u_ : Unit), J1075 u_ = some (N', F', T', Y', S') → xV p l e room_1 s m args below meth c D A Q 27 (hC aH aN aF aT aG ++ (gC y aG G ++ (nC y aN N95 ++ (nC y aF F110 ++ (tC y aT T20 ++ (sC y bS aS18 Y21 S98 ++ (ggC y q31 r32 (v25.toNatClampNeg) 9 W36 ++ ggC y q46 r47 (v28.toNatClampNeg) 7 W60))))))) k0_ n0_ [(0, .ref bX), (1, .ref aH), (2, .ref bS), (3, .int v2), (5, .int v25), (7, .ref q31), (10, .int v73), (19, .int v187), (20, .int v191), (21, .int v179), (23, .int v221)] 1075 [] := by
                                        intro u_ hf
                                        subst eJ1075
                                        refine x_iload (q := 1077) C 10 dL_law_1075 rfl rfl ?_
                                        obtain ⟨J1099, eJ1099, hf⟩ := lt_elim hf
                                        have hJ1099 : ∀ (u_ : Unit), J1099 u_ = some (N', F', T', Y', S') → xV p l e room_1 s m args below meth c D A Q 27 (hC aH aN aF aT aG ++ (gC y aG G ++ (nC y aN N95 ++ (nC y aF F110 ++ (tC y aT T20 ++ (sC y bS aS18 Y21 S98 ++ (ggC y q31 r32 (v25.toNatClampNeg) 9 W36 ++ ggC y q46 r47 (v28.toNatClampNeg) 7 W60))))))) k0_ n0_ [(0, .ref bX), (1, .ref aH), (2, .ref bS), (3, .int v2), (5, .int v25), (7, .ref q31), (10, .int v73), (19, .int v187), (20, .int v191), (21, .int v179), (23, .int v221)] 1099 [] := by
                                          intro u_ hf
                                          subst eJ1099
                                          refine x_aload (q := 1101) C 5 dL_law_1099 rfl rfl ?_
                                          refine x_iload (q := 1103) C 9 dL_law_1101 rfl rfl ?_
                                          refine x_aald (q := 1104) C 2 dL_law_1103 ((((((((ggR y q31 r32 (v25.toNatClampNeg) 9 W36).L).R).R).R).R).R).R) rfl rfl hb207 (if_pos (xin_lt hb207)) rfl ?_
                                          refine x_iconst (q := 1105) C dL_law_1104 ki_5 rfl ?_
                                          have hb227 : xin 5 9 = true := by decide
                                          refine x_iald (q := 1106) C 0 dL_law_1105 ((((((((ggA y q31 r32 (v25.toNatClampNeg) 9 W36 (xin_lt hb207)).L).R).R).R).R).R).R) rfl hb227 rfl ?_
                                          obtain ⟨J1133, eJ1133, hf⟩ := lt_elim hf
                                          have hJ1133 : ∀ (u_ : Unit), J1133 u_ = some (N', F', T', Y', S') → xV p l e room_1 s m args below meth c D A Q 27 (hC aH aN aF aT aG ++ (gC y aG G ++ (nC y aN N95 ++ (nC y aF F110 ++ (tC y aT T20 ++ (sC y bS aS18 Y21 S98 ++ (ggC y q31 r32 (v25.toNatClampNeg) 9 W36 ++ ggC y q46 r47 (v28.toNatClampNeg) 7 W60))))))) k0_ n0_ [(0, .ref bX), (1, .ref aH), (2, .ref bS), (3, .int v2), (5, .int v25), (7, .ref q31), (10, .int v73), (19, .int v187), (20, .int v191), (21, .int v179)] 1133 [] := by
                                            intro u_ hf
                                            subst eJ1133
                                            refine x_iinc (q := 1136) C 9 (v179 + 1) [1, 2, 3, 4, 5, 6, 7, 8, 9, 0] [(0, .ref bX), (1, .ref aH), (2, .ref bS), (3, .int v2), (5, .int v25), (7, .ref q31), (10, .int v73), (19, .int v187), (20, .int v191), (21, .int (v179 + 1))] dL_law_1133 rfl (congrArg (fun z => v179 + z) ki_1) (by decide) rfl rfl ?_
                                            refine x_goto (t := 790) C dL_law_1136 (by decide) ?_
                                            exact ih v187 v191 (v179 + 1) hf
                                          refine x_if_ne (t := 1133) (q := 1109) C dL_law_1106 (by decide) rfl (fun hc => ?_) (fun hc => ?_)
                                          · have hf := (if_neg hc).symm.trans hf
                                            refine x_sub [0, 1, 2, 3, 4, 5, 6, 7, 8, 9] (L' := [(0, .ref bX), (1, .ref aH), (2, .ref bS), (3, .int v2), (5, .int v25), (7, .ref q31), (10, .int v73), (19, .int v187), (20, .int v191), (21, .int v179)]) rfl ?_
                                            exact hJ1133 () hf
                                          · have hf := (if_pos hc).symm.trans hf
                                            refine x_iload (q := 1111) C 10 dL_law_1109 rfl rfl ?_
                                            refine x_if_ne (t := 1133) (q := 1114) C dL_law_1111 (by decide) rfl (fun hc => ?_) (fun hc => ?_)
                                            · have hf := (if_neg hc).symm.trans hf
                                              refine x_sub [0, 1, 2, 3, 4, 5, 6, 7, 8, 9] (L' := [(0, .ref bX), (1, .ref aH), (2, .ref bS), (3, .int v2), (5, .int v25), (7, .ref q31), (10, .int v73), (19, .int v187), (20, .int v191), (21, .int v179)]) rfl ?_
                                              exact hJ1133 () hf
                                            · have hf := (if_pos hc).symm.trans hf
                                              refine x_aload_n (q := 1115) C 1 dL_law_1114 rfl rfl rfl ?_
                                              refine x_iload (q := 1117) C 9 dL_law_1115 rfl rfl ?_
                                              refine x_iconst (q := 1118) C dL_law_1117 ki_3 rfl ?_
                                              obtain ⟨v228, hcal229, hf⟩ := br_some hf
                                              refine x_callVi (q := 1121) C (c2_told (l := l) (D := D) (y := y) (aH := aH) (aG := aG) (aN := aN) (aF := aF) (aT := aT) hcal229) yi_X2_told gL_law_X2_told rfl ((oX2 aH aN aF aT aG).L) rfl ⟨(Nat.le_of_ble_eq_true rfl), (Nat.le_of_ble_eq_true rfl)⟩ dL_law_1118 (pm8_01234 _ _ _ _ _ _ _ _) rfl rfl (Nat.le_of_ble_eq_true rfl) ⟨by simp only [room_1]; omega, by simp only [room_1]; omega⟩ rfl ?_
                                              intro rr230 uu hrr
                                              have hrr : v228 = rr230 := Eq.symm hrr
                                              subst hrr
                                              refine x_perm (ws' := hC aH aN aF aT aG ++ (gC y aG G ++ (nC y aN N95 ++ (nC y aF F110 ++ (tC y aT T20 ++ (sC y bS aS18 Y21 S98 ++ (ggC y q31 r32 (v25.toNatClampNeg) 9 W36 ++ ggC y q46 r47 (v28.toNatClampNeg) 7 W60))))))) (pm8_01234 _ _ _ _ _ _ _ _).symm ?_
                                              refine x_aload (q := 1123) C 5 dL_law_1121 rfl rfl ?_
                                              refine x_iload (q := 1125) C 9 dL_law_1123 rfl rfl ?_
                                              refine x_aald (q := 1126) C 2 dL_law_1125 ((((((((ggR y q31 r32 (v25.toNatClampNeg) 9 W36).L).R).R).R).R).R).R) rfl rfl hb207 (if_pos (xin_lt hb207)) rfl ?_
                                              refine x_iconst (q := 1127) C dL_law_1126 ki_3 rfl ?_
                                              have hb231 : xin 3 9 = true := by decide
                                              refine x_iald (q := 1128) C 0 dL_law_1127 ((((((((ggA y q31 r32 (v25.toNatClampNeg) 9 W36 (xin_lt hb207)).L).R).R).R).R).R).R) rfl hb231 rfl ?_
                                              refine x_icmp_ge (t := 1133) (q := 1131) C dL_law_1128 (by decide) rfl (fun hc => ?_) (fun hc => ?_)
                                              · have hf := (if_pos hc).symm.trans hf
                                                refine x_sub [0, 1, 2, 3, 4, 5, 6, 7, 8, 9] (L' := [(0, .ref bX), (1, .ref aH), (2, .ref bS), (3, .int v2), (5, .int v25), (7, .ref q31), (10, .int v73), (19, .int v187), (20, .int v191), (21, .int v179)]) rfl ?_
                                                exact hJ1133 () hf
                                              · have hf := (if_neg hc).symm.trans hf
                                                refine x_iconst (q := 1132) C dL_law_1131 ki_0 rfl ?_
                                                cases hf
                                        refine x_if_ne (t := 1099) (q := 1080) C dL_law_1077 (by decide) rfl (fun hc => ?_) (fun hc => ?_)
                                        · have hf := (if_neg hc).symm.trans hf
                                          exact hJ1099 () hf
                                        · have hf := (if_pos hc).symm.trans hf
                                          refine x_aload_n (q := 1081) C 1 dL_law_1080 rfl rfl rfl ?_
                                          refine x_iload (q := 1083) C 9 dL_law_1081 rfl rfl ?_
                                          refine x_iconst (q := 1084) C dL_law_1083 ki_3 rfl ?_
                                          obtain ⟨v232, hcal233, hf⟩ := br_some hf
                                          refine x_callVi (q := 1087) C (c2_told (l := l) (D := D) (y := y) (aH := aH) (aG := aG) (aN := aN) (aF := aF) (aT := aT) hcal233) yi_X2_told gL_law_X2_told rfl ((oX2 aH aN aF aT aG).L) rfl ⟨(Nat.le_of_ble_eq_true rfl), (Nat.le_of_ble_eq_true rfl)⟩ dL_law_1084 (pm8_01234 _ _ _ _ _ _ _ _) rfl rfl (Nat.le_of_ble_eq_true rfl) ⟨by simp only [room_1]; omega, by simp only [room_1]; omega⟩ rfl ?_
                                          intro rr234 uu hrr
                                          have hrr : v232 = rr234 := Eq.symm hrr
                                          subst hrr
                                          refine x_perm (ws' := hC aH aN aF aT aG ++ (gC y aG G ++ (nC y aN N95 ++ (nC y aF F110 ++ (tC y aT T20 ++ (sC y bS aS18 Y21 S98 ++ (ggC y q31 r32 (v25.toNatClampNeg) 9 W36 ++ ggC y q46 r47 (v28.toNatClampNeg) 7 W60))))))) (pm8_01234 _ _ _ _ _ _ _ _).symm ?_
                                          refine x_aload (q := 1089) C 5 dL_law_1087 rfl rfl ?_
                                          refine x_iload (q := 1091) C 9 dL_law_1089 rfl rfl ?_
                                          refine x_aald (q := 1092) C 2 dL_law_1091 ((((((((ggR y q31 r32 (v25.toNatClampNeg) 9 W36).L).R).R).R).R).R).R) rfl rfl hb207 (if_pos (xin_lt hb207)) rfl ?_
                                          refine x_iconst (q := 1093) C dL_law_1092 ki_3 rfl ?_
                                          have hb235 : xin 3 9 = true := by decide
                                          refine x_iald (q := 1094) C 0 dL_law_1093 ((((((((ggA y q31 r32 (v25.toNatClampNeg) 9 W36 (xin_lt hb207)).L).R).R).R).R).R).R) rfl hb235 rfl ?_
                                          refine x_iconst (q := 1095) C dL_law_1094 ki_2 rfl ?_
                                          refine x_isub (q := 1096) C dL_law_1095 rfl ?_
                                          refine x_icmp_lt (t := 1131) (q := 1099) C dL_law_1096 (by decide) rfl (fun hc => ?_) (fun hc => ?_)
                                          · have hf := (if_pos hc).symm.trans hf
                                            refine x_iconst (q := 1132) C dL_law_1131 ki_0 rfl ?_
                                            cases hf
                                          · have hf := (if_neg hc).symm.trans hf
                                            exact hJ1099 () hf
                                      refine x_if_eq (t := 1075) (q := 1058) C dL_law_1055 (by decide) rfl (fun hc => ?_) (fun hc => ?_)
                                      · have hf := (if_pos hc).symm.trans hf
                                        refine x_sub [0, 1, 2, 3, 4, 5, 6, 7, 8, 9, 11] (L' := [(0, .ref bX), (1, .ref aH), (2, .ref bS), (3, .int v2), (5, .int v25), (7, .ref q31), (10, .int v73), (19, .int v187), (20, .int v191), (21, .int v179), (23, .int v221)]) rfl ?_
                                        exact hJ1075 () hf
                                      · have hf := (if_neg hc).symm.trans hf
                                        refine x_aload (q := 1060) C 5 dL_law_1058 rfl rfl ?_
                                        refine x_iload (q := 1062) C 9 dL_law_1060 rfl rfl ?_
                                        refine x_aald (q := 1063) C 2 dL_law_1062 ((((((((ggR y q31 r32 (v25.toNatClampNeg) 9 W36).L).R).R).R).R).R).R) rfl rfl hb207 (if_pos (xin_lt hb207)) rfl ?_
                                        refine x_iconst (q := 1064) C dL_law_1063 ki_5 rfl ?_
                                        have hb236 : xin 5 9 = true := by decide
                                        refine x_iald (q := 1065) C 0 dL_law_1064 ((((((((ggA y q31 r32 (v25.toNatClampNeg) 9 W36 (xin_lt hb207)).L).R).R).R).R).R).R) rfl hb236 rfl ?_
                                        refine x_if_ne (t := 1075) (q := 1068) C dL_law_1065 (by decide) rfl (fun hc => ?_) (fun hc => ?_)
                                        · have hf := (if_neg hc).symm.trans hf
                                          refine x_sub [0, 1, 2, 3, 4, 5, 6, 7, 8, 9, 11] (L' := [(0, .ref bX), (1, .ref aH), (2, .ref bS), (3, .int v2), (5, .int v25), (7, .ref q31), (10, .int v73), (19, .int v187), (20, .int v191), (21, .int v179), (23, .int v221)]) rfl ?_
                                          exact hJ1075 () hf
                                        · have hf := (if_pos hc).symm.trans hf
                                          refine x_iload (q := 1070) C 11 dL_law_1068 rfl rfl ?_
                                          refine x_if_ne (t := 1075) (q := 1073) C dL_law_1070 (by decide) rfl (fun hc => ?_) (fun hc => ?_)
                                          · have hf := (if_neg hc).symm.trans hf
                                            refine x_sub [0, 1, 2, 3, 4, 5, 6, 7, 8, 9, 11] (L' := [(0, .ref bX), (1, .ref aH), (2, .ref bS), (3, .int v2), (5, .int v25), (7, .ref q31), (10, .int v73), (19, .int v187), (20, .int v191), (21, .int v179), (23, .int v221)]) rfl ?_
                                            exact hJ1075 () hf
                                          · have hf := (if_pos hc).symm.trans hf
                                            refine x_iconst (q := 1074) C dL_law_1073 ki_0 rfl ?_
                                            cases hf
                                    refine x_icmp_ne (t := 1053) (q := 1040) C dL_law_1037 (by decide) rfl (fun hc => ?_) (fun hc => ?_)
                                    · have hf := (if_neg hc).symm.trans hf
                                      refine x_sub [0, 1, 2, 3, 4, 5, 6, 7, 8, 9, 10, 11] (L' := [(0, .ref bX), (1, .ref aH), (2, .ref bS), (3, .int v2), (5, .int v25), (7, .ref q31), (10, .int v73), (19, .int v187), (20, .int v191), (21, .int v179), (22, .int v185), (23, .int v221)]) rfl ?_
                                      exact hJ1053 () hf
                                    · have hf := (if_pos hc).symm.trans hf
                                      refine x_iload (q := 1042) C 10 dL_law_1040 rfl rfl ?_
                                      refine x_if_ne (t := 1073) (q := 1045) C dL_law_1042 (by decide) rfl (fun hc => ?_) (fun hc => ?_)
                                      · have hf := (if_neg hc).symm.trans hf
                                        refine x_iconst (q := 1074) C dL_law_1073 ki_0 rfl ?_
                                        cases hf
                                      · have hf := (if_pos hc).symm.trans hf
                                        refine x_iload (q := 1047) C 6 dL_law_1045 rfl rfl ?_
                                        refine x_bipush (q := 1049) C dL_law_1047 kb_10 rfl ?_
                                        refine x_irem (q := 1050) C dL_law_1049 (by decide) rfl ?_
                                        refine x_if_ne (t := 1073) (q := 1053) C dL_law_1050 (by decide) rfl (fun hc => ?_) (fun hc => ?_)
                                        · have hf := (if_neg hc).symm.trans hf
                                          refine x_iconst (q := 1074) C dL_law_1073 ki_0 rfl ?_
                                          cases hf
                                        · have hf := (if_pos hc).symm.trans hf
                                          refine x_sub [0, 1, 2, 3, 4, 5, 6, 7, 8, 9, 10, 11] (L' := [(0, .ref bX), (1, .ref aH), (2, .ref bS), (3, .int v2), (5, .int v25), (7, .ref q31), (10, .int v73), (19, .int v187), (20, .int v191), (21, .int v179), (22, .int v185), (23, .int v221)]) rfl ?_
                                          exact hJ1053 () hf
                                  refine x_icmp_ne (t := 1034) (q := 1023) C dL_law_1020 (by decide) rfl (fun hc => ?_) (fun hc => ?_)
                                  · have hf := (if_neg hc).symm.trans hf
                                    exact hJ1034 () hf
                                  · have hf := (if_pos hc).symm.trans hf
                                    refine x_aload (q := 1025) C 5 dL_law_1023 rfl rfl ?_
                                    refine x_iload (q := 1027) C 9 dL_law_1025 rfl rfl ?_
                                    refine x_aald (q := 1028) C 2 dL_law_1027 ((((((((ggR y q31 r32 (v25.toNatClampNeg) 9 W36).L).R).R).R).R).R).R) rfl rfl hb207 (if_pos (xin_lt hb207)) rfl ?_
                                    refine x_iconst (q := 1029) C dL_law_1028 ki_5 rfl ?_
                                    have hb237 : xin 5 9 = true := by decide
                                    refine x_iald (q := 1030) C 0 dL_law_1029 ((((((((ggA y q31 r32 (v25.toNatClampNeg) 9 W36 (xin_lt hb207)).L).R).R).R).R).R).R) rfl hb237 rfl ?_
                                    refine x_iconst (q := 1031) C dL_law_1030 ki_1 rfl ?_
                                    refine x_icmp_eq (t := 1073) (q := 1034) C dL_law_1031 (by decide) rfl (fun hc => ?_) (fun hc => ?_)
                                    · have hf := (if_pos hc).symm.trans hf
                                      refine x_iconst (q := 1074) C dL_law_1073 ki_0 rfl ?_
                                      cases hf
                                    · have hf := (if_neg hc).symm.trans hf
                                      exact hJ1034 () hf
                        · have hf := (if_neg hc).symm.trans hf
                          refine x_iconst (q := 956) C dL_law_955 ki_0 rfl ?_
                          cases hf
                  · have hf := (if_neg hc).symm.trans hf
                    refine x_iconst (q := 903) C dL_law_902 ki_0 rfl ?_
                    cases hf
          refine x_if_eq (t := 857) (q := 847) C dL_law_844 (by decide) rfl (fun hc => ?_) (fun hc => ?_)
          · have hf := (if_pos hc).symm.trans hf
            exact hJ857 () hf
          · have hf := (if_neg hc).symm.trans hf
            refine x_aload_n (q := 848) C 1 dL_law_847 rfl rfl rfl ?_
            refine x_iload (q := 850) C 9 dL_law_848 rfl rfl ?_
            refine x_iconst (q := 851) C dL_law_850 ki_3 rfl ?_
            obtain ⟨v238, hcal239, hf⟩ := br_some hf
            refine x_callVi (q := 854) C (c2_told (l := l) (D := D) (y := y) (aH := aH) (aG := aG) (aN := aN) (aF := aF) (aT := aT) hcal239) yi_X2_told gL_law_X2_told rfl ((oX2 aH aN aF aT aG).L) rfl ⟨(Nat.le_of_ble_eq_true rfl), (Nat.le_of_ble_eq_true rfl)⟩ dL_law_851 (pm8_01234 _ _ _ _ _ _ _ _) rfl rfl (Nat.le_of_ble_eq_true rfl) ⟨by simp only [room_1]; omega, by simp only [room_1]; omega⟩ rfl ?_
            intro rr240 uu hrr
            have hrr : v238 = rr240 := Eq.symm hrr
            subst hrr
            refine x_perm (ws' := hC aH aN aF aT aG ++ (gC y aG G ++ (nC y aN N95 ++ (nC y aF F110 ++ (tC y aT T20 ++ (sC y bS aS18 Y21 S98 ++ (ggC y q31 r32 (v25.toNatClampNeg) 9 W36 ++ ggC y q46 r47 (v28.toNatClampNeg) 7 W60))))))) (pm8_01234 _ _ _ _ _ _ _ _).symm ?_
            refine x_if_eq (t := 902) (q := 857) C dL_law_854 (by decide) rfl (fun hc => ?_) (fun hc => ?_)
            · have hf := (if_pos hc).symm.trans hf
              refine x_iconst (q := 903) C dL_law_902 ki_0 rfl ?_
              cases hf
            · have hf := (if_neg hc).symm.trans hf
              exact hJ857 () hf
        refine x_if_eq (t := 826) (q := 822) C dL_law_819 (by decide) rfl (fun hc => ?_) (fun hc => ?_)
        · have hf := (if_pos hc).symm.trans hf
          refine x_iconst (q := 827) C dL_law_826 ki_0 rfl ?_
          refine x_sub [0, 1, 2, 3, 4, 5, 6, 8, 9, 10] (L' := [(0, .ref bX), (1, .ref aH), (2, .ref bS), (3, .int v2), (5, .int v25), (7, .ref q31), (10, .int v73), (20, .int v178), (21, .int v179), (22, .int v185)]) rfl ?_
          exact hJ827 0 hf
        · have hf := (if_neg hc).symm.trans hf
          refine x_iconst (q := 823) C dL_law_822 ki_1 rfl ?_
          refine x_goto (t := 827) C dL_law_823 (by decide) ?_
          refine x_sub [0, 1, 2, 3, 4, 5, 6, 8, 9, 10] (L' := [(0, .ref bX), (1, .ref aH), (2, .ref bS), (3, .int v2), (5, .int v25), (7, .ref q31), (10, .int v73), (20, .int v178), (21, .int v179), (22, .int v185)]) rfl ?_
          exact hJ827 1 hf
      refine x_icmp_ne (t := 812) (q := 808) C dL_law_805 (by decide) rfl (fun hc => ?_) (fun hc => ?_)
      · have hf := (if_neg hc).symm.trans hf
        refine x_iconst (q := 813) C dL_law_812 ki_0 rfl ?_
        exact hJ813 0 hf
      · have hf := (if_pos hc).symm.trans hf
        refine x_iconst (q := 809) C dL_law_808 ki_1 rfl ?_
        refine x_goto (t := 813) C dL_law_809 (by decide) ?_
        exact hJ813 1 hf
set_option maxHeartbeats 4000000 in
set_option maxRecDepth 100000 in
theorem w6_law_L22 {p : Program} {l : Launch} {e : Env} {s : State} {m : MethodId} {args : Array Value} {below : List Frame} {meth : Method} {c : Code} {D : va_G} {A : Nat → Prop} {y : Nat → ClassId} {bS : Nat} {aH : Nat} {aG aN aF aT : Nat → Nat} {Q : State → Prop} {bX LX : Nat} {xs : Nat → Int32} {G : St} {N' : St} {F' : St} {T' : St} {Y' : (Nat → Nat)} {S' : St} {K : St → St → St → (Nat → Nat) → St → Option (St × St × St × (Nat → Nat) × St)} (C : xC p s m args meth c D A cL_law RL 27 wsL_law (xT y) (some .boolean)) (hJ : xJ2 s) (hX : xS bX LX xs s A) {kX nX : Nat} (hm1 : kX ≤ 1092944) (hm2 : nX ≤ 5822636) (hK : ∀ (aS8 : Nat → Nat) (N9 : St) (F10 : St) (T11 : St) (Y12 : (Nat → Nat)) (S13 : St), K N9 F10 T11 Y12 S13 = some (N', F', T', Y', S') → xV p l e room_1 s m args below meth c D A Q 27 (hC aH aN aF aT aG ++ (gC y aG G ++ (nC y aN N9 ++ (nC y aF F10 ++ (tC y aT T11 ++ sC y bS aS8 Y12 S13))))) kX nX [(1, .ref aH), (2, .ref bS)] 1168 []) : ∀ (fu : Nat) (kk nn : Nat) (aS1 : Nat → Nat) (v2 : Int32) (N3 : St) (F4 : St) (T5 : St) (Y6 : (Nat → Nat)) (S7 : St), kk + 80 * fu ≤ kX → nn + 800 * fu ≤ nX → f6_law_L22 xs LX G K fu v2 N3 F4 T5 Y6 S7 = some (N', F', T', Y', S') → xV p l e room_1 s m args below meth c D A Q 27 (hC aH aN aF aT aG ++ (gC y aG G ++ (nC y aN N3 ++ (nC y aF F4 ++ (tC y aT T5 ++ sC y bS aS1 Y6 S7))))) kk nn [(0, .ref bX), (1, .ref aH), (2, .ref bS), (3, .int v2)] 22 [] := by
  intro fu
  induction fu with
  | zero => intro kk nn aS1 v2 N3 F4 T5 Y6 S7 hb1 hb2 hf; rw [f6_law_L22] at hf; cases hf
  | succ fu ih =>
    intro kk nn aS1 v2 N3 F4 T5 Y6 S7 hb1 hb2 hf
    rw [f6_law_L22] at hf
    refine x_iload_n (q := 23) C 3 dL_law_22 rfl rfl rfl ?_
    refine x_bipush (q := 25) C dL_law_23 kb_60 rfl ?_
    refine x_icmp_ge (t := 1168) (q := 28) C dL_law_25 (by decide) rfl (fun hc => ?_) (fun hc => ?_)
    · have hf := (if_pos hc).symm.trans hf
      refine x_sub [1, 2] (L' := [(1, .ref aH), (2, .ref bS)]) rfl ?_
      refine x_widen (k' := kX) (n' := nX) (by omega) (by omega) ?_
      exact hK aS1 N3 F4 T5 Y6 S7 hf
    · have hf := (if_neg hc).symm.trans hf
      refine x_aload_n (q := 29) C 0 dL_law_28 rfl rfl rfl ?_
      refine x_iload_n (q := 30) C 3 dL_law_29 rfl rfl rfl ?_
      refine x_bipush (q := 32) C dL_law_30 kb_16 rfl ?_
      refine x_irem (q := 33) C dL_law_32 (by decide) rfl ?_
      obtain ⟨v14, hcal15, hf⟩ := bd_some hf
      refine x_callXSi (q := 36) (Wc := []) C hJ hX (c6_cell (l := l) (D := D) (y := y) (b := bX) hcal15) yi_L_cell gL_law_L_cell ⟨(Nat.le_of_ble_eq_true rfl), (Nat.le_of_ble_eq_true rfl)⟩ dL_law_33 pm_emp rfl rfl (Nat.le_of_ble_eq_true rfl) ⟨by simp only [room_1]; omega, by simp only [room_1]; omega⟩ rfl ?_
      intro rr16 uu hrr
      have hrr : v14 = rr16 := Eq.symm hrr
      subst hrr
      refine x_world (ws' := hC aH aN aF aT aG ++ (gC y aG G ++ (nC y aN N3 ++ (nC y aF F4 ++ (tC y aT T5 ++ sC y bS aS1 Y6 S7))))) rfl ?_
      refine x_iload_n (q := 37) C 3 dL_law_36 rfl rfl rfl ?_
      refine x_bipush (q := 39) C dL_law_37 kb_16 rfl ?_
      refine x_idiv (q := 40) C dL_law_39 (by decide) rfl ?_
      refine x_iconst (q := 41) C dL_law_40 ki_3 rfl ?_
      refine x_imul (q := 42) C dL_law_41 rfl ?_
      refine x_ishr (q := 43) C dL_law_42 rfl ?_
      refine x_bipush (q := 45) C dL_law_43 kb_103 rfl ?_
      refine x_iload_n (q := 46) C 3 dL_law_45 rfl rfl rfl ?_
      refine x_imul (q := 47) C dL_law_46 rfl ?_
      refine x_iadd (q := 48) C dL_law_47 rfl ?_
      obtain ⟨v17, ev17, hf⟩ := lt_elim hf
      refine x_topi ev17 ?_
      refine x_istore (q := 50) C [1, 2, 3, 4, 0] [(0, .ref bX), (1, .ref aH), (2, .ref bS), (3, .int v2), (4, .int v17)] dL_law_48 (by decide) rfl rfl ?_
      refine x_iload_n (q := 51) C 3 dL_law_50 rfl rfl rfl ?_
      refine x_iconst (q := 52) C dL_law_51 ki_3 rfl ?_
      refine x_irem (q := 53) C dL_law_52 (by decide) rfl ?_
      obtain ⟨J68, eJ68, hf⟩ := lt_elim hf
      have hJ68 : ∀ (aS18 : Nat → Nat) (N19 : St) (T20 : St) (Y21 : (Nat → Nat)) (S22 : St), J68 N19 T20 Y21 S22 = some (N', F', T', Y', S') → xV p l e room_1 s m args below meth c D A Q 27 (hC aH aN aF aT aG ++ (gC y aG G ++ (nC y aN N19 ++ (nC y aF F4 ++ (tC y aT T20 ++ sC y bS aS18 Y21 S22))))) (kk + 1) (nn + 33) [(0, .ref bX), (1, .ref aH), (2, .ref bS), (3, .int v2), (4, .int v17)] 68 [] := by
        intro aS18 N19 T20 Y21 S22 hf
        subst eJ68
        refine x_iload_n (q := 69) C 3 dL_law_68 rfl rfl rfl ?_
        refine x_bipush (q := 71) C dL_law_69 kb_9 rfl ?_
        refine x_irem (q := 72) C dL_law_71 (by decide) rfl ?_
        refine x_bipush (q := 74) C dL_law_72 kb_8 rfl ?_
        obtain ⟨J103, eJ103, hf⟩ := lt_elim hf
        have hJ103 : ∀ (N23 : St) (S24 : St), J103 N23 S24 = some (N', F', T', Y', S') → xV p l e room_1 s m args below meth c D A Q 27 (hC aH aN aF aT aG ++ (gC y aG G ++ (nC y aN N23 ++ (nC y aF F4 ++ (tC y aT T20 ++ sC y bS aS18 Y21 S24))))) (kk + 1) (nn + 33) [(0, .ref bX), (1, .ref aH), (2, .ref bS), (3, .int v2), (4, .int v17)] 103 [] := by
          intro N23 S24 hf
          subst eJ103
          refine x_aload_n (q := 104) C 1 dL_law_103 rfl rfl rfl ?_
          refine x_iconst (q := 105) C dL_law_104 ki_4 rfl ?_
          obtain ⟨v25, hcal26, hf⟩ := br_some hf
          refine x_callVi (q := 108) C (c2_count (l := l) (D := D) (y := y) (aH := aH) (aG := aG) (aN := aN) (aF := aF) (aT := aT) hcal26) yi_X2_count gL_law_X2_count rfl ((oX2 aH aN aF aT aG).L) rfl ⟨(Nat.le_of_ble_eq_true rfl), (Nat.le_of_ble_eq_true rfl)⟩ dL_law_105 (pm6_01234 _ _ _ _ _ _) rfl rfl (Nat.le_of_ble_eq_true rfl) ⟨by simp only [room_1]; omega, by simp only [room_1]; omega⟩ rfl ?_
          intro rr27 uu hrr
          have hrr : v25 = rr27 := Eq.symm hrr
          subst hrr
          refine x_perm (ws' := hC aH aN aF aT aG ++ (gC y aG G ++ (nC y aN N23 ++ (nC y aF F4 ++ (tC y aT T20 ++ sC y bS aS18 Y21 S24))))) (pm6_01234 _ _ _ _ _ _).symm ?_
          refine x_istore (q := 110) C [1, 2, 3, 4, 5, 0] [(0, .ref bX), (1, .ref aH), (2, .ref bS), (3, .int v2), (4, .int v17), (5, .int v25)] dL_law_108 (by decide) rfl rfl ?_
          refine x_aload_n (q := 111) C 1 dL_law_110 rfl rfl rfl ?_
          refine x_bipush (q := 113) C dL_law_111 kb_7 rfl ?_
          obtain ⟨v28, hcal29, hf⟩ := br_some hf
          refine x_callVi (q := 116) C (c2_count (l := l) (D := D) (y := y) (aH := aH) (aG := aG) (aN := aN) (aF := aF) (aT := aT) hcal29) yi_X2_count gL_law_X2_count rfl ((oX2 aH aN aF aT aG).L) rfl ⟨(Nat.le_of_ble_eq_true rfl), (Nat.le_of_ble_eq_true rfl)⟩ dL_law_113 (pm6_01234 _ _ _ _ _ _) rfl rfl (Nat.le_of_ble_eq_true rfl) ⟨by simp only [room_1]; omega, by simp only [room_1]; omega⟩ rfl ?_
          intro rr30 uu hrr
          have hrr : v28 = rr30 := Eq.symm hrr
          subst hrr
          refine x_perm (ws' := hC aH aN aF aT aG ++ (gC y aG G ++ (nC y aN N23 ++ (nC y aF F4 ++ (tC y aT T20 ++ sC y bS aS18 Y21 S24))))) (pm6_01234 _ _ _ _ _ _).symm ?_
          refine x_istore (q := 118) C [1, 2, 3, 4, 5, 6, 0] [(0, .ref bX), (1, .ref aH), (2, .ref bS), (3, .int v2), (4, .int v17), (5, .int v25), (6, .int v28)] dL_law_116 (by decide) rfl rfl ?_
          refine x_iload (q := 120) C 5 dL_law_118 rfl rfl ?_
          refine x_bipush (q := 122) C dL_law_120 kb_9 rfl ?_
          obtain ⟨hm33, hf⟩ := gd_some hf
          have hm33 := of_decide_eq_true hm33
          refine x_mna (q := 126) C hJ (v25.toNatClampNeg) 9 dL_law_122 kmmL_law_116 knL_law rfl rfl hm33.1 (by decide) rfl (by decide) (by omega) (by decide) (by decide) (by simp only [room_1]; omega) (by simp only [room_1]; omega) rfl (fun q31 r32 => ?_)
          refine x_world (ws' := hC aH aN aF aT aG ++ (gC y aG G ++ (nC y aN N23 ++ (nC y aF F4 ++ (tC y aT T20 ++ (sC y bS aS18 Y21 S24 ++ ggC y q31 r32 (v25.toNatClampNeg) 9 W0)))))) ((ggasc _ _ _).trans (asr6 _ _ _ _ _ _ _).symm) ?_
          refine x_widen (k' := kk + 34) (n' := nn + 353) (by omega) (by omega) ?_
          refine x_astore (q := 128) C [1, 2, 3, 4, 5, 6, 7, 0] [(0, .ref bX), (1, .ref aH), (2, .ref bS), (3, .int v2), (4, .int v17), (5, .int v25), (6, .int v28), (7, .ref q31)] dL_law_126 (by decide) rfl rfl ?_
          refine x_iconst (q := 129) C dL_law_128 ki_0 rfl ?_
          refine x_istore (q := 131) C [1, 2, 3, 4, 5, 6, 7, 8, 0] [(0, .ref bX), (1, .ref aH), (2, .ref bS), (3, .int v2), (4, .int v17), (5, .int v25), (6, .int v28), (7, .ref q31), (8, .int 0)] dL_law_129 (by decide) rfl rfl ?_
          refine w6_law_L131 C hJ hX (by omega) (by omega) (fun W36 hf => ?_) xF 0 W0 hf
          refine x_iload (q := 178) C 6 dL_law_176 rfl rfl ?_
          refine x_bipush (q := 180) C dL_law_178 kb_7 rfl ?_
          obtain ⟨hm48, hf⟩ := gd_some hf
          have hm48 := of_decide_eq_true hm48
          refine x_mna (q := 184) C hJ (v28.toNatClampNeg) 7 dL_law_180 kmmL_law_116 knL_law rfl rfl hm48.1 (by decide) rfl (by decide) (by omega) (by decide) (by decide) (by simp only [room_1]; omega) (by simp only [room_1]; omega) rfl (fun q46 r47 => ?_)
          refine x_world (ws' := hC aH aN aF aT aG ++ (gC y aG G ++ (nC y aN N23 ++ (nC y aF F4 ++ (tC y aT T20 ++ (sC y bS aS18 Y21 S24 ++ (ggC y q31 r32 (v25.toNatClampNeg) 9 W36 ++ ggC y q46 r47 (v28.toNatClampNeg) 7 W0))))))) ((ggasc _ _ _).trans (asr7 _ _ _ _ _ _ _ _).symm) ?_
          refine x_widen (k' := kk + 67) (n' := nn + 609) (by omega) (by omega) ?_
          refine x_astore (q := 186) C [1, 2, 3, 4, 5, 6, 7, 8, 0] [(0, .ref bX), (1, .ref aH), (2, .ref bS), (3, .int v2), (4, .int v17), (5, .int v25), (6, .int v28), (7, .ref q31), (8, .ref q46)] dL_law_184 (by decide) rfl rfl ?_
          refine x_aload_n (q := 187) C 1 dL_law_186 rfl rfl rfl ?_
          refine x_bipush (q := 189) C dL_law_187 kb_8 rfl ?_
          obtain ⟨v49, hcal50, hf⟩ := br_some hf
          refine x_callVi (q := 192) C (c2_count (l := l) (D := D) (y := y) (aH := aH) (aG := aG) (aN := aN) (aF := aF) (aT := aT) hcal50) yi_X2_count gL_law_X2_count rfl ((oX2 aH aN aF aT aG).L) rfl ⟨(Nat.le_of_ble_eq_true rfl), (Nat.le_of_ble_eq_true rfl)⟩ dL_law_189 (pm8_01234 _ _ _ _ _ _ _ _) rfl rfl (Nat.le_of_ble_eq_true rfl) ⟨by simp only [room_1]; omega, by simp only [room_1]; omega⟩ rfl ?_
          intro rr51 uu hrr
          have hrr : v49 = rr51 := Eq.symm hrr
          subst hrr
          refine x_perm (ws' := hC aH aN aF aT aG ++ (gC y aG G ++ (nC y aN N23 ++ (nC y aF F4 ++ (tC y aT T20 ++ (sC y bS aS18 Y21 S24 ++ (ggC y q31 r32 (v25.toNatClampNeg) 9 W36 ++ ggC y q46 r47 (v28.toNatClampNeg) 7 W0))))))) (pm8_01234 _ _ _ _ _ _ _ _).symm ?_
          refine x_aload_n (q := 193) C 1 dL_law_192 rfl rfl rfl ?_
          refine x_bipush (q := 195) C dL_law_193 kb_9 rfl ?_
          obtain ⟨v52, hcal53, hf⟩ := br_some hf
          refine x_callVi (q := 198) C (c2_count (l := l) (D := D) (y := y) (aH := aH) (aG := aG) (aN := aN) (aF := aF) (aT := aT) hcal53) yi_X2_count gL_law_X2_count rfl ((oX2 aH aN aF aT aG).L) rfl ⟨(Nat.le_of_ble_eq_true rfl), (Nat.le_of_ble_eq_true rfl)⟩ dL_law_195 (pm8_01234 _ _ _ _ _ _ _ _) rfl rfl (Nat.le_of_ble_eq_true rfl) ⟨by simp only [room_1]; omega, by simp only [room_1]; omega⟩ rfl ?_
          intro rr54 uu hrr
          have hrr : v52 = rr54 := Eq.symm hrr
          subst hrr
          refine x_perm (ws' := hC aH aN aF aT aG ++ (gC y aG G ++ (nC y aN N23 ++ (nC y aF F4 ++ (tC y aT T20 ++ (sC y bS aS18 Y21 S24 ++ (ggC y q31 r32 (v25.toNatClampNeg) 9 W36 ++ ggC y q46 r47 (v28.toNatClampNeg) 7 W0))))))) (pm8_01234 _ _ _ _ _ _ _ _).symm ?_
          refine x_iadd (q := 199) C dL_law_198 rfl ?_
          obtain ⟨v55, ev55, hf⟩ := lt_elim hf
          refine x_topi ev55 ?_
          refine x_istore (q := 201) C [1, 2, 3, 4, 5, 6, 7, 8, 9, 0] [(0, .ref bX), (1, .ref aH), (2, .ref bS), (3, .int v2), (4, .int v17), (5, .int v25), (6, .int v28), (7, .ref q31), (8, .ref q46), (9, .int v55)] dL_law_199 (by decide) rfl rfl ?_
          refine x_iconst (q := 202) C dL_law_201 ki_0 rfl ?_
          refine x_istore (q := 204) C [1, 2, 3, 4, 5, 6, 7, 8, 9, 10, 0] [(0, .ref bX), (1, .ref aH), (2, .ref bS), (3, .int v2), (4, .int v17), (5, .int v25), (6, .int v28), (7, .ref q31), (8, .ref q46), (9, .int v55), (10, .int 0)] dL_law_202 (by decide) rfl rfl ?_
          refine w6_law_L204 C hJ hX (by omega) (by omega) (fun v59 W60 hf => ?_) xF v55 0 W0 hf
          refine x_aload_n (q := 262) C 1 dL_law_261 rfl rfl rfl ?_
          refine x_iconst (q := 263) C dL_law_262 ki_0 rfl ?_
          obtain ⟨v73, hcal74, hf⟩ := br_some hf
          refine x_callVi (q := 266) C (c2_count (l := l) (D := D) (y := y) (aH := aH) (aG := aG) (aN := aN) (aF := aF) (aT := aT) hcal74) yi_X2_count gL_law_X2_count rfl ((oX2 aH aN aF aT aG).L) rfl ⟨(Nat.le_of_ble_eq_true rfl), (Nat.le_of_ble_eq_true rfl)⟩ dL_law_263 (pm8_01234 _ _ _ _ _ _ _ _) rfl rfl (Nat.le_of_ble_eq_true rfl) ⟨by simp only [room_1]; omega, by simp only [room_1]; omega⟩ rfl ?_
          intro rr75 uu hrr
          have hrr : v73 = rr75 := Eq.symm hrr
          subst hrr
          refine x_perm (ws' := hC aH aN aF aT aG ++ (gC y aG G ++ (nC y aN N23 ++ (nC y aF F4 ++ (tC y aT T20 ++ (sC y bS aS18 Y21 S24 ++ (ggC y q31 r32 (v25.toNatClampNeg) 9 W36 ++ ggC y q46 r47 (v28.toNatClampNeg) 7 W60))))))) (pm8_01234 _ _ _ _ _ _ _ _).symm ?_
          refine x_istore (q := 268) C [1, 2, 3, 4, 5, 6, 7, 8, 9, 10, 0] [(0, .ref bX), (1, .ref aH), (2, .ref bS), (3, .int v2), (4, .int v17), (5, .int v25), (6, .int v28), (7, .ref q31), (8, .ref q46), (9, .int v59), (10, .int v73)] dL_law_266 (by decide) rfl rfl ?_
          refine x_iload (q := 270) C 4 dL_law_268 rfl rfl ?_
          refine x_iconst (q := 271) C dL_law_270 ki_2 rfl ?_
          refine x_ishr (q := 272) C dL_law_271 rfl ?_
          refine x_iload (q := 274) C 5 dL_law_272 rfl rfl ?_
          obtain ⟨v76, hcal77, hf⟩ := bd_some hf
          refine x_callSi (q := 277) (Wc := []) C (c6_below (l := l) (D := D) (y := y) hcal77) yi_L_below gL_law_L_below ⟨(Nat.le_of_ble_eq_true rfl), (Nat.le_of_ble_eq_true rfl)⟩ dL_law_274 pm_emp rfl rfl (Nat.le_of_ble_eq_true rfl) ⟨by simp only [room_1]; omega, by simp only [room_1]; omega⟩ rfl ?_
          intro rr78 uu hrr
          have hrr : v76 = rr78 := Eq.symm hrr
          subst hrr
          refine x_world (ws' := hC aH aN aF aT aG ++ (gC y aG G ++ (nC y aN N23 ++ (nC y aF F4 ++ (tC y aT T20 ++ (sC y bS aS18 Y21 S24 ++ (ggC y q31 r32 (v25.toNatClampNeg) 9 W36 ++ ggC y q46 r47 (v28.toNatClampNeg) 7 W60))))))) rfl ?_
          refine x_istore (q := 279) C [1, 2, 3, 4, 6, 7, 8, 9, 10, 11, 0] [(0, .ref bX), (1, .ref aH), (2, .ref bS), (3, .int v2), (5, .int v25), (6, .int v28), (7, .ref q31), (8, .ref q46), (9, .int v59), (10, .int v73), (11, .int v76)] dL_law_277 (by decide) rfl rfl ?_
          refine x_aload_n (q := 280) C 1 dL_law_279 rfl rfl rfl ?_
          refine x_iload (q := 282) C 10 dL_law_280 rfl rfl ?_
          obtain ⟨v79, F80, hcal81, hf⟩ := br2_some hf
          refine x_callVi (q := 285) C (c2_comes (l := l) (D := D) (y := y) (aH := aH) (aG := aG) (aN := aN) (aF := aF) (aT := aT) hcal81) yi_X2_comes gL_law_X2_comes rfl ((oX2 aH aN aF aT aG).L) rfl ⟨(Nat.le_of_ble_eq_true rfl), (Nat.le_of_ble_eq_true rfl)⟩ dL_law_282 (pm8_01234 _ _ _ _ _ _ _ _) rfl rfl (Nat.le_of_ble_eq_true rfl) ⟨by simp only [room_1]; omega, by simp only [room_1]; omega⟩ rfl ?_
          intro rr82 uu hrr
          have hrr : v79 = rr82 := Eq.symm hrr
          subst hrr
          refine x_perm (ws' := hC aH aN aF aT aG ++ (gC y aG G ++ (nC y aN N23 ++ (nC y aF F80 ++ (tC y aT T20 ++ (sC y bS aS18 Y21 S24 ++ (ggC y q31 r32 (v25.toNatClampNeg) 9 W36 ++ ggC y q46 r47 (v28.toNatClampNeg) 7 W60))))))) (pm8_01234 _ _ _ _ _ _ _ _).symm ?_
          refine x_istore (q := 287) C [1, 2, 3, 4, 5, 6, 7, 8, 9, 10, 11, 0] [(0, .ref bX), (1, .ref aH), (2, .ref bS), (3, .int v2), (5, .int v25), (6, .int v28), (7, .ref q31), (8, .ref q46), (9, .int v59), (10, .int v73), (11, .int v76), (12, .int v79)] dL_law_285 (by decide) rfl rfl ?_
          refine x_aload_n (q := 288) C 1 dL_law_287 rfl rfl rfl ?_
          refine x_iconst (q := 289) C dL_law_288 ki_1 rfl ?_
          refine x_iconst (q := 290) C dL_law_289 ki_0 rfl ?_
          obtain ⟨v83, F84, hcal85, hf⟩ := br2_some hf
          refine x_callVi (q := 293) C (c2_foresee (l := l) (D := D) (y := y) (aH := aH) (aG := aG) (aN := aN) (aF := aF) (aT := aT) hcal85) yi_X2_foresee gL_law_X2_foresee rfl ((oX2 aH aN aF aT aG).L) rfl ⟨(Nat.le_of_ble_eq_true rfl), (Nat.le_of_ble_eq_true rfl)⟩ dL_law_290 (pm8_01234 _ _ _ _ _ _ _ _) rfl rfl (Nat.le_of_ble_eq_true rfl) ⟨by simp only [room_1]; omega, by simp only [room_1]; omega⟩ rfl ?_
          intro rr86 uu hrr
          have hrr : v83 = rr86 := Eq.symm hrr
          subst hrr
          refine x_perm (ws' := hC aH aN aF aT aG ++ (gC y aG G ++ (nC y aN N23 ++ (nC y aF F84 ++ (tC y aT T20 ++ (sC y bS aS18 Y21 S24 ++ (ggC y q31 r32 (v25.toNatClampNeg) 9 W36 ++ ggC y q46 r47 (v28.toNatClampNeg) 7 W60))))))) (pm8_01234 _ _ _ _ _ _ _ _).symm ?_
          refine x_istore (q := 295) C [1, 2, 3, 4, 5, 6, 7, 8, 9, 10, 11, 12, 0] [(0, .ref bX), (1, .ref aH), (2, .ref bS), (3, .int v2), (5, .int v25), (6, .int v28), (7, .ref q31), (8, .ref q46), (9, .int v59), (10, .int v73), (11, .int v76), (12, .int v79), (13, .int v83)] dL_law_293 (by decide) rfl rfl ?_
          refine x_aload_n (q := 296) C 1 dL_law_295 rfl rfl rfl ?_
          refine x_iconst (q := 297) C dL_law_296 ki_1 rfl ?_
          refine x_iconst (q := 298) C dL_law_297 ki_2 rfl ?_
          obtain ⟨v87, F88, hcal89, hf⟩ := br2_some hf
          refine x_callVi (q := 301) C (c2_foresee (l := l) (D := D) (y := y) (aH := aH) (aG := aG) (aN := aN) (aF := aF) (aT := aT) hcal89) yi_X2_foresee gL_law_X2_foresee rfl ((oX2 aH aN aF aT aG).L) rfl ⟨(Nat.le_of_ble_eq_true rfl), (Nat.le_of_ble_eq_true rfl)⟩ dL_law_298 (pm8_01234 _ _ _ _ _ _ _ _) rfl rfl (Nat.le_of_ble_eq_true rfl) ⟨by simp only [room_1]; omega, by simp only [room_1]; omega⟩ rfl ?_
          intro rr90 uu hrr
          have hrr : v87 = rr90 := Eq.symm hrr
          subst hrr
          refine x_perm (ws' := hC aH aN aF aT aG ++ (gC y aG G ++ (nC y aN N23 ++ (nC y aF F88 ++ (tC y aT T20 ++ (sC y bS aS18 Y21 S24 ++ (ggC y q31 r32 (v25.toNatClampNeg) 9 W36 ++ ggC y q46 r47 (v28.toNatClampNeg) 7 W60))))))) (pm8_01234 _ _ _ _ _ _ _ _).symm ?_
          refine x_istore (q := 303) C [1, 2, 3, 4, 5, 6, 7, 8, 9, 10, 11, 12, 13, 0] [(0, .ref bX), (1, .ref aH), (2, .ref bS), (3, .int v2), (5, .int v25), (6, .int v28), (7, .ref q31), (8, .ref q46), (9, .int v59), (10, .int v73), (11, .int v76), (12, .int v79), (13, .int v83), (14, .int v87)] dL_law_301 (by decide) rfl rfl ?_
          refine x_aload_n (q := 304) C 1 dL_law_303 rfl rfl rfl ?_
          refine x_bipush (q := 306) C dL_law_304 kb_9 rfl ?_
          obtain ⟨v91, hcal92, hf⟩ := br_some hf
          refine x_callVi (q := 309) C (c2_count (l := l) (D := D) (y := y) (aH := aH) (aG := aG) (aN := aN) (aF := aF) (aT := aT) hcal92) yi_X2_count gL_law_X2_count rfl ((oX2 aH aN aF aT aG).L) rfl ⟨(Nat.le_of_ble_eq_true rfl), (Nat.le_of_ble_eq_true rfl)⟩ dL_law_306 (pm8_01234 _ _ _ _ _ _ _ _) rfl rfl (Nat.le_of_ble_eq_true rfl) ⟨by simp only [room_1]; omega, by simp only [room_1]; omega⟩ rfl ?_
          intro rr93 uu hrr
          have hrr : v91 = rr93 := Eq.symm hrr
          subst hrr
          refine x_perm (ws' := hC aH aN aF aT aG ++ (gC y aG G ++ (nC y aN N23 ++ (nC y aF F88 ++ (tC y aT T20 ++ (sC y bS aS18 Y21 S24 ++ (ggC y q31 r32 (v25.toNatClampNeg) 9 W36 ++ ggC y q46 r47 (v28.toNatClampNeg) 7 W60))))))) (pm8_01234 _ _ _ _ _ _ _ _).symm ?_
          refine x_istore (q := 311) C [1, 2, 3, 4, 5, 6, 7, 8, 9, 10, 11, 12, 13, 14, 0] [(0, .ref bX), (1, .ref aH), (2, .ref bS), (3, .int v2), (5, .int v25), (6, .int v28), (7, .ref q31), (8, .ref q46), (9, .int v59), (10, .int v73), (11, .int v76), (12, .int v79), (13, .int v83), (14, .int v87), (15, .int v91)] dL_law_309 (by decide) rfl rfl ?_
          refine x_aload_n (q := 312) C 1 dL_law_311 rfl rfl rfl ?_
          refine x_iconst (q := 313) C dL_law_312 ki_1 rfl ?_
          obtain ⟨v94, N95, hcal96, hf⟩ := br2_some hf
          refine x_callVi (q := 316) C (c2_pass (l := l) (D := D) (y := y) (aH := aH) (aG := aG) (aN := aN) (aF := aF) (aT := aT) hcal96) yi_X2_pass gL_law_X2_pass rfl ((oX2 aH aN aF aT aG).L) rfl ⟨(Nat.le_of_ble_eq_true rfl), (Nat.le_of_ble_eq_true rfl)⟩ dL_law_313 (pm8_01234 _ _ _ _ _ _ _ _) rfl rfl (Nat.le_of_ble_eq_true rfl) ⟨by simp only [room_1]; omega, by simp only [room_1]; omega⟩ rfl ?_
          intro rr97 uu hrr
          have hrr : v94 = rr97 := Eq.symm hrr
          subst hrr
          refine x_perm (ws' := hC aH aN aF aT aG ++ (gC y aG G ++ (nC y aN N95 ++ (nC y aF F88 ++ (tC y aT T20 ++ (sC y bS aS18 Y21 S24 ++ (ggC y q31 r32 (v25.toNatClampNeg) 9 W36 ++ ggC y q46 r47 (v28.toNatClampNeg) 7 W60))))))) (pm8_01234 _ _ _ _ _ _ _ _).symm ?_
          refine x_istore (q := 318) C [1, 2, 3, 4, 5, 6, 7, 8, 9, 10, 11, 12, 13, 14, 15, 0] [(0, .ref bX), (1, .ref aH), (2, .ref bS), (3, .int v2), (5, .int v25), (6, .int v28), (7, .ref q31), (8, .ref q46), (9, .int v59), (10, .int v73), (11, .int v76), (12, .int v79), (13, .int v83), (14, .int v87), (15, .int v91), (16, .int v94)] dL_law_316 (by decide) rfl rfl ?_
          refine x_aload_n (q := 319) C 2 dL_law_318 rfl rfl rfl ?_
          refine x_iconst (q := 320) C dL_law_319 ki_1 rfl ?_
          obtain ⟨S98, hcal99, hf⟩ := bd_some hf
          refine x_callVv (q := 323) C (c5_pass_ (l := l) (D := D) (y := y) (bS := bS) (aS := aS18) hcal99) yi_X3_pass_ gL_law_X3_pass_ rfl (oX3 y bS aS18 Y21 S24) rfl ⟨(Nat.le_of_ble_eq_true rfl), (Nat.le_of_ble_eq_true rfl)⟩ dL_law_320 (pm8_5 _ _ _ _ _ _ _ _) rfl rfl (Nat.le_of_ble_eq_true rfl) ⟨by simp only [room_1]; omega, by simp only [room_1]; omega⟩ rfl ?_
          intro uu hrr
          refine x_perm (ws' := hC aH aN aF aT aG ++ (gC y aG G ++ (nC y aN N95 ++ (nC y aF F88 ++ (tC y aT T20 ++ (sC y bS aS18 Y21 S98 ++ (ggC y q31 r32 (v25.toNatClampNeg) 9 W36 ++ ggC y q46 r47 (v28.toNatClampNeg) 7 W60))))))) (pm8_5 _ _ _ _ _ _ _ _).symm ?_
          refine x_iload (q := 325) C 9 dL_law_323 rfl rfl ?_
          refine x_sipush (q := 328) C dL_law_325 ks_600 rfl ?_
          obtain ⟨J1162, eJ1162, hf⟩ := lt_elim hf
          have hJ1162 : ∀ (F100 : St), J1162 F100 = some (N', F', T', Y', S') → xV p l e room_1 s m args below meth c D A Q 27 (hC aH aN aF aT aG ++ (gC y aG G ++ (nC y aN N95 ++ (nC y aF F100 ++ (tC y aT T20 ++ (sC y bS aS18 Y21 S98 ++ (ggC y q31 r32 (v25.toNatClampNeg) 9 W36 ++ ggC y q46 r47 (v28.toNatClampNeg) 7 W60))))))) (kk + 67) (nn + 609) [(0, .ref bX), (1, .ref aH), (2, .ref bS), (3, .int v2)] 1162 [] := by
            intro F100 hf
            subst eJ1162
            refine x_iinc (q := 1165) C 3 (v2 + 1) [1, 2, 3, 0] [(0, .ref bX), (1, .ref aH), (2, .ref bS), (3, .int (v2 + 1))] dL_law_1162 rfl (congrArg (fun z => v2 + z) ki_1) (by decide) rfl rfl ?_
            refine x_goto (t := 22) C dL_law_1165 (by decide) ?_
            refine x_world (ws' := (hC aH aN aF aT aG ++ (gC y aG G ++ (nC y aN N95 ++ (nC y aF F100 ++ (tC y aT T20 ++ (sC y bS aS18 Y21 S98 ++ ggC y q31 r32 (v25.toNatClampNeg) 9 W36)))))) ++ ggC y q46 r47 (v28.toNatClampNeg) 7 W60) (asr7 _ _ _ _ _ _ _ _) ?_
            refine x_drop ?_
            refine x_world (ws' := (hC aH aN aF aT aG ++ (gC y aG G ++ (nC y aN N95 ++ (nC y aF F100 ++ (tC y aT T20 ++ sC y bS aS18 Y21 S98))))) ++ ggC y q31 r32 (v25.toNatClampNeg) 9 W36) (asr6 _ _ _ _ _ _ _) ?_
            refine x_drop ?_
            exact ih (kk + 67) (nn + 609) aS18 (v2 + 1) N95 F100 T20 Y21 S98 (by omega) (by omega) hf
          refine x_icmp_ne (t := 355) (q := 331) C dL_law_328 (by decide) rfl (fun hc => ?_) (fun hc => ?_)
          · have hf := (if_neg hc).symm.trans hf
            refine x_aload_n (q := 356) C 1 dL_law_355 rfl rfl rfl ?_
            refine x_iconst (q := 357) C dL_law_356 ki_0 rfl ?_
            obtain ⟨v101, hcal102, hf⟩ := br_some hf
            refine x_callVi (q := 360) C (c2_count (l := l) (D := D) (y := y) (aH := aH) (aG := aG) (aN := aN) (aF := aF) (aT := aT) hcal102) yi_X2_count gL_law_X2_count rfl ((oX2 aH aN aF aT aG).L) rfl ⟨(Nat.le_of_ble_eq_true rfl), (Nat.le_of_ble_eq_true rfl)⟩ dL_law_357 (pm8_01234 _ _ _ _ _ _ _ _) rfl rfl (Nat.le_of_ble_eq_true rfl) ⟨by simp only [room_1]; omega, by simp only [room_1]; omega⟩ rfl ?_
            intro rr103 uu hrr
            have hrr : v101 = rr103 := Eq.symm hrr
            subst hrr
            refine x_perm (ws' := hC aH aN aF aT aG ++ (gC y aG G ++ (nC y aN N95 ++ (nC y aF F88 ++ (tC y aT T20 ++ (sC y bS aS18 Y21 S98 ++ (ggC y q31 r32 (v25.toNatClampNeg) 9 W36 ++ ggC y q46 r47 (v28.toNatClampNeg) 7 W60))))))) (pm8_01234 _ _ _ _ _ _ _ _).symm ?_
            refine x_iload (q := 362) C 9 dL_law_360 rfl rfl ?_
            refine x_iconst (q := 363) C dL_law_362 ki_1 rfl ?_
            refine x_iadd (q := 364) C dL_law_363 rfl ?_
            refine x_icmp_ne (t := 410) (q := 367) C dL_law_364 (by decide) rfl (fun hc => ?_) (fun hc => ?_)
            · have hf := (if_neg hc).symm.trans hf
              refine x_iconst (q := 411) C dL_law_410 ki_0 rfl ?_
              cases hf
            · have hf := (if_pos hc).symm.trans hf
              refine x_aload_n (q := 368) C 1 dL_law_367 rfl rfl rfl ?_
              refine x_iconst (q := 369) C dL_law_368 ki_5 rfl ?_
              obtain ⟨v104, hcal105, hf⟩ := br_some hf
              refine x_callVi (q := 372) C (c2_count (l := l) (D := D) (y := y) (aH := aH) (aG := aG) (aN := aN) (aF := aF) (aT := aT) hcal105) yi_X2_count gL_law_X2_count rfl ((oX2 aH aN aF aT aG).L) rfl ⟨(Nat.le_of_ble_eq_true rfl), (Nat.le_of_ble_eq_true rfl)⟩ dL_law_369 (pm8_01234 _ _ _ _ _ _ _ _) rfl rfl (Nat.le_of_ble_eq_true rfl) ⟨by simp only [room_1]; omega, by simp only [room_1]; omega⟩ rfl ?_
              intro rr106 uu hrr
              have hrr : v104 = rr106 := Eq.symm hrr
              subst hrr
              refine x_perm (ws' := hC aH aN aF aT aG ++ (gC y aG G ++ (nC y aN N95 ++ (nC y aF F88 ++ (tC y aT T20 ++ (sC y bS aS18 Y21 S98 ++ (ggC y q31 r32 (v25.toNatClampNeg) 9 W36 ++ ggC y q46 r47 (v28.toNatClampNeg) 7 W60))))))) (pm8_01234 _ _ _ _ _ _ _ _).symm ?_
              refine x_iload (q := 374) C 12 dL_law_372 rfl rfl ?_
              refine x_icmp_ne (t := 410) (q := 377) C dL_law_374 (by decide) rfl (fun hc => ?_) (fun hc => ?_)
              · have hf := (if_neg hc).symm.trans hf
                refine x_iconst (q := 411) C dL_law_410 ki_0 rfl ?_
                cases hf
              · have hf := (if_pos hc).symm.trans hf
                refine x_aload_n (q := 378) C 1 dL_law_377 rfl rfl rfl ?_
                refine x_bipush (q := 380) C dL_law_378 kb_9 rfl ?_
                obtain ⟨v107, hcal108, hf⟩ := br_some hf
                refine x_callVi (q := 383) C (c2_count (l := l) (D := D) (y := y) (aH := aH) (aG := aG) (aN := aN) (aF := aF) (aT := aT) hcal108) yi_X2_count gL_law_X2_count rfl ((oX2 aH aN aF aT aG).L) rfl ⟨(Nat.le_of_ble_eq_true rfl), (Nat.le_of_ble_eq_true rfl)⟩ dL_law_380 (pm8_01234 _ _ _ _ _ _ _ _) rfl rfl (Nat.le_of_ble_eq_true rfl) ⟨by simp only [room_1]; omega, by simp only [room_1]; omega⟩ rfl ?_
                intro rr109 uu hrr
                have hrr : v107 = rr109 := Eq.symm hrr
                subst hrr
                refine x_perm (ws' := hC aH aN aF aT aG ++ (gC y aG G ++ (nC y aN N95 ++ (nC y aF F88 ++ (tC y aT T20 ++ (sC y bS aS18 Y21 S98 ++ (ggC y q31 r32 (v25.toNatClampNeg) 9 W36 ++ ggC y q46 r47 (v28.toNatClampNeg) 7 W60))))))) (pm8_01234 _ _ _ _ _ _ _ _).symm ?_
                refine x_iload (q := 385) C 14 dL_law_383 rfl rfl ?_
                refine x_iload (q := 387) C 13 dL_law_385 rfl rfl ?_
                refine x_iadd (q := 388) C dL_law_387 rfl ?_
                refine x_icmp_ne (t := 410) (q := 391) C dL_law_388 (by decide) rfl (fun hc => ?_) (fun hc => ?_)
                · have hf := (if_neg hc).symm.trans hf
                  refine x_iconst (q := 411) C dL_law_410 ki_0 rfl ?_
                  cases hf
                · have hf := (if_pos hc).symm.trans hf
                  refine x_iload (q := 393) C 11 dL_law_391 rfl rfl ?_
                  refine x_iconst (q := 394) C dL_law_393 ki_1 rfl ?_
                  obtain ⟨J412, eJ412, hf⟩ := lt_elim hf
                  have hJ412 : ∀ (F110 : St), J412 F110 = some (N', F', T', Y', S') → xV p l e room_1 s m args below meth c D A Q 27 (hC aH aN aF aT aG ++ (gC y aG G ++ (nC y aN N95 ++ (nC y aF F110 ++ (tC y aT T20 ++ (sC y bS aS18 Y21 S98 ++ (ggC y q31 r32 (v25.toNatClampNeg) 9 W36 ++ ggC y q46 r47 (v28.toNatClampNeg) 7 W60))))))) (kk + 67) (nn + 609) [(0, .ref bX), (1, .ref aH), (2, .ref bS), (3, .int v2), (5, .int v25), (6, .int v28), (7, .ref q31), (8, .ref q46), (9, .int v59), (10, .int v73), (16, .int v94)] 412 [] := by
                    intro F110 hf
                    subst eJ412
                    refine x_aload_n (q := 413) C 1 dL_law_412 rfl rfl rfl ?_
                    refine x_bipush (q := 415) C dL_law_413 kb_8 rfl ?_
                    obtain ⟨v111, hcal112, hf⟩ := br_some hf
                    refine x_callVi (q := 418) C (c2_count (l := l) (D := D) (y := y) (aH := aH) (aG := aG) (aN := aN) (aF := aF) (aT := aT) hcal112) yi_X2_count gL_law_X2_count rfl ((oX2 aH aN aF aT aG).L) rfl ⟨(Nat.le_of_ble_eq_true rfl), (Nat.le_of_ble_eq_true rfl)⟩ dL_law_415 (pm8_01234 _ _ _ _ _ _ _ _) rfl rfl (Nat.le_of_ble_eq_true rfl) ⟨by simp only [room_1]; omega, by simp only [room_1]; omega⟩ rfl ?_
                    intro rr113 uu hrr
                    have hrr : v111 = rr113 := Eq.symm hrr
                    subst hrr
                    refine x_perm (ws' := hC aH aN aF aT aG ++ (gC y aG G ++ (nC y aN N95 ++ (nC y aF F110 ++ (tC y aT T20 ++ (sC y bS aS18 Y21 S98 ++ (ggC y q31 r32 (v25.toNatClampNeg) 9 W36 ++ ggC y q46 r47 (v28.toNatClampNeg) 7 W60))))))) (pm8_01234 _ _ _ _ _ _ _ _).symm ?_
                    refine x_aload_n (q := 419) C 1 dL_law_418 rfl rfl rfl ?_
                    refine x_bipush (q := 421) C dL_law_419 kb_9 rfl ?_
                    obtain ⟨v114, hcal115, hf⟩ := br_some hf
                    refine x_callVi (q := 424) C (c2_count (l := l) (D := D) (y := y) (aH := aH) (aG := aG) (aN := aN) (aF := aF) (aT := aT) hcal115) yi_X2_count gL_law_X2_count rfl ((oX2 aH aN aF aT aG).L) rfl ⟨(Nat.le_of_ble_eq_true rfl), (Nat.le_of_ble_eq_true rfl)⟩ dL_law_421 (pm8_01234 _ _ _ _ _ _ _ _) rfl rfl (Nat.le_of_ble_eq_true rfl) ⟨by simp only [room_1]; omega, by simp only [room_1]; omega⟩ rfl ?_
                    intro rr116 uu hrr
                    have hrr : v114 = rr116 := Eq.symm hrr
                    subst hrr
                    refine x_perm (ws' := hC aH aN aF aT aG ++ (gC y aG G ++ (nC y aN N95 ++ (nC y aF F110 ++ (tC y aT T20 ++ (sC y bS aS18 Y21 S98 ++ (ggC y q31 r32 (v25.toNatClampNeg) 9 W36 ++ ggC y q46 r47 (v28.toNatClampNeg) 7 W60))))))) (pm8_01234 _ _ _ _ _ _ _ _).symm ?_
                    refine x_iadd (q := 425) C dL_law_424 rfl ?_
                    obtain ⟨v117, ev117, hf⟩ := lt_elim hf
                    refine x_topi ev117 ?_
                    refine x_istore (q := 427) C [1, 2, 3, 4, 5, 6, 7, 8, 9, 10, 11, 0] [(0, .ref bX), (1, .ref aH), (2, .ref bS), (3, .int v2), (5, .int v25), (6, .int v28), (7, .ref q31), (8, .ref q46), (9, .int v59), (10, .int v73), (16, .int v94), (17, .int v117)] dL_law_425 (by decide) rfl rfl ?_
                    refine x_iconst (q := 428) C dL_law_427 ki_0 rfl ?_
                    refine x_istore (q := 430) C [1, 2, 3, 4, 5, 6, 7, 8, 9, 10, 11, 12, 0] [(0, .ref bX), (1, .ref aH), (2, .ref bS), (3, .int v2), (5, .int v25), (6, .int v28), (7, .ref q31), (8, .ref q46), (9, .int v59), (10, .int v73), (16, .int v94), (17, .int v117), (18, .int 0)] dL_law_428 (by decide) rfl rfl ?_
                    refine x_iconst (q := 431) C dL_law_430 ki_0 rfl ?_
                    refine x_istore (q := 433) C [1, 2, 3, 4, 5, 6, 7, 8, 9, 10, 11, 12, 13, 0] [(0, .ref bX), (1, .ref aH), (2, .ref bS), (3, .int v2), (5, .int v25), (6, .int v28), (7, .ref q31), (8, .ref q46), (9, .int v59), (10, .int v73), (16, .int v94), (17, .int v117), (18, .int 0), (19, .int 0)] dL_law_431 (by decide) rfl rfl ?_
                    refine w6_law_L433 C hJ hX (by omega) (by omega) (fun v121 v122 hf => ?_) xF v117 0 0 hf
                    refine x_iload (q := 767) C 9 dL_law_765 rfl rfl ?_
                    refine x_iload (q := 769) C 6 dL_law_767 rfl rfl ?_
                    refine x_icmp_ne (t := 779) (q := 772) C dL_law_769 (by decide) rfl (fun hc => ?_) (fun hc => ?_)
                    · have hf := (if_neg hc).symm.trans hf
                      refine x_iconst (q := 780) C dL_law_779 ki_0 rfl ?_
                      cases hf
                    · have hf := (if_pos hc).symm.trans hf
                      refine x_iload (q := 774) C 10 dL_law_772 rfl rfl ?_
                      refine x_iload (q := 776) C 8 dL_law_774 rfl rfl ?_
                      refine x_icmp_eq (t := 781) (q := 779) C dL_law_776 (by decide) rfl (fun hc => ?_) (fun hc => ?_)
                      · have hf := (if_pos hc).symm.trans hf
                        refine x_iconst (q := 782) C dL_law_781 ki_0 rfl ?_
                        refine x_istore (q := 784) C [1, 2, 3, 4, 5, 6, 8, 0] [(0, .ref bX), (1, .ref aH), (2, .ref bS), (3, .int v2), (5, .int v25), (7, .ref q31), (10, .int v73), (19, .int 0)] dL_law_782 (by decide) rfl rfl ?_
                        refine x_iconst (q := 785) C dL_law_784 ki_0 rfl ?_
                        refine x_istore (q := 787) C [1, 2, 3, 4, 5, 6, 7, 8, 0] [(0, .ref bX), (1, .ref aH), (2, .ref bS), (3, .int v2), (5, .int v25), (7, .ref q31), (10, .int v73), (19, .int 0), (20, .int 0)] dL_law_785 (by decide) rfl rfl ?_
                        refine x_iconst (q := 788) C dL_law_787 ki_0 rfl ?_
                        refine x_istore (q := 790) C [1, 2, 3, 4, 5, 6, 7, 8, 9, 0] [(0, .ref bX), (1, .ref aH), (2, .ref bS), (3, .int v2), (5, .int v25), (7, .ref q31), (10, .int v73), (19, .int 0), (20, .int 0), (21, .int 0)] dL_law_788 (by decide) rfl rfl ?_
                        refine w6_law_L790 C hJ hX (by omega) (by omega) (fun v180 v181 hf => ?_) xF 0 0 0 hf
                        refine x_aload_n (q := 1140) C 1 dL_law_1139 rfl rfl rfl ?_
                        refine x_iconst (q := 1141) C dL_law_1140 ki_5 rfl ?_
                        obtain ⟨v241, hcal242, hf⟩ := br_some hf
                        refine x_callVi (q := 1144) C (c2_count (l := l) (D := D) (y := y) (aH := aH) (aG := aG) (aN := aN) (aF := aF) (aT := aT) hcal242) yi_X2_count gL_law_X2_count rfl ((oX2 aH aN aF aT aG).L) rfl ⟨(Nat.le_of_ble_eq_true rfl), (Nat.le_of_ble_eq_true rfl)⟩ dL_law_1141 (pm8_01234 _ _ _ _ _ _ _ _) rfl rfl (Nat.le_of_ble_eq_true rfl) ⟨by simp only [room_1]; omega, by simp only [room_1]; omega⟩ rfl ?_
                        intro rr243 uu hrr
                        have hrr : v241 = rr243 := Eq.symm hrr
                        subst hrr
                        refine x_perm (ws' := hC aH aN aF aT aG ++ (gC y aG G ++ (nC y aN N95 ++ (nC y aF F110 ++ (tC y aT T20 ++ (sC y bS aS18 Y21 S98 ++ (ggC y q31 r32 (v25.toNatClampNeg) 9 W36 ++ ggC y q46 r47 (v28.toNatClampNeg) 7 W60))))))) (pm8_01234 _ _ _ _ _ _ _ _).symm ?_
                        refine x_iload (q := 1146) C 4 dL_law_1144 rfl rfl ?_
                        refine x_icmp_ne (t := 1160) (q := 1149) C dL_law_1146 (by decide) rfl (fun hc => ?_) (fun hc => ?_)
                        · have hf := (if_neg hc).symm.trans hf
                          refine x_iconst (q := 1161) C dL_law_1160 ki_0 rfl ?_
                          cases hf
                        · have hf := (if_pos hc).symm.trans hf
                          refine x_aload_n (q := 1150) C 1 dL_law_1149 rfl rfl rfl ?_
                          refine x_bipush (q := 1152) C dL_law_1150 kb_8 rfl ?_
                          obtain ⟨v244, hcal245, hf⟩ := br_some hf
                          refine x_callVi (q := 1155) C (c2_count (l := l) (D := D) (y := y) (aH := aH) (aG := aG) (aN := aN) (aF := aF) (aT := aT) hcal245) yi_X2_count gL_law_X2_count rfl ((oX2 aH aN aF aT aG).L) rfl ⟨(Nat.le_of_ble_eq_true rfl), (Nat.le_of_ble_eq_true rfl)⟩ dL_law_1152 (pm8_01234 _ _ _ _ _ _ _ _) rfl rfl (Nat.le_of_ble_eq_true rfl) ⟨by simp only [room_1]; omega, by simp only [room_1]; omega⟩ rfl ?_
                          intro rr246 uu hrr
                          have hrr : v244 = rr246 := Eq.symm hrr
                          subst hrr
                          refine x_perm (ws' := hC aH aN aF aT aG ++ (gC y aG G ++ (nC y aN N95 ++ (nC y aF F110 ++ (tC y aT T20 ++ (sC y bS aS18 Y21 S98 ++ (ggC y q31 r32 (v25.toNatClampNeg) 9 W36 ++ ggC y q46 r47 (v28.toNatClampNeg) 7 W60))))))) (pm8_01234 _ _ _ _ _ _ _ _).symm ?_
                          refine x_iload (q := 1157) C 5 dL_law_1155 rfl rfl ?_
                          refine x_icmp_eq (t := 1162) (q := 1160) C dL_law_1157 (by decide) rfl (fun hc => ?_) (fun hc => ?_)
                          · have hf := (if_pos hc).symm.trans hf
                            refine x_sub [0, 1, 2, 3] (L' := [(0, .ref bX), (1, .ref aH), (2, .ref bS), (3, .int v2)]) rfl ?_
                            exact hJ1162 F110 hf
                          · have hf := (if_neg hc).symm.trans hf
                            refine x_iconst (q := 1161) C dL_law_1160 ki_0 rfl ?_
                            cases hf
                      · have hf := (if_neg hc).symm.trans hf
                        refine x_iconst (q := 780) C dL_law_779 ki_0 rfl ?_
                        cases hf
                  refine x_icmp_le (t := 412) (q := 397) C dL_law_394 (by decide) rfl (fun hc => ?_) (fun hc => ?_)
                  · have hf := (if_pos hc).symm.trans hf
                    refine x_sub [0, 1, 2, 3, 4, 5, 6, 7, 8, 9, 15] (L' := [(0, .ref bX), (1, .ref aH), (2, .ref bS), (3, .int v2), (5, .int v25), (6, .int v28), (7, .ref q31), (8, .ref q46), (9, .int v59), (10, .int v73), (16, .int v94)]) rfl ?_
                    exact hJ412 F88 hf
                  · have hf := (if_neg hc).symm.trans hf
                    refine x_aload_n (q := 398) C 1 dL_law_397 rfl rfl rfl ?_
                    refine x_iload (q := 400) C 10 dL_law_398 rfl rfl ?_
                    obtain ⟨v247, F248, hcal249, hf⟩ := br2_some hf
                    refine x_callVi (q := 403) C (c2_comes (l := l) (D := D) (y := y) (aH := aH) (aG := aG) (aN := aN) (aF := aF) (aT := aT) hcal249) yi_X2_comes gL_law_X2_comes rfl ((oX2 aH aN aF aT aG).L) rfl ⟨(Nat.le_of_ble_eq_true rfl), (Nat.le_of_ble_eq_true rfl)⟩ dL_law_400 (pm8_01234 _ _ _ _ _ _ _ _) rfl rfl (Nat.le_of_ble_eq_true rfl) ⟨by simp only [room_1]; omega, by simp only [room_1]; omega⟩ rfl ?_
                    intro rr250 uu hrr
                    have hrr : v247 = rr250 := Eq.symm hrr
                    subst hrr
                    refine x_perm (ws' := hC aH aN aF aT aG ++ (gC y aG G ++ (nC y aN N95 ++ (nC y aF F248 ++ (tC y aT T20 ++ (sC y bS aS18 Y21 S98 ++ (ggC y q31 r32 (v25.toNatClampNeg) 9 W36 ++ ggC y q46 r47 (v28.toNatClampNeg) 7 W60))))))) (pm8_01234 _ _ _ _ _ _ _ _).symm ?_
                    refine x_iload (q := 405) C 11 dL_law_403 rfl rfl ?_
                    refine x_iconst (q := 406) C dL_law_405 ki_1 rfl ?_
                    refine x_isub (q := 407) C dL_law_406 rfl ?_
                    refine x_icmp_eq (t := 412) (q := 410) C dL_law_407 (by decide) rfl (fun hc => ?_) (fun hc => ?_)
                    · have hf := (if_pos hc).symm.trans hf
                      refine x_sub [0, 1, 2, 3, 4, 5, 6, 7, 8, 9, 15] (L' := [(0, .ref bX), (1, .ref aH), (2, .ref bS), (3, .int v2), (5, .int v25), (6, .int v28), (7, .ref q31), (8, .ref q46), (9, .int v59), (10, .int v73), (16, .int v94)]) rfl ?_
                      exact hJ412 F248 hf
                    · have hf := (if_neg hc).symm.trans hf
                      refine x_iconst (q := 411) C dL_law_410 ki_0 rfl ?_
                      cases hf
          · have hf := (if_pos hc).symm.trans hf
            refine x_aload_n (q := 332) C 1 dL_law_331 rfl rfl rfl ?_
            refine x_iconst (q := 333) C dL_law_332 ki_0 rfl ?_
            obtain ⟨v251, hcal252, hf⟩ := br_some hf
            refine x_callVi (q := 336) C (c2_count (l := l) (D := D) (y := y) (aH := aH) (aG := aG) (aN := aN) (aF := aF) (aT := aT) hcal252) yi_X2_count gL_law_X2_count rfl ((oX2 aH aN aF aT aG).L) rfl ⟨(Nat.le_of_ble_eq_true rfl), (Nat.le_of_ble_eq_true rfl)⟩ dL_law_333 (pm8_01234 _ _ _ _ _ _ _ _) rfl rfl (Nat.le_of_ble_eq_true rfl) ⟨by simp only [room_1]; omega, by simp only [room_1]; omega⟩ rfl ?_
            intro rr253 uu hrr
            have hrr : v251 = rr253 := Eq.symm hrr
            subst hrr
            refine x_perm (ws' := hC aH aN aF aT aG ++ (gC y aG G ++ (nC y aN N95 ++ (nC y aF F88 ++ (tC y aT T20 ++ (sC y bS aS18 Y21 S98 ++ (ggC y q31 r32 (v25.toNatClampNeg) 9 W36 ++ ggC y q46 r47 (v28.toNatClampNeg) 7 W60))))))) (pm8_01234 _ _ _ _ _ _ _ _).symm ?_
            refine x_sipush (q := 339) C dL_law_336 ks_600 rfl ?_
            refine x_icmp_ne (t := 353) (q := 342) C dL_law_339 (by decide) rfl (fun hc => ?_) (fun hc => ?_)
            · have hf := (if_neg hc).symm.trans hf
              refine x_iconst (q := 354) C dL_law_353 ki_0 rfl ?_
              cases hf
            · have hf := (if_pos hc).symm.trans hf
              refine x_iload (q := 344) C 15 dL_law_342 rfl rfl ?_
              refine x_if_ne (t := 353) (q := 347) C dL_law_344 (by decide) rfl (fun hc => ?_) (fun hc => ?_)
              · have hf := (if_neg hc).symm.trans hf
                refine x_iconst (q := 354) C dL_law_353 ki_0 rfl ?_
                cases hf
              · have hf := (if_pos hc).symm.trans hf
                refine x_iload (q := 349) C 11 dL_law_347 rfl rfl ?_
                refine x_iconst (q := 350) C dL_law_349 ki_m1 rfl ?_
                refine x_icmp_eq (t := 1162) (q := 353) C dL_law_350 (by decide) rfl (fun hc => ?_) (fun hc => ?_)
                · have hf := (if_pos hc).symm.trans hf
                  refine x_sub [0, 1, 2, 3] (L' := [(0, .ref bX), (1, .ref aH), (2, .ref bS), (3, .int v2)]) rfl ?_
                  exact hJ1162 F88 hf
                · have hf := (if_neg hc).symm.trans hf
                  refine x_iconst (q := 354) C dL_law_353 ki_0 rfl ?_
                  cases hf
        refine x_icmp_ne (t := 103) (q := 77) C dL_law_74 (by decide) rfl (fun hc => ?_) (fun hc => ?_)
        · have hf := (if_neg hc).symm.trans hf
          exact hJ103 N19 S22 hf
        · have hf := (if_pos hc).symm.trans hf
          refine x_iconst (q := 78) C dL_law_77 ki_1 rfl ?_
          refine x_iload (q := 80) C 4 dL_law_78 rfl rfl ?_
          refine x_iconst (q := 81) C dL_law_80 ki_4 rfl ?_
          refine x_ishr (q := 82) C dL_law_81 rfl ?_
          refine x_bipush (q := 84) C dL_law_82 kb_90 rfl ?_
          obtain ⟨v254, hcal255, hf⟩ := bd_some hf
          refine x_callSi (q := 87) (Wc := []) C (c6_below (l := l) (D := D) (y := y) hcal255) yi_L_below gL_law_L_below ⟨(Nat.le_of_ble_eq_true rfl), (Nat.le_of_ble_eq_true rfl)⟩ dL_law_84 pm_emp rfl rfl (Nat.le_of_ble_eq_true rfl) ⟨by simp only [room_1]; omega, by simp only [room_1]; omega⟩ rfl ?_
          intro rr256 uu hrr
          have hrr : v254 = rr256 := Eq.symm hrr
          subst hrr
          refine x_world (ws' := hC aH aN aF aT aG ++ (gC y aG G ++ (nC y aN N19 ++ (nC y aF F4 ++ (tC y aT T20 ++ sC y bS aS18 Y21 S22))))) rfl ?_
          refine x_iadd (q := 88) C dL_law_87 rfl ?_
          obtain ⟨v257, ev257, hf⟩ := lt_elim hf
          refine x_topi ev257 ?_
          refine x_istore (q := 90) C [1, 2, 3, 4, 5, 0] [(0, .ref bX), (1, .ref aH), (2, .ref bS), (3, .int v2), (4, .int v17), (5, .int v257)] dL_law_88 (by decide) rfl rfl ?_
          refine x_aload_n (q := 91) C 1 dL_law_90 rfl rfl rfl ?_
          refine x_iload (q := 93) C 5 dL_law_91 rfl rfl ?_
          obtain ⟨v258, N259, hcal260, hf⟩ := br2_some hf
          refine x_callVi (q := 96) C (c2_pass (l := l) (D := D) (y := y) (aH := aH) (aG := aG) (aN := aN) (aF := aF) (aT := aT) hcal260) yi_X2_pass gL_law_X2_pass rfl ((oX2 aH aN aF aT aG).L) rfl ⟨(Nat.le_of_ble_eq_true rfl), (Nat.le_of_ble_eq_true rfl)⟩ dL_law_93 (pm6_01234 _ _ _ _ _ _) rfl rfl (Nat.le_of_ble_eq_true rfl) ⟨by simp only [room_1]; omega, by simp only [room_1]; omega⟩ rfl ?_
          intro rr261 uu hrr
          have hrr : v258 = rr261 := Eq.symm hrr
          subst hrr
          refine x_perm (ws' := hC aH aN aF aT aG ++ (gC y aG G ++ (nC y aN N259 ++ (nC y aF F4 ++ (tC y aT T20 ++ sC y bS aS18 Y21 S22))))) (pm6_01234 _ _ _ _ _ _).symm ?_
          refine x_pop (q := 97) C dL_law_96 rfl rfl ?_
          refine x_aload_n (q := 98) C 2 dL_law_97 rfl rfl rfl ?_
          refine x_iload (q := 100) C 5 dL_law_98 rfl rfl ?_
          obtain ⟨S262, hcal263, hf⟩ := bd_some hf
          refine x_callVv (q := 103) C (c5_pass_ (l := l) (D := D) (y := y) (bS := bS) (aS := aS18) hcal263) yi_X3_pass_ gL_law_X3_pass_ rfl (oX3 y bS aS18 Y21 S22) rfl ⟨(Nat.le_of_ble_eq_true rfl), (Nat.le_of_ble_eq_true rfl)⟩ dL_law_100 (pm6_5 _ _ _ _ _ _) rfl rfl (Nat.le_of_ble_eq_true rfl) ⟨by simp only [room_1]; omega, by simp only [room_1]; omega⟩ rfl ?_
          intro uu hrr
          refine x_perm (ws' := hC aH aN aF aT aG ++ (gC y aG G ++ (nC y aN N259 ++ (nC y aF F4 ++ (tC y aT T20 ++ sC y bS aS18 Y21 S262))))) (pm6_5 _ _ _ _ _ _).symm ?_
          refine x_sub [0, 1, 2, 3, 4] (L' := [(0, .ref bX), (1, .ref aH), (2, .ref bS), (3, .int v2), (4, .int v17)]) rfl ?_
          exact hJ103 N259 S262 hf
      refine x_if_ne (t := 68) (q := 56) C dL_law_53 (by decide) rfl (fun hc => ?_) (fun hc => ?_)
      · have hf := (if_neg hc).symm.trans hf
        refine x_widen (k' := kk + 1) (n' := nn + 33) (by omega) (by omega) ?_
        exact hJ68 aS1 N3 T5 Y6 S7 hf
      · have hf := (if_pos hc).symm.trans hf
        refine x_aload_n (q := 57) C 1 dL_law_56 rfl rfl rfl ?_
        refine x_aload_n (q := 58) C 2 dL_law_57 rfl rfl rfl ?_
        refine x_iload (q := 60) C 4 dL_law_58 rfl rfl ?_
        obtain ⟨v264, N265, T266, Y267, S268, hcal270, hf⟩ := bd5_some hf
        refine x_callXSi (q := 63) C hJ hX (c6_act (l := l) (D := D) (y := y) (aH := aH) (aG := aG) (aN := aN) (aF := aF) (aT := aT) (bS := bS) (aS := aS1) hcal270) yi_L_act gL_law_L_act ⟨(Nat.le_of_ble_eq_true rfl), (Nat.le_of_ble_eq_true rfl)⟩ dL_law_60 pm_nil rfl rfl (Nat.le_of_ble_eq_true rfl) ⟨by simp only [room_1]; omega, by simp only [room_1]; omega⟩ rfl ?_
        intro rr271 aS269 hrr
        have hrr : v264 = rr271 := Eq.symm hrr
        subst hrr
        refine x_world (ws' := hC aH aN aF aT aG ++ (gC y aG G ++ (nC y aN N265 ++ (nC y aF F4 ++ (tC y aT T266 ++ sC y bS aS269 Y267 S268))))) (List.append_nil _) ?_
        refine x_if_ne (t := 68) (q := 66) C dL_law_63 (by decide) rfl (fun hc => ?_) (fun hc => ?_)
        · have hf := (if_neg hc).symm.trans hf
          exact hJ68 aS269 N265 T266 Y267 S268 hf
        · have hf := (if_pos hc).symm.trans hf
          refine x_iconst (q := 67) C dL_law_66 ki_0 rfl ?_
          cases hf
set_option maxHeartbeats 4000000 in
set_option maxRecDepth 100000 in
theorem w6_law {p : Program} {l : Launch} {e : Env} {s : State} {m : MethodId} {args : Array Value} {below : List Frame} {meth : Method} {c : Code} {D : va_G} {A : Nat → Prop} {y : Nat → ClassId} {bS : Nat} {aH : Nat} {aG aN aF aT aS : Nat → Nat} {Q : State → Prop} {bX LX : Nat} {xs : Nat → Int32} {G : St} {N : St} {F : St} {T : St} {Y : (Nat → Nat)} {S : St} {N' : St} {F' : St} {T' : St} {Y' : (Nat → Nat)} {S' : St} (C : xC p s m args meth c D A cL_law RL 27 wsL_law (xT y) (some .boolean)) (hJ : xJ2 s) (hX : xS bX LX xs s A) (hf : f6_law G N F T Y S xs LX = some (N', F', T', Y', S')) (hEnd : ∀ aZ : Nat → Nat, xV p l e room_1 s m args below meth c D A Q 27 (hC aH aN aF aT aG ++ (gC y aG G ++ (nC y aN N' ++ (nC y aF F' ++ (tC y aT T' ++ sC y bS aZ Y' S'))))) 8220 142200 [(1, .ref aH), (2, .ref bS)] 1168 []) : xV p l e room_1 s m args below meth c D A Q 27 (hC aH aN aF aT aG ++ (gC y aG G ++ (nC y aN N ++ (nC y aF F ++ (tC y aT T ++ sC y bS aS Y S))))) 3100 91000 [(0, .ref bX), (1, .ref aH), (2, .ref bS)] 20 [] := by
  unfold f6_law at hf
  refine x_iconst (q := 21) C dL_law_20 ki_0 rfl ?_
  refine x_istore_n (q := 22) C [1, 2, 3, 0] [(0, .ref bX), (1, .ref aH), (2, .ref bS), (3, .int 0)] dL_law_21 rfl (by decide) rfl rfl ?_
  refine w6_law_L22 C hJ hX (kX := 8220) (nX := 142200) (by decide) (by decide) (fun aS8 N9 F10 T11 Y12 S13 hf => ?_) xF64 3100 91000 aS 0 N F T Y S (by unfold xF64; omega) (by unfold xF64; omega) hf
  have hf := Option.some.inj hf
  obtain ⟨hr0, hx0⟩ := Prod.mk.inj hf
  obtain ⟨hr1, hx1⟩ := Prod.mk.inj hx0
  obtain ⟨hr2, hx2⟩ := Prod.mk.inj hx1
  obtain ⟨hr3, hx3⟩ := Prod.mk.inj hx2
  have hr4 := hx3
  subst hr0
  subst hr1
  subst hr2
  subst hr3
  subst hr4
  exact hEnd aS8
