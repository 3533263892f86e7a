/-! LampHillsLaw.build, from 7 to 755 -/
theorem kb_11 : (Int8.ofInt 11).toInt32 = 11 := by decide
theorem kb_13 : (Int8.ofInt 13).toInt32 = 13 := by decide
theorem kb_14 : (Int8.ofInt 14).toInt32 = 14 := by decide
theorem kb_15 : (Int8.ofInt 15).toInt32 = 15 := by decide
theorem kb_31 : (Int8.ofInt 31).toInt32 = 31 := by decide
theorem flL_build_28 : Cond.fieldLink RL 28 "LampHillsLaw$Sim" "height" "[I" ∈ wsL_build := by decide +kernel
theorem flL_build_45 : Cond.fieldLink RL 45 "LampHillsLaw$Sim" "streets" "[[I" ∈ wsL_build := by decide +kernel
theorem flL_build_58 : Cond.fieldLink RL 58 "LampHillsLaw$Sim" "lamps" "[[I" ∈ wsL_build := by decide +kernel
theorem flL_build_64 : Cond.fieldLink RL 64 "LampHillsLaw$Sim" "wind" "[I" ∈ wsL_build := by decide +kernel
theorem flL_build_73 : Cond.fieldLink RL 73 "LampHillsLaw$Sim" "lighters" "[[I" ∈ wsL_build := by decide +kernel
theorem flL_build_76 : Cond.fieldLink RL 76 "LampHillsLaw$Sim" "rounds" "[[I" ∈ wsL_build := by decide +kernel
theorem iuL_build_X3 : ∀ w ∈ u_ws RX3 TX3 10, w ∈ wsL_build := fun _ h => List.mem_cons_of_mem _ (List.mem_append_left _ (List.mem_append_left _ (List.mem_append_left _ (List.mem_append_left _ (List.mem_append_left _ (List.mem_append_left _ (List.mem_append_right _ h)))))))
theorem kmL_build_36 : ∀ w ∈ ([.methodLink RL 36 Lib.Math.min.name, .static Lib.Math.min.name, .initialized "java/lang/Math", .code Lib.Math.min.name Lib.Math.min.code 2 (some .int)] : List Cond), w ∈ wsL_build := by decide +kernel
theorem knL_build : Cond.arrayClass .int ∈ wsL_build := by decide +kernel
theorem yi_X2_corner : xY yX2_corner wsX2_corner cX2_corner 2 (some .int) 1 := ⟨⟨_, rfl⟩, by decide +kernel, by decide +kernel, by decide +kernel⟩
theorem yi_X2_hire : xY yX2_hire wsX2_hire cX2_hire 5 (some .int) 3 := ⟨⟨_, rfl⟩, by decide +kernel, by decide +kernel, by decide +kernel⟩
theorem yi_X2_lamp : xY yX2_lamp wsX2_lamp cX2_lamp 3 (some .int) 2 := ⟨⟨_, rfl⟩, by decide +kernel, by decide +kernel, by decide +kernel⟩
theorem yi_X2_street : xY yX2_street wsX2_street cX2_street 4 (some .int) 3 := ⟨⟨_, rfl⟩, by decide +kernel, by decide +kernel, by decide +kernel⟩
theorem yi_X3_measure : xY yX3_measure wsX3_measure cX3_measure 10 none 0 := ⟨⟨_, rfl⟩, by decide +kernel, by decide +kernel, by decide +kernel⟩
def f6_build_L24 (v7 : Int32) (xs : (Nat → Int32)) (LX : Nat) (G : St) (N : St) (F : St) (K : St → (Nat → Nat) → St → Option (St × St × (Nat → Nat) × St)) : Nat → Int32 → St → (Nat → Nat) → St → Option (St × St × (Nat → Nat) × St)
  | 0, _, _, _, _ => none
  | fu + 1, v9, T10, Y11, S12 =>
  if v7 ≤ v9 then
  (
    K T10 Y11 S12
  )
  else
  (
    bd (lcell xs LX 1) fun v17 =>
    bd (lbelow (v17 >>> ((2 * v9) &&& 31)) 31) fun v20 =>
    br2 (f2_corner G N F T10 v20) fun v23 T24 =>
    if v23 = v9 then
    (
      gd (decide (Y11 1 < 32)) <|
      lt_ (upA Y11 1 (Y11 1 + 1)) fun Y27 =>
      lt_ (up1 S12 1 (grw (S12 1) (Y11 1) v20)) fun S28 =>
      f6_build_L24 v7 xs LX G N F K fu (v9 + 1) T24 Y27 S28
    )
    else
    (
      none
    )
  )
def f6_build_L96 (v7 : Int32) (v37 : Int32) (xs : (Nat → Int32)) (LX : Nat) (G : St) (N : St) (F : St) (K : St → (Nat → Nat) → St → Option (St × St × (Nat → Nat) × St)) : Nat → Int32 → St → (Nat → Nat) → St → Option (St × St × (Nat → Nat) × St)
  | 0, _, _, _, _ => none
  | fu + 1, v39, T40, Y41, S42 =>
  if v37 ≤ v39 then
  (
    K T40 Y41 S42
  )
  else
  (
    bd (lcell xs LX (3 + (v39 - v39 / 3 * 3))) fun v47 =>
    lt_ ((v47 >>> (((v39 / 3) * 3) &&& 31)) + (13 * v39)) fun v50 =>
    lt_ (fun (v51 : Int32) =>
    (
      bd (lbelow (v50 >>> (2 &&& 31)) (if (v7 - 1) < (3 : Int32) then (v7 - 1) else (3 : Int32))) fun v52 =>
      gd (decide (¬ v7 = 0)) <|
      lt_ (((v51 + 1) + v52) - ((v51 + 1) + v52) / v7 * v7) fun v56 =>
      bd (lbelow (v50 >>> (4 &&& 31)) 9) fun v57 =>
      br2 (f2_street G N F T40 v51 v56 (1 + v57)) fun v60 T61 =>
      if v60 = v39 then
      (
        lt_ (upd ((fun _ => 0)) (0 : Int32).toNatClampNeg v51) fun f66 =>
        lt_ (upd f66 (1 : Int32).toNatClampNeg v56) fun f68 =>
        bd (lbelow (v50 >>> (4 &&& 31)) 9) fun v69 =>
        lt_ (upd f68 (2 : Int32).toNatClampNeg (1 + v69)) fun f73 =>
        gd (decide (Y41 2 < 32)) <|
        lt_ (upA Y41 2 (Y41 2 + 1)) fun Y74 =>
        lt_ (up1 S42 (rk 10 (Y41 2)) f73) fun S75 =>
        f6_build_L96 v7 v37 xs LX G N F K fu (v39 + 1) T61 Y74 S75
      )
      else
      (
        none
      )
    )
    ) fun J159 =>
    lt_ (fun (u_ : Unit) =>
    (
      bd (lbelow v50 v7) fun v78 =>
      J159 v78
    )
    ) fun J153 =>
    if (v7 - 1) ≤ v39 then
    (
      J153 ()
    )
    else
    (
      bd (lbelow (v50 >>> (6 &&& 31)) 5) fun v81 =>
      if v81 ≤ 0 then
      (
        J153 ()
      )
      else
      (
        J159 v39
      )
    )
  )
def f6_build_L276 (v37 : Int32) (v92 : Int32) (xs : (Nat → Int32)) (LX : Nat) (G : St) (N : St) (F : St) (K : St → (Nat → Nat) → St → Option (St × St × (Nat → Nat) × St)) : Nat → Int32 → St → (Nat → Nat) → St → Option (St × St × (Nat → Nat) × St)
  | 0, _, _, _, _ => none
  | fu + 1, v94, T95, Y96, S97 =>
  if v92 ≤ v94 then
  (
    K T95 Y96 S97
  )
  else
  (
    bd (lcell xs LX (7 + (v94 - v94 / 3 * 3))) fun v102 =>
    lt_ ((v102 >>> ((v94 / 3) &&& 31)) + (7 * v94)) fun v105 =>
    bd (lbelow v105 v37) fun v106 =>
    bd (lbelow (v105 >>> (3 &&& 31)) 8) fun v109 =>
    lt_ (2 + v109) fun v112 =>
    br2 (f2_lamp G N F T95 v106 v112) fun v113 T114 =>
    if v113 = v94 then
    (
      lt_ (upd ((fun _ => 0)) (0 : Int32).toNatClampNeg v106) fun f119 =>
      lt_ (upd f119 (1 : Int32).toNatClampNeg v112) fun f121 =>
      lt_ (upd f121 (2 : Int32).toNatClampNeg 0) fun f123 =>
      lt_ (upd f123 (3 : Int32).toNatClampNeg 0) fun f125 =>
      lt_ (upd f125 (4 : Int32).toNatClampNeg 0) fun f127 =>
      lt_ (upd f127 (5 : Int32).toNatClampNeg 0) fun f129 =>
      lt_ (upd f129 (6 : Int32).toNatClampNeg 0) fun f131 =>
      lt_ (upd f131 (7 : Int32).toNatClampNeg 0) fun f133 =>
      gd (decide (Y96 3 < 32)) <|
      lt_ (upA Y96 3 (Y96 3 + 1)) fun Y134 =>
      lt_ (up1 S97 (rk 11 (Y96 3)) f133) fun S135 =>
      bd (lbelow (v105 >>> (5 &&& 31)) 2) fun v138 =>
      lt_ (fun (T141 : St) (S142 : St) =>
      (
        f6_build_L276 v37 v92 xs LX G N F K fu (v94 + 1) T141 Y134 S142
      )
      ) fun J447 =>
      if v138 = 0 then
      (
        J447 T114 S135
      )
      else
      (
        gd (xin v94 (Y134 3)) <|
        bd (lbelow (v105 >>> (2 &&& 31)) 10) fun v144 =>
        lt_ (up2 S135 (rk 11 v94.toNatClampNeg) (2 : Int32).toNatClampNeg v144) fun S148 =>
        br2 (f2_lid G N F T114 v94 (S148 (rk 11 v94.toNatClampNeg) (2 : Int32).toNatClampNeg)) fun v149 T150 =>
        if v149 = 0 then
        (
          J447 T150 S148
        )
        else
        (
          none
        )
      )
    )
    else
    (
      none
    )
  )
def f6_build_L456 (xs : (Nat → Int32)) (LX : Nat) (G : St) (N : St) (F : St) (K : St → St → Option (St × St × (Nat → Nat) × St)) : Nat → Int32 → St → St → Option (St × St × (Nat → Nat) × St)
  | 0, _, _, _ => none
  | fu + 1, v153, T154, S155 =>
  if 10 ≤ v153 then
  (
    K T154 S155
  )
  else
  (
    bd (lcell xs LX 10) fun v158 =>
    bd (lbelow (v158 >>> ((2 * v153) &&& 31)) 10) fun v161 =>
    gd (xin v153 10) <|
    lt_ (up2 S155 6 v153.toNatClampNeg v161) fun S165 =>
    br2 (f2_setWind G N F T154 v153 (S165 6 v153.toNatClampNeg)) fun v166 T167 =>
    if v166 = 0 then
    (
      f6_build_L456 xs LX G N F K fu (v153 + 1) T167 S165
    )
    else
    (
      none
    )
  )
def f6_build_L699 (v92 : Int32) (v177 : Int32) (xs : (Nat → Int32)) (LX : Nat) (G : St) (N214 : St) (F : St) (K : St → (Nat → Nat) → St → Option (St × St × (Nat → Nat) × St)) : Nat → Int32 → St → (Nat → Nat) → St → Option (St × St × (Nat → Nat) × St)
  | 0, _, _, _, _ => none
  | fu + 1, v247, T248, Y249, S250 =>
  if 9 ≤ v247 then
  (
    K T248 Y249 S250
  )
  else
  (
    bd (lcell xs LX 15) fun v255 =>
    bd (lbelow (((v255 >>> (v247 &&& 31)) + (5 * v247)) + (11 * v177)) v92) fun v258 =>
    bd4 (f6_adds G N214 F T248 Y249 S250 v177 v258) fun v261 T262 Y263 S264 =>
    if v261 = 0 then
    (
      none
    )
    else
    (
      f6_build_L699 v92 v177 xs LX G N214 F K fu (v247 + 1) T262 Y263 S264
    )
  )
def f6_build_L525 (v7 : Int32) (v92 : Int32) (v173 : Int32) (xs : (Nat → Int32)) (LX : Nat) (G : St) (F : St) (K : St → St → (Nat → Nat) → St → Option (St × St × (Nat → Nat) × St)) : Nat → Int32 → St → St → (Nat → Nat) → St → Option (St × St × (Nat → Nat) × St)
  | 0, _, _, _, _, _ => none
  | fu + 1, v177, N178, T179, Y180, S181 =>
  if v173 ≤ v177 then
  (
    K N178 T179 Y180 S181
  )
  else
  (
    bd (lcell xs LX 12) fun v187 =>
    bd (lbelow (v187 >>> (v177 &&& 31)) v7) fun v190 =>
    bd (lcell xs LX 13) fun v193 =>
    bd (lbelow (v193 >>> ((2 * v177) &&& 31)) 9) fun v196 =>
    lt_ (1 + v196) fun v199 =>
    bd (lcell xs LX 14) fun v200 =>
    bd (lcell xs LX 14) fun v203 =>
    bd (lbelow (v203 >>> ((2 * v177) &&& 31)) 2) fun v206 =>
    lt_ (fun (v209 : Int32) =>
    (
      bd (lbelow (v200 >>> (v177 &&& 31)) v209) fun v210 =>
      br3 (f2_hire G N178 F T179 v190 v199 v210) fun v213 N214 T215 =>
      if v213 = v177 then
      (
        lt_ (upd ((fun _ => 0)) (0 : Int32).toNatClampNeg v190) fun f220 =>
        lt_ (upd f220 (1 : Int32).toNatClampNeg v190) fun f222 =>
        lt_ (upd f222 (2 : Int32).toNatClampNeg v199) fun f224 =>
        lt_ (upd f224 (3 : Int32).toNatClampNeg v210) fun f226 =>
        lt_ (upd f226 (4 : Int32).toNatClampNeg (-1)) fun f228 =>
        lt_ (upd f228 (5 : Int32).toNatClampNeg 0) fun f230 =>
        lt_ (upd f230 (6 : Int32).toNatClampNeg (-1)) fun f232 =>
        lt_ (upd f232 (7 : Int32).toNatClampNeg (-1)) fun f234 =>
        lt_ (upd f234 (8 : Int32).toNatClampNeg 0) fun f236 =>
        gd (decide (Y180 4 < 32)) <|
        lt_ (upA Y180 4 (Y180 4 + 1)) fun Y237 =>
        lt_ (up1 S181 (rk 12 (Y180 4)) f236) fun S238 =>
        gd (decide (Y237 5 < 32)) <|
        lt_ (upA (upA Y237 5 (Y237 5 + 1)) (rk 13 (Y237 5)) 0) fun Y242 =>
        lt_ (up1 S238 (rk 13 (Y237 5)) ((fun _ => 0))) fun S243 =>
        f6_build_L699 v92 v177 xs LX G N214 F (fun (T252 : St) (Y253 : (Nat → Nat)) (S254 : St) =>
        (
          f6_build_L525 v7 v92 v173 xs LX G F K fu (v177 + 1) N214 T252 Y253 S254
        )
        ) xF32 0 T215 Y242 S243
      )
      else
      (
        none
      )
    )
    ) fun J602 =>
    if v206 = 0 then
    (
      J602 1000
    )
    else
    (
      J602 60
    )
  )
def f6_build (G : St) (N : St) (F : St) (T : St) (Y : (Nat → Nat)) (S : St) (xs : Nat → Int32) (LX : Nat) : Option (St × St × (Nat → Nat) × St) :=
  bd (lcell xs LX 0) fun v1 =>
  bd (lbelow v1 10) fun v4 =>
  lt_ (2 + v4) fun v7 =>
  f6_build_L24 v7 xs LX G N F (fun (T14 : St) (Y15 : (Nat → Nat)) (S16 : St) =>
  (
    bd (lcell xs LX 2) fun v31 =>
    bd (lbelow v31 18) fun v34 =>
    lt_ (1 + v34) fun v37 =>
    f6_build_L96 v7 v37 xs LX G N F (fun (T44 : St) (Y45 : (Nat → Nat)) (S46 : St) =>
    (
      bd (f5_measure Y45 S46) fun S84 =>
      bd (lcell xs LX 6) fun v86 =>
      bd (lbelow v86 20) fun v89 =>
      lt_ (1 + v89) fun v92 =>
      f6_build_L276 v37 v92 xs LX G N F (fun (T99 : St) (Y100 : (Nat → Nat)) (S101 : St) =>
      (
        f6_build_L456 xs LX G N F (fun (T156 : St) (S157 : St) =>
        (
          bd (lcell xs LX 11) fun v170 =>
          bd (lbelow v170 5) fun v173 =>
          f6_build_L525 v7 v92 v173 xs LX G F (fun (N183 : St) (T184 : St) (Y185 : (Nat → Nat)) (S186 : St) =>
          (
            some (N183, T184, Y185, S186)
          )
          ) xF32 0 N T156 Y100 S157
        )
        ) xF 0 T99 S101
      )
      ) xF32 0 T44 Y45 S84
    )
    ) xF32 0 T14 Y15 S16
  )
  ) xF32 0 T Y S
set_option maxHeartbeats 4000000 in
set_option maxRecDepth 100000 in
theorem w6_build_L24 {p : Program} {l : Launch} {e : Env} {s : State} {m : MethodId} {args : Array Value} {below : List Frame} {meth : Method} {c : Code} {D : va_G} {A : Nat → Prop} {y : Nat → ClassId} {bS : Nat} {aH : Nat} {aG aN aF aT : Nat → Nat} {Q : State → Prop} {bX LX : Nat} {xs : Nat → Int32} {G : St} {N : St} {F : St} {v7 : Int32} {N' : St} {T' : St} {Y' : (Nat → Nat)} {S' : St} {K : St → (Nat → Nat) → St → Option (St × St × (Nat → Nat) × St)} (C : xC p s m args meth c D A cL_build RL 12 wsL_build (xT y) (some (.object "LampHillsLaw$Sim"))) (hJ : xJ2 s) (hX : xS bX LX xs s A) {kX nX : Nat} (hm1 : kX ≤ 3000) (hm2 : nX ≤ 90000) (hK : ∀ (aS13 : Nat → Nat) (T14 : St) (Y15 : (Nat → Nat)) (S16 : St), K T14 Y15 S16 = some (N', T', Y', S') → xV p l e { frames := 9, cells := 3000, slots := 90000, locals := 160 } s m args below meth c D A Q 12 (hC aH aN aF aT aG ++ (gC y aG G ++ (nC y aN N ++ (nC y aF F ++ (tC y aT T14 ++ sC y bS aS13 Y15 S16))))) kX nX [(0, .ref aH), (1, .ref bX), (2, .ref bS), (3, .int v7)] 79 []) : ∀ (fu : Nat) (kk nn : Nat) (aS8 : Nat → Nat) (v9 : Int32) (T10 : St) (Y11 : (Nat → Nat)) (S12 : St), kk + 1 * fu ≤ kX → nn + 33 * fu ≤ nX → f6_build_L24 v7 xs LX G N F K fu v9 T10 Y11 S12 = some (N', T', Y', S') → xV p l e { frames := 9, cells := 3000, slots := 90000, locals := 160 } s m args below meth c D A Q 12 (hC aH aN aF aT aG ++ (gC y aG G ++ (nC y aN N ++ (nC y aF F ++ (tC y aT T10 ++ sC y bS aS8 Y11 S12))))) kk nn [(0, .ref aH), (1, .ref bX), (2, .ref bS), (3, .int v7), (4, .int v9)] 24 [] := by
  intro fu
  induction fu with
  | zero => intro kk nn aS8 v9 T10 Y11 S12 hb1 hb2 hf; rw [f6_build_L24] at hf; cases hf
  | succ fu ih =>
    intro kk nn aS8 v9 T10 Y11 S12 hb1 hb2 hf
    rw [f6_build_L24] at hf
    refine x_iload (q := 26) C 4 dL_build_24 rfl rfl ?_
    refine x_iload_n (q := 27) C 3 dL_build_26 rfl rfl rfl ?_
    refine x_icmp_ge (t := 79) (q := 30) C dL_build_27 (by decide) rfl (fun hc => ?_) (fun hc => ?_)
    · have hf := (if_pos hc).symm.trans hf
      refine x_sub [0, 1, 2, 3] (L' := [(0, .ref aH), (1, .ref bX), (2, .ref bS), (3, .int v7)]) rfl ?_
      refine x_widen (k' := kX) (n' := nX) (by omega) (by omega) ?_
      exact hK aS8 T10 Y11 S12 hf
    · have hf := (if_neg hc).symm.trans hf
      refine x_aload_n (q := 31) C 1 dL_build_30 rfl rfl rfl ?_
      refine x_iconst (q := 32) C dL_build_31 ki_1 rfl ?_
      obtain ⟨v17, hcal18, hf⟩ := bd_some hf
      refine x_callXSi (q := 35) (Wc := []) C hJ hX (c6_cell (l := l) (D := D) (y := y) (b := bX) hcal18) yi_L_cell gL_build_L_cell ⟨(Nat.le_of_ble_eq_true rfl), (Nat.le_of_ble_eq_true rfl)⟩ dL_build_32 pm_emp rfl rfl (Nat.le_of_ble_eq_true rfl) ⟨by dsimp only; omega, by dsimp only; omega⟩ rfl ?_
      intro rr19 uu hrr
      have hrr : v17 = rr19 := Eq.symm hrr
      subst hrr
      refine x_world (ws' := hC aH aN aF aT aG ++ (gC y aG G ++ (nC y aN N ++ (nC y aF F ++ (tC y aT T10 ++ sC y bS aS8 Y11 S12))))) rfl ?_
      refine x_iconst (q := 36) C dL_build_35 ki_2 rfl ?_
      refine x_iload (q := 38) C 4 dL_build_36 rfl rfl ?_
      refine x_imul (q := 39) C dL_build_38 rfl ?_
      refine x_ishr (q := 40) C dL_build_39 rfl ?_
      refine x_bipush (q := 42) C dL_build_40 kb_31 rfl ?_
      obtain ⟨v20, hcal21, hf⟩ := bd_some hf
      refine x_callSi (q := 45) (Wc := []) C (c6_below (l := l) (D := D) (y := y) hcal21) yi_L_below gL_build_L_below ⟨(Nat.le_of_ble_eq_true rfl), (Nat.le_of_ble_eq_true rfl)⟩ dL_build_42 pm_emp rfl rfl (Nat.le_of_ble_eq_true rfl) ⟨by dsimp only; omega, by dsimp only; omega⟩ rfl ?_
      intro rr22 uu hrr
      have hrr : v20 = rr22 := Eq.symm hrr
      subst hrr
      refine x_world (ws' := hC aH aN aF aT aG ++ (gC y aG G ++ (nC y aN N ++ (nC y aF F ++ (tC y aT T10 ++ sC y bS aS8 Y11 S12))))) rfl ?_
      refine x_istore (q := 47) C [1, 2, 3, 4, 5, 0] [(0, .ref aH), (1, .ref bX), (2, .ref bS), (3, .int v7), (4, .int v9), (5, .int v20)] dL_build_45 (by decide) rfl rfl ?_
      refine x_aload_n (q := 48) C 0 dL_build_47 rfl rfl rfl ?_
      refine x_iload (q := 50) C 5 dL_build_48 rfl rfl ?_
      obtain ⟨v23, T24, hcal25, hf⟩ := br2_some hf
      refine x_callVi (q := 53) C (c2_corner (l := l) (D := D) (y := y) (aH := aH) (aG := aG) (aN := aN) (aF := aF) (aT := aT) hcal25) yi_X2_corner gL_build_X2_corner rfl ((oX2 aH aN aF aT aG).L) rfl ⟨(Nat.le_of_ble_eq_true rfl), (Nat.le_of_ble_eq_true rfl)⟩ dL_build_50 (pm6_01234 _ _ _ _ _ _) rfl rfl (Nat.le_of_ble_eq_true rfl) ⟨by dsimp only; omega, by dsimp only; omega⟩ rfl ?_
      intro rr26 uu hrr
      have hrr : v23 = rr26 := Eq.symm hrr
      subst hrr
      refine x_perm (ws' := hC aH aN aF aT aG ++ (gC y aG G ++ (nC y aN N ++ (nC y aF F ++ (tC y aT T24 ++ sC y bS aS8 Y11 S12))))) (pm6_01234 _ _ _ _ _ _).symm ?_
      refine x_iload (q := 55) C 4 dL_build_53 rfl rfl ?_
      refine x_icmp_eq (t := 60) (q := 58) C dL_build_55 (by decide) rfl (fun hc => ?_) (fun hc => ?_)
      · have hf := (if_pos hc).symm.trans hf
        refine x_aload_n (q := 61) C 2 dL_build_60 rfl rfl rfl ?_
        refine x_aload_n (q := 62) C 2 dL_build_61 rfl rfl rfl ?_
        refine x_get (q := 65) C 0 dL_build_62 ((((((oX3 y bS aS8 Y11 S12).R).R).R).R).R) rfl iuL_build_X3 flL_build_28 rfl (by decide) rfl rfl ?_
        refine x_iload (q := 67) C 5 dL_build_65 rfl rfl ?_
        obtain ⟨hg30, hf⟩ := gd_some hf
        have hg30 := of_decide_eq_true hg30
        refine x_world (ws' := (hC aH aN aF aT aG ++ (gC y aG G ++ (nC y aN N ++ (nC y aF F ++ tC y aT T24)))) ++ sC y bS aS8 Y11 S12) (asr5 _ _ _ _ _ _) ?_
        refine x_growH (q := 73) C hg30 gL_build_X3_more dL_build_67 dL_build_70 iuL_build_X3 flL_build_28 ⟨(Nat.le_of_ble_eq_true rfl), (Nat.le_of_ble_eq_true rfl)⟩ (Nat.le_of_ble_eq_true rfl) ⟨by dsimp only; omega, by dsimp only; omega⟩ rfl (fun v_ => ?_)
        obtain ⟨Y27, eY27, hf⟩ := lt_elim hf
        obtain ⟨S28, eS28, hf⟩ := lt_elim hf
        obtain ⟨aS29, eaS29⟩ : ∃ z_ : Nat → Nat, z_ = upA aS8 1 v_ := ⟨_, rfl⟩
        refine x_world (ws' := hC aH aN aF aT aG ++ (gC y aG G ++ (nC y aN N ++ (nC y aF F ++ (tC y aT T24 ++ sC y bS aS29 Y27 S28))))) (by rw [eaS29, eY27, eS28]; exact (asr5 _ _ _ _ _ _).symm) ?_
        clear eaS29
        refine x_widen (k' := kk + 1) (n' := nn + 33) (by omega) (by omega) ?_
        refine x_iinc (q := 76) C 4 (v9 + 1) [1, 2, 3, 4, 0] [(0, .ref aH), (1, .ref bX), (2, .ref bS), (3, .int v7), (4, .int (v9 + 1))] dL_build_73 rfl (congrArg (fun z => v9 + z) ki_1) (by decide) rfl rfl ?_
        refine x_goto (t := 24) C dL_build_76 (by decide) ?_
        exact ih (kk + 1) (nn + 33) aS29 (v9 + 1) T24 Y27 S28 (by omega) (by omega) hf
      · have hf := (if_neg hc).symm.trans hf
        cases hf
set_option maxHeartbeats 4000000 in
set_option maxRecDepth 100000 in
theorem w6_build_L96 {p : Program} {l : Launch} {e : Env} {s : State} {m : MethodId} {args : Array Value} {below : List Frame} {meth : Method} {c : Code} {D : va_G} {A : Nat → Prop} {y : Nat → ClassId} {bS : Nat} {aH : Nat} {aG aN aF aT : Nat → Nat} {Q : State → Prop} {bX LX : Nat} {xs : Nat → Int32} {G : St} {N : St} {F : St} {v7 : Int32} {v37 : Int32} {N' : St} {T' : St} {Y' : (Nat → Nat)} {S' : St} {K : St → (Nat → Nat) → St → Option (St × St × (Nat → Nat) × St)} (C : xC p s m args meth c D A cL_build RL 12 wsL_build (xT y) (some (.object "LampHillsLaw$Sim"))) (hJ : xJ2 s) (hX : xS bX LX xs s A) {kX nX : Nat} (hm1 : kX ≤ 3000) (hm2 : nX ≤ 90000) (hK : ∀ (aS43 : Nat → Nat) (T44 : St) (Y45 : (Nat → Nat)) (S46 : St), K T44 Y45 S46 = some (N', T', Y', S') → xV p l e { frames := 9, cells := 3000, slots := 90000, locals := 160 } s m args below meth c D A Q 12 (hC aH aN aF aT aG ++ (gC y aG G ++ (nC y aN N ++ (nC y aF F ++ (tC y aT T44 ++ sC y bS aS43 Y45 S46))))) kX nX [(0, .ref aH), (1, .ref bX), (2, .ref bS), (3, .int v7), (4, .int v37)] 254 []) : ∀ (fu : Nat) (kk nn : Nat) (aS38 : Nat → Nat) (v39 : Int32) (T40 : St) (Y41 : (Nat → Nat)) (S42 : St), kk + 2 * fu ≤ kX → nn + 36 * fu ≤ nX → f6_build_L96 v7 v37 xs LX G N F K fu v39 T40 Y41 S42 = some (N', T', Y', S') → xV p l e { frames := 9, cells := 3000, slots := 90000, locals := 160 } s m args below meth c D A Q 12 (hC aH aN aF aT aG ++ (gC y aG G ++ (nC y aN N ++ (nC y aF F ++ (tC y aT T40 ++ sC y bS aS38 Y41 S42))))) kk nn [(0, .ref aH), (1, .ref bX), (2, .ref bS), (3, .int v7), (4, .int v37), (5, .int v39)] 96 [] := by
  intro fu
  induction fu with
  | zero => intro kk nn aS38 v39 T40 Y41 S42 hb1 hb2 hf; rw [f6_build_L96] at hf; cases hf
  | succ fu ih =>
    intro kk nn aS38 v39 T40 Y41 S42 hb1 hb2 hf
    rw [f6_build_L96] at hf
    refine x_iload (q := 98) C 5 dL_build_96 rfl rfl ?_
    refine x_iload (q := 100) C 4 dL_build_98 rfl rfl ?_
    refine x_icmp_ge (t := 254) (q := 103) C dL_build_100 (by decide) rfl (fun hc => ?_) (fun hc => ?_)
    · have hf := (if_pos hc).symm.trans hf
      refine x_sub [0, 1, 2, 3, 4] (L' := [(0, .ref aH), (1, .ref bX), (2, .ref bS), (3, .int v7), (4, .int v37)]) rfl ?_
      refine x_widen (k' := kX) (n' := nX) (by omega) (by omega) ?_
      exact hK aS38 T40 Y41 S42 hf
    · have hf := (if_neg hc).symm.trans hf
      refine x_aload_n (q := 104) C 1 dL_build_103 rfl rfl rfl ?_
      refine x_iconst (q := 105) C dL_build_104 ki_3 rfl ?_
      refine x_iload (q := 107) C 5 dL_build_105 rfl rfl ?_
      refine x_iconst (q := 108) C dL_build_107 ki_3 rfl ?_
      refine x_irem (q := 109) C dL_build_108 (by decide) rfl ?_
      refine x_iadd (q := 110) C dL_build_109 rfl ?_
      obtain ⟨v47, hcal48, hf⟩ := bd_some hf
      refine x_callXSi (q := 113) (Wc := []) C hJ hX (c6_cell (l := l) (D := D) (y := y) (b := bX) hcal48) yi_L_cell gL_build_L_cell ⟨(Nat.le_of_ble_eq_true rfl), (Nat.le_of_ble_eq_true rfl)⟩ dL_build_110 pm_emp rfl rfl (Nat.le_of_ble_eq_true rfl) ⟨by dsimp only; omega, by dsimp only; omega⟩ rfl ?_
      intro rr49 uu hrr
      have hrr : v47 = rr49 := Eq.symm hrr
      subst hrr
      refine x_world (ws' := hC aH aN aF aT aG ++ (gC y aG G ++ (nC y aN N ++ (nC y aF F ++ (tC y aT T40 ++ sC y bS aS38 Y41 S42))))) rfl ?_
      refine x_iload (q := 115) C 5 dL_build_113 rfl rfl ?_
      refine x_iconst (q := 116) C dL_build_115 ki_3 rfl ?_
      refine x_idiv (q := 117) C dL_build_116 (by decide) rfl ?_
      refine x_iconst (q := 118) C dL_build_117 ki_3 rfl ?_
      refine x_imul (q := 119) C dL_build_118 rfl ?_
      refine x_ishr (q := 120) C dL_build_119 rfl ?_
      refine x_bipush (q := 122) C dL_build_120 kb_13 rfl ?_
      refine x_iload (q := 124) C 5 dL_build_122 rfl rfl ?_
      refine x_imul (q := 125) C dL_build_124 rfl ?_
      refine x_iadd (q := 126) C dL_build_125 rfl ?_
      obtain ⟨v50, ev50, hf⟩ := lt_elim hf
      refine x_topi ev50 ?_
      refine x_istore (q := 128) C [1, 2, 3, 4, 5, 6, 0] [(0, .ref aH), (1, .ref bX), (2, .ref bS), (3, .int v7), (4, .int v37), (5, .int v39), (6, .int v50)] dL_build_126 (by decide) rfl rfl ?_
      refine x_iload (q := 130) C 5 dL_build_128 rfl rfl ?_
      refine x_iload_n (q := 131) C 3 dL_build_130 rfl rfl rfl ?_
      refine x_iconst (q := 132) C dL_build_131 ki_1 rfl ?_
      refine x_isub (q := 133) C dL_build_132 rfl ?_
      obtain ⟨J159, eJ159, hf⟩ := lt_elim hf
      have hJ159 : ∀ (v51 : Int32), J159 v51 = some (N', T', Y', S') → xV p l e { frames := 9, cells := 3000, slots := 90000, locals := 160 } s m args below meth c D A Q 12 (hC aH aN aF aT aG ++ (gC y aG G ++ (nC y aN N ++ (nC y aF F ++ (tC y aT T40 ++ sC y bS aS38 Y41 S42))))) kk nn [(0, .ref aH), (1, .ref bX), (2, .ref bS), (3, .int v7), (4, .int v37), (5, .int v39), (6, .int v50)] 159 [.int v51] := by
        intro v51 hf
        subst eJ159
        refine x_istore (q := 161) C [1, 2, 3, 4, 5, 6, 7, 0] [(0, .ref aH), (1, .ref bX), (2, .ref bS), (3, .int v7), (4, .int v37), (5, .int v39), (6, .int v50), (7, .int v51)] dL_build_159 (by decide) rfl rfl ?_
        refine x_iload (q := 163) C 7 dL_build_161 rfl rfl ?_
        refine x_iconst (q := 164) C dL_build_163 ki_1 rfl ?_
        refine x_iadd (q := 165) C dL_build_164 rfl ?_
        refine x_iload (q := 167) C 6 dL_build_165 rfl rfl ?_
        refine x_iconst (q := 168) C dL_build_167 ki_2 rfl ?_
        refine x_ishr (q := 169) C dL_build_168 rfl ?_
        refine x_iconst (q := 170) C dL_build_169 ki_3 rfl ?_
        refine x_iload_n (q := 171) C 3 dL_build_170 rfl rfl rfl ?_
        refine x_iconst (q := 172) C dL_build_171 ki_1 rfl ?_
        refine x_isub (q := 173) C dL_build_172 rfl ?_
        refine x_mmin (q := 176) C dL_build_173 kmL_build_36 (Nat.le_of_ble_eq_true rfl) (Nat.le_of_ble_eq_true rfl) (by dsimp only; omega) (by dsimp only; omega) rfl ?_
        obtain ⟨v52, hcal53, hf⟩ := bd_some hf
        refine x_callSi (q := 179) (Wc := []) C (c6_below (l := l) (D := D) (y := y) hcal53) yi_L_below gL_build_L_below ⟨(Nat.le_of_ble_eq_true rfl), (Nat.le_of_ble_eq_true rfl)⟩ dL_build_176 pm_emp rfl rfl (Nat.le_of_ble_eq_true rfl) ⟨by dsimp only; omega, by dsimp only; omega⟩ rfl ?_
        intro rr54 uu hrr
        have hrr : v52 = rr54 := Eq.symm hrr
        subst hrr
        refine x_world (ws' := hC aH aN aF aT aG ++ (gC y aG G ++ (nC y aN N ++ (nC y aF F ++ (tC y aT T40 ++ sC y bS aS38 Y41 S42))))) rfl ?_
        refine x_iadd (q := 180) C dL_build_179 rfl ?_
        refine x_iload_n (q := 181) C 3 dL_build_180 rfl rfl rfl ?_
        obtain ⟨hz55, hf⟩ := gd_some hf
        refine x_irem (q := 182) C dL_build_181 (of_decide_eq_true hz55) rfl ?_
        obtain ⟨v56, ev56, hf⟩ := lt_elim hf
        refine x_topi ev56 ?_
        refine x_istore (q := 184) C [1, 2, 3, 4, 5, 6, 7, 8, 0] [(0, .ref aH), (1, .ref bX), (2, .ref bS), (3, .int v7), (4, .int v37), (5, .int v39), (6, .int v50), (7, .int v51), (8, .int v56)] dL_build_182 (by decide) rfl rfl ?_
        refine x_aload_n (q := 185) C 0 dL_build_184 rfl rfl rfl ?_
        refine x_iload (q := 187) C 7 dL_build_185 rfl rfl ?_
        refine x_iload (q := 189) C 8 dL_build_187 rfl rfl ?_
        refine x_iconst (q := 190) C dL_build_189 ki_1 rfl ?_
        refine x_iload (q := 192) C 6 dL_build_190 rfl rfl ?_
        refine x_iconst (q := 193) C dL_build_192 ki_4 rfl ?_
        refine x_ishr (q := 194) C dL_build_193 rfl ?_
        refine x_bipush (q := 196) C dL_build_194 kb_9 rfl ?_
        obtain ⟨v57, hcal58, hf⟩ := bd_some hf
        refine x_callSi (q := 199) (Wc := []) C (c6_below (l := l) (D := D) (y := y) hcal58) yi_L_below gL_build_L_below ⟨(Nat.le_of_ble_eq_true rfl), (Nat.le_of_ble_eq_true rfl)⟩ dL_build_196 pm_emp rfl rfl (Nat.le_of_ble_eq_true rfl) ⟨by dsimp only; omega, by dsimp only; omega⟩ rfl ?_
        intro rr59 uu hrr
        have hrr : v57 = rr59 := Eq.symm hrr
        subst hrr
        refine x_world (ws' := hC aH aN aF aT aG ++ (gC y aG G ++ (nC y aN N ++ (nC y aF F ++ (tC y aT T40 ++ sC y bS aS38 Y41 S42))))) rfl ?_
        refine x_iadd (q := 200) C dL_build_199 rfl ?_
        obtain ⟨v60, T61, hcal62, hf⟩ := br2_some hf
        refine x_callVi (q := 203) C (c2_street (l := l) (D := D) (y := y) (aH := aH) (aG := aG) (aN := aN) (aF := aF) (aT := aT) hcal62) yi_X2_street gL_build_X2_street rfl ((oX2 aH aN aF aT aG).L) rfl ⟨(Nat.le_of_ble_eq_true rfl), (Nat.le_of_ble_eq_true rfl)⟩ dL_build_200 (pm6_01234 _ _ _ _ _ _) rfl rfl (Nat.le_of_ble_eq_true rfl) ⟨by dsimp only; omega, by dsimp only; omega⟩ rfl ?_
        intro rr63 uu hrr
        have hrr : v60 = rr63 := Eq.symm hrr
        subst hrr
        refine x_perm (ws' := hC aH aN aF aT aG ++ (gC y aG G ++ (nC y aN N ++ (nC y aF F ++ (tC y aT T61 ++ sC y bS aS38 Y41 S42))))) (pm6_01234 _ _ _ _ _ _).symm ?_
        refine x_iload (q := 205) C 5 dL_build_203 rfl rfl ?_
        refine x_icmp_eq (t := 210) (q := 208) C dL_build_205 (by decide) rfl (fun hc => ?_) (fun hc => ?_)
        · have hf := (if_pos hc).symm.trans hf
          refine x_aload_n (q := 211) C 2 dL_build_210 rfl rfl rfl ?_
          refine x_aload_n (q := 212) C 2 dL_build_211 rfl rfl rfl ?_
          refine x_get (q := 215) C 1 dL_build_212 ((((((oX3 y bS aS38 Y41 S42).R).R).R).R).R) rfl iuL_build_X3 flL_build_45 rfl (by decide) rfl rfl ?_
          refine x_iconst (q := 216) C dL_build_215 ki_3 rfl ?_
          refine x_newa (q := 218) C 3 dL_build_216 knL_build rfl (by decide) (by decide) (by decide) (by dsimp only; omega) (by dsimp only; omega) rfl (fun q64 => ?_)
          refine x_world (ws' := hC aH aN aF aT aG ++ (gC y aG G ++ (nC y aN N ++ (nC y aF F ++ (tC y aT T61 ++ (sC y bS aS38 Y41 S42 ++ zC y q64 3 (fun _ => 0))))))) (asr6 _ _ _ _ _ _ _).symm ?_
          refine x_widen (k' := kk + 1) (n' := nn + 3) (by omega) (by omega) ?_
          refine x_dup (q := 219) C dL_build_218 rfl rfl ?_
          refine x_iconst (q := 220) C dL_build_219 ki_0 rfl ?_
          refine x_iload (q := 222) C 7 dL_build_220 rfl rfl ?_
          have hb65 : xin 0 3 = true := by decide
          obtain ⟨f66, ef66, hf⟩ := lt_elim hf
          refine x_iast (q := 223) (ws' := hC aH aN aF aT aG ++ (gC y aG G ++ (nC y aN N ++ (nC y aF F ++ (tC y aT T61 ++ (sC y bS aS38 Y41 S42 ++ zC y q64 3 f66)))))) C 0 dL_build_222 (((((((zA y q64 3 (fun _ => 0)).R).R).R).R).R).R) rfl hb65 (congrArg (fun z => hC aH aN aF aT aG ++ (gC y aG G ++ (nC y aN N ++ (nC y aF F ++ (tC y aT T61 ++ (sC y bS aS38 Y41 S42 ++ zC y q64 3 z)))))) ef66.symm) rfl ?_
          refine x_dup (q := 224) C dL_build_223 rfl rfl ?_
          refine x_iconst (q := 225) C dL_build_224 ki_1 rfl ?_
          refine x_iload (q := 227) C 8 dL_build_225 rfl rfl ?_
          have hb67 : xin 1 3 = true := by decide
          obtain ⟨f68, ef68, hf⟩ := lt_elim hf
          refine x_iast (q := 228) (ws' := hC aH aN aF aT aG ++ (gC y aG G ++ (nC y aN N ++ (nC y aF F ++ (tC y aT T61 ++ (sC y bS aS38 Y41 S42 ++ zC y q64 3 f68)))))) C 0 dL_build_227 (((((((zA y q64 3 f66).R).R).R).R).R).R) rfl hb67 (congrArg (fun z => hC aH aN aF aT aG ++ (gC y aG G ++ (nC y aN N ++ (nC y aF F ++ (tC y aT T61 ++ (sC y bS aS38 Y41 S42 ++ zC y q64 3 z)))))) ef68.symm) rfl ?_
          refine x_dup (q := 229) C dL_build_228 rfl rfl ?_
          refine x_iconst (q := 230) C dL_build_229 ki_2 rfl ?_
          refine x_iconst (q := 231) C dL_build_230 ki_1 rfl ?_
          refine x_iload (q := 233) C 6 dL_build_231 rfl rfl ?_
          refine x_iconst (q := 234) C dL_build_233 ki_4 rfl ?_
          refine x_ishr (q := 235) C dL_build_234 rfl ?_
          refine x_bipush (q := 237) C dL_build_235 kb_9 rfl ?_
          obtain ⟨v69, hcal70, hf⟩ := bd_some hf
          refine x_callSi (q := 240) (Wc := []) C (c6_below (l := l) (D := D) (y := y) hcal70) yi_L_below gL_build_L_below ⟨(Nat.le_of_ble_eq_true rfl), (Nat.le_of_ble_eq_true rfl)⟩ dL_build_237 pm_emp rfl rfl (Nat.le_of_ble_eq_true rfl) ⟨by dsimp only; omega, by dsimp only; omega⟩ rfl ?_
          intro rr71 uu hrr
          have hrr : v69 = rr71 := Eq.symm hrr
          subst hrr
          refine x_world (ws' := hC aH aN aF aT aG ++ (gC y aG G ++ (nC y aN N ++ (nC y aF F ++ (tC y aT T61 ++ (sC y bS aS38 Y41 S42 ++ zC y q64 3 f68)))))) rfl ?_
          refine x_iadd (q := 241) C dL_build_240 rfl ?_
          have hb72 : xin 2 3 = true := by decide
          obtain ⟨f73, ef73, hf⟩ := lt_elim hf
          refine x_iast (q := 242) (ws' := hC aH aN aF aT aG ++ (gC y aG G ++ (nC y aN N ++ (nC y aF F ++ (tC y aT T61 ++ (sC y bS aS38 Y41 S42 ++ zC y q64 3 f73)))))) C 0 dL_build_241 (((((((zA y q64 3 f68).R).R).R).R).R).R) rfl hb72 (congrArg (fun z => hC aH aN aF aT aG ++ (gC y aG G ++ (nC y aN N ++ (nC y aF F ++ (tC y aT T61 ++ (sC y bS aS38 Y41 S42 ++ zC y q64 3 z)))))) ef73.symm) rfl ?_
          obtain ⟨hg77, hf⟩ := gd_some hf
          have hg77 := of_decide_eq_true hg77
          refine x_world (ws' := ((hC aH aN aF aT aG ++ (gC y aG G ++ (nC y aN N ++ (nC y aF F ++ tC y aT T61)))) ++ sC y bS aS38 Y41 S42) ++ zC y q64 3 f73) ((asr6 _ _ _ _ _ _ _).trans (congrArg (fun z_ => z_ ++ zC y q64 3 f73) (asr5 _ _ _ _ _ _))) ?_
          refine x_grow2 (q := 248) C hJ hg77 gL_build_X3_more_ dL_build_242 dL_build_245 iuL_build_X3 flL_build_45 ⟨(Nat.le_of_ble_eq_true rfl), (Nat.le_of_ble_eq_true rfl)⟩ (Nat.le_of_ble_eq_true rfl) ⟨by dsimp only; omega, by dsimp only; omega⟩ rfl (fun v_ => ?_)
          obtain ⟨Y74, eY74, hf⟩ := lt_elim hf
          obtain ⟨S75, eS75, hf⟩ := lt_elim hf
          obtain ⟨aS76, eaS76⟩ : ∃ z_ : Nat → Nat, z_ = upA (upA aS38 2 v_) (rk 10 (Y41 2)) q64 := ⟨_, rfl⟩
          refine x_world (ws' := hC aH aN aF aT aG ++ (gC y aG G ++ (nC y aN N ++ (nC y aF F ++ (tC y aT T61 ++ sC y bS aS76 Y74 S75))))) (by rw [eaS76, eY74, eS75]; exact (asr5 _ _ _ _ _ _).symm) ?_
          clear eaS76
          refine x_widen (k' := kk + 2) (n' := nn + 36) (by omega) (by omega) ?_
          refine x_iinc (q := 251) C 5 (v39 + 1) [1, 2, 3, 4, 5, 0] [(0, .ref aH), (1, .ref bX), (2, .ref bS), (3, .int v7), (4, .int v37), (5, .int (v39 + 1))] dL_build_248 rfl (congrArg (fun z => v39 + z) ki_1) (by decide) rfl rfl ?_
          refine x_goto (t := 96) C dL_build_251 (by decide) ?_
          exact ih (kk + 2) (nn + 36) aS76 (v39 + 1) T61 Y74 S75 (by omega) (by omega) hf
        · have hf := (if_neg hc).symm.trans hf
          cases hf
      obtain ⟨J153, eJ153, hf⟩ := lt_elim hf
      have hJ153 : ∀ (u_ : Unit), J153 u_ = some (N', T', Y', S') → xV p l e { frames := 9, cells := 3000, slots := 90000, locals := 160 } s m args below meth c D A Q 12 (hC aH aN aF aT aG ++ (gC y aG G ++ (nC y aN N ++ (nC y aF F ++ (tC y aT T40 ++ sC y bS aS38 Y41 S42))))) kk nn [(0, .ref aH), (1, .ref bX), (2, .ref bS), (3, .int v7), (4, .int v37), (5, .int v39), (6, .int v50)] 153 [] := by
        intro u_ hf
        subst eJ153
        refine x_iload (q := 155) C 6 dL_build_153 rfl rfl ?_
        refine x_iload_n (q := 156) C 3 dL_build_155 rfl rfl rfl ?_
        obtain ⟨v78, hcal79, hf⟩ := bd_some hf
        refine x_callSi (q := 159) (Wc := []) C (c6_below (l := l) (D := D) (y := y) hcal79) yi_L_below gL_build_L_below ⟨(Nat.le_of_ble_eq_true rfl), (Nat.le_of_ble_eq_true rfl)⟩ dL_build_156 pm_emp rfl rfl (Nat.le_of_ble_eq_true rfl) ⟨by dsimp only; omega, by dsimp only; omega⟩ rfl ?_
        intro rr80 uu hrr
        have hrr : v78 = rr80 := Eq.symm hrr
        subst hrr
        refine x_world (ws' := hC aH aN aF aT aG ++ (gC y aG G ++ (nC y aN N ++ (nC y aF F ++ (tC y aT T40 ++ sC y bS aS38 Y41 S42))))) rfl ?_
        exact hJ159 v78 hf
      refine x_icmp_ge (t := 153) (q := 136) C dL_build_133 (by decide) rfl (fun hc => ?_) (fun hc => ?_)
      · have hf := (if_pos hc).symm.trans hf
        exact hJ153 () hf
      · have hf := (if_neg hc).symm.trans hf
        refine x_iload (q := 138) C 6 dL_build_136 rfl rfl ?_
        refine x_bipush (q := 140) C dL_build_138 kb_6 rfl ?_
        refine x_ishr (q := 141) C dL_build_140 rfl ?_
        refine x_iconst (q := 142) C dL_build_141 ki_5 rfl ?_
        obtain ⟨v81, hcal82, hf⟩ := bd_some hf
        refine x_callSi (q := 145) (Wc := []) C (c6_below (l := l) (D := D) (y := y) hcal82) yi_L_below gL_build_L_below ⟨(Nat.le_of_ble_eq_true rfl), (Nat.le_of_ble_eq_true rfl)⟩ dL_build_142 pm_emp rfl rfl (Nat.le_of_ble_eq_true rfl) ⟨by dsimp only; omega, by dsimp only; omega⟩ rfl ?_
        intro rr83 uu hrr
        have hrr : v81 = rr83 := Eq.symm hrr
        subst hrr
        refine x_world (ws' := hC aH aN aF aT aG ++ (gC y aG G ++ (nC y aN N ++ (nC y aF F ++ (tC y aT T40 ++ sC y bS aS38 Y41 S42))))) rfl ?_
        refine x_if_le (t := 153) (q := 148) C dL_build_145 (by decide) rfl (fun hc => ?_) (fun hc => ?_)
        · have hf := (if_pos hc).symm.trans hf
          exact hJ153 () hf
        · have hf := (if_neg hc).symm.trans hf
          refine x_iload (q := 150) C 5 dL_build_148 rfl rfl ?_
          refine x_goto (t := 159) C dL_build_150 (by decide) ?_
          exact hJ159 v39 hf
set_option maxHeartbeats 4000000 in
set_option maxRecDepth 100000 in
theorem w6_build_L276 {p : Program} {l : Launch} {e : Env} {s : State} {m : MethodId} {args : Array Value} {below : List Frame} {meth : Method} {c : Code} {D : va_G} {A : Nat → Prop} {y : Nat → ClassId} {bS : Nat} {aH : Nat} {aG aN aF aT : Nat → Nat} {Q : State → Prop} {bX LX : Nat} {xs : Nat → Int32} {G : St} {N : St} {F : St} {v7 : Int32} {v37 : Int32} {v92 : Int32} {N' : St} {T' : St} {Y' : (Nat → Nat)} {S' : St} {K : St → (Nat → Nat) → St → Option (St × St × (Nat → Nat) × St)} (C : xC p s m args meth c D A cL_build RL 12 wsL_build (xT y) (some (.object "LampHillsLaw$Sim"))) (hJ : xJ2 s) (hX : xS bX LX xs s A) {kX nX : Nat} (hm1 : kX ≤ 3000) (hm2 : nX ≤ 90000) (hK : ∀ (aS98 : Nat → Nat) (T99 : St) (Y100 : (Nat → Nat)) (S101 : St), K T99 Y100 S101 = some (N', T', Y', S') → xV p l e { frames := 9, cells := 3000, slots := 90000, locals := 160 } s m args below meth c D A Q 12 (hC aH aN aF aT aG ++ (gC y aG G ++ (nC y aN N ++ (nC y aF F ++ (tC y aT T99 ++ sC y bS aS98 Y100 S101))))) kX nX [(0, .ref aH), (1, .ref bX), (2, .ref bS), (3, .int v7), (5, .int v92)] 453 []) : ∀ (fu : Nat) (kk nn : Nat) (aS93 : Nat → Nat) (v94 : Int32) (T95 : St) (Y96 : (Nat → Nat)) (S97 : St), kk + 2 * fu ≤ kX → nn + 41 * fu ≤ nX → f6_build_L276 v37 v92 xs LX G N F K fu v94 T95 Y96 S97 = some (N', T', Y', S') → xV p l e { frames := 9, cells := 3000, slots := 90000, locals := 160 } s m args below meth c D A Q 12 (hC aH aN aF aT aG ++ (gC y aG G ++ (nC y aN N ++ (nC y aF F ++ (tC y aT T95 ++ sC y bS aS93 Y96 S97))))) kk nn [(0, .ref aH), (1, .ref bX), (2, .ref bS), (3, .int v7), (4, .int v37), (5, .int v92), (6, .int v94)] 276 [] := by
  intro fu
  induction fu with
  | zero => intro kk nn aS93 v94 T95 Y96 S97 hb1 hb2 hf; rw [f6_build_L276] at hf; cases hf
  | succ fu ih =>
    intro kk nn aS93 v94 T95 Y96 S97 hb1 hb2 hf
    rw [f6_build_L276] at hf
    refine x_iload (q := 278) C 6 dL_build_276 rfl rfl ?_
    refine x_iload (q := 280) C 5 dL_build_278 rfl rfl ?_
    refine x_icmp_ge (t := 453) (q := 283) C dL_build_280 (by decide) rfl (fun hc => ?_) (fun hc => ?_)
    · have hf := (if_pos hc).symm.trans hf
      refine x_sub [0, 1, 2, 3, 5] (L' := [(0, .ref aH), (1, .ref bX), (2, .ref bS), (3, .int v7), (5, .int v92)]) rfl ?_
      refine x_widen (k' := kX) (n' := nX) (by omega) (by omega) ?_
      exact hK aS93 T95 Y96 S97 hf
    · have hf := (if_neg hc).symm.trans hf
      refine x_aload_n (q := 284) C 1 dL_build_283 rfl rfl rfl ?_
      refine x_bipush (q := 286) C dL_build_284 kb_7 rfl ?_
      refine x_iload (q := 288) C 6 dL_build_286 rfl rfl ?_
      refine x_iconst (q := 289) C dL_build_288 ki_3 rfl ?_
      refine x_irem (q := 290) C dL_build_289 (by decide) rfl ?_
      refine x_iadd (q := 291) C dL_build_290 rfl ?_
      obtain ⟨v102, hcal103, hf⟩ := bd_some hf
      refine x_callXSi (q := 294) (Wc := []) C hJ hX (c6_cell (l := l) (D := D) (y := y) (b := bX) hcal103) yi_L_cell gL_build_L_cell ⟨(Nat.le_of_ble_eq_true rfl), (Nat.le_of_ble_eq_true rfl)⟩ dL_build_291 pm_emp rfl rfl (Nat.le_of_ble_eq_true rfl) ⟨by dsimp only; omega, by dsimp only; omega⟩ rfl ?_
      intro rr104 uu hrr
      have hrr : v102 = rr104 := Eq.symm hrr
      subst hrr
      refine x_world (ws' := hC aH aN aF aT aG ++ (gC y aG G ++ (nC y aN N ++ (nC y aF F ++ (tC y aT T95 ++ sC y bS aS93 Y96 S97))))) rfl ?_
      refine x_iload (q := 296) C 6 dL_build_294 rfl rfl ?_
      refine x_iconst (q := 297) C dL_build_296 ki_3 rfl ?_
      refine x_idiv (q := 298) C dL_build_297 (by decide) rfl ?_
      refine x_ishr (q := 299) C dL_build_298 rfl ?_
      refine x_bipush (q := 301) C dL_build_299 kb_7 rfl ?_
      refine x_iload (q := 303) C 6 dL_build_301 rfl rfl ?_
      refine x_imul (q := 304) C dL_build_303 rfl ?_
      refine x_iadd (q := 305) C dL_build_304 rfl ?_
      obtain ⟨v105, ev105, hf⟩ := lt_elim hf
      refine x_topi ev105 ?_
      refine x_istore (q := 307) C [1, 2, 3, 4, 5, 6, 7, 0] [(0, .ref aH), (1, .ref bX), (2, .ref bS), (3, .int v7), (4, .int v37), (5, .int v92), (6, .int v94), (7, .int v105)] dL_build_305 (by decide) rfl rfl ?_
      refine x_iload (q := 309) C 7 dL_build_307 rfl rfl ?_
      refine x_iload (q := 311) C 4 dL_build_309 rfl rfl ?_
      obtain ⟨v106, hcal107, hf⟩ := bd_some hf
      refine x_callSi (q := 314) (Wc := []) C (c6_below (l := l) (D := D) (y := y) hcal107) yi_L_below gL_build_L_below ⟨(Nat.le_of_ble_eq_true rfl), (Nat.le_of_ble_eq_true rfl)⟩ dL_build_311 pm_emp rfl rfl (Nat.le_of_ble_eq_true rfl) ⟨by dsimp only; omega, by dsimp only; omega⟩ rfl ?_
      intro rr108 uu hrr
      have hrr : v106 = rr108 := Eq.symm hrr
      subst hrr
      refine x_world (ws' := hC aH aN aF aT aG ++ (gC y aG G ++ (nC y aN N ++ (nC y aF F ++ (tC y aT T95 ++ sC y bS aS93 Y96 S97))))) rfl ?_
      refine x_istore (q := 316) C [1, 2, 3, 4, 5, 6, 7, 8, 0] [(0, .ref aH), (1, .ref bX), (2, .ref bS), (3, .int v7), (4, .int v37), (5, .int v92), (6, .int v94), (7, .int v105), (8, .int v106)] dL_build_314 (by decide) rfl rfl ?_
      refine x_iconst (q := 317) C dL_build_316 ki_2 rfl ?_
      refine x_iload (q := 319) C 7 dL_build_317 rfl rfl ?_
      refine x_iconst (q := 320) C dL_build_319 ki_3 rfl ?_
      refine x_ishr (q := 321) C dL_build_320 rfl ?_
      refine x_bipush (q := 323) C dL_build_321 kb_8 rfl ?_
      obtain ⟨v109, hcal110, hf⟩ := bd_some hf
      refine x_callSi (q := 326) (Wc := []) C (c6_below (l := l) (D := D) (y := y) hcal110) yi_L_below gL_build_L_below ⟨(Nat.le_of_ble_eq_true rfl), (Nat.le_of_ble_eq_true rfl)⟩ dL_build_323 pm_emp rfl rfl (Nat.le_of_ble_eq_true rfl) ⟨by dsimp only; omega, by dsimp only; omega⟩ rfl ?_
      intro rr111 uu hrr
      have hrr : v109 = rr111 := Eq.symm hrr
      subst hrr
      refine x_world (ws' := hC aH aN aF aT aG ++ (gC y aG G ++ (nC y aN N ++ (nC y aF F ++ (tC y aT T95 ++ sC y bS aS93 Y96 S97))))) rfl ?_
      refine x_iadd (q := 327) C dL_build_326 rfl ?_
      obtain ⟨v112, ev112, hf⟩ := lt_elim hf
      refine x_topi ev112 ?_
      refine x_istore (q := 329) C [1, 2, 3, 4, 5, 6, 7, 8, 9, 0] [(0, .ref aH), (1, .ref bX), (2, .ref bS), (3, .int v7), (4, .int v37), (5, .int v92), (6, .int v94), (7, .int v105), (8, .int v106), (9, .int v112)] dL_build_327 (by decide) rfl rfl ?_
      refine x_aload_n (q := 330) C 0 dL_build_329 rfl rfl rfl ?_
      refine x_iload (q := 332) C 8 dL_build_330 rfl rfl ?_
      refine x_iload (q := 334) C 9 dL_build_332 rfl rfl ?_
      obtain ⟨v113, T114, hcal115, hf⟩ := br2_some hf
      refine x_callVi (q := 337) C (c2_lamp (l := l) (D := D) (y := y) (aH := aH) (aG := aG) (aN := aN) (aF := aF) (aT := aT) hcal115) yi_X2_lamp gL_build_X2_lamp rfl ((oX2 aH aN aF aT aG).L) rfl ⟨(Nat.le_of_ble_eq_true rfl), (Nat.le_of_ble_eq_true rfl)⟩ dL_build_334 (pm6_01234 _ _ _ _ _ _) rfl rfl (Nat.le_of_ble_eq_true rfl) ⟨by dsimp only; omega, by dsimp only; omega⟩ rfl ?_
      intro rr116 uu hrr
      have hrr : v113 = rr116 := Eq.symm hrr
      subst hrr
      refine x_perm (ws' := hC aH aN aF aT aG ++ (gC y aG G ++ (nC y aN N ++ (nC y aF F ++ (tC y aT T114 ++ sC y bS aS93 Y96 S97))))) (pm6_01234 _ _ _ _ _ _).symm ?_
      refine x_iload (q := 339) C 6 dL_build_337 rfl rfl ?_
      refine x_icmp_eq (t := 344) (q := 342) C dL_build_339 (by decide) rfl (fun hc => ?_) (fun hc => ?_)
      · have hf := (if_pos hc).symm.trans hf
        refine x_aload_n (q := 345) C 2 dL_build_344 rfl rfl rfl ?_
        refine x_aload_n (q := 346) C 2 dL_build_345 rfl rfl rfl ?_
        refine x_get (q := 349) C 2 dL_build_346 ((((((oX3 y bS aS93 Y96 S97).R).R).R).R).R) rfl iuL_build_X3 flL_build_58 rfl (by decide) rfl rfl ?_
        refine x_bipush (q := 351) C dL_build_349 kb_8 rfl ?_
        refine x_newa (q := 353) C 8 dL_build_351 knL_build rfl (by decide) (by decide) (by decide) (by dsimp only; omega) (by dsimp only; omega) rfl (fun q117 => ?_)
        refine x_world (ws' := hC aH aN aF aT aG ++ (gC y aG G ++ (nC y aN N ++ (nC y aF F ++ (tC y aT T114 ++ (sC y bS aS93 Y96 S97 ++ zC y q117 8 (fun _ => 0))))))) (asr6 _ _ _ _ _ _ _).symm ?_
        refine x_widen (k' := kk + 1) (n' := nn + 8) (by omega) (by omega) ?_
        refine x_dup (q := 354) C dL_build_353 rfl rfl ?_
        refine x_iconst (q := 355) C dL_build_354 ki_0 rfl ?_
        refine x_iload (q := 357) C 8 dL_build_355 rfl rfl ?_
        have hb118 : xin 0 8 = true := by decide
        obtain ⟨f119, ef119, hf⟩ := lt_elim hf
        refine x_iast (q := 358) (ws' := hC aH aN aF aT aG ++ (gC y aG G ++ (nC y aN N ++ (nC y aF F ++ (tC y aT T114 ++ (sC y bS aS93 Y96 S97 ++ zC y q117 8 f119)))))) C 0 dL_build_357 (((((((zA y q117 8 (fun _ => 0)).R).R).R).R).R).R) rfl hb118 (congrArg (fun z => hC aH aN aF aT aG ++ (gC y aG G ++ (nC y aN N ++ (nC y aF F ++ (tC y aT T114 ++ (sC y bS aS93 Y96 S97 ++ zC y q117 8 z)))))) ef119.symm) rfl ?_
        refine x_dup (q := 359) C dL_build_358 rfl rfl ?_
        refine x_iconst (q := 360) C dL_build_359 ki_1 rfl ?_
        refine x_iload (q := 362) C 9 dL_build_360 rfl rfl ?_
        have hb120 : xin 1 8 = true := by decide
        obtain ⟨f121, ef121, hf⟩ := lt_elim hf
        refine x_iast (q := 363) (ws' := hC aH aN aF aT aG ++ (gC y aG G ++ (nC y aN N ++ (nC y aF F ++ (tC y aT T114 ++ (sC y bS aS93 Y96 S97 ++ zC y q117 8 f121)))))) C 0 dL_build_362 (((((((zA y q117 8 f119).R).R).R).R).R).R) rfl hb120 (congrArg (fun z => hC aH aN aF aT aG ++ (gC y aG G ++ (nC y aN N ++ (nC y aF F ++ (tC y aT T114 ++ (sC y bS aS93 Y96 S97 ++ zC y q117 8 z)))))) ef121.symm) rfl ?_
        refine x_dup (q := 364) C dL_build_363 rfl rfl ?_
        refine x_iconst (q := 365) C dL_build_364 ki_2 rfl ?_
        refine x_iconst (q := 366) C dL_build_365 ki_0 rfl ?_
        have hb122 : xin 2 8 = true := by decide
        obtain ⟨f123, ef123, hf⟩ := lt_elim hf
        refine x_iast (q := 367) (ws' := hC aH aN aF aT aG ++ (gC y aG G ++ (nC y aN N ++ (nC y aF F ++ (tC y aT T114 ++ (sC y bS aS93 Y96 S97 ++ zC y q117 8 f123)))))) C 0 dL_build_366 (((((((zA y q117 8 f121).R).R).R).R).R).R) rfl hb122 (congrArg (fun z => hC aH aN aF aT aG ++ (gC y aG G ++ (nC y aN N ++ (nC y aF F ++ (tC y aT T114 ++ (sC y bS aS93 Y96 S97 ++ zC y q117 8 z)))))) ef123.symm) rfl ?_
        refine x_dup (q := 368) C dL_build_367 rfl rfl ?_
        refine x_iconst (q := 369) C dL_build_368 ki_3 rfl ?_
        refine x_iconst (q := 370) C dL_build_369 ki_0 rfl ?_
        have hb124 : xin 3 8 = true := by decide
        obtain ⟨f125, ef125, hf⟩ := lt_elim hf
        refine x_iast (q := 371) (ws' := hC aH aN aF aT aG ++ (gC y aG G ++ (nC y aN N ++ (nC y aF F ++ (tC y aT T114 ++ (sC y bS aS93 Y96 S97 ++ zC y q117 8 f125)))))) C 0 dL_build_370 (((((((zA y q117 8 f123).R).R).R).R).R).R) rfl hb124 (congrArg (fun z => hC aH aN aF aT aG ++ (gC y aG G ++ (nC y aN N ++ (nC y aF F ++ (tC y aT T114 ++ (sC y bS aS93 Y96 S97 ++ zC y q117 8 z)))))) ef125.symm) rfl ?_
        refine x_dup (q := 372) C dL_build_371 rfl rfl ?_
        refine x_iconst (q := 373) C dL_build_372 ki_4 rfl ?_
        refine x_iconst (q := 374) C dL_build_373 ki_0 rfl ?_
        have hb126 : xin 4 8 = true := by decide
        obtain ⟨f127, ef127, hf⟩ := lt_elim hf
        refine x_iast (q := 375) (ws' := hC aH aN aF aT aG ++ (gC y aG G ++ (nC y aN N ++ (nC y aF F ++ (tC y aT T114 ++ (sC y bS aS93 Y96 S97 ++ zC y q117 8 f127)))))) C 0 dL_build_374 (((((((zA y q117 8 f125).R).R).R).R).R).R) rfl hb126 (congrArg (fun z => hC aH aN aF aT aG ++ (gC y aG G ++ (nC y aN N ++ (nC y aF F ++ (tC y aT T114 ++ (sC y bS aS93 Y96 S97 ++ zC y q117 8 z)))))) ef127.symm) rfl ?_
        refine x_dup (q := 376) C dL_build_375 rfl rfl ?_
        refine x_iconst (q := 377) C dL_build_376 ki_5 rfl ?_
        refine x_iconst (q := 378) C dL_build_377 ki_0 rfl ?_
        have hb128 : xin 5 8 = true := by decide
        obtain ⟨f129, ef129, hf⟩ := lt_elim hf
        refine x_iast (q := 379) (ws' := hC aH aN aF aT aG ++ (gC y aG G ++ (nC y aN N ++ (nC y aF F ++ (tC y aT T114 ++ (sC y bS aS93 Y96 S97 ++ zC y q117 8 f129)))))) C 0 dL_build_378 (((((((zA y q117 8 f127).R).R).R).R).R).R) rfl hb128 (congrArg (fun z => hC aH aN aF aT aG ++ (gC y aG G ++ (nC y aN N ++ (nC y aF F ++ (tC y aT T114 ++ (sC y bS aS93 Y96 S97 ++ zC y q117 8 z)))))) ef129.symm) rfl ?_
        refine x_dup (q := 380) C dL_build_379 rfl rfl ?_
        refine x_bipush (q := 382) C dL_build_380 kb_6 rfl ?_
        refine x_iconst (q := 383) C dL_build_382 ki_0 rfl ?_
        have hb130 : xin 6 8 = true := by decide
        obtain ⟨f131, ef131, hf⟩ := lt_elim hf
        refine x_iast (q := 384) (ws' := hC aH aN aF aT aG ++ (gC y aG G ++ (nC y aN N ++ (nC y aF F ++ (tC y aT T114 ++ (sC y bS aS93 Y96 S97 ++ zC y q117 8 f131)))))) C 0 dL_build_383 (((((((zA y q117 8 f129).R).R).R).R).R).R) rfl hb130 (congrArg (fun z => hC aH aN aF aT aG ++ (gC y aG G ++ (nC y aN N ++ (nC y aF F ++ (tC y aT T114 ++ (sC y bS aS93 Y96 S97 ++ zC y q117 8 z)))))) ef131.symm) rfl ?_
        refine x_dup (q := 385) C dL_build_384 rfl rfl ?_
        refine x_bipush (q := 387) C dL_build_385 kb_7 rfl ?_
        refine x_iconst (q := 388) C dL_build_387 ki_0 rfl ?_
        have hb132 : xin 7 8 = true := by decide
        obtain ⟨f133, ef133, hf⟩ := lt_elim hf
        refine x_iast (q := 389) (ws' := hC aH aN aF aT aG ++ (gC y aG G ++ (nC y aN N ++ (nC y aF F ++ (tC y aT T114 ++ (sC y bS aS93 Y96 S97 ++ zC y q117 8 f133)))))) C 0 dL_build_388 (((((((zA y q117 8 f131).R).R).R).R).R).R) rfl hb132 (congrArg (fun z => hC aH aN aF aT aG ++ (gC y aG G ++ (nC y aN N ++ (nC y aF F ++ (tC y aT T114 ++ (sC y bS aS93 Y96 S97 ++ zC y q117 8 z)))))) ef133.symm) rfl ?_
        obtain ⟨hg137, hf⟩ := gd_some hf
        have hg137 := of_decide_eq_true hg137
        refine x_world (ws' := ((hC aH aN aF aT aG ++ (gC y aG G ++ (nC y aN N ++ (nC y aF F ++ tC y aT T114)))) ++ sC y bS aS93 Y96 S97) ++ zC y q117 8 f133) ((asr6 _ _ _ _ _ _ _).trans (congrArg (fun z_ => z_ ++ zC y q117 8 f133) (asr5 _ _ _ _ _ _))) ?_
        refine x_grow3 (q := 395) C hJ hg137 gL_build_X3_more_ dL_build_389 dL_build_392 iuL_build_X3 flL_build_58 ⟨(Nat.le_of_ble_eq_true rfl), (Nat.le_of_ble_eq_true rfl)⟩ (Nat.le_of_ble_eq_true rfl) ⟨by dsimp only; omega, by dsimp only; omega⟩ rfl (fun v_ => ?_)
        obtain ⟨Y134, eY134, hf⟩ := lt_elim hf
        obtain ⟨S135, eS135, hf⟩ := lt_elim hf
        obtain ⟨aS136, eaS136⟩ : ∃ z_ : Nat → Nat, z_ = upA (upA aS93 3 v_) (rk 11 (Y96 3)) q117 := ⟨_, rfl⟩
        refine x_world (ws' := hC aH aN aF aT aG ++ (gC y aG G ++ (nC y aN N ++ (nC y aF F ++ (tC y aT T114 ++ sC y bS aS136 Y134 S135))))) (by rw [eaS136, eY134, eS135]; exact (asr5 _ _ _ _ _ _).symm) ?_
        clear eaS136
        refine x_widen (k' := kk + 2) (n' := nn + 41) (by omega) (by omega) ?_
        refine x_iload (q := 397) C 7 dL_build_395 rfl rfl ?_
        refine x_iconst (q := 398) C dL_build_397 ki_5 rfl ?_
        refine x_ishr (q := 399) C dL_build_398 rfl ?_
        refine x_iconst (q := 400) C dL_build_399 ki_2 rfl ?_
        obtain ⟨v138, hcal139, hf⟩ := bd_some hf
        refine x_callSi (q := 403) (Wc := []) C (c6_below (l := l) (D := D) (y := y) hcal139) yi_L_below gL_build_L_below ⟨(Nat.le_of_ble_eq_true rfl), (Nat.le_of_ble_eq_true rfl)⟩ dL_build_400 pm_emp rfl rfl (Nat.le_of_ble_eq_true rfl) ⟨by dsimp only; omega, by dsimp only; omega⟩ rfl ?_
        intro rr140 uu hrr
        have hrr : v138 = rr140 := Eq.symm hrr
        subst hrr
        refine x_world (ws' := hC aH aN aF aT aG ++ (gC y aG G ++ (nC y aN N ++ (nC y aF F ++ (tC y aT T114 ++ sC y bS aS136 Y134 S135))))) rfl ?_
        obtain ⟨J447, eJ447, hf⟩ := lt_elim hf
        have hJ447 : ∀ (T141 : St) (S142 : St), J447 T141 S142 = some (N', T', Y', S') → xV p l e { frames := 9, cells := 3000, slots := 90000, locals := 160 } s m args below meth c D A Q 12 (hC aH aN aF aT aG ++ (gC y aG G ++ (nC y aN N ++ (nC y aF F ++ (tC y aT T141 ++ sC y bS aS136 Y134 S142))))) (kk + 2) (nn + 41) [(0, .ref aH), (1, .ref bX), (2, .ref bS), (3, .int v7), (4, .int v37), (5, .int v92), (6, .int v94)] 447 [] := by
          intro T141 S142 hf
          subst eJ447
          refine x_iinc (q := 450) C 6 (v94 + 1) [1, 2, 3, 4, 5, 6, 0] [(0, .ref aH), (1, .ref bX), (2, .ref bS), (3, .int v7), (4, .int v37), (5, .int v92), (6, .int (v94 + 1))] dL_build_447 rfl (congrArg (fun z => v94 + z) ki_1) (by decide) rfl rfl ?_
          refine x_goto (t := 276) C dL_build_450 (by decide) ?_
          exact ih (kk + 2) (nn + 41) aS136 (v94 + 1) T141 Y134 S142 (by omega) (by omega) hf
        refine x_if_ne (t := 409) (q := 406) C dL_build_403 (by decide) rfl (fun hc => ?_) (fun hc => ?_)
        · have hf := (if_neg hc).symm.trans hf
          refine x_aload_n (q := 410) C 2 dL_build_409 rfl rfl rfl ?_
          refine x_get (q := 413) C 2 dL_build_410 ((((((oX3 y bS aS136 Y134 S135).R).R).R).R).R) rfl iuL_build_X3 flL_build_58 rfl (by decide) rfl rfl ?_
          refine x_iload (q := 415) C 6 dL_build_413 rfl rfl ?_
          obtain ⟨hb143, hf⟩ := gd_some hf
          refine x_aald (q := 416) C 2 dL_build_415 ((((((gX3_2 y bS aS136 Y134 S135).R).R).R).R).R) rfl rfl hb143 (if_pos (xin_lt hb143)) rfl ?_
          refine x_iconst (q := 417) C dL_build_416 ki_2 rfl ?_
          refine x_iload (q := 419) C 7 dL_build_417 rfl rfl ?_
          refine x_iconst (q := 420) C dL_build_419 ki_2 rfl ?_
          refine x_ishr (q := 421) C dL_build_420 rfl ?_
          refine x_bipush (q := 423) C dL_build_421 kb_10 rfl ?_
          obtain ⟨v144, hcal145, hf⟩ := bd_some hf
          refine x_callSi (q := 426) (Wc := []) C (c6_below (l := l) (D := D) (y := y) hcal145) yi_L_below gL_build_L_below ⟨(Nat.le_of_ble_eq_true rfl), (Nat.le_of_ble_eq_true rfl)⟩ dL_build_423 pm_emp rfl rfl (Nat.le_of_ble_eq_true rfl) ⟨by dsimp only; omega, by dsimp only; omega⟩ rfl ?_
          intro rr146 uu hrr
          have hrr : v144 = rr146 := Eq.symm hrr
          subst hrr
          refine x_world (ws' := hC aH aN aF aT aG ++ (gC y aG G ++ (nC y aN N ++ (nC y aF F ++ (tC y aT T114 ++ sC y bS aS136 Y134 S135))))) rfl ?_
          have hb147 : xin 2 8 = true := by decide
          obtain ⟨S148, eS148, hf⟩ := lt_elim hf
          refine x_iast (q := 427) (ws' := hC aH aN aF aT aG ++ (gC y aG G ++ (nC y aN N ++ (nC y aF F ++ (tC y aT T114 ++ sC y bS aS136 Y134 S148))))) C 0 dL_build_426 ((((((aX3_r2 y bS aS136 Y134 S135 (xin_lt hb143)).R).R).R).R).R) rfl hb147 (congrArg (fun z => hC aH aN aF aT aG ++ (gC y aG G ++ (nC y aN N ++ (nC y aF F ++ (tC y aT T114 ++ sC y bS aS136 Y134 z))))) eS148.symm) rfl ?_
          refine x_aload_n (q := 428) C 0 dL_build_427 rfl rfl rfl ?_
          refine x_iload (q := 430) C 6 dL_build_428 rfl rfl ?_
          refine x_aload_n (q := 431) C 2 dL_build_430 rfl rfl rfl ?_
          refine x_get (q := 434) C 2 dL_build_431 ((((((oX3 y bS aS136 Y134 S148).R).R).R).R).R) rfl iuL_build_X3 flL_build_58 rfl (by decide) rfl rfl ?_
          refine x_iload (q := 436) C 6 dL_build_434 rfl rfl ?_
          refine x_aald (q := 437) C 2 dL_build_436 ((((((gX3_2 y bS aS136 Y134 S148).R).R).R).R).R) rfl rfl hb143 (if_pos (xin_lt hb143)) rfl ?_
          refine x_iconst (q := 438) C dL_build_437 ki_2 rfl ?_
          refine x_iald (q := 439) C 0 dL_build_438 ((((((aX3_r2 y bS aS136 Y134 S148 (xin_lt hb143)).R).R).R).R).R) rfl hb147 rfl ?_
          obtain ⟨v149, T150, hcal151, hf⟩ := br2_some hf
          refine x_callVi (q := 442) C (c2_lid (l := l) (D := D) (y := y) (aH := aH) (aG := aG) (aN := aN) (aF := aF) (aT := aT) hcal151) yi_X2_lid gL_build_X2_lid rfl ((oX2 aH aN aF aT aG).L) rfl ⟨(Nat.le_of_ble_eq_true rfl), (Nat.le_of_ble_eq_true rfl)⟩ dL_build_439 (pm6_01234 _ _ _ _ _ _) rfl rfl (Nat.le_of_ble_eq_true rfl) ⟨by dsimp only; omega, by dsimp only; omega⟩ rfl ?_
          intro rr152 uu hrr
          have hrr : v149 = rr152 := Eq.symm hrr
          subst hrr
          refine x_perm (ws' := hC aH aN aF aT aG ++ (gC y aG G ++ (nC y aN N ++ (nC y aF F ++ (tC y aT T150 ++ sC y bS aS136 Y134 S148))))) (pm6_01234 _ _ _ _ _ _).symm ?_
          refine x_if_eq (t := 447) (q := 445) C dL_build_442 (by decide) rfl (fun hc => ?_) (fun hc => ?_)
          · have hf := (if_pos hc).symm.trans hf
            refine x_sub [0, 1, 2, 3, 4, 5, 6] (L' := [(0, .ref aH), (1, .ref bX), (2, .ref bS), (3, .int v7), (4, .int v37), (5, .int v92), (6, .int v94)]) rfl ?_
            exact hJ447 T150 S148 hf
          · have hf := (if_neg hc).symm.trans hf
            cases hf
        · have hf := (if_pos hc).symm.trans hf
          refine x_goto (t := 447) C dL_build_406 (by decide) ?_
          refine x_sub [0, 1, 2, 3, 4, 5, 6] (L' := [(0, .ref aH), (1, .ref bX), (2, .ref bS), (3, .int v7), (4, .int v37), (5, .int v92), (6, .int v94)]) rfl ?_
          exact hJ447 T114 S135 hf
      · have hf := (if_neg hc).symm.trans hf
        cases hf
set_option maxHeartbeats 4000000 in
set_option maxRecDepth 100000 in
theorem w6_build_L456 {p : Program} {l : Launch} {e : Env} {s : State} {m : MethodId} {args : Array Value} {below : List Frame} {meth : Method} {c : Code} {D : va_G} {A : Nat → Prop} {y : Nat → ClassId} {bS : Nat} {aH : Nat} {aG aN aF aT : Nat → Nat} {aS98 : Nat → Nat} {Q : State → Prop} {bX LX : Nat} {xs : Nat → Int32} {G : St} {N : St} {F : St} {Y100 : (Nat → Nat)} {v7 : Int32} {v92 : Int32} {N' : St} {T' : St} {Y' : (Nat → Nat)} {S' : St} {K : St → St → Option (St × St × (Nat → Nat) × St)} (C : xC p s m args meth c D A cL_build RL 12 wsL_build (xT y) (some (.object "LampHillsLaw$Sim"))) (hJ : xJ2 s) (hX : xS bX LX xs s A) (hK : ∀ (T156 : St) (S157 : St), K T156 S157 = some (N', T', Y', S') → xV p l e { frames := 9, cells := 3000, slots := 90000, locals := 160 } s m args below meth c D A Q 12 (hC aH aN aF aT aG ++ (gC y aG G ++ (nC y aN N ++ (nC y aF F ++ (tC y aT T156 ++ sC y bS aS98 Y100 S157))))) 180 3696 [(0, .ref aH), (1, .ref bX), (2, .ref bS), (3, .int v7), (5, .int v92)] 510 []) : ∀ (fu : Nat) (v153 : Int32) (T154 : St) (S155 : St), f6_build_L456 xs LX G N F K fu v153 T154 S155 = some (N', T', Y', S') → xV p l e { frames := 9, cells := 3000, slots := 90000, locals := 160 } s m args below meth c D A Q 12 (hC aH aN aF aT aG ++ (gC y aG G ++ (nC y aN N ++ (nC y aF F ++ (tC y aT T154 ++ sC y bS aS98 Y100 S155))))) 180 3696 [(0, .ref aH), (1, .ref bX), (2, .ref bS), (3, .int v7), (5, .int v92), (6, .int v153)] 456 [] := by
  intro fu
  induction fu with
  | zero => intro v153 T154 S155 hf; rw [f6_build_L456] at hf; cases hf
  | succ fu ih =>
    intro v153 T154 S155 hf
    rw [f6_build_L456] at hf
    refine x_iload (q := 458) C 5 dL_build_456 rfl rfl ?_
    refine x_bipush (q := 460) C dL_build_458 kb_10 rfl ?_
    refine x_icmp_ge (t := 510) (q := 463) C dL_build_460 (by decide) rfl (fun hc => ?_) (fun hc => ?_)
    · have hf := (if_pos hc).symm.trans hf
      refine x_sub [0, 1, 2, 3, 4] (L' := [(0, .ref aH), (1, .ref bX), (2, .ref bS), (3, .int v7), (5, .int v92)]) rfl ?_
      exact hK T154 S155 hf
    · have hf := (if_neg hc).symm.trans hf
      refine x_aload_n (q := 464) C 2 dL_build_463 rfl rfl rfl ?_
      refine x_get (q := 467) C 5 dL_build_464 ((((((oX3 y bS aS98 Y100 S155).R).R).R).R).R) rfl iuL_build_X3 flL_build_64 rfl (by decide) rfl rfl ?_
      refine x_iload (q := 469) C 5 dL_build_467 rfl rfl ?_
      refine x_aload_n (q := 470) C 1 dL_build_469 rfl rfl rfl ?_
      refine x_bipush (q := 472) C dL_build_470 kb_10 rfl ?_
      obtain ⟨v158, hcal159, hf⟩ := bd_some hf
      refine x_callXSi (q := 475) (Wc := []) C hJ hX (c6_cell (l := l) (D := D) (y := y) (b := bX) hcal159) yi_L_cell gL_build_L_cell ⟨(Nat.le_of_ble_eq_true rfl), (Nat.le_of_ble_eq_true rfl)⟩ dL_build_472 pm_emp rfl rfl (Nat.le_of_ble_eq_true rfl) ⟨(Nat.le_of_ble_eq_true rfl), (Nat.le_of_ble_eq_true rfl)⟩ rfl ?_
      intro rr160 uu hrr
      have hrr : v158 = rr160 := Eq.symm hrr
      subst hrr
      refine x_world (ws' := hC aH aN aF aT aG ++ (gC y aG G ++ (nC y aN N ++ (nC y aF F ++ (tC y aT T154 ++ sC y bS aS98 Y100 S155))))) rfl ?_
      refine x_iconst (q := 476) C dL_build_475 ki_2 rfl ?_
      refine x_iload (q := 478) C 5 dL_build_476 rfl rfl ?_
      refine x_imul (q := 479) C dL_build_478 rfl ?_
      refine x_ishr (q := 480) C dL_build_479 rfl ?_
      refine x_bipush (q := 482) C dL_build_480 kb_10 rfl ?_
      obtain ⟨v161, hcal162, hf⟩ := bd_some hf
      refine x_callSi (q := 485) (Wc := []) C (c6_below (l := l) (D := D) (y := y) hcal162) yi_L_below gL_build_L_below ⟨(Nat.le_of_ble_eq_true rfl), (Nat.le_of_ble_eq_true rfl)⟩ dL_build_482 pm_emp rfl rfl (Nat.le_of_ble_eq_true rfl) ⟨(Nat.le_of_ble_eq_true rfl), (Nat.le_of_ble_eq_true rfl)⟩ rfl ?_
      intro rr163 uu hrr
      have hrr : v161 = rr163 := Eq.symm hrr
      subst hrr
      refine x_world (ws' := hC aH aN aF aT aG ++ (gC y aG G ++ (nC y aN N ++ (nC y aF F ++ (tC y aT T154 ++ sC y bS aS98 Y100 S155))))) rfl ?_
      obtain ⟨hb164, hf⟩ := gd_some hf
      obtain ⟨S165, eS165, hf⟩ := lt_elim hf
      refine x_iast (q := 486) (ws' := hC aH aN aF aT aG ++ (gC y aG G ++ (nC y aN N ++ (nC y aF F ++ (tC y aT T154 ++ sC y bS aS98 Y100 S165))))) C 0 dL_build_485 ((((((aX3_5 y bS aS98 Y100 S155).R).R).R).R).R) rfl hb164 (congrArg (fun z => hC aH aN aF aT aG ++ (gC y aG G ++ (nC y aN N ++ (nC y aF F ++ (tC y aT T154 ++ sC y bS aS98 Y100 z))))) eS165.symm) rfl ?_
      refine x_aload_n (q := 487) C 0 dL_build_486 rfl rfl rfl ?_
      refine x_iload (q := 489) C 5 dL_build_487 rfl rfl ?_
      refine x_aload_n (q := 490) C 2 dL_build_489 rfl rfl rfl ?_
      refine x_get (q := 493) C 5 dL_build_490 ((((((oX3 y bS aS98 Y100 S165).R).R).R).R).R) rfl iuL_build_X3 flL_build_64 rfl (by decide) rfl rfl ?_
      refine x_iload (q := 495) C 5 dL_build_493 rfl rfl ?_
      refine x_iald (q := 496) C 0 dL_build_495 ((((((aX3_5 y bS aS98 Y100 S165).R).R).R).R).R) rfl hb164 rfl ?_
      obtain ⟨v166, T167, hcal168, hf⟩ := br2_some hf
      refine x_callVi (q := 499) C (c2_setWind (l := l) (D := D) (y := y) (aH := aH) (aG := aG) (aN := aN) (aF := aF) (aT := aT) hcal168) yi_X2_setWind gL_build_X2_setWind rfl ((oX2 aH aN aF aT aG).L) rfl ⟨(Nat.le_of_ble_eq_true rfl), (Nat.le_of_ble_eq_true rfl)⟩ dL_build_496 (pm6_01234 _ _ _ _ _ _) rfl rfl (Nat.le_of_ble_eq_true rfl) ⟨Nat.le_of_ble_eq_true rfl, Nat.le_of_ble_eq_true rfl⟩ rfl ?_
      intro rr169 uu hrr
      have hrr : v166 = rr169 := Eq.symm hrr
      subst hrr
      refine x_perm (ws' := hC aH aN aF aT aG ++ (gC y aG G ++ (nC y aN N ++ (nC y aF F ++ (tC y aT T167 ++ sC y bS aS98 Y100 S165))))) (pm6_01234 _ _ _ _ _ _).symm ?_
      refine x_if_eq (t := 504) (q := 502) C dL_build_499 (by decide) rfl (fun hc => ?_) (fun hc => ?_)
      · have hf := (if_pos hc).symm.trans hf
        refine x_iinc (q := 507) C 5 (v153 + 1) [1, 2, 3, 4, 5, 0] [(0, .ref aH), (1, .ref bX), (2, .ref bS), (3, .int v7), (5, .int v92), (6, .int (v153 + 1))] dL_build_504 rfl (congrArg (fun z => v153 + z) ki_1) (by decide) rfl rfl ?_
        refine x_goto (t := 456) C dL_build_507 (by decide) ?_
        exact ih (v153 + 1) T167 S165 hf
      · have hf := (if_neg hc).symm.trans hf
        cases hf
set_option maxHeartbeats 4000000 in
set_option maxRecDepth 100000 in
theorem w6_build_L699 {p : Program} {l : Launch} {e : Env} {s : State} {m : MethodId} {args : Array Value} {below : List Frame} {meth : Method} {c : Code} {D : va_G} {A : Nat → Prop} {y : Nat → ClassId} {bS : Nat} {aH : Nat} {aG aN aF aT : Nat → Nat} {Q : State → Prop} {bX LX : Nat} {xs : Nat → Int32} {G : St} {N214 : St} {F : St} {v7 : Int32} {v92 : Int32} {v173 : Int32} {v177 : Int32} {N' : St} {T' : St} {Y' : (Nat → Nat)} {S' : St} {K : St → (Nat → Nat) → St → Option (St × St × (Nat → Nat) × St)} (C : xC p s m args meth c D A cL_build RL 12 wsL_build (xT y) (some (.object "LampHillsLaw$Sim"))) (hJ : xJ2 s) (hX : xS bX LX xs s A) {kX nX : Nat} (hm1 : kX ≤ 3000) (hm2 : nX ≤ 90000) (hK : ∀ (aS251 : Nat → Nat) (T252 : St) (Y253 : (Nat → Nat)) (S254 : St), K T252 Y253 S254 = some (N', T', Y', S') → xV p l e { frames := 9, cells := 3000, slots := 90000, locals := 160 } s m args below meth c D A Q 12 (hC aH aN aF aT aG ++ (gC y aG G ++ (nC y aN N214 ++ (nC y aF F ++ (tC y aT T252 ++ sC y bS aS251 Y253 S254))))) kX nX [(0, .ref aH), (1, .ref bX), (2, .ref bS), (3, .int v7), (5, .int v92), (6, .int v173), (7, .int v177)] 749 []) : ∀ (fu : Nat) (kk nn : Nat) (aS246 : Nat → Nat) (v247 : Int32) (T248 : St) (Y249 : (Nat → Nat)) (S250 : St), kk + 1 * fu ≤ kX → nn + 33 * fu ≤ nX → f6_build_L699 v92 v177 xs LX G N214 F K fu v247 T248 Y249 S250 = some (N', T', Y', S') → xV p l e { frames := 9, cells := 3000, slots := 90000, locals := 160 } s m args below meth c D A Q 12 (hC aH aN aF aT aG ++ (gC y aG G ++ (nC y aN N214 ++ (nC y aF F ++ (tC y aT T248 ++ sC y bS aS246 Y249 S250))))) kk nn [(0, .ref aH), (1, .ref bX), (2, .ref bS), (3, .int v7), (5, .int v92), (6, .int v173), (7, .int v177), (11, .int v247)] 699 [] := by
  intro fu
  induction fu with
  | zero => intro kk nn aS246 v247 T248 Y249 S250 hb1 hb2 hf; rw [f6_build_L699] at hf; cases hf
  | succ fu ih =>
    intro kk nn aS246 v247 T248 Y249 S250 hb1 hb2 hf
    rw [f6_build_L699] at hf
    refine x_iload (q := 701) C 7 dL_build_699 rfl rfl ?_
    refine x_bipush (q := 703) C dL_build_701 kb_9 rfl ?_
    refine x_icmp_ge (t := 749) (q := 706) C dL_build_703 (by decide) rfl (fun hc => ?_) (fun hc => ?_)
    · have hf := (if_pos hc).symm.trans hf
      refine x_sub [0, 1, 2, 3, 4, 5, 6] (L' := [(0, .ref aH), (1, .ref bX), (2, .ref bS), (3, .int v7), (5, .int v92), (6, .int v173), (7, .int v177)]) rfl ?_
      refine x_widen (k' := kX) (n' := nX) (by omega) (by omega) ?_
      exact hK aS246 T248 Y249 S250 hf
    · have hf := (if_neg hc).symm.trans hf
      refine x_aload_n (q := 707) C 0 dL_build_706 rfl rfl rfl ?_
      refine x_aload_n (q := 708) C 2 dL_build_707 rfl rfl rfl ?_
      refine x_iload (q := 710) C 6 dL_build_708 rfl rfl ?_
      refine x_aload_n (q := 711) C 1 dL_build_710 rfl rfl rfl ?_
      refine x_bipush (q := 713) C dL_build_711 kb_15 rfl ?_
      obtain ⟨v255, hcal256, hf⟩ := bd_some hf
      refine x_callXSi (q := 716) (Wc := []) C hJ hX (c6_cell (l := l) (D := D) (y := y) (b := bX) hcal256) yi_L_cell gL_build_L_cell ⟨(Nat.le_of_ble_eq_true rfl), (Nat.le_of_ble_eq_true rfl)⟩ dL_build_713 pm_emp rfl rfl (Nat.le_of_ble_eq_true rfl) ⟨by dsimp only; omega, by dsimp only; omega⟩ rfl ?_
      intro rr257 uu hrr
      have hrr : v255 = rr257 := Eq.symm hrr
      subst hrr
      refine x_world (ws' := hC aH aN aF aT aG ++ (gC y aG G ++ (nC y aN N214 ++ (nC y aF F ++ (tC y aT T248 ++ sC y bS aS246 Y249 S250))))) rfl ?_
      refine x_iload (q := 718) C 7 dL_build_716 rfl rfl ?_
      refine x_ishr (q := 719) C dL_build_718 rfl ?_
      refine x_iconst (q := 720) C dL_build_719 ki_5 rfl ?_
      refine x_iload (q := 722) C 7 dL_build_720 rfl rfl ?_
      refine x_imul (q := 723) C dL_build_722 rfl ?_
      refine x_iadd (q := 724) C dL_build_723 rfl ?_
      refine x_bipush (q := 726) C dL_build_724 kb_11 rfl ?_
      refine x_iload (q := 728) C 6 dL_build_726 rfl rfl ?_
      refine x_imul (q := 729) C dL_build_728 rfl ?_
      refine x_iadd (q := 730) C dL_build_729 rfl ?_
      refine x_iload (q := 732) C 4 dL_build_730 rfl rfl ?_
      obtain ⟨v258, hcal259, hf⟩ := bd_some hf
      refine x_callSi (q := 735) (Wc := []) C (c6_below (l := l) (D := D) (y := y) hcal259) yi_L_below gL_build_L_below ⟨(Nat.le_of_ble_eq_true rfl), (Nat.le_of_ble_eq_true rfl)⟩ dL_build_732 pm_emp rfl rfl (Nat.le_of_ble_eq_true rfl) ⟨by dsimp only; omega, by dsimp only; omega⟩ rfl ?_
      intro rr260 uu hrr
      have hrr : v258 = rr260 := Eq.symm hrr
      subst hrr
      refine x_world (ws' := hC aH aN aF aT aG ++ (gC y aG G ++ (nC y aN N214 ++ (nC y aF F ++ (tC y aT T248 ++ sC y bS aS246 Y249 S250))))) rfl ?_
      obtain ⟨v261, T262, Y263, S264, hcal266, hf⟩ := bd4_some hf
      refine x_callXSi (q := 738) C hJ hX (c6_adds (l := l) (D := D) (y := y) (aH := aH) (aG := aG) (aN := aN) (aF := aF) (aT := aT) (bS := bS) (aS := aS246) hcal266) yi_L_adds gL_build_L_adds ⟨(Nat.le_of_ble_eq_true rfl), (Nat.le_of_ble_eq_true rfl)⟩ dL_build_735 pm_nil rfl rfl (Nat.le_of_ble_eq_true rfl) ⟨by dsimp only; omega, by dsimp only; omega⟩ rfl ?_
      intro rr267 aS265 hrr
      have hrr : v261 = rr267 := Eq.symm hrr
      subst hrr
      refine x_world (ws' := hC aH aN aF aT aG ++ (gC y aG G ++ (nC y aN N214 ++ (nC y aF F ++ (tC y aT T262 ++ sC y bS aS265 Y263 S264))))) (List.append_nil _) ?_
      refine x_if_ne (t := 743) (q := 741) C dL_build_738 (by decide) rfl (fun hc => ?_) (fun hc => ?_)
      · have hf := (if_neg hc).symm.trans hf
        refine x_iinc (q := 746) C 7 (v247 + 1) [1, 2, 3, 4, 5, 6, 7, 0] [(0, .ref aH), (1, .ref bX), (2, .ref bS), (3, .int v7), (5, .int v92), (6, .int v173), (7, .int v177), (11, .int (v247 + 1))] dL_build_743 rfl (congrArg (fun z => v247 + z) ki_1) (by decide) rfl rfl ?_
        refine x_goto (t := 699) C dL_build_746 (by decide) ?_
        exact ih (kk + 1) (nn + 33) aS265 (v247 + 1) T262 Y263 S264 (by omega) (by omega) hf
      · have hf := (if_pos hc).symm.trans hf
        cases hf
set_option maxHeartbeats 4000000 in
set_option maxRecDepth 100000 in
theorem w6_build_L525 {p : Program} {l : Launch} {e : Env} {s : State} {m : MethodId} {args : Array Value} {below : List Frame} {meth : Method} {c : Code} {D : va_G} {A : Nat → Prop} {y : Nat → ClassId} {bS : Nat} {aH : Nat} {aG aN aF aT : Nat → Nat} {Q : State → Prop} {bX LX : Nat} {xs : Nat → Int32} {G : St} {F : St} {v7 : Int32} {v92 : Int32} {v173 : Int32} {N' : St} {T' : St} {Y' : (Nat → Nat)} {S' : St} {K : St → St → (Nat → Nat) → St → Option (St × St × (Nat → Nat) × St)} (C : xC p s m args meth c D A cL_build RL 12 wsL_build (xT y) (some (.object "LampHillsLaw$Sim"))) (hJ : xJ2 s) (hX : xS bX LX xs s A) {kX nX : Nat} (hm1 : kX ≤ 3000) (hm2 : nX ≤ 90000) (hK : ∀ (aS182 : Nat → Nat) (N183 : St) (T184 : St) (Y185 : (Nat → Nat)) (S186 : St), K N183 T184 Y185 S186 = some (N', T', Y', S') → xV p l e { frames := 9, cells := 3000, slots := 90000, locals := 160 } s m args below meth c D A Q 12 (hC aH aN aF aT aG ++ (gC y aG G ++ (nC y aN N183 ++ (nC y aF F ++ (tC y aT T184 ++ sC y bS aS182 Y185 S186))))) kX nX [(2, .ref bS)] 755 []) : ∀ (fu : Nat) (kk nn : Nat) (aS176 : Nat → Nat) (v177 : Int32) (N178 : St) (T179 : St) (Y180 : (Nat → Nat)) (S181 : St), kk + 36 * fu ≤ kX → nn + 1131 * fu ≤ nX → f6_build_L525 v7 v92 v173 xs LX G F K fu v177 N178 T179 Y180 S181 = some (N', T', Y', S') → xV p l e { frames := 9, cells := 3000, slots := 90000, locals := 160 } s m args below meth c D A Q 12 (hC aH aN aF aT aG ++ (gC y aG G ++ (nC y aN N178 ++ (nC y aF F ++ (tC y aT T179 ++ sC y bS aS176 Y180 S181))))) kk nn [(0, .ref aH), (1, .ref bX), (2, .ref bS), (3, .int v7), (5, .int v92), (6, .int v173), (7, .int v177)] 525 [] := by
  intro fu
  induction fu with
  | zero => intro kk nn aS176 v177 N178 T179 Y180 S181 hb1 hb2 hf; rw [f6_build_L525] at hf; cases hf
  | succ fu ih =>
    intro kk nn aS176 v177 N178 T179 Y180 S181 hb1 hb2 hf
    rw [f6_build_L525] at hf
    refine x_iload (q := 527) C 6 dL_build_525 rfl rfl ?_
    refine x_iload (q := 529) C 5 dL_build_527 rfl rfl ?_
    refine x_icmp_ge (t := 755) (q := 532) C dL_build_529 (by decide) rfl (fun hc => ?_) (fun hc => ?_)
    · have hf := (if_pos hc).symm.trans hf
      refine x_sub [2] (L' := [(2, .ref bS)]) rfl ?_
      refine x_widen (k' := kX) (n' := nX) (by omega) (by omega) ?_
      exact hK aS176 N178 T179 Y180 S181 hf
    · have hf := (if_neg hc).symm.trans hf
      refine x_aload_n (q := 533) C 1 dL_build_532 rfl rfl rfl ?_
      refine x_bipush (q := 535) C dL_build_533 kb_12 rfl ?_
      obtain ⟨v187, hcal188, hf⟩ := bd_some hf
      refine x_callXSi (q := 538) (Wc := []) C hJ hX (c6_cell (l := l) (D := D) (y := y) (b := bX) hcal188) yi_L_cell gL_build_L_cell ⟨(Nat.le_of_ble_eq_true rfl), (Nat.le_of_ble_eq_true rfl)⟩ dL_build_535 pm_emp rfl rfl (Nat.le_of_ble_eq_true rfl) ⟨by dsimp only; omega, by dsimp only; omega⟩ rfl ?_
      intro rr189 uu hrr
      have hrr : v187 = rr189 := Eq.symm hrr
      subst hrr
      refine x_world (ws' := hC aH aN aF aT aG ++ (gC y aG G ++ (nC y aN N178 ++ (nC y aF F ++ (tC y aT T179 ++ sC y bS aS176 Y180 S181))))) rfl ?_
      refine x_iload (q := 540) C 6 dL_build_538 rfl rfl ?_
      refine x_ishr (q := 541) C dL_build_540 rfl ?_
      refine x_iload_n (q := 542) C 3 dL_build_541 rfl rfl rfl ?_
      obtain ⟨v190, hcal191, hf⟩ := bd_some hf
      refine x_callSi (q := 545) (Wc := []) C (c6_below (l := l) (D := D) (y := y) hcal191) yi_L_below gL_build_L_below ⟨(Nat.le_of_ble_eq_true rfl), (Nat.le_of_ble_eq_true rfl)⟩ dL_build_542 pm_emp rfl rfl (Nat.le_of_ble_eq_true rfl) ⟨by dsimp only; omega, by dsimp only; omega⟩ rfl ?_
      intro rr192 uu hrr
      have hrr : v190 = rr192 := Eq.symm hrr
      subst hrr
      refine x_world (ws' := hC aH aN aF aT aG ++ (gC y aG G ++ (nC y aN N178 ++ (nC y aF F ++ (tC y aT T179 ++ sC y bS aS176 Y180 S181))))) rfl ?_
      refine x_istore (q := 547) C [1, 2, 3, 4, 5, 6, 7, 0] [(0, .ref aH), (1, .ref bX), (2, .ref bS), (3, .int v7), (5, .int v92), (6, .int v173), (7, .int v177), (8, .int v190)] dL_build_545 (by decide) rfl rfl ?_
      refine x_iconst (q := 548) C dL_build_547 ki_1 rfl ?_
      refine x_aload_n (q := 549) C 1 dL_build_548 rfl rfl rfl ?_
      refine x_bipush (q := 551) C dL_build_549 kb_13 rfl ?_
      obtain ⟨v193, hcal194, hf⟩ := bd_some hf
      refine x_callXSi (q := 554) (Wc := []) C hJ hX (c6_cell (l := l) (D := D) (y := y) (b := bX) hcal194) yi_L_cell gL_build_L_cell ⟨(Nat.le_of_ble_eq_true rfl), (Nat.le_of_ble_eq_true rfl)⟩ dL_build_551 pm_emp rfl rfl (Nat.le_of_ble_eq_true rfl) ⟨by dsimp only; omega, by dsimp only; omega⟩ rfl ?_
      intro rr195 uu hrr
      have hrr : v193 = rr195 := Eq.symm hrr
      subst hrr
      refine x_world (ws' := hC aH aN aF aT aG ++ (gC y aG G ++ (nC y aN N178 ++ (nC y aF F ++ (tC y aT T179 ++ sC y bS aS176 Y180 S181))))) rfl ?_
      refine x_iconst (q := 555) C dL_build_554 ki_2 rfl ?_
      refine x_iload (q := 557) C 6 dL_build_555 rfl rfl ?_
      refine x_imul (q := 558) C dL_build_557 rfl ?_
      refine x_ishr (q := 559) C dL_build_558 rfl ?_
      refine x_bipush (q := 561) C dL_build_559 kb_9 rfl ?_
      obtain ⟨v196, hcal197, hf⟩ := bd_some hf
      refine x_callSi (q := 564) (Wc := []) C (c6_below (l := l) (D := D) (y := y) hcal197) yi_L_below gL_build_L_below ⟨(Nat.le_of_ble_eq_true rfl), (Nat.le_of_ble_eq_true rfl)⟩ dL_build_561 pm_emp rfl rfl (Nat.le_of_ble_eq_true rfl) ⟨by dsimp only; omega, by dsimp only; omega⟩ rfl ?_
      intro rr198 uu hrr
      have hrr : v196 = rr198 := Eq.symm hrr
      subst hrr
      refine x_world (ws' := hC aH aN aF aT aG ++ (gC y aG G ++ (nC y aN N178 ++ (nC y aF F ++ (tC y aT T179 ++ sC y bS aS176 Y180 S181))))) rfl ?_
      refine x_iadd (q := 565) C dL_build_564 rfl ?_
      obtain ⟨v199, ev199, hf⟩ := lt_elim hf
      refine x_topi ev199 ?_
      refine x_istore (q := 567) C [1, 2, 3, 4, 5, 6, 7, 8, 0] [(0, .ref aH), (1, .ref bX), (2, .ref bS), (3, .int v7), (5, .int v92), (6, .int v173), (7, .int v177), (8, .int v190), (9, .int v199)] dL_build_565 (by decide) rfl rfl ?_
      refine x_aload_n (q := 568) C 1 dL_build_567 rfl rfl rfl ?_
      refine x_bipush (q := 570) C dL_build_568 kb_14 rfl ?_
      obtain ⟨v200, hcal201, hf⟩ := bd_some hf
      refine x_callXSi (q := 573) (Wc := []) C hJ hX (c6_cell (l := l) (D := D) (y := y) (b := bX) hcal201) yi_L_cell gL_build_L_cell ⟨(Nat.le_of_ble_eq_true rfl), (Nat.le_of_ble_eq_true rfl)⟩ dL_build_570 pm_emp rfl rfl (Nat.le_of_ble_eq_true rfl) ⟨by dsimp only; omega, by dsimp only; omega⟩ rfl ?_
      intro rr202 uu hrr
      have hrr : v200 = rr202 := Eq.symm hrr
      subst hrr
      refine x_world (ws' := hC aH aN aF aT aG ++ (gC y aG G ++ (nC y aN N178 ++ (nC y aF F ++ (tC y aT T179 ++ sC y bS aS176 Y180 S181))))) rfl ?_
      refine x_iload (q := 575) C 6 dL_build_573 rfl rfl ?_
      refine x_ishr (q := 576) C dL_build_575 rfl ?_
      refine x_aload_n (q := 577) C 1 dL_build_576 rfl rfl rfl ?_
      refine x_bipush (q := 579) C dL_build_577 kb_14 rfl ?_
      obtain ⟨v203, hcal204, hf⟩ := bd_some hf
      refine x_callXSi (q := 582) (Wc := []) C hJ hX (c6_cell (l := l) (D := D) (y := y) (b := bX) hcal204) yi_L_cell gL_build_L_cell ⟨(Nat.le_of_ble_eq_true rfl), (Nat.le_of_ble_eq_true rfl)⟩ dL_build_579 pm_emp rfl rfl (Nat.le_of_ble_eq_true rfl) ⟨by dsimp only; omega, by dsimp only; omega⟩ rfl ?_
      intro rr205 uu hrr
      have hrr : v203 = rr205 := Eq.symm hrr
      subst hrr
      refine x_world (ws' := hC aH aN aF aT aG ++ (gC y aG G ++ (nC y aN N178 ++ (nC y aF F ++ (tC y aT T179 ++ sC y bS aS176 Y180 S181))))) rfl ?_
      refine x_iconst (q := 583) C dL_build_582 ki_2 rfl ?_
      refine x_iload (q := 585) C 6 dL_build_583 rfl rfl ?_
      refine x_imul (q := 586) C dL_build_585 rfl ?_
      refine x_ishr (q := 587) C dL_build_586 rfl ?_
      refine x_iconst (q := 588) C dL_build_587 ki_2 rfl ?_
      obtain ⟨v206, hcal207, hf⟩ := bd_some hf
      refine x_callSi (q := 591) (Wc := []) C (c6_below (l := l) (D := D) (y := y) hcal207) yi_L_below gL_build_L_below ⟨(Nat.le_of_ble_eq_true rfl), (Nat.le_of_ble_eq_true rfl)⟩ dL_build_588 pm_emp rfl rfl (Nat.le_of_ble_eq_true rfl) ⟨by dsimp only; omega, by dsimp only; omega⟩ rfl ?_
      intro rr208 uu hrr
      have hrr : v206 = rr208 := Eq.symm hrr
      subst hrr
      refine x_world (ws' := hC aH aN aF aT aG ++ (gC y aG G ++ (nC y aN N178 ++ (nC y aF F ++ (tC y aT T179 ++ sC y bS aS176 Y180 S181))))) rfl ?_
      obtain ⟨J602, eJ602, hf⟩ := lt_elim hf
      have hJ602 : ∀ (v209 : Int32), J602 v209 = some (N', T', Y', S') → xV p l e { frames := 9, cells := 3000, slots := 90000, locals := 160 } s m args below meth c D A Q 12 (hC aH aN aF aT aG ++ (gC y aG G ++ (nC y aN N178 ++ (nC y aF F ++ (tC y aT T179 ++ sC y bS aS176 Y180 S181))))) kk nn [(0, .ref aH), (1, .ref bX), (2, .ref bS), (3, .int v7), (5, .int v92), (6, .int v173), (7, .int v177), (8, .int v190), (9, .int v199)] 602 [.int v209, .int (v200 >>> (v177 &&& 31))] := by
        intro v209 hf
        subst eJ602
        obtain ⟨v210, hcal211, hf⟩ := bd_some hf
        refine x_callSi (q := 605) (Wc := []) C (c6_below (l := l) (D := D) (y := y) hcal211) yi_L_below gL_build_L_below ⟨(Nat.le_of_ble_eq_true rfl), (Nat.le_of_ble_eq_true rfl)⟩ dL_build_602 pm_emp rfl rfl (Nat.le_of_ble_eq_true rfl) ⟨by dsimp only; omega, by dsimp only; omega⟩ rfl ?_
        intro rr212 uu hrr
        have hrr : v210 = rr212 := Eq.symm hrr
        subst hrr
        refine x_world (ws' := hC aH aN aF aT aG ++ (gC y aG G ++ (nC y aN N178 ++ (nC y aF F ++ (tC y aT T179 ++ sC y bS aS176 Y180 S181))))) rfl ?_
        refine x_istore (q := 607) C [1, 2, 3, 4, 5, 6, 7, 8, 9, 0] [(0, .ref aH), (1, .ref bX), (2, .ref bS), (3, .int v7), (5, .int v92), (6, .int v173), (7, .int v177), (8, .int v190), (9, .int v199), (10, .int v210)] dL_build_605 (by decide) rfl rfl ?_
        refine x_aload_n (q := 608) C 0 dL_build_607 rfl rfl rfl ?_
        refine x_iload (q := 610) C 7 dL_build_608 rfl rfl ?_
        refine x_iload (q := 612) C 8 dL_build_610 rfl rfl ?_
        refine x_iload (q := 614) C 9 dL_build_612 rfl rfl ?_
        obtain ⟨v213, N214, T215, hcal216, hf⟩ := br3_some hf
        refine x_callVi (q := 617) C (c2_hire (l := l) (D := D) (y := y) (aH := aH) (aG := aG) (aN := aN) (aF := aF) (aT := aT) hcal216) yi_X2_hire gL_build_X2_hire rfl ((oX2 aH aN aF aT aG).L) rfl ⟨(Nat.le_of_ble_eq_true rfl), (Nat.le_of_ble_eq_true rfl)⟩ dL_build_614 (pm6_01234 _ _ _ _ _ _) rfl rfl (Nat.le_of_ble_eq_true rfl) ⟨by dsimp only; omega, by dsimp only; omega⟩ rfl ?_
        intro rr217 uu hrr
        have hrr : v213 = rr217 := Eq.symm hrr
        subst hrr
        refine x_perm (ws' := hC aH aN aF aT aG ++ (gC y aG G ++ (nC y aN N214 ++ (nC y aF F ++ (tC y aT T215 ++ sC y bS aS176 Y180 S181))))) (pm6_01234 _ _ _ _ _ _).symm ?_
        refine x_iload (q := 619) C 6 dL_build_617 rfl rfl ?_
        refine x_icmp_eq (t := 624) (q := 622) C dL_build_619 (by decide) rfl (fun hc => ?_) (fun hc => ?_)
        · have hf := (if_pos hc).symm.trans hf
          refine x_aload_n (q := 625) C 2 dL_build_624 rfl rfl rfl ?_
          refine x_aload_n (q := 626) C 2 dL_build_625 rfl rfl rfl ?_
          refine x_get (q := 629) C 3 dL_build_626 ((((((oX3 y bS aS176 Y180 S181).R).R).R).R).R) rfl iuL_build_X3 flL_build_73 rfl (by decide) rfl rfl ?_
          refine x_bipush (q := 631) C dL_build_629 kb_9 rfl ?_
          refine x_newa (q := 633) C 9 dL_build_631 knL_build rfl (by decide) (by decide) (by decide) (by dsimp only; omega) (by dsimp only; omega) rfl (fun q218 => ?_)
          refine x_world (ws' := hC aH aN aF aT aG ++ (gC y aG G ++ (nC y aN N214 ++ (nC y aF F ++ (tC y aT T215 ++ (sC y bS aS176 Y180 S181 ++ zC y q218 9 (fun _ => 0))))))) (asr6 _ _ _ _ _ _ _).symm ?_
          refine x_widen (k' := kk + 1) (n' := nn + 9) (by omega) (by omega) ?_
          refine x_dup (q := 634) C dL_build_633 rfl rfl ?_
          refine x_iconst (q := 635) C dL_build_634 ki_0 rfl ?_
          refine x_iload (q := 637) C 7 dL_build_635 rfl rfl ?_
          have hb219 : xin 0 9 = true := by decide
          obtain ⟨f220, ef220, hf⟩ := lt_elim hf
          refine x_iast (q := 638) (ws' := hC aH aN aF aT aG ++ (gC y aG G ++ (nC y aN N214 ++ (nC y aF F ++ (tC y aT T215 ++ (sC y bS aS176 Y180 S181 ++ zC y q218 9 f220)))))) C 0 dL_build_637 (((((((zA y q218 9 (fun _ => 0)).R).R).R).R).R).R) rfl hb219 (congrArg (fun z => hC aH aN aF aT aG ++ (gC y aG G ++ (nC y aN N214 ++ (nC y aF F ++ (tC y aT T215 ++ (sC y bS aS176 Y180 S181 ++ zC y q218 9 z)))))) ef220.symm) rfl ?_
          refine x_dup (q := 639) C dL_build_638 rfl rfl ?_
          refine x_iconst (q := 640) C dL_build_639 ki_1 rfl ?_
          refine x_iload (q := 642) C 7 dL_build_640 rfl rfl ?_
          have hb221 : xin 1 9 = true := by decide
          obtain ⟨f222, ef222, hf⟩ := lt_elim hf
          refine x_iast (q := 643) (ws' := hC aH aN aF aT aG ++ (gC y aG G ++ (nC y aN N214 ++ (nC y aF F ++ (tC y aT T215 ++ (sC y bS aS176 Y180 S181 ++ zC y q218 9 f222)))))) C 0 dL_build_642 (((((((zA y q218 9 f220).R).R).R).R).R).R) rfl hb221 (congrArg (fun z => hC aH aN aF aT aG ++ (gC y aG G ++ (nC y aN N214 ++ (nC y aF F ++ (tC y aT T215 ++ (sC y bS aS176 Y180 S181 ++ zC y q218 9 z)))))) ef222.symm) rfl ?_
          refine x_dup (q := 644) C dL_build_643 rfl rfl ?_
          refine x_iconst (q := 645) C dL_build_644 ki_2 rfl ?_
          refine x_iload (q := 647) C 8 dL_build_645 rfl rfl ?_
          have hb223 : xin 2 9 = true := by decide
          obtain ⟨f224, ef224, hf⟩ := lt_elim hf
          refine x_iast (q := 648) (ws' := hC aH aN aF aT aG ++ (gC y aG G ++ (nC y aN N214 ++ (nC y aF F ++ (tC y aT T215 ++ (sC y bS aS176 Y180 S181 ++ zC y q218 9 f224)))))) C 0 dL_build_647 (((((((zA y q218 9 f222).R).R).R).R).R).R) rfl hb223 (congrArg (fun z => hC aH aN aF aT aG ++ (gC y aG G ++ (nC y aN N214 ++ (nC y aF F ++ (tC y aT T215 ++ (sC y bS aS176 Y180 S181 ++ zC y q218 9 z)))))) ef224.symm) rfl ?_
          refine x_dup (q := 649) C dL_build_648 rfl rfl ?_
          refine x_iconst (q := 650) C dL_build_649 ki_3 rfl ?_
          refine x_iload (q := 652) C 9 dL_build_650 rfl rfl ?_
          have hb225 : xin 3 9 = true := by decide
          obtain ⟨f226, ef226, hf⟩ := lt_elim hf
          refine x_iast (q := 653) (ws' := hC aH aN aF aT aG ++ (gC y aG G ++ (nC y aN N214 ++ (nC y aF F ++ (tC y aT T215 ++ (sC y bS aS176 Y180 S181 ++ zC y q218 9 f226)))))) C 0 dL_build_652 (((((((zA y q218 9 f224).R).R).R).R).R).R) rfl hb225 (congrArg (fun z => hC aH aN aF aT aG ++ (gC y aG G ++ (nC y aN N214 ++ (nC y aF F ++ (tC y aT T215 ++ (sC y bS aS176 Y180 S181 ++ zC y q218 9 z)))))) ef226.symm) rfl ?_
          refine x_dup (q := 654) C dL_build_653 rfl rfl ?_
          refine x_iconst (q := 655) C dL_build_654 ki_4 rfl ?_
          refine x_iconst (q := 656) C dL_build_655 ki_m1 rfl ?_
          have hb227 : xin 4 9 = true := by decide
          obtain ⟨f228, ef228, hf⟩ := lt_elim hf
          refine x_iast (q := 657) (ws' := hC aH aN aF aT aG ++ (gC y aG G ++ (nC y aN N214 ++ (nC y aF F ++ (tC y aT T215 ++ (sC y bS aS176 Y180 S181 ++ zC y q218 9 f228)))))) C 0 dL_build_656 (((((((zA y q218 9 f226).R).R).R).R).R).R) rfl hb227 (congrArg (fun z => hC aH aN aF aT aG ++ (gC y aG G ++ (nC y aN N214 ++ (nC y aF F ++ (tC y aT T215 ++ (sC y bS aS176 Y180 S181 ++ zC y q218 9 z)))))) ef228.symm) rfl ?_
          refine x_dup (q := 658) C dL_build_657 rfl rfl ?_
          refine x_iconst (q := 659) C dL_build_658 ki_5 rfl ?_
          refine x_iconst (q := 660) C dL_build_659 ki_0 rfl ?_
          have hb229 : xin 5 9 = true := by decide
          obtain ⟨f230, ef230, hf⟩ := lt_elim hf
          refine x_iast (q := 661) (ws' := hC aH aN aF aT aG ++ (gC y aG G ++ (nC y aN N214 ++ (nC y aF F ++ (tC y aT T215 ++ (sC y bS aS176 Y180 S181 ++ zC y q218 9 f230)))))) C 0 dL_build_660 (((((((zA y q218 9 f228).R).R).R).R).R).R) rfl hb229 (congrArg (fun z => hC aH aN aF aT aG ++ (gC y aG G ++ (nC y aN N214 ++ (nC y aF F ++ (tC y aT T215 ++ (sC y bS aS176 Y180 S181 ++ zC y q218 9 z)))))) ef230.symm) rfl ?_
          refine x_dup (q := 662) C dL_build_661 rfl rfl ?_
          refine x_bipush (q := 664) C dL_build_662 kb_6 rfl ?_
          refine x_iconst (q := 665) C dL_build_664 ki_m1 rfl ?_
          have hb231 : xin 6 9 = true := by decide
          obtain ⟨f232, ef232, hf⟩ := lt_elim hf
          refine x_iast (q := 666) (ws' := hC aH aN aF aT aG ++ (gC y aG G ++ (nC y aN N214 ++ (nC y aF F ++ (tC y aT T215 ++ (sC y bS aS176 Y180 S181 ++ zC y q218 9 f232)))))) C 0 dL_build_665 (((((((zA y q218 9 f230).R).R).R).R).R).R) rfl hb231 (congrArg (fun z => hC aH aN aF aT aG ++ (gC y aG G ++ (nC y aN N214 ++ (nC y aF F ++ (tC y aT T215 ++ (sC y bS aS176 Y180 S181 ++ zC y q218 9 z)))))) ef232.symm) rfl ?_
          refine x_dup (q := 667) C dL_build_666 rfl rfl ?_
          refine x_bipush (q := 669) C dL_build_667 kb_7 rfl ?_
          refine x_iconst (q := 670) C dL_build_669 ki_m1 rfl ?_
          have hb233 : xin 7 9 = true := by decide
          obtain ⟨f234, ef234, hf⟩ := lt_elim hf
          refine x_iast (q := 671) (ws' := hC aH aN aF aT aG ++ (gC y aG G ++ (nC y aN N214 ++ (nC y aF F ++ (tC y aT T215 ++ (sC y bS aS176 Y180 S181 ++ zC y q218 9 f234)))))) C 0 dL_build_670 (((((((zA y q218 9 f232).R).R).R).R).R).R) rfl hb233 (congrArg (fun z => hC aH aN aF aT aG ++ (gC y aG G ++ (nC y aN N214 ++ (nC y aF F ++ (tC y aT T215 ++ (sC y bS aS176 Y180 S181 ++ zC y q218 9 z)))))) ef234.symm) rfl ?_
          refine x_dup (q := 672) C dL_build_671 rfl rfl ?_
          refine x_bipush (q := 674) C dL_build_672 kb_8 rfl ?_
          refine x_iconst (q := 675) C dL_build_674 ki_0 rfl ?_
          have hb235 : xin 8 9 = true := by decide
          obtain ⟨f236, ef236, hf⟩ := lt_elim hf
          refine x_iast (q := 676) (ws' := hC aH aN aF aT aG ++ (gC y aG G ++ (nC y aN N214 ++ (nC y aF F ++ (tC y aT T215 ++ (sC y bS aS176 Y180 S181 ++ zC y q218 9 f236)))))) C 0 dL_build_675 (((((((zA y q218 9 f234).R).R).R).R).R).R) rfl hb235 (congrArg (fun z => hC aH aN aF aT aG ++ (gC y aG G ++ (nC y aN N214 ++ (nC y aF F ++ (tC y aT T215 ++ (sC y bS aS176 Y180 S181 ++ zC y q218 9 z)))))) ef236.symm) rfl ?_
          obtain ⟨hg240, hf⟩ := gd_some hf
          have hg240 := of_decide_eq_true hg240
          refine x_world (ws' := ((hC aH aN aF aT aG ++ (gC y aG G ++ (nC y aN N214 ++ (nC y aF F ++ tC y aT T215)))) ++ sC y bS aS176 Y180 S181) ++ zC y q218 9 f236) ((asr6 _ _ _ _ _ _ _).trans (congrArg (fun z_ => z_ ++ zC y q218 9 f236) (asr5 _ _ _ _ _ _))) ?_
          refine x_grow4 (q := 682) C hJ hg240 gL_build_X3_more_ dL_build_676 dL_build_679 iuL_build_X3 flL_build_73 ⟨(Nat.le_of_ble_eq_true rfl), (Nat.le_of_ble_eq_true rfl)⟩ (Nat.le_of_ble_eq_true rfl) ⟨by dsimp only; omega, by dsimp only; omega⟩ rfl (fun v_ => ?_)
          obtain ⟨Y237, eY237, hf⟩ := lt_elim hf
          obtain ⟨S238, eS238, hf⟩ := lt_elim hf
          obtain ⟨aS239, eaS239⟩ : ∃ z_ : Nat → Nat, z_ = upA (upA aS176 4 v_) (rk 12 (Y180 4)) q218 := ⟨_, rfl⟩
          refine x_world (ws' := hC aH aN aF aT aG ++ (gC y aG G ++ (nC y aN N214 ++ (nC y aF F ++ (tC y aT T215 ++ sC y bS aS239 Y237 S238))))) (by rw [eaS239, eY237, eS238]; exact (asr5 _ _ _ _ _ _).symm) ?_
          clear eaS239
          refine x_widen (k' := kk + 2) (n' := nn + 42) (by omega) (by omega) ?_
          refine x_aload_n (q := 683) C 2 dL_build_682 rfl rfl rfl ?_
          refine x_aload_n (q := 684) C 2 dL_build_683 rfl rfl rfl ?_
          refine x_get (q := 687) C 4 dL_build_684 ((((((oX3 y bS aS239 Y237 S238).R).R).R).R).R) rfl iuL_build_X3 flL_build_76 rfl (by decide) rfl rfl ?_
          refine x_iconst (q := 688) C dL_build_687 ki_0 rfl ?_
          refine x_newa (q := 690) C 0 dL_build_688 knL_build rfl (by decide) (by decide) (by decide) (by dsimp only; omega) (by dsimp only; omega) rfl (fun q241 => ?_)
          refine x_world (ws' := hC aH aN aF aT aG ++ (gC y aG G ++ (nC y aN N214 ++ (nC y aF F ++ (tC y aT T215 ++ (sC y bS aS239 Y237 S238 ++ zC y q241 0 (fun _ => 0))))))) (asr6 _ _ _ _ _ _ _).symm ?_
          refine x_widen (k' := kk + 3) (n' := nn + 42) (by omega) (by omega) ?_
          obtain ⟨hg245, hf⟩ := gd_some hf
          have hg245 := of_decide_eq_true hg245
          refine x_world (ws' := ((hC aH aN aF aT aG ++ (gC y aG G ++ (nC y aN N214 ++ (nC y aF F ++ tC y aT T215)))) ++ sC y bS aS239 Y237 S238) ++ zC y q241 0 (fun _ => 0)) ((asr6 _ _ _ _ _ _ _).trans (congrArg (fun z_ => z_ ++ zC y q241 0 (fun _ => 0)) (asr5 _ _ _ _ _ _))) ?_
          refine x_grow5 (q := 696) C hJ hg245 gL_build_X3_more_ dL_build_690 dL_build_693 iuL_build_X3 flL_build_76 ⟨(Nat.le_of_ble_eq_true rfl), (Nat.le_of_ble_eq_true rfl)⟩ (Nat.le_of_ble_eq_true rfl) ⟨by dsimp only; omega, by dsimp only; omega⟩ rfl (fun v_ => ?_)
          obtain ⟨Y242, eY242, hf⟩ := lt_elim hf
          obtain ⟨S243, eS243, hf⟩ := lt_elim hf
          obtain ⟨aS244, eaS244⟩ : ∃ z_ : Nat → Nat, z_ = upA (upA aS239 5 v_) (rk 13 (Y237 5)) q241 := ⟨_, rfl⟩
          refine x_world (ws' := hC aH aN aF aT aG ++ (gC y aG G ++ (nC y aN N214 ++ (nC y aF F ++ (tC y aT T215 ++ sC y bS aS244 Y242 S243))))) (by rw [eaS244, eY242, eS243]; exact (asr5 _ _ _ _ _ _).symm) ?_
          clear eaS244
          refine x_widen (k' := kk + 4) (n' := nn + 75) (by omega) (by omega) ?_
          refine x_iconst (q := 697) C dL_build_696 ki_0 rfl ?_
          refine x_istore (q := 699) C [1, 2, 3, 4, 5, 6, 7, 0] [(0, .ref aH), (1, .ref bX), (2, .ref bS), (3, .int v7), (5, .int v92), (6, .int v173), (7, .int v177), (11, .int 0)] dL_build_697 (by decide) rfl rfl ?_
          refine w6_build_L699 C hJ hX (kX := kk + 4 + 32) (nX := nn + 75 + 1056) (by omega) (by omega) (fun aS251 T252 Y253 S254 hf => ?_) xF32 (kk + 4) (nn + 75) aS244 0 T215 Y242 S243 (by unfold xF32; omega) (by unfold xF32; omega) hf
          refine x_iinc (q := 752) C 6 (v177 + 1) [1, 2, 3, 4, 5, 6, 0] [(0, .ref aH), (1, .ref bX), (2, .ref bS), (3, .int v7), (5, .int v92), (6, .int v173), (7, .int (v177 + 1))] dL_build_749 rfl (congrArg (fun z => v177 + z) ki_1) (by decide) rfl rfl ?_
          refine x_goto (t := 525) C dL_build_752 (by decide) ?_
          exact ih (kk + 4 + 32) (nn + 75 + 1056) aS251 (v177 + 1) N214 T252 Y253 S254 (by omega) (by omega) hf
        · have hf := (if_neg hc).symm.trans hf
          cases hf
      refine x_if_ne (t := 600) (q := 594) C dL_build_591 (by decide) rfl (fun hc => ?_) (fun hc => ?_)
      · have hf := (if_neg hc).symm.trans hf
        refine x_bipush (q := 602) C dL_build_600 kb_60 rfl ?_
        exact hJ602 60 hf
      · have hf := (if_pos hc).symm.trans hf
        refine x_sipush (q := 597) C dL_build_594 ks_1000 rfl ?_
        refine x_goto (t := 602) C dL_build_597 (by decide) ?_
        exact hJ602 1000 hf
set_option maxHeartbeats 4000000 in
set_option maxRecDepth 100000 in
theorem w6_build {p : Program} {l : Launch} {e : Env} {s : State} {m : MethodId} {args : Array Value} {below : List Frame} {meth : Method} {c : Code} {D : va_G} {A : Nat → Prop} {y : Nat → ClassId} {bS : Nat} {aH : Nat} {aG aN aF aT aS : Nat → Nat} {Q : State → Prop} {bX LX : Nat} {xs : Nat → Int32} {G : St} {N : St} {F : St} {T : St} {Y : (Nat → Nat)} {S : St} {N' : St} {T' : St} {Y' : (Nat → Nat)} {S' : St} (C : xC p s m args meth c D A cL_build RL 12 wsL_build (xT y) (some (.object "LampHillsLaw$Sim"))) (hJ : xJ2 s) (hX : xS bX LX xs s A) (hf : f6_build G N F T Y S xs LX = some (N', T', Y', S')) (hEnd : ∀ aZ : Nat → Nat, xV p l e { frames := 9, cells := 3000, slots := 90000, locals := 160 } s m args below meth c D A Q 12 (hC aH aN aF aT aG ++ (gC y aG G ++ (nC y aN N' ++ (nC y aF F ++ (tC y aT T' ++ sC y bS aZ Y' S'))))) 1332 39888 [(2, .ref bS)] 755 []) : xV p l e { frames := 9, cells := 3000, slots := 90000, locals := 160 } s m args below meth c D A Q 12 (hC aH aN aF aT aG ++ (gC y aG G ++ (nC y aN N ++ (nC y aF F ++ (tC y aT T ++ sC y bS aS Y S))))) 20 176 [(0, .ref aH), (1, .ref bX)] 7 [.ref bS] := by
  unfold f6_build at hf
  refine x_astore_n (q := 8) C [1, 2, 0] [(0, .ref aH), (1, .ref bX), (2, .ref bS)] dL_build_7 rfl (by decide) rfl rfl ?_
  refine x_iconst (q := 9) C dL_build_8 ki_2 rfl ?_
  refine x_aload_n (q := 10) C 1 dL_build_9 rfl rfl rfl ?_
  refine x_iconst (q := 11) C dL_build_10 ki_0 rfl ?_
  obtain ⟨v1, hcal2, hf⟩ := bd_some hf
  refine x_callXSi (q := 14) (Wc := []) C hJ hX (c6_cell (l := l) (D := D) (y := y) (b := bX) hcal2) yi_L_cell gL_build_L_cell ⟨(Nat.le_of_ble_eq_true rfl), (Nat.le_of_ble_eq_true rfl)⟩ dL_build_11 pm_emp rfl rfl (Nat.le_of_ble_eq_true rfl) ⟨(Nat.le_of_ble_eq_true rfl), (Nat.le_of_ble_eq_true rfl)⟩ rfl ?_
  intro rr3 uu hrr
  have hrr : v1 = rr3 := Eq.symm hrr
  subst hrr
  refine x_world (ws' := hC aH aN aF aT aG ++ (gC y aG G ++ (nC y aN N ++ (nC y aF F ++ (tC y aT T ++ sC y bS aS Y S))))) rfl ?_
  refine x_bipush (q := 16) C dL_build_14 kb_10 rfl ?_
  obtain ⟨v4, hcal5, hf⟩ := bd_some hf
  refine x_callSi (q := 19) (Wc := []) C (c6_below (l := l) (D := D) (y := y) hcal5) yi_L_below gL_build_L_below ⟨(Nat.le_of_ble_eq_true rfl), (Nat.le_of_ble_eq_true rfl)⟩ dL_build_16 pm_emp rfl rfl (Nat.le_of_ble_eq_true rfl) ⟨(Nat.le_of_ble_eq_true rfl), (Nat.le_of_ble_eq_true rfl)⟩ rfl ?_
  intro rr6 uu hrr
  have hrr : v4 = rr6 := Eq.symm hrr
  subst hrr
  refine x_world (ws' := hC aH aN aF aT aG ++ (gC y aG G ++ (nC y aN N ++ (nC y aF F ++ (tC y aT T ++ sC y bS aS Y S))))) rfl ?_
  refine x_iadd (q := 20) C dL_build_19 rfl ?_
  obtain ⟨v7, ev7, hf⟩ := lt_elim hf
  refine x_topi ev7 ?_
  refine x_istore_n (q := 21) C [1, 2, 3, 0] [(0, .ref aH), (1, .ref bX), (2, .ref bS), (3, .int v7)] dL_build_20 rfl (by decide) rfl rfl ?_
  refine x_iconst (q := 22) C dL_build_21 ki_0 rfl ?_
  refine x_istore (q := 24) C [1, 2, 3, 4, 0] [(0, .ref aH), (1, .ref bX), (2, .ref bS), (3, .int v7), (4, .int 0)] dL_build_22 (by decide) rfl rfl ?_
  refine w6_build_L24 C hJ hX (kX := 52) (nX := 1232) (by decide) (by decide) (fun aS13 T14 Y15 S16 hf => ?_) xF32 20 176 aS 0 T Y S (by unfold xF32; omega) (by unfold xF32; omega) hf
  refine x_iconst (q := 80) C dL_build_79 ki_1 rfl ?_
  refine x_aload_n (q := 81) C 1 dL_build_80 rfl rfl rfl ?_
  refine x_iconst (q := 82) C dL_build_81 ki_2 rfl ?_
  obtain ⟨v31, hcal32, hf⟩ := bd_some hf
  refine x_callXSi (q := 85) (Wc := []) C hJ hX (c6_cell (l := l) (D := D) (y := y) (b := bX) hcal32) yi_L_cell gL_build_L_cell ⟨(Nat.le_of_ble_eq_true rfl), (Nat.le_of_ble_eq_true rfl)⟩ dL_build_82 pm_emp rfl rfl (Nat.le_of_ble_eq_true rfl) ⟨(Nat.le_of_ble_eq_true rfl), (Nat.le_of_ble_eq_true rfl)⟩ rfl ?_
  intro rr33 uu hrr
  have hrr : v31 = rr33 := Eq.symm hrr
  subst hrr
  refine x_world (ws' := hC aH aN aF aT aG ++ (gC y aG G ++ (nC y aN N ++ (nC y aF F ++ (tC y aT T14 ++ sC y bS aS13 Y15 S16))))) rfl ?_
  refine x_bipush (q := 87) C dL_build_85 kb_18 rfl ?_
  obtain ⟨v34, hcal35, hf⟩ := bd_some hf
  refine x_callSi (q := 90) (Wc := []) C (c6_below (l := l) (D := D) (y := y) hcal35) yi_L_below gL_build_L_below ⟨(Nat.le_of_ble_eq_true rfl), (Nat.le_of_ble_eq_true rfl)⟩ dL_build_87 pm_emp rfl rfl (Nat.le_of_ble_eq_true rfl) ⟨(Nat.le_of_ble_eq_true rfl), (Nat.le_of_ble_eq_true rfl)⟩ rfl ?_
  intro rr36 uu hrr
  have hrr : v34 = rr36 := Eq.symm hrr
  subst hrr
  refine x_world (ws' := hC aH aN aF aT aG ++ (gC y aG G ++ (nC y aN N ++ (nC y aF F ++ (tC y aT T14 ++ sC y bS aS13 Y15 S16))))) rfl ?_
  refine x_iadd (q := 91) C dL_build_90 rfl ?_
  obtain ⟨v37, ev37, hf⟩ := lt_elim hf
  refine x_topi ev37 ?_
  refine x_istore (q := 93) C [1, 2, 3, 4, 0] [(0, .ref aH), (1, .ref bX), (2, .ref bS), (3, .int v7), (4, .int v37)] dL_build_91 (by decide) rfl rfl ?_
  refine x_iconst (q := 94) C dL_build_93 ki_0 rfl ?_
  refine x_istore (q := 96) C [1, 2, 3, 4, 5, 0] [(0, .ref aH), (1, .ref bX), (2, .ref bS), (3, .int v7), (4, .int v37), (5, .int 0)] dL_build_94 (by decide) rfl rfl ?_
  refine w6_build_L96 C hJ hX (kX := 116) (nX := 2384) (by decide) (by decide) (fun aS43 T44 Y45 S46 hf => ?_) xF32 52 1232 aS13 0 T14 Y15 S16 (by unfold xF32; omega) (by unfold xF32; omega) hf
  refine x_aload_n (q := 255) C 2 dL_build_254 rfl rfl rfl ?_
  obtain ⟨S84, hcal85, hf⟩ := bd_some hf
  refine x_callVv (q := 258) C (c5_measure (l := l) (D := D) (y := y) (bS := bS) (aS := aS43) hcal85) yi_X3_measure gL_build_X3_measure rfl (oX3 y bS aS43 Y45 S46) rfl ⟨(Nat.le_of_ble_eq_true rfl), (Nat.le_of_ble_eq_true rfl)⟩ dL_build_255 (pm6_5 _ _ _ _ _ _) rfl rfl (Nat.le_of_ble_eq_true rfl) ⟨Nat.le_of_ble_eq_true rfl, Nat.le_of_ble_eq_true rfl⟩ rfl ?_
  intro uu hrr
  refine x_perm (ws' := hC aH aN aF aT aG ++ (gC y aG G ++ (nC y aN N ++ (nC y aF F ++ (tC y aT T44 ++ sC y bS aS43 Y45 S84))))) (pm6_5 _ _ _ _ _ _).symm ?_
  refine x_iconst (q := 259) C dL_build_258 ki_1 rfl ?_
  refine x_aload_n (q := 260) C 1 dL_build_259 rfl rfl rfl ?_
  refine x_bipush (q := 262) C dL_build_260 kb_6 rfl ?_
  obtain ⟨v86, hcal87, hf⟩ := bd_some hf
  refine x_callXSi (q := 265) (Wc := []) C hJ hX (c6_cell (l := l) (D := D) (y := y) (b := bX) hcal87) yi_L_cell gL_build_L_cell ⟨(Nat.le_of_ble_eq_true rfl), (Nat.le_of_ble_eq_true rfl)⟩ dL_build_262 pm_emp rfl rfl (Nat.le_of_ble_eq_true rfl) ⟨(Nat.le_of_ble_eq_true rfl), (Nat.le_of_ble_eq_true rfl)⟩ rfl ?_
  intro rr88 uu hrr
  have hrr : v86 = rr88 := Eq.symm hrr
  subst hrr
  refine x_world (ws' := hC aH aN aF aT aG ++ (gC y aG G ++ (nC y aN N ++ (nC y aF F ++ (tC y aT T44 ++ sC y bS aS43 Y45 S84))))) rfl ?_
  refine x_bipush (q := 267) C dL_build_265 kb_20 rfl ?_
  obtain ⟨v89, hcal90, hf⟩ := bd_some hf
  refine x_callSi (q := 270) (Wc := []) C (c6_below (l := l) (D := D) (y := y) hcal90) yi_L_below gL_build_L_below ⟨(Nat.le_of_ble_eq_true rfl), (Nat.le_of_ble_eq_true rfl)⟩ dL_build_267 pm_emp rfl rfl (Nat.le_of_ble_eq_true rfl) ⟨(Nat.le_of_ble_eq_true rfl), (Nat.le_of_ble_eq_true rfl)⟩ rfl ?_
  intro rr91 uu hrr
  have hrr : v89 = rr91 := Eq.symm hrr
  subst hrr
  refine x_world (ws' := hC aH aN aF aT aG ++ (gC y aG G ++ (nC y aN N ++ (nC y aF F ++ (tC y aT T44 ++ sC y bS aS43 Y45 S84))))) rfl ?_
  refine x_iadd (q := 271) C dL_build_270 rfl ?_
  obtain ⟨v92, ev92, hf⟩ := lt_elim hf
  refine x_topi ev92 ?_
  refine x_istore (q := 273) C [1, 2, 3, 4, 5, 0] [(0, .ref aH), (1, .ref bX), (2, .ref bS), (3, .int v7), (4, .int v37), (5, .int v92)] dL_build_271 (by decide) rfl rfl ?_
  refine x_iconst (q := 274) C dL_build_273 ki_0 rfl ?_
  refine x_istore (q := 276) C [1, 2, 3, 4, 5, 6, 0] [(0, .ref aH), (1, .ref bX), (2, .ref bS), (3, .int v7), (4, .int v37), (5, .int v92), (6, .int 0)] dL_build_274 (by decide) rfl rfl ?_
  refine w6_build_L276 C hJ hX (kX := 180) (nX := 3696) (by decide) (by decide) (fun aS98 T99 Y100 S101 hf => ?_) xF32 116 2384 aS43 0 T44 Y45 S84 (by unfold xF32; omega) (by unfold xF32; omega) hf
  refine x_iconst (q := 454) C dL_build_453 ki_0 rfl ?_
  refine x_istore (q := 456) C [1, 2, 3, 4, 5, 0] [(0, .ref aH), (1, .ref bX), (2, .ref bS), (3, .int v7), (5, .int v92), (6, .int 0)] dL_build_454 (by decide) rfl rfl ?_
  refine w6_build_L456 C hJ hX (fun T156 S157 hf => ?_) xF 0 T99 S101 hf
  refine x_aload_n (q := 511) C 1 dL_build_510 rfl rfl rfl ?_
  refine x_bipush (q := 513) C dL_build_511 kb_11 rfl ?_
  obtain ⟨v170, hcal171, hf⟩ := bd_some hf
  refine x_callXSi (q := 516) (Wc := []) C hJ hX (c6_cell (l := l) (D := D) (y := y) (b := bX) hcal171) yi_L_cell gL_build_L_cell ⟨(Nat.le_of_ble_eq_true rfl), (Nat.le_of_ble_eq_true rfl)⟩ dL_build_513 pm_emp rfl rfl (Nat.le_of_ble_eq_true rfl) ⟨(Nat.le_of_ble_eq_true rfl), (Nat.le_of_ble_eq_true rfl)⟩ rfl ?_
  intro rr172 uu hrr
  have hrr : v170 = rr172 := Eq.symm hrr
  subst hrr
  refine x_world (ws' := hC aH aN aF aT aG ++ (gC y aG G ++ (nC y aN N ++ (nC y aF F ++ (tC y aT T156 ++ sC y bS aS98 Y100 S157))))) rfl ?_
  refine x_iconst (q := 517) C dL_build_516 ki_5 rfl ?_
  obtain ⟨v173, hcal174, hf⟩ := bd_some hf
  refine x_callSi (q := 520) (Wc := []) C (c6_below (l := l) (D := D) (y := y) hcal174) yi_L_below gL_build_L_below ⟨(Nat.le_of_ble_eq_true rfl), (Nat.le_of_ble_eq_true rfl)⟩ dL_build_517 pm_emp rfl rfl (Nat.le_of_ble_eq_true rfl) ⟨(Nat.le_of_ble_eq_true rfl), (Nat.le_of_ble_eq_true rfl)⟩ rfl ?_
  intro rr175 uu hrr
  have hrr : v173 = rr175 := Eq.symm hrr
  subst hrr
  refine x_world (ws' := hC aH aN aF aT aG ++ (gC y aG G ++ (nC y aN N ++ (nC y aF F ++ (tC y aT T156 ++ sC y bS aS98 Y100 S157))))) rfl ?_
  refine x_istore (q := 522) C [1, 2, 3, 4, 5, 0] [(0, .ref aH), (1, .ref bX), (2, .ref bS), (3, .int v7), (5, .int v92), (6, .int v173)] dL_build_520 (by decide) rfl rfl ?_
  refine x_iconst (q := 523) C dL_build_522 ki_0 rfl ?_
  refine x_istore (q := 525) C [1, 2, 3, 4, 5, 6, 0] [(0, .ref aH), (1, .ref bX), (2, .ref bS), (3, .int v7), (5, .int v92), (6, .int v173), (7, .int 0)] dL_build_523 (by decide) rfl rfl ?_
  refine w6_build_L525 C hJ hX (kX := 1332) (nX := 39888) (by decide) (by decide) (fun aS182 N183 T184 Y185 S186 hf => ?_) xF32 180 3696 aS98 0 N T156 Y100 S157 (by unfold xF32; omega) (by unfold xF32; omega) hf
  have hf := Option.some.inj hf
  obtain ⟨hr0, hx0⟩ := Prod.mk.inj hf
  obtain ⟨hr1, hx1⟩ := Prod.mk.inj hx0
  obtain ⟨hr2, hx2⟩ := Prod.mk.inj hx1
  have hr3 := hx2
  subst hr0
  subst hr1
  subst hr2
  subst hr3
  exact hEnd aS182
