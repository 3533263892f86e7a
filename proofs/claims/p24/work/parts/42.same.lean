/-! LampHillsLaw$Sim.isSame, from 0 to 389 -/
theorem flX3_isSame_14 : Cond.fieldLink RX3 14 "LampHillsLaw$Sim" "streets" "[[I" ∈ wsX3_isSame := by decide +kernel
theorem flX3_isSame_18 : Cond.fieldLink RX3 18 "LampHillsLaw$Sim" "lamps" "[[I" ∈ wsX3_isSame := by decide +kernel
theorem flX3_isSame_21 : Cond.fieldLink RX3 21 "LampHillsLaw$Sim" "lighters" "[[I" ∈ wsX3_isSame := by decide +kernel
theorem flX3_isSame_24 : Cond.fieldLink RX3 24 "LampHillsLaw$Sim" "rounds" "[[I" ∈ wsX3_isSame := by decide +kernel
theorem flX3_isSame_39 : Cond.fieldLink RX3 39 "LampHillsLaw$Sim" "minute" "I" ∈ wsX3_isSame := by decide +kernel
theorem flX3_isSame_55 : Cond.fieldLink RX3 55 "LampHillsLaw$Sim" "used" "I" ∈ wsX3_isSame := by decide +kernel
theorem flX3_isSame_7 : Cond.fieldLink RX3 7 "LampHillsLaw$Sim" "height" "[I" ∈ wsX3_isSame := by decide +kernel
theorem flX3_isSame_70 : Cond.fieldLink RX3 70 "LampHillsLaw$Sim" "night" "I" ∈ wsX3_isSame := by decide +kernel
theorem iuX3_isSame_X3 : ∀ w ∈ u_ws RX3 TX3 10, w ∈ wsX3_isSame := fun _ h => List.mem_cons_of_mem _ (List.mem_append_left _ (List.mem_append_left _ (List.mem_append_left _ (List.mem_append_left _ (List.mem_append_right _ h)))))
theorem knX3_isSame : Cond.arrayClass .int ∈ wsX3_isSame := by decide +kernel
theorem yi_X2_burning : xY yX2_burning wsX2_burning cX2_burning 2 (some .int) 1 := ⟨⟨_, rfl⟩, by decide +kernel, by decide +kernel, by decide +kernel⟩
theorem yi_X2_count : xY yX2_count wsX2_count cX2_count 2 (some .int) 1 := ⟨⟨_, rfl⟩, by decide +kernel, by decide +kernel, by decide +kernel⟩
theorem yi_X2_lighter : xY yX2_lighter wsX2_lighter cX2_lighter 3 (some .int) 2 := ⟨⟨_, rfl⟩, by decide +kernel, by decide +kernel, by decide +kernel⟩
theorem yi_X2_told : xY yX2_told wsX2_told cX2_told 3 (some .int) 2 := ⟨⟨_, rfl⟩, by decide +kernel, by decide +kernel, by decide +kernel⟩
theorem yi_X3_dark : xY yX3_dark wsX3_dark cX3_dark 3 (some .int) 0 := ⟨⟨_, rfl⟩, by decide +kernel, by decide +kernel, by decide +kernel⟩
def f6_same_L88 (v1 : Int32) (G : St) (N : St) (F : St) (T : St) (f32 : (Nat → Int32)) (K : Unit → Option (Unit)) : Nat → Int32 → Option (Unit)
  | 0, _ => none
  | fu + 1, v33 =>
  if 9 ≤ v33 then
  (
    K ()
  )
  else
  (
    br (f2_told G N F T v1 v33) fun v34 =>
    gd (xin v33 9) <|
    if v34 = (f32 v33.toNatClampNeg) then
    (
      f6_same_L88 v1 G N F T f32 K fu (v33 + 1)
    )
    else
    (
      none
    )
  )
def f6_same_L2 (G : St) (N : St) (F : St) (T : St) (Y : (Nat → Nat)) (S : St) (K : Unit → Option (Unit)) : Nat → Int32 → Option (Unit)
  | 0, _ => none
  | fu + 1, v1 =>
  if (Int32.ofNat (Y 3)) ≤ v1 then
  (
    K ()
  )
  else
  (
    gd (xin v1 (Y 3)) <|
    lt_ (upd ((fun _ => 0)) (0 : Int32).toNatClampNeg (S (rk 11 v1.toNatClampNeg) (0 : Int32).toNatClampNeg)) fun f6 =>
    lt_ (upd f6 (1 : Int32).toNatClampNeg (S (rk 11 v1.toNatClampNeg) (1 : Int32).toNatClampNeg)) fun f9 =>
    lt_ (upd f9 (2 : Int32).toNatClampNeg (S (rk 11 v1.toNatClampNeg) (2 : Int32).toNatClampNeg)) fun f12 =>
    lt_ (upd f12 (3 : Int32).toNatClampNeg (S (rk 11 v1.toNatClampNeg) (3 : Int32).toNatClampNeg)) fun f15 =>
    lt_ (upd f15 (4 : Int32).toNatClampNeg (S (rk 11 v1.toNatClampNeg) (4 : Int32).toNatClampNeg)) fun f18 =>
    lt_ (upd f18 (5 : Int32).toNatClampNeg (S (rk 11 v1.toNatClampNeg) (5 : Int32).toNatClampNeg)) fun f21 =>
    bd (f5_goer Y S v1) fun v22 =>
    lt_ (upd f21 (6 : Int32).toNatClampNeg v22) fun f26 =>
    lt_ (upd f26 (7 : Int32).toNatClampNeg (S (rk 11 v1.toNatClampNeg) (6 : Int32).toNatClampNeg)) fun f29 =>
    lt_ (upd f29 (8 : Int32).toNatClampNeg (S (rk 11 v1.toNatClampNeg) (7 : Int32).toNatClampNeg)) fun f32 =>
    f6_same_L88 v1 G N F T f32 (fun (u_ : Unit) =>
    (
      f6_same_L2 G N F T Y S K fu (v1 + 1)
    )
    ) xF 0
  )
def f6_same_L209 (v38 : Int32) (G : St) (N : St) (F : St) (T : St) (f61 : (Nat → Int32)) (K : Unit → Option (Unit)) : Nat → Int32 → Option (Unit)
  | 0, _ => none
  | fu + 1, v62 =>
  if 7 ≤ v62 then
  (
    K ()
  )
  else
  (
    br (f2_lighter G N F T v38 v62) fun v63 =>
    gd (xin v62 7) <|
    if v63 = (f61 v62.toNatClampNeg) then
    (
      f6_same_L209 v38 G N F T f61 K fu (v62 + 1)
    )
    else
    (
      none
    )
  )
def f6_same_L126 (G : St) (N : St) (F : St) (T : St) (Y : (Nat → Nat)) (S : St) (K : Unit → Option (Unit)) : Nat → Int32 → Option (Unit)
  | 0, _ => none
  | fu + 1, v38 =>
  if (Int32.ofNat (Y 4)) ≤ v38 then
  (
    K ()
  )
  else
  (
    gd (xin v38 (Y 4)) <|
    lt_ (upd ((fun _ => 0)) (0 : Int32).toNatClampNeg (S (rk 12 v38.toNatClampNeg) (1 : Int32).toNatClampNeg)) fun f43 =>
    lt_ (upd f43 (1 : Int32).toNatClampNeg (S (rk 12 v38.toNatClampNeg) (2 : Int32).toNatClampNeg)) fun f46 =>
    lt_ (upd f46 (2 : Int32).toNatClampNeg (S (rk 12 v38.toNatClampNeg) (3 : Int32).toNatClampNeg)) fun f49 =>
    gd (xin v38 (Y 5)) <|
    lt_ (upd f49 (3 : Int32).toNatClampNeg (Int32.ofNat (Y (rk 13 v38.toNatClampNeg)))) fun f52 =>
    lt_ (upd f52 (4 : Int32).toNatClampNeg (S (rk 12 v38.toNatClampNeg) (4 : Int32).toNatClampNeg)) fun f55 =>
    lt_ (fun (v56 : Int32) =>
    (
      lt_ (upd f55 (5 : Int32).toNatClampNeg v56) fun f58 =>
      lt_ (upd f58 (6 : Int32).toNatClampNeg (S (rk 12 v38.toNatClampNeg) (8 : Int32).toNatClampNeg)) fun f61 =>
      f6_same_L209 v38 G N F T f61 (fun (u_ : Unit) =>
      (
        f6_same_L126 G N F T Y S K fu (v38 + 1)
      )
      ) xF 0
    )
    ) fun J195 =>
    if 0 ≤ (S (rk 12 v38.toNatClampNeg) (4 : Int32).toNatClampNeg) then
    (
      J195 (S (rk 12 v38.toNatClampNeg) (5 : Int32).toNatClampNeg)
    )
    else
    (
      J195 0
    )
  )
def f6_same_L247 (G : St) (N : St) (F : St) (T : St) (Y : (Nat → Nat)) (S : St) (K : Unit → Option (Unit)) : Nat → Int32 → Option (Unit)
  | 0, _ => none
  | fu + 1, v68 =>
  if (Int32.ofNat (Y 2)) ≤ v68 then
  (
    K ()
  )
  else
  (
    br (f2_burning G N F T v68) fun v69 =>
    bd (f5_burning Y S v68) fun v72 =>
    if v69 = v72 then
    (
      f6_same_L247 G N F T Y S K fu (v68 + 1)
    )
    else
    (
      none
    )
  )
def f6_same_L364 (G : St) (N : St) (F : St) (T : St) (f104 : (Nat → Int32)) (K : Unit → Option (Unit)) : Nat → Int32 → Option (Unit)
  | 0, _ => none
  | fu + 1, v105 =>
  if 10 ≤ v105 then
  (
    K ()
  )
  else
  (
    br (f2_count G N F T v105) fun v106 =>
    gd (xin v105 10) <|
    if v106 = (f104 v105.toNatClampNeg) then
    (
      f6_same_L364 G N F T f104 K fu (v105 + 1)
    )
    else
    (
      none
    )
  )
def f6_same (G : St) (N : St) (F : St) (T : St) (Y : (Nat → Nat)) (S : St) : Option (Unit) :=
  f6_same_L2 G N F T Y S (fun (u_ : Unit) =>
  (
    f6_same_L126 G N F T Y S (fun (u_ : Unit) =>
    (
      f6_same_L247 G N F T Y S (fun (u_ : Unit) =>
      (
        lt_ (upd ((fun _ => 0)) (0 : Int32).toNatClampNeg (S 7 0)) fun f77 =>
        lt_ (upd f77 (1 : Int32).toNatClampNeg (S 8 0)) fun f79 =>
        lt_ (upd f79 (2 : Int32).toNatClampNeg (Int32.ofNat (Y 1))) fun f81 =>
        lt_ (upd f81 (3 : Int32).toNatClampNeg (Int32.ofNat (Y 2))) fun f83 =>
        lt_ (upd f83 (4 : Int32).toNatClampNeg (Int32.ofNat (Y 3))) fun f85 =>
        bd (f5_sum Y S 5) fun v86 =>
        lt_ (upd f85 (5 : Int32).toNatClampNeg v86) fun f90 =>
        bd (f5_dark Y S) fun v91 =>
        lt_ (upd f90 (6 : Int32).toNatClampNeg v91) fun f95 =>
        lt_ (upd f95 (7 : Int32).toNatClampNeg (Int32.ofNat (Y 4))) fun f97 =>
        bd (f5_sum Y S 3) fun v98 =>
        lt_ (upd f97 (8 : Int32).toNatClampNeg v98) fun f102 =>
        lt_ (upd f102 (9 : Int32).toNatClampNeg (S 9 0)) fun f104 =>
        f6_same_L364 G N F T f104 (fun (u_ : Unit) =>
        (
          some ()
        )
        ) xF 0
      )
      ) xF 0
    )
    ) xF32 0
  )
  ) xF32 0
set_option maxHeartbeats 4000000 in
set_option maxRecDepth 100000 in
theorem w6_same_L88 {p : Program} {l : Launch} {e : Env} {s : State} {m : MethodId} {args : Array Value} {below : List Frame} {meth : Method} {c : Code} {D : va_G} {A : Nat → Prop} {y : Nat → ClassId} {bS : Nat} {aH : Nat} {aG aN aF aT aS : Nat → Nat} {Q : State → Prop} {G : St} {N : St} {F : St} {T : St} {Y : (Nat → Nat)} {S : St} {v1 : Int32} {f32 : (Nat → Int32)} {q3 : Nat} {K : Unit → Option (Unit)} (C : xC p s m args meth c D A cX3_isSame RX3 6 wsX3_isSame (xT y) (some .boolean)) {k0_ n0_ : Nat} (hg1 : k0_ ≤ 100) (hg2 : n0_ ≤ 600) (hK : ∀ (u_ : Unit), K u_ = some () → xV p l e { frames := 8, cells := 100, slots := 600, locals := 133 } s m args below meth c D A Q 6 (hC aH aN aF aT aG ++ (gC y aG G ++ (nC y aN N ++ (nC y aF F ++ (tC y aT T ++ (sC y bS aS Y S ++ zC y q3 9 f32)))))) k0_ n0_ [(0, .ref bS), (1, .ref aH), (2, .int v1)] 118 []) : ∀ (fu : Nat) (v33 : Int32), f6_same_L88 v1 G N F T f32 K fu v33 = some () → xV p l e { frames := 8, cells := 100, slots := 600, locals := 133 } s m args below meth c D A Q 6 (hC aH aN aF aT aG ++ (gC y aG G ++ (nC y aN N ++ (nC y aF F ++ (tC y aT T ++ (sC y bS aS Y S ++ zC y q3 9 f32)))))) k0_ n0_ [(0, .ref bS), (1, .ref aH), (2, .int v1), (4, .ref q3), (5, .int v33)] 88 [] := by
  intro fu
  induction fu with
  | zero => intro v33 hf; rw [f6_same_L88] at hf; cases hf
  | succ fu ih =>
    intro v33 hf
    rw [f6_same_L88] at hf
    refine x_iload (q := 90) C 4 dX3_isSame_88 rfl rfl ?_
    refine x_bipush (q := 92) C dX3_isSame_90 kb_9 rfl ?_
    refine x_icmp_ge (t := 118) (q := 95) C dX3_isSame_92 (by decide) rfl (fun hc => ?_) (fun hc => ?_)
    · have hf := (if_pos hc).symm.trans hf
      refine x_sub [0, 1, 2] (L' := [(0, .ref bS), (1, .ref aH), (2, .int v1)]) rfl ?_
      exact hK () hf
    · have hf := (if_neg hc).symm.trans hf
      refine x_aload_n (q := 96) C 1 dX3_isSame_95 rfl rfl rfl ?_
      refine x_iload_n (q := 97) C 2 dX3_isSame_96 rfl rfl rfl ?_
      refine x_iload (q := 99) C 4 dX3_isSame_97 rfl rfl ?_
      obtain ⟨v34, hcal35, hf⟩ := br_some hf
      refine x_callVi (q := 102) C (c2_told (l := l) (D := D) (y := y) (aH := aH) (aG := aG) (aN := aN) (aF := aF) (aT := aT) hcal35) yi_X2_told gX3_isSame_X2_told rfl ((oX2 aH aN aF aT aG).L) rfl ⟨(Nat.le_of_ble_eq_true rfl), (Nat.le_of_ble_eq_true rfl)⟩ dX3_isSame_99 (pm7_01234 _ _ _ _ _ _ _) rfl rfl (Nat.le_of_ble_eq_true rfl) ⟨by dsimp only; omega, by dsimp only; omega⟩ rfl ?_
      intro rr36 uu hrr
      have hrr : v34 = rr36 := Eq.symm hrr
      subst hrr
      refine x_perm (ws' := hC aH aN aF aT aG ++ (gC y aG G ++ (nC y aN N ++ (nC y aF F ++ (tC y aT T ++ (sC y bS aS Y S ++ zC y q3 9 f32)))))) (pm7_01234 _ _ _ _ _ _ _).symm ?_
      refine x_aload (q := 104) C 3 dX3_isSame_102 rfl rfl ?_
      refine x_iload (q := 106) C 4 dX3_isSame_104 rfl rfl ?_
      obtain ⟨hb37, hf⟩ := gd_some hf
      refine x_iald (q := 107) C 0 dX3_isSame_106 (((((((zA y q3 9 f32).R).R).R).R).R).R) rfl hb37 rfl ?_
      refine x_icmp_eq (t := 112) (q := 110) C dX3_isSame_107 (by decide) rfl (fun hc => ?_) (fun hc => ?_)
      · have hf := (if_pos hc).symm.trans hf
        refine x_iinc (q := 115) C 4 (v33 + 1) [1, 2, 3, 4, 0] [(0, .ref bS), (1, .ref aH), (2, .int v1), (4, .ref q3), (5, .int (v33 + 1))] dX3_isSame_112 rfl (congrArg (fun z => v33 + z) ki_1) (by decide) rfl rfl ?_
        refine x_goto (t := 88) C dX3_isSame_115 (by decide) ?_
        exact ih (v33 + 1) hf
      · have hf := (if_neg hc).symm.trans hf
        refine x_iconst (q := 111) C dX3_isSame_110 ki_0 rfl ?_
        cases hf
set_option maxHeartbeats 4000000 in
set_option maxRecDepth 100000 in
theorem w6_same_L2 {p : Program} {l : Launch} {e : Env} {s : State} {m : MethodId} {args : Array Value} {below : List Frame} {meth : Method} {c : Code} {D : va_G} {A : Nat → Prop} {y : Nat → ClassId} {bS : Nat} {aH : Nat} {aG aN aF aT aS : Nat → Nat} {Q : State → Prop} {G : St} {N : St} {F : St} {T : St} {Y : (Nat → Nat)} {S : St} {K : Unit → Option (Unit)} (C : xC p s m args meth c D A cX3_isSame RX3 6 wsX3_isSame (xT y) (some .boolean)) {kX nX : Nat} (hm1 : kX ≤ 100) (hm2 : nX ≤ 600) (hK : ∀ (u_ : Unit), K u_ = some () → xV p l e { frames := 8, cells := 100, slots := 600, locals := 133 } s m args below meth c D A Q 6 (hC aH aN aF aT aG ++ (gC y aG G ++ (nC y aN N ++ (nC y aF F ++ (tC y aT T ++ sC y bS aS Y S))))) kX nX [(0, .ref bS), (1, .ref aH)] 124 []) : ∀ (fu : Nat) (kk nn : Nat) (v1 : Int32), kk + 1 * fu ≤ kX → nn + 9 * fu ≤ nX → f6_same_L2 G N F T Y S K fu v1 = some () → xV p l e { frames := 8, cells := 100, slots := 600, locals := 133 } s m args below meth c D A Q 6 (hC aH aN aF aT aG ++ (gC y aG G ++ (nC y aN N ++ (nC y aF F ++ (tC y aT T ++ sC y bS aS Y S))))) kk nn [(0, .ref bS), (1, .ref aH), (2, .int v1)] 2 [] := by
  intro fu
  induction fu with
  | zero => intro kk nn v1 hb1 hb2 hf; rw [f6_same_L2] at hf; cases hf
  | succ fu ih =>
    intro kk nn v1 hb1 hb2 hf
    rw [f6_same_L2] at hf
    refine x_iload_n (q := 3) C 2 dX3_isSame_2 rfl rfl rfl ?_
    refine x_aload_n (q := 4) C 0 dX3_isSame_3 rfl rfl rfl ?_
    refine x_get (q := 7) C 2 dX3_isSame_4 ((((((oX3 y bS aS Y S).R).R).R).R).R) rfl iuX3_isSame_X3 flX3_isSame_18 rfl (by decide) rfl rfl ?_
    refine x_alenr (q := 8) C 2 dX3_isSame_7 ((((((gX3_2 y bS aS Y S).R).R).R).R).R) rfl rfl ?_
    refine x_icmp_ge (t := 124) (q := 11) C dX3_isSame_8 (by decide) rfl (fun hc => ?_) (fun hc => ?_)
    · have hf := (if_pos hc).symm.trans hf
      refine x_sub [0, 1] (L' := [(0, .ref bS), (1, .ref aH)]) rfl ?_
      refine x_widen (k' := kX) (n' := nX) (by omega) (by omega) ?_
      exact hK () hf
    · have hf := (if_neg hc).symm.trans hf
      refine x_aload_n (q := 12) C 0 dX3_isSame_11 rfl rfl rfl ?_
      refine x_get (q := 15) C 2 dX3_isSame_12 ((((((oX3 y bS aS Y S).R).R).R).R).R) rfl iuX3_isSame_X3 flX3_isSame_18 rfl (by decide) rfl rfl ?_
      refine x_iload_n (q := 16) C 2 dX3_isSame_15 rfl rfl rfl ?_
      obtain ⟨hb2, hf⟩ := gd_some hf
      refine x_aald (q := 17) C 2 dX3_isSame_16 ((((((gX3_2 y bS aS Y S).R).R).R).R).R) rfl rfl hb2 (if_pos (xin_lt hb2)) rfl ?_
      refine x_astore_n (q := 18) C [1, 2, 3, 0] [(0, .ref bS), (1, .ref aH), (2, .int v1), (3, .ref (aS (rk 11 v1.toNatClampNeg)))] dX3_isSame_17 rfl (by decide) rfl rfl ?_
      refine x_bipush (q := 20) C dX3_isSame_18 kb_9 rfl ?_
      refine x_newa (q := 22) C 9 dX3_isSame_20 knX3_isSame rfl (by decide) (by decide) (by decide) (by dsimp only; omega) (by dsimp only; omega) rfl (fun q3 => ?_)
      refine x_world (ws' := hC aH aN aF aT aG ++ (gC y aG G ++ (nC y aN N ++ (nC y aF F ++ (tC y aT T ++ (sC y bS aS Y S ++ zC y q3 9 (fun _ => 0))))))) (asr6 _ _ _ _ _ _ _).symm ?_
      refine x_widen (k' := kk + 1) (n' := nn + 9) (by omega) (by omega) ?_
      refine x_dup (q := 23) C dX3_isSame_22 rfl rfl ?_
      refine x_iconst (q := 24) C dX3_isSame_23 ki_0 rfl ?_
      refine x_aload_n (q := 25) C 3 dX3_isSame_24 rfl rfl rfl ?_
      refine x_iconst (q := 26) C dX3_isSame_25 ki_0 rfl ?_
      have hb4 : xin 0 8 = true := by decide
      refine x_iald (q := 27) C 0 dX3_isSame_26 (((((((aX3_r2 y bS aS Y S (xin_lt hb2)).L).R).R).R).R).R) rfl hb4 rfl ?_
      have hb5 : xin 0 9 = true := by decide
      obtain ⟨f6, ef6, hf⟩ := lt_elim hf
      refine x_iast (q := 28) (ws' := hC aH aN aF aT aG ++ (gC y aG G ++ (nC y aN N ++ (nC y aF F ++ (tC y aT T ++ (sC y bS aS Y S ++ zC y q3 9 f6)))))) C 0 dX3_isSame_27 (((((((zA y q3 9 (fun _ => 0)).R).R).R).R).R).R) rfl hb5 (congrArg (fun z => hC aH aN aF aT aG ++ (gC y aG G ++ (nC y aN N ++ (nC y aF F ++ (tC y aT T ++ (sC y bS aS Y S ++ zC y q3 9 z)))))) ef6.symm) rfl ?_
      refine x_dup (q := 29) C dX3_isSame_28 rfl rfl ?_
      refine x_iconst (q := 30) C dX3_isSame_29 ki_1 rfl ?_
      refine x_aload_n (q := 31) C 3 dX3_isSame_30 rfl rfl rfl ?_
      refine x_iconst (q := 32) C dX3_isSame_31 ki_1 rfl ?_
      have hb7 : xin 1 8 = true := by decide
      refine x_iald (q := 33) C 0 dX3_isSame_32 (((((((aX3_r2 y bS aS Y S (xin_lt hb2)).L).R).R).R).R).R) rfl hb7 rfl ?_
      have hb8 : xin 1 9 = true := by decide
      obtain ⟨f9, ef9, hf⟩ := lt_elim hf
      refine x_iast (q := 34) (ws' := hC aH aN aF aT aG ++ (gC y aG G ++ (nC y aN N ++ (nC y aF F ++ (tC y aT T ++ (sC y bS aS Y S ++ zC y q3 9 f9)))))) C 0 dX3_isSame_33 (((((((zA y q3 9 f6).R).R).R).R).R).R) rfl hb8 (congrArg (fun z => hC aH aN aF aT aG ++ (gC y aG G ++ (nC y aN N ++ (nC y aF F ++ (tC y aT T ++ (sC y bS aS Y S ++ zC y q3 9 z)))))) ef9.symm) rfl ?_
      refine x_dup (q := 35) C dX3_isSame_34 rfl rfl ?_
      refine x_iconst (q := 36) C dX3_isSame_35 ki_2 rfl ?_
      refine x_aload_n (q := 37) C 3 dX3_isSame_36 rfl rfl rfl ?_
      refine x_iconst (q := 38) C dX3_isSame_37 ki_2 rfl ?_
      have hb10 : xin 2 8 = true := by decide
      refine x_iald (q := 39) C 0 dX3_isSame_38 (((((((aX3_r2 y bS aS Y S (xin_lt hb2)).L).R).R).R).R).R) rfl hb10 rfl ?_
      have hb11 : xin 2 9 = true := by decide
      obtain ⟨f12, ef12, hf⟩ := lt_elim hf
      refine x_iast (q := 40) (ws' := hC aH aN aF aT aG ++ (gC y aG G ++ (nC y aN N ++ (nC y aF F ++ (tC y aT T ++ (sC y bS aS Y S ++ zC y q3 9 f12)))))) C 0 dX3_isSame_39 (((((((zA y q3 9 f9).R).R).R).R).R).R) rfl hb11 (congrArg (fun z => hC aH aN aF aT aG ++ (gC y aG G ++ (nC y aN N ++ (nC y aF F ++ (tC y aT T ++ (sC y bS aS Y S ++ zC y q3 9 z)))))) ef12.symm) rfl ?_
      refine x_dup (q := 41) C dX3_isSame_40 rfl rfl ?_
      refine x_iconst (q := 42) C dX3_isSame_41 ki_3 rfl ?_
      refine x_aload_n (q := 43) C 3 dX3_isSame_42 rfl rfl rfl ?_
      refine x_iconst (q := 44) C dX3_isSame_43 ki_3 rfl ?_
      have hb13 : xin 3 8 = true := by decide
      refine x_iald (q := 45) C 0 dX3_isSame_44 (((((((aX3_r2 y bS aS Y S (xin_lt hb2)).L).R).R).R).R).R) rfl hb13 rfl ?_
      have hb14 : xin 3 9 = true := by decide
      obtain ⟨f15, ef15, hf⟩ := lt_elim hf
      refine x_iast (q := 46) (ws' := hC aH aN aF aT aG ++ (gC y aG G ++ (nC y aN N ++ (nC y aF F ++ (tC y aT T ++ (sC y bS aS Y S ++ zC y q3 9 f15)))))) C 0 dX3_isSame_45 (((((((zA y q3 9 f12).R).R).R).R).R).R) rfl hb14 (congrArg (fun z => hC aH aN aF aT aG ++ (gC y aG G ++ (nC y aN N ++ (nC y aF F ++ (tC y aT T ++ (sC y bS aS Y S ++ zC y q3 9 z)))))) ef15.symm) rfl ?_
      refine x_dup (q := 47) C dX3_isSame_46 rfl rfl ?_
      refine x_iconst (q := 48) C dX3_isSame_47 ki_4 rfl ?_
      refine x_aload_n (q := 49) C 3 dX3_isSame_48 rfl rfl rfl ?_
      refine x_iconst (q := 50) C dX3_isSame_49 ki_4 rfl ?_
      have hb16 : xin 4 8 = true := by decide
      refine x_iald (q := 51) C 0 dX3_isSame_50 (((((((aX3_r2 y bS aS Y S (xin_lt hb2)).L).R).R).R).R).R) rfl hb16 rfl ?_
      have hb17 : xin 4 9 = true := by decide
      obtain ⟨f18, ef18, hf⟩ := lt_elim hf
      refine x_iast (q := 52) (ws' := hC aH aN aF aT aG ++ (gC y aG G ++ (nC y aN N ++ (nC y aF F ++ (tC y aT T ++ (sC y bS aS Y S ++ zC y q3 9 f18)))))) C 0 dX3_isSame_51 (((((((zA y q3 9 f15).R).R).R).R).R).R) rfl hb17 (congrArg (fun z => hC aH aN aF aT aG ++ (gC y aG G ++ (nC y aN N ++ (nC y aF F ++ (tC y aT T ++ (sC y bS aS Y S ++ zC y q3 9 z)))))) ef18.symm) rfl ?_
      refine x_dup (q := 53) C dX3_isSame_52 rfl rfl ?_
      refine x_iconst (q := 54) C dX3_isSame_53 ki_5 rfl ?_
      refine x_aload_n (q := 55) C 3 dX3_isSame_54 rfl rfl rfl ?_
      refine x_iconst (q := 56) C dX3_isSame_55 ki_5 rfl ?_
      have hb19 : xin 5 8 = true := by decide
      refine x_iald (q := 57) C 0 dX3_isSame_56 (((((((aX3_r2 y bS aS Y S (xin_lt hb2)).L).R).R).R).R).R) rfl hb19 rfl ?_
      have hb20 : xin 5 9 = true := by decide
      obtain ⟨f21, ef21, hf⟩ := lt_elim hf
      refine x_iast (q := 58) (ws' := hC aH aN aF aT aG ++ (gC y aG G ++ (nC y aN N ++ (nC y aF F ++ (tC y aT T ++ (sC y bS aS Y S ++ zC y q3 9 f21)))))) C 0 dX3_isSame_57 (((((((zA y q3 9 f18).R).R).R).R).R).R) rfl hb20 (congrArg (fun z => hC aH aN aF aT aG ++ (gC y aG G ++ (nC y aN N ++ (nC y aF F ++ (tC y aT T ++ (sC y bS aS Y S ++ zC y q3 9 z)))))) ef21.symm) rfl ?_
      refine x_dup (q := 59) C dX3_isSame_58 rfl rfl ?_
      refine x_bipush (q := 61) C dX3_isSame_59 kb_6 rfl ?_
      refine x_aload_n (q := 62) C 0 dX3_isSame_61 rfl rfl rfl ?_
      refine x_iload_n (q := 63) C 2 dX3_isSame_62 rfl rfl rfl ?_
      obtain ⟨v22, hcal23, hf⟩ := bd_some hf
      refine x_callVi (q := 66) C (c5_goer (l := l) (D := D) (y := y) (bS := bS) (aS := aS) hcal23) yi_X3_goer gX3_isSame_X3_goer rfl (oX3 y bS aS Y S) rfl ⟨(Nat.le_of_ble_eq_true rfl), (Nat.le_of_ble_eq_true rfl)⟩ dX3_isSame_63 (pm7_5 _ _ _ _ _ _ _) rfl rfl (Nat.le_of_ble_eq_true rfl) ⟨by dsimp only; omega, by dsimp only; omega⟩ rfl ?_
      intro rr24 uu hrr
      have hrr : v22 = rr24 := Eq.symm hrr
      subst hrr
      refine x_perm (ws' := hC aH aN aF aT aG ++ (gC y aG G ++ (nC y aN N ++ (nC y aF F ++ (tC y aT T ++ (sC y bS aS Y S ++ zC y q3 9 f21)))))) (pm7_5 _ _ _ _ _ _ _).symm ?_
      have hb25 : xin 6 9 = true := by decide
      obtain ⟨f26, ef26, hf⟩ := lt_elim hf
      refine x_iast (q := 67) (ws' := hC aH aN aF aT aG ++ (gC y aG G ++ (nC y aN N ++ (nC y aF F ++ (tC y aT T ++ (sC y bS aS Y S ++ zC y q3 9 f26)))))) C 0 dX3_isSame_66 (((((((zA y q3 9 f21).R).R).R).R).R).R) rfl hb25 (congrArg (fun z => hC aH aN aF aT aG ++ (gC y aG G ++ (nC y aN N ++ (nC y aF F ++ (tC y aT T ++ (sC y bS aS Y S ++ zC y q3 9 z)))))) ef26.symm) rfl ?_
      refine x_dup (q := 68) C dX3_isSame_67 rfl rfl ?_
      refine x_bipush (q := 70) C dX3_isSame_68 kb_7 rfl ?_
      refine x_aload_n (q := 71) C 3 dX3_isSame_70 rfl rfl rfl ?_
      refine x_bipush (q := 73) C dX3_isSame_71 kb_6 rfl ?_
      have hb27 : xin 6 8 = true := by decide
      refine x_iald (q := 74) C 0 dX3_isSame_73 (((((((aX3_r2 y bS aS Y S (xin_lt hb2)).L).R).R).R).R).R) rfl hb27 rfl ?_
      have hb28 : xin 7 9 = true := by decide
      obtain ⟨f29, ef29, hf⟩ := lt_elim hf
      refine x_iast (q := 75) (ws' := hC aH aN aF aT aG ++ (gC y aG G ++ (nC y aN N ++ (nC y aF F ++ (tC y aT T ++ (sC y bS aS Y S ++ zC y q3 9 f29)))))) C 0 dX3_isSame_74 (((((((zA y q3 9 f26).R).R).R).R).R).R) rfl hb28 (congrArg (fun z => hC aH aN aF aT aG ++ (gC y aG G ++ (nC y aN N ++ (nC y aF F ++ (tC y aT T ++ (sC y bS aS Y S ++ zC y q3 9 z)))))) ef29.symm) rfl ?_
      refine x_dup (q := 76) C dX3_isSame_75 rfl rfl ?_
      refine x_bipush (q := 78) C dX3_isSame_76 kb_8 rfl ?_
      refine x_aload_n (q := 79) C 3 dX3_isSame_78 rfl rfl rfl ?_
      refine x_bipush (q := 81) C dX3_isSame_79 kb_7 rfl ?_
      have hb30 : xin 7 8 = true := by decide
      refine x_iald (q := 82) C 0 dX3_isSame_81 (((((((aX3_r2 y bS aS Y S (xin_lt hb2)).L).R).R).R).R).R) rfl hb30 rfl ?_
      have hb31 : xin 8 9 = true := by decide
      obtain ⟨f32, ef32, hf⟩ := lt_elim hf
      refine x_iast (q := 83) (ws' := hC aH aN aF aT aG ++ (gC y aG G ++ (nC y aN N ++ (nC y aF F ++ (tC y aT T ++ (sC y bS aS Y S ++ zC y q3 9 f32)))))) C 0 dX3_isSame_82 (((((((zA y q3 9 f29).R).R).R).R).R).R) rfl hb31 (congrArg (fun z => hC aH aN aF aT aG ++ (gC y aG G ++ (nC y aN N ++ (nC y aF F ++ (tC y aT T ++ (sC y bS aS Y S ++ zC y q3 9 z)))))) ef32.symm) rfl ?_
      refine x_astore (q := 85) C [1, 2, 3, 0] [(0, .ref bS), (1, .ref aH), (2, .int v1), (4, .ref q3)] dX3_isSame_83 (by decide) rfl rfl ?_
      refine x_iconst (q := 86) C dX3_isSame_85 ki_0 rfl ?_
      refine x_istore (q := 88) C [1, 2, 3, 4, 0] [(0, .ref bS), (1, .ref aH), (2, .int v1), (4, .ref q3), (5, .int 0)] dX3_isSame_86 (by decide) rfl rfl ?_
      refine w6_same_L88 C (by omega) (by omega) (fun u_ hf => ?_) xF 0 hf
      refine x_iinc (q := 121) C 2 (v1 + 1) [1, 2, 0] [(0, .ref bS), (1, .ref aH), (2, .int (v1 + 1))] dX3_isSame_118 rfl (congrArg (fun z => v1 + z) ki_1) (by decide) rfl rfl ?_
      refine x_goto (t := 2) C dX3_isSame_121 (by decide) ?_
      refine x_world (ws' := (hC aH aN aF aT aG ++ (gC y aG G ++ (nC y aN N ++ (nC y aF F ++ (tC y aT T ++ sC y bS aS Y S))))) ++ zC y q3 9 f32) (asr6 _ _ _ _ _ _ _) ?_
      refine x_drop ?_
      exact ih (kk + 1) (nn + 9) (v1 + 1) (by omega) (by omega) hf
set_option maxHeartbeats 4000000 in
set_option maxRecDepth 100000 in
theorem w6_same_L209 {p : Program} {l : Launch} {e : Env} {s : State} {m : MethodId} {args : Array Value} {below : List Frame} {meth : Method} {c : Code} {D : va_G} {A : Nat → Prop} {y : Nat → ClassId} {bS : Nat} {aH : Nat} {aG aN aF aT aS : Nat → Nat} {Q : State → Prop} {G : St} {N : St} {F : St} {T : St} {Y : (Nat → Nat)} {S : St} {v38 : Int32} {f61 : (Nat → Int32)} {q40 : Nat} {K : Unit → Option (Unit)} (C : xC p s m args meth c D A cX3_isSame RX3 6 wsX3_isSame (xT y) (some .boolean)) {k0_ n0_ : Nat} (hg1 : k0_ ≤ 100) (hg2 : n0_ ≤ 600) (hK : ∀ (u_ : Unit), K u_ = some () → xV p l e { frames := 8, cells := 100, slots := 600, locals := 133 } s m args below meth c D A Q 6 (hC aH aN aF aT aG ++ (gC y aG G ++ (nC y aN N ++ (nC y aF F ++ (tC y aT T ++ (sC y bS aS Y S ++ zC y q40 7 f61)))))) k0_ n0_ [(0, .ref bS), (1, .ref aH), (2, .int v38)] 239 []) : ∀ (fu : Nat) (v62 : Int32), f6_same_L209 v38 G N F T f61 K fu v62 = some () → xV p l e { frames := 8, cells := 100, slots := 600, locals := 133 } s m args below meth c D A Q 6 (hC aH aN aF aT aG ++ (gC y aG G ++ (nC y aN N ++ (nC y aF F ++ (tC y aT T ++ (sC y bS aS Y S ++ zC y q40 7 f61)))))) k0_ n0_ [(0, .ref bS), (1, .ref aH), (2, .int v38), (4, .ref q40), (5, .int v62)] 209 [] := by
  intro fu
  induction fu with
  | zero => intro v62 hf; rw [f6_same_L209] at hf; cases hf
  | succ fu ih =>
    intro v62 hf
    rw [f6_same_L209] at hf
    refine x_iload (q := 211) C 4 dX3_isSame_209 rfl rfl ?_
    refine x_bipush (q := 213) C dX3_isSame_211 kb_7 rfl ?_
    refine x_icmp_ge (t := 239) (q := 216) C dX3_isSame_213 (by decide) rfl (fun hc => ?_) (fun hc => ?_)
    · have hf := (if_pos hc).symm.trans hf
      refine x_sub [0, 1, 2] (L' := [(0, .ref bS), (1, .ref aH), (2, .int v38)]) rfl ?_
      exact hK () hf
    · have hf := (if_neg hc).symm.trans hf
      refine x_aload_n (q := 217) C 1 dX3_isSame_216 rfl rfl rfl ?_
      refine x_iload_n (q := 218) C 2 dX3_isSame_217 rfl rfl rfl ?_
      refine x_iload (q := 220) C 4 dX3_isSame_218 rfl rfl ?_
      obtain ⟨v63, hcal64, hf⟩ := br_some hf
      refine x_callVi (q := 223) C (c2_lighter (l := l) (D := D) (y := y) (aH := aH) (aG := aG) (aN := aN) (aF := aF) (aT := aT) hcal64) yi_X2_lighter gX3_isSame_X2_lighter rfl ((oX2 aH aN aF aT aG).L) rfl ⟨(Nat.le_of_ble_eq_true rfl), (Nat.le_of_ble_eq_true rfl)⟩ dX3_isSame_220 (pm7_01234 _ _ _ _ _ _ _) rfl rfl (Nat.le_of_ble_eq_true rfl) ⟨by dsimp only; omega, by dsimp only; omega⟩ rfl ?_
      intro rr65 uu hrr
      have hrr : v63 = rr65 := Eq.symm hrr
      subst hrr
      refine x_perm (ws' := hC aH aN aF aT aG ++ (gC y aG G ++ (nC y aN N ++ (nC y aF F ++ (tC y aT T ++ (sC y bS aS Y S ++ zC y q40 7 f61)))))) (pm7_01234 _ _ _ _ _ _ _).symm ?_
      refine x_aload (q := 225) C 3 dX3_isSame_223 rfl rfl ?_
      refine x_iload (q := 227) C 4 dX3_isSame_225 rfl rfl ?_
      obtain ⟨hb66, hf⟩ := gd_some hf
      refine x_iald (q := 228) C 0 dX3_isSame_227 (((((((zA y q40 7 f61).R).R).R).R).R).R) rfl hb66 rfl ?_
      refine x_icmp_eq (t := 233) (q := 231) C dX3_isSame_228 (by decide) rfl (fun hc => ?_) (fun hc => ?_)
      · have hf := (if_pos hc).symm.trans hf
        refine x_iinc (q := 236) C 4 (v62 + 1) [1, 2, 3, 4, 0] [(0, .ref bS), (1, .ref aH), (2, .int v38), (4, .ref q40), (5, .int (v62 + 1))] dX3_isSame_233 rfl (congrArg (fun z => v62 + z) ki_1) (by decide) rfl rfl ?_
        refine x_goto (t := 209) C dX3_isSame_236 (by decide) ?_
        exact ih (v62 + 1) hf
      · have hf := (if_neg hc).symm.trans hf
        refine x_iconst (q := 232) C dX3_isSame_231 ki_0 rfl ?_
        cases hf
set_option maxHeartbeats 4000000 in
set_option maxRecDepth 100000 in
theorem w6_same_L126 {p : Program} {l : Launch} {e : Env} {s : State} {m : MethodId} {args : Array Value} {below : List Frame} {meth : Method} {c : Code} {D : va_G} {A : Nat → Prop} {y : Nat → ClassId} {bS : Nat} {aH : Nat} {aG aN aF aT aS : Nat → Nat} {Q : State → Prop} {G : St} {N : St} {F : St} {T : St} {Y : (Nat → Nat)} {S : St} {K : Unit → Option (Unit)} (C : xC p s m args meth c D A cX3_isSame RX3 6 wsX3_isSame (xT y) (some .boolean)) {kX nX : Nat} (hm1 : kX ≤ 100) (hm2 : nX ≤ 600) (hK : ∀ (u_ : Unit), K u_ = some () → xV p l e { frames := 8, cells := 100, slots := 600, locals := 133 } s m args below meth c D A Q 6 (hC aH aN aF aT aG ++ (gC y aG G ++ (nC y aN N ++ (nC y aF F ++ (tC y aT T ++ sC y bS aS Y S))))) kX nX [(0, .ref bS), (1, .ref aH)] 245 []) : ∀ (fu : Nat) (kk nn : Nat) (v38 : Int32), kk + 1 * fu ≤ kX → nn + 7 * fu ≤ nX → f6_same_L126 G N F T Y S K fu v38 = some () → xV p l e { frames := 8, cells := 100, slots := 600, locals := 133 } s m args below meth c D A Q 6 (hC aH aN aF aT aG ++ (gC y aG G ++ (nC y aN N ++ (nC y aF F ++ (tC y aT T ++ sC y bS aS Y S))))) kk nn [(0, .ref bS), (1, .ref aH), (2, .int v38)] 126 [] := by
  intro fu
  induction fu with
  | zero => intro kk nn v38 hb1 hb2 hf; rw [f6_same_L126] at hf; cases hf
  | succ fu ih =>
    intro kk nn v38 hb1 hb2 hf
    rw [f6_same_L126] at hf
    refine x_iload_n (q := 127) C 2 dX3_isSame_126 rfl rfl rfl ?_
    refine x_aload_n (q := 128) C 0 dX3_isSame_127 rfl rfl rfl ?_
    refine x_get (q := 131) C 3 dX3_isSame_128 ((((((oX3 y bS aS Y S).R).R).R).R).R) rfl iuX3_isSame_X3 flX3_isSame_21 rfl (by decide) rfl rfl ?_
    refine x_alenr (q := 132) C 2 dX3_isSame_131 ((((((gX3_3 y bS aS Y S).R).R).R).R).R) rfl rfl ?_
    refine x_icmp_ge (t := 245) (q := 135) C dX3_isSame_132 (by decide) rfl (fun hc => ?_) (fun hc => ?_)
    · have hf := (if_pos hc).symm.trans hf
      refine x_sub [0, 1] (L' := [(0, .ref bS), (1, .ref aH)]) rfl ?_
      refine x_widen (k' := kX) (n' := nX) (by omega) (by omega) ?_
      exact hK () hf
    · have hf := (if_neg hc).symm.trans hf
      refine x_aload_n (q := 136) C 0 dX3_isSame_135 rfl rfl rfl ?_
      refine x_get (q := 139) C 3 dX3_isSame_136 ((((((oX3 y bS aS Y S).R).R).R).R).R) rfl iuX3_isSame_X3 flX3_isSame_21 rfl (by decide) rfl rfl ?_
      refine x_iload_n (q := 140) C 2 dX3_isSame_139 rfl rfl rfl ?_
      obtain ⟨hb39, hf⟩ := gd_some hf
      refine x_aald (q := 141) C 2 dX3_isSame_140 ((((((gX3_3 y bS aS Y S).R).R).R).R).R) rfl rfl hb39 (if_pos (xin_lt hb39)) rfl ?_
      refine x_astore_n (q := 142) C [1, 2, 3, 0] [(0, .ref bS), (1, .ref aH), (2, .int v38), (3, .ref (aS (rk 12 v38.toNatClampNeg)))] dX3_isSame_141 rfl (by decide) rfl rfl ?_
      refine x_bipush (q := 144) C dX3_isSame_142 kb_7 rfl ?_
      refine x_newa (q := 146) C 7 dX3_isSame_144 knX3_isSame rfl (by decide) (by decide) (by decide) (by dsimp only; omega) (by dsimp only; omega) rfl (fun q40 => ?_)
      refine x_world (ws' := hC aH aN aF aT aG ++ (gC y aG G ++ (nC y aN N ++ (nC y aF F ++ (tC y aT T ++ (sC y bS aS Y S ++ zC y q40 7 (fun _ => 0))))))) (asr6 _ _ _ _ _ _ _).symm ?_
      refine x_widen (k' := kk + 1) (n' := nn + 7) (by omega) (by omega) ?_
      refine x_dup (q := 147) C dX3_isSame_146 rfl rfl ?_
      refine x_iconst (q := 148) C dX3_isSame_147 ki_0 rfl ?_
      refine x_aload_n (q := 149) C 3 dX3_isSame_148 rfl rfl rfl ?_
      refine x_iconst (q := 150) C dX3_isSame_149 ki_1 rfl ?_
      have hb41 : xin 1 9 = true := by decide
      refine x_iald (q := 151) C 0 dX3_isSame_150 (((((((aX3_r3 y bS aS Y S (xin_lt hb39)).L).R).R).R).R).R) rfl hb41 rfl ?_
      have hb42 : xin 0 7 = true := by decide
      obtain ⟨f43, ef43, hf⟩ := lt_elim hf
      refine x_iast (q := 152) (ws' := hC aH aN aF aT aG ++ (gC y aG G ++ (nC y aN N ++ (nC y aF F ++ (tC y aT T ++ (sC y bS aS Y S ++ zC y q40 7 f43)))))) C 0 dX3_isSame_151 (((((((zA y q40 7 (fun _ => 0)).R).R).R).R).R).R) rfl hb42 (congrArg (fun z => hC aH aN aF aT aG ++ (gC y aG G ++ (nC y aN N ++ (nC y aF F ++ (tC y aT T ++ (sC y bS aS Y S ++ zC y q40 7 z)))))) ef43.symm) rfl ?_
      refine x_dup (q := 153) C dX3_isSame_152 rfl rfl ?_
      refine x_iconst (q := 154) C dX3_isSame_153 ki_1 rfl ?_
      refine x_aload_n (q := 155) C 3 dX3_isSame_154 rfl rfl rfl ?_
      refine x_iconst (q := 156) C dX3_isSame_155 ki_2 rfl ?_
      have hb44 : xin 2 9 = true := by decide
      refine x_iald (q := 157) C 0 dX3_isSame_156 (((((((aX3_r3 y bS aS Y S (xin_lt hb39)).L).R).R).R).R).R) rfl hb44 rfl ?_
      have hb45 : xin 1 7 = true := by decide
      obtain ⟨f46, ef46, hf⟩ := lt_elim hf
      refine x_iast (q := 158) (ws' := hC aH aN aF aT aG ++ (gC y aG G ++ (nC y aN N ++ (nC y aF F ++ (tC y aT T ++ (sC y bS aS Y S ++ zC y q40 7 f46)))))) C 0 dX3_isSame_157 (((((((zA y q40 7 f43).R).R).R).R).R).R) rfl hb45 (congrArg (fun z => hC aH aN aF aT aG ++ (gC y aG G ++ (nC y aN N ++ (nC y aF F ++ (tC y aT T ++ (sC y bS aS Y S ++ zC y q40 7 z)))))) ef46.symm) rfl ?_
      refine x_dup (q := 159) C dX3_isSame_158 rfl rfl ?_
      refine x_iconst (q := 160) C dX3_isSame_159 ki_2 rfl ?_
      refine x_aload_n (q := 161) C 3 dX3_isSame_160 rfl rfl rfl ?_
      refine x_iconst (q := 162) C dX3_isSame_161 ki_3 rfl ?_
      have hb47 : xin 3 9 = true := by decide
      refine x_iald (q := 163) C 0 dX3_isSame_162 (((((((aX3_r3 y bS aS Y S (xin_lt hb39)).L).R).R).R).R).R) rfl hb47 rfl ?_
      have hb48 : xin 2 7 = true := by decide
      obtain ⟨f49, ef49, hf⟩ := lt_elim hf
      refine x_iast (q := 164) (ws' := hC aH aN aF aT aG ++ (gC y aG G ++ (nC y aN N ++ (nC y aF F ++ (tC y aT T ++ (sC y bS aS Y S ++ zC y q40 7 f49)))))) C 0 dX3_isSame_163 (((((((zA y q40 7 f46).R).R).R).R).R).R) rfl hb48 (congrArg (fun z => hC aH aN aF aT aG ++ (gC y aG G ++ (nC y aN N ++ (nC y aF F ++ (tC y aT T ++ (sC y bS aS Y S ++ zC y q40 7 z)))))) ef49.symm) rfl ?_
      refine x_dup (q := 165) C dX3_isSame_164 rfl rfl ?_
      refine x_iconst (q := 166) C dX3_isSame_165 ki_3 rfl ?_
      refine x_aload_n (q := 167) C 0 dX3_isSame_166 rfl rfl rfl ?_
      refine x_get (q := 170) C 4 dX3_isSame_167 (((((((oX3 y bS aS Y S).L).R).R).R).R).R) rfl iuX3_isSame_X3 flX3_isSame_24 rfl (by decide) rfl rfl ?_
      refine x_iload_n (q := 171) C 2 dX3_isSame_170 rfl rfl rfl ?_
      obtain ⟨hb50, hf⟩ := gd_some hf
      refine x_aald (q := 172) C 2 dX3_isSame_171 (((((((gX3_4 y bS aS Y S).L).R).R).R).R).R) rfl rfl hb50 (if_pos (xin_lt hb50)) rfl ?_
      refine x_alen (q := 173) C 0 dX3_isSame_172 (((((((aX3_r4 y bS aS Y S (xin_lt hb50)).L).R).R).R).R).R) rfl rfl rfl ?_
      have hb51 : xin 3 7 = true := by decide
      obtain ⟨f52, ef52, hf⟩ := lt_elim hf
      refine x_iast (q := 174) (ws' := hC aH aN aF aT aG ++ (gC y aG G ++ (nC y aN N ++ (nC y aF F ++ (tC y aT T ++ (sC y bS aS Y S ++ zC y q40 7 f52)))))) C 0 dX3_isSame_173 (((((((zA y q40 7 f49).R).R).R).R).R).R) rfl hb51 (congrArg (fun z => hC aH aN aF aT aG ++ (gC y aG G ++ (nC y aN N ++ (nC y aF F ++ (tC y aT T ++ (sC y bS aS Y S ++ zC y q40 7 z)))))) ef52.symm) rfl ?_
      refine x_dup (q := 175) C dX3_isSame_174 rfl rfl ?_
      refine x_iconst (q := 176) C dX3_isSame_175 ki_4 rfl ?_
      refine x_aload_n (q := 177) C 3 dX3_isSame_176 rfl rfl rfl ?_
      refine x_iconst (q := 178) C dX3_isSame_177 ki_4 rfl ?_
      have hb53 : xin 4 9 = true := by decide
      refine x_iald (q := 179) C 0 dX3_isSame_178 (((((((aX3_r3 y bS aS Y S (xin_lt hb39)).L).R).R).R).R).R) rfl hb53 rfl ?_
      have hb54 : xin 4 7 = true := by decide
      obtain ⟨f55, ef55, hf⟩ := lt_elim hf
      refine x_iast (q := 180) (ws' := hC aH aN aF aT aG ++ (gC y aG G ++ (nC y aN N ++ (nC y aF F ++ (tC y aT T ++ (sC y bS aS Y S ++ zC y q40 7 f55)))))) C 0 dX3_isSame_179 (((((((zA y q40 7 f52).R).R).R).R).R).R) rfl hb54 (congrArg (fun z => hC aH aN aF aT aG ++ (gC y aG G ++ (nC y aN N ++ (nC y aF F ++ (tC y aT T ++ (sC y bS aS Y S ++ zC y q40 7 z)))))) ef55.symm) rfl ?_
      refine x_dup (q := 181) C dX3_isSame_180 rfl rfl ?_
      refine x_iconst (q := 182) C dX3_isSame_181 ki_5 rfl ?_
      refine x_aload_n (q := 183) C 3 dX3_isSame_182 rfl rfl rfl ?_
      refine x_iconst (q := 184) C dX3_isSame_183 ki_4 rfl ?_
      refine x_iald (q := 185) C 0 dX3_isSame_184 (((((((aX3_r3 y bS aS Y S (xin_lt hb39)).L).R).R).R).R).R) rfl hb53 rfl ?_
      obtain ⟨J195, eJ195, hf⟩ := lt_elim hf
      have hJ195 : ∀ (v56 : Int32), J195 v56 = some () → xV p l e { frames := 8, cells := 100, slots := 600, locals := 133 } s m args below meth c D A Q 6 (hC aH aN aF aT aG ++ (gC y aG G ++ (nC y aN N ++ (nC y aF F ++ (tC y aT T ++ (sC y bS aS Y S ++ zC y q40 7 f55)))))) (kk + 1) (nn + 7) [(0, .ref bS), (1, .ref aH), (2, .int v38), (3, .ref (aS (rk 12 v38.toNatClampNeg)))] 195 [.int v56, .int 5, .ref q40, .ref q40] := by
        intro v56 hf
        subst eJ195
        have hb57 : xin 5 7 = true := by decide
        obtain ⟨f58, ef58, hf⟩ := lt_elim hf
        refine x_iast (q := 196) (ws' := hC aH aN aF aT aG ++ (gC y aG G ++ (nC y aN N ++ (nC y aF F ++ (tC y aT T ++ (sC y bS aS Y S ++ zC y q40 7 f58)))))) C 0 dX3_isSame_195 (((((((zA y q40 7 f55).R).R).R).R).R).R) rfl hb57 (congrArg (fun z => hC aH aN aF aT aG ++ (gC y aG G ++ (nC y aN N ++ (nC y aF F ++ (tC y aT T ++ (sC y bS aS Y S ++ zC y q40 7 z)))))) ef58.symm) rfl ?_
        refine x_dup (q := 197) C dX3_isSame_196 rfl rfl ?_
        refine x_bipush (q := 199) C dX3_isSame_197 kb_6 rfl ?_
        refine x_aload_n (q := 200) C 3 dX3_isSame_199 rfl rfl rfl ?_
        refine x_bipush (q := 202) C dX3_isSame_200 kb_8 rfl ?_
        have hb59 : xin 8 9 = true := by decide
        refine x_iald (q := 203) C 0 dX3_isSame_202 (((((((aX3_r3 y bS aS Y S (xin_lt hb39)).L).R).R).R).R).R) rfl hb59 rfl ?_
        have hb60 : xin 6 7 = true := by decide
        obtain ⟨f61, ef61, hf⟩ := lt_elim hf
        refine x_iast (q := 204) (ws' := hC aH aN aF aT aG ++ (gC y aG G ++ (nC y aN N ++ (nC y aF F ++ (tC y aT T ++ (sC y bS aS Y S ++ zC y q40 7 f61)))))) C 0 dX3_isSame_203 (((((((zA y q40 7 f58).R).R).R).R).R).R) rfl hb60 (congrArg (fun z => hC aH aN aF aT aG ++ (gC y aG G ++ (nC y aN N ++ (nC y aF F ++ (tC y aT T ++ (sC y bS aS Y S ++ zC y q40 7 z)))))) ef61.symm) rfl ?_
        refine x_astore (q := 206) C [1, 2, 3, 0] [(0, .ref bS), (1, .ref aH), (2, .int v38), (4, .ref q40)] dX3_isSame_204 (by decide) rfl rfl ?_
        refine x_iconst (q := 207) C dX3_isSame_206 ki_0 rfl ?_
        refine x_istore (q := 209) C [1, 2, 3, 4, 0] [(0, .ref bS), (1, .ref aH), (2, .int v38), (4, .ref q40), (5, .int 0)] dX3_isSame_207 (by decide) rfl rfl ?_
        refine w6_same_L209 C (by omega) (by omega) (fun u_ hf => ?_) xF 0 hf
        refine x_iinc (q := 242) C 2 (v38 + 1) [1, 2, 0] [(0, .ref bS), (1, .ref aH), (2, .int (v38 + 1))] dX3_isSame_239 rfl (congrArg (fun z => v38 + z) ki_1) (by decide) rfl rfl ?_
        refine x_goto (t := 126) C dX3_isSame_242 (by decide) ?_
        refine x_world (ws' := (hC aH aN aF aT aG ++ (gC y aG G ++ (nC y aN N ++ (nC y aF F ++ (tC y aT T ++ sC y bS aS Y S))))) ++ zC y q40 7 f61) (asr6 _ _ _ _ _ _ _) ?_
        refine x_drop ?_
        exact ih (kk + 1) (nn + 7) (v38 + 1) (by omega) (by omega) hf
      refine x_if_ge (t := 192) (q := 188) C dX3_isSame_185 (by decide) rfl (fun hc => ?_) (fun hc => ?_)
      · have hf := (if_pos hc).symm.trans hf
        refine x_aload_n (q := 193) C 3 dX3_isSame_192 rfl rfl rfl ?_
        refine x_iconst (q := 194) C dX3_isSame_193 ki_5 rfl ?_
        have hb67 : xin 5 9 = true := by decide
        refine x_iald (q := 195) C 0 dX3_isSame_194 (((((((aX3_r3 y bS aS Y S (xin_lt hb39)).L).R).R).R).R).R) rfl hb67 rfl ?_
        exact hJ195 (S (rk 12 v38.toNatClampNeg) (5 : Int32).toNatClampNeg) hf
      · have hf := (if_neg hc).symm.trans hf
        refine x_iconst (q := 189) C dX3_isSame_188 ki_0 rfl ?_
        refine x_goto (t := 195) C dX3_isSame_189 (by decide) ?_
        exact hJ195 0 hf
set_option maxHeartbeats 4000000 in
set_option maxRecDepth 100000 in
theorem w6_same_L247 {p : Program} {l : Launch} {e : Env} {s : State} {m : MethodId} {args : Array Value} {below : List Frame} {meth : Method} {c : Code} {D : va_G} {A : Nat → Prop} {y : Nat → ClassId} {bS : Nat} {aH : Nat} {aG aN aF aT aS : Nat → Nat} {Q : State → Prop} {G : St} {N : St} {F : St} {T : St} {Y : (Nat → Nat)} {S : St} {K : Unit → Option (Unit)} (C : xC p s m args meth c D A cX3_isSame RX3 6 wsX3_isSame (xT y) (some .boolean)) (hK : ∀ (u_ : Unit), K u_ = some () → xV p l e { frames := 8, cells := 100, slots := 600, locals := 133 } s m args below meth c D A Q 6 (hC aH aN aF aT aG ++ (gC y aG G ++ (nC y aN N ++ (nC y aF F ++ (tC y aT T ++ sC y bS aS Y S))))) 64 512 [(0, .ref bS), (1, .ref aH)] 277 []) : ∀ (fu : Nat) (v68 : Int32), f6_same_L247 G N F T Y S K fu v68 = some () → xV p l e { frames := 8, cells := 100, slots := 600, locals := 133 } s m args below meth c D A Q 6 (hC aH aN aF aT aG ++ (gC y aG G ++ (nC y aN N ++ (nC y aF F ++ (tC y aT T ++ sC y bS aS Y S))))) 64 512 [(0, .ref bS), (1, .ref aH), (2, .int v68)] 247 [] := by
  intro fu
  induction fu with
  | zero => intro v68 hf; rw [f6_same_L247] at hf; cases hf
  | succ fu ih =>
    intro v68 hf
    rw [f6_same_L247] at hf
    refine x_iload_n (q := 248) C 2 dX3_isSame_247 rfl rfl rfl ?_
    refine x_aload_n (q := 249) C 0 dX3_isSame_248 rfl rfl rfl ?_
    refine x_get (q := 252) C 1 dX3_isSame_249 ((((((oX3 y bS aS Y S).R).R).R).R).R) rfl iuX3_isSame_X3 flX3_isSame_14 rfl (by decide) rfl rfl ?_
    refine x_alenr (q := 253) C 2 dX3_isSame_252 ((((((gX3_1 y bS aS Y S).R).R).R).R).R) rfl rfl ?_
    refine x_icmp_ge (t := 277) (q := 256) C dX3_isSame_253 (by decide) rfl (fun hc => ?_) (fun hc => ?_)
    · have hf := (if_pos hc).symm.trans hf
      refine x_sub [0, 1] (L' := [(0, .ref bS), (1, .ref aH)]) rfl ?_
      exact hK () hf
    · have hf := (if_neg hc).symm.trans hf
      refine x_aload_n (q := 257) C 1 dX3_isSame_256 rfl rfl rfl ?_
      refine x_iload_n (q := 258) C 2 dX3_isSame_257 rfl rfl rfl ?_
      obtain ⟨v69, hcal70, hf⟩ := br_some hf
      refine x_callVi (q := 261) C (c2_burning (l := l) (D := D) (y := y) (aH := aH) (aG := aG) (aN := aN) (aF := aF) (aT := aT) hcal70) yi_X2_burning gX3_isSame_X2_burning rfl ((oX2 aH aN aF aT aG).L) rfl ⟨(Nat.le_of_ble_eq_true rfl), (Nat.le_of_ble_eq_true rfl)⟩ dX3_isSame_258 (pm6_01234 _ _ _ _ _ _) rfl rfl (Nat.le_of_ble_eq_true rfl) ⟨Nat.le_of_ble_eq_true rfl, Nat.le_of_ble_eq_true rfl⟩ rfl ?_
      intro rr71 uu hrr
      have hrr : v69 = rr71 := Eq.symm hrr
      subst hrr
      refine x_perm (ws' := hC aH aN aF aT aG ++ (gC y aG G ++ (nC y aN N ++ (nC y aF F ++ (tC y aT T ++ sC y bS aS Y S))))) (pm6_01234 _ _ _ _ _ _).symm ?_
      refine x_aload_n (q := 262) C 0 dX3_isSame_261 rfl rfl rfl ?_
      refine x_iload_n (q := 263) C 2 dX3_isSame_262 rfl rfl rfl ?_
      obtain ⟨v72, hcal73, hf⟩ := bd_some hf
      refine x_callVi (q := 266) C (c5_burning (l := l) (D := D) (y := y) (bS := bS) (aS := aS) hcal73) yi_X3_burning gX3_isSame_X3_burning rfl (oX3 y bS aS Y S) rfl ⟨(Nat.le_of_ble_eq_true rfl), (Nat.le_of_ble_eq_true rfl)⟩ dX3_isSame_263 (pm6_5 _ _ _ _ _ _) rfl rfl (Nat.le_of_ble_eq_true rfl) ⟨Nat.le_of_ble_eq_true rfl, Nat.le_of_ble_eq_true rfl⟩ rfl ?_
      intro rr74 uu hrr
      have hrr : v72 = rr74 := Eq.symm hrr
      subst hrr
      refine x_perm (ws' := hC aH aN aF aT aG ++ (gC y aG G ++ (nC y aN N ++ (nC y aF F ++ (tC y aT T ++ sC y bS aS Y S))))) (pm6_5 _ _ _ _ _ _).symm ?_
      refine x_icmp_eq (t := 271) (q := 269) C dX3_isSame_266 (by decide) rfl (fun hc => ?_) (fun hc => ?_)
      · have hf := (if_pos hc).symm.trans hf
        refine x_iinc (q := 274) C 2 (v68 + 1) [1, 2, 0] [(0, .ref bS), (1, .ref aH), (2, .int (v68 + 1))] dX3_isSame_271 rfl (congrArg (fun z => v68 + z) ki_1) (by decide) rfl rfl ?_
        refine x_goto (t := 247) C dX3_isSame_274 (by decide) ?_
        exact ih (v68 + 1) hf
      · have hf := (if_neg hc).symm.trans hf
        refine x_iconst (q := 270) C dX3_isSame_269 ki_0 rfl ?_
        cases hf
set_option maxHeartbeats 4000000 in
set_option maxRecDepth 100000 in
theorem w6_same_L364 {p : Program} {l : Launch} {e : Env} {s : State} {m : MethodId} {args : Array Value} {below : List Frame} {meth : Method} {c : Code} {D : va_G} {A : Nat → Prop} {y : Nat → ClassId} {bS : Nat} {aH : Nat} {aG aN aF aT aS : Nat → Nat} {Q : State → Prop} {G : St} {N : St} {F : St} {T : St} {Y : (Nat → Nat)} {S : St} {f104 : (Nat → Int32)} {q75 : Nat} {K : Unit → Option (Unit)} (C : xC p s m args meth c D A cX3_isSame RX3 6 wsX3_isSame (xT y) (some .boolean)) (hK : ∀ (u_ : Unit), K u_ = some () → xV p l e { frames := 8, cells := 100, slots := 600, locals := 133 } s m args below meth c D A Q 6 (hC aH aN aF aT aG ++ (gC y aG G ++ (nC y aN N ++ (nC y aF F ++ (tC y aT T ++ (sC y bS aS Y S ++ zC y q75 10 f104)))))) 65 522 [(0, .ref bS), (1, .ref aH)] 389 []) : ∀ (fu : Nat) (v105 : Int32), f6_same_L364 G N F T f104 K fu v105 = some () → xV p l e { frames := 8, cells := 100, slots := 600, locals := 133 } s m args below meth c D A Q 6 (hC aH aN aF aT aG ++ (gC y aG G ++ (nC y aN N ++ (nC y aF F ++ (tC y aT T ++ (sC y bS aS Y S ++ zC y q75 10 f104)))))) 65 522 [(0, .ref bS), (1, .ref aH), (2, .ref q75), (3, .int v105)] 364 [] := by
  intro fu
  induction fu with
  | zero => intro v105 hf; rw [f6_same_L364] at hf; cases hf
  | succ fu ih =>
    intro v105 hf
    rw [f6_same_L364] at hf
    refine x_iload_n (q := 365) C 3 dX3_isSame_364 rfl rfl rfl ?_
    refine x_bipush (q := 367) C dX3_isSame_365 kb_10 rfl ?_
    refine x_icmp_ge (t := 389) (q := 370) C dX3_isSame_367 (by decide) rfl (fun hc => ?_) (fun hc => ?_)
    · have hf := (if_pos hc).symm.trans hf
      refine x_sub [0, 1] (L' := [(0, .ref bS), (1, .ref aH)]) rfl ?_
      exact hK () hf
    · have hf := (if_neg hc).symm.trans hf
      refine x_aload_n (q := 371) C 1 dX3_isSame_370 rfl rfl rfl ?_
      refine x_iload_n (q := 372) C 3 dX3_isSame_371 rfl rfl rfl ?_
      obtain ⟨v106, hcal107, hf⟩ := br_some hf
      refine x_callVi (q := 375) C (c2_count (l := l) (D := D) (y := y) (aH := aH) (aG := aG) (aN := aN) (aF := aF) (aT := aT) hcal107) yi_X2_count gX3_isSame_X2_count rfl ((oX2 aH aN aF aT aG).L) rfl ⟨(Nat.le_of_ble_eq_true rfl), (Nat.le_of_ble_eq_true rfl)⟩ dX3_isSame_372 (pm7_01234 _ _ _ _ _ _ _) rfl rfl (Nat.le_of_ble_eq_true rfl) ⟨Nat.le_of_ble_eq_true rfl, Nat.le_of_ble_eq_true rfl⟩ rfl ?_
      intro rr108 uu hrr
      have hrr : v106 = rr108 := Eq.symm hrr
      subst hrr
      refine x_perm (ws' := hC aH aN aF aT aG ++ (gC y aG G ++ (nC y aN N ++ (nC y aF F ++ (tC y aT T ++ (sC y bS aS Y S ++ zC y q75 10 f104)))))) (pm7_01234 _ _ _ _ _ _ _).symm ?_
      refine x_aload_n (q := 376) C 2 dX3_isSame_375 rfl rfl rfl ?_
      refine x_iload_n (q := 377) C 3 dX3_isSame_376 rfl rfl rfl ?_
      obtain ⟨hb109, hf⟩ := gd_some hf
      refine x_iald (q := 378) C 0 dX3_isSame_377 (((((((zA y q75 10 f104).R).R).R).R).R).R) rfl hb109 rfl ?_
      refine x_icmp_eq (t := 383) (q := 381) C dX3_isSame_378 (by decide) rfl (fun hc => ?_) (fun hc => ?_)
      · have hf := (if_pos hc).symm.trans hf
        refine x_iinc (q := 386) C 3 (v105 + 1) [1, 2, 3, 0] [(0, .ref bS), (1, .ref aH), (2, .ref q75), (3, .int (v105 + 1))] dX3_isSame_383 rfl (congrArg (fun z => v105 + z) ki_1) (by decide) rfl rfl ?_
        refine x_goto (t := 364) C dX3_isSame_386 (by decide) ?_
        exact ih (v105 + 1) hf
      · have hf := (if_neg hc).symm.trans hf
        refine x_iconst (q := 382) C dX3_isSame_381 ki_0 rfl ?_
        cases hf
set_option maxHeartbeats 4000000 in
set_option maxRecDepth 100000 in
theorem w6_same {p : Program} {l : Launch} {e : Env} {s : State} {m : MethodId} {args : Array Value} {below : List Frame} {meth : Method} {c : Code} {D : va_G} {A : Nat → Prop} {y : Nat → ClassId} {bS : Nat} {aH : Nat} {aG aN aF aT aS : Nat → Nat} {Q : State → Prop} {G : St} {N : St} {F : St} {T : St} {Y : (Nat → Nat)} {S : St} (C : xC p s m args meth c D A cX3_isSame RX3 6 wsX3_isSame (xT y) (some .boolean)) (hf : f6_same G N F T Y S = some ()) (hEnd : xV p l e { frames := 8, cells := 100, slots := 600, locals := 133 } s m args below meth c D A Q 6 (hC aH aN aF aT aG ++ (gC y aG G ++ (nC y aN N ++ (nC y aF F ++ (tC y aT T ++ sC y bS aS Y S))))) 65 522 [(0, .ref bS), (1, .ref aH)] 389 []) : xV p l e { frames := 8, cells := 100, slots := 600, locals := 133 } s m args below meth c D A Q 6 (hC aH aN aF aT aG ++ (gC y aG G ++ (nC y aN N ++ (nC y aF F ++ (tC y aT T ++ sC y bS aS Y S))))) 0 0 [(0, .ref bS), (1, .ref aH)] 0 [] := by
  unfold f6_same at hf
  refine x_iconst (q := 1) C dX3_isSame_0 ki_0 rfl ?_
  refine x_istore_n (q := 2) C [1, 2, 0] [(0, .ref bS), (1, .ref aH), (2, .int 0)] dX3_isSame_1 rfl (by decide) rfl rfl ?_
  refine w6_same_L2 C (kX := 32) (nX := 288) (by decide) (by decide) (fun u_ hf => ?_) xF32 0 0 0 (by unfold xF32; omega) (by unfold xF32; omega) hf
  refine x_iconst (q := 125) C dX3_isSame_124 ki_0 rfl ?_
  refine x_istore_n (q := 126) C [1, 2, 0] [(0, .ref bS), (1, .ref aH), (2, .int 0)] dX3_isSame_125 rfl (by decide) rfl rfl ?_
  refine w6_same_L126 C (kX := 64) (nX := 512) (by decide) (by decide) (fun u_ hf => ?_) xF32 32 288 0 (by unfold xF32; omega) (by unfold xF32; omega) hf
  refine x_iconst (q := 246) C dX3_isSame_245 ki_0 rfl ?_
  refine x_istore_n (q := 247) C [1, 2, 0] [(0, .ref bS), (1, .ref aH), (2, .int 0)] dX3_isSame_246 rfl (by decide) rfl rfl ?_
  refine w6_same_L247 C (fun u_ hf => ?_) xF 0 hf
  refine x_bipush (q := 279) C dX3_isSame_277 kb_10 rfl ?_
  refine x_newa (q := 281) C 10 dX3_isSame_279 knX3_isSame rfl (by decide) (by decide) (by decide) (Nat.le_of_ble_eq_true rfl) (Nat.le_of_ble_eq_true rfl) rfl (fun q75 => ?_)
  refine x_world (ws' := hC aH aN aF aT aG ++ (gC y aG G ++ (nC y aN N ++ (nC y aF F ++ (tC y aT T ++ (sC y bS aS Y S ++ zC y q75 10 (fun _ => 0))))))) (asr6 _ _ _ _ _ _ _).symm ?_
  refine x_widen (k' := 65) (n' := 522) (Nat.le_of_ble_eq_true rfl) (Nat.le_of_ble_eq_true rfl) ?_
  refine x_dup (q := 282) C dX3_isSame_281 rfl rfl ?_
  refine x_iconst (q := 283) C dX3_isSame_282 ki_0 rfl ?_
  refine x_aload_n (q := 284) C 0 dX3_isSame_283 rfl rfl rfl ?_
  refine x_get (q := 287) C 6 dX3_isSame_284 (((((((oX3 y bS aS Y S).L).R).R).R).R).R) rfl iuX3_isSame_X3 flX3_isSame_39 rfl (by decide) rfl rfl ?_
  have hb76 : xin 0 10 = true := by decide
  obtain ⟨f77, ef77, hf⟩ := lt_elim hf
  refine x_iast (q := 288) (ws' := hC aH aN aF aT aG ++ (gC y aG G ++ (nC y aN N ++ (nC y aF F ++ (tC y aT T ++ (sC y bS aS Y S ++ zC y q75 10 f77)))))) C 0 dX3_isSame_287 (((((((zA y q75 10 (fun _ => 0)).R).R).R).R).R).R) rfl hb76 (congrArg (fun z => hC aH aN aF aT aG ++ (gC y aG G ++ (nC y aN N ++ (nC y aF F ++ (tC y aT T ++ (sC y bS aS Y S ++ zC y q75 10 z)))))) ef77.symm) rfl ?_
  refine x_dup (q := 289) C dX3_isSame_288 rfl rfl ?_
  refine x_iconst (q := 290) C dX3_isSame_289 ki_1 rfl ?_
  refine x_aload_n (q := 291) C 0 dX3_isSame_290 rfl rfl rfl ?_
  refine x_get (q := 294) C 7 dX3_isSame_291 (((((((oX3 y bS aS Y S).L).R).R).R).R).R) rfl iuX3_isSame_X3 flX3_isSame_70 rfl (by decide) rfl rfl ?_
  have hb78 : xin 1 10 = true := by decide
  obtain ⟨f79, ef79, hf⟩ := lt_elim hf
  refine x_iast (q := 295) (ws' := hC aH aN aF aT aG ++ (gC y aG G ++ (nC y aN N ++ (nC y aF F ++ (tC y aT T ++ (sC y bS aS Y S ++ zC y q75 10 f79)))))) C 0 dX3_isSame_294 (((((((zA y q75 10 f77).R).R).R).R).R).R) rfl hb78 (congrArg (fun z => hC aH aN aF aT aG ++ (gC y aG G ++ (nC y aN N ++ (nC y aF F ++ (tC y aT T ++ (sC y bS aS Y S ++ zC y q75 10 z)))))) ef79.symm) rfl ?_
  refine x_dup (q := 296) C dX3_isSame_295 rfl rfl ?_
  refine x_iconst (q := 297) C dX3_isSame_296 ki_2 rfl ?_
  refine x_aload_n (q := 298) C 0 dX3_isSame_297 rfl rfl rfl ?_
  refine x_get (q := 301) C 0 dX3_isSame_298 (((((((oX3 y bS aS Y S).L).R).R).R).R).R) rfl iuX3_isSame_X3 flX3_isSame_7 rfl (by decide) rfl rfl ?_
  refine x_alen (q := 302) C 0 dX3_isSame_301 (((((((aX3_0 y bS aS Y S).L).R).R).R).R).R) rfl rfl rfl ?_
  have hb80 : xin 2 10 = true := by decide
  obtain ⟨f81, ef81, hf⟩ := lt_elim hf
  refine x_iast (q := 303) (ws' := hC aH aN aF aT aG ++ (gC y aG G ++ (nC y aN N ++ (nC y aF F ++ (tC y aT T ++ (sC y bS aS Y S ++ zC y q75 10 f81)))))) C 0 dX3_isSame_302 (((((((zA y q75 10 f79).R).R).R).R).R).R) rfl hb80 (congrArg (fun z => hC aH aN aF aT aG ++ (gC y aG G ++ (nC y aN N ++ (nC y aF F ++ (tC y aT T ++ (sC y bS aS Y S ++ zC y q75 10 z)))))) ef81.symm) rfl ?_
  refine x_dup (q := 304) C dX3_isSame_303 rfl rfl ?_
  refine x_iconst (q := 305) C dX3_isSame_304 ki_3 rfl ?_
  refine x_aload_n (q := 306) C 0 dX3_isSame_305 rfl rfl rfl ?_
  refine x_get (q := 309) C 1 dX3_isSame_306 (((((((oX3 y bS aS Y S).L).R).R).R).R).R) rfl iuX3_isSame_X3 flX3_isSame_14 rfl (by decide) rfl rfl ?_
  refine x_alenr (q := 310) C 2 dX3_isSame_309 (((((((gX3_1 y bS aS Y S).L).R).R).R).R).R) rfl rfl ?_
  have hb82 : xin 3 10 = true := by decide
  obtain ⟨f83, ef83, hf⟩ := lt_elim hf
  refine x_iast (q := 311) (ws' := hC aH aN aF aT aG ++ (gC y aG G ++ (nC y aN N ++ (nC y aF F ++ (tC y aT T ++ (sC y bS aS Y S ++ zC y q75 10 f83)))))) C 0 dX3_isSame_310 (((((((zA y q75 10 f81).R).R).R).R).R).R) rfl hb82 (congrArg (fun z => hC aH aN aF aT aG ++ (gC y aG G ++ (nC y aN N ++ (nC y aF F ++ (tC y aT T ++ (sC y bS aS Y S ++ zC y q75 10 z)))))) ef83.symm) rfl ?_
  refine x_dup (q := 312) C dX3_isSame_311 rfl rfl ?_
  refine x_iconst (q := 313) C dX3_isSame_312 ki_4 rfl ?_
  refine x_aload_n (q := 314) C 0 dX3_isSame_313 rfl rfl rfl ?_
  refine x_get (q := 317) C 2 dX3_isSame_314 (((((((oX3 y bS aS Y S).L).R).R).R).R).R) rfl iuX3_isSame_X3 flX3_isSame_18 rfl (by decide) rfl rfl ?_
  refine x_alenr (q := 318) C 2 dX3_isSame_317 (((((((gX3_2 y bS aS Y S).L).R).R).R).R).R) rfl rfl ?_
  have hb84 : xin 4 10 = true := by decide
  obtain ⟨f85, ef85, hf⟩ := lt_elim hf
  refine x_iast (q := 319) (ws' := hC aH aN aF aT aG ++ (gC y aG G ++ (nC y aN N ++ (nC y aF F ++ (tC y aT T ++ (sC y bS aS Y S ++ zC y q75 10 f85)))))) C 0 dX3_isSame_318 (((((((zA y q75 10 f83).R).R).R).R).R).R) rfl hb84 (congrArg (fun z => hC aH aN aF aT aG ++ (gC y aG G ++ (nC y aN N ++ (nC y aF F ++ (tC y aT T ++ (sC y bS aS Y S ++ zC y q75 10 z)))))) ef85.symm) rfl ?_
  refine x_dup (q := 320) C dX3_isSame_319 rfl rfl ?_
  refine x_iconst (q := 321) C dX3_isSame_320 ki_5 rfl ?_
  refine x_aload_n (q := 322) C 0 dX3_isSame_321 rfl rfl rfl ?_
  refine x_iconst (q := 323) C dX3_isSame_322 ki_5 rfl ?_
  obtain ⟨v86, hcal87, hf⟩ := bd_some hf
  refine x_callVi (q := 326) C (c5_sum (l := l) (D := D) (y := y) (bS := bS) (aS := aS) hcal87) yi_X3_sum gX3_isSame_X3_sum rfl (oX3 y bS aS Y S) rfl ⟨(Nat.le_of_ble_eq_true rfl), (Nat.le_of_ble_eq_true rfl)⟩ dX3_isSame_323 (pm7_5 _ _ _ _ _ _ _) rfl rfl (Nat.le_of_ble_eq_true rfl) ⟨Nat.le_of_ble_eq_true rfl, Nat.le_of_ble_eq_true rfl⟩ rfl ?_
  intro rr88 uu hrr
  have hrr : v86 = rr88 := Eq.symm hrr
  subst hrr
  refine x_perm (ws' := hC aH aN aF aT aG ++ (gC y aG G ++ (nC y aN N ++ (nC y aF F ++ (tC y aT T ++ (sC y bS aS Y S ++ zC y q75 10 f85)))))) (pm7_5 _ _ _ _ _ _ _).symm ?_
  have hb89 : xin 5 10 = true := by decide
  obtain ⟨f90, ef90, hf⟩ := lt_elim hf
  refine x_iast (q := 327) (ws' := hC aH aN aF aT aG ++ (gC y aG G ++ (nC y aN N ++ (nC y aF F ++ (tC y aT T ++ (sC y bS aS Y S ++ zC y q75 10 f90)))))) C 0 dX3_isSame_326 (((((((zA y q75 10 f85).R).R).R).R).R).R) rfl hb89 (congrArg (fun z => hC aH aN aF aT aG ++ (gC y aG G ++ (nC y aN N ++ (nC y aF F ++ (tC y aT T ++ (sC y bS aS Y S ++ zC y q75 10 z)))))) ef90.symm) rfl ?_
  refine x_dup (q := 328) C dX3_isSame_327 rfl rfl ?_
  refine x_bipush (q := 330) C dX3_isSame_328 kb_6 rfl ?_
  refine x_aload_n (q := 331) C 0 dX3_isSame_330 rfl rfl rfl ?_
  obtain ⟨v91, hcal92, hf⟩ := bd_some hf
  refine x_callVi (q := 334) C (c5_dark (l := l) (D := D) (y := y) (bS := bS) (aS := aS) hcal92) yi_X3_dark gX3_isSame_X3_dark rfl (oX3 y bS aS Y S) rfl ⟨(Nat.le_of_ble_eq_true rfl), (Nat.le_of_ble_eq_true rfl)⟩ dX3_isSame_331 (pm7_5 _ _ _ _ _ _ _) rfl rfl (Nat.le_of_ble_eq_true rfl) ⟨Nat.le_of_ble_eq_true rfl, Nat.le_of_ble_eq_true rfl⟩ rfl ?_
  intro rr93 uu hrr
  have hrr : v91 = rr93 := Eq.symm hrr
  subst hrr
  refine x_perm (ws' := hC aH aN aF aT aG ++ (gC y aG G ++ (nC y aN N ++ (nC y aF F ++ (tC y aT T ++ (sC y bS aS Y S ++ zC y q75 10 f90)))))) (pm7_5 _ _ _ _ _ _ _).symm ?_
  have hb94 : xin 6 10 = true := by decide
  obtain ⟨f95, ef95, hf⟩ := lt_elim hf
  refine x_iast (q := 335) (ws' := hC aH aN aF aT aG ++ (gC y aG G ++ (nC y aN N ++ (nC y aF F ++ (tC y aT T ++ (sC y bS aS Y S ++ zC y q75 10 f95)))))) C 0 dX3_isSame_334 (((((((zA y q75 10 f90).R).R).R).R).R).R) rfl hb94 (congrArg (fun z => hC aH aN aF aT aG ++ (gC y aG G ++ (nC y aN N ++ (nC y aF F ++ (tC y aT T ++ (sC y bS aS Y S ++ zC y q75 10 z)))))) ef95.symm) rfl ?_
  refine x_dup (q := 336) C dX3_isSame_335 rfl rfl ?_
  refine x_bipush (q := 338) C dX3_isSame_336 kb_7 rfl ?_
  refine x_aload_n (q := 339) C 0 dX3_isSame_338 rfl rfl rfl ?_
  refine x_get (q := 342) C 3 dX3_isSame_339 (((((((oX3 y bS aS Y S).L).R).R).R).R).R) rfl iuX3_isSame_X3 flX3_isSame_21 rfl (by decide) rfl rfl ?_
  refine x_alenr (q := 343) C 2 dX3_isSame_342 (((((((gX3_3 y bS aS Y S).L).R).R).R).R).R) rfl rfl ?_
  have hb96 : xin 7 10 = true := by decide
  obtain ⟨f97, ef97, hf⟩ := lt_elim hf
  refine x_iast (q := 344) (ws' := hC aH aN aF aT aG ++ (gC y aG G ++ (nC y aN N ++ (nC y aF F ++ (tC y aT T ++ (sC y bS aS Y S ++ zC y q75 10 f97)))))) C 0 dX3_isSame_343 (((((((zA y q75 10 f95).R).R).R).R).R).R) rfl hb96 (congrArg (fun z => hC aH aN aF aT aG ++ (gC y aG G ++ (nC y aN N ++ (nC y aF F ++ (tC y aT T ++ (sC y bS aS Y S ++ zC y q75 10 z)))))) ef97.symm) rfl ?_
  refine x_dup (q := 345) C dX3_isSame_344 rfl rfl ?_
  refine x_bipush (q := 347) C dX3_isSame_345 kb_8 rfl ?_
  refine x_aload_n (q := 348) C 0 dX3_isSame_347 rfl rfl rfl ?_
  refine x_iconst (q := 349) C dX3_isSame_348 ki_3 rfl ?_
  obtain ⟨v98, hcal99, hf⟩ := bd_some hf
  refine x_callVi (q := 352) C (c5_sum (l := l) (D := D) (y := y) (bS := bS) (aS := aS) hcal99) yi_X3_sum gX3_isSame_X3_sum rfl (oX3 y bS aS Y S) rfl ⟨(Nat.le_of_ble_eq_true rfl), (Nat.le_of_ble_eq_true rfl)⟩ dX3_isSame_349 (pm7_5 _ _ _ _ _ _ _) rfl rfl (Nat.le_of_ble_eq_true rfl) ⟨Nat.le_of_ble_eq_true rfl, Nat.le_of_ble_eq_true rfl⟩ rfl ?_
  intro rr100 uu hrr
  have hrr : v98 = rr100 := Eq.symm hrr
  subst hrr
  refine x_perm (ws' := hC aH aN aF aT aG ++ (gC y aG G ++ (nC y aN N ++ (nC y aF F ++ (tC y aT T ++ (sC y bS aS Y S ++ zC y q75 10 f97)))))) (pm7_5 _ _ _ _ _ _ _).symm ?_
  have hb101 : xin 8 10 = true := by decide
  obtain ⟨f102, ef102, hf⟩ := lt_elim hf
  refine x_iast (q := 353) (ws' := hC aH aN aF aT aG ++ (gC y aG G ++ (nC y aN N ++ (nC y aF F ++ (tC y aT T ++ (sC y bS aS Y S ++ zC y q75 10 f102)))))) C 0 dX3_isSame_352 (((((((zA y q75 10 f97).R).R).R).R).R).R) rfl hb101 (congrArg (fun z => hC aH aN aF aT aG ++ (gC y aG G ++ (nC y aN N ++ (nC y aF F ++ (tC y aT T ++ (sC y bS aS Y S ++ zC y q75 10 z)))))) ef102.symm) rfl ?_
  refine x_dup (q := 354) C dX3_isSame_353 rfl rfl ?_
  refine x_bipush (q := 356) C dX3_isSame_354 kb_9 rfl ?_
  refine x_aload_n (q := 357) C 0 dX3_isSame_356 rfl rfl rfl ?_
  refine x_get (q := 360) C 8 dX3_isSame_357 (((((((oX3 y bS aS Y S).L).R).R).R).R).R) rfl iuX3_isSame_X3 flX3_isSame_55 rfl (by decide) rfl rfl ?_
  have hb103 : xin 9 10 = true := by decide
  obtain ⟨f104, ef104, hf⟩ := lt_elim hf
  refine x_iast (q := 361) (ws' := hC aH aN aF aT aG ++ (gC y aG G ++ (nC y aN N ++ (nC y aF F ++ (tC y aT T ++ (sC y bS aS Y S ++ zC y q75 10 f104)))))) C 0 dX3_isSame_360 (((((((zA y q75 10 f102).R).R).R).R).R).R) rfl hb103 (congrArg (fun z => hC aH aN aF aT aG ++ (gC y aG G ++ (nC y aN N ++ (nC y aF F ++ (tC y aT T ++ (sC y bS aS Y S ++ zC y q75 10 z)))))) ef104.symm) rfl ?_
  refine x_astore_n (q := 362) C [1, 2, 0] [(0, .ref bS), (1, .ref aH), (2, .ref q75)] dX3_isSame_361 rfl (by decide) rfl rfl ?_
  refine x_iconst (q := 363) C dX3_isSame_362 ki_0 rfl ?_
  refine x_istore_n (q := 364) C [1, 2, 3, 0] [(0, .ref bS), (1, .ref aH), (2, .ref q75), (3, .int 0)] dX3_isSame_363 rfl (by decide) rfl rfl ?_
  refine w6_same_L364 C (fun u_ hf => ?_) xF 0 hf
  refine x_world (ws' := (hC aH aN aF aT aG ++ (gC y aG G ++ (nC y aN N ++ (nC y aF F ++ (tC y aT T ++ sC y bS aS Y S))))) ++ zC y q75 10 f104) (asr6 _ _ _ _ _ _ _) ?_
  refine x_drop ?_
  exact hEnd 
