/-! LampHillsLaw$Sim.climb(II)I -/
theorem flX3_climb_7 : Cond.fieldLink RX3 7 "LampHillsLaw$Sim" "height" "[I" ∈ wsX3_climb := by decide +kernel
theorem iuX3_climb_X3 : ∀ w ∈ u_ws RX3 TX3 10, w ∈ wsX3_climb := fun _ h => List.mem_cons_of_mem _ (List.mem_append_right _ h)
def f5_climb (Y : (Nat → Nat)) (S : St) (p1 : Int32) (p2 : Int32) : Option (Int32) :=
  gd (xin p2 (Y 1)) <|
  gd (xin p1 (Y 1)) <|
  if (S 1 p2.toNatClampNeg) ≤ (S 1 p1.toNatClampNeg) then
  (
    some 0
  )
  else
  (
    some (((S 1 p2.toNatClampNeg) - (S 1 p1.toNatClampNeg)) / 2)
  )
set_option maxHeartbeats 4000000 in
set_option maxRecDepth 100000 in
theorem c5_climb {l : Launch} {D : va_G} {y : Nat → ClassId} {bS : Nat} {aS : Nat → Nat} {Y : (Nat → Nat)} {S : St} {p1 : Int32} {p2 : Int32} {r : Int32} (hf : f5_climb Y S p1 p2 = some r) : xMi l yX3_climb wsX3_climb 0 0 0 0 D (xT y) [.ref bS, .int p1, .int p2] (sC y bS aS Y S) (fun (r' : Int32) (_ : Unit) => r' = r) (fun _ : Unit => sC y bS aS Y S) := by
  refine xMi_of (cc := cX3_climb) (nL := 3) (ret := (some .int)) [(0, .ref bS), (1, .int p1), (2, .int p2)] (by decide) rfl (Nat.le_of_ble_eq_true rfl) rfl ?_
  intro p e s m args below meth c A C hin
  have C : xC p s m args meth c D A cX3_climb RX3 3 wsX3_climb (xT y) (some .int) := C
  unfold f5_climb at hf
  refine x_aload_n (q := 1) C 0 dX3_climb_0 rfl rfl rfl ?_
  refine x_get (q := 4) C 0 dX3_climb_1 (oX3 y bS aS Y S) rfl iuX3_climb_X3 flX3_climb_7 rfl (by decide) rfl rfl ?_
  refine x_iload_n (q := 5) C 2 dX3_climb_4 rfl rfl rfl ?_
  obtain ⟨hb1, hf⟩ := gd_some hf
  refine x_iald (q := 6) C 0 dX3_climb_5 (aX3_0 y bS aS Y S) rfl hb1 rfl ?_
  refine x_aload_n (q := 7) C 0 dX3_climb_6 rfl rfl rfl ?_
  refine x_get (q := 10) C 0 dX3_climb_7 (oX3 y bS aS Y S) rfl iuX3_climb_X3 flX3_climb_7 rfl (by decide) rfl rfl ?_
  refine x_iload_n (q := 11) C 1 dX3_climb_10 rfl rfl rfl ?_
  obtain ⟨hb2, hf⟩ := gd_some hf
  refine x_iald (q := 12) C 0 dX3_climb_11 (aX3_0 y bS aS Y S) rfl hb2 rfl ?_
  refine x_icmp_le (t := 33) (q := 15) C dX3_climb_12 (by decide) rfl (fun hc => ?_) (fun hc => ?_)
  · have hf := (if_pos hc).symm.trans hf
    refine x_iconst (q := 34) C dX3_climb_33 ki_0 rfl ?_
    have hf := Option.some.inj hf
    exact x_iret () C dX3_climb_34 rfl hf rfl (Nat.le_of_ble_eq_true rfl) (Nat.le_of_ble_eq_true rfl)
  · have hf := (if_neg hc).symm.trans hf
    refine x_aload_n (q := 16) C 0 dX3_climb_15 rfl rfl rfl ?_
    refine x_get (q := 19) C 0 dX3_climb_16 (oX3 y bS aS Y S) rfl iuX3_climb_X3 flX3_climb_7 rfl (by decide) rfl rfl ?_
    refine x_iload_n (q := 20) C 2 dX3_climb_19 rfl rfl rfl ?_
    refine x_iald (q := 21) C 0 dX3_climb_20 (aX3_0 y bS aS Y S) rfl hb1 rfl ?_
    refine x_aload_n (q := 22) C 0 dX3_climb_21 rfl rfl rfl ?_
    refine x_get (q := 25) C 0 dX3_climb_22 (oX3 y bS aS Y S) rfl iuX3_climb_X3 flX3_climb_7 rfl (by decide) rfl rfl ?_
    refine x_iload_n (q := 26) C 1 dX3_climb_25 rfl rfl rfl ?_
    refine x_iald (q := 27) C 0 dX3_climb_26 (aX3_0 y bS aS Y S) rfl hb2 rfl ?_
    refine x_isub (q := 28) C dX3_climb_27 rfl ?_
    refine x_iconst (q := 29) C dX3_climb_28 ki_2 rfl ?_
    refine x_idiv (q := 30) C dX3_climb_29 (by decide) rfl ?_
    refine x_goto (t := 34) C dX3_climb_30 (by decide) ?_
    have hf := Option.some.inj hf
    exact x_iret () C dX3_climb_34 rfl hf rfl (Nat.le_of_ble_eq_true rfl) (Nat.le_of_ble_eq_true rfl)

/-! LampHillsLaw$Sim.measure()V -/
theorem ks_1000 : (Int16.ofInt 1000).toInt32 = 1000 := by decide
theorem flX3_measure_14 : Cond.fieldLink RX3 14 "LampHillsLaw$Sim" "streets" "[[I" ∈ wsX3_measure := by decide +kernel
theorem flX3_measure_31 : Cond.fieldLink RX3 31 "LampHillsLaw$Sim" "ways" "[[I" ∈ wsX3_measure := by decide +kernel
theorem flX3_measure_7 : Cond.fieldLink RX3 7 "LampHillsLaw$Sim" "height" "[I" ∈ wsX3_measure := by decide +kernel
theorem iuX3_measure_X3 : ∀ w ∈ u_ws RX3 TX3 10, w ∈ wsX3_measure := fun _ h => List.mem_cons_of_mem _ (List.mem_append_right _ h)
theorem yi_X3_climb : xY yX3_climb wsX3_climb cX3_climb 3 (some .int) 2 := ⟨⟨_, rfl⟩, by decide +kernel, by decide +kernel, by decide +kernel⟩
def f5_measure_L15 (v1 : Int32) (v2 : Int32) (K : St → Option (St)) : Nat → Int32 → St → Option (St)
  | 0, _, _ => none
  | fu + 1, v5, S6 =>
  if v1 ≤ v5 then
  (
    K S6
  )
  else
  (
    gd (xin v2 12) <|
    lt_ (fun (v9 : Int32) =>
    (
      gd (xin v5 12) <|
      lt_ (up2 S6 (rk 14 v2.toNatClampNeg) v5.toNatClampNeg v9) fun S11 =>
      f5_measure_L15 v1 v2 K fu (v5 + 1) S11
    )
    ) fun J39 =>
    if v2 = v5 then
    (
      J39 0
    )
    else
    (
      J39 1000
    )
  )
def f5_measure_L8 (v1 : Int32) (K : St → Option (St)) : Nat → Int32 → St → Option (St)
  | 0, _, _ => none
  | fu + 1, v2, S3 =>
  if v1 ≤ v2 then
  (
    K S3
  )
  else
  (
    f5_measure_L15 v1 v2 (fun (S7 : St) =>
    (
      f5_measure_L8 v1 K fu (v2 + 1) S7
    )
    ) xF 0 S3
  )
def f5_measure_L88 (v1 : Int32) (v16 : Int32) (Y : (Nat → Nat)) (K : Int32 → St → Option (St)) : Nat → Int32 → Int32 → St → Option (St)
  | 0, _, _, _ => none
  | fu + 1, v21, v22, S23 =>
  if v1 ≤ v22 then
  (
    K v21 S23
  )
  else
  (
    gd (xin v22 12) <|
    gd (xin (S23 (rk 10 v16.toNatClampNeg) (0 : Int32).toNatClampNeg) 12) <|
    bd (f5_climb Y S23 (S23 (rk 10 v16.toNatClampNeg) (0 : Int32).toNatClampNeg) (S23 (rk 10 v16.toNatClampNeg) (1 : Int32).toNatClampNeg)) fun v31 =>
    lt_ (((S23 (rk 14 v22.toNatClampNeg) (S23 (rk 10 v16.toNatClampNeg) (0 : Int32).toNatClampNeg).toNatClampNeg) + (S23 (rk 10 v16.toNatClampNeg) (2 : Int32).toNatClampNeg)) + v31) fun v34 =>
    gd (xin (S23 (rk 10 v16.toNatClampNeg) (1 : Int32).toNatClampNeg) 12) <|
    bd (f5_climb Y S23 (S23 (rk 10 v16.toNatClampNeg) (1 : Int32).toNatClampNeg) (S23 (rk 10 v16.toNatClampNeg) (0 : Int32).toNatClampNeg)) fun v36 =>
    lt_ (((S23 (rk 14 v22.toNatClampNeg) (S23 (rk 10 v16.toNatClampNeg) (1 : Int32).toNatClampNeg).toNatClampNeg) + (S23 (rk 10 v16.toNatClampNeg) (2 : Int32).toNatClampNeg)) + v36) fun v39 =>
    lt_ (fun (v40 : Int32) (S41 : St) =>
    (
      gd (xin (S41 (rk 10 v16.toNatClampNeg) (0 : Int32).toNatClampNeg) 12) <|
      lt_ (fun (v43 : Int32) (S44 : St) =>
      (
        f5_measure_L88 v1 v16 Y K fu v43 (v22 + 1) S44
      )
      ) fun J224 =>
      if (S41 (rk 14 v22.toNatClampNeg) (S41 (rk 10 v16.toNatClampNeg) (0 : Int32).toNatClampNeg).toNatClampNeg) ≤ v39 then
      (
        J224 v40 S41
      )
      else
      (
        lt_ (up2 S41 (rk 14 v22.toNatClampNeg) (S41 (rk 10 v16.toNatClampNeg) (0 : Int32).toNatClampNeg).toNatClampNeg v39) fun S45 =>
        J224 1 S45
      )
    )
    ) fun J191 =>
    if (S23 (rk 14 v22.toNatClampNeg) (S23 (rk 10 v16.toNatClampNeg) (1 : Int32).toNatClampNeg).toNatClampNeg) ≤ v34 then
    (
      J191 v21 S23
    )
    else
    (
      lt_ (up2 S23 (rk 14 v22.toNatClampNeg) (S23 (rk 10 v16.toNatClampNeg) (1 : Int32).toNatClampNeg).toNatClampNeg v34) fun S46 =>
      J191 1 S46
    )
  )
def f5_measure_L72 (v1 : Int32) (v14 : Int32) (Y : (Nat → Nat)) (K : Int32 → St → Option (St)) : Nat → Int32 → Int32 → St → Option (St)
  | 0, _, _, _ => none
  | fu + 1, v15, v16, S17 =>
  if v14 ≤ v16 then
  (
    K v15 S17
  )
  else
  (
    gd (xin v16 (Y 2)) <|
    f5_measure_L88 v1 v16 Y (fun (v24 : Int32) (S25 : St) =>
    (
      f5_measure_L72 v1 v14 Y K fu v24 (v16 + 1) S25
    )
    ) xF v15 0 S17
  )
def f5_measure_L54 (v1 : Int32) (Y : (Nat → Nat)) : Nat → Int32 → St → Option (St)
  | 0, _, _ => none
  | fu + 1, v12, S13 =>
  if v12 = 0 then
  (
    some S13
  )
  else
  (
    lt_ (Int32.ofNat (Y 2)) fun v14 =>
    f5_measure_L72 v1 v14 Y (fun (v18 : Int32) (S19 : St) =>
    (
      f5_measure_L54 v1 Y fu v18 S19
    )
    ) xF 0 0 S13
  )
def f5_measure (Y : (Nat → Nat)) (S : St) : Option (St) :=
  lt_ (Int32.ofNat (Y 1)) fun v1 =>
  f5_measure_L8 v1 (fun (S4 : St) =>
  (
    f5_measure_L54 v1 Y xF9 1 S4
  )
  ) xF 0 S
set_option maxHeartbeats 4000000 in
set_option maxRecDepth 100000 in
theorem w5_measure_L15 {p : Program} {l : Launch} {e : Env} {s : State} {m : MethodId} {args : Array Value} {below : List Frame} {meth : Method} {c : Code} {D : va_G} {A : Nat → Prop} {y : Nat → ClassId} {bS : Nat} {aS : Nat → Nat} {Y : (Nat → Nat)} {v1 : Int32} {v2 : Int32} {S' : St} {K : St → Option (St)} (C : xC p s m args meth c D A cX3_measure RX3 10 wsX3_measure (xT y) none) (hK : ∀ (S7 : St), K S7 = some S' → xV p l e { frames := 1, cells := 0, slots := 0, locals := 22 } s m args below meth c D A (xQv D (xT y) A (fun (_ : Unit) => True) (fun _ : Unit => sC y bS aS Y S') 0 0 below args s) 10 (sC y bS aS Y S7) 0 0 [(0, .ref bS), (1, .int v1), (2, .int v2)] 46 []) : ∀ (fu : Nat) (v5 : Int32) (S6 : St), f5_measure_L15 v1 v2 K fu v5 S6 = some S' → xV p l e { frames := 1, cells := 0, slots := 0, locals := 22 } s m args below meth c D A (xQv D (xT y) A (fun (_ : Unit) => True) (fun _ : Unit => sC y bS aS Y S') 0 0 below args s) 10 (sC y bS aS Y S6) 0 0 [(0, .ref bS), (1, .int v1), (2, .int v2), (3, .int v5)] 15 [] := by
  intro fu
  induction fu with
  | zero => intro v5 S6 hf; rw [f5_measure_L15] at hf; cases hf
  | succ fu ih =>
    intro v5 S6 hf
    rw [f5_measure_L15] at hf
    refine x_iload_n (q := 16) C 3 dX3_measure_15 rfl rfl rfl ?_
    refine x_iload_n (q := 17) C 1 dX3_measure_16 rfl rfl rfl ?_
    refine x_icmp_ge (t := 46) (q := 20) C dX3_measure_17 (by decide) rfl (fun hc => ?_) (fun hc => ?_)
    · have hf := (if_pos hc).symm.trans hf
      refine x_sub [0, 1, 2] (L' := [(0, .ref bS), (1, .int v1), (2, .int v2)]) rfl ?_
      exact hK S6 hf
    · have hf := (if_neg hc).symm.trans hf
      refine x_aload_n (q := 21) C 0 dX3_measure_20 rfl rfl rfl ?_
      refine x_get (q := 24) C 9 dX3_measure_21 (oX3 y bS aS Y S6) rfl iuX3_measure_X3 flX3_measure_31 rfl (by decide) rfl rfl ?_
      refine x_iload_n (q := 25) C 2 dX3_measure_24 rfl rfl rfl ?_
      obtain ⟨hb8, hf⟩ := gd_some hf
      refine x_aald (q := 26) C 2 dX3_measure_25 (gX3_9 y bS aS Y S6) rfl rfl hb8 (if_pos (xin_lt hb8)) rfl ?_
      refine x_iload_n (q := 27) C 3 dX3_measure_26 rfl rfl rfl ?_
      refine x_iload_n (q := 28) C 2 dX3_measure_27 rfl rfl rfl ?_
      refine x_iload_n (q := 29) C 3 dX3_measure_28 rfl rfl rfl ?_
      obtain ⟨J39, eJ39, hf⟩ := lt_elim hf
      have hJ39 : ∀ (v9 : Int32), J39 v9 = some S' → xV p l e { frames := 1, cells := 0, slots := 0, locals := 22 } s m args below meth c D A (xQv D (xT y) A (fun (_ : Unit) => True) (fun _ : Unit => sC y bS aS Y S') 0 0 below args s) 10 (sC y bS aS Y S6) 0 0 [(0, .ref bS), (1, .int v1), (2, .int v2), (3, .int v5)] 39 [.int v9, .int v5, .ref (aS (rk 14 v2.toNatClampNeg))] := by
        intro v9 hf
        subst eJ39
        obtain ⟨hb10, hf⟩ := gd_some hf
        obtain ⟨S11, eS11, hf⟩ := lt_elim hf
        refine x_iast (q := 40) (ws' := sC y bS aS Y S11) C 0 dX3_measure_39 (aX3_r9 y bS aS Y S6 (xin_lt hb8)) rfl hb10 (congrArg (fun z => sC y bS aS Y z) eS11.symm) rfl ?_
        refine x_iinc (q := 43) C 3 (v5 + 1) [1, 2, 3, 0] [(0, .ref bS), (1, .int v1), (2, .int v2), (3, .int (v5 + 1))] dX3_measure_40 rfl (congrArg (fun z => v5 + z) ki_1) (by decide) rfl rfl ?_
        refine x_goto (t := 15) C dX3_measure_43 (by decide) ?_
        exact ih (v5 + 1) S11 hf
      refine x_icmp_ne (t := 36) (q := 32) C dX3_measure_29 (by decide) rfl (fun hc => ?_) (fun hc => ?_)
      · have hf := (if_neg hc).symm.trans hf
        refine x_sipush (q := 39) C dX3_measure_36 ks_1000 rfl ?_
        exact hJ39 1000 hf
      · have hf := (if_pos hc).symm.trans hf
        refine x_iconst (q := 33) C dX3_measure_32 ki_0 rfl ?_
        refine x_goto (t := 39) C dX3_measure_33 (by decide) ?_
        exact hJ39 0 hf
set_option maxHeartbeats 4000000 in
set_option maxRecDepth 100000 in
theorem w5_measure_L8 {p : Program} {l : Launch} {e : Env} {s : State} {m : MethodId} {args : Array Value} {below : List Frame} {meth : Method} {c : Code} {D : va_G} {A : Nat → Prop} {y : Nat → ClassId} {bS : Nat} {aS : Nat → Nat} {Y : (Nat → Nat)} {v1 : Int32} {S' : St} {K : St → Option (St)} (C : xC p s m args meth c D A cX3_measure RX3 10 wsX3_measure (xT y) none) (hK : ∀ (S4 : St), K S4 = some S' → xV p l e { frames := 1, cells := 0, slots := 0, locals := 22 } s m args below meth c D A (xQv D (xT y) A (fun (_ : Unit) => True) (fun _ : Unit => sC y bS aS Y S') 0 0 below args s) 10 (sC y bS aS Y S4) 0 0 [(0, .ref bS), (1, .int v1)] 52 []) : ∀ (fu : Nat) (v2 : Int32) (S3 : St), f5_measure_L8 v1 K fu v2 S3 = some S' → xV p l e { frames := 1, cells := 0, slots := 0, locals := 22 } s m args below meth c D A (xQv D (xT y) A (fun (_ : Unit) => True) (fun _ : Unit => sC y bS aS Y S') 0 0 below args s) 10 (sC y bS aS Y S3) 0 0 [(0, .ref bS), (1, .int v1), (2, .int v2)] 8 [] := by
  intro fu
  induction fu with
  | zero => intro v2 S3 hf; rw [f5_measure_L8] at hf; cases hf
  | succ fu ih =>
    intro v2 S3 hf
    rw [f5_measure_L8] at hf
    refine x_iload_n (q := 9) C 2 dX3_measure_8 rfl rfl rfl ?_
    refine x_iload_n (q := 10) C 1 dX3_measure_9 rfl rfl rfl ?_
    refine x_icmp_ge (t := 52) (q := 13) C dX3_measure_10 (by decide) rfl (fun hc => ?_) (fun hc => ?_)
    · have hf := (if_pos hc).symm.trans hf
      refine x_sub [0, 1] (L' := [(0, .ref bS), (1, .int v1)]) rfl ?_
      exact hK S3 hf
    · have hf := (if_neg hc).symm.trans hf
      refine x_iconst (q := 14) C dX3_measure_13 ki_0 rfl ?_
      refine x_istore_n (q := 15) C [1, 2, 3, 0] [(0, .ref bS), (1, .int v1), (2, .int v2), (3, .int 0)] dX3_measure_14 rfl (by decide) rfl rfl ?_
      refine w5_measure_L15 C (fun S7 hf => ?_) xF 0 S3 hf
      refine x_iinc (q := 49) C 2 (v2 + 1) [1, 2, 0] [(0, .ref bS), (1, .int v1), (2, .int (v2 + 1))] dX3_measure_46 rfl (congrArg (fun z => v2 + z) ki_1) (by decide) rfl rfl ?_
      refine x_goto (t := 8) C dX3_measure_49 (by decide) ?_
      exact ih (v2 + 1) S7 hf
set_option maxHeartbeats 4000000 in
set_option maxRecDepth 100000 in
theorem w5_measure_L88 {p : Program} {l : Launch} {e : Env} {s : State} {m : MethodId} {args : Array Value} {below : List Frame} {meth : Method} {c : Code} {D : va_G} {A : Nat → Prop} {y : Nat → ClassId} {bS : Nat} {aS : Nat → Nat} {Y : (Nat → Nat)} {v1 : Int32} {v14 : Int32} {v16 : Int32} {S' : St} {K : Int32 → St → Option (St)} (C : xC p s m args meth c D A cX3_measure RX3 10 wsX3_measure (xT y) none) (hb20 : xin v16 (Y 2) = true) (hK : ∀ (v24 : Int32) (S25 : St), K v24 S25 = some S' → xV p l e { frames := 1, cells := 0, slots := 0, locals := 22 } s m args below meth c D A (xQv D (xT y) A (fun (_ : Unit) => True) (fun _ : Unit => sC y bS aS Y S') 0 0 below args s) 10 (sC y bS aS Y S25) 0 0 [(0, .ref bS), (1, .int v1), (2, .int v24), (3, .ref (aS 2)), (4, .int v14), (5, .int v16)] 230 []) : ∀ (fu : Nat) (v21 : Int32) (v22 : Int32) (S23 : St), f5_measure_L88 v1 v16 Y K fu v21 v22 S23 = some S' → xV p l e { frames := 1, cells := 0, slots := 0, locals := 22 } s m args below meth c D A (xQv D (xT y) A (fun (_ : Unit) => True) (fun _ : Unit => sC y bS aS Y S') 0 0 below args s) 10 (sC y bS aS Y S23) 0 0 [(0, .ref bS), (1, .int v1), (2, .int v21), (3, .ref (aS 2)), (4, .int v14), (5, .int v16), (6, .ref (aS (rk 10 v16.toNatClampNeg))), (7, .int v22)] 88 [] := by
  intro fu
  induction fu with
  | zero => intro v21 v22 S23 hf; rw [f5_measure_L88] at hf; cases hf
  | succ fu ih =>
    intro v21 v22 S23 hf
    rw [f5_measure_L88] at hf
    refine x_iload (q := 90) C 7 dX3_measure_88 rfl rfl ?_
    refine x_iload_n (q := 91) C 1 dX3_measure_90 rfl rfl rfl ?_
    refine x_icmp_ge (t := 230) (q := 94) C dX3_measure_91 (by decide) rfl (fun hc => ?_) (fun hc => ?_)
    · have hf := (if_pos hc).symm.trans hf
      refine x_sub [0, 1, 2, 3, 4, 5] (L' := [(0, .ref bS), (1, .int v1), (2, .int v21), (3, .ref (aS 2)), (4, .int v14), (5, .int v16)]) rfl ?_
      exact hK v21 S23 hf
    · have hf := (if_neg hc).symm.trans hf
      refine x_aload_n (q := 95) C 0 dX3_measure_94 rfl rfl rfl ?_
      refine x_get (q := 98) C 9 dX3_measure_95 (oX3 y bS aS Y S23) rfl iuX3_measure_X3 flX3_measure_31 rfl (by decide) rfl rfl ?_
      refine x_iload (q := 100) C 7 dX3_measure_98 rfl rfl ?_
      obtain ⟨hb26, hf⟩ := gd_some hf
      refine x_aald (q := 101) C 2 dX3_measure_100 (gX3_9 y bS aS Y S23) rfl rfl hb26 (if_pos (xin_lt hb26)) rfl ?_
      refine x_aload (q := 103) C 6 dX3_measure_101 rfl rfl ?_
      refine x_iconst (q := 104) C dX3_measure_103 ki_0 rfl ?_
      have hb27 : xin 0 3 = true := by decide
      refine x_iald (q := 105) C 0 dX3_measure_104 (aX3_r1 y bS aS Y S23 (xin_lt hb20)) rfl hb27 rfl ?_
      obtain ⟨hb28, hf⟩ := gd_some hf
      refine x_iald (q := 106) C 0 dX3_measure_105 (aX3_r9 y bS aS Y S23 (xin_lt hb26)) rfl hb28 rfl ?_
      refine x_aload (q := 108) C 6 dX3_measure_106 rfl rfl ?_
      refine x_iconst (q := 109) C dX3_measure_108 ki_2 rfl ?_
      have hb29 : xin 2 3 = true := by decide
      refine x_iald (q := 110) C 0 dX3_measure_109 (aX3_r1 y bS aS Y S23 (xin_lt hb20)) rfl hb29 rfl ?_
      refine x_iadd (q := 111) C dX3_measure_110 rfl ?_
      refine x_aload_n (q := 112) C 0 dX3_measure_111 rfl rfl rfl ?_
      refine x_aload (q := 114) C 6 dX3_measure_112 rfl rfl ?_
      refine x_iconst (q := 115) C dX3_measure_114 ki_0 rfl ?_
      refine x_iald (q := 116) C 0 dX3_measure_115 (aX3_r1 y bS aS Y S23 (xin_lt hb20)) rfl hb27 rfl ?_
      refine x_aload (q := 118) C 6 dX3_measure_116 rfl rfl ?_
      refine x_iconst (q := 119) C dX3_measure_118 ki_1 rfl ?_
      have hb30 : xin 1 3 = true := by decide
      refine x_iald (q := 120) C 0 dX3_measure_119 (aX3_r1 y bS aS Y S23 (xin_lt hb20)) rfl hb30 rfl ?_
      obtain ⟨v31, hcal32, hf⟩ := bd_some hf
      refine x_callVi (q := 123) C (c5_climb (l := l) (D := D) (y := y) (bS := bS) (aS := aS) hcal32) yi_X3_climb gX3_measure_X3_climb rfl (oX3 y bS aS Y S23) rfl ⟨(Nat.le_of_ble_eq_true rfl), (Nat.le_of_ble_eq_true rfl)⟩ dX3_measure_120 pm_nil rfl rfl (Nat.le_of_ble_eq_true rfl) ⟨Nat.le_of_ble_eq_true rfl, Nat.le_of_ble_eq_true rfl⟩ rfl ?_
      intro rr33 uu hrr
      have hrr : v31 = rr33 := Eq.symm hrr
      subst hrr
      refine x_world (ws' := sC y bS aS Y S23) (List.append_nil _) ?_
      refine x_iadd (q := 124) C dX3_measure_123 rfl ?_
      obtain ⟨v34, ev34, hf⟩ := lt_elim hf
      refine x_topi ev34 ?_
      refine x_istore (q := 126) C [1, 2, 3, 4, 5, 6, 7, 8, 0] [(0, .ref bS), (1, .int v1), (2, .int v21), (3, .ref (aS 2)), (4, .int v14), (5, .int v16), (6, .ref (aS (rk 10 v16.toNatClampNeg))), (7, .int v22), (8, .int v34)] dX3_measure_124 (by decide) rfl rfl ?_
      refine x_aload_n (q := 127) C 0 dX3_measure_126 rfl rfl rfl ?_
      refine x_get (q := 130) C 9 dX3_measure_127 (oX3 y bS aS Y S23) rfl iuX3_measure_X3 flX3_measure_31 rfl (by decide) rfl rfl ?_
      refine x_iload (q := 132) C 7 dX3_measure_130 rfl rfl ?_
      refine x_aald (q := 133) C 2 dX3_measure_132 (gX3_9 y bS aS Y S23) rfl rfl hb26 (if_pos (xin_lt hb26)) rfl ?_
      refine x_aload (q := 135) C 6 dX3_measure_133 rfl rfl ?_
      refine x_iconst (q := 136) C dX3_measure_135 ki_1 rfl ?_
      refine x_iald (q := 137) C 0 dX3_measure_136 (aX3_r1 y bS aS Y S23 (xin_lt hb20)) rfl hb30 rfl ?_
      obtain ⟨hb35, hf⟩ := gd_some hf
      refine x_iald (q := 138) C 0 dX3_measure_137 (aX3_r9 y bS aS Y S23 (xin_lt hb26)) rfl hb35 rfl ?_
      refine x_aload (q := 140) C 6 dX3_measure_138 rfl rfl ?_
      refine x_iconst (q := 141) C dX3_measure_140 ki_2 rfl ?_
      refine x_iald (q := 142) C 0 dX3_measure_141 (aX3_r1 y bS aS Y S23 (xin_lt hb20)) rfl hb29 rfl ?_
      refine x_iadd (q := 143) C dX3_measure_142 rfl ?_
      refine x_aload_n (q := 144) C 0 dX3_measure_143 rfl rfl rfl ?_
      refine x_aload (q := 146) C 6 dX3_measure_144 rfl rfl ?_
      refine x_iconst (q := 147) C dX3_measure_146 ki_1 rfl ?_
      refine x_iald (q := 148) C 0 dX3_measure_147 (aX3_r1 y bS aS Y S23 (xin_lt hb20)) rfl hb30 rfl ?_
      refine x_aload (q := 150) C 6 dX3_measure_148 rfl rfl ?_
      refine x_iconst (q := 151) C dX3_measure_150 ki_0 rfl ?_
      refine x_iald (q := 152) C 0 dX3_measure_151 (aX3_r1 y bS aS Y S23 (xin_lt hb20)) rfl hb27 rfl ?_
      obtain ⟨v36, hcal37, hf⟩ := bd_some hf
      refine x_callVi (q := 155) C (c5_climb (l := l) (D := D) (y := y) (bS := bS) (aS := aS) hcal37) yi_X3_climb gX3_measure_X3_climb rfl (oX3 y bS aS Y S23) rfl ⟨(Nat.le_of_ble_eq_true rfl), (Nat.le_of_ble_eq_true rfl)⟩ dX3_measure_152 pm_nil rfl rfl (Nat.le_of_ble_eq_true rfl) ⟨Nat.le_of_ble_eq_true rfl, Nat.le_of_ble_eq_true rfl⟩ rfl ?_
      intro rr38 uu hrr
      have hrr : v36 = rr38 := Eq.symm hrr
      subst hrr
      refine x_world (ws' := sC y bS aS Y S23) (List.append_nil _) ?_
      refine x_iadd (q := 156) C dX3_measure_155 rfl ?_
      obtain ⟨v39, ev39, hf⟩ := lt_elim hf
      refine x_topi ev39 ?_
      refine x_istore (q := 158) C [1, 2, 3, 4, 5, 6, 7, 8, 9, 0] [(0, .ref bS), (1, .int v1), (2, .int v21), (3, .ref (aS 2)), (4, .int v14), (5, .int v16), (6, .ref (aS (rk 10 v16.toNatClampNeg))), (7, .int v22), (8, .int v34), (9, .int v39)] dX3_measure_156 (by decide) rfl rfl ?_
      refine x_iload (q := 160) C 8 dX3_measure_158 rfl rfl ?_
      refine x_aload_n (q := 161) C 0 dX3_measure_160 rfl rfl rfl ?_
      refine x_get (q := 164) C 9 dX3_measure_161 (oX3 y bS aS Y S23) rfl iuX3_measure_X3 flX3_measure_31 rfl (by decide) rfl rfl ?_
      refine x_iload (q := 166) C 7 dX3_measure_164 rfl rfl ?_
      refine x_aald (q := 167) C 2 dX3_measure_166 (gX3_9 y bS aS Y S23) rfl rfl hb26 (if_pos (xin_lt hb26)) rfl ?_
      refine x_aload (q := 169) C 6 dX3_measure_167 rfl rfl ?_
      refine x_iconst (q := 170) C dX3_measure_169 ki_1 rfl ?_
      refine x_iald (q := 171) C 0 dX3_measure_170 (aX3_r1 y bS aS Y S23 (xin_lt hb20)) rfl hb30 rfl ?_
      refine x_iald (q := 172) C 0 dX3_measure_171 (aX3_r9 y bS aS Y S23 (xin_lt hb26)) rfl hb35 rfl ?_
      obtain ⟨J191, eJ191, hf⟩ := lt_elim hf
      have hJ191 : ∀ (v40 : Int32) (S41 : St), J191 v40 S41 = some S' → xV p l e { frames := 1, cells := 0, slots := 0, locals := 22 } s m args below meth c D A (xQv D (xT y) A (fun (_ : Unit) => True) (fun _ : Unit => sC y bS aS Y S') 0 0 below args s) 10 (sC y bS aS Y S41) 0 0 [(0, .ref bS), (1, .int v1), (2, .int v40), (3, .ref (aS 2)), (4, .int v14), (5, .int v16), (6, .ref (aS (rk 10 v16.toNatClampNeg))), (7, .int v22), (9, .int v39)] 191 [] := by
        intro v40 S41 hf
        subst eJ191
        refine x_iload (q := 193) C 8 dX3_measure_191 rfl rfl ?_
        refine x_aload_n (q := 194) C 0 dX3_measure_193 rfl rfl rfl ?_
        refine x_get (q := 197) C 9 dX3_measure_194 (oX3 y bS aS Y S41) rfl iuX3_measure_X3 flX3_measure_31 rfl (by decide) rfl rfl ?_
        refine x_iload (q := 199) C 7 dX3_measure_197 rfl rfl ?_
        refine x_aald (q := 200) C 2 dX3_measure_199 (gX3_9 y bS aS Y S41) rfl rfl hb26 (if_pos (xin_lt hb26)) rfl ?_
        refine x_aload (q := 202) C 6 dX3_measure_200 rfl rfl ?_
        refine x_iconst (q := 203) C dX3_measure_202 ki_0 rfl ?_
        refine x_iald (q := 204) C 0 dX3_measure_203 (aX3_r1 y bS aS Y S41 (xin_lt hb20)) rfl hb27 rfl ?_
        obtain ⟨hb42, hf⟩ := gd_some hf
        refine x_iald (q := 205) C 0 dX3_measure_204 (aX3_r9 y bS aS Y S41 (xin_lt hb26)) rfl hb42 rfl ?_
        obtain ⟨J224, eJ224, hf⟩ := lt_elim hf
        have hJ224 : ∀ (v43 : Int32) (S44 : St), J224 v43 S44 = some S' → xV p l e { frames := 1, cells := 0, slots := 0, locals := 22 } s m args below meth c D A (xQv D (xT y) A (fun (_ : Unit) => True) (fun _ : Unit => sC y bS aS Y S') 0 0 below args s) 10 (sC y bS aS Y S44) 0 0 [(0, .ref bS), (1, .int v1), (2, .int v43), (3, .ref (aS 2)), (4, .int v14), (5, .int v16), (6, .ref (aS (rk 10 v16.toNatClampNeg))), (7, .int v22)] 224 [] := by
          intro v43 S44 hf
          subst eJ224
          refine x_iinc (q := 227) C 7 (v22 + 1) [1, 2, 3, 4, 5, 6, 7, 0] [(0, .ref bS), (1, .int v1), (2, .int v43), (3, .ref (aS 2)), (4, .int v14), (5, .int v16), (6, .ref (aS (rk 10 v16.toNatClampNeg))), (7, .int (v22 + 1))] dX3_measure_224 rfl (congrArg (fun z => v22 + z) ki_1) (by decide) rfl rfl ?_
          refine x_goto (t := 88) C dX3_measure_227 (by decide) ?_
          exact ih v43 (v22 + 1) S44 hf
        refine x_icmp_ge (t := 224) (q := 208) C dX3_measure_205 (by decide) rfl (fun hc => ?_) (fun hc => ?_)
        · have hf := (if_pos hc).symm.trans hf
          refine x_sub [0, 1, 2, 3, 4, 5, 6, 7] (L' := [(0, .ref bS), (1, .int v1), (2, .int v40), (3, .ref (aS 2)), (4, .int v14), (5, .int v16), (6, .ref (aS (rk 10 v16.toNatClampNeg))), (7, .int v22)]) rfl ?_
          exact hJ224 v40 S41 hf
        · have hf := (if_neg hc).symm.trans hf
          refine x_aload_n (q := 209) C 0 dX3_measure_208 rfl rfl rfl ?_
          refine x_get (q := 212) C 9 dX3_measure_209 (oX3 y bS aS Y S41) rfl iuX3_measure_X3 flX3_measure_31 rfl (by decide) rfl rfl ?_
          refine x_iload (q := 214) C 7 dX3_measure_212 rfl rfl ?_
          refine x_aald (q := 215) C 2 dX3_measure_214 (gX3_9 y bS aS Y S41) rfl rfl hb26 (if_pos (xin_lt hb26)) rfl ?_
          refine x_aload (q := 217) C 6 dX3_measure_215 rfl rfl ?_
          refine x_iconst (q := 218) C dX3_measure_217 ki_0 rfl ?_
          refine x_iald (q := 219) C 0 dX3_measure_218 (aX3_r1 y bS aS Y S41 (xin_lt hb20)) rfl hb27 rfl ?_
          refine x_iload (q := 221) C 8 dX3_measure_219 rfl rfl ?_
          obtain ⟨S45, eS45, hf⟩ := lt_elim hf
          refine x_iast (q := 222) (ws' := sC y bS aS Y S45) C 0 dX3_measure_221 (aX3_r9 y bS aS Y S41 (xin_lt hb26)) rfl hb42 (congrArg (fun z => sC y bS aS Y z) eS45.symm) rfl ?_
          refine x_iconst (q := 223) C dX3_measure_222 ki_1 rfl ?_
          refine x_istore_n (q := 224) C [1, 2, 0, 3, 4, 5, 6, 7] [(0, .ref bS), (1, .int v1), (2, .int 1), (3, .ref (aS 2)), (4, .int v14), (5, .int v16), (6, .ref (aS (rk 10 v16.toNatClampNeg))), (7, .int v22)] dX3_measure_223 rfl (by decide) rfl rfl ?_
          exact hJ224 1 S45 hf
      refine x_icmp_ge (t := 191) (q := 175) C dX3_measure_172 (by decide) rfl (fun hc => ?_) (fun hc => ?_)
      · have hf := (if_pos hc).symm.trans hf
        refine x_sub [0, 1, 2, 3, 4, 5, 6, 7, 9] (L' := [(0, .ref bS), (1, .int v1), (2, .int v21), (3, .ref (aS 2)), (4, .int v14), (5, .int v16), (6, .ref (aS (rk 10 v16.toNatClampNeg))), (7, .int v22), (9, .int v39)]) rfl ?_
        exact hJ191 v21 S23 hf
      · have hf := (if_neg hc).symm.trans hf
        refine x_aload_n (q := 176) C 0 dX3_measure_175 rfl rfl rfl ?_
        refine x_get (q := 179) C 9 dX3_measure_176 (oX3 y bS aS Y S23) rfl iuX3_measure_X3 flX3_measure_31 rfl (by decide) rfl rfl ?_
        refine x_iload (q := 181) C 7 dX3_measure_179 rfl rfl ?_
        refine x_aald (q := 182) C 2 dX3_measure_181 (gX3_9 y bS aS Y S23) rfl rfl hb26 (if_pos (xin_lt hb26)) rfl ?_
        refine x_aload (q := 184) C 6 dX3_measure_182 rfl rfl ?_
        refine x_iconst (q := 185) C dX3_measure_184 ki_1 rfl ?_
        refine x_iald (q := 186) C 0 dX3_measure_185 (aX3_r1 y bS aS Y S23 (xin_lt hb20)) rfl hb30 rfl ?_
        refine x_iload (q := 188) C 8 dX3_measure_186 rfl rfl ?_
        obtain ⟨S46, eS46, hf⟩ := lt_elim hf
        refine x_iast (q := 189) (ws' := sC y bS aS Y S46) C 0 dX3_measure_188 (aX3_r9 y bS aS Y S23 (xin_lt hb26)) rfl hb35 (congrArg (fun z => sC y bS aS Y z) eS46.symm) rfl ?_
        refine x_iconst (q := 190) C dX3_measure_189 ki_1 rfl ?_
        refine x_istore_n (q := 191) C [1, 2, 0, 3, 4, 5, 6, 7, 9] [(0, .ref bS), (1, .int v1), (2, .int 1), (3, .ref (aS 2)), (4, .int v14), (5, .int v16), (6, .ref (aS (rk 10 v16.toNatClampNeg))), (7, .int v22), (9, .int v39)] dX3_measure_190 rfl (by decide) rfl rfl ?_
        exact hJ191 1 S46 hf
set_option maxHeartbeats 4000000 in
set_option maxRecDepth 100000 in
theorem w5_measure_L72 {p : Program} {l : Launch} {e : Env} {s : State} {m : MethodId} {args : Array Value} {below : List Frame} {meth : Method} {c : Code} {D : va_G} {A : Nat → Prop} {y : Nat → ClassId} {bS : Nat} {aS : Nat → Nat} {Y : (Nat → Nat)} {v1 : Int32} {v14 : Int32} {S' : St} {K : Int32 → St → Option (St)} (C : xC p s m args meth c D A cX3_measure RX3 10 wsX3_measure (xT y) none) (hK : ∀ (v18 : Int32) (S19 : St), K v18 S19 = some S' → xV p l e { frames := 1, cells := 0, slots := 0, locals := 22 } s m args below meth c D A (xQv D (xT y) A (fun (_ : Unit) => True) (fun _ : Unit => sC y bS aS Y S') 0 0 below args s) 10 (sC y bS aS Y S19) 0 0 [(0, .ref bS), (1, .int v1), (2, .int v18)] 236 []) : ∀ (fu : Nat) (v15 : Int32) (v16 : Int32) (S17 : St), f5_measure_L72 v1 v14 Y K fu v15 v16 S17 = some S' → xV p l e { frames := 1, cells := 0, slots := 0, locals := 22 } s m args below meth c D A (xQv D (xT y) A (fun (_ : Unit) => True) (fun _ : Unit => sC y bS aS Y S') 0 0 below args s) 10 (sC y bS aS Y S17) 0 0 [(0, .ref bS), (1, .int v1), (2, .int v15), (3, .ref (aS 2)), (4, .int v14), (5, .int v16)] 72 [] := by
  intro fu
  induction fu with
  | zero => intro v15 v16 S17 hf; rw [f5_measure_L72] at hf; cases hf
  | succ fu ih =>
    intro v15 v16 S17 hf
    rw [f5_measure_L72] at hf
    refine x_iload (q := 74) C 5 dX3_measure_72 rfl rfl ?_
    refine x_iload (q := 76) C 4 dX3_measure_74 rfl rfl ?_
    refine x_icmp_ge (t := 236) (q := 79) C dX3_measure_76 (by decide) rfl (fun hc => ?_) (fun hc => ?_)
    · have hf := (if_pos hc).symm.trans hf
      refine x_sub [0, 1, 2] (L' := [(0, .ref bS), (1, .int v1), (2, .int v15)]) rfl ?_
      exact hK v15 S17 hf
    · have hf := (if_neg hc).symm.trans hf
      refine x_aload_n (q := 80) C 3 dX3_measure_79 rfl rfl rfl ?_
      refine x_iload (q := 82) C 5 dX3_measure_80 rfl rfl ?_
      obtain ⟨hb20, hf⟩ := gd_some hf
      refine x_aald (q := 83) C 2 dX3_measure_82 (gX3_1 y bS aS Y S17) rfl rfl hb20 (if_pos (xin_lt hb20)) rfl ?_
      refine x_astore (q := 85) C [1, 2, 3, 4, 5, 6, 0] [(0, .ref bS), (1, .int v1), (2, .int v15), (3, .ref (aS 2)), (4, .int v14), (5, .int v16), (6, .ref (aS (rk 10 v16.toNatClampNeg)))] dX3_measure_83 (by decide) rfl rfl ?_
      refine x_iconst (q := 86) C dX3_measure_85 ki_0 rfl ?_
      refine x_istore (q := 88) C [1, 2, 3, 4, 5, 6, 7, 0] [(0, .ref bS), (1, .int v1), (2, .int v15), (3, .ref (aS 2)), (4, .int v14), (5, .int v16), (6, .ref (aS (rk 10 v16.toNatClampNeg))), (7, .int 0)] dX3_measure_86 (by decide) rfl rfl ?_
      refine w5_measure_L88 C hb20 (fun v24 S25 hf => ?_) xF v15 0 S17 hf
      refine x_iinc (q := 233) C 5 (v16 + 1) [1, 2, 3, 4, 5, 0] [(0, .ref bS), (1, .int v1), (2, .int v24), (3, .ref (aS 2)), (4, .int v14), (5, .int (v16 + 1))] dX3_measure_230 rfl (congrArg (fun z => v16 + z) ki_1) (by decide) rfl rfl ?_
      refine x_goto (t := 72) C dX3_measure_233 (by decide) ?_
      exact ih v24 (v16 + 1) S25 hf
set_option maxHeartbeats 4000000 in
set_option maxRecDepth 100000 in
theorem w5_measure_L54 {p : Program} {l : Launch} {e : Env} {s : State} {m : MethodId} {args : Array Value} {below : List Frame} {meth : Method} {c : Code} {D : va_G} {A : Nat → Prop} {y : Nat → ClassId} {bS : Nat} {aS : Nat → Nat} {Y : (Nat → Nat)} {v1 : Int32} {S' : St} (C : xC p s m args meth c D A cX3_measure RX3 10 wsX3_measure (xT y) none) : ∀ (fu : Nat) (v12 : Int32) (S13 : St), f5_measure_L54 v1 Y fu v12 S13 = some S' → xV p l e { frames := 1, cells := 0, slots := 0, locals := 22 } s m args below meth c D A (xQv D (xT y) A (fun (_ : Unit) => True) (fun _ : Unit => sC y bS aS Y S') 0 0 below args s) 10 (sC y bS aS Y S13) 0 0 [(0, .ref bS), (1, .int v1), (2, .int v12)] 54 [] := by
  intro fu
  induction fu with
  | zero => intro v12 S13 hf; rw [f5_measure_L54] at hf; cases hf
  | succ fu ih =>
    intro v12 S13 hf
    rw [f5_measure_L54] at hf
    refine x_iload_n (q := 55) C 2 dX3_measure_54 rfl rfl rfl ?_
    refine x_if_eq (t := 239) (q := 58) C dX3_measure_55 (by decide) rfl (fun hc => ?_) (fun hc => ?_)
    · have hf := (if_pos hc).symm.trans hf
      have hf := Option.some.inj hf
      exact x_vret () C dX3_measure_239 rfl trivial (congrArg (fun z => sC y bS aS Y z) hf) (Nat.le_of_ble_eq_true rfl) (Nat.le_of_ble_eq_true rfl)
    · have hf := (if_neg hc).symm.trans hf
      refine x_iconst (q := 59) C dX3_measure_58 ki_0 rfl ?_
      refine x_istore_n (q := 60) C [1, 2, 0] [(0, .ref bS), (1, .int v1), (2, .int 0)] dX3_measure_59 rfl (by decide) rfl rfl ?_
      refine x_aload_n (q := 61) C 0 dX3_measure_60 rfl rfl rfl ?_
      refine x_get (q := 64) C 1 dX3_measure_61 (oX3 y bS aS Y S13) rfl iuX3_measure_X3 flX3_measure_14 rfl (by decide) rfl rfl ?_
      refine x_astore_n (q := 65) C [1, 2, 3, 0] [(0, .ref bS), (1, .int v1), (2, .int 0), (3, .ref (aS 2))] dX3_measure_64 rfl (by decide) rfl rfl ?_
      refine x_aload_n (q := 66) C 3 dX3_measure_65 rfl rfl rfl ?_
      refine x_alenr (q := 67) C 2 dX3_measure_66 (gX3_1 y bS aS Y S13) rfl rfl ?_
      obtain ⟨v14, ev14, hf⟩ := lt_elim hf
      refine x_topi ev14 ?_
      refine x_istore (q := 69) C [1, 2, 3, 4, 0] [(0, .ref bS), (1, .int v1), (2, .int 0), (3, .ref (aS 2)), (4, .int v14)] dX3_measure_67 (by decide) rfl rfl ?_
      refine x_iconst (q := 70) C dX3_measure_69 ki_0 rfl ?_
      refine x_istore (q := 72) C [1, 2, 3, 4, 5, 0] [(0, .ref bS), (1, .int v1), (2, .int 0), (3, .ref (aS 2)), (4, .int v14), (5, .int 0)] dX3_measure_70 (by decide) rfl rfl ?_
      refine w5_measure_L72 C (fun v18 S19 hf => ?_) xF 0 0 S13 hf
      refine x_goto (t := 54) C dX3_measure_236 (by decide) ?_
      exact ih v18 S19 hf
set_option maxHeartbeats 4000000 in
set_option maxRecDepth 100000 in
theorem c5_measure {l : Launch} {D : va_G} {y : Nat → ClassId} {bS : Nat} {aS : Nat → Nat} {Y : (Nat → Nat)} {S : St} {S' : St} (hf : f5_measure Y S = some S') : xMv l yX3_measure wsX3_measure 1 22 0 0 D (xT y) [.ref bS] (sC y bS aS Y S) (fun (_ : Unit) => True) (fun _ : Unit => sC y bS aS Y S') := by
  refine xMv_of (cc := cX3_measure) (nL := 10) (ret := none) [(0, .ref bS)] (by decide) rfl (Nat.le_of_ble_eq_true rfl) rfl ?_
  intro p e s m args below meth c A C hin
  have C : xC p s m args meth c D A cX3_measure RX3 10 wsX3_measure (xT y) none := C
  unfold f5_measure at hf
  refine x_aload_n (q := 1) C 0 dX3_measure_0 rfl rfl rfl ?_
  refine x_get (q := 4) C 0 dX3_measure_1 (oX3 y bS aS Y S) rfl iuX3_measure_X3 flX3_measure_7 rfl (by decide) rfl rfl ?_
  refine x_alen (q := 5) C 0 dX3_measure_4 (aX3_0 y bS aS Y S) rfl rfl rfl ?_
  obtain ⟨v1, ev1, hf⟩ := lt_elim hf
  refine x_topi ev1 ?_
  refine x_istore_n (q := 6) C [1, 0] [(0, .ref bS), (1, .int v1)] dX3_measure_5 rfl (by decide) rfl rfl ?_
  refine x_iconst (q := 7) C dX3_measure_6 ki_0 rfl ?_
  refine x_istore_n (q := 8) C [1, 2, 0] [(0, .ref bS), (1, .int v1), (2, .int 0)] dX3_measure_7 rfl (by decide) rfl rfl ?_
  refine w5_measure_L8 C (fun S4 hf => ?_) xF 0 S hf
  refine x_iconst (q := 53) C dX3_measure_52 ki_1 rfl ?_
  refine x_istore_n (q := 54) C [1, 2, 0] [(0, .ref bS), (1, .int v1), (2, .int 1)] dX3_measure_53 rfl (by decide) rfl rfl ?_
  exact w5_measure_L54 C xF9 1 S4 hf

/-! LampHillsLaw$Sim.goer(I)I -/
theorem flX3_goer_21 : Cond.fieldLink RX3 21 "LampHillsLaw$Sim" "lighters" "[[I" ∈ wsX3_goer := by decide +kernel
theorem iuX3_goer_X3 : ∀ w ∈ u_ws RX3 TX3 10, w ∈ wsX3_goer := fun _ h => List.mem_cons_of_mem _ (List.mem_append_right _ h)
def f5_goer_L2 (p1 : Int32) (Y : (Nat → Nat)) (S : St) : Nat → Int32 → Option (Int32)
  | 0, _ => none
  | fu + 1, v1 =>
  if (Int32.ofNat (Y 4)) ≤ v1 then
  (
    some (-1)
  )
  else
  (
    gd (xin v1 (Y 4)) <|
    if (S (rk 12 v1.toNatClampNeg) (4 : Int32).toNatClampNeg) = p1 then
    (
      some v1
    )
    else
    (
      f5_goer_L2 p1 Y S fu (v1 + 1)
    )
  )
def f5_goer (Y : (Nat → Nat)) (S : St) (p1 : Int32) : Option (Int32) :=
  f5_goer_L2 p1 Y S xF 0
set_option maxHeartbeats 4000000 in
set_option maxRecDepth 100000 in
theorem w5_goer_L2 {p : Program} {l : Launch} {e : Env} {s : State} {m : MethodId} {args : Array Value} {below : List Frame} {meth : Method} {c : Code} {D : va_G} {A : Nat → Prop} {y : Nat → ClassId} {bS : Nat} {aS : Nat → Nat} {Y : (Nat → Nat)} {S : St} {p1 : Int32} {r : Int32} (C : xC p s m args meth c D A cX3_goer RX3 3 wsX3_goer (xT y) (some .int)) : ∀ (fu : Nat) (v1 : Int32), f5_goer_L2 p1 Y S fu v1 = some r → xV p l e { frames := 0, cells := 0, slots := 0, locals := 0 } s m args below meth c D A (xQi D (xT y) A (fun (r' : Int32) (_ : Unit) => r' = r) (fun _ : Unit => sC y bS aS Y S) 0 0 below args s) 3 (sC y bS aS Y S) 0 0 [(0, .ref bS), (1, .int p1), (2, .int v1)] 2 [] := by
  intro fu
  induction fu with
  | zero => intro v1 hf; rw [f5_goer_L2] at hf; cases hf
  | succ fu ih =>
    intro v1 hf
    rw [f5_goer_L2] at hf
    refine x_iload_n (q := 3) C 2 dX3_goer_2 rfl rfl rfl ?_
    refine x_aload_n (q := 4) C 0 dX3_goer_3 rfl rfl rfl ?_
    refine x_get (q := 7) C 3 dX3_goer_4 (oX3 y bS aS Y S) rfl iuX3_goer_X3 flX3_goer_21 rfl (by decide) rfl rfl ?_
    refine x_alenr (q := 8) C 2 dX3_goer_7 (gX3_3 y bS aS Y S) rfl rfl ?_
    refine x_icmp_ge (t := 31) (q := 11) C dX3_goer_8 (by decide) rfl (fun hc => ?_) (fun hc => ?_)
    · have hf := (if_pos hc).symm.trans hf
      refine x_iconst (q := 32) C dX3_goer_31 ki_m1 rfl ?_
      have hf := Option.some.inj hf
      exact x_iret () C dX3_goer_32 rfl hf rfl (Nat.le_of_ble_eq_true rfl) (Nat.le_of_ble_eq_true rfl)
    · have hf := (if_neg hc).symm.trans hf
      refine x_aload_n (q := 12) C 0 dX3_goer_11 rfl rfl rfl ?_
      refine x_get (q := 15) C 3 dX3_goer_12 (oX3 y bS aS Y S) rfl iuX3_goer_X3 flX3_goer_21 rfl (by decide) rfl rfl ?_
      refine x_iload_n (q := 16) C 2 dX3_goer_15 rfl rfl rfl ?_
      obtain ⟨hb2, hf⟩ := gd_some hf
      refine x_aald (q := 17) C 2 dX3_goer_16 (gX3_3 y bS aS Y S) rfl rfl hb2 (if_pos (xin_lt hb2)) rfl ?_
      refine x_iconst (q := 18) C dX3_goer_17 ki_4 rfl ?_
      have hb3 : xin 4 9 = true := by decide
      refine x_iald (q := 19) C 0 dX3_goer_18 (aX3_r3 y bS aS Y S (xin_lt hb2)) rfl hb3 rfl ?_
      refine x_iload_n (q := 20) C 1 dX3_goer_19 rfl rfl rfl ?_
      refine x_icmp_ne (t := 25) (q := 23) C dX3_goer_20 (by decide) rfl (fun hc => ?_) (fun hc => ?_)
      · have hf := (if_neg hc).symm.trans hf
        refine x_iinc (q := 28) C 2 (v1 + 1) [1, 2, 0] [(0, .ref bS), (1, .int p1), (2, .int (v1 + 1))] dX3_goer_25 rfl (congrArg (fun z => v1 + z) ki_1) (by decide) rfl rfl ?_
        refine x_goto (t := 2) C dX3_goer_28 (by decide) ?_
        exact ih (v1 + 1) hf
      · have hf := (if_pos hc).symm.trans hf
        refine x_iload_n (q := 24) C 2 dX3_goer_23 rfl rfl rfl ?_
        have hf := Option.some.inj hf
        exact x_iret () C dX3_goer_24 rfl hf rfl (Nat.le_of_ble_eq_true rfl) (Nat.le_of_ble_eq_true rfl)
set_option maxHeartbeats 4000000 in
set_option maxRecDepth 100000 in
theorem c5_goer {l : Launch} {D : va_G} {y : Nat → ClassId} {bS : Nat} {aS : Nat → Nat} {Y : (Nat → Nat)} {S : St} {p1 : Int32} {r : Int32} (hf : f5_goer Y S p1 = some r) : xMi l yX3_goer wsX3_goer 0 0 0 0 D (xT y) [.ref bS, .int p1] (sC y bS aS Y S) (fun (r' : Int32) (_ : Unit) => r' = r) (fun _ : Unit => sC y bS aS Y S) := by
  refine xMi_of (cc := cX3_goer) (nL := 3) (ret := (some .int)) [(0, .ref bS), (1, .int p1)] (by decide) rfl (Nat.le_of_ble_eq_true rfl) rfl ?_
  intro p e s m args below meth c A C hin
  have C : xC p s m args meth c D A cX3_goer RX3 3 wsX3_goer (xT y) (some .int) := C
  unfold f5_goer at hf
  refine x_iconst (q := 1) C dX3_goer_0 ki_0 rfl ?_
  refine x_istore_n (q := 2) C [1, 2, 0] [(0, .ref bS), (1, .int p1), (2, .int 0)] dX3_goer_1 rfl (by decide) rfl rfl ?_
  exact w5_goer_L2 C xF 0 hf

/-! LampHillsLaw$Sim.burning(I)I -/
theorem flX3_burning_18 : Cond.fieldLink RX3 18 "LampHillsLaw$Sim" "lamps" "[[I" ∈ wsX3_burning := by decide +kernel
theorem iuX3_burning_X3 : ∀ w ∈ u_ws RX3 TX3 10, w ∈ wsX3_burning := fun _ h => List.mem_cons_of_mem _ (List.mem_append_right _ h)
def f5_burning_L14 (p1 : Int32) (v1 : Int32) (Y : (Nat → Nat)) (S : St) : Nat → Int32 → Int32 → Option (Int32)
  | 0, _, _ => none
  | fu + 1, v2, v3 =>
  if v1 ≤ v3 then
  (
    some v2
  )
  else
  (
    gd (xin v3 (Y 3)) <|
    lt_ (fun (v6 : Int32) =>
    (
      lt_ (v2 + v6) fun v7 =>
      f5_burning_L14 p1 v1 Y S fu v7 (v3 + 1)
    )
    ) fun J44 =>
    if (S (rk 11 v3.toNatClampNeg) (0 : Int32).toNatClampNeg) = p1 then
    (
      J44 (S (rk 11 v3.toNatClampNeg) (5 : Int32).toNatClampNeg)
    )
    else
    (
      J44 0
    )
  )
def f5_burning (Y : (Nat → Nat)) (S : St) (p1 : Int32) : Option (Int32) :=
  lt_ (Int32.ofNat (Y 3)) fun v1 =>
  f5_burning_L14 p1 v1 Y S xF 0 0
set_option maxHeartbeats 4000000 in
set_option maxRecDepth 100000 in
theorem w5_burning_L14 {p : Program} {l : Launch} {e : Env} {s : State} {m : MethodId} {args : Array Value} {below : List Frame} {meth : Method} {c : Code} {D : va_G} {A : Nat → Prop} {y : Nat → ClassId} {bS : Nat} {aS : Nat → Nat} {Y : (Nat → Nat)} {S : St} {p1 : Int32} {v1 : Int32} {r : Int32} (C : xC p s m args meth c D A cX3_burning RX3 7 wsX3_burning (xT y) (some .int)) : ∀ (fu : Nat) (v2 : Int32) (v3 : Int32), f5_burning_L14 p1 v1 Y S fu v2 v3 = some r → xV p l e { frames := 0, cells := 0, slots := 0, locals := 0 } s m args below meth c D A (xQi D (xT y) A (fun (r' : Int32) (_ : Unit) => r' = r) (fun _ : Unit => sC y bS aS Y S) 0 0 below args s) 7 (sC y bS aS Y S) 0 0 [(1, .int p1), (2, .int v2), (3, .ref (aS 3)), (4, .int v1), (5, .int v3)] 14 [] := by
  intro fu
  induction fu with
  | zero => intro v2 v3 hf; rw [f5_burning_L14] at hf; cases hf
  | succ fu ih =>
    intro v2 v3 hf
    rw [f5_burning_L14] at hf
    refine x_iload (q := 16) C 4 dX3_burning_14 rfl rfl ?_
    refine x_iload (q := 18) C 3 dX3_burning_16 rfl rfl ?_
    refine x_icmp_ge (t := 52) (q := 21) C dX3_burning_18 (by decide) rfl (fun hc => ?_) (fun hc => ?_)
    · have hf := (if_pos hc).symm.trans hf
      refine x_iload_n (q := 53) C 1 dX3_burning_52 rfl rfl rfl ?_
      have hf := Option.some.inj hf
      exact x_iret () C dX3_burning_53 rfl hf rfl (Nat.le_of_ble_eq_true rfl) (Nat.le_of_ble_eq_true rfl)
    · have hf := (if_neg hc).symm.trans hf
      refine x_aload_n (q := 22) C 2 dX3_burning_21 rfl rfl rfl ?_
      refine x_iload (q := 24) C 4 dX3_burning_22 rfl rfl ?_
      obtain ⟨hb4, hf⟩ := gd_some hf
      refine x_aald (q := 25) C 2 dX3_burning_24 (gX3_2 y bS aS Y S) rfl rfl hb4 (if_pos (xin_lt hb4)) rfl ?_
      refine x_astore (q := 27) C [1, 2, 3, 4, 5, 0] [(1, .int p1), (2, .int v2), (3, .ref (aS 3)), (4, .int v1), (5, .int v3), (6, .ref (aS (rk 11 v3.toNatClampNeg)))] dX3_burning_25 (by decide) rfl rfl ?_
      refine x_iload_n (q := 28) C 1 dX3_burning_27 rfl rfl rfl ?_
      refine x_aload (q := 30) C 5 dX3_burning_28 rfl rfl ?_
      refine x_iconst (q := 31) C dX3_burning_30 ki_0 rfl ?_
      have hb5 : xin 0 8 = true := by decide
      refine x_iald (q := 32) C 0 dX3_burning_31 (aX3_r2 y bS aS Y S (xin_lt hb4)) rfl hb5 rfl ?_
      refine x_iload_n (q := 33) C 0 dX3_burning_32 rfl rfl rfl ?_
      obtain ⟨J44, eJ44, hf⟩ := lt_elim hf
      have hJ44 : ∀ (v6 : Int32), J44 v6 = some r → xV p l e { frames := 0, cells := 0, slots := 0, locals := 0 } s m args below meth c D A (xQi D (xT y) A (fun (r' : Int32) (_ : Unit) => r' = r) (fun _ : Unit => sC y bS aS Y S) 0 0 below args s) 7 (sC y bS aS Y S) 0 0 [(1, .int p1), (3, .ref (aS 3)), (4, .int v1), (5, .int v3)] 44 [.int v6, .int v2] := by
        intro v6 hf
        subst eJ44
        refine x_iadd (q := 45) C dX3_burning_44 rfl ?_
        obtain ⟨v7, ev7, hf⟩ := lt_elim hf
        refine x_topi ev7 ?_
        refine x_istore_n (q := 46) C [1, 0, 2, 3, 4] [(1, .int p1), (2, .int v7), (3, .ref (aS 3)), (4, .int v1), (5, .int v3)] dX3_burning_45 rfl (by decide) rfl rfl ?_
        refine x_iinc (q := 49) C 4 (v3 + 1) [1, 2, 3, 4, 0] [(1, .int p1), (2, .int v7), (3, .ref (aS 3)), (4, .int v1), (5, .int (v3 + 1))] dX3_burning_46 rfl (congrArg (fun z => v3 + z) ki_1) (by decide) rfl rfl ?_
        refine x_goto (t := 14) C dX3_burning_49 (by decide) ?_
        exact ih v7 (v3 + 1) hf
      refine x_icmp_ne (t := 43) (q := 36) C dX3_burning_33 (by decide) rfl (fun hc => ?_) (fun hc => ?_)
      · have hf := (if_neg hc).symm.trans hf
        refine x_iconst (q := 44) C dX3_burning_43 ki_0 rfl ?_
        refine x_sub [0, 2, 3, 4] (L' := [(1, .int p1), (3, .ref (aS 3)), (4, .int v1), (5, .int v3)]) rfl ?_
        exact hJ44 0 hf
      · have hf := (if_pos hc).symm.trans hf
        refine x_aload (q := 38) C 5 dX3_burning_36 rfl rfl ?_
        refine x_iconst (q := 39) C dX3_burning_38 ki_5 rfl ?_
        have hb8 : xin 5 8 = true := by decide
        refine x_iald (q := 40) C 0 dX3_burning_39 (aX3_r2 y bS aS Y S (xin_lt hb4)) rfl hb8 rfl ?_
        refine x_goto (t := 44) C dX3_burning_40 (by decide) ?_
        refine x_sub [0, 2, 3, 4] (L' := [(1, .int p1), (3, .ref (aS 3)), (4, .int v1), (5, .int v3)]) rfl ?_
        exact hJ44 (S (rk 11 v3.toNatClampNeg) (5 : Int32).toNatClampNeg) hf
set_option maxHeartbeats 4000000 in
set_option maxRecDepth 100000 in
theorem c5_burning {l : Launch} {D : va_G} {y : Nat → ClassId} {bS : Nat} {aS : Nat → Nat} {Y : (Nat → Nat)} {S : St} {p1 : Int32} {r : Int32} (hf : f5_burning Y S p1 = some r) : xMi l yX3_burning wsX3_burning 0 0 0 0 D (xT y) [.ref bS, .int p1] (sC y bS aS Y S) (fun (r' : Int32) (_ : Unit) => r' = r) (fun _ : Unit => sC y bS aS Y S) := by
  refine xMi_of (cc := cX3_burning) (nL := 7) (ret := (some .int)) [(0, .ref bS), (1, .int p1)] (by decide) rfl (Nat.le_of_ble_eq_true rfl) rfl ?_
  intro p e s m args below meth c A C hin
  have C : xC p s m args meth c D A cX3_burning RX3 7 wsX3_burning (xT y) (some .int) := C
  unfold f5_burning at hf
  refine x_iconst (q := 1) C dX3_burning_0 ki_0 rfl ?_
  refine x_istore_n (q := 2) C [1, 2, 0] [(0, .ref bS), (1, .int p1), (2, .int 0)] dX3_burning_1 rfl (by decide) rfl rfl ?_
  refine x_aload_n (q := 3) C 0 dX3_burning_2 rfl rfl rfl ?_
  refine x_get (q := 6) C 2 dX3_burning_3 (oX3 y bS aS Y S) rfl iuX3_burning_X3 flX3_burning_18 rfl (by decide) rfl rfl ?_
  refine x_astore_n (q := 7) C [2, 3, 0] [(1, .int p1), (2, .int 0), (3, .ref (aS 3))] dX3_burning_6 rfl (by decide) rfl rfl ?_
  refine x_aload_n (q := 8) C 2 dX3_burning_7 rfl rfl rfl ?_
  refine x_alenr (q := 9) C 2 dX3_burning_8 (gX3_2 y bS aS Y S) rfl rfl ?_
  obtain ⟨v1, ev1, hf⟩ := lt_elim hf
  refine x_topi ev1 ?_
  refine x_istore (q := 11) C [1, 2, 3, 0] [(1, .int p1), (2, .int 0), (3, .ref (aS 3)), (4, .int v1)] dX3_burning_9 (by decide) rfl rfl ?_
  refine x_iconst (q := 12) C dX3_burning_11 ki_0 rfl ?_
  refine x_istore (q := 14) C [1, 2, 3, 4, 0] [(1, .int p1), (2, .int 0), (3, .ref (aS 3)), (4, .int v1), (5, .int 0)] dX3_burning_12 (by decide) rfl rfl ?_
  exact w5_burning_L14 C xF 0 0 hf

/-! LampHillsLaw$Sim.look(I)V -/
theorem kb_6 : (Int8.ofInt 6).toInt32 = 6 := by decide
theorem flX3_look_14 : Cond.fieldLink RX3 14 "LampHillsLaw$Sim" "streets" "[[I" ∈ wsX3_look := by decide +kernel
theorem flX3_look_18 : Cond.fieldLink RX3 18 "LampHillsLaw$Sim" "lamps" "[[I" ∈ wsX3_look := by decide +kernel
theorem flX3_look_21 : Cond.fieldLink RX3 21 "LampHillsLaw$Sim" "lighters" "[[I" ∈ wsX3_look := by decide +kernel
theorem flX3_look_24 : Cond.fieldLink RX3 24 "LampHillsLaw$Sim" "rounds" "[[I" ∈ wsX3_look := by decide +kernel
theorem flX3_look_31 : Cond.fieldLink RX3 31 "LampHillsLaw$Sim" "ways" "[[I" ∈ wsX3_look := by decide +kernel
theorem iuX3_look_X3 : ∀ w ∈ u_ws RX3 TX3 10, w ∈ wsX3_look := fun _ h => List.mem_cons_of_mem _ (List.mem_append_right _ h)
theorem yi_X3_goer : xY yX3_goer wsX3_goer cX3_goer 3 (some .int) 1 := ⟨⟨_, rfl⟩, by decide +kernel, by decide +kernel, by decide +kernel⟩
def f5_look_L17 (p1 : Int32) (Y : (Nat → Nat)) (S : St) : Nat → Int32 → Option (St)
  | 0, _ => none
  | fu + 1, v3 =>
  if (Int32.ofNat (Y (rk 13 p1.toNatClampNeg))) ≤ v3 then
  (
    some S
  )
  else
  (
    gd (decide (¬ (Int32.ofNat (Y (rk 13 p1.toNatClampNeg))) = 0)) <|
    lt_ ((((S (rk 12 p1.toNatClampNeg) (7 : Int32).toNatClampNeg) + 1) + v3) - (((S (rk 12 p1.toNatClampNeg) (7 : Int32).toNatClampNeg) + 1) + v3) / (Int32.ofNat (Y (rk 13 p1.toNatClampNeg))) * (Int32.ofNat (Y (rk 13 p1.toNatClampNeg)))) fun v6 =>
    gd (xin v6 (Y (rk 13 p1.toNatClampNeg))) <|
    gd (xin (S (rk 13 p1.toNatClampNeg) v6.toNatClampNeg) (Y 3)) <|
    gd (xin (S (rk 11 (S (rk 13 p1.toNatClampNeg) v6.toNatClampNeg).toNatClampNeg) (0 : Int32).toNatClampNeg) (Y 2)) <|
    gd (xin (S (rk 12 p1.toNatClampNeg) (1 : Int32).toNatClampNeg) 12) <|
    gd (xin (S (rk 10 (S (rk 11 (S (rk 13 p1.toNatClampNeg) v6.toNatClampNeg).toNatClampNeg) (0 : Int32).toNatClampNeg).toNatClampNeg) (0 : Int32).toNatClampNeg) 12) <|
    lt_ (S (rk 14 (S (rk 12 p1.toNatClampNeg) (1 : Int32).toNatClampNeg).toNatClampNeg) (S (rk 10 (S (rk 11 (S (rk 13 p1.toNatClampNeg) v6.toNatClampNeg).toNatClampNeg) (0 : Int32).toNatClampNeg).toNatClampNeg) (0 : Int32).toNatClampNeg).toNatClampNeg) fun v15 =>
    gd (xin (S (rk 10 (S (rk 11 (S (rk 13 p1.toNatClampNeg) v6.toNatClampNeg).toNatClampNeg) (0 : Int32).toNatClampNeg).toNatClampNeg) (1 : Int32).toNatClampNeg) 12) <|
    lt_ (S (rk 14 (S (rk 12 p1.toNatClampNeg) (1 : Int32).toNatClampNeg).toNatClampNeg) (S (rk 10 (S (rk 11 (S (rk 13 p1.toNatClampNeg) v6.toNatClampNeg).toNatClampNeg) (0 : Int32).toNatClampNeg).toNatClampNeg) (1 : Int32).toNatClampNeg).toNatClampNeg) fun v18 =>
    lt_ (fun (u_ : Unit) =>
    (
      f5_look_L17 p1 Y S fu (v3 + 1)
    )
    ) fun J206 =>
    if (S (rk 11 (S (rk 13 p1.toNatClampNeg) v6.toNatClampNeg).toNatClampNeg) (5 : Int32).toNatClampNeg) = 1 then
    (
      J206 ()
    )
    else
    (
      bd (f5_goer Y S (S (rk 13 p1.toNatClampNeg) v6.toNatClampNeg)) fun v20 =>
      if 0 ≤ v20 then
      (
        J206 ()
      )
      else
      (
        if (S (rk 12 p1.toNatClampNeg) (2 : Int32).toNatClampNeg) < ((S (rk 11 (S (rk 13 p1.toNatClampNeg) v6.toNatClampNeg).toNatClampNeg) (1 : Int32).toNatClampNeg) - 2) then
        (
          J206 ()
        )
        else
        (
          lt_ (fun (u_ : Unit) =>
          (
            if ((S (rk 11 (S (rk 13 p1.toNatClampNeg) v6.toNatClampNeg).toNatClampNeg) (3 : Int32).toNatClampNeg) + (S (rk 12 p1.toNatClampNeg) (3 : Int32).toNatClampNeg)) ≤ 0 then
            (
              some S
            )
            else
            (
              lt_ (up2 S (rk 12 p1.toNatClampNeg) (4 : Int32).toNatClampNeg (S (rk 13 p1.toNatClampNeg) v6.toNatClampNeg)) fun S28 =>
              lt_ (fun (v29 : Int32) =>
              (
                lt_ (up2 S28 (rk 12 p1.toNatClampNeg) (6 : Int32).toNatClampNeg v29) fun S31 =>
                lt_ (fun (v32 : Int32) =>
                (
                  lt_ (up2 S31 (rk 12 p1.toNatClampNeg) (5 : Int32).toNatClampNeg (3 + v32)) fun S34 =>
                  lt_ (up2 S34 (rk 12 p1.toNatClampNeg) (7 : Int32).toNatClampNeg v6) fun S35 =>
                  some S35
                )
                ) fun J197 =>
                if v18 < v15 then
                (
                  J197 v18
                )
                else
                (
                  J197 v15
                )
              )
              ) fun J179 =>
              if v18 < v15 then
              (
                J179 (S28 (rk 10 (S (rk 11 (S (rk 13 p1.toNatClampNeg) v6.toNatClampNeg).toNatClampNeg) (0 : Int32).toNatClampNeg).toNatClampNeg) (1 : Int32).toNatClampNeg)
              )
              else
              (
                J179 (S28 (rk 10 (S (rk 11 (S (rk 13 p1.toNatClampNeg) v6.toNatClampNeg).toNatClampNeg) (0 : Int32).toNatClampNeg).toNatClampNeg) (0 : Int32).toNatClampNeg)
              )
            )
          )
          ) fun J140 =>
          if v15 < 1000 then
          (
            J140 ()
          )
          else
          (
            if v18 < 1000 then
            (
              J140 ()
            )
            else
            (
              J206 ()
            )
          )
        )
      )
    )
  )
def f5_look (Y : (Nat → Nat)) (S : St) (p1 : Int32) : Option (St) :=
  gd (xin p1 (Y 4)) <|
  gd (xin p1 (Y 5)) <|
  f5_look_L17 p1 Y S xF 0
set_option maxHeartbeats 4000000 in
set_option maxRecDepth 100000 in
theorem w5_look_L17 {p : Program} {l : Launch} {e : Env} {s : State} {m : MethodId} {args : Array Value} {below : List Frame} {meth : Method} {c : Code} {D : va_G} {A : Nat → Prop} {y : Nat → ClassId} {bS : Nat} {aS : Nat → Nat} {Y : (Nat → Nat)} {S : St} {p1 : Int32} {S' : St} (C : xC p s m args meth c D A cX3_look RX3 10 wsX3_look (xT y) none) (hb1 : xin p1 (Y 4) = true) (hb2 : xin p1 (Y 5) = true) : ∀ (fu : Nat) (v3 : Int32), f5_look_L17 p1 Y S fu v3 = some S' → xV p l e { frames := 1, cells := 0, slots := 0, locals := 22 } s m args below meth c D A (xQv D (xT y) A (fun (_ : Unit) => True) (fun _ : Unit => sC y bS aS Y S') 0 0 below args s) 10 (sC y bS aS Y S) 0 0 [(0, .ref bS), (2, .ref (aS (rk 12 p1.toNatClampNeg))), (3, .ref (aS (rk 13 p1.toNatClampNeg))), (4, .int v3)] 17 [] := by
  intro fu
  induction fu with
  | zero => intro v3 hf; rw [f5_look_L17] at hf; cases hf
  | succ fu ih =>
    intro v3 hf
    rw [f5_look_L17] at hf
    refine x_iload (q := 19) C 3 dX3_look_17 rfl rfl ?_
    refine x_aload_n (q := 20) C 2 dX3_look_19 rfl rfl rfl ?_
    refine x_alen (q := 21) C 0 dX3_look_20 (aX3_r4 y bS aS Y S (xin_lt hb2)) rfl rfl rfl ?_
    refine x_icmp_ge (t := 212) (q := 24) C dX3_look_21 (by decide) rfl (fun hc => ?_) (fun hc => ?_)
    · have hf := (if_pos hc).symm.trans hf
      have hf := Option.some.inj hf
      exact x_vret () C dX3_look_212 rfl trivial (congrArg (fun z => sC y bS aS Y z) hf) (Nat.le_of_ble_eq_true rfl) (Nat.le_of_ble_eq_true rfl)
    · have hf := (if_neg hc).symm.trans hf
      refine x_aload_n (q := 25) C 1 dX3_look_24 rfl rfl rfl ?_
      refine x_bipush (q := 27) C dX3_look_25 kb_7 rfl ?_
      have hb4 : xin 7 9 = true := by decide
      refine x_iald (q := 28) C 0 dX3_look_27 (aX3_r3 y bS aS Y S (xin_lt hb1)) rfl hb4 rfl ?_
      refine x_iconst (q := 29) C dX3_look_28 ki_1 rfl ?_
      refine x_iadd (q := 30) C dX3_look_29 rfl ?_
      refine x_iload (q := 32) C 3 dX3_look_30 rfl rfl ?_
      refine x_iadd (q := 33) C dX3_look_32 rfl ?_
      refine x_aload_n (q := 34) C 2 dX3_look_33 rfl rfl rfl ?_
      refine x_alen (q := 35) C 0 dX3_look_34 (aX3_r4 y bS aS Y S (xin_lt hb2)) rfl rfl rfl ?_
      obtain ⟨hz5, hf⟩ := gd_some hf
      refine x_irem (q := 36) C dX3_look_35 (of_decide_eq_true hz5) rfl ?_
      obtain ⟨v6, ev6, hf⟩ := lt_elim hf
      refine x_topi ev6 ?_
      refine x_istore (q := 38) C [1, 2, 3, 4, 0] [(0, .ref bS), (2, .ref (aS (rk 12 p1.toNatClampNeg))), (3, .ref (aS (rk 13 p1.toNatClampNeg))), (4, .int v3), (5, .int v6)] dX3_look_36 (by decide) rfl rfl ?_
      refine x_aload_n (q := 39) C 0 dX3_look_38 rfl rfl rfl ?_
      refine x_get (q := 42) C 2 dX3_look_39 (oX3 y bS aS Y S) rfl iuX3_look_X3 flX3_look_18 rfl (by decide) rfl rfl ?_
      refine x_aload_n (q := 43) C 2 dX3_look_42 rfl rfl rfl ?_
      refine x_iload (q := 45) C 4 dX3_look_43 rfl rfl ?_
      obtain ⟨hb7, hf⟩ := gd_some hf
      refine x_iald (q := 46) C 0 dX3_look_45 (aX3_r4 y bS aS Y S (xin_lt hb2)) rfl hb7 rfl ?_
      obtain ⟨hb8, hf⟩ := gd_some hf
      refine x_aald (q := 47) C 2 dX3_look_46 (gX3_2 y bS aS Y S) rfl rfl hb8 (if_pos (xin_lt hb8)) rfl ?_
      refine x_astore (q := 49) C [1, 2, 3, 4, 5, 0] [(0, .ref bS), (2, .ref (aS (rk 12 p1.toNatClampNeg))), (3, .ref (aS (rk 13 p1.toNatClampNeg))), (4, .int v3), (5, .int v6), (6, .ref (aS (rk 11 (S (rk 13 p1.toNatClampNeg) v6.toNatClampNeg).toNatClampNeg)))] dX3_look_47 (by decide) rfl rfl ?_
      refine x_aload_n (q := 50) C 0 dX3_look_49 rfl rfl rfl ?_
      refine x_get (q := 53) C 1 dX3_look_50 (oX3 y bS aS Y S) rfl iuX3_look_X3 flX3_look_14 rfl (by decide) rfl rfl ?_
      refine x_aload (q := 55) C 5 dX3_look_53 rfl rfl ?_
      refine x_iconst (q := 56) C dX3_look_55 ki_0 rfl ?_
      have hb9 : xin 0 8 = true := by decide
      refine x_iald (q := 57) C 0 dX3_look_56 (aX3_r2 y bS aS Y S (xin_lt hb8)) rfl hb9 rfl ?_
      obtain ⟨hb10, hf⟩ := gd_some hf
      refine x_aald (q := 58) C 2 dX3_look_57 (gX3_1 y bS aS Y S) rfl rfl hb10 (if_pos (xin_lt hb10)) rfl ?_
      refine x_astore (q := 60) C [1, 2, 3, 4, 5, 6, 0] [(0, .ref bS), (2, .ref (aS (rk 12 p1.toNatClampNeg))), (3, .ref (aS (rk 13 p1.toNatClampNeg))), (4, .int v3), (5, .int v6), (6, .ref (aS (rk 11 (S (rk 13 p1.toNatClampNeg) v6.toNatClampNeg).toNatClampNeg))), (7, .ref (aS (rk 10 (S (rk 11 (S (rk 13 p1.toNatClampNeg) v6.toNatClampNeg).toNatClampNeg) (0 : Int32).toNatClampNeg).toNatClampNeg)))] dX3_look_58 (by decide) rfl rfl ?_
      refine x_aload_n (q := 61) C 0 dX3_look_60 rfl rfl rfl ?_
      refine x_get (q := 64) C 9 dX3_look_61 (oX3 y bS aS Y S) rfl iuX3_look_X3 flX3_look_31 rfl (by decide) rfl rfl ?_
      refine x_aload_n (q := 65) C 1 dX3_look_64 rfl rfl rfl ?_
      refine x_iconst (q := 66) C dX3_look_65 ki_1 rfl ?_
      have hb11 : xin 1 9 = true := by decide
      refine x_iald (q := 67) C 0 dX3_look_66 (aX3_r3 y bS aS Y S (xin_lt hb1)) rfl hb11 rfl ?_
      obtain ⟨hb12, hf⟩ := gd_some hf
      refine x_aald (q := 68) C 2 dX3_look_67 (gX3_9 y bS aS Y S) rfl rfl hb12 (if_pos (xin_lt hb12)) rfl ?_
      refine x_aload (q := 70) C 6 dX3_look_68 rfl rfl ?_
      refine x_iconst (q := 71) C dX3_look_70 ki_0 rfl ?_
      have hb13 : xin 0 3 = true := by decide
      refine x_iald (q := 72) C 0 dX3_look_71 (aX3_r1 y bS aS Y S (xin_lt hb10)) rfl hb13 rfl ?_
      obtain ⟨hb14, hf⟩ := gd_some hf
      refine x_iald (q := 73) C 0 dX3_look_72 (aX3_r9 y bS aS Y S (xin_lt hb12)) rfl hb14 rfl ?_
      obtain ⟨v15, ev15, hf⟩ := lt_elim hf
      refine x_topi ev15 ?_
      refine x_istore (q := 75) C [1, 2, 3, 4, 5, 6, 7, 0] [(0, .ref bS), (2, .ref (aS (rk 12 p1.toNatClampNeg))), (3, .ref (aS (rk 13 p1.toNatClampNeg))), (4, .int v3), (5, .int v6), (6, .ref (aS (rk 11 (S (rk 13 p1.toNatClampNeg) v6.toNatClampNeg).toNatClampNeg))), (7, .ref (aS (rk 10 (S (rk 11 (S (rk 13 p1.toNatClampNeg) v6.toNatClampNeg).toNatClampNeg) (0 : Int32).toNatClampNeg).toNatClampNeg))), (8, .int v15)] dX3_look_73 (by decide) rfl rfl ?_
      refine x_aload_n (q := 76) C 0 dX3_look_75 rfl rfl rfl ?_
      refine x_get (q := 79) C 9 dX3_look_76 (oX3 y bS aS Y S) rfl iuX3_look_X3 flX3_look_31 rfl (by decide) rfl rfl ?_
      refine x_aload_n (q := 80) C 1 dX3_look_79 rfl rfl rfl ?_
      refine x_iconst (q := 81) C dX3_look_80 ki_1 rfl ?_
      refine x_iald (q := 82) C 0 dX3_look_81 (aX3_r3 y bS aS Y S (xin_lt hb1)) rfl hb11 rfl ?_
      refine x_aald (q := 83) C 2 dX3_look_82 (gX3_9 y bS aS Y S) rfl rfl hb12 (if_pos (xin_lt hb12)) rfl ?_
      refine x_aload (q := 85) C 6 dX3_look_83 rfl rfl ?_
      refine x_iconst (q := 86) C dX3_look_85 ki_1 rfl ?_
      have hb16 : xin 1 3 = true := by decide
      refine x_iald (q := 87) C 0 dX3_look_86 (aX3_r1 y bS aS Y S (xin_lt hb10)) rfl hb16 rfl ?_
      obtain ⟨hb17, hf⟩ := gd_some hf
      refine x_iald (q := 88) C 0 dX3_look_87 (aX3_r9 y bS aS Y S (xin_lt hb12)) rfl hb17 rfl ?_
      obtain ⟨v18, ev18, hf⟩ := lt_elim hf
      refine x_topi ev18 ?_
      refine x_istore (q := 90) C [1, 2, 3, 4, 5, 6, 7, 8, 0] [(0, .ref bS), (2, .ref (aS (rk 12 p1.toNatClampNeg))), (3, .ref (aS (rk 13 p1.toNatClampNeg))), (4, .int v3), (5, .int v6), (6, .ref (aS (rk 11 (S (rk 13 p1.toNatClampNeg) v6.toNatClampNeg).toNatClampNeg))), (7, .ref (aS (rk 10 (S (rk 11 (S (rk 13 p1.toNatClampNeg) v6.toNatClampNeg).toNatClampNeg) (0 : Int32).toNatClampNeg).toNatClampNeg))), (8, .int v15), (9, .int v18)] dX3_look_88 (by decide) rfl rfl ?_
      refine x_aload (q := 92) C 5 dX3_look_90 rfl rfl ?_
      refine x_iconst (q := 93) C dX3_look_92 ki_5 rfl ?_
      have hb19 : xin 5 8 = true := by decide
      refine x_iald (q := 94) C 0 dX3_look_93 (aX3_r2 y bS aS Y S (xin_lt hb8)) rfl hb19 rfl ?_
      refine x_iconst (q := 95) C dX3_look_94 ki_1 rfl ?_
      obtain ⟨J206, eJ206, hf⟩ := lt_elim hf
      have hJ206 : ∀ (u_ : Unit), J206 u_ = some S' → xV p l e { frames := 1, cells := 0, slots := 0, locals := 22 } s m args below meth c D A (xQv D (xT y) A (fun (_ : Unit) => True) (fun _ : Unit => sC y bS aS Y S') 0 0 below args s) 10 (sC y bS aS Y S) 0 0 [(0, .ref bS), (2, .ref (aS (rk 12 p1.toNatClampNeg))), (3, .ref (aS (rk 13 p1.toNatClampNeg))), (4, .int v3)] 206 [] := by
        intro u_ hf
        subst eJ206
        refine x_iinc (q := 209) C 3 (v3 + 1) [1, 2, 3, 0] [(0, .ref bS), (2, .ref (aS (rk 12 p1.toNatClampNeg))), (3, .ref (aS (rk 13 p1.toNatClampNeg))), (4, .int (v3 + 1))] dX3_look_206 rfl (congrArg (fun z => v3 + z) ki_1) (by decide) rfl rfl ?_
        refine x_goto (t := 17) C dX3_look_209 (by decide) ?_
        exact ih (v3 + 1) hf
      refine x_icmp_eq (t := 206) (q := 98) C dX3_look_95 (by decide) rfl (fun hc => ?_) (fun hc => ?_)
      · have hf := (if_pos hc).symm.trans hf
        refine x_sub [0, 1, 2, 3] (L' := [(0, .ref bS), (2, .ref (aS (rk 12 p1.toNatClampNeg))), (3, .ref (aS (rk 13 p1.toNatClampNeg))), (4, .int v3)]) rfl ?_
        exact hJ206 () hf
      · have hf := (if_neg hc).symm.trans hf
        refine x_aload_n (q := 99) C 0 dX3_look_98 rfl rfl rfl ?_
        refine x_aload_n (q := 100) C 2 dX3_look_99 rfl rfl rfl ?_
        refine x_iload (q := 102) C 4 dX3_look_100 rfl rfl ?_
        refine x_iald (q := 103) C 0 dX3_look_102 (aX3_r4 y bS aS Y S (xin_lt hb2)) rfl hb7 rfl ?_
        obtain ⟨v20, hcal21, hf⟩ := bd_some hf
        refine x_callVi (q := 106) C (c5_goer (l := l) (D := D) (y := y) (bS := bS) (aS := aS) hcal21) yi_X3_goer gX3_look_X3_goer rfl (oX3 y bS aS Y S) rfl ⟨(Nat.le_of_ble_eq_true rfl), (Nat.le_of_ble_eq_true rfl)⟩ dX3_look_103 pm_nil rfl rfl (Nat.le_of_ble_eq_true rfl) ⟨Nat.le_of_ble_eq_true rfl, Nat.le_of_ble_eq_true rfl⟩ rfl ?_
        intro rr22 uu hrr
        have hrr : v20 = rr22 := Eq.symm hrr
        subst hrr
        refine x_world (ws' := sC y bS aS Y S) (List.append_nil _) ?_
        refine x_if_ge (t := 206) (q := 109) C dX3_look_106 (by decide) rfl (fun hc => ?_) (fun hc => ?_)
        · have hf := (if_pos hc).symm.trans hf
          refine x_sub [0, 1, 2, 3] (L' := [(0, .ref bS), (2, .ref (aS (rk 12 p1.toNatClampNeg))), (3, .ref (aS (rk 13 p1.toNatClampNeg))), (4, .int v3)]) rfl ?_
          exact hJ206 () hf
        · have hf := (if_neg hc).symm.trans hf
          refine x_aload (q := 111) C 5 dX3_look_109 rfl rfl ?_
          refine x_iconst (q := 112) C dX3_look_111 ki_1 rfl ?_
          have hb23 : xin 1 8 = true := by decide
          refine x_iald (q := 113) C 0 dX3_look_112 (aX3_r2 y bS aS Y S (xin_lt hb8)) rfl hb23 rfl ?_
          refine x_iconst (q := 114) C dX3_look_113 ki_2 rfl ?_
          refine x_isub (q := 115) C dX3_look_114 rfl ?_
          refine x_aload_n (q := 116) C 1 dX3_look_115 rfl rfl rfl ?_
          refine x_iconst (q := 117) C dX3_look_116 ki_2 rfl ?_
          have hb24 : xin 2 9 = true := by decide
          refine x_iald (q := 118) C 0 dX3_look_117 (aX3_r3 y bS aS Y S (xin_lt hb1)) rfl hb24 rfl ?_
          refine x_icmp_gt (t := 206) (q := 121) C dX3_look_118 (by decide) rfl (fun hc => ?_) (fun hc => ?_)
          · have hf := (if_pos hc).symm.trans hf
            refine x_sub [0, 1, 2, 3] (L' := [(0, .ref bS), (2, .ref (aS (rk 12 p1.toNatClampNeg))), (3, .ref (aS (rk 13 p1.toNatClampNeg))), (4, .int v3)]) rfl ?_
            exact hJ206 () hf
          · have hf := (if_neg hc).symm.trans hf
            refine x_iload (q := 123) C 7 dX3_look_121 rfl rfl ?_
            refine x_sipush (q := 126) C dX3_look_123 ks_1000 rfl ?_
            obtain ⟨J140, eJ140, hf⟩ := lt_elim hf
            have hJ140 : ∀ (u_ : Unit), J140 u_ = some S' → xV p l e { frames := 1, cells := 0, slots := 0, locals := 22 } s m args below meth c D A (xQv D (xT y) A (fun (_ : Unit) => True) (fun _ : Unit => sC y bS aS Y S') 0 0 below args s) 10 (sC y bS aS Y S) 0 0 [(2, .ref (aS (rk 12 p1.toNatClampNeg))), (3, .ref (aS (rk 13 p1.toNatClampNeg))), (5, .int v6), (6, .ref (aS (rk 11 (S (rk 13 p1.toNatClampNeg) v6.toNatClampNeg).toNatClampNeg))), (7, .ref (aS (rk 10 (S (rk 11 (S (rk 13 p1.toNatClampNeg) v6.toNatClampNeg).toNatClampNeg) (0 : Int32).toNatClampNeg).toNatClampNeg))), (8, .int v15), (9, .int v18)] 140 [] := by
              intro u_ hf
              subst eJ140
              refine x_aload (q := 142) C 3 dX3_look_140 rfl rfl ?_
              refine x_iconst (q := 143) C dX3_look_142 ki_3 rfl ?_
              have hb25 : xin 3 8 = true := by decide
              refine x_iald (q := 144) C 0 dX3_look_143 (aX3_r2 y bS aS Y S (xin_lt hb8)) rfl hb25 rfl ?_
              refine x_aload_n (q := 145) C 0 dX3_look_144 rfl rfl rfl ?_
              refine x_iconst (q := 146) C dX3_look_145 ki_3 rfl ?_
              have hb26 : xin 3 9 = true := by decide
              refine x_iald (q := 147) C 0 dX3_look_146 (aX3_r3 y bS aS Y S (xin_lt hb1)) rfl hb26 rfl ?_
              refine x_iadd (q := 148) C dX3_look_147 rfl ?_
              refine x_if_le (t := 205) (q := 151) C dX3_look_148 (by decide) rfl (fun hc => ?_) (fun hc => ?_)
              · have hf := (if_pos hc).symm.trans hf
                have hf := Option.some.inj hf
                exact x_vret () C dX3_look_205 rfl trivial (congrArg (fun z => sC y bS aS Y z) hf) (Nat.le_of_ble_eq_true rfl) (Nat.le_of_ble_eq_true rfl)
              · have hf := (if_neg hc).symm.trans hf
                refine x_aload_n (q := 152) C 0 dX3_look_151 rfl rfl rfl ?_
                refine x_iconst (q := 153) C dX3_look_152 ki_4 rfl ?_
                refine x_aload_n (q := 154) C 1 dX3_look_153 rfl rfl rfl ?_
                refine x_iload (q := 156) C 2 dX3_look_154 rfl rfl ?_
                refine x_iald (q := 157) C 0 dX3_look_156 (aX3_r4 y bS aS Y S (xin_lt hb2)) rfl hb7 rfl ?_
                have hb27 : xin 4 9 = true := by decide
                obtain ⟨S28, eS28, hf⟩ := lt_elim hf
                refine x_iast (q := 158) (ws' := sC y bS aS Y S28) C 0 dX3_look_157 (aX3_r3 y bS aS Y S (xin_lt hb1)) rfl hb27 (congrArg (fun z => sC y bS aS Y z) eS28.symm) rfl ?_
                refine x_aload_n (q := 159) C 0 dX3_look_158 rfl rfl rfl ?_
                refine x_bipush (q := 161) C dX3_look_159 kb_6 rfl ?_
                refine x_iload (q := 163) C 5 dX3_look_161 rfl rfl ?_
                refine x_iload (q := 165) C 6 dX3_look_163 rfl rfl ?_
                obtain ⟨J179, eJ179, hf⟩ := lt_elim hf
                have hJ179 : ∀ (v29 : Int32), J179 v29 = some S' → xV p l e { frames := 1, cells := 0, slots := 0, locals := 22 } s m args below meth c D A (xQv D (xT y) A (fun (_ : Unit) => True) (fun _ : Unit => sC y bS aS Y S') 0 0 below args s) 10 (sC y bS aS Y S28) 0 0 [(2, .ref (aS (rk 12 p1.toNatClampNeg))), (5, .int v6), (8, .int v15), (9, .int v18)] 179 [.int v29, .int 6, .ref (aS (rk 12 p1.toNatClampNeg))] := by
                  intro v29 hf
                  subst eJ179
                  have hb30 : xin 6 9 = true := by decide
                  obtain ⟨S31, eS31, hf⟩ := lt_elim hf
                  refine x_iast (q := 180) (ws' := sC y bS aS Y S31) C 0 dX3_look_179 (aX3_r3 y bS aS Y S28 (xin_lt hb1)) rfl hb30 (congrArg (fun z => sC y bS aS Y z) eS31.symm) rfl ?_
                  refine x_aload_n (q := 181) C 0 dX3_look_180 rfl rfl rfl ?_
                  refine x_iconst (q := 182) C dX3_look_181 ki_5 rfl ?_
                  refine x_iconst (q := 183) C dX3_look_182 ki_3 rfl ?_
                  refine x_iload (q := 185) C 2 dX3_look_183 rfl rfl ?_
                  refine x_iload (q := 187) C 3 dX3_look_185 rfl rfl ?_
                  obtain ⟨J197, eJ197, hf⟩ := lt_elim hf
                  have hJ197 : ∀ (v32 : Int32), J197 v32 = some S' → xV p l e { frames := 1, cells := 0, slots := 0, locals := 22 } s m args below meth c D A (xQv D (xT y) A (fun (_ : Unit) => True) (fun _ : Unit => sC y bS aS Y S') 0 0 below args s) 10 (sC y bS aS Y S31) 0 0 [(2, .ref (aS (rk 12 p1.toNatClampNeg))), (5, .int v6)] 197 [.int v32, .int 3, .int 5, .ref (aS (rk 12 p1.toNatClampNeg))] := by
                    intro v32 hf
                    subst eJ197
                    refine x_iadd (q := 198) C dX3_look_197 rfl ?_
                    have hb33 : xin 5 9 = true := by decide
                    obtain ⟨S34, eS34, hf⟩ := lt_elim hf
                    refine x_iast (q := 199) (ws' := sC y bS aS Y S34) C 0 dX3_look_198 (aX3_r3 y bS aS Y S31 (xin_lt hb1)) rfl hb33 (congrArg (fun z => sC y bS aS Y z) eS34.symm) rfl ?_
                    refine x_aload_n (q := 200) C 0 dX3_look_199 rfl rfl rfl ?_
                    refine x_bipush (q := 202) C dX3_look_200 kb_7 rfl ?_
                    refine x_iload (q := 204) C 1 dX3_look_202 rfl rfl ?_
                    obtain ⟨S35, eS35, hf⟩ := lt_elim hf
                    refine x_iast (q := 205) (ws' := sC y bS aS Y S35) C 0 dX3_look_204 (aX3_r3 y bS aS Y S34 (xin_lt hb1)) rfl hb4 (congrArg (fun z => sC y bS aS Y z) eS35.symm) rfl ?_
                    have hf := Option.some.inj hf
                    exact x_vret () C dX3_look_205 rfl trivial (congrArg (fun z => sC y bS aS Y z) hf) (Nat.le_of_ble_eq_true rfl) (Nat.le_of_ble_eq_true rfl)
                  refine x_icmp_gt (t := 195) (q := 190) C dX3_look_187 (by decide) rfl (fun hc => ?_) (fun hc => ?_)
                  · have hf := (if_pos hc).symm.trans hf
                    refine x_iload (q := 197) C 3 dX3_look_195 rfl rfl ?_
                    refine x_sub [0, 1] (L' := [(2, .ref (aS (rk 12 p1.toNatClampNeg))), (5, .int v6)]) rfl ?_
                    exact hJ197 v18 hf
                  · have hf := (if_neg hc).symm.trans hf
                    refine x_iload (q := 192) C 2 dX3_look_190 rfl rfl ?_
                    refine x_goto (t := 197) C dX3_look_192 (by decide) ?_
                    refine x_sub [0, 1] (L' := [(2, .ref (aS (rk 12 p1.toNatClampNeg))), (5, .int v6)]) rfl ?_
                    exact hJ197 v15 hf
                refine x_icmp_gt (t := 175) (q := 168) C dX3_look_165 (by decide) rfl (fun hc => ?_) (fun hc => ?_)
                · have hf := (if_pos hc).symm.trans hf
                  refine x_aload (q := 177) C 4 dX3_look_175 rfl rfl ?_
                  refine x_iconst (q := 178) C dX3_look_177 ki_1 rfl ?_
                  refine x_iald (q := 179) C 0 dX3_look_178 (aX3_r1 y bS aS Y S28 (xin_lt hb10)) rfl hb16 rfl ?_
                  refine x_sub [0, 2, 5, 6] (L' := [(2, .ref (aS (rk 12 p1.toNatClampNeg))), (5, .int v6), (8, .int v15), (9, .int v18)]) rfl ?_
                  exact hJ179 (S28 (rk 10 (S (rk 11 (S (rk 13 p1.toNatClampNeg) v6.toNatClampNeg).toNatClampNeg) (0 : Int32).toNatClampNeg).toNatClampNeg) (1 : Int32).toNatClampNeg) hf
                · have hf := (if_neg hc).symm.trans hf
                  refine x_aload (q := 170) C 4 dX3_look_168 rfl rfl ?_
                  refine x_iconst (q := 171) C dX3_look_170 ki_0 rfl ?_
                  refine x_iald (q := 172) C 0 dX3_look_171 (aX3_r1 y bS aS Y S28 (xin_lt hb10)) rfl hb13 rfl ?_
                  refine x_goto (t := 179) C dX3_look_172 (by decide) ?_
                  refine x_sub [0, 2, 5, 6] (L' := [(2, .ref (aS (rk 12 p1.toNatClampNeg))), (5, .int v6), (8, .int v15), (9, .int v18)]) rfl ?_
                  exact hJ179 (S28 (rk 10 (S (rk 11 (S (rk 13 p1.toNatClampNeg) v6.toNatClampNeg).toNatClampNeg) (0 : Int32).toNatClampNeg).toNatClampNeg) (0 : Int32).toNatClampNeg) hf
            refine x_icmp_lt (t := 140) (q := 129) C dX3_look_126 (by decide) rfl (fun hc => ?_) (fun hc => ?_)
            · have hf := (if_pos hc).symm.trans hf
              refine x_sub [1, 2, 4, 5, 6, 7, 8] (L' := [(2, .ref (aS (rk 12 p1.toNatClampNeg))), (3, .ref (aS (rk 13 p1.toNatClampNeg))), (5, .int v6), (6, .ref (aS (rk 11 (S (rk 13 p1.toNatClampNeg) v6.toNatClampNeg).toNatClampNeg))), (7, .ref (aS (rk 10 (S (rk 11 (S (rk 13 p1.toNatClampNeg) v6.toNatClampNeg).toNatClampNeg) (0 : Int32).toNatClampNeg).toNatClampNeg))), (8, .int v15), (9, .int v18)]) rfl ?_
              exact hJ140 () hf
            · have hf := (if_neg hc).symm.trans hf
              refine x_iload (q := 131) C 8 dX3_look_129 rfl rfl ?_
              refine x_sipush (q := 134) C dX3_look_131 ks_1000 rfl ?_
              refine x_icmp_lt (t := 140) (q := 137) C dX3_look_134 (by decide) rfl (fun hc => ?_) (fun hc => ?_)
              · have hf := (if_pos hc).symm.trans hf
                refine x_sub [1, 2, 4, 5, 6, 7, 8] (L' := [(2, .ref (aS (rk 12 p1.toNatClampNeg))), (3, .ref (aS (rk 13 p1.toNatClampNeg))), (5, .int v6), (6, .ref (aS (rk 11 (S (rk 13 p1.toNatClampNeg) v6.toNatClampNeg).toNatClampNeg))), (7, .ref (aS (rk 10 (S (rk 11 (S (rk 13 p1.toNatClampNeg) v6.toNatClampNeg).toNatClampNeg) (0 : Int32).toNatClampNeg).toNatClampNeg))), (8, .int v15), (9, .int v18)]) rfl ?_
                exact hJ140 () hf
              · have hf := (if_neg hc).symm.trans hf
                refine x_goto (t := 206) C dX3_look_137 (by decide) ?_
                refine x_sub [0, 1, 2, 3] (L' := [(0, .ref bS), (2, .ref (aS (rk 12 p1.toNatClampNeg))), (3, .ref (aS (rk 13 p1.toNatClampNeg))), (4, .int v3)]) rfl ?_
                exact hJ206 () hf
set_option maxHeartbeats 4000000 in
set_option maxRecDepth 100000 in
theorem c5_look {l : Launch} {D : va_G} {y : Nat → ClassId} {bS : Nat} {aS : Nat → Nat} {Y : (Nat → Nat)} {S : St} {p1 : Int32} {S' : St} (hf : f5_look Y S p1 = some S') : xMv l yX3_look wsX3_look 1 22 0 0 D (xT y) [.ref bS, .int p1] (sC y bS aS Y S) (fun (_ : Unit) => True) (fun _ : Unit => sC y bS aS Y S') := by
  refine xMv_of (cc := cX3_look) (nL := 10) (ret := none) [(0, .ref bS), (1, .int p1)] (by decide) rfl (Nat.le_of_ble_eq_true rfl) rfl ?_
  intro p e s m args below meth c A C hin
  have C : xC p s m args meth c D A cX3_look RX3 10 wsX3_look (xT y) none := C
  unfold f5_look at hf
  refine x_aload_n (q := 1) C 0 dX3_look_0 rfl rfl rfl ?_
  refine x_get (q := 4) C 3 dX3_look_1 (oX3 y bS aS Y S) rfl iuX3_look_X3 flX3_look_21 rfl (by decide) rfl rfl ?_
  refine x_iload_n (q := 5) C 1 dX3_look_4 rfl rfl rfl ?_
  obtain ⟨hb1, hf⟩ := gd_some hf
  refine x_aald (q := 6) C 2 dX3_look_5 (gX3_3 y bS aS Y S) rfl rfl hb1 (if_pos (xin_lt hb1)) rfl ?_
  refine x_astore_n (q := 7) C [1, 2, 0] [(0, .ref bS), (1, .int p1), (2, .ref (aS (rk 12 p1.toNatClampNeg)))] dX3_look_6 rfl (by decide) rfl rfl ?_
  refine x_aload_n (q := 8) C 0 dX3_look_7 rfl rfl rfl ?_
  refine x_get (q := 11) C 4 dX3_look_8 (oX3 y bS aS Y S) rfl iuX3_look_X3 flX3_look_24 rfl (by decide) rfl rfl ?_
  refine x_iload_n (q := 12) C 1 dX3_look_11 rfl rfl rfl ?_
  obtain ⟨hb2, hf⟩ := gd_some hf
  refine x_aald (q := 13) C 2 dX3_look_12 (gX3_4 y bS aS Y S) rfl rfl hb2 (if_pos (xin_lt hb2)) rfl ?_
  refine x_astore_n (q := 14) C [1, 3, 0] [(0, .ref bS), (2, .ref (aS (rk 12 p1.toNatClampNeg))), (3, .ref (aS (rk 13 p1.toNatClampNeg)))] dX3_look_13 rfl (by decide) rfl rfl ?_
  refine x_iconst (q := 15) C dX3_look_14 ki_0 rfl ?_
  refine x_istore (q := 17) C [1, 2, 3, 0] [(0, .ref bS), (2, .ref (aS (rk 12 p1.toNatClampNeg))), (3, .ref (aS (rk 13 p1.toNatClampNeg))), (4, .int 0)] dX3_look_15 (by decide) rfl rfl ?_
  exact w5_look_L17 C hb1 hb2 xF 0 hf

/-! LampHillsLaw$Sim.pass()I -/
theorem kb_8 : (Int8.ofInt 8).toInt32 = 8 := by decide
theorem flX3_pass_14 : Cond.fieldLink RX3 14 "LampHillsLaw$Sim" "streets" "[[I" ∈ wsX3_pass := by decide +kernel
theorem flX3_pass_18 : Cond.fieldLink RX3 18 "LampHillsLaw$Sim" "lamps" "[[I" ∈ wsX3_pass := by decide +kernel
theorem flX3_pass_21 : Cond.fieldLink RX3 21 "LampHillsLaw$Sim" "lighters" "[[I" ∈ wsX3_pass := by decide +kernel
theorem flX3_pass_27 : Cond.fieldLink RX3 27 "LampHillsLaw$Sim" "wind" "[I" ∈ wsX3_pass := by decide +kernel
theorem flX3_pass_39 : Cond.fieldLink RX3 39 "LampHillsLaw$Sim" "minute" "I" ∈ wsX3_pass := by decide +kernel
theorem flX3_pass_55 : Cond.fieldLink RX3 55 "LampHillsLaw$Sim" "used" "I" ∈ wsX3_pass := by decide +kernel
theorem flX3_pass_7 : Cond.fieldLink RX3 7 "LampHillsLaw$Sim" "height" "[I" ∈ wsX3_pass := by decide +kernel
theorem iuX3_pass_X3 : ∀ w ∈ u_ws RX3 TX3 10, w ∈ wsX3_pass := fun _ h => List.mem_cons_of_mem _ (List.mem_append_right _ h)
theorem kmX3_pass_58 : ∀ w ∈ ([.methodLink RX3 58 Lib.Math.max.name, .static Lib.Math.max.name, .initialized "java/lang/Math", .code Lib.Math.max.name Lib.Math.max.code 2 (some .int)] : List Cond), w ∈ wsX3_pass := by decide +kernel
theorem yi_X3_look : xY yX3_look wsX3_look cX3_look 10 none 1 := ⟨⟨_, rfl⟩, by decide +kernel, by decide +kernel, by decide +kernel⟩
def f5_pass_L4 (Y : (Nat → Nat)) (K : Int32 → St → Option (Int32 × St)) : Nat → Int32 → Int32 → St → Option (Int32 × St)
  | 0, _, _, _ => none
  | fu + 1, v1, v2, S3 =>
  if (Int32.ofNat (Y 4)) ≤ v2 then
  (
    K v1 S3
  )
  else
  (
    gd (xin v2 (Y 4)) <|
    lt_ (fun (S8 : St) =>
    (
      lt_ (fun (v9 : Int32) (S10 : St) =>
      (
        f5_pass_L4 Y K fu v9 (v2 + 1) S10
      )
      ) fun J169 =>
      if 0 ≤ (S8 (rk 12 v2.toNatClampNeg) (4 : Int32).toNatClampNeg) then
      (
        lt_ (up2 S8 (rk 12 v2.toNatClampNeg) (5 : Int32).toNatClampNeg ((S8 (rk 12 v2.toNatClampNeg) (5 : Int32).toNatClampNeg) - 1)) fun S12 =>
        if (S12 (rk 12 v2.toNatClampNeg) (5 : Int32).toNatClampNeg) ≤ 0 then
        (
          gd (xin (S12 (rk 12 v2.toNatClampNeg) (4 : Int32).toNatClampNeg) (Y 3)) <|
          lt_ (v1 ||| (1 <<< ((S12 (rk 12 v2.toNatClampNeg) (4 : Int32).toNatClampNeg) &&& 31))) fun v14 =>
          lt_ (up2 S12 (rk 12 v2.toNatClampNeg) (1 : Int32).toNatClampNeg (S12 (rk 12 v2.toNatClampNeg) (6 : Int32).toNatClampNeg)) fun S17 =>
          lt_ (up2 S17 (rk 12 v2.toNatClampNeg) (4 : Int32).toNatClampNeg (-1)) fun S18 =>
          lt_ (fun (v21 : Int32) =>
          (
            lt_ (up2 S18 (rk 11 (S12 (rk 12 v2.toNatClampNeg) (4 : Int32).toNatClampNeg).toNatClampNeg) (3 : Int32).toNatClampNeg ((S18 (rk 11 (S12 (rk 12 v2.toNatClampNeg) (4 : Int32).toNatClampNeg).toNatClampNeg) (3 : Int32).toNatClampNeg) + v21)) fun S22 =>
            lt_ (up2 S22 (rk 12 v2.toNatClampNeg) (3 : Int32).toNatClampNeg ((S22 (rk 12 v2.toNatClampNeg) (3 : Int32).toNatClampNeg) - v21)) fun S23 =>
            lt_ (up2 S23 (rk 11 (S12 (rk 12 v2.toNatClampNeg) (4 : Int32).toNatClampNeg).toNatClampNeg) (4 : Int32).toNatClampNeg 0) fun S25 =>
            if (S25 (rk 11 (S12 (rk 12 v2.toNatClampNeg) (4 : Int32).toNatClampNeg).toNatClampNeg) (3 : Int32).toNatClampNeg) = 0 then
            (
              J169 v14 S25
            )
            else
            (
              lt_ (up2 S25 (rk 11 (S12 (rk 12 v2.toNatClampNeg) (4 : Int32).toNatClampNeg).toNatClampNeg) (5 : Int32).toNatClampNeg 1) fun S27 =>
              lt_ (up2 S27 (rk 11 (S12 (rk 12 v2.toNatClampNeg) (4 : Int32).toNatClampNeg).toNatClampNeg) (6 : Int32).toNatClampNeg ((S27 (rk 11 (S12 (rk 12 v2.toNatClampNeg) (4 : Int32).toNatClampNeg).toNatClampNeg) (6 : Int32).toNatClampNeg) + 1)) fun S29 =>
              lt_ (up2 S29 (rk 12 v2.toNatClampNeg) (8 : Int32).toNatClampNeg ((S29 (rk 12 v2.toNatClampNeg) (8 : Int32).toNatClampNeg) + 1)) fun S31 =>
              J169 v14 S31
            )
          )
          ) fun J113 =>
          if (S18 (rk 12 v2.toNatClampNeg) (3 : Int32).toNatClampNeg) ≤ (300 - (S18 (rk 11 (S12 (rk 12 v2.toNatClampNeg) (4 : Int32).toNatClampNeg).toNatClampNeg) (3 : Int32).toNatClampNeg)) then
          (
            J113 (S18 (rk 12 v2.toNatClampNeg) (3 : Int32).toNatClampNeg)
          )
          else
          (
            J113 (300 - (S18 (rk 11 (S12 (rk 12 v2.toNatClampNeg) (4 : Int32).toNatClampNeg).toNatClampNeg) (3 : Int32).toNatClampNeg))
          )
        )
        else
        (
          J169 v1 S12
        )
      )
      else
      (
        J169 v1 S8
      )
    )
    ) fun J31 =>
    if 0 ≤ (S3 (rk 12 v2.toNatClampNeg) (4 : Int32).toNatClampNeg) then
    (
      J31 S3
    )
    else
    (
      bd (f5_look Y S3 v2) fun S32 =>
      J31 S32
    )
  )
def f5_pass_L186 (v34 : Int32) (Y : (Nat → Nat)) (K : St → Option (Int32 × St)) : Nat → Int32 → St → Option (Int32 × St)
  | 0, _, _ => none
  | fu + 1, v35, S36 =>
  if v34 ≤ v35 then
  (
    K S36
  )
  else
  (
    gd (xin v35 (Y 3)) <|
    lt_ (fun (S40 : St) =>
    (
      f5_pass_L186 v34 Y K fu (v35 + 1) S40
    )
    ) fun J298 =>
    if (S36 (rk 11 v35.toNatClampNeg) (5 : Int32).toNatClampNeg) = 0 then
    (
      J298 S36
    )
    else
    (
      lt_ (fun (v42 : Int32) =>
      (
        lt_ (up2 S36 (rk 11 v35.toNatClampNeg) (3 : Int32).toNatClampNeg ((S36 (rk 11 v35.toNatClampNeg) (3 : Int32).toNatClampNeg) - v42)) fun S44 =>
        lt_ (up2 S44 9 0 ((S44 9 0) + v42)) fun S45 =>
        lt_ (fun (S46 : St) =>
        (
          if (S46 (rk 11 v35.toNatClampNeg) (5 : Int32).toNatClampNeg) = 1 then
          (
            if ((S46 7 0) - (S46 7 0) / 30 * 30) = 0 then
            (
              if 9 ≤ (S46 (rk 11 v35.toNatClampNeg) (4 : Int32).toNatClampNeg) then
              (
                J298 S46
              )
              else
              (
                lt_ (up2 S46 (rk 11 v35.toNatClampNeg) (4 : Int32).toNatClampNeg ((S46 (rk 11 v35.toNatClampNeg) (4 : Int32).toNatClampNeg) + 1)) fun S47 =>
                J298 S47
              )
            )
            else
            (
              J298 S46
            )
          )
          else
          (
            J298 S46
          )
        )
        ) fun J263 =>
        if (S45 (rk 11 v35.toNatClampNeg) (3 : Int32).toNatClampNeg) = 0 then
        (
          lt_ (up2 S45 (rk 11 v35.toNatClampNeg) (5 : Int32).toNatClampNeg 0) fun S48 =>
          J263 S48
        )
        else
        (
          J263 S45
        )
      )
      ) fun J229 =>
      lt_ (fun (u_ : Unit) =>
      (
        J229 1
      )
      ) fun J228 =>
      if (S36 (rk 11 v35.toNatClampNeg) (4 : Int32).toNatClampNeg) ≤ 4 then
      (
        J228 ()
      )
      else
      (
        if (S36 (rk 11 v35.toNatClampNeg) (3 : Int32).toNatClampNeg) ≤ 1 then
        (
          J228 ()
        )
        else
        (
          J229 2
        )
      )
    )
  )
def f5_pass_L315 (v50 : Int32) (Y : (Nat → Nat)) (K : St → Option (Int32 × St)) : Nat → Int32 → St → Option (Int32 × St)
  | 0, _, _ => none
  | fu + 1, v51, S52 =>
  if v50 ≤ v51 then
  (
    K S52
  )
  else
  (
    gd (xin v51 (Y 3)) <|
    gd (xin (S52 (rk 11 v51.toNatClampNeg) (0 : Int32).toNatClampNeg) (Y 2)) <|
    gd (xin (S52 (rk 10 (S52 (rk 11 v51.toNatClampNeg) (0 : Int32).toNatClampNeg).toNatClampNeg) (0 : Int32).toNatClampNeg) (Y 1)) <|
    gd (xin (S52 (rk 10 (S52 (rk 11 v51.toNatClampNeg) (0 : Int32).toNatClampNeg).toNatClampNeg) (1 : Int32).toNatClampNeg) (Y 1)) <|
    lt_ (if (S52 1 (S52 (rk 10 (S52 (rk 11 v51.toNatClampNeg) (0 : Int32).toNatClampNeg).toNatClampNeg) (0 : Int32).toNatClampNeg).toNatClampNeg) < (S52 1 (S52 (rk 10 (S52 (rk 11 v51.toNatClampNeg) (0 : Int32).toNatClampNeg).toNatClampNeg) (1 : Int32).toNatClampNeg).toNatClampNeg) then (S52 1 (S52 (rk 10 (S52 (rk 11 v51.toNatClampNeg) (0 : Int32).toNatClampNeg).toNatClampNeg) (1 : Int32).toNatClampNeg).toNatClampNeg) else (S52 1 (S52 (rk 10 (S52 (rk 11 v51.toNatClampNeg) (0 : Int32).toNatClampNeg).toNatClampNeg) (0 : Int32).toNatClampNeg).toNatClampNeg)) fun v61 =>
    lt_ (fun (S63 : St) =>
    (
      f5_pass_L315 v50 Y K fu (v51 + 1) S63
    )
    ) fun J425 =>
    if (S52 (rk 11 v51.toNatClampNeg) (5 : Int32).toNatClampNeg) = 0 then
    (
      J425 S52
    )
    else
    (
      if ((S52 7 0) - (S52 7 0) / 10 * 10) = 0 then
      (
        gd (xin ((S52 7 0) / 60) 10) <|
        if ((S52 (rk 11 v51.toNatClampNeg) (2 : Int32).toNatClampNeg) + 5) ≤ ((S52 6 ((S52 7 0) / 60).toNatClampNeg) + (v61 / 10)) then
        (
          lt_ (up2 S52 (rk 11 v51.toNatClampNeg) (5 : Int32).toNatClampNeg 0) fun S66 =>
          lt_ (up2 S66 (rk 11 v51.toNatClampNeg) (7 : Int32).toNatClampNeg ((S66 (rk 11 v51.toNatClampNeg) (7 : Int32).toNatClampNeg) + 1)) fun S68 =>
          J425 S68
        )
        else
        (
          J425 S52
        )
      )
      else
      (
        J425 S52
      )
    )
  )
def f5_pass (Y : (Nat → Nat)) (S : St) : Option (Int32 × St) :=
  f5_pass_L4 Y (fun (v4 : Int32) (S5 : St) =>
  (
    lt_ (Int32.ofNat (Y 3)) fun v34 =>
    f5_pass_L186 v34 Y (fun (S37 : St) =>
    (
      lt_ (Int32.ofNat (Y 3)) fun v50 =>
      f5_pass_L315 v50 Y (fun (S53 : St) =>
      (
        lt_ (up2 S53 7 0 ((S53 7 0) + 1)) fun S69 =>
        some (v4, S69)
      )
      ) xF 0 S37
    )
    ) xF 0 S5
  )
  ) xF 0 0 S
set_option maxHeartbeats 4000000 in
set_option maxRecDepth 100000 in
theorem w5_pass_L4 {p : Program} {l : Launch} {e : Env} {s : State} {m : MethodId} {args : Array Value} {below : List Frame} {meth : Method} {c : Code} {D : va_G} {A : Nat → Prop} {y : Nat → ClassId} {bS : Nat} {aS : Nat → Nat} {Y : (Nat → Nat)} {r : Int32} {S' : St} {K : Int32 → St → Option (Int32 × St)} (C : xC p s m args meth c D A cX3_pass RX3 7 wsX3_pass (xT y) (some .int)) (hK : ∀ (v4 : Int32) (S5 : St), K v4 S5 = some (r, S') → xV p l e { frames := 2, cells := 0, slots := 0, locals := 51 } s m args below meth c D A (xQi D (xT y) A (fun (r' : Int32) (_ : Unit) => r' = r) (fun _ : Unit => sC y bS aS Y S') 0 0 below args s) 7 (sC y bS aS Y S5) 0 0 [(0, .ref bS), (1, .int v4)] 175 []) : ∀ (fu : Nat) (v1 : Int32) (v2 : Int32) (S3 : St), f5_pass_L4 Y K fu v1 v2 S3 = some (r, S') → xV p l e { frames := 2, cells := 0, slots := 0, locals := 51 } s m args below meth c D A (xQi D (xT y) A (fun (r' : Int32) (_ : Unit) => r' = r) (fun _ : Unit => sC y bS aS Y S') 0 0 below args s) 7 (sC y bS aS Y S3) 0 0 [(0, .ref bS), (1, .int v1), (2, .int v2)] 4 [] := by
  intro fu
  induction fu with
  | zero => intro v1 v2 S3 hf; rw [f5_pass_L4] at hf; cases hf
  | succ fu ih =>
    intro v1 v2 S3 hf
    rw [f5_pass_L4] at hf
    refine x_iload_n (q := 5) C 2 dX3_pass_4 rfl rfl rfl ?_
    refine x_aload_n (q := 6) C 0 dX3_pass_5 rfl rfl rfl ?_
    refine x_get (q := 9) C 3 dX3_pass_6 (oX3 y bS aS Y S3) rfl iuX3_pass_X3 flX3_pass_21 rfl (by decide) rfl rfl ?_
    refine x_alenr (q := 10) C 2 dX3_pass_9 (gX3_3 y bS aS Y S3) rfl rfl ?_
    refine x_icmp_ge (t := 175) (q := 13) C dX3_pass_10 (by decide) rfl (fun hc => ?_) (fun hc => ?_)
    · have hf := (if_pos hc).symm.trans hf
      refine x_sub [0, 1] (L' := [(0, .ref bS), (1, .int v1)]) rfl ?_
      exact hK v1 S3 hf
    · have hf := (if_neg hc).symm.trans hf
      refine x_aload_n (q := 14) C 0 dX3_pass_13 rfl rfl rfl ?_
      refine x_get (q := 17) C 3 dX3_pass_14 (oX3 y bS aS Y S3) rfl iuX3_pass_X3 flX3_pass_21 rfl (by decide) rfl rfl ?_
      refine x_iload_n (q := 18) C 2 dX3_pass_17 rfl rfl rfl ?_
      obtain ⟨hb6, hf⟩ := gd_some hf
      refine x_aald (q := 19) C 2 dX3_pass_18 (gX3_3 y bS aS Y S3) rfl rfl hb6 (if_pos (xin_lt hb6)) rfl ?_
      refine x_astore_n (q := 20) C [1, 2, 3, 0] [(0, .ref bS), (1, .int v1), (2, .int v2), (3, .ref (aS (rk 12 v2.toNatClampNeg)))] dX3_pass_19 rfl (by decide) rfl rfl ?_
      refine x_aload_n (q := 21) C 3 dX3_pass_20 rfl rfl rfl ?_
      refine x_iconst (q := 22) C dX3_pass_21 ki_4 rfl ?_
      have hb7 : xin 4 9 = true := by decide
      refine x_iald (q := 23) C 0 dX3_pass_22 (aX3_r3 y bS aS Y S3 (xin_lt hb6)) rfl hb7 rfl ?_
      obtain ⟨J31, eJ31, hf⟩ := lt_elim hf
      have hJ31 : ∀ (S8 : St), J31 S8 = some (r, S') → xV p l e { frames := 2, cells := 0, slots := 0, locals := 51 } s m args below meth c D A (xQi D (xT y) A (fun (r' : Int32) (_ : Unit) => r' = r) (fun _ : Unit => sC y bS aS Y S') 0 0 below args s) 7 (sC y bS aS Y S8) 0 0 [(0, .ref bS), (1, .int v1), (2, .int v2), (3, .ref (aS (rk 12 v2.toNatClampNeg)))] 31 [] := by
        intro S8 hf
        subst eJ31
        refine x_aload_n (q := 32) C 3 dX3_pass_31 rfl rfl rfl ?_
        refine x_iconst (q := 33) C dX3_pass_32 ki_4 rfl ?_
        refine x_iald (q := 34) C 0 dX3_pass_33 (aX3_r3 y bS aS Y S8 (xin_lt hb6)) rfl hb7 rfl ?_
        obtain ⟨J169, eJ169, hf⟩ := lt_elim hf
        have hJ169 : ∀ (v9 : Int32) (S10 : St), J169 v9 S10 = some (r, S') → xV p l e { frames := 2, cells := 0, slots := 0, locals := 51 } s m args below meth c D A (xQi D (xT y) A (fun (r' : Int32) (_ : Unit) => r' = r) (fun _ : Unit => sC y bS aS Y S') 0 0 below args s) 7 (sC y bS aS Y S10) 0 0 [(0, .ref bS), (1, .int v9), (2, .int v2)] 169 [] := by
          intro v9 S10 hf
          subst eJ169
          refine x_iinc (q := 172) C 2 (v2 + 1) [1, 2, 0] [(0, .ref bS), (1, .int v9), (2, .int (v2 + 1))] dX3_pass_169 rfl (congrArg (fun z => v2 + z) ki_1) (by decide) rfl rfl ?_
          refine x_goto (t := 4) C dX3_pass_172 (by decide) ?_
          exact ih v9 (v2 + 1) S10 hf
        refine x_if_ge (t := 40) (q := 37) C dX3_pass_34 (by decide) rfl (fun hc => ?_) (fun hc => ?_)
        · have hf := (if_pos hc).symm.trans hf
          refine x_aload_n (q := 41) C 3 dX3_pass_40 rfl rfl rfl ?_
          refine x_iconst (q := 42) C dX3_pass_41 ki_5 rfl ?_
          refine x_dup2 (q := 43) C dX3_pass_42 rfl rfl rfl ?_
          have hb11 : xin 5 9 = true := by decide
          refine x_iald (q := 44) C 0 dX3_pass_43 (aX3_r3 y bS aS Y S8 (xin_lt hb6)) rfl hb11 rfl ?_
          refine x_iconst (q := 45) C dX3_pass_44 ki_1 rfl ?_
          refine x_isub (q := 46) C dX3_pass_45 rfl ?_
          obtain ⟨S12, eS12, hf⟩ := lt_elim hf
          refine x_iast (q := 47) (ws' := sC y bS aS Y S12) C 0 dX3_pass_46 (aX3_r3 y bS aS Y S8 (xin_lt hb6)) rfl hb11 (congrArg (fun z => sC y bS aS Y z) eS12.symm) rfl ?_
          refine x_aload_n (q := 48) C 3 dX3_pass_47 rfl rfl rfl ?_
          refine x_iconst (q := 49) C dX3_pass_48 ki_5 rfl ?_
          refine x_iald (q := 50) C 0 dX3_pass_49 (aX3_r3 y bS aS Y S12 (xin_lt hb6)) rfl hb11 rfl ?_
          refine x_if_le (t := 56) (q := 53) C dX3_pass_50 (by decide) rfl (fun hc => ?_) (fun hc => ?_)
          · have hf := (if_pos hc).symm.trans hf
            refine x_aload_n (q := 57) C 0 dX3_pass_56 rfl rfl rfl ?_
            refine x_get (q := 60) C 2 dX3_pass_57 (oX3 y bS aS Y S12) rfl iuX3_pass_X3 flX3_pass_18 rfl (by decide) rfl rfl ?_
            refine x_aload_n (q := 61) C 3 dX3_pass_60 rfl rfl rfl ?_
            refine x_iconst (q := 62) C dX3_pass_61 ki_4 rfl ?_
            refine x_iald (q := 63) C 0 dX3_pass_62 (aX3_r3 y bS aS Y S12 (xin_lt hb6)) rfl hb7 rfl ?_
            obtain ⟨hb13, hf⟩ := gd_some hf
            refine x_aald (q := 64) C 2 dX3_pass_63 (gX3_2 y bS aS Y S12) rfl rfl hb13 (if_pos (xin_lt hb13)) rfl ?_
            refine x_astore (q := 66) C [1, 2, 3, 4, 0] [(0, .ref bS), (1, .int v1), (2, .int v2), (3, .ref (aS (rk 12 v2.toNatClampNeg))), (4, .ref (aS (rk 11 (S12 (rk 12 v2.toNatClampNeg) (4 : Int32).toNatClampNeg).toNatClampNeg)))] dX3_pass_64 (by decide) rfl rfl ?_
            refine x_iload_n (q := 67) C 1 dX3_pass_66 rfl rfl rfl ?_
            refine x_iconst (q := 68) C dX3_pass_67 ki_1 rfl ?_
            refine x_aload_n (q := 69) C 3 dX3_pass_68 rfl rfl rfl ?_
            refine x_iconst (q := 70) C dX3_pass_69 ki_4 rfl ?_
            refine x_iald (q := 71) C 0 dX3_pass_70 (aX3_r3 y bS aS Y S12 (xin_lt hb6)) rfl hb7 rfl ?_
            refine x_ishl (q := 72) C dX3_pass_71 rfl ?_
            refine x_ior (q := 73) C dX3_pass_72 rfl ?_
            obtain ⟨v14, ev14, hf⟩ := lt_elim hf
            refine x_topi ev14 ?_
            refine x_istore_n (q := 74) C [1, 0, 2, 3, 4] [(0, .ref bS), (1, .int v14), (2, .int v2), (3, .ref (aS (rk 12 v2.toNatClampNeg))), (4, .ref (aS (rk 11 (S12 (rk 12 v2.toNatClampNeg) (4 : Int32).toNatClampNeg).toNatClampNeg)))] dX3_pass_73 rfl (by decide) rfl rfl ?_
            refine x_aload_n (q := 75) C 3 dX3_pass_74 rfl rfl rfl ?_
            refine x_iconst (q := 76) C dX3_pass_75 ki_1 rfl ?_
            refine x_aload_n (q := 77) C 3 dX3_pass_76 rfl rfl rfl ?_
            refine x_bipush (q := 79) C dX3_pass_77 kb_6 rfl ?_
            have hb15 : xin 6 9 = true := by decide
            refine x_iald (q := 80) C 0 dX3_pass_79 (aX3_r3 y bS aS Y S12 (xin_lt hb6)) rfl hb15 rfl ?_
            have hb16 : xin 1 9 = true := by decide
            obtain ⟨S17, eS17, hf⟩ := lt_elim hf
            refine x_iast (q := 81) (ws' := sC y bS aS Y S17) C 0 dX3_pass_80 (aX3_r3 y bS aS Y S12 (xin_lt hb6)) rfl hb16 (congrArg (fun z => sC y bS aS Y z) eS17.symm) rfl ?_
            refine x_aload_n (q := 82) C 3 dX3_pass_81 rfl rfl rfl ?_
            refine x_iconst (q := 83) C dX3_pass_82 ki_4 rfl ?_
            refine x_iconst (q := 84) C dX3_pass_83 ki_m1 rfl ?_
            obtain ⟨S18, eS18, hf⟩ := lt_elim hf
            refine x_iast (q := 85) (ws' := sC y bS aS Y S18) C 0 dX3_pass_84 (aX3_r3 y bS aS Y S17 (xin_lt hb6)) rfl hb7 (congrArg (fun z => sC y bS aS Y z) eS18.symm) rfl ?_
            refine x_sipush (q := 88) C dX3_pass_85 ks_300 rfl ?_
            refine x_aload (q := 90) C 4 dX3_pass_88 rfl rfl ?_
            refine x_iconst (q := 91) C dX3_pass_90 ki_3 rfl ?_
            have hb19 : xin 3 8 = true := by decide
            refine x_iald (q := 92) C 0 dX3_pass_91 (aX3_r2 y bS aS Y S18 (xin_lt hb13)) rfl hb19 rfl ?_
            refine x_isub (q := 93) C dX3_pass_92 rfl ?_
            refine x_aload_n (q := 94) C 3 dX3_pass_93 rfl rfl rfl ?_
            refine x_iconst (q := 95) C dX3_pass_94 ki_3 rfl ?_
            have hb20 : xin 3 9 = true := by decide
            refine x_iald (q := 96) C 0 dX3_pass_95 (aX3_r3 y bS aS Y S18 (xin_lt hb6)) rfl hb20 rfl ?_
            obtain ⟨J113, eJ113, hf⟩ := lt_elim hf
            have hJ113 : ∀ (v21 : Int32), J113 v21 = some (r, S') → xV p l e { frames := 2, cells := 0, slots := 0, locals := 51 } s m args below meth c D A (xQi D (xT y) A (fun (r' : Int32) (_ : Unit) => r' = r) (fun _ : Unit => sC y bS aS Y S') 0 0 below args s) 7 (sC y bS aS Y S18) 0 0 [(0, .ref bS), (1, .int v14), (2, .int v2), (3, .ref (aS (rk 12 v2.toNatClampNeg))), (4, .ref (aS (rk 11 (S12 (rk 12 v2.toNatClampNeg) (4 : Int32).toNatClampNeg).toNatClampNeg)))] 113 [.int v21] := by
              intro v21 hf
              subst eJ113
              refine x_istore (q := 115) C [1, 2, 3, 4, 5, 0] [(0, .ref bS), (1, .int v14), (2, .int v2), (3, .ref (aS (rk 12 v2.toNatClampNeg))), (4, .ref (aS (rk 11 (S12 (rk 12 v2.toNatClampNeg) (4 : Int32).toNatClampNeg).toNatClampNeg))), (5, .int v21)] dX3_pass_113 (by decide) rfl rfl ?_
              refine x_aload (q := 117) C 4 dX3_pass_115 rfl rfl ?_
              refine x_iconst (q := 118) C dX3_pass_117 ki_3 rfl ?_
              refine x_dup2 (q := 119) C dX3_pass_118 rfl rfl rfl ?_
              refine x_iald (q := 120) C 0 dX3_pass_119 (aX3_r2 y bS aS Y S18 (xin_lt hb13)) rfl hb19 rfl ?_
              refine x_iload (q := 122) C 5 dX3_pass_120 rfl rfl ?_
              refine x_iadd (q := 123) C dX3_pass_122 rfl ?_
              obtain ⟨S22, eS22, hf⟩ := lt_elim hf
              refine x_iast (q := 124) (ws' := sC y bS aS Y S22) C 0 dX3_pass_123 (aX3_r2 y bS aS Y S18 (xin_lt hb13)) rfl hb19 (congrArg (fun z => sC y bS aS Y z) eS22.symm) rfl ?_
              refine x_aload_n (q := 125) C 3 dX3_pass_124 rfl rfl rfl ?_
              refine x_iconst (q := 126) C dX3_pass_125 ki_3 rfl ?_
              refine x_dup2 (q := 127) C dX3_pass_126 rfl rfl rfl ?_
              refine x_iald (q := 128) C 0 dX3_pass_127 (aX3_r3 y bS aS Y S22 (xin_lt hb6)) rfl hb20 rfl ?_
              refine x_iload (q := 130) C 5 dX3_pass_128 rfl rfl ?_
              refine x_isub (q := 131) C dX3_pass_130 rfl ?_
              obtain ⟨S23, eS23, hf⟩ := lt_elim hf
              refine x_iast (q := 132) (ws' := sC y bS aS Y S23) C 0 dX3_pass_131 (aX3_r3 y bS aS Y S22 (xin_lt hb6)) rfl hb20 (congrArg (fun z => sC y bS aS Y z) eS23.symm) rfl ?_
              refine x_aload (q := 134) C 4 dX3_pass_132 rfl rfl ?_
              refine x_iconst (q := 135) C dX3_pass_134 ki_4 rfl ?_
              refine x_iconst (q := 136) C dX3_pass_135 ki_0 rfl ?_
              have hb24 : xin 4 8 = true := by decide
              obtain ⟨S25, eS25, hf⟩ := lt_elim hf
              refine x_iast (q := 137) (ws' := sC y bS aS Y S25) C 0 dX3_pass_136 (aX3_r2 y bS aS Y S23 (xin_lt hb13)) rfl hb24 (congrArg (fun z => sC y bS aS Y z) eS25.symm) rfl ?_
              refine x_aload (q := 139) C 4 dX3_pass_137 rfl rfl ?_
              refine x_iconst (q := 140) C dX3_pass_139 ki_3 rfl ?_
              refine x_iald (q := 141) C 0 dX3_pass_140 (aX3_r2 y bS aS Y S25 (xin_lt hb13)) rfl hb19 rfl ?_
              refine x_if_ne (t := 147) (q := 144) C dX3_pass_141 (by decide) rfl (fun hc => ?_) (fun hc => ?_)
              · have hf := (if_neg hc).symm.trans hf
                refine x_aload (q := 149) C 4 dX3_pass_147 rfl rfl ?_
                refine x_iconst (q := 150) C dX3_pass_149 ki_5 rfl ?_
                refine x_iconst (q := 151) C dX3_pass_150 ki_1 rfl ?_
                have hb26 : xin 5 8 = true := by decide
                obtain ⟨S27, eS27, hf⟩ := lt_elim hf
                refine x_iast (q := 152) (ws' := sC y bS aS Y S27) C 0 dX3_pass_151 (aX3_r2 y bS aS Y S25 (xin_lt hb13)) rfl hb26 (congrArg (fun z => sC y bS aS Y z) eS27.symm) rfl ?_
                refine x_aload (q := 154) C 4 dX3_pass_152 rfl rfl ?_
                refine x_bipush (q := 156) C dX3_pass_154 kb_6 rfl ?_
                refine x_dup2 (q := 157) C dX3_pass_156 rfl rfl rfl ?_
                have hb28 : xin 6 8 = true := by decide
                refine x_iald (q := 158) C 0 dX3_pass_157 (aX3_r2 y bS aS Y S27 (xin_lt hb13)) rfl hb28 rfl ?_
                refine x_iconst (q := 159) C dX3_pass_158 ki_1 rfl ?_
                refine x_iadd (q := 160) C dX3_pass_159 rfl ?_
                obtain ⟨S29, eS29, hf⟩ := lt_elim hf
                refine x_iast (q := 161) (ws' := sC y bS aS Y S29) C 0 dX3_pass_160 (aX3_r2 y bS aS Y S27 (xin_lt hb13)) rfl hb28 (congrArg (fun z => sC y bS aS Y z) eS29.symm) rfl ?_
                refine x_aload_n (q := 162) C 3 dX3_pass_161 rfl rfl rfl ?_
                refine x_bipush (q := 164) C dX3_pass_162 kb_8 rfl ?_
                refine x_dup2 (q := 165) C dX3_pass_164 rfl rfl rfl ?_
                have hb30 : xin 8 9 = true := by decide
                refine x_iald (q := 166) C 0 dX3_pass_165 (aX3_r3 y bS aS Y S29 (xin_lt hb6)) rfl hb30 rfl ?_
                refine x_iconst (q := 167) C dX3_pass_166 ki_1 rfl ?_
                refine x_iadd (q := 168) C dX3_pass_167 rfl ?_
                obtain ⟨S31, eS31, hf⟩ := lt_elim hf
                refine x_iast (q := 169) (ws' := sC y bS aS Y S31) C 0 dX3_pass_168 (aX3_r3 y bS aS Y S29 (xin_lt hb6)) rfl hb30 (congrArg (fun z => sC y bS aS Y z) eS31.symm) rfl ?_
                refine x_sub [0, 1, 2] (L' := [(0, .ref bS), (1, .int v14), (2, .int v2)]) rfl ?_
                exact hJ169 v14 S31 hf
              · have hf := (if_pos hc).symm.trans hf
                refine x_goto (t := 169) C dX3_pass_144 (by decide) ?_
                refine x_sub [0, 1, 2] (L' := [(0, .ref bS), (1, .int v14), (2, .int v2)]) rfl ?_
                exact hJ169 v14 S25 hf
            refine x_icmp_ge (t := 110) (q := 99) C dX3_pass_96 (by decide) rfl (fun hc => ?_) (fun hc => ?_)
            · have hf := (if_pos hc).symm.trans hf
              refine x_aload_n (q := 111) C 3 dX3_pass_110 rfl rfl rfl ?_
              refine x_iconst (q := 112) C dX3_pass_111 ki_3 rfl ?_
              refine x_iald (q := 113) C 0 dX3_pass_112 (aX3_r3 y bS aS Y S18 (xin_lt hb6)) rfl hb20 rfl ?_
              exact hJ113 (S18 (rk 12 v2.toNatClampNeg) (3 : Int32).toNatClampNeg) hf
            · have hf := (if_neg hc).symm.trans hf
              refine x_sipush (q := 102) C dX3_pass_99 ks_300 rfl ?_
              refine x_aload (q := 104) C 4 dX3_pass_102 rfl rfl ?_
              refine x_iconst (q := 105) C dX3_pass_104 ki_3 rfl ?_
              refine x_iald (q := 106) C 0 dX3_pass_105 (aX3_r2 y bS aS Y S18 (xin_lt hb13)) rfl hb19 rfl ?_
              refine x_isub (q := 107) C dX3_pass_106 rfl ?_
              refine x_goto (t := 113) C dX3_pass_107 (by decide) ?_
              exact hJ113 (300 - (S18 (rk 11 (S12 (rk 12 v2.toNatClampNeg) (4 : Int32).toNatClampNeg).toNatClampNeg) (3 : Int32).toNatClampNeg)) hf
          · have hf := (if_neg hc).symm.trans hf
            refine x_goto (t := 169) C dX3_pass_53 (by decide) ?_
            refine x_sub [0, 1, 2] (L' := [(0, .ref bS), (1, .int v1), (2, .int v2)]) rfl ?_
            exact hJ169 v1 S12 hf
        · have hf := (if_neg hc).symm.trans hf
          refine x_goto (t := 169) C dX3_pass_37 (by decide) ?_
          refine x_sub [0, 1, 2] (L' := [(0, .ref bS), (1, .int v1), (2, .int v2)]) rfl ?_
          exact hJ169 v1 S8 hf
      refine x_if_ge (t := 31) (q := 26) C dX3_pass_23 (by decide) rfl (fun hc => ?_) (fun hc => ?_)
      · have hf := (if_pos hc).symm.trans hf
        exact hJ31 S3 hf
      · have hf := (if_neg hc).symm.trans hf
        refine x_aload_n (q := 27) C 0 dX3_pass_26 rfl rfl rfl ?_
        refine x_iload_n (q := 28) C 2 dX3_pass_27 rfl rfl rfl ?_
        obtain ⟨S32, hcal33, hf⟩ := bd_some hf
        refine x_callVv (q := 31) C (c5_look (l := l) (D := D) (y := y) (bS := bS) (aS := aS) hcal33) yi_X3_look gX3_pass_X3_look rfl (oX3 y bS aS Y S3) rfl ⟨(Nat.le_of_ble_eq_true rfl), (Nat.le_of_ble_eq_true rfl)⟩ dX3_pass_28 pm_nil rfl rfl (Nat.le_of_ble_eq_true rfl) ⟨Nat.le_of_ble_eq_true rfl, Nat.le_of_ble_eq_true rfl⟩ rfl ?_
        intro uu hrr
        refine x_world (ws' := sC y bS aS Y S32) (List.append_nil _) ?_
        exact hJ31 S32 hf
set_option maxHeartbeats 4000000 in
set_option maxRecDepth 100000 in
theorem w5_pass_L186 {p : Program} {l : Launch} {e : Env} {s : State} {m : MethodId} {args : Array Value} {below : List Frame} {meth : Method} {c : Code} {D : va_G} {A : Nat → Prop} {y : Nat → ClassId} {bS : Nat} {aS : Nat → Nat} {Y : (Nat → Nat)} {v4 : Int32} {v34 : Int32} {r : Int32} {S' : St} {K : St → Option (Int32 × St)} (C : xC p s m args meth c D A cX3_pass RX3 7 wsX3_pass (xT y) (some .int)) (hK : ∀ (S37 : St), K S37 = some (r, S') → xV p l e { frames := 2, cells := 0, slots := 0, locals := 51 } s m args below meth c D A (xQi D (xT y) A (fun (r' : Int32) (_ : Unit) => r' = r) (fun _ : Unit => sC y bS aS Y S') 0 0 below args s) 7 (sC y bS aS Y S37) 0 0 [(0, .ref bS), (1, .int v4)] 304 []) : ∀ (fu : Nat) (v35 : Int32) (S36 : St), f5_pass_L186 v34 Y K fu v35 S36 = some (r, S') → xV p l e { frames := 2, cells := 0, slots := 0, locals := 51 } s m args below meth c D A (xQi D (xT y) A (fun (r' : Int32) (_ : Unit) => r' = r) (fun _ : Unit => sC y bS aS Y S') 0 0 below args s) 7 (sC y bS aS Y S36) 0 0 [(0, .ref bS), (1, .int v4), (2, .ref (aS 3)), (3, .int v34), (4, .int v35)] 186 [] := by
  intro fu
  induction fu with
  | zero => intro v35 S36 hf; rw [f5_pass_L186] at hf; cases hf
  | succ fu ih =>
    intro v35 S36 hf
    rw [f5_pass_L186] at hf
    refine x_iload (q := 188) C 4 dX3_pass_186 rfl rfl ?_
    refine x_iload_n (q := 189) C 3 dX3_pass_188 rfl rfl rfl ?_
    refine x_icmp_ge (t := 304) (q := 192) C dX3_pass_189 (by decide) rfl (fun hc => ?_) (fun hc => ?_)
    · have hf := (if_pos hc).symm.trans hf
      refine x_sub [0, 1] (L' := [(0, .ref bS), (1, .int v4)]) rfl ?_
      exact hK S36 hf
    · have hf := (if_neg hc).symm.trans hf
      refine x_aload_n (q := 193) C 2 dX3_pass_192 rfl rfl rfl ?_
      refine x_iload (q := 195) C 4 dX3_pass_193 rfl rfl ?_
      obtain ⟨hb38, hf⟩ := gd_some hf
      refine x_aald (q := 196) C 2 dX3_pass_195 (gX3_2 y bS aS Y S36) rfl rfl hb38 (if_pos (xin_lt hb38)) rfl ?_
      refine x_astore (q := 198) C [1, 2, 3, 4, 5, 0] [(0, .ref bS), (1, .int v4), (2, .ref (aS 3)), (3, .int v34), (4, .int v35), (5, .ref (aS (rk 11 v35.toNatClampNeg)))] dX3_pass_196 (by decide) rfl rfl ?_
      refine x_aload (q := 200) C 5 dX3_pass_198 rfl rfl ?_
      refine x_iconst (q := 201) C dX3_pass_200 ki_5 rfl ?_
      have hb39 : xin 5 8 = true := by decide
      refine x_iald (q := 202) C 0 dX3_pass_201 (aX3_r2 y bS aS Y S36 (xin_lt hb38)) rfl hb39 rfl ?_
      obtain ⟨J298, eJ298, hf⟩ := lt_elim hf
      have hJ298 : ∀ (S40 : St), J298 S40 = some (r, S') → xV p l e { frames := 2, cells := 0, slots := 0, locals := 51 } s m args below meth c D A (xQi D (xT y) A (fun (r' : Int32) (_ : Unit) => r' = r) (fun _ : Unit => sC y bS aS Y S') 0 0 below args s) 7 (sC y bS aS Y S40) 0 0 [(0, .ref bS), (1, .int v4), (2, .ref (aS 3)), (3, .int v34), (4, .int v35)] 298 [] := by
        intro S40 hf
        subst eJ298
        refine x_iinc (q := 301) C 4 (v35 + 1) [1, 2, 3, 4, 0] [(0, .ref bS), (1, .int v4), (2, .ref (aS 3)), (3, .int v34), (4, .int (v35 + 1))] dX3_pass_298 rfl (congrArg (fun z => v35 + z) ki_1) (by decide) rfl rfl ?_
        refine x_goto (t := 186) C dX3_pass_301 (by decide) ?_
        exact ih (v35 + 1) S40 hf
      refine x_if_ne (t := 208) (q := 205) C dX3_pass_202 (by decide) rfl (fun hc => ?_) (fun hc => ?_)
      · have hf := (if_neg hc).symm.trans hf
        refine x_aload (q := 210) C 5 dX3_pass_208 rfl rfl ?_
        refine x_iconst (q := 211) C dX3_pass_210 ki_4 rfl ?_
        have hb41 : xin 4 8 = true := by decide
        refine x_iald (q := 212) C 0 dX3_pass_211 (aX3_r2 y bS aS Y S36 (xin_lt hb38)) rfl hb41 rfl ?_
        refine x_iconst (q := 213) C dX3_pass_212 ki_4 rfl ?_
        obtain ⟨J229, eJ229, hf⟩ := lt_elim hf
        have hJ229 : ∀ (v42 : Int32), J229 v42 = some (r, S') → xV p l e { frames := 2, cells := 0, slots := 0, locals := 51 } s m args below meth c D A (xQi D (xT y) A (fun (r' : Int32) (_ : Unit) => r' = r) (fun _ : Unit => sC y bS aS Y S') 0 0 below args s) 7 (sC y bS aS Y S36) 0 0 [(0, .ref bS), (1, .int v4), (2, .ref (aS 3)), (3, .int v34), (4, .int v35), (5, .ref (aS (rk 11 v35.toNatClampNeg)))] 229 [.int v42] := by
          intro v42 hf
          subst eJ229
          refine x_istore (q := 231) C [1, 2, 3, 4, 5, 6, 0] [(0, .ref bS), (1, .int v4), (2, .ref (aS 3)), (3, .int v34), (4, .int v35), (5, .ref (aS (rk 11 v35.toNatClampNeg))), (6, .int v42)] dX3_pass_229 (by decide) rfl rfl ?_
          refine x_aload (q := 233) C 5 dX3_pass_231 rfl rfl ?_
          refine x_iconst (q := 234) C dX3_pass_233 ki_3 rfl ?_
          refine x_dup2 (q := 235) C dX3_pass_234 rfl rfl rfl ?_
          have hb43 : xin 3 8 = true := by decide
          refine x_iald (q := 236) C 0 dX3_pass_235 (aX3_r2 y bS aS Y S36 (xin_lt hb38)) rfl hb43 rfl ?_
          refine x_iload (q := 238) C 6 dX3_pass_236 rfl rfl ?_
          refine x_isub (q := 239) C dX3_pass_238 rfl ?_
          obtain ⟨S44, eS44, hf⟩ := lt_elim hf
          refine x_iast (q := 240) (ws' := sC y bS aS Y S44) C 0 dX3_pass_239 (aX3_r2 y bS aS Y S36 (xin_lt hb38)) rfl hb43 (congrArg (fun z => sC y bS aS Y z) eS44.symm) rfl ?_
          refine x_aload_n (q := 241) C 0 dX3_pass_240 rfl rfl rfl ?_
          refine x_dup (q := 242) C dX3_pass_241 rfl rfl ?_
          refine x_get (q := 245) C 8 dX3_pass_242 (oX3 y bS aS Y S44) rfl iuX3_pass_X3 flX3_pass_55 rfl (by decide) rfl rfl ?_
          refine x_iload (q := 247) C 6 dX3_pass_245 rfl rfl ?_
          refine x_iadd (q := 248) C dX3_pass_247 rfl ?_
          obtain ⟨S45, eS45, hf⟩ := lt_elim hf
          refine x_puti (q := 251) (ws' := sC y bS aS Y S45) C tyX3 tyX3_ok nmX3 dX3_pass_248 (iX3_8 y bS aS Y S44) rfl iuX3_pass_X3 flX3_pass_55 rfl (by decide) rfl rfl (congrArg (fun z => sC y bS aS Y z) eS45.symm) rfl ?_
          refine x_aload (q := 253) C 5 dX3_pass_251 rfl rfl ?_
          refine x_iconst (q := 254) C dX3_pass_253 ki_3 rfl ?_
          refine x_iald (q := 255) C 0 dX3_pass_254 (aX3_r2 y bS aS Y S45 (xin_lt hb38)) rfl hb43 rfl ?_
          obtain ⟨J263, eJ263, hf⟩ := lt_elim hf
          have hJ263 : ∀ (S46 : St), J263 S46 = some (r, S') → xV p l e { frames := 2, cells := 0, slots := 0, locals := 51 } s m args below meth c D A (xQi D (xT y) A (fun (r' : Int32) (_ : Unit) => r' = r) (fun _ : Unit => sC y bS aS Y S') 0 0 below args s) 7 (sC y bS aS Y S46) 0 0 [(0, .ref bS), (1, .int v4), (2, .ref (aS 3)), (3, .int v34), (4, .int v35), (5, .ref (aS (rk 11 v35.toNatClampNeg)))] 263 [] := by
            intro S46 hf
            subst eJ263
            refine x_aload (q := 265) C 5 dX3_pass_263 rfl rfl ?_
            refine x_iconst (q := 266) C dX3_pass_265 ki_5 rfl ?_
            refine x_iald (q := 267) C 0 dX3_pass_266 (aX3_r2 y bS aS Y S46 (xin_lt hb38)) rfl hb39 rfl ?_
            refine x_iconst (q := 268) C dX3_pass_267 ki_1 rfl ?_
            refine x_icmp_ne (t := 298) (q := 271) C dX3_pass_268 (by decide) rfl (fun hc => ?_) (fun hc => ?_)
            · have hf := (if_neg hc).symm.trans hf
              refine x_sub [0, 1, 2, 3, 4] (L' := [(0, .ref bS), (1, .int v4), (2, .ref (aS 3)), (3, .int v34), (4, .int v35)]) rfl ?_
              exact hJ298 S46 hf
            · have hf := (if_pos hc).symm.trans hf
              refine x_aload_n (q := 272) C 0 dX3_pass_271 rfl rfl rfl ?_
              refine x_get (q := 275) C 6 dX3_pass_272 (oX3 y bS aS Y S46) rfl iuX3_pass_X3 flX3_pass_39 rfl (by decide) rfl rfl ?_
              refine x_bipush (q := 277) C dX3_pass_275 kb_30 rfl ?_
              refine x_irem (q := 278) C dX3_pass_277 (by decide) rfl ?_
              refine x_if_ne (t := 298) (q := 281) C dX3_pass_278 (by decide) rfl (fun hc => ?_) (fun hc => ?_)
              · have hf := (if_neg hc).symm.trans hf
                refine x_sub [0, 1, 2, 3, 4] (L' := [(0, .ref bS), (1, .int v4), (2, .ref (aS 3)), (3, .int v34), (4, .int v35)]) rfl ?_
                exact hJ298 S46 hf
              · have hf := (if_pos hc).symm.trans hf
                refine x_aload (q := 283) C 5 dX3_pass_281 rfl rfl ?_
                refine x_iconst (q := 284) C dX3_pass_283 ki_4 rfl ?_
                refine x_iald (q := 285) C 0 dX3_pass_284 (aX3_r2 y bS aS Y S46 (xin_lt hb38)) rfl hb41 rfl ?_
                refine x_bipush (q := 287) C dX3_pass_285 kb_9 rfl ?_
                refine x_icmp_ge (t := 298) (q := 290) C dX3_pass_287 (by decide) rfl (fun hc => ?_) (fun hc => ?_)
                · have hf := (if_pos hc).symm.trans hf
                  refine x_sub [0, 1, 2, 3, 4] (L' := [(0, .ref bS), (1, .int v4), (2, .ref (aS 3)), (3, .int v34), (4, .int v35)]) rfl ?_
                  exact hJ298 S46 hf
                · have hf := (if_neg hc).symm.trans hf
                  refine x_aload (q := 292) C 5 dX3_pass_290 rfl rfl ?_
                  refine x_iconst (q := 293) C dX3_pass_292 ki_4 rfl ?_
                  refine x_dup2 (q := 294) C dX3_pass_293 rfl rfl rfl ?_
                  refine x_iald (q := 295) C 0 dX3_pass_294 (aX3_r2 y bS aS Y S46 (xin_lt hb38)) rfl hb41 rfl ?_
                  refine x_iconst (q := 296) C dX3_pass_295 ki_1 rfl ?_
                  refine x_iadd (q := 297) C dX3_pass_296 rfl ?_
                  obtain ⟨S47, eS47, hf⟩ := lt_elim hf
                  refine x_iast (q := 298) (ws' := sC y bS aS Y S47) C 0 dX3_pass_297 (aX3_r2 y bS aS Y S46 (xin_lt hb38)) rfl hb41 (congrArg (fun z => sC y bS aS Y z) eS47.symm) rfl ?_
                  refine x_sub [0, 1, 2, 3, 4] (L' := [(0, .ref bS), (1, .int v4), (2, .ref (aS 3)), (3, .int v34), (4, .int v35)]) rfl ?_
                  exact hJ298 S47 hf
          refine x_if_ne (t := 263) (q := 258) C dX3_pass_255 (by decide) rfl (fun hc => ?_) (fun hc => ?_)
          · have hf := (if_neg hc).symm.trans hf
            refine x_sub [0, 1, 2, 3, 4, 5] (L' := [(0, .ref bS), (1, .int v4), (2, .ref (aS 3)), (3, .int v34), (4, .int v35), (5, .ref (aS (rk 11 v35.toNatClampNeg)))]) rfl ?_
            exact hJ263 S45 hf
          · have hf := (if_pos hc).symm.trans hf
            refine x_aload (q := 260) C 5 dX3_pass_258 rfl rfl ?_
            refine x_iconst (q := 261) C dX3_pass_260 ki_5 rfl ?_
            refine x_iconst (q := 262) C dX3_pass_261 ki_0 rfl ?_
            obtain ⟨S48, eS48, hf⟩ := lt_elim hf
            refine x_iast (q := 263) (ws' := sC y bS aS Y S48) C 0 dX3_pass_262 (aX3_r2 y bS aS Y S45 (xin_lt hb38)) rfl hb39 (congrArg (fun z => sC y bS aS Y z) eS48.symm) rfl ?_
            refine x_sub [0, 1, 2, 3, 4, 5] (L' := [(0, .ref bS), (1, .int v4), (2, .ref (aS 3)), (3, .int v34), (4, .int v35), (5, .ref (aS (rk 11 v35.toNatClampNeg)))]) rfl ?_
            exact hJ263 S48 hf
        obtain ⟨J228, eJ228, hf⟩ := lt_elim hf
        have hJ228 : ∀ (u_ : Unit), J228 u_ = some (r, S') → xV p l e { frames := 2, cells := 0, slots := 0, locals := 51 } s m args below meth c D A (xQi D (xT y) A (fun (r' : Int32) (_ : Unit) => r' = r) (fun _ : Unit => sC y bS aS Y S') 0 0 below args s) 7 (sC y bS aS Y S36) 0 0 [(0, .ref bS), (1, .int v4), (2, .ref (aS 3)), (3, .int v34), (4, .int v35), (5, .ref (aS (rk 11 v35.toNatClampNeg)))] 228 [] := by
          intro u_ hf
          subst eJ228
          refine x_iconst (q := 229) C dX3_pass_228 ki_1 rfl ?_
          exact hJ229 1 hf
        refine x_icmp_le (t := 228) (q := 216) C dX3_pass_213 (by decide) rfl (fun hc => ?_) (fun hc => ?_)
        · have hf := (if_pos hc).symm.trans hf
          exact hJ228 () hf
        · have hf := (if_neg hc).symm.trans hf
          refine x_aload (q := 218) C 5 dX3_pass_216 rfl rfl ?_
          refine x_iconst (q := 219) C dX3_pass_218 ki_3 rfl ?_
          have hb49 : xin 3 8 = true := by decide
          refine x_iald (q := 220) C 0 dX3_pass_219 (aX3_r2 y bS aS Y S36 (xin_lt hb38)) rfl hb49 rfl ?_
          refine x_iconst (q := 221) C dX3_pass_220 ki_1 rfl ?_
          refine x_icmp_le (t := 228) (q := 224) C dX3_pass_221 (by decide) rfl (fun hc => ?_) (fun hc => ?_)
          · have hf := (if_pos hc).symm.trans hf
            exact hJ228 () hf
          · have hf := (if_neg hc).symm.trans hf
            refine x_iconst (q := 225) C dX3_pass_224 ki_2 rfl ?_
            refine x_goto (t := 229) C dX3_pass_225 (by decide) ?_
            exact hJ229 2 hf
      · have hf := (if_pos hc).symm.trans hf
        refine x_goto (t := 298) C dX3_pass_205 (by decide) ?_
        refine x_sub [0, 1, 2, 3, 4] (L' := [(0, .ref bS), (1, .int v4), (2, .ref (aS 3)), (3, .int v34), (4, .int v35)]) rfl ?_
        exact hJ298 S36 hf
set_option maxHeartbeats 4000000 in
set_option maxRecDepth 100000 in
theorem w5_pass_L315 {p : Program} {l : Launch} {e : Env} {s : State} {m : MethodId} {args : Array Value} {below : List Frame} {meth : Method} {c : Code} {D : va_G} {A : Nat → Prop} {y : Nat → ClassId} {bS : Nat} {aS : Nat → Nat} {Y : (Nat → Nat)} {v4 : Int32} {v50 : Int32} {r : Int32} {S' : St} {K : St → Option (Int32 × St)} (C : xC p s m args meth c D A cX3_pass RX3 7 wsX3_pass (xT y) (some .int)) (hK : ∀ (S53 : St), K S53 = some (r, S') → xV p l e { frames := 2, cells := 0, slots := 0, locals := 51 } s m args below meth c D A (xQi D (xT y) A (fun (r' : Int32) (_ : Unit) => r' = r) (fun _ : Unit => sC y bS aS Y S') 0 0 below args s) 7 (sC y bS aS Y S53) 0 0 [(0, .ref bS), (1, .int v4)] 431 []) : ∀ (fu : Nat) (v51 : Int32) (S52 : St), f5_pass_L315 v50 Y K fu v51 S52 = some (r, S') → xV p l e { frames := 2, cells := 0, slots := 0, locals := 51 } s m args below meth c D A (xQi D (xT y) A (fun (r' : Int32) (_ : Unit) => r' = r) (fun _ : Unit => sC y bS aS Y S') 0 0 below args s) 7 (sC y bS aS Y S52) 0 0 [(0, .ref bS), (1, .int v4), (2, .ref (aS 3)), (3, .int v50), (4, .int v51)] 315 [] := by
  intro fu
  induction fu with
  | zero => intro v51 S52 hf; rw [f5_pass_L315] at hf; cases hf
  | succ fu ih =>
    intro v51 S52 hf
    rw [f5_pass_L315] at hf
    refine x_iload (q := 317) C 4 dX3_pass_315 rfl rfl ?_
    refine x_iload_n (q := 318) C 3 dX3_pass_317 rfl rfl rfl ?_
    refine x_icmp_ge (t := 431) (q := 321) C dX3_pass_318 (by decide) rfl (fun hc => ?_) (fun hc => ?_)
    · have hf := (if_pos hc).symm.trans hf
      refine x_sub [0, 1] (L' := [(0, .ref bS), (1, .int v4)]) rfl ?_
      exact hK S52 hf
    · have hf := (if_neg hc).symm.trans hf
      refine x_aload_n (q := 322) C 2 dX3_pass_321 rfl rfl rfl ?_
      refine x_iload (q := 324) C 4 dX3_pass_322 rfl rfl ?_
      obtain ⟨hb54, hf⟩ := gd_some hf
      refine x_aald (q := 325) C 2 dX3_pass_324 (gX3_2 y bS aS Y S52) rfl rfl hb54 (if_pos (xin_lt hb54)) rfl ?_
      refine x_astore (q := 327) C [1, 2, 3, 4, 5, 0] [(0, .ref bS), (1, .int v4), (2, .ref (aS 3)), (3, .int v50), (4, .int v51), (5, .ref (aS (rk 11 v51.toNatClampNeg)))] dX3_pass_325 (by decide) rfl rfl ?_
      refine x_aload_n (q := 328) C 0 dX3_pass_327 rfl rfl rfl ?_
      refine x_get (q := 331) C 0 dX3_pass_328 (oX3 y bS aS Y S52) rfl iuX3_pass_X3 flX3_pass_7 rfl (by decide) rfl rfl ?_
      refine x_aload_n (q := 332) C 0 dX3_pass_331 rfl rfl rfl ?_
      refine x_get (q := 335) C 1 dX3_pass_332 (oX3 y bS aS Y S52) rfl iuX3_pass_X3 flX3_pass_14 rfl (by decide) rfl rfl ?_
      refine x_aload (q := 337) C 5 dX3_pass_335 rfl rfl ?_
      refine x_iconst (q := 338) C dX3_pass_337 ki_0 rfl ?_
      have hb55 : xin 0 8 = true := by decide
      refine x_iald (q := 339) C 0 dX3_pass_338 (aX3_r2 y bS aS Y S52 (xin_lt hb54)) rfl hb55 rfl ?_
      obtain ⟨hb56, hf⟩ := gd_some hf
      refine x_aald (q := 340) C 2 dX3_pass_339 (gX3_1 y bS aS Y S52) rfl rfl hb56 (if_pos (xin_lt hb56)) rfl ?_
      refine x_iconst (q := 341) C dX3_pass_340 ki_0 rfl ?_
      have hb57 : xin 0 3 = true := by decide
      refine x_iald (q := 342) C 0 dX3_pass_341 (aX3_r1 y bS aS Y S52 (xin_lt hb56)) rfl hb57 rfl ?_
      obtain ⟨hb58, hf⟩ := gd_some hf
      refine x_iald (q := 343) C 0 dX3_pass_342 (aX3_0 y bS aS Y S52) rfl hb58 rfl ?_
      refine x_aload_n (q := 344) C 0 dX3_pass_343 rfl rfl rfl ?_
      refine x_get (q := 347) C 0 dX3_pass_344 (oX3 y bS aS Y S52) rfl iuX3_pass_X3 flX3_pass_7 rfl (by decide) rfl rfl ?_
      refine x_aload_n (q := 348) C 0 dX3_pass_347 rfl rfl rfl ?_
      refine x_get (q := 351) C 1 dX3_pass_348 (oX3 y bS aS Y S52) rfl iuX3_pass_X3 flX3_pass_14 rfl (by decide) rfl rfl ?_
      refine x_aload (q := 353) C 5 dX3_pass_351 rfl rfl ?_
      refine x_iconst (q := 354) C dX3_pass_353 ki_0 rfl ?_
      refine x_iald (q := 355) C 0 dX3_pass_354 (aX3_r2 y bS aS Y S52 (xin_lt hb54)) rfl hb55 rfl ?_
      refine x_aald (q := 356) C 2 dX3_pass_355 (gX3_1 y bS aS Y S52) rfl rfl hb56 (if_pos (xin_lt hb56)) rfl ?_
      refine x_iconst (q := 357) C dX3_pass_356 ki_1 rfl ?_
      have hb59 : xin 1 3 = true := by decide
      refine x_iald (q := 358) C 0 dX3_pass_357 (aX3_r1 y bS aS Y S52 (xin_lt hb56)) rfl hb59 rfl ?_
      obtain ⟨hb60, hf⟩ := gd_some hf
      refine x_iald (q := 359) C 0 dX3_pass_358 (aX3_0 y bS aS Y S52) rfl hb60 rfl ?_
      refine x_mmax (q := 362) C dX3_pass_359 kmX3_pass_58 (Nat.le_of_ble_eq_true rfl) (Nat.le_of_ble_eq_true rfl) (Nat.le_of_ble_eq_true rfl) (Nat.le_of_ble_eq_true rfl) rfl ?_
      obtain ⟨v61, ev61, hf⟩ := lt_elim hf
      refine x_topi ev61 ?_
      refine x_istore (q := 364) C [1, 2, 3, 4, 5, 6, 0] [(0, .ref bS), (1, .int v4), (2, .ref (aS 3)), (3, .int v50), (4, .int v51), (5, .ref (aS (rk 11 v51.toNatClampNeg))), (6, .int v61)] dX3_pass_362 (by decide) rfl rfl ?_
      refine x_aload (q := 366) C 5 dX3_pass_364 rfl rfl ?_
      refine x_iconst (q := 367) C dX3_pass_366 ki_5 rfl ?_
      have hb62 : xin 5 8 = true := by decide
      refine x_iald (q := 368) C 0 dX3_pass_367 (aX3_r2 y bS aS Y S52 (xin_lt hb54)) rfl hb62 rfl ?_
      obtain ⟨J425, eJ425, hf⟩ := lt_elim hf
      have hJ425 : ∀ (S63 : St), J425 S63 = some (r, S') → xV p l e { frames := 2, cells := 0, slots := 0, locals := 51 } s m args below meth c D A (xQi D (xT y) A (fun (r' : Int32) (_ : Unit) => r' = r) (fun _ : Unit => sC y bS aS Y S') 0 0 below args s) 7 (sC y bS aS Y S63) 0 0 [(0, .ref bS), (1, .int v4), (2, .ref (aS 3)), (3, .int v50), (4, .int v51)] 425 [] := by
        intro S63 hf
        subst eJ425
        refine x_iinc (q := 428) C 4 (v51 + 1) [1, 2, 3, 4, 0] [(0, .ref bS), (1, .int v4), (2, .ref (aS 3)), (3, .int v50), (4, .int (v51 + 1))] dX3_pass_425 rfl (congrArg (fun z => v51 + z) ki_1) (by decide) rfl rfl ?_
        refine x_goto (t := 315) C dX3_pass_428 (by decide) ?_
        exact ih (v51 + 1) S63 hf
      refine x_if_eq (t := 425) (q := 371) C dX3_pass_368 (by decide) rfl (fun hc => ?_) (fun hc => ?_)
      · have hf := (if_pos hc).symm.trans hf
        refine x_sub [0, 1, 2, 3, 4] (L' := [(0, .ref bS), (1, .int v4), (2, .ref (aS 3)), (3, .int v50), (4, .int v51)]) rfl ?_
        exact hJ425 S52 hf
      · have hf := (if_neg hc).symm.trans hf
        refine x_aload_n (q := 372) C 0 dX3_pass_371 rfl rfl rfl ?_
        refine x_get (q := 375) C 6 dX3_pass_372 (oX3 y bS aS Y S52) rfl iuX3_pass_X3 flX3_pass_39 rfl (by decide) rfl rfl ?_
        refine x_bipush (q := 377) C dX3_pass_375 kb_10 rfl ?_
        refine x_irem (q := 378) C dX3_pass_377 (by decide) rfl ?_
        refine x_if_ne (t := 425) (q := 381) C dX3_pass_378 (by decide) rfl (fun hc => ?_) (fun hc => ?_)
        · have hf := (if_neg hc).symm.trans hf
          refine x_sub [0, 1, 2, 3, 4] (L' := [(0, .ref bS), (1, .int v4), (2, .ref (aS 3)), (3, .int v50), (4, .int v51)]) rfl ?_
          exact hJ425 S52 hf
        · have hf := (if_pos hc).symm.trans hf
          refine x_aload_n (q := 382) C 0 dX3_pass_381 rfl rfl rfl ?_
          refine x_get (q := 385) C 5 dX3_pass_382 (oX3 y bS aS Y S52) rfl iuX3_pass_X3 flX3_pass_27 rfl (by decide) rfl rfl ?_
          refine x_aload_n (q := 386) C 0 dX3_pass_385 rfl rfl rfl ?_
          refine x_get (q := 389) C 6 dX3_pass_386 (oX3 y bS aS Y S52) rfl iuX3_pass_X3 flX3_pass_39 rfl (by decide) rfl rfl ?_
          refine x_bipush (q := 391) C dX3_pass_389 kb_60 rfl ?_
          refine x_idiv (q := 392) C dX3_pass_391 (by decide) rfl ?_
          obtain ⟨hb64, hf⟩ := gd_some hf
          refine x_iald (q := 393) C 0 dX3_pass_392 (aX3_5 y bS aS Y S52) rfl hb64 rfl ?_
          refine x_iload (q := 395) C 6 dX3_pass_393 rfl rfl ?_
          refine x_bipush (q := 397) C dX3_pass_395 kb_10 rfl ?_
          refine x_idiv (q := 398) C dX3_pass_397 (by decide) rfl ?_
          refine x_iadd (q := 399) C dX3_pass_398 rfl ?_
          refine x_aload (q := 401) C 5 dX3_pass_399 rfl rfl ?_
          refine x_iconst (q := 402) C dX3_pass_401 ki_2 rfl ?_
          have hb65 : xin 2 8 = true := by decide
          refine x_iald (q := 403) C 0 dX3_pass_402 (aX3_r2 y bS aS Y S52 (xin_lt hb54)) rfl hb65 rfl ?_
          refine x_iconst (q := 404) C dX3_pass_403 ki_5 rfl ?_
          refine x_iadd (q := 405) C dX3_pass_404 rfl ?_
          refine x_icmp_ge (t := 411) (q := 408) C dX3_pass_405 (by decide) rfl (fun hc => ?_) (fun hc => ?_)
          · have hf := (if_pos hc).symm.trans hf
            refine x_aload (q := 413) C 5 dX3_pass_411 rfl rfl ?_
            refine x_iconst (q := 414) C dX3_pass_413 ki_5 rfl ?_
            refine x_iconst (q := 415) C dX3_pass_414 ki_0 rfl ?_
            obtain ⟨S66, eS66, hf⟩ := lt_elim hf
            refine x_iast (q := 416) (ws' := sC y bS aS Y S66) C 0 dX3_pass_415 (aX3_r2 y bS aS Y S52 (xin_lt hb54)) rfl hb62 (congrArg (fun z => sC y bS aS Y z) eS66.symm) rfl ?_
            refine x_aload (q := 418) C 5 dX3_pass_416 rfl rfl ?_
            refine x_bipush (q := 420) C dX3_pass_418 kb_7 rfl ?_
            refine x_dup2 (q := 421) C dX3_pass_420 rfl rfl rfl ?_
            have hb67 : xin 7 8 = true := by decide
            refine x_iald (q := 422) C 0 dX3_pass_421 (aX3_r2 y bS aS Y S66 (xin_lt hb54)) rfl hb67 rfl ?_
            refine x_iconst (q := 423) C dX3_pass_422 ki_1 rfl ?_
            refine x_iadd (q := 424) C dX3_pass_423 rfl ?_
            obtain ⟨S68, eS68, hf⟩ := lt_elim hf
            refine x_iast (q := 425) (ws' := sC y bS aS Y S68) C 0 dX3_pass_424 (aX3_r2 y bS aS Y S66 (xin_lt hb54)) rfl hb67 (congrArg (fun z => sC y bS aS Y z) eS68.symm) rfl ?_
            refine x_sub [0, 1, 2, 3, 4] (L' := [(0, .ref bS), (1, .int v4), (2, .ref (aS 3)), (3, .int v50), (4, .int v51)]) rfl ?_
            exact hJ425 S68 hf
          · have hf := (if_neg hc).symm.trans hf
            refine x_goto (t := 425) C dX3_pass_408 (by decide) ?_
            refine x_sub [0, 1, 2, 3, 4] (L' := [(0, .ref bS), (1, .int v4), (2, .ref (aS 3)), (3, .int v50), (4, .int v51)]) rfl ?_
            exact hJ425 S52 hf
set_option maxHeartbeats 4000000 in
set_option maxRecDepth 100000 in
theorem c5_pass {l : Launch} {D : va_G} {y : Nat → ClassId} {bS : Nat} {aS : Nat → Nat} {Y : (Nat → Nat)} {S : St} {r : Int32} {S' : St} (hf : f5_pass Y S = some (r, S')) : xMi l yX3_pass wsX3_pass 2 51 0 0 D (xT y) [.ref bS] (sC y bS aS Y S) (fun (r' : Int32) (_ : Unit) => r' = r) (fun _ : Unit => sC y bS aS Y S') := by
  refine xMi_of (cc := cX3_pass) (nL := 7) (ret := (some .int)) [(0, .ref bS)] (by decide) rfl (Nat.le_of_ble_eq_true rfl) rfl ?_
  intro p e s m args below meth c A C hin
  have C : xC p s m args meth c D A cX3_pass RX3 7 wsX3_pass (xT y) (some .int) := C
  unfold f5_pass at hf
  refine x_iconst (q := 1) C dX3_pass_0 ki_0 rfl ?_
  refine x_istore_n (q := 2) C [1, 0] [(0, .ref bS), (1, .int 0)] dX3_pass_1 rfl (by decide) rfl rfl ?_
  refine x_iconst (q := 3) C dX3_pass_2 ki_0 rfl ?_
  refine x_istore_n (q := 4) C [1, 2, 0] [(0, .ref bS), (1, .int 0), (2, .int 0)] dX3_pass_3 rfl (by decide) rfl rfl ?_
  refine w5_pass_L4 C (fun v4 S5 hf => ?_) xF 0 0 S hf
  refine x_aload_n (q := 176) C 0 dX3_pass_175 rfl rfl rfl ?_
  refine x_get (q := 179) C 2 dX3_pass_176 (oX3 y bS aS Y S5) rfl iuX3_pass_X3 flX3_pass_18 rfl (by decide) rfl rfl ?_
  refine x_astore_n (q := 180) C [1, 2, 0] [(0, .ref bS), (1, .int v4), (2, .ref (aS 3))] dX3_pass_179 rfl (by decide) rfl rfl ?_
  refine x_aload_n (q := 181) C 2 dX3_pass_180 rfl rfl rfl ?_
  refine x_alenr (q := 182) C 2 dX3_pass_181 (gX3_2 y bS aS Y S5) rfl rfl ?_
  obtain ⟨v34, ev34, hf⟩ := lt_elim hf
  refine x_topi ev34 ?_
  refine x_istore_n (q := 183) C [1, 2, 3, 0] [(0, .ref bS), (1, .int v4), (2, .ref (aS 3)), (3, .int v34)] dX3_pass_182 rfl (by decide) rfl rfl ?_
  refine x_iconst (q := 184) C dX3_pass_183 ki_0 rfl ?_
  refine x_istore (q := 186) C [1, 2, 3, 4, 0] [(0, .ref bS), (1, .int v4), (2, .ref (aS 3)), (3, .int v34), (4, .int 0)] dX3_pass_184 (by decide) rfl rfl ?_
  refine w5_pass_L186 C (fun S37 hf => ?_) xF 0 S5 hf
  refine x_aload_n (q := 305) C 0 dX3_pass_304 rfl rfl rfl ?_
  refine x_get (q := 308) C 2 dX3_pass_305 (oX3 y bS aS Y S37) rfl iuX3_pass_X3 flX3_pass_18 rfl (by decide) rfl rfl ?_
  refine x_astore_n (q := 309) C [1, 2, 0] [(0, .ref bS), (1, .int v4), (2, .ref (aS 3))] dX3_pass_308 rfl (by decide) rfl rfl ?_
  refine x_aload_n (q := 310) C 2 dX3_pass_309 rfl rfl rfl ?_
  refine x_alenr (q := 311) C 2 dX3_pass_310 (gX3_2 y bS aS Y S37) rfl rfl ?_
  obtain ⟨v50, ev50, hf⟩ := lt_elim hf
  refine x_topi ev50 ?_
  refine x_istore_n (q := 312) C [1, 2, 3, 0] [(0, .ref bS), (1, .int v4), (2, .ref (aS 3)), (3, .int v50)] dX3_pass_311 rfl (by decide) rfl rfl ?_
  refine x_iconst (q := 313) C dX3_pass_312 ki_0 rfl ?_
  refine x_istore (q := 315) C [1, 2, 3, 4, 0] [(0, .ref bS), (1, .int v4), (2, .ref (aS 3)), (3, .int v50), (4, .int 0)] dX3_pass_313 (by decide) rfl rfl ?_
  refine w5_pass_L315 C (fun S53 hf => ?_) xF 0 S37 hf
  refine x_aload_n (q := 432) C 0 dX3_pass_431 rfl rfl rfl ?_
  refine x_dup (q := 433) C dX3_pass_432 rfl rfl ?_
  refine x_get (q := 436) C 6 dX3_pass_433 (oX3 y bS aS Y S53) rfl iuX3_pass_X3 flX3_pass_39 rfl (by decide) rfl rfl ?_
  refine x_iconst (q := 437) C dX3_pass_436 ki_1 rfl ?_
  refine x_iadd (q := 438) C dX3_pass_437 rfl ?_
  obtain ⟨S69, eS69, hf⟩ := lt_elim hf
  refine x_puti (q := 441) (ws' := sC y bS aS Y S69) C tyX3 tyX3_ok nmX3 dX3_pass_438 (iX3_6 y bS aS Y S53) rfl iuX3_pass_X3 flX3_pass_39 rfl (by decide) rfl rfl (congrArg (fun z => sC y bS aS Y z) eS69.symm) rfl ?_
  refine x_iload_n (q := 442) C 1 dX3_pass_441 rfl rfl rfl ?_
  have hf := Option.some.inj hf
  obtain ⟨hr0, hr1⟩ := Prod.mk.inj hf
  exact x_iret () C dX3_pass_442 rfl hr0 (congrArg (fun z => sC y bS aS Y z) hr1) (Nat.le_of_ble_eq_true rfl) (Nat.le_of_ble_eq_true rfl)

/-! LampHillsLaw$Sim.pass(I)V -/
theorem flX3_pass__39 : Cond.fieldLink RX3 39 "LampHillsLaw$Sim" "minute" "I" ∈ wsX3_pass_ := by decide +kernel
theorem iuX3_pass__X3 : ∀ w ∈ u_ws RX3 TX3 10, w ∈ wsX3_pass_ := fun _ h => List.mem_cons_of_mem _ (List.mem_append_right _ h)
theorem yi_X3_pass : xY yX3_pass wsX3_pass cX3_pass 7 (some .int) 0 := ⟨⟨_, rfl⟩, by decide +kernel, by decide +kernel, by decide +kernel⟩
def f5_pass__L2 (p1 : Int32) (Y : (Nat → Nat)) : Nat → Int32 → St → Option (St)
  | 0, _, _ => none
  | fu + 1, v1, S2 =>
  if p1 ≤ v1 then
  (
    some S2
  )
  else
  (
    if 600 ≤ (S2 7 0) then
    (
      some S2
    )
    else
    (
      bd2 (f5_pass Y S2) fun v3 S4 =>
      f5_pass__L2 p1 Y fu (v1 + 1) S4
    )
  )
def f5_pass_ (Y : (Nat → Nat)) (S : St) (p1 : Int32) : Option (St) :=
  f5_pass__L2 p1 Y xF 0 S
set_option maxHeartbeats 4000000 in
set_option maxRecDepth 100000 in
theorem w5_pass__L2 {p : Program} {l : Launch} {e : Env} {s : State} {m : MethodId} {args : Array Value} {below : List Frame} {meth : Method} {c : Code} {D : va_G} {A : Nat → Prop} {y : Nat → ClassId} {bS : Nat} {aS : Nat → Nat} {Y : (Nat → Nat)} {p1 : Int32} {S' : St} (C : xC p s m args meth c D A cX3_pass_ RX3 3 wsX3_pass_ (xT y) none) : ∀ (fu : Nat) (v1 : Int32) (S2 : St), f5_pass__L2 p1 Y fu v1 S2 = some S' → xV p l e { frames := 3, cells := 0, slots := 0, locals := 77 } s m args below meth c D A (xQv D (xT y) A (fun (_ : Unit) => True) (fun _ : Unit => sC y bS aS Y S') 0 0 below args s) 3 (sC y bS aS Y S2) 0 0 [(0, .ref bS), (1, .int p1), (2, .int v1)] 2 [] := by
  intro fu
  induction fu with
  | zero => intro v1 S2 hf; rw [f5_pass__L2] at hf; cases hf
  | succ fu ih =>
    intro v1 S2 hf
    rw [f5_pass__L2] at hf
    refine x_iload_n (q := 3) C 2 dX3_pass__2 rfl rfl rfl ?_
    refine x_iload_n (q := 4) C 1 dX3_pass__3 rfl rfl rfl ?_
    refine x_icmp_ge (t := 28) (q := 7) C dX3_pass__4 (by decide) rfl (fun hc => ?_) (fun hc => ?_)
    · have hf := (if_pos hc).symm.trans hf
      have hf := Option.some.inj hf
      exact x_vret () C dX3_pass__28 rfl trivial (congrArg (fun z => sC y bS aS Y z) hf) (Nat.le_of_ble_eq_true rfl) (Nat.le_of_ble_eq_true rfl)
    · have hf := (if_neg hc).symm.trans hf
      refine x_aload_n (q := 8) C 0 dX3_pass__7 rfl rfl rfl ?_
      refine x_get (q := 11) C 6 dX3_pass__8 (oX3 y bS aS Y S2) rfl iuX3_pass__X3 flX3_pass__39 rfl (by decide) rfl rfl ?_
      refine x_sipush (q := 14) C dX3_pass__11 ks_600 rfl ?_
      refine x_icmp_ge (t := 28) (q := 17) C dX3_pass__14 (by decide) rfl (fun hc => ?_) (fun hc => ?_)
      · have hf := (if_pos hc).symm.trans hf
        have hf := Option.some.inj hf
        exact x_vret () C dX3_pass__28 rfl trivial (congrArg (fun z => sC y bS aS Y z) hf) (Nat.le_of_ble_eq_true rfl) (Nat.le_of_ble_eq_true rfl)
      · have hf := (if_neg hc).symm.trans hf
        refine x_aload_n (q := 18) C 0 dX3_pass__17 rfl rfl rfl ?_
        obtain ⟨v3, S4, hcal5, hf⟩ := bd2_some hf
        refine x_callVi (q := 21) C (c5_pass (l := l) (D := D) (y := y) (bS := bS) (aS := aS) hcal5) yi_X3_pass gX3_pass__X3_pass rfl (oX3 y bS aS Y S2) rfl ⟨(Nat.le_of_ble_eq_true rfl), (Nat.le_of_ble_eq_true rfl)⟩ dX3_pass__18 pm_nil rfl rfl (Nat.le_of_ble_eq_true rfl) ⟨Nat.le_of_ble_eq_true rfl, Nat.le_of_ble_eq_true rfl⟩ rfl ?_
        intro rr6 uu hrr
        have hrr : v3 = rr6 := Eq.symm hrr
        subst hrr
        refine x_world (ws' := sC y bS aS Y S4) (List.append_nil _) ?_
        refine x_pop (q := 22) C dX3_pass__21 rfl rfl ?_
        refine x_iinc (q := 25) C 2 (v1 + 1) [1, 2, 0] [(0, .ref bS), (1, .int p1), (2, .int (v1 + 1))] dX3_pass__22 rfl (congrArg (fun z => v1 + z) ki_1) (by decide) rfl rfl ?_
        refine x_goto (t := 2) C dX3_pass__25 (by decide) ?_
        exact ih (v1 + 1) S4 hf
set_option maxHeartbeats 4000000 in
set_option maxRecDepth 100000 in
theorem c5_pass_ {l : Launch} {D : va_G} {y : Nat → ClassId} {bS : Nat} {aS : Nat → Nat} {Y : (Nat → Nat)} {S : St} {p1 : Int32} {S' : St} (hf : f5_pass_ Y S p1 = some S') : xMv l yX3_pass_ wsX3_pass_ 3 77 0 0 D (xT y) [.ref bS, .int p1] (sC y bS aS Y S) (fun (_ : Unit) => True) (fun _ : Unit => sC y bS aS Y S') := by
  refine xMv_of (cc := cX3_pass_) (nL := 3) (ret := none) [(0, .ref bS), (1, .int p1)] (by decide) rfl (Nat.le_of_ble_eq_true rfl) rfl ?_
  intro p e s m args below meth c A C hin
  have C : xC p s m args meth c D A cX3_pass_ RX3 3 wsX3_pass_ (xT y) none := C
  unfold f5_pass_ at hf
  refine x_iconst (q := 1) C dX3_pass__0 ki_0 rfl ?_
  refine x_istore_n (q := 2) C [1, 2, 0] [(0, .ref bS), (1, .int p1), (2, .int 0)] dX3_pass__1 rfl (by decide) rfl rfl ?_
  exact w5_pass__L2 C xF 0 S hf

/-! LampHillsLaw$Sim.sum(I)I -/
theorem flX3_sum_18 : Cond.fieldLink RX3 18 "LampHillsLaw$Sim" "lamps" "[[I" ∈ wsX3_sum := by decide +kernel
theorem iuX3_sum_X3 : ∀ w ∈ u_ws RX3 TX3 10, w ∈ wsX3_sum := fun _ h => List.mem_cons_of_mem _ (List.mem_append_right _ h)
def f5_sum_L14 (p1 : Int32) (v1 : Int32) (Y : (Nat → Nat)) (S : St) : Nat → Int32 → Int32 → Option (Int32)
  | 0, _, _ => none
  | fu + 1, v2, v3 =>
  if v1 ≤ v3 then
  (
    some v2
  )
  else
  (
    gd (xin v3 (Y 3)) <|
    gd (xin p1 8) <|
    lt_ (v2 + (S (rk 11 v3.toNatClampNeg) p1.toNatClampNeg)) fun v6 =>
    f5_sum_L14 p1 v1 Y S fu v6 (v3 + 1)
  )
def f5_sum (Y : (Nat → Nat)) (S : St) (p1 : Int32) : Option (Int32) :=
  lt_ (Int32.ofNat (Y 3)) fun v1 =>
  f5_sum_L14 p1 v1 Y S xF 0 0
set_option maxHeartbeats 4000000 in
set_option maxRecDepth 100000 in
theorem w5_sum_L14 {p : Program} {l : Launch} {e : Env} {s : State} {m : MethodId} {args : Array Value} {below : List Frame} {meth : Method} {c : Code} {D : va_G} {A : Nat → Prop} {y : Nat → ClassId} {bS : Nat} {aS : Nat → Nat} {Y : (Nat → Nat)} {S : St} {p1 : Int32} {v1 : Int32} {r : Int32} (C : xC p s m args meth c D A cX3_sum RX3 7 wsX3_sum (xT y) (some .int)) : ∀ (fu : Nat) (v2 : Int32) (v3 : Int32), f5_sum_L14 p1 v1 Y S fu v2 v3 = some r → xV p l e { frames := 0, cells := 0, slots := 0, locals := 0 } s m args below meth c D A (xQi D (xT y) A (fun (r' : Int32) (_ : Unit) => r' = r) (fun _ : Unit => sC y bS aS Y S) 0 0 below args s) 7 (sC y bS aS Y S) 0 0 [(1, .int p1), (2, .int v2), (3, .ref (aS 3)), (4, .int v1), (5, .int v3)] 14 [] := by
  intro fu
  induction fu with
  | zero => intro v2 v3 hf; rw [f5_sum_L14] at hf; cases hf
  | succ fu ih =>
    intro v2 v3 hf
    rw [f5_sum_L14] at hf
    refine x_iload (q := 16) C 4 dX3_sum_14 rfl rfl ?_
    refine x_iload (q := 18) C 3 dX3_sum_16 rfl rfl ?_
    refine x_icmp_ge (t := 40) (q := 21) C dX3_sum_18 (by decide) rfl (fun hc => ?_) (fun hc => ?_)
    · have hf := (if_pos hc).symm.trans hf
      refine x_iload_n (q := 41) C 1 dX3_sum_40 rfl rfl rfl ?_
      have hf := Option.some.inj hf
      exact x_iret () C dX3_sum_41 rfl hf rfl (Nat.le_of_ble_eq_true rfl) (Nat.le_of_ble_eq_true rfl)
    · have hf := (if_neg hc).symm.trans hf
      refine x_aload_n (q := 22) C 2 dX3_sum_21 rfl rfl rfl ?_
      refine x_iload (q := 24) C 4 dX3_sum_22 rfl rfl ?_
      obtain ⟨hb4, hf⟩ := gd_some hf
      refine x_aald (q := 25) C 2 dX3_sum_24 (gX3_2 y bS aS Y S) rfl rfl hb4 (if_pos (xin_lt hb4)) rfl ?_
      refine x_astore (q := 27) C [1, 2, 3, 4, 5, 0] [(1, .int p1), (2, .int v2), (3, .ref (aS 3)), (4, .int v1), (5, .int v3), (6, .ref (aS (rk 11 v3.toNatClampNeg)))] dX3_sum_25 (by decide) rfl rfl ?_
      refine x_iload_n (q := 28) C 1 dX3_sum_27 rfl rfl rfl ?_
      refine x_aload (q := 30) C 5 dX3_sum_28 rfl rfl ?_
      refine x_iload_n (q := 31) C 0 dX3_sum_30 rfl rfl rfl ?_
      obtain ⟨hb5, hf⟩ := gd_some hf
      refine x_iald (q := 32) C 0 dX3_sum_31 (aX3_r2 y bS aS Y S (xin_lt hb4)) rfl hb5 rfl ?_
      refine x_iadd (q := 33) C dX3_sum_32 rfl ?_
      obtain ⟨v6, ev6, hf⟩ := lt_elim hf
      refine x_topi ev6 ?_
      refine x_istore_n (q := 34) C [1, 0, 2, 3, 4] [(1, .int p1), (2, .int v6), (3, .ref (aS 3)), (4, .int v1), (5, .int v3)] dX3_sum_33 rfl (by decide) rfl rfl ?_
      refine x_iinc (q := 37) C 4 (v3 + 1) [1, 2, 3, 4, 0] [(1, .int p1), (2, .int v6), (3, .ref (aS 3)), (4, .int v1), (5, .int (v3 + 1))] dX3_sum_34 rfl (congrArg (fun z => v3 + z) ki_1) (by decide) rfl rfl ?_
      refine x_goto (t := 14) C dX3_sum_37 (by decide) ?_
      exact ih v6 (v3 + 1) hf
set_option maxHeartbeats 4000000 in
set_option maxRecDepth 100000 in
theorem c5_sum {l : Launch} {D : va_G} {y : Nat → ClassId} {bS : Nat} {aS : Nat → Nat} {Y : (Nat → Nat)} {S : St} {p1 : Int32} {r : Int32} (hf : f5_sum Y S p1 = some r) : xMi l yX3_sum wsX3_sum 0 0 0 0 D (xT y) [.ref bS, .int p1] (sC y bS aS Y S) (fun (r' : Int32) (_ : Unit) => r' = r) (fun _ : Unit => sC y bS aS Y S) := by
  refine xMi_of (cc := cX3_sum) (nL := 7) (ret := (some .int)) [(0, .ref bS), (1, .int p1)] (by decide) rfl (Nat.le_of_ble_eq_true rfl) rfl ?_
  intro p e s m args below meth c A C hin
  have C : xC p s m args meth c D A cX3_sum RX3 7 wsX3_sum (xT y) (some .int) := C
  unfold f5_sum at hf
  refine x_iconst (q := 1) C dX3_sum_0 ki_0 rfl ?_
  refine x_istore_n (q := 2) C [1, 2, 0] [(0, .ref bS), (1, .int p1), (2, .int 0)] dX3_sum_1 rfl (by decide) rfl rfl ?_
  refine x_aload_n (q := 3) C 0 dX3_sum_2 rfl rfl rfl ?_
  refine x_get (q := 6) C 2 dX3_sum_3 (oX3 y bS aS Y S) rfl iuX3_sum_X3 flX3_sum_18 rfl (by decide) rfl rfl ?_
  refine x_astore_n (q := 7) C [2, 3, 0] [(1, .int p1), (2, .int 0), (3, .ref (aS 3))] dX3_sum_6 rfl (by decide) rfl rfl ?_
  refine x_aload_n (q := 8) C 2 dX3_sum_7 rfl rfl rfl ?_
  refine x_alenr (q := 9) C 2 dX3_sum_8 (gX3_2 y bS aS Y S) rfl rfl ?_
  obtain ⟨v1, ev1, hf⟩ := lt_elim hf
  refine x_topi ev1 ?_
  refine x_istore (q := 11) C [1, 2, 3, 0] [(1, .int p1), (2, .int 0), (3, .ref (aS 3)), (4, .int v1)] dX3_sum_9 (by decide) rfl rfl ?_
  refine x_iconst (q := 12) C dX3_sum_11 ki_0 rfl ?_
  refine x_istore (q := 14) C [1, 2, 3, 4, 0] [(1, .int p1), (2, .int 0), (3, .ref (aS 3)), (4, .int v1), (5, .int 0)] dX3_sum_12 (by decide) rfl rfl ?_
  exact w5_sum_L14 C xF 0 0 hf

/-! LampHillsLaw$Sim.dawn()I -/
theorem flX3_dawn_18 : Cond.fieldLink RX3 18 "LampHillsLaw$Sim" "lamps" "[[I" ∈ wsX3_dawn := by decide +kernel
theorem flX3_dawn_21 : Cond.fieldLink RX3 21 "LampHillsLaw$Sim" "lighters" "[[I" ∈ wsX3_dawn := by decide +kernel
theorem flX3_dawn_39 : Cond.fieldLink RX3 39 "LampHillsLaw$Sim" "minute" "I" ∈ wsX3_dawn := by decide +kernel
theorem flX3_dawn_70 : Cond.fieldLink RX3 70 "LampHillsLaw$Sim" "night" "I" ∈ wsX3_dawn := by decide +kernel
theorem iuX3_dawn_X3 : ∀ w ∈ u_ws RX3 TX3 10, w ∈ wsX3_dawn := fun _ h => List.mem_cons_of_mem _ (List.mem_append_right _ h)
theorem yi_X3_sum : xY yX3_sum wsX3_sum cX3_sum 7 (some .int) 1 := ⟨⟨_, rfl⟩, by decide +kernel, by decide +kernel, by decide +kernel⟩
def f5_dawn_L17 (v4 : Int32) (Y : (Nat → Nat)) (K : St → Option (Int32 × St)) : Nat → Int32 → St → Option (Int32 × St)
  | 0, _, _ => none
  | fu + 1, v5, S6 =>
  if v4 ≤ v5 then
  (
    K S6
  )
  else
  (
    gd (xin v5 (Y 3)) <|
    lt_ (up2 S6 (rk 11 v5.toNatClampNeg) (5 : Int32).toNatClampNeg 0) fun S10 =>
    f5_dawn_L17 v4 Y K fu (v5 + 1) S10
  )
def f5_dawn_L51 (v11 : Int32) (Y : (Nat → Nat)) (K : St → Option (Int32 × St)) : Nat → Int32 → St → Option (Int32 × St)
  | 0, _, _ => none
  | fu + 1, v12, S13 =>
  if v11 ≤ v12 then
  (
    K S13
  )
  else
  (
    gd (xin v12 (Y 4)) <|
    lt_ (up2 S13 (rk 12 v12.toNatClampNeg) (1 : Int32).toNatClampNeg (S13 (rk 12 v12.toNatClampNeg) (0 : Int32).toNatClampNeg)) fun S18 =>
    lt_ (up2 S18 (rk 12 v12.toNatClampNeg) (4 : Int32).toNatClampNeg (-1)) fun S20 =>
    lt_ (up2 S20 (rk 12 v12.toNatClampNeg) (5 : Int32).toNatClampNeg 0) fun S22 =>
    lt_ (up2 S22 (rk 12 v12.toNatClampNeg) (7 : Int32).toNatClampNeg (-1)) fun S24 =>
    f5_dawn_L51 v11 Y K fu (v12 + 1) S24
  )
def f5_dawn (Y : (Nat → Nat)) (S : St) : Option (Int32 × St) :=
  bd (f5_sum Y S 5) fun v1 =>
  lt_ (Int32.ofNat (Y 3)) fun v4 =>
  f5_dawn_L17 v4 Y (fun (S7 : St) =>
  (
    lt_ (Int32.ofNat (Y 4)) fun v11 =>
    f5_dawn_L51 v11 Y (fun (S14 : St) =>
    (
      lt_ (up2 S14 7 0 0) fun S25 =>
      lt_ (up2 S25 8 0 ((S25 8 0) + 1)) fun S26 =>
      some (v1, S26)
    )
    ) xF 0 S7
  )
  ) xF 0 S
set_option maxHeartbeats 4000000 in
set_option maxRecDepth 100000 in
theorem w5_dawn_L17 {p : Program} {l : Launch} {e : Env} {s : State} {m : MethodId} {args : Array Value} {below : List Frame} {meth : Method} {c : Code} {D : va_G} {A : Nat → Prop} {y : Nat → ClassId} {bS : Nat} {aS : Nat → Nat} {Y : (Nat → Nat)} {v1 : Int32} {v4 : Int32} {r : Int32} {S' : St} {K : St → Option (Int32 × St)} (C : xC p s m args meth c D A cX3_dawn RX3 6 wsX3_dawn (xT y) (some .int)) (hK : ∀ (S7 : St), K S7 = some (r, S') → xV p l e { frames := 1, cells := 0, slots := 0, locals := 26 } s m args below meth c D A (xQi D (xT y) A (fun (r' : Int32) (_ : Unit) => r' = r) (fun _ : Unit => sC y bS aS Y S') 0 0 below args s) 6 (sC y bS aS Y S7) 0 0 [(0, .ref bS), (1, .int v1)] 40 []) : ∀ (fu : Nat) (v5 : Int32) (S6 : St), f5_dawn_L17 v4 Y K fu v5 S6 = some (r, S') → xV p l e { frames := 1, cells := 0, slots := 0, locals := 26 } s m args below meth c D A (xQi D (xT y) A (fun (r' : Int32) (_ : Unit) => r' = r) (fun _ : Unit => sC y bS aS Y S') 0 0 below args s) 6 (sC y bS aS Y S6) 0 0 [(0, .ref bS), (1, .int v1), (2, .ref (aS 3)), (3, .int v4), (4, .int v5)] 17 [] := by
  intro fu
  induction fu with
  | zero => intro v5 S6 hf; rw [f5_dawn_L17] at hf; cases hf
  | succ fu ih =>
    intro v5 S6 hf
    rw [f5_dawn_L17] at hf
    refine x_iload (q := 19) C 4 dX3_dawn_17 rfl rfl ?_
    refine x_iload_n (q := 20) C 3 dX3_dawn_19 rfl rfl rfl ?_
    refine x_icmp_ge (t := 40) (q := 23) C dX3_dawn_20 (by decide) rfl (fun hc => ?_) (fun hc => ?_)
    · have hf := (if_pos hc).symm.trans hf
      refine x_sub [0, 1] (L' := [(0, .ref bS), (1, .int v1)]) rfl ?_
      exact hK S6 hf
    · have hf := (if_neg hc).symm.trans hf
      refine x_aload_n (q := 24) C 2 dX3_dawn_23 rfl rfl rfl ?_
      refine x_iload (q := 26) C 4 dX3_dawn_24 rfl rfl ?_
      obtain ⟨hb8, hf⟩ := gd_some hf
      refine x_aald (q := 27) C 2 dX3_dawn_26 (gX3_2 y bS aS Y S6) rfl rfl hb8 (if_pos (xin_lt hb8)) rfl ?_
      refine x_astore (q := 29) C [1, 2, 3, 4, 5, 0] [(0, .ref bS), (1, .int v1), (2, .ref (aS 3)), (3, .int v4), (4, .int v5), (5, .ref (aS (rk 11 v5.toNatClampNeg)))] dX3_dawn_27 (by decide) rfl rfl ?_
      refine x_aload (q := 31) C 5 dX3_dawn_29 rfl rfl ?_
      refine x_iconst (q := 32) C dX3_dawn_31 ki_5 rfl ?_
      refine x_iconst (q := 33) C dX3_dawn_32 ki_0 rfl ?_
      have hb9 : xin 5 8 = true := by decide
      obtain ⟨S10, eS10, hf⟩ := lt_elim hf
      refine x_iast (q := 34) (ws' := sC y bS aS Y S10) C 0 dX3_dawn_33 (aX3_r2 y bS aS Y S6 (xin_lt hb8)) rfl hb9 (congrArg (fun z => sC y bS aS Y z) eS10.symm) rfl ?_
      refine x_iinc (q := 37) C 4 (v5 + 1) [1, 2, 3, 4, 0] [(0, .ref bS), (1, .int v1), (2, .ref (aS 3)), (3, .int v4), (4, .int (v5 + 1))] dX3_dawn_34 rfl (congrArg (fun z => v5 + z) ki_1) (by decide) rfl rfl ?_
      refine x_goto (t := 17) C dX3_dawn_37 (by decide) ?_
      exact ih (v5 + 1) S10 hf
set_option maxHeartbeats 4000000 in
set_option maxRecDepth 100000 in
theorem w5_dawn_L51 {p : Program} {l : Launch} {e : Env} {s : State} {m : MethodId} {args : Array Value} {below : List Frame} {meth : Method} {c : Code} {D : va_G} {A : Nat → Prop} {y : Nat → ClassId} {bS : Nat} {aS : Nat → Nat} {Y : (Nat → Nat)} {v1 : Int32} {v11 : Int32} {r : Int32} {S' : St} {K : St → Option (Int32 × St)} (C : xC p s m args meth c D A cX3_dawn RX3 6 wsX3_dawn (xT y) (some .int)) (hK : ∀ (S14 : St), K S14 = some (r, S') → xV p l e { frames := 1, cells := 0, slots := 0, locals := 26 } s m args below meth c D A (xQi D (xT y) A (fun (r' : Int32) (_ : Unit) => r' = r) (fun _ : Unit => sC y bS aS Y S') 0 0 below args s) 6 (sC y bS aS Y S14) 0 0 [(0, .ref bS), (1, .int v1)] 93 []) : ∀ (fu : Nat) (v12 : Int32) (S13 : St), f5_dawn_L51 v11 Y K fu v12 S13 = some (r, S') → xV p l e { frames := 1, cells := 0, slots := 0, locals := 26 } s m args below meth c D A (xQi D (xT y) A (fun (r' : Int32) (_ : Unit) => r' = r) (fun _ : Unit => sC y bS aS Y S') 0 0 below args s) 6 (sC y bS aS Y S13) 0 0 [(0, .ref bS), (1, .int v1), (2, .ref (aS 4)), (3, .int v11), (4, .int v12)] 51 [] := by
  intro fu
  induction fu with
  | zero => intro v12 S13 hf; rw [f5_dawn_L51] at hf; cases hf
  | succ fu ih =>
    intro v12 S13 hf
    rw [f5_dawn_L51] at hf
    refine x_iload (q := 53) C 4 dX3_dawn_51 rfl rfl ?_
    refine x_iload_n (q := 54) C 3 dX3_dawn_53 rfl rfl rfl ?_
    refine x_icmp_ge (t := 93) (q := 57) C dX3_dawn_54 (by decide) rfl (fun hc => ?_) (fun hc => ?_)
    · have hf := (if_pos hc).symm.trans hf
      refine x_sub [0, 1] (L' := [(0, .ref bS), (1, .int v1)]) rfl ?_
      exact hK S13 hf
    · have hf := (if_neg hc).symm.trans hf
      refine x_aload_n (q := 58) C 2 dX3_dawn_57 rfl rfl rfl ?_
      refine x_iload (q := 60) C 4 dX3_dawn_58 rfl rfl ?_
      obtain ⟨hb15, hf⟩ := gd_some hf
      refine x_aald (q := 61) C 2 dX3_dawn_60 (gX3_3 y bS aS Y S13) rfl rfl hb15 (if_pos (xin_lt hb15)) rfl ?_
      refine x_astore (q := 63) C [1, 2, 3, 4, 5, 0] [(0, .ref bS), (1, .int v1), (2, .ref (aS 4)), (3, .int v11), (4, .int v12), (5, .ref (aS (rk 12 v12.toNatClampNeg)))] dX3_dawn_61 (by decide) rfl rfl ?_
      refine x_aload (q := 65) C 5 dX3_dawn_63 rfl rfl ?_
      refine x_iconst (q := 66) C dX3_dawn_65 ki_1 rfl ?_
      refine x_aload (q := 68) C 5 dX3_dawn_66 rfl rfl ?_
      refine x_iconst (q := 69) C dX3_dawn_68 ki_0 rfl ?_
      have hb16 : xin 0 9 = true := by decide
      refine x_iald (q := 70) C 0 dX3_dawn_69 (aX3_r3 y bS aS Y S13 (xin_lt hb15)) rfl hb16 rfl ?_
      have hb17 : xin 1 9 = true := by decide
      obtain ⟨S18, eS18, hf⟩ := lt_elim hf
      refine x_iast (q := 71) (ws' := sC y bS aS Y S18) C 0 dX3_dawn_70 (aX3_r3 y bS aS Y S13 (xin_lt hb15)) rfl hb17 (congrArg (fun z => sC y bS aS Y z) eS18.symm) rfl ?_
      refine x_aload (q := 73) C 5 dX3_dawn_71 rfl rfl ?_
      refine x_iconst (q := 74) C dX3_dawn_73 ki_4 rfl ?_
      refine x_iconst (q := 75) C dX3_dawn_74 ki_m1 rfl ?_
      have hb19 : xin 4 9 = true := by decide
      obtain ⟨S20, eS20, hf⟩ := lt_elim hf
      refine x_iast (q := 76) (ws' := sC y bS aS Y S20) C 0 dX3_dawn_75 (aX3_r3 y bS aS Y S18 (xin_lt hb15)) rfl hb19 (congrArg (fun z => sC y bS aS Y z) eS20.symm) rfl ?_
      refine x_aload (q := 78) C 5 dX3_dawn_76 rfl rfl ?_
      refine x_iconst (q := 79) C dX3_dawn_78 ki_5 rfl ?_
      refine x_iconst (q := 80) C dX3_dawn_79 ki_0 rfl ?_
      have hb21 : xin 5 9 = true := by decide
      obtain ⟨S22, eS22, hf⟩ := lt_elim hf
      refine x_iast (q := 81) (ws' := sC y bS aS Y S22) C 0 dX3_dawn_80 (aX3_r3 y bS aS Y S20 (xin_lt hb15)) rfl hb21 (congrArg (fun z => sC y bS aS Y z) eS22.symm) rfl ?_
      refine x_aload (q := 83) C 5 dX3_dawn_81 rfl rfl ?_
      refine x_bipush (q := 85) C dX3_dawn_83 kb_7 rfl ?_
      refine x_iconst (q := 86) C dX3_dawn_85 ki_m1 rfl ?_
      have hb23 : xin 7 9 = true := by decide
      obtain ⟨S24, eS24, hf⟩ := lt_elim hf
      refine x_iast (q := 87) (ws' := sC y bS aS Y S24) C 0 dX3_dawn_86 (aX3_r3 y bS aS Y S22 (xin_lt hb15)) rfl hb23 (congrArg (fun z => sC y bS aS Y z) eS24.symm) rfl ?_
      refine x_iinc (q := 90) C 4 (v12 + 1) [1, 2, 3, 4, 0] [(0, .ref bS), (1, .int v1), (2, .ref (aS 4)), (3, .int v11), (4, .int (v12 + 1))] dX3_dawn_87 rfl (congrArg (fun z => v12 + z) ki_1) (by decide) rfl rfl ?_
      refine x_goto (t := 51) C dX3_dawn_90 (by decide) ?_
      exact ih (v12 + 1) S24 hf
set_option maxHeartbeats 4000000 in
set_option maxRecDepth 100000 in
theorem c5_dawn {l : Launch} {D : va_G} {y : Nat → ClassId} {bS : Nat} {aS : Nat → Nat} {Y : (Nat → Nat)} {S : St} {r : Int32} {S' : St} (hf : f5_dawn Y S = some (r, S')) : xMi l yX3_dawn wsX3_dawn 1 26 0 0 D (xT y) [.ref bS] (sC y bS aS Y S) (fun (r' : Int32) (_ : Unit) => r' = r) (fun _ : Unit => sC y bS aS Y S') := by
  refine xMi_of (cc := cX3_dawn) (nL := 6) (ret := (some .int)) [(0, .ref bS)] (by decide) rfl (Nat.le_of_ble_eq_true rfl) rfl ?_
  intro p e s m args below meth c A C hin
  have C : xC p s m args meth c D A cX3_dawn RX3 6 wsX3_dawn (xT y) (some .int) := C
  unfold f5_dawn at hf
  refine x_aload_n (q := 1) C 0 dX3_dawn_0 rfl rfl rfl ?_
  refine x_iconst (q := 2) C dX3_dawn_1 ki_5 rfl ?_
  obtain ⟨v1, hcal2, hf⟩ := bd_some hf
  refine x_callVi (q := 5) C (c5_sum (l := l) (D := D) (y := y) (bS := bS) (aS := aS) hcal2) yi_X3_sum gX3_dawn_X3_sum rfl (oX3 y bS aS Y S) rfl ⟨(Nat.le_of_ble_eq_true rfl), (Nat.le_of_ble_eq_true rfl)⟩ dX3_dawn_2 pm_nil rfl rfl (Nat.le_of_ble_eq_true rfl) ⟨Nat.le_of_ble_eq_true rfl, Nat.le_of_ble_eq_true rfl⟩ rfl ?_
  intro rr3 uu hrr
  have hrr : v1 = rr3 := Eq.symm hrr
  subst hrr
  refine x_world (ws' := sC y bS aS Y S) (List.append_nil _) ?_
  refine x_istore_n (q := 6) C [1, 0] [(0, .ref bS), (1, .int v1)] dX3_dawn_5 rfl (by decide) rfl rfl ?_
  refine x_aload_n (q := 7) C 0 dX3_dawn_6 rfl rfl rfl ?_
  refine x_get (q := 10) C 2 dX3_dawn_7 (oX3 y bS aS Y S) rfl iuX3_dawn_X3 flX3_dawn_18 rfl (by decide) rfl rfl ?_
  refine x_astore_n (q := 11) C [1, 2, 0] [(0, .ref bS), (1, .int v1), (2, .ref (aS 3))] dX3_dawn_10 rfl (by decide) rfl rfl ?_
  refine x_aload_n (q := 12) C 2 dX3_dawn_11 rfl rfl rfl ?_
  refine x_alenr (q := 13) C 2 dX3_dawn_12 (gX3_2 y bS aS Y S) rfl rfl ?_
  obtain ⟨v4, ev4, hf⟩ := lt_elim hf
  refine x_topi ev4 ?_
  refine x_istore_n (q := 14) C [1, 2, 3, 0] [(0, .ref bS), (1, .int v1), (2, .ref (aS 3)), (3, .int v4)] dX3_dawn_13 rfl (by decide) rfl rfl ?_
  refine x_iconst (q := 15) C dX3_dawn_14 ki_0 rfl ?_
  refine x_istore (q := 17) C [1, 2, 3, 4, 0] [(0, .ref bS), (1, .int v1), (2, .ref (aS 3)), (3, .int v4), (4, .int 0)] dX3_dawn_15 (by decide) rfl rfl ?_
  refine w5_dawn_L17 C (fun S7 hf => ?_) xF 0 S hf
  refine x_aload_n (q := 41) C 0 dX3_dawn_40 rfl rfl rfl ?_
  refine x_get (q := 44) C 3 dX3_dawn_41 (oX3 y bS aS Y S7) rfl iuX3_dawn_X3 flX3_dawn_21 rfl (by decide) rfl rfl ?_
  refine x_astore_n (q := 45) C [1, 2, 0] [(0, .ref bS), (1, .int v1), (2, .ref (aS 4))] dX3_dawn_44 rfl (by decide) rfl rfl ?_
  refine x_aload_n (q := 46) C 2 dX3_dawn_45 rfl rfl rfl ?_
  refine x_alenr (q := 47) C 2 dX3_dawn_46 (gX3_3 y bS aS Y S7) rfl rfl ?_
  obtain ⟨v11, ev11, hf⟩ := lt_elim hf
  refine x_topi ev11 ?_
  refine x_istore_n (q := 48) C [1, 2, 3, 0] [(0, .ref bS), (1, .int v1), (2, .ref (aS 4)), (3, .int v11)] dX3_dawn_47 rfl (by decide) rfl rfl ?_
  refine x_iconst (q := 49) C dX3_dawn_48 ki_0 rfl ?_
  refine x_istore (q := 51) C [1, 2, 3, 4, 0] [(0, .ref bS), (1, .int v1), (2, .ref (aS 4)), (3, .int v11), (4, .int 0)] dX3_dawn_49 (by decide) rfl rfl ?_
  refine w5_dawn_L51 C (fun S14 hf => ?_) xF 0 S7 hf
  refine x_aload_n (q := 94) C 0 dX3_dawn_93 rfl rfl rfl ?_
  refine x_iconst (q := 95) C dX3_dawn_94 ki_0 rfl ?_
  obtain ⟨S25, eS25, hf⟩ := lt_elim hf
  refine x_puti (q := 98) (ws' := sC y bS aS Y S25) C tyX3 tyX3_ok nmX3 dX3_dawn_95 (iX3_6 y bS aS Y S14) rfl iuX3_dawn_X3 flX3_dawn_39 rfl (by decide) rfl rfl (congrArg (fun z => sC y bS aS Y z) eS25.symm) rfl ?_
  refine x_aload_n (q := 99) C 0 dX3_dawn_98 rfl rfl rfl ?_
  refine x_dup (q := 100) C dX3_dawn_99 rfl rfl ?_
  refine x_get (q := 103) C 7 dX3_dawn_100 (oX3 y bS aS Y S25) rfl iuX3_dawn_X3 flX3_dawn_70 rfl (by decide) rfl rfl ?_
  refine x_iconst (q := 104) C dX3_dawn_103 ki_1 rfl ?_
  refine x_iadd (q := 105) C dX3_dawn_104 rfl ?_
  obtain ⟨S26, eS26, hf⟩ := lt_elim hf
  refine x_puti (q := 108) (ws' := sC y bS aS Y S26) C tyX3 tyX3_ok nmX3 dX3_dawn_105 (iX3_7 y bS aS Y S25) rfl iuX3_dawn_X3 flX3_dawn_70 rfl (by decide) rfl rfl (congrArg (fun z => sC y bS aS Y z) eS26.symm) rfl ?_
  refine x_iload_n (q := 109) C 1 dX3_dawn_108 rfl rfl rfl ?_
  have hf := Option.some.inj hf
  obtain ⟨hr0, hr1⟩ := Prod.mk.inj hf
  exact x_iret () C dX3_dawn_109 rfl hr0 (congrArg (fun z => sC y bS aS Y z) hr1) (Nat.le_of_ble_eq_true rfl) (Nat.le_of_ble_eq_true rfl)

/-! LampHillsLaw$Sim.dark()I -/
theorem flX3_dark_14 : Cond.fieldLink RX3 14 "LampHillsLaw$Sim" "streets" "[[I" ∈ wsX3_dark := by decide +kernel
theorem iuX3_dark_X3 : ∀ w ∈ u_ws RX3 TX3 10, w ∈ wsX3_dark := fun _ h => List.mem_cons_of_mem _ (List.mem_append_right _ h)
theorem yi_X3_burning : xY yX3_burning wsX3_burning cX3_burning 7 (some .int) 1 := ⟨⟨_, rfl⟩, by decide +kernel, by decide +kernel, by decide +kernel⟩
def f5_dark_L4 (Y : (Nat → Nat)) (S : St) : Nat → Int32 → Int32 → Option (Int32)
  | 0, _, _ => none
  | fu + 1, v1, v2 =>
  if (Int32.ofNat (Y 2)) ≤ v2 then
  (
    some v1
  )
  else
  (
    bd (f5_burning Y S v2) fun v3 =>
    lt_ (fun (v6 : Int32) =>
    (
      lt_ (v1 + v6) fun v7 =>
      f5_dark_L4 Y S fu v7 (v2 + 1)
    )
    ) fun J27 =>
    if v3 = 0 then
    (
      J27 1
    )
    else
    (
      J27 0
    )
  )
def f5_dark (Y : (Nat → Nat)) (S : St) : Option (Int32) :=
  f5_dark_L4 Y S xF 0 0
set_option maxHeartbeats 4000000 in
set_option maxRecDepth 100000 in
theorem w5_dark_L4 {p : Program} {l : Launch} {e : Env} {s : State} {m : MethodId} {args : Array Value} {below : List Frame} {meth : Method} {c : Code} {D : va_G} {A : Nat → Prop} {y : Nat → ClassId} {bS : Nat} {aS : Nat → Nat} {Y : (Nat → Nat)} {S : St} {r : Int32} (C : xC p s m args meth c D A cX3_dark RX3 3 wsX3_dark (xT y) (some .int)) : ∀ (fu : Nat) (v1 : Int32) (v2 : Int32), f5_dark_L4 Y S fu v1 v2 = some r → xV p l e { frames := 1, cells := 0, slots := 0, locals := 26 } s m args below meth c D A (xQi D (xT y) A (fun (r' : Int32) (_ : Unit) => r' = r) (fun _ : Unit => sC y bS aS Y S) 0 0 below args s) 3 (sC y bS aS Y S) 0 0 [(0, .ref bS), (1, .int v1), (2, .int v2)] 4 [] := by
  intro fu
  induction fu with
  | zero => intro v1 v2 hf; rw [f5_dark_L4] at hf; cases hf
  | succ fu ih =>
    intro v1 v2 hf
    rw [f5_dark_L4] at hf
    refine x_iload_n (q := 5) C 2 dX3_dark_4 rfl rfl rfl ?_
    refine x_aload_n (q := 6) C 0 dX3_dark_5 rfl rfl rfl ?_
    refine x_get (q := 9) C 1 dX3_dark_6 (oX3 y bS aS Y S) rfl iuX3_dark_X3 flX3_dark_14 rfl (by decide) rfl rfl ?_
    refine x_alenr (q := 10) C 2 dX3_dark_9 (gX3_1 y bS aS Y S) rfl rfl ?_
    refine x_icmp_ge (t := 35) (q := 13) C dX3_dark_10 (by decide) rfl (fun hc => ?_) (fun hc => ?_)
    · have hf := (if_pos hc).symm.trans hf
      refine x_iload_n (q := 36) C 1 dX3_dark_35 rfl rfl rfl ?_
      have hf := Option.some.inj hf
      exact x_iret () C dX3_dark_36 rfl hf rfl (Nat.le_of_ble_eq_true rfl) (Nat.le_of_ble_eq_true rfl)
    · have hf := (if_neg hc).symm.trans hf
      refine x_iload_n (q := 14) C 1 dX3_dark_13 rfl rfl rfl ?_
      refine x_aload_n (q := 15) C 0 dX3_dark_14 rfl rfl rfl ?_
      refine x_iload_n (q := 16) C 2 dX3_dark_15 rfl rfl rfl ?_
      obtain ⟨v3, hcal4, hf⟩ := bd_some hf
      refine x_callVi (q := 19) C (c5_burning (l := l) (D := D) (y := y) (bS := bS) (aS := aS) hcal4) yi_X3_burning gX3_dark_X3_burning rfl (oX3 y bS aS Y S) rfl ⟨(Nat.le_of_ble_eq_true rfl), (Nat.le_of_ble_eq_true rfl)⟩ dX3_dark_16 pm_nil rfl rfl (Nat.le_of_ble_eq_true rfl) ⟨Nat.le_of_ble_eq_true rfl, Nat.le_of_ble_eq_true rfl⟩ rfl ?_
      intro rr5 uu hrr
      have hrr : v3 = rr5 := Eq.symm hrr
      subst hrr
      refine x_world (ws' := sC y bS aS Y S) (List.append_nil _) ?_
      obtain ⟨J27, eJ27, hf⟩ := lt_elim hf
      have hJ27 : ∀ (v6 : Int32), J27 v6 = some r → xV p l e { frames := 1, cells := 0, slots := 0, locals := 26 } s m args below meth c D A (xQi D (xT y) A (fun (r' : Int32) (_ : Unit) => r' = r) (fun _ : Unit => sC y bS aS Y S) 0 0 below args s) 3 (sC y bS aS Y S) 0 0 [(0, .ref bS), (2, .int v2)] 27 [.int v6, .int v1] := by
        intro v6 hf
        subst eJ27
        refine x_iadd (q := 28) C dX3_dark_27 rfl ?_
        obtain ⟨v7, ev7, hf⟩ := lt_elim hf
        refine x_topi ev7 ?_
        refine x_istore_n (q := 29) C [1, 0, 2] [(0, .ref bS), (1, .int v7), (2, .int v2)] dX3_dark_28 rfl (by decide) rfl rfl ?_
        refine x_iinc (q := 32) C 2 (v2 + 1) [1, 2, 0] [(0, .ref bS), (1, .int v7), (2, .int (v2 + 1))] dX3_dark_29 rfl (congrArg (fun z => v2 + z) ki_1) (by decide) rfl rfl ?_
        refine x_goto (t := 4) C dX3_dark_32 (by decide) ?_
        exact ih v7 (v2 + 1) hf
      refine x_if_ne (t := 26) (q := 22) C dX3_dark_19 (by decide) rfl (fun hc => ?_) (fun hc => ?_)
      · have hf := (if_neg hc).symm.trans hf
        refine x_iconst (q := 27) C dX3_dark_26 ki_0 rfl ?_
        refine x_sub [0, 2] (L' := [(0, .ref bS), (2, .int v2)]) rfl ?_
        exact hJ27 0 hf
      · have hf := (if_pos hc).symm.trans hf
        refine x_iconst (q := 23) C dX3_dark_22 ki_1 rfl ?_
        refine x_goto (t := 27) C dX3_dark_23 (by decide) ?_
        refine x_sub [0, 2] (L' := [(0, .ref bS), (2, .int v2)]) rfl ?_
        exact hJ27 1 hf
set_option maxHeartbeats 4000000 in
set_option maxRecDepth 100000 in
theorem c5_dark {l : Launch} {D : va_G} {y : Nat → ClassId} {bS : Nat} {aS : Nat → Nat} {Y : (Nat → Nat)} {S : St} {r : Int32} (hf : f5_dark Y S = some r) : xMi l yX3_dark wsX3_dark 1 26 0 0 D (xT y) [.ref bS] (sC y bS aS Y S) (fun (r' : Int32) (_ : Unit) => r' = r) (fun _ : Unit => sC y bS aS Y S) := by
  refine xMi_of (cc := cX3_dark) (nL := 3) (ret := (some .int)) [(0, .ref bS)] (by decide) rfl (Nat.le_of_ble_eq_true rfl) rfl ?_
  intro p e s m args below meth c A C hin
  have C : xC p s m args meth c D A cX3_dark RX3 3 wsX3_dark (xT y) (some .int) := C
  unfold f5_dark at hf
  refine x_iconst (q := 1) C dX3_dark_0 ki_0 rfl ?_
  refine x_istore_n (q := 2) C [1, 0] [(0, .ref bS), (1, .int 0)] dX3_dark_1 rfl (by decide) rfl rfl ?_
  refine x_iconst (q := 3) C dX3_dark_2 ki_0 rfl ?_
  refine x_istore_n (q := 4) C [1, 2, 0] [(0, .ref bS), (1, .int 0), (2, .int 0)] dX3_dark_3 rfl (by decide) rfl rfl ?_
  exact w5_dark_L4 C xF 0 0 hf
