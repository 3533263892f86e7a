/-! LampHills$Town.addCorner(I)I -/
theorem ki_0 : Int32.ofInt 0 = 0 := by decide
theorem ki_1 : Int32.ofInt 1 = 1 := by decide
theorem kX1_addCorner_57 : Cond.constant RX1 57 (1000000) ∈ wsX1_addCorner := by decide +kernel
theorem flX1_addCorner_17 : Cond.fieldLink RX1 17 "LampHills$Town" "ways" "[[I" ∈ wsX1_addCorner := by decide +kernel
theorem flX1_addCorner_53 : Cond.fieldLink RX1 53 "LampHills$Town" "corners" "I" ∈ wsX1_addCorner := by decide +kernel
theorem flX1_addCorner_9 : Cond.fieldLink RX1 9 "LampHills$Town" "height" "[I" ∈ wsX1_addCorner := by decide +kernel
theorem iuX1_addCorner_X1 : ∀ w ∈ u_ws RX1 TX1 17, w ∈ wsX1_addCorner := fun _ h => List.mem_cons_of_mem _ (List.mem_append_right _ h)
def f1_addCorner_L14 (v1 : Int32) (K : St → Option (Int32 × St)) : Nat → Int32 → St → Option (Int32 × St)
  | 0, _, _ => none
  | fu + 1, v4, T5 =>
  if v1 ≤ v4 then
  (
    K T5
  )
  else
  (
    gd (xin v1 12) <|
    gd (xin v4 12) <|
    lt_ (up2 T5 (100 + v1.toNatClampNeg) v4.toNatClampNeg 1000000) fun T9 =>
    lt_ (up2 T9 (100 + v4.toNatClampNeg) v1.toNatClampNeg 1000000) fun T10 =>
    f1_addCorner_L14 v1 K fu (v4 + 1) T10
  )
def f1_addCorner (T : St) (p1 : Int32) : Option (Int32 × St) :=
  lt_ (T 0 0) fun v1 =>
  gd (xin v1 12) <|
  lt_ (up2 T 1 v1.toNatClampNeg p1) fun T3 =>
  f1_addCorner_L14 v1 (fun (T6 : St) =>
  (
    gd (xin v1 12) <|
    lt_ (up2 T6 (100 + v1.toNatClampNeg) v1.toNatClampNeg 0) fun T12 =>
    lt_ (up2 T12 0 0 ((T12 0 0) + 1)) fun T13 =>
    some (v1, T13)
  )
  ) xF 0 T3
set_option maxHeartbeats 4000000 in
set_option maxRecDepth 100000 in
theorem w1_addCorner_L14 {p : Program} {l : Launch} {e : Env} {s : State} {m : MethodId} {args : Array Value} {below : List Frame} {meth : Method} {c : Code} {D : va_G} {A : Nat → Prop} {y : Nat → ClassId} {aT : Nat → Nat} {v1 : Int32} {r : Int32} {T' : St} {K : St → Option (Int32 × St)} (C : xC p s m args meth c D A cX1_addCorner RX1 4 wsX1_addCorner (xT y) (some .int)) (hK : ∀ (T6 : St), K T6 = some (r, T') → xV p l e { frames := 0, cells := 0, slots := 0, locals := 0 } s m args below meth c D A (xQi D (xT y) A (fun (r' : Int32) (_ : Unit) => r' = r) (fun _ : Unit => tC y aT T') 0 0 below args s) 4 (tC y aT T6) 0 0 [(0, .ref (aT 0)), (2, .int v1)] 45 []) : ∀ (fu : Nat) (v4 : Int32) (T5 : St), f1_addCorner_L14 v1 K fu v4 T5 = some (r, T') → xV p l e { frames := 0, cells := 0, slots := 0, locals := 0 } s m args below meth c D A (xQi D (xT y) A (fun (r' : Int32) (_ : Unit) => r' = r) (fun _ : Unit => tC y aT T') 0 0 below args s) 4 (tC y aT T5) 0 0 [(0, .ref (aT 0)), (2, .int v1), (3, .int v4)] 14 [] := by
  intro fu
  induction fu with
  | zero => intro v4 T5 hf; rw [f1_addCorner_L14] at hf; cases hf
  | succ fu ih =>
    intro v4 T5 hf
    rw [f1_addCorner_L14] at hf
    refine x_iload_n (q := 15) C 2 dX1_addCorner_14 rfl rfl rfl ?_
    refine x_iload_n (q := 16) C 1 dX1_addCorner_15 rfl rfl rfl ?_
    refine x_icmp_ge (t := 45) (q := 19) C dX1_addCorner_16 (by decide) rfl (fun hc => ?_) (fun hc => ?_)
    · have hf := (if_pos hc).symm.trans hf
      refine x_sub [0, 1] (L' := [(0, .ref (aT 0)), (2, .int v1)]) rfl ?_
      exact hK T5 hf
    · have hf := (if_neg hc).symm.trans hf
      refine x_aload_n (q := 20) C 0 dX1_addCorner_19 rfl rfl rfl ?_
      refine x_get (q := 23) C 2 dX1_addCorner_20 (oX1 y aT T5) rfl iuX1_addCorner_X1 flX1_addCorner_17 rfl (by decide) rfl rfl ?_
      refine x_iload_n (q := 24) C 1 dX1_addCorner_23 rfl rfl rfl ?_
      obtain ⟨hb7, hf⟩ := gd_some hf
      refine x_aald (q := 25) C 2 dX1_addCorner_24 (gX1_2 y aT T5) rfl rfl hb7 (if_pos (xin_lt hb7)) rfl ?_
      refine x_iload_n (q := 26) C 2 dX1_addCorner_25 rfl rfl rfl ?_
      refine x_ldc (q := 28) C dX1_addCorner_26 kX1_addCorner_57 rfl ?_
      obtain ⟨hb8, hf⟩ := gd_some hf
      obtain ⟨T9, eT9, hf⟩ := lt_elim hf
      refine x_iast (q := 29) (ws' := tC y aT T9) C 0 dX1_addCorner_28 (aX1_r2 y aT T5 (xin_lt hb7)) rfl hb8 (congrArg (fun z => tC y aT z) eT9.symm) rfl ?_
      refine x_aload_n (q := 30) C 0 dX1_addCorner_29 rfl rfl rfl ?_
      refine x_get (q := 33) C 2 dX1_addCorner_30 (oX1 y aT T9) rfl iuX1_addCorner_X1 flX1_addCorner_17 rfl (by decide) rfl rfl ?_
      refine x_iload_n (q := 34) C 2 dX1_addCorner_33 rfl rfl rfl ?_
      refine x_aald (q := 35) C 2 dX1_addCorner_34 (gX1_2 y aT T9) rfl rfl hb8 (if_pos (xin_lt hb8)) rfl ?_
      refine x_iload_n (q := 36) C 1 dX1_addCorner_35 rfl rfl rfl ?_
      refine x_ldc (q := 38) C dX1_addCorner_36 kX1_addCorner_57 rfl ?_
      obtain ⟨T10, eT10, hf⟩ := lt_elim hf
      refine x_iast (q := 39) (ws' := tC y aT T10) C 0 dX1_addCorner_38 (aX1_r2 y aT T9 (xin_lt hb8)) rfl hb7 (congrArg (fun z => tC y aT z) eT10.symm) rfl ?_
      refine x_iinc (q := 42) C 2 (v4 + 1) [1, 2, 0] [(0, .ref (aT 0)), (2, .int v1), (3, .int (v4 + 1))] dX1_addCorner_39 rfl (congrArg (fun z => v4 + z) ki_1) (by decide) rfl rfl ?_
      refine x_goto (t := 14) C dX1_addCorner_42 (by decide) ?_
      exact ih (v4 + 1) T10 hf
set_option maxHeartbeats 4000000 in
set_option maxRecDepth 100000 in
theorem c1_addCorner {l : Launch} {D : va_G} {y : Nat → ClassId} {aT : Nat → Nat} {T : St} {p1 : Int32} {r : Int32} {T' : St} (hf : f1_addCorner T p1 = some (r, T')) : xMi l yX1_addCorner wsX1_addCorner 0 0 0 0 D (xT y) [.ref (aT 0), .int p1] (tC y aT T) (fun (r' : Int32) (_ : Unit) => r' = r) (fun _ : Unit => tC y aT T') := by
  refine xMi_of (cc := cX1_addCorner) (nL := 4) (ret := (some .int)) [(0, .ref (aT 0)), (1, .int p1)] (by decide) rfl (Nat.le_of_ble_eq_true rfl) rfl ?_
  intro p e s m args below meth c A C hin
  have C : xC p s m args meth c D A cX1_addCorner RX1 4 wsX1_addCorner (xT y) (some .int) := C
  unfold f1_addCorner at hf
  refine x_aload_n (q := 1) C 0 dX1_addCorner_0 rfl rfl rfl ?_
  refine x_get (q := 4) C 0 dX1_addCorner_1 (oX1 y aT T) rfl iuX1_addCorner_X1 flX1_addCorner_53 rfl (by decide) rfl rfl ?_
  obtain ⟨v1, ev1, hf⟩ := lt_elim hf
  refine x_topi ev1 ?_
  refine x_istore_n (q := 5) C [1, 2, 0] [(0, .ref (aT 0)), (1, .int p1), (2, .int v1)] dX1_addCorner_4 rfl (by decide) rfl rfl ?_
  refine x_aload_n (q := 6) C 0 dX1_addCorner_5 rfl rfl rfl ?_
  refine x_get (q := 9) C 1 dX1_addCorner_6 (oX1 y aT T) rfl iuX1_addCorner_X1 flX1_addCorner_9 rfl (by decide) rfl rfl ?_
  refine x_iload_n (q := 10) C 2 dX1_addCorner_9 rfl rfl rfl ?_
  refine x_iload_n (q := 11) C 1 dX1_addCorner_10 rfl rfl rfl ?_
  obtain ⟨hb2, hf⟩ := gd_some hf
  obtain ⟨T3, eT3, hf⟩ := lt_elim hf
  refine x_iast (q := 12) (ws' := tC y aT T3) C 0 dX1_addCorner_11 (aX1_1 y aT T) rfl hb2 (congrArg (fun z => tC y aT z) eT3.symm) rfl ?_
  refine x_iconst (q := 13) C dX1_addCorner_12 ki_0 rfl ?_
  refine x_istore_n (q := 14) C [1, 3, 0] [(0, .ref (aT 0)), (2, .int v1), (3, .int 0)] dX1_addCorner_13 rfl (by decide) rfl rfl ?_
  refine w1_addCorner_L14 C (fun T6 hf => ?_) xF 0 T3 hf
  refine x_aload_n (q := 46) C 0 dX1_addCorner_45 rfl rfl rfl ?_
  refine x_get (q := 49) C 2 dX1_addCorner_46 (oX1 y aT T6) rfl iuX1_addCorner_X1 flX1_addCorner_17 rfl (by decide) rfl rfl ?_
  refine x_iload_n (q := 50) C 1 dX1_addCorner_49 rfl rfl rfl ?_
  obtain ⟨hb11, hf⟩ := gd_some hf
  refine x_aald (q := 51) C 2 dX1_addCorner_50 (gX1_2 y aT T6) rfl rfl hb11 (if_pos (xin_lt hb11)) rfl ?_
  refine x_iload_n (q := 52) C 1 dX1_addCorner_51 rfl rfl rfl ?_
  refine x_iconst (q := 53) C dX1_addCorner_52 ki_0 rfl ?_
  obtain ⟨T12, eT12, hf⟩ := lt_elim hf
  refine x_iast (q := 54) (ws' := tC y aT T12) C 0 dX1_addCorner_53 (aX1_r2 y aT T6 (xin_lt hb11)) rfl hb11 (congrArg (fun z => tC y aT z) eT12.symm) rfl ?_
  refine x_aload_n (q := 55) C 0 dX1_addCorner_54 rfl rfl rfl ?_
  refine x_dup (q := 56) C dX1_addCorner_55 rfl rfl ?_
  refine x_get (q := 59) C 0 dX1_addCorner_56 (oX1 y aT T12) rfl iuX1_addCorner_X1 flX1_addCorner_53 rfl (by decide) rfl rfl ?_
  refine x_iconst (q := 60) C dX1_addCorner_59 ki_1 rfl ?_
  refine x_iadd (q := 61) C dX1_addCorner_60 rfl ?_
  obtain ⟨T13, eT13, hf⟩ := lt_elim hf
  refine x_puti (q := 64) (ws' := tC y aT T13) C tyX1 tyX1_ok nmX1 dX1_addCorner_61 (iX1_0 y aT T12) rfl iuX1_addCorner_X1 flX1_addCorner_53 rfl (by decide) rfl rfl (congrArg (fun z => tC y aT z) eT13.symm) rfl ?_
  refine x_iload_n (q := 65) C 1 dX1_addCorner_64 rfl rfl rfl ?_
  have hf := Option.some.inj hf
  obtain ⟨hr0, hr1⟩ := Prod.mk.inj hf
  exact x_iret () C dX1_addCorner_65 rfl hr0 (congrArg (fun z => tC y aT z) hr1) (Nat.le_of_ble_eq_true rfl) (Nat.le_of_ble_eq_true rfl)

/-! LampHills$Town.minutesAlong(III)I -/
theorem ki_2 : Int32.ofInt 2 = 2 := by decide
theorem flX1_minutesAlong_9 : Cond.fieldLink RX1 9 "LampHills$Town" "height" "[I" ∈ wsX1_minutesAlong := by decide +kernel
theorem iuX1_minutesAlong_X1 : ∀ w ∈ u_ws RX1 TX1 17, w ∈ wsX1_minutesAlong := fun _ h => List.mem_cons_of_mem _ (List.mem_append_right _ h)
theorem kmX1_minutesAlong_75 : ∀ w ∈ ([.methodLink RX1 75 Lib.Math.max.name, .static Lib.Math.max.name, .initialized "java/lang/Math", .code Lib.Math.max.name Lib.Math.max.code 2 (some .int)] : List Cond), w ∈ wsX1_minutesAlong := by decide +kernel
def f1_minutesAlong (T : St) (p1 : Int32) (p2 : Int32) (p3 : Int32) : Option (Int32) :=
  gd (xin p2 12) <|
  gd (xin p1 12) <|
  some (p3 + ((if (0 : Int32) < ((T 1 p2.toNatClampNeg) - (T 1 p1.toNatClampNeg)) then ((T 1 p2.toNatClampNeg) - (T 1 p1.toNatClampNeg)) else (0 : Int32)) / 2))
set_option maxHeartbeats 4000000 in
set_option maxRecDepth 100000 in
theorem c1_minutesAlong {l : Launch} {D : va_G} {y : Nat → ClassId} {aT : Nat → Nat} {T : St} {p1 : Int32} {p2 : Int32} {p3 : Int32} {r : Int32} (hf : f1_minutesAlong T p1 p2 p3 = some r) : xMi l yX1_minutesAlong wsX1_minutesAlong 1 48 0 0 D (xT y) [.ref (aT 0), .int p1, .int p2, .int p3] (tC y aT T) (fun (r' : Int32) (_ : Unit) => r' = r) (fun _ : Unit => tC y aT T) := by
  refine xMi_of (cc := cX1_minutesAlong) (nL := 4) (ret := (some .int)) [(0, .ref (aT 0)), (1, .int p1), (2, .int p2), (3, .int p3)] (by decide) rfl (Nat.le_of_ble_eq_true rfl) rfl ?_
  intro p e s m args below meth c A C hin
  have C : xC p s m args meth c D A cX1_minutesAlong RX1 4 wsX1_minutesAlong (xT y) (some .int) := C
  unfold f1_minutesAlong at hf
  refine x_iload_n (q := 1) C 3 dX1_minutesAlong_0 rfl rfl rfl ?_
  refine x_iconst (q := 2) C dX1_minutesAlong_1 ki_0 rfl ?_
  refine x_aload_n (q := 3) C 0 dX1_minutesAlong_2 rfl rfl rfl ?_
  refine x_get (q := 6) C 1 dX1_minutesAlong_3 (oX1 y aT T) rfl iuX1_minutesAlong_X1 flX1_minutesAlong_9 rfl (by decide) rfl rfl ?_
  refine x_iload_n (q := 7) C 2 dX1_minutesAlong_6 rfl rfl rfl ?_
  obtain ⟨hb1, hf⟩ := gd_some hf
  refine x_iald (q := 8) C 0 dX1_minutesAlong_7 (aX1_1 y aT T) rfl hb1 rfl ?_
  refine x_aload_n (q := 9) C 0 dX1_minutesAlong_8 rfl rfl rfl ?_
  refine x_get (q := 12) C 1 dX1_minutesAlong_9 (oX1 y aT T) rfl iuX1_minutesAlong_X1 flX1_minutesAlong_9 rfl (by decide) rfl rfl ?_
  refine x_iload_n (q := 13) C 1 dX1_minutesAlong_12 rfl rfl rfl ?_
  obtain ⟨hb2, hf⟩ := gd_some hf
  refine x_iald (q := 14) C 0 dX1_minutesAlong_13 (aX1_1 y aT T) rfl hb2 rfl ?_
  refine x_isub (q := 15) C dX1_minutesAlong_14 rfl ?_
  refine x_mmax (q := 18) C dX1_minutesAlong_15 kmX1_minutesAlong_75 (Nat.le_of_ble_eq_true rfl) (Nat.le_of_ble_eq_true rfl) (Nat.le_of_ble_eq_true rfl) (Nat.le_of_ble_eq_true rfl) rfl ?_
  refine x_iconst (q := 19) C dX1_minutesAlong_18 ki_2 rfl ?_
  refine x_idiv (q := 20) C dX1_minutesAlong_19 (by decide) rfl ?_
  refine x_iadd (q := 21) C dX1_minutesAlong_20 rfl ?_
  have hf := Option.some.inj hf
  exact x_iret () C dX1_minutesAlong_21 rfl hf rfl (Nat.le_of_ble_eq_true rfl) (Nat.le_of_ble_eq_true rfl)

/-! LampHills$Town.shortenWays(III)V -/
theorem flX1_shortenWays_17 : Cond.fieldLink RX1 17 "LampHills$Town" "ways" "[[I" ∈ wsX1_shortenWays := by decide +kernel
theorem flX1_shortenWays_53 : Cond.fieldLink RX1 53 "LampHills$Town" "corners" "I" ∈ wsX1_shortenWays := by decide +kernel
theorem iuX1_shortenWays_X1 : ∀ w ∈ u_ws RX1 TX1 17, w ∈ wsX1_shortenWays := fun _ h => List.mem_cons_of_mem _ (List.mem_append_right _ h)
theorem kmX1_shortenWays_81 : ∀ w ∈ ([.methodLink RX1 81 Lib.Math.min.name, .static Lib.Math.min.name, .initialized "java/lang/Math", .code Lib.Math.min.name Lib.Math.min.code 2 (some .int)] : List Cond), w ∈ wsX1_shortenWays := by decide +kernel
def f1_shortenWays_L15 (p1 : Int32) (p2 : Int32) (p3 : Int32) (v1 : Int32) (K : St → Option (St)) : Nat → Int32 → St → Option (St)
  | 0, _, _ => none
  | fu + 1, v3, T4 =>
  if (T4 0 0) ≤ v3 then
  (
    K T4
  )
  else
  (
    gd (xin v1 12) <|
    gd (xin p1 12) <|
    gd (xin p2 12) <|
    gd (xin v3 12) <|
    lt_ (((T4 (100 + v1.toNatClampNeg) p1.toNatClampNeg) + p3) + (T4 (100 + p2.toNatClampNeg) v3.toNatClampNeg)) fun v10 =>
    lt_ (up2 T4 (100 + v1.toNatClampNeg) v3.toNatClampNeg (if v10 < (T4 (100 + v1.toNatClampNeg) v3.toNatClampNeg) then v10 else (T4 (100 + v1.toNatClampNeg) v3.toNatClampNeg))) fun T11 =>
    f1_shortenWays_L15 p1 p2 p3 v1 K fu (v3 + 1) T11
  )
def f1_shortenWays_L3 (p1 : Int32) (p2 : Int32) (p3 : Int32) : Nat → Int32 → St → Option (St)
  | 0, _, _ => none
  | fu + 1, v1, T2 =>
  if (T2 0 0) ≤ v1 then
  (
    some T2
  )
  else
  (
    f1_shortenWays_L15 p1 p2 p3 v1 (fun (T5 : St) =>
    (
      f1_shortenWays_L3 p1 p2 p3 fu (v1 + 1) T5
    )
    ) xF 0 T2
  )
def f1_shortenWays (T : St) (p1 : Int32) (p2 : Int32) (p3 : Int32) : Option (St) :=
  f1_shortenWays_L3 p1 p2 p3 xF 0 T
set_option maxHeartbeats 4000000 in
set_option maxRecDepth 100000 in
theorem w1_shortenWays_L15 {p : Program} {l : Launch} {e : Env} {s : State} {m : MethodId} {args : Array Value} {below : List Frame} {meth : Method} {c : Code} {D : va_G} {A : Nat → Prop} {y : Nat → ClassId} {aT : Nat → Nat} {p1 : Int32} {p2 : Int32} {p3 : Int32} {v1 : Int32} {T' : St} {K : St → Option (St)} (C : xC p s m args meth c D A cX1_shortenWays RX1 7 wsX1_shortenWays (xT y) none) (hK : ∀ (T5 : St), K T5 = some T' → xV p l e { frames := 1, cells := 0, slots := 0, locals := 48 } s m args below meth c D A (xQv D (xT y) A (fun (_ : Unit) => True) (fun _ : Unit => tC y aT T') 0 0 below args s) 7 (tC y aT T5) 0 0 [(0, .ref (aT 0)), (1, .int p1), (2, .int p2), (3, .int p3), (4, .int v1)] 78 []) : ∀ (fu : Nat) (v3 : Int32) (T4 : St), f1_shortenWays_L15 p1 p2 p3 v1 K fu v3 T4 = some T' → xV p l e { frames := 1, cells := 0, slots := 0, locals := 48 } s m args below meth c D A (xQv D (xT y) A (fun (_ : Unit) => True) (fun _ : Unit => tC y aT T') 0 0 below args s) 7 (tC y aT T4) 0 0 [(0, .ref (aT 0)), (1, .int p1), (2, .int p2), (3, .int p3), (4, .int v1), (5, .int v3)] 15 [] := by
  intro fu
  induction fu with
  | zero => intro v3 T4 hf; rw [f1_shortenWays_L15] at hf; cases hf
  | succ fu ih =>
    intro v3 T4 hf
    rw [f1_shortenWays_L15] at hf
    refine x_iload (q := 17) C 5 dX1_shortenWays_15 rfl rfl ?_
    refine x_aload_n (q := 18) C 0 dX1_shortenWays_17 rfl rfl rfl ?_
    refine x_get (q := 21) C 0 dX1_shortenWays_18 (oX1 y aT T4) rfl iuX1_shortenWays_X1 flX1_shortenWays_53 rfl (by decide) rfl rfl ?_
    refine x_icmp_ge (t := 78) (q := 24) C dX1_shortenWays_21 (by decide) rfl (fun hc => ?_) (fun hc => ?_)
    · have hf := (if_pos hc).symm.trans hf
      refine x_sub [0, 1, 2, 3, 4] (L' := [(0, .ref (aT 0)), (1, .int p1), (2, .int p2), (3, .int p3), (4, .int v1)]) rfl ?_
      exact hK T4 hf
    · have hf := (if_neg hc).symm.trans hf
      refine x_aload_n (q := 25) C 0 dX1_shortenWays_24 rfl rfl rfl ?_
      refine x_get (q := 28) C 2 dX1_shortenWays_25 (oX1 y aT T4) rfl iuX1_shortenWays_X1 flX1_shortenWays_17 rfl (by decide) rfl rfl ?_
      refine x_iload (q := 30) C 4 dX1_shortenWays_28 rfl rfl ?_
      obtain ⟨hb6, hf⟩ := gd_some hf
      refine x_aald (q := 31) C 2 dX1_shortenWays_30 (gX1_2 y aT T4) rfl rfl hb6 (if_pos (xin_lt hb6)) rfl ?_
      refine x_iload_n (q := 32) C 1 dX1_shortenWays_31 rfl rfl rfl ?_
      obtain ⟨hb7, hf⟩ := gd_some hf
      refine x_iald (q := 33) C 0 dX1_shortenWays_32 (aX1_r2 y aT T4 (xin_lt hb6)) rfl hb7 rfl ?_
      refine x_iload_n (q := 34) C 3 dX1_shortenWays_33 rfl rfl rfl ?_
      refine x_iadd (q := 35) C dX1_shortenWays_34 rfl ?_
      refine x_aload_n (q := 36) C 0 dX1_shortenWays_35 rfl rfl rfl ?_
      refine x_get (q := 39) C 2 dX1_shortenWays_36 (oX1 y aT T4) rfl iuX1_shortenWays_X1 flX1_shortenWays_17 rfl (by decide) rfl rfl ?_
      refine x_iload_n (q := 40) C 2 dX1_shortenWays_39 rfl rfl rfl ?_
      obtain ⟨hb8, hf⟩ := gd_some hf
      refine x_aald (q := 41) C 2 dX1_shortenWays_40 (gX1_2 y aT T4) rfl rfl hb8 (if_pos (xin_lt hb8)) rfl ?_
      refine x_iload (q := 43) C 5 dX1_shortenWays_41 rfl rfl ?_
      obtain ⟨hb9, hf⟩ := gd_some hf
      refine x_iald (q := 44) C 0 dX1_shortenWays_43 (aX1_r2 y aT T4 (xin_lt hb8)) rfl hb9 rfl ?_
      refine x_iadd (q := 45) C dX1_shortenWays_44 rfl ?_
      obtain ⟨v10, ev10, hf⟩ := lt_elim hf
      refine x_topi ev10 ?_
      refine x_istore (q := 47) C [1, 2, 3, 4, 5, 6, 0] [(0, .ref (aT 0)), (1, .int p1), (2, .int p2), (3, .int p3), (4, .int v1), (5, .int v3), (6, .int v10)] dX1_shortenWays_45 (by decide) rfl rfl ?_
      refine x_aload_n (q := 48) C 0 dX1_shortenWays_47 rfl rfl rfl ?_
      refine x_get (q := 51) C 2 dX1_shortenWays_48 (oX1 y aT T4) rfl iuX1_shortenWays_X1 flX1_shortenWays_17 rfl (by decide) rfl rfl ?_
      refine x_iload (q := 53) C 4 dX1_shortenWays_51 rfl rfl ?_
      refine x_aald (q := 54) C 2 dX1_shortenWays_53 (gX1_2 y aT T4) rfl rfl hb6 (if_pos (xin_lt hb6)) rfl ?_
      refine x_iload (q := 56) C 5 dX1_shortenWays_54 rfl rfl ?_
      refine x_aload_n (q := 57) C 0 dX1_shortenWays_56 rfl rfl rfl ?_
      refine x_get (q := 60) C 2 dX1_shortenWays_57 (oX1 y aT T4) rfl iuX1_shortenWays_X1 flX1_shortenWays_17 rfl (by decide) rfl rfl ?_
      refine x_iload (q := 62) C 4 dX1_shortenWays_60 rfl rfl ?_
      refine x_aald (q := 63) C 2 dX1_shortenWays_62 (gX1_2 y aT T4) rfl rfl hb6 (if_pos (xin_lt hb6)) rfl ?_
      refine x_iload (q := 65) C 5 dX1_shortenWays_63 rfl rfl ?_
      refine x_iald (q := 66) C 0 dX1_shortenWays_65 (aX1_r2 y aT T4 (xin_lt hb6)) rfl hb9 rfl ?_
      refine x_iload (q := 68) C 6 dX1_shortenWays_66 rfl rfl ?_
      refine x_mmin (q := 71) C dX1_shortenWays_68 kmX1_shortenWays_81 (Nat.le_of_ble_eq_true rfl) (Nat.le_of_ble_eq_true rfl) (Nat.le_of_ble_eq_true rfl) (Nat.le_of_ble_eq_true rfl) rfl ?_
      obtain ⟨T11, eT11, hf⟩ := lt_elim hf
      refine x_iast (q := 72) (ws' := tC y aT T11) C 0 dX1_shortenWays_71 (aX1_r2 y aT T4 (xin_lt hb6)) rfl hb9 (congrArg (fun z => tC y aT z) eT11.symm) rfl ?_
      refine x_iinc (q := 75) C 5 (v3 + 1) [1, 2, 3, 4, 5, 0] [(0, .ref (aT 0)), (1, .int p1), (2, .int p2), (3, .int p3), (4, .int v1), (5, .int (v3 + 1))] dX1_shortenWays_72 rfl (congrArg (fun z => v3 + z) ki_1) (by decide) rfl rfl ?_
      refine x_goto (t := 15) C dX1_shortenWays_75 (by decide) ?_
      exact ih (v3 + 1) T11 hf
set_option maxHeartbeats 4000000 in
set_option maxRecDepth 100000 in
theorem w1_shortenWays_L3 {p : Program} {l : Launch} {e : Env} {s : State} {m : MethodId} {args : Array Value} {below : List Frame} {meth : Method} {c : Code} {D : va_G} {A : Nat → Prop} {y : Nat → ClassId} {aT : Nat → Nat} {p1 : Int32} {p2 : Int32} {p3 : Int32} {T' : St} (C : xC p s m args meth c D A cX1_shortenWays RX1 7 wsX1_shortenWays (xT y) none) : ∀ (fu : Nat) (v1 : Int32) (T2 : St), f1_shortenWays_L3 p1 p2 p3 fu v1 T2 = some T' → xV p l e { frames := 1, cells := 0, slots := 0, locals := 48 } s m args below meth c D A (xQv D (xT y) A (fun (_ : Unit) => True) (fun _ : Unit => tC y aT T') 0 0 below args s) 7 (tC y aT T2) 0 0 [(0, .ref (aT 0)), (1, .int p1), (2, .int p2), (3, .int p3), (4, .int v1)] 3 [] := by
  intro fu
  induction fu with
  | zero => intro v1 T2 hf; rw [f1_shortenWays_L3] at hf; cases hf
  | succ fu ih =>
    intro v1 T2 hf
    rw [f1_shortenWays_L3] at hf
    refine x_iload (q := 5) C 4 dX1_shortenWays_3 rfl rfl ?_
    refine x_aload_n (q := 6) C 0 dX1_shortenWays_5 rfl rfl rfl ?_
    refine x_get (q := 9) C 0 dX1_shortenWays_6 (oX1 y aT T2) rfl iuX1_shortenWays_X1 flX1_shortenWays_53 rfl (by decide) rfl rfl ?_
    refine x_icmp_ge (t := 84) (q := 12) C dX1_shortenWays_9 (by decide) rfl (fun hc => ?_) (fun hc => ?_)
    · have hf := (if_pos hc).symm.trans hf
      have hf := Option.some.inj hf
      exact x_vret () C dX1_shortenWays_84 rfl trivial (congrArg (fun z => tC y aT z) hf) (Nat.le_of_ble_eq_true rfl) (Nat.le_of_ble_eq_true rfl)
    · have hf := (if_neg hc).symm.trans hf
      refine x_iconst (q := 13) C dX1_shortenWays_12 ki_0 rfl ?_
      refine x_istore (q := 15) C [1, 2, 3, 4, 5, 0] [(0, .ref (aT 0)), (1, .int p1), (2, .int p2), (3, .int p3), (4, .int v1), (5, .int 0)] dX1_shortenWays_13 (by decide) rfl rfl ?_
      refine w1_shortenWays_L15 C (fun T5 hf => ?_) xF 0 T2 hf
      refine x_iinc (q := 81) C 4 (v1 + 1) [1, 2, 3, 4, 0] [(0, .ref (aT 0)), (1, .int p1), (2, .int p2), (3, .int p3), (4, .int (v1 + 1))] dX1_shortenWays_78 rfl (congrArg (fun z => v1 + z) ki_1) (by decide) rfl rfl ?_
      refine x_goto (t := 3) C dX1_shortenWays_81 (by decide) ?_
      exact ih (v1 + 1) T5 hf
set_option maxHeartbeats 4000000 in
set_option maxRecDepth 100000 in
theorem c1_shortenWays {l : Launch} {D : va_G} {y : Nat → ClassId} {aT : Nat → Nat} {T : St} {p1 : Int32} {p2 : Int32} {p3 : Int32} {T' : St} (hf : f1_shortenWays T p1 p2 p3 = some T') : xMv l yX1_shortenWays wsX1_shortenWays 1 48 0 0 D (xT y) [.ref (aT 0), .int p1, .int p2, .int p3] (tC y aT T) (fun (_ : Unit) => True) (fun _ : Unit => tC y aT T') := by
  refine xMv_of (cc := cX1_shortenWays) (nL := 7) (ret := none) [(0, .ref (aT 0)), (1, .int p1), (2, .int p2), (3, .int p3)] (by decide) rfl (Nat.le_of_ble_eq_true rfl) rfl ?_
  intro p e s m args below meth c A C hin
  have C : xC p s m args meth c D A cX1_shortenWays RX1 7 wsX1_shortenWays (xT y) none := C
  unfold f1_shortenWays at hf
  refine x_iconst (q := 1) C dX1_shortenWays_0 ki_0 rfl ?_
  refine x_istore (q := 3) C [1, 2, 3, 4, 0] [(0, .ref (aT 0)), (1, .int p1), (2, .int p2), (3, .int p3), (4, .int 0)] dX1_shortenWays_1 (by decide) rfl rfl ?_
  exact w1_shortenWays_L3 C xF 0 T hf

/-! LampHills$Town.addStreet(III)I -/
theorem flX1_addStreet_20 : Cond.fieldLink RX1 20 "LampHills$Town" "firstEnd" "[I" ∈ wsX1_addStreet := by decide +kernel
theorem flX1_addStreet_23 : Cond.fieldLink RX1 23 "LampHills$Town" "secondEnd" "[I" ∈ wsX1_addStreet := by decide +kernel
theorem flX1_addStreet_26 : Cond.fieldLink RX1 26 "LampHills$Town" "length" "[I" ∈ wsX1_addStreet := by decide +kernel
theorem flX1_addStreet_58 : Cond.fieldLink RX1 58 "LampHills$Town" "streets" "I" ∈ wsX1_addStreet := by decide +kernel
theorem iuX1_addStreet_X1 : ∀ w ∈ u_ws RX1 TX1 17, w ∈ wsX1_addStreet := fun _ h => List.mem_cons_of_mem _ (List.mem_append_right _ h)
theorem yi_X1_minutesAlong : xY yX1_minutesAlong wsX1_minutesAlong cX1_minutesAlong 4 (some .int) 3 := ⟨⟨_, rfl⟩, by decide +kernel, by decide +kernel, by decide +kernel⟩
theorem yi_X1_shortenWays : xY yX1_shortenWays wsX1_shortenWays cX1_shortenWays 7 none 3 := ⟨⟨_, rfl⟩, by decide +kernel, by decide +kernel, by decide +kernel⟩
def f1_addStreet (T : St) (p1 : Int32) (p2 : Int32) (p3 : Int32) : Option (Int32 × St) :=
  lt_ (T 3 0) fun v1 =>
  gd (xin v1 18) <|
  lt_ (up2 T 4 v1.toNatClampNeg p1) fun T3 =>
  lt_ (up2 T3 5 v1.toNatClampNeg p2) fun T4 =>
  lt_ (up2 T4 6 v1.toNatClampNeg p3) fun T5 =>
  lt_ (up2 T5 3 0 ((T5 3 0) + 1)) fun T6 =>
  bd (f1_minutesAlong T6 p1 p2 p3) fun v7 =>
  bd (f1_shortenWays T6 p1 p2 v7) fun T10 =>
  bd (f1_minutesAlong T10 p2 p1 p3) fun v12 =>
  bd (f1_shortenWays T10 p2 p1 v12) fun T15 =>
  some (v1, T15)
set_option maxHeartbeats 4000000 in
set_option maxRecDepth 100000 in
theorem c1_addStreet {l : Launch} {D : va_G} {y : Nat → ClassId} {aT : Nat → Nat} {T : St} {p1 : Int32} {p2 : Int32} {p3 : Int32} {r : Int32} {T' : St} (hf : f1_addStreet T p1 p2 p3 = some (r, T')) : xMi l yX1_addStreet wsX1_addStreet 2 74 0 0 D (xT y) [.ref (aT 0), .int p1, .int p2, .int p3] (tC y aT T) (fun (r' : Int32) (_ : Unit) => r' = r) (fun _ : Unit => tC y aT T') := by
  refine xMi_of (cc := cX1_addStreet) (nL := 5) (ret := (some .int)) [(0, .ref (aT 0)), (1, .int p1), (2, .int p2), (3, .int p3)] (by decide) rfl (Nat.le_of_ble_eq_true rfl) rfl ?_
  intro p e s m args below meth c A C hin
  have C : xC p s m args meth c D A cX1_addStreet RX1 5 wsX1_addStreet (xT y) (some .int) := C
  unfold f1_addStreet at hf
  refine x_aload_n (q := 1) C 0 dX1_addStreet_0 rfl rfl rfl ?_
  refine x_get (q := 4) C 3 dX1_addStreet_1 (oX1 y aT T) rfl iuX1_addStreet_X1 flX1_addStreet_58 rfl (by decide) rfl rfl ?_
  obtain ⟨v1, ev1, hf⟩ := lt_elim hf
  refine x_topi ev1 ?_
  refine x_istore (q := 6) C [1, 2, 3, 4, 0] [(0, .ref (aT 0)), (1, .int p1), (2, .int p2), (3, .int p3), (4, .int v1)] dX1_addStreet_4 (by decide) rfl rfl ?_
  refine x_aload_n (q := 7) C 0 dX1_addStreet_6 rfl rfl rfl ?_
  refine x_get (q := 10) C 4 dX1_addStreet_7 (oX1 y aT T) rfl iuX1_addStreet_X1 flX1_addStreet_20 rfl (by decide) rfl rfl ?_
  refine x_iload (q := 12) C 4 dX1_addStreet_10 rfl rfl ?_
  refine x_iload_n (q := 13) C 1 dX1_addStreet_12 rfl rfl rfl ?_
  obtain ⟨hb2, hf⟩ := gd_some hf
  obtain ⟨T3, eT3, hf⟩ := lt_elim hf
  refine x_iast (q := 14) (ws' := tC y aT T3) C 0 dX1_addStreet_13 (aX1_4 y aT T) rfl hb2 (congrArg (fun z => tC y aT z) eT3.symm) rfl ?_
  refine x_aload_n (q := 15) C 0 dX1_addStreet_14 rfl rfl rfl ?_
  refine x_get (q := 18) C 5 dX1_addStreet_15 (oX1 y aT T3) rfl iuX1_addStreet_X1 flX1_addStreet_23 rfl (by decide) rfl rfl ?_
  refine x_iload (q := 20) C 4 dX1_addStreet_18 rfl rfl ?_
  refine x_iload_n (q := 21) C 2 dX1_addStreet_20 rfl rfl rfl ?_
  obtain ⟨T4, eT4, hf⟩ := lt_elim hf
  refine x_iast (q := 22) (ws' := tC y aT T4) C 0 dX1_addStreet_21 (aX1_5 y aT T3) rfl hb2 (congrArg (fun z => tC y aT z) eT4.symm) rfl ?_
  refine x_aload_n (q := 23) C 0 dX1_addStreet_22 rfl rfl rfl ?_
  refine x_get (q := 26) C 6 dX1_addStreet_23 (oX1 y aT T4) rfl iuX1_addStreet_X1 flX1_addStreet_26 rfl (by decide) rfl rfl ?_
  refine x_iload (q := 28) C 4 dX1_addStreet_26 rfl rfl ?_
  refine x_iload_n (q := 29) C 3 dX1_addStreet_28 rfl rfl rfl ?_
  obtain ⟨T5, eT5, hf⟩ := lt_elim hf
  refine x_iast (q := 30) (ws' := tC y aT T5) C 0 dX1_addStreet_29 (aX1_6 y aT T4) rfl hb2 (congrArg (fun z => tC y aT z) eT5.symm) rfl ?_
  refine x_aload_n (q := 31) C 0 dX1_addStreet_30 rfl rfl rfl ?_
  refine x_dup (q := 32) C dX1_addStreet_31 rfl rfl ?_
  refine x_get (q := 35) C 3 dX1_addStreet_32 (oX1 y aT T5) rfl iuX1_addStreet_X1 flX1_addStreet_58 rfl (by decide) rfl rfl ?_
  refine x_iconst (q := 36) C dX1_addStreet_35 ki_1 rfl ?_
  refine x_iadd (q := 37) C dX1_addStreet_36 rfl ?_
  obtain ⟨T6, eT6, hf⟩ := lt_elim hf
  refine x_puti (q := 40) (ws' := tC y aT T6) C tyX1 tyX1_ok nmX1 dX1_addStreet_37 (iX1_3 y aT T5) rfl iuX1_addStreet_X1 flX1_addStreet_58 rfl (by decide) rfl rfl (congrArg (fun z => tC y aT z) eT6.symm) rfl ?_
  refine x_aload_n (q := 41) C 0 dX1_addStreet_40 rfl rfl rfl ?_
  refine x_iload_n (q := 42) C 1 dX1_addStreet_41 rfl rfl rfl ?_
  refine x_iload_n (q := 43) C 2 dX1_addStreet_42 rfl rfl rfl ?_
  refine x_aload_n (q := 44) C 0 dX1_addStreet_43 rfl rfl rfl ?_
  refine x_iload_n (q := 45) C 1 dX1_addStreet_44 rfl rfl rfl ?_
  refine x_iload_n (q := 46) C 2 dX1_addStreet_45 rfl rfl rfl ?_
  refine x_iload_n (q := 47) C 3 dX1_addStreet_46 rfl rfl rfl ?_
  obtain ⟨v7, hcal8, hf⟩ := bd_some hf
  refine x_callVi (q := 50) C (c1_minutesAlong (l := l) (D := D) (y := y) (aT := aT) hcal8) yi_X1_minutesAlong gX1_addStreet_X1_minutesAlong rfl (oX1 y aT T6) rfl ⟨(Nat.le_of_ble_eq_true rfl), (Nat.le_of_ble_eq_true rfl)⟩ dX1_addStreet_47 pm_nil rfl rfl (Nat.le_of_ble_eq_true rfl) ⟨Nat.le_of_ble_eq_true rfl, Nat.le_of_ble_eq_true rfl⟩ rfl ?_
  intro rr9 uu hrr
  have hrr : v7 = rr9 := Eq.symm hrr
  subst hrr
  refine x_world (ws' := tC y aT T6) (List.append_nil _) ?_
  obtain ⟨T10, hcal11, hf⟩ := bd_some hf
  refine x_callVv (q := 53) C (c1_shortenWays (l := l) (D := D) (y := y) (aT := aT) hcal11) yi_X1_shortenWays gX1_addStreet_X1_shortenWays rfl (oX1 y aT T6) rfl ⟨(Nat.le_of_ble_eq_true rfl), (Nat.le_of_ble_eq_true rfl)⟩ dX1_addStreet_50 pm_nil rfl rfl (Nat.le_of_ble_eq_true rfl) ⟨Nat.le_of_ble_eq_true rfl, Nat.le_of_ble_eq_true rfl⟩ rfl ?_
  intro uu hrr
  refine x_world (ws' := tC y aT T10) (List.append_nil _) ?_
  refine x_aload_n (q := 54) C 0 dX1_addStreet_53 rfl rfl rfl ?_
  refine x_iload_n (q := 55) C 2 dX1_addStreet_54 rfl rfl rfl ?_
  refine x_iload_n (q := 56) C 1 dX1_addStreet_55 rfl rfl rfl ?_
  refine x_aload_n (q := 57) C 0 dX1_addStreet_56 rfl rfl rfl ?_
  refine x_iload_n (q := 58) C 2 dX1_addStreet_57 rfl rfl rfl ?_
  refine x_iload_n (q := 59) C 1 dX1_addStreet_58 rfl rfl rfl ?_
  refine x_iload_n (q := 60) C 3 dX1_addStreet_59 rfl rfl rfl ?_
  obtain ⟨v12, hcal13, hf⟩ := bd_some hf
  refine x_callVi (q := 63) C (c1_minutesAlong (l := l) (D := D) (y := y) (aT := aT) hcal13) yi_X1_minutesAlong gX1_addStreet_X1_minutesAlong rfl (oX1 y aT T10) rfl ⟨(Nat.le_of_ble_eq_true rfl), (Nat.le_of_ble_eq_true rfl)⟩ dX1_addStreet_60 pm_nil rfl rfl (Nat.le_of_ble_eq_true rfl) ⟨Nat.le_of_ble_eq_true rfl, Nat.le_of_ble_eq_true rfl⟩ rfl ?_
  intro rr14 uu hrr
  have hrr : v12 = rr14 := Eq.symm hrr
  subst hrr
  refine x_world (ws' := tC y aT T10) (List.append_nil _) ?_
  obtain ⟨T15, hcal16, hf⟩ := bd_some hf
  refine x_callVv (q := 66) C (c1_shortenWays (l := l) (D := D) (y := y) (aT := aT) hcal16) yi_X1_shortenWays gX1_addStreet_X1_shortenWays rfl (oX1 y aT T10) rfl ⟨(Nat.le_of_ble_eq_true rfl), (Nat.le_of_ble_eq_true rfl)⟩ dX1_addStreet_63 pm_nil rfl rfl (Nat.le_of_ble_eq_true rfl) ⟨Nat.le_of_ble_eq_true rfl, Nat.le_of_ble_eq_true rfl⟩ rfl ?_
  intro uu hrr
  refine x_world (ws' := tC y aT T15) (List.append_nil _) ?_
  refine x_iload (q := 68) C 4 dX1_addStreet_66 rfl rfl ?_
  have hf := Option.some.inj hf
  obtain ⟨hr0, hr1⟩ := Prod.mk.inj hf
  exact x_iret () C dX1_addStreet_68 rfl hr0 (congrArg (fun z => tC y aT z) hr1) (Nat.le_of_ble_eq_true rfl) (Nat.le_of_ble_eq_true rfl)

/-! LampHills$Town.addLamp(II)I -/
theorem flX1_addLamp_29 : Cond.fieldLink RX1 29 "LampHills$Town" "lampStreet" "[I" ∈ wsX1_addLamp := by decide +kernel
theorem flX1_addLamp_32 : Cond.fieldLink RX1 32 "LampHills$Town" "lampHeight" "[I" ∈ wsX1_addLamp := by decide +kernel
theorem flX1_addLamp_69 : Cond.fieldLink RX1 69 "LampHills$Town" "lamps" "I" ∈ wsX1_addLamp := by decide +kernel
theorem iuX1_addLamp_X1 : ∀ w ∈ u_ws RX1 TX1 17, w ∈ wsX1_addLamp := fun _ h => List.mem_cons_of_mem _ (List.mem_append_right _ h)
def f1_addLamp (T : St) (p1 : Int32) (p2 : Int32) : Option (Int32 × St) :=
  lt_ (T 7 0) fun v1 =>
  gd (xin v1 20) <|
  lt_ (up2 T 8 v1.toNatClampNeg p1) fun T3 =>
  lt_ (up2 T3 9 v1.toNatClampNeg p2) fun T4 =>
  lt_ (up2 T4 7 0 ((T4 7 0) + 1)) fun T5 =>
  some (v1, T5)
set_option maxHeartbeats 4000000 in
set_option maxRecDepth 100000 in
theorem c1_addLamp {l : Launch} {D : va_G} {y : Nat → ClassId} {aT : Nat → Nat} {T : St} {p1 : Int32} {p2 : Int32} {r : Int32} {T' : St} (hf : f1_addLamp T p1 p2 = some (r, T')) : xMi l yX1_addLamp wsX1_addLamp 0 0 0 0 D (xT y) [.ref (aT 0), .int p1, .int p2] (tC y aT T) (fun (r' : Int32) (_ : Unit) => r' = r) (fun _ : Unit => tC y aT T') := by
  refine xMi_of (cc := cX1_addLamp) (nL := 4) (ret := (some .int)) [(0, .ref (aT 0)), (1, .int p1), (2, .int p2)] (by decide) rfl (Nat.le_of_ble_eq_true rfl) rfl ?_
  intro p e s m args below meth c A C hin
  have C : xC p s m args meth c D A cX1_addLamp RX1 4 wsX1_addLamp (xT y) (some .int) := C
  unfold f1_addLamp at hf
  refine x_aload_n (q := 1) C 0 dX1_addLamp_0 rfl rfl rfl ?_
  refine x_get (q := 4) C 7 dX1_addLamp_1 (oX1 y aT T) rfl iuX1_addLamp_X1 flX1_addLamp_69 rfl (by decide) rfl rfl ?_
  obtain ⟨v1, ev1, hf⟩ := lt_elim hf
  refine x_topi ev1 ?_
  refine x_istore_n (q := 5) C [1, 2, 3, 0] [(0, .ref (aT 0)), (1, .int p1), (2, .int p2), (3, .int v1)] dX1_addLamp_4 rfl (by decide) rfl rfl ?_
  refine x_aload_n (q := 6) C 0 dX1_addLamp_5 rfl rfl rfl ?_
  refine x_get (q := 9) C 8 dX1_addLamp_6 (oX1 y aT T) rfl iuX1_addLamp_X1 flX1_addLamp_29 rfl (by decide) rfl rfl ?_
  refine x_iload_n (q := 10) C 3 dX1_addLamp_9 rfl rfl rfl ?_
  refine x_iload_n (q := 11) C 1 dX1_addLamp_10 rfl rfl rfl ?_
  obtain ⟨hb2, hf⟩ := gd_some hf
  obtain ⟨T3, eT3, hf⟩ := lt_elim hf
  refine x_iast (q := 12) (ws' := tC y aT T3) C 0 dX1_addLamp_11 (aX1_8 y aT T) rfl hb2 (congrArg (fun z => tC y aT z) eT3.symm) rfl ?_
  refine x_aload_n (q := 13) C 0 dX1_addLamp_12 rfl rfl rfl ?_
  refine x_get (q := 16) C 9 dX1_addLamp_13 (oX1 y aT T3) rfl iuX1_addLamp_X1 flX1_addLamp_32 rfl (by decide) rfl rfl ?_
  refine x_iload_n (q := 17) C 3 dX1_addLamp_16 rfl rfl rfl ?_
  refine x_iload_n (q := 18) C 2 dX1_addLamp_17 rfl rfl rfl ?_
  obtain ⟨T4, eT4, hf⟩ := lt_elim hf
  refine x_iast (q := 19) (ws' := tC y aT T4) C 0 dX1_addLamp_18 (aX1_9 y aT T3) rfl hb2 (congrArg (fun z => tC y aT z) eT4.symm) rfl ?_
  refine x_aload_n (q := 20) C 0 dX1_addLamp_19 rfl rfl rfl ?_
  refine x_dup (q := 21) C dX1_addLamp_20 rfl rfl ?_
  refine x_get (q := 24) C 7 dX1_addLamp_21 (oX1 y aT T4) rfl iuX1_addLamp_X1 flX1_addLamp_69 rfl (by decide) rfl rfl ?_
  refine x_iconst (q := 25) C dX1_addLamp_24 ki_1 rfl ?_
  refine x_iadd (q := 26) C dX1_addLamp_25 rfl ?_
  obtain ⟨T5, eT5, hf⟩ := lt_elim hf
  refine x_puti (q := 29) (ws' := tC y aT T5) C tyX1 tyX1_ok nmX1 dX1_addLamp_26 (iX1_7 y aT T4) rfl iuX1_addLamp_X1 flX1_addLamp_69 rfl (by decide) rfl rfl (congrArg (fun z => tC y aT z) eT5.symm) rfl ?_
  refine x_iload_n (q := 30) C 3 dX1_addLamp_29 rfl rfl rfl ?_
  have hf := Option.some.inj hf
  obtain ⟨hr0, hr1⟩ := Prod.mk.inj hf
  exact x_iret () C dX1_addLamp_30 rfl hr0 (congrArg (fun z => tC y aT z) hr1) (Nat.le_of_ble_eq_true rfl) (Nat.le_of_ble_eq_true rfl)

/-! LampHills$Town.addLighter(II)I -/
theorem flX1_addLighter_41 : Cond.fieldLink RX1 41 "LampHills$Town" "home" "[I" ∈ wsX1_addLighter := by decide +kernel
theorem flX1_addLighter_44 : Cond.fieldLink RX1 44 "LampHills$Town" "ladder" "[I" ∈ wsX1_addLighter := by decide +kernel
theorem flX1_addLighter_72 : Cond.fieldLink RX1 72 "LampHills$Town" "lighters" "I" ∈ wsX1_addLighter := by decide +kernel
theorem iuX1_addLighter_X1 : ∀ w ∈ u_ws RX1 TX1 17, w ∈ wsX1_addLighter := fun _ h => List.mem_cons_of_mem _ (List.mem_append_right _ h)
def f1_addLighter (T : St) (p1 : Int32) (p2 : Int32) : Option (Int32 × St) :=
  lt_ (T 12 0) fun v1 =>
  gd (xin v1 4) <|
  lt_ (up2 T 13 v1.toNatClampNeg p1) fun T3 =>
  lt_ (up2 T3 14 v1.toNatClampNeg p2) fun T4 =>
  lt_ (up2 T4 12 0 ((T4 12 0) + 1)) fun T5 =>
  some (v1, T5)
set_option maxHeartbeats 4000000 in
set_option maxRecDepth 100000 in
theorem c1_addLighter {l : Launch} {D : va_G} {y : Nat → ClassId} {aT : Nat → Nat} {T : St} {p1 : Int32} {p2 : Int32} {r : Int32} {T' : St} (hf : f1_addLighter T p1 p2 = some (r, T')) : xMi l yX1_addLighter wsX1_addLighter 0 0 0 0 D (xT y) [.ref (aT 0), .int p1, .int p2] (tC y aT T) (fun (r' : Int32) (_ : Unit) => r' = r) (fun _ : Unit => tC y aT T') := by
  refine xMi_of (cc := cX1_addLighter) (nL := 4) (ret := (some .int)) [(0, .ref (aT 0)), (1, .int p1), (2, .int p2)] (by decide) rfl (Nat.le_of_ble_eq_true rfl) rfl ?_
  intro p e s m args below meth c A C hin
  have C : xC p s m args meth c D A cX1_addLighter RX1 4 wsX1_addLighter (xT y) (some .int) := C
  unfold f1_addLighter at hf
  refine x_aload_n (q := 1) C 0 dX1_addLighter_0 rfl rfl rfl ?_
  refine x_get (q := 4) C 12 dX1_addLighter_1 (oX1 y aT T) rfl iuX1_addLighter_X1 flX1_addLighter_72 rfl (by decide) rfl rfl ?_
  obtain ⟨v1, ev1, hf⟩ := lt_elim hf
  refine x_topi ev1 ?_
  refine x_istore_n (q := 5) C [1, 2, 3, 0] [(0, .ref (aT 0)), (1, .int p1), (2, .int p2), (3, .int v1)] dX1_addLighter_4 rfl (by decide) rfl rfl ?_
  refine x_aload_n (q := 6) C 0 dX1_addLighter_5 rfl rfl rfl ?_
  refine x_get (q := 9) C 13 dX1_addLighter_6 (oX1 y aT T) rfl iuX1_addLighter_X1 flX1_addLighter_41 rfl (by decide) rfl rfl ?_
  refine x_iload_n (q := 10) C 3 dX1_addLighter_9 rfl rfl rfl ?_
  refine x_iload_n (q := 11) C 1 dX1_addLighter_10 rfl rfl rfl ?_
  obtain ⟨hb2, hf⟩ := gd_some hf
  obtain ⟨T3, eT3, hf⟩ := lt_elim hf
  refine x_iast (q := 12) (ws' := tC y aT T3) C 0 dX1_addLighter_11 (aX1_13 y aT T) rfl hb2 (congrArg (fun z => tC y aT z) eT3.symm) rfl ?_
  refine x_aload_n (q := 13) C 0 dX1_addLighter_12 rfl rfl rfl ?_
  refine x_get (q := 16) C 14 dX1_addLighter_13 (oX1 y aT T3) rfl iuX1_addLighter_X1 flX1_addLighter_44 rfl (by decide) rfl rfl ?_
  refine x_iload_n (q := 17) C 3 dX1_addLighter_16 rfl rfl rfl ?_
  refine x_iload_n (q := 18) C 2 dX1_addLighter_17 rfl rfl rfl ?_
  obtain ⟨T4, eT4, hf⟩ := lt_elim hf
  refine x_iast (q := 19) (ws' := tC y aT T4) C 0 dX1_addLighter_18 (aX1_14 y aT T3) rfl hb2 (congrArg (fun z => tC y aT z) eT4.symm) rfl ?_
  refine x_aload_n (q := 20) C 0 dX1_addLighter_19 rfl rfl rfl ?_
  refine x_dup (q := 21) C dX1_addLighter_20 rfl rfl ?_
  refine x_get (q := 24) C 12 dX1_addLighter_21 (oX1 y aT T4) rfl iuX1_addLighter_X1 flX1_addLighter_72 rfl (by decide) rfl rfl ?_
  refine x_iconst (q := 25) C dX1_addLighter_24 ki_1 rfl ?_
  refine x_iadd (q := 26) C dX1_addLighter_25 rfl ?_
  obtain ⟨T5, eT5, hf⟩ := lt_elim hf
  refine x_puti (q := 29) (ws' := tC y aT T5) C tyX1 tyX1_ok nmX1 dX1_addLighter_26 (iX1_12 y aT T4) rfl iuX1_addLighter_X1 flX1_addLighter_72 rfl (by decide) rfl rfl (congrArg (fun z => tC y aT z) eT5.symm) rfl ?_
  refine x_iload_n (q := 30) C 3 dX1_addLighter_29 rfl rfl rfl ?_
  have hf := Option.some.inj hf
  obtain ⟨hr0, hr1⟩ := Prod.mk.inj hf
  exact x_iret () C dX1_addLighter_30 rfl hr0 (congrArg (fun z => tC y aT z) hr1) (Nat.le_of_ble_eq_true rfl) (Nat.le_of_ble_eq_true rfl)

/-! LampHills$Town.addToRound(II)I -/
theorem flX1_addToRound_47 : Cond.fieldLink RX1 47 "LampHills$Town" "roundSize" "[I" ∈ wsX1_addToRound := by decide +kernel
theorem flX1_addToRound_50 : Cond.fieldLink RX1 50 "LampHills$Town" "rounds" "[[I" ∈ wsX1_addToRound := by decide +kernel
theorem iuX1_addToRound_X1 : ∀ w ∈ u_ws RX1 TX1 17, w ∈ wsX1_addToRound := fun _ h => List.mem_cons_of_mem _ (List.mem_append_right _ h)
def f1_addToRound (T : St) (p1 : Int32) (p2 : Int32) : Option (Int32 × St) :=
  gd (xin p1 4) <|
  gd (xin (T 15 p1.toNatClampNeg) 10) <|
  lt_ (up2 T (200 + p1.toNatClampNeg) (T 15 p1.toNatClampNeg).toNatClampNeg p2) fun T3 =>
  lt_ (up2 T3 15 p1.toNatClampNeg ((T3 15 p1.toNatClampNeg) + 1)) fun T4 =>
  some ((T4 15 p1.toNatClampNeg), T4)
set_option maxHeartbeats 4000000 in
set_option maxRecDepth 100000 in
theorem c1_addToRound {l : Launch} {D : va_G} {y : Nat → ClassId} {aT : Nat → Nat} {T : St} {p1 : Int32} {p2 : Int32} {r : Int32} {T' : St} (hf : f1_addToRound T p1 p2 = some (r, T')) : xMi l yX1_addToRound wsX1_addToRound 0 0 0 0 D (xT y) [.ref (aT 0), .int p1, .int p2] (tC y aT T) (fun (r' : Int32) (_ : Unit) => r' = r) (fun _ : Unit => tC y aT T') := by
  refine xMi_of (cc := cX1_addToRound) (nL := 3) (ret := (some .int)) [(0, .ref (aT 0)), (1, .int p1), (2, .int p2)] (by decide) rfl (Nat.le_of_ble_eq_true rfl) rfl ?_
  intro p e s m args below meth c A C hin
  have C : xC p s m args meth c D A cX1_addToRound RX1 3 wsX1_addToRound (xT y) (some .int) := C
  unfold f1_addToRound at hf
  refine x_aload_n (q := 1) C 0 dX1_addToRound_0 rfl rfl rfl ?_
  refine x_get (q := 4) C 16 dX1_addToRound_1 (oX1 y aT T) rfl iuX1_addToRound_X1 flX1_addToRound_50 rfl (by decide) rfl rfl ?_
  refine x_iload_n (q := 5) C 1 dX1_addToRound_4 rfl rfl rfl ?_
  obtain ⟨hb1, hf⟩ := gd_some hf
  refine x_aald (q := 6) C 2 dX1_addToRound_5 (gX1_16 y aT T) rfl rfl hb1 (if_pos (xin_lt hb1)) rfl ?_
  refine x_aload_n (q := 7) C 0 dX1_addToRound_6 rfl rfl rfl ?_
  refine x_get (q := 10) C 15 dX1_addToRound_7 (oX1 y aT T) rfl iuX1_addToRound_X1 flX1_addToRound_47 rfl (by decide) rfl rfl ?_
  refine x_iload_n (q := 11) C 1 dX1_addToRound_10 rfl rfl rfl ?_
  refine x_iald (q := 12) C 0 dX1_addToRound_11 (aX1_15 y aT T) rfl hb1 rfl ?_
  refine x_iload_n (q := 13) C 2 dX1_addToRound_12 rfl rfl rfl ?_
  obtain ⟨hb2, hf⟩ := gd_some hf
  obtain ⟨T3, eT3, hf⟩ := lt_elim hf
  refine x_iast (q := 14) (ws' := tC y aT T3) C 0 dX1_addToRound_13 (aX1_r16 y aT T (xin_lt hb1)) rfl hb2 (congrArg (fun z => tC y aT z) eT3.symm) rfl ?_
  refine x_aload_n (q := 15) C 0 dX1_addToRound_14 rfl rfl rfl ?_
  refine x_get (q := 18) C 15 dX1_addToRound_15 (oX1 y aT T3) rfl iuX1_addToRound_X1 flX1_addToRound_47 rfl (by decide) rfl rfl ?_
  refine x_iload_n (q := 19) C 1 dX1_addToRound_18 rfl rfl rfl ?_
  refine x_dup2 (q := 20) C dX1_addToRound_19 rfl rfl rfl ?_
  refine x_iald (q := 21) C 0 dX1_addToRound_20 (aX1_15 y aT T3) rfl hb1 rfl ?_
  refine x_iconst (q := 22) C dX1_addToRound_21 ki_1 rfl ?_
  refine x_iadd (q := 23) C dX1_addToRound_22 rfl ?_
  obtain ⟨T4, eT4, hf⟩ := lt_elim hf
  refine x_iast (q := 24) (ws' := tC y aT T4) C 0 dX1_addToRound_23 (aX1_15 y aT T3) rfl hb1 (congrArg (fun z => tC y aT z) eT4.symm) rfl ?_
  refine x_aload_n (q := 25) C 0 dX1_addToRound_24 rfl rfl rfl ?_
  refine x_get (q := 28) C 15 dX1_addToRound_25 (oX1 y aT T4) rfl iuX1_addToRound_X1 flX1_addToRound_47 rfl (by decide) rfl rfl ?_
  refine x_iload_n (q := 29) C 1 dX1_addToRound_28 rfl rfl rfl ?_
  refine x_iald (q := 30) C 0 dX1_addToRound_29 (aX1_15 y aT T4) rfl hb1 rfl ?_
  have hf := Option.some.inj hf
  obtain ⟨hr0, hr1⟩ := Prod.mk.inj hf
  exact x_iret () C dX1_addToRound_30 rfl hr0 (congrArg (fun z => tC y aT z) hr1) (Nat.le_of_ble_eq_true rfl) (Nat.le_of_ble_eq_true rfl)

/-! LampHills$Town.isInRound(II)Z -/
theorem flX1_isInRound_47 : Cond.fieldLink RX1 47 "LampHills$Town" "roundSize" "[I" ∈ wsX1_isInRound := by decide +kernel
theorem flX1_isInRound_50 : Cond.fieldLink RX1 50 "LampHills$Town" "rounds" "[[I" ∈ wsX1_isInRound := by decide +kernel
theorem iuX1_isInRound_X1 : ∀ w ∈ u_ws RX1 TX1 17, w ∈ wsX1_isInRound := fun _ h => List.mem_cons_of_mem _ (List.mem_append_right _ h)
def f1_isInRound_L2 (p1 : Int32) (p2 : Int32) (T : St) : Nat → Int32 → Option (Int32)
  | 0, _ => none
  | fu + 1, v1 =>
  gd (xin p1 4) <|
  if (T 15 p1.toNatClampNeg) ≤ v1 then
  (
    some 0
  )
  else
  (
    gd (xin v1 10) <|
    if (T (200 + p1.toNatClampNeg) v1.toNatClampNeg) = p2 then
    (
      some 1
    )
    else
    (
      f1_isInRound_L2 p1 p2 T fu (v1 + 1)
    )
  )
def f1_isInRound (T : St) (p1 : Int32) (p2 : Int32) : Option (Int32) :=
  f1_isInRound_L2 p1 p2 T xF 0
set_option maxHeartbeats 4000000 in
set_option maxRecDepth 100000 in
theorem w1_isInRound_L2 {p : Program} {l : Launch} {e : Env} {s : State} {m : MethodId} {args : Array Value} {below : List Frame} {meth : Method} {c : Code} {D : va_G} {A : Nat → Prop} {y : Nat → ClassId} {aT : Nat → Nat} {T : St} {p1 : Int32} {p2 : Int32} {r : Int32} (C : xC p s m args meth c D A cX1_isInRound RX1 4 wsX1_isInRound (xT y) (some .boolean)) : ∀ (fu : Nat) (v1 : Int32), f1_isInRound_L2 p1 p2 T fu v1 = some r → xV p l e { frames := 0, cells := 0, slots := 0, locals := 0 } s m args below meth c D A (xQi D (xT y) A (fun (r' : Int32) (_ : Unit) => r' = r) (fun _ : Unit => tC y aT T) 0 0 below args s) 4 (tC y aT T) 0 0 [(0, .ref (aT 0)), (1, .int p1), (2, .int p2), (3, .int v1)] 2 [] := by
  intro fu
  induction fu with
  | zero => intro v1 hf; rw [f1_isInRound_L2] at hf; cases hf
  | succ fu ih =>
    intro v1 hf
    rw [f1_isInRound_L2] at hf
    refine x_iload_n (q := 3) C 3 dX1_isInRound_2 rfl rfl rfl ?_
    refine x_aload_n (q := 4) C 0 dX1_isInRound_3 rfl rfl rfl ?_
    refine x_get (q := 7) C 15 dX1_isInRound_4 (oX1 y aT T) rfl iuX1_isInRound_X1 flX1_isInRound_47 rfl (by decide) rfl rfl ?_
    refine x_iload_n (q := 8) C 1 dX1_isInRound_7 rfl rfl rfl ?_
    obtain ⟨hb2, hf⟩ := gd_some hf
    refine x_iald (q := 9) C 0 dX1_isInRound_8 (aX1_15 y aT T) rfl hb2 rfl ?_
    refine x_icmp_ge (t := 32) (q := 12) C dX1_isInRound_9 (by decide) rfl (fun hc => ?_) (fun hc => ?_)
    · have hf := (if_pos hc).symm.trans hf
      refine x_iconst (q := 33) C dX1_isInRound_32 ki_0 rfl ?_
      have hf := Option.some.inj hf
      exact x_zret () C dX1_isInRound_33 rfl rfl hf rfl (Nat.le_of_ble_eq_true rfl) (Nat.le_of_ble_eq_true rfl)
    · have hf := (if_neg hc).symm.trans hf
      refine x_aload_n (q := 13) C 0 dX1_isInRound_12 rfl rfl rfl ?_
      refine x_get (q := 16) C 16 dX1_isInRound_13 (oX1 y aT T) rfl iuX1_isInRound_X1 flX1_isInRound_50 rfl (by decide) rfl rfl ?_
      refine x_iload_n (q := 17) C 1 dX1_isInRound_16 rfl rfl rfl ?_
      refine x_aald (q := 18) C 2 dX1_isInRound_17 (gX1_16 y aT T) rfl rfl hb2 (if_pos (xin_lt hb2)) rfl ?_
      refine x_iload_n (q := 19) C 3 dX1_isInRound_18 rfl rfl rfl ?_
      obtain ⟨hb3, hf⟩ := gd_some hf
      refine x_iald (q := 20) C 0 dX1_isInRound_19 (aX1_r16 y aT T (xin_lt hb2)) rfl hb3 rfl ?_
      refine x_iload_n (q := 21) C 2 dX1_isInRound_20 rfl rfl rfl ?_
      refine x_icmp_ne (t := 26) (q := 24) C dX1_isInRound_21 (by decide) rfl (fun hc => ?_) (fun hc => ?_)
      · have hf := (if_neg hc).symm.trans hf
        refine x_iinc (q := 29) C 3 (v1 + 1) [1, 2, 3, 0] [(0, .ref (aT 0)), (1, .int p1), (2, .int p2), (3, .int (v1 + 1))] dX1_isInRound_26 rfl (congrArg (fun z => v1 + z) ki_1) (by decide) rfl rfl ?_
        refine x_goto (t := 2) C dX1_isInRound_29 (by decide) ?_
        exact ih (v1 + 1) hf
      · have hf := (if_pos hc).symm.trans hf
        refine x_iconst (q := 25) C dX1_isInRound_24 ki_1 rfl ?_
        have hf := Option.some.inj hf
        exact x_zret () C dX1_isInRound_25 rfl rfl hf rfl (Nat.le_of_ble_eq_true rfl) (Nat.le_of_ble_eq_true rfl)
set_option maxHeartbeats 4000000 in
set_option maxRecDepth 100000 in
theorem c1_isInRound {l : Launch} {D : va_G} {y : Nat → ClassId} {aT : Nat → Nat} {T : St} {p1 : Int32} {p2 : Int32} {r : Int32} (hf : f1_isInRound T p1 p2 = some r) : xMi l yX1_isInRound wsX1_isInRound 0 0 0 0 D (xT y) [.ref (aT 0), .int p1, .int p2] (tC y aT T) (fun (r' : Int32) (_ : Unit) => r' = r) (fun _ : Unit => tC y aT T) := by
  refine xMi_of (cc := cX1_isInRound) (nL := 4) (ret := (some .boolean)) [(0, .ref (aT 0)), (1, .int p1), (2, .int p2)] (by decide) rfl (Nat.le_of_ble_eq_true rfl) rfl ?_
  intro p e s m args below meth c A C hin
  have C : xC p s m args meth c D A cX1_isInRound RX1 4 wsX1_isInRound (xT y) (some .boolean) := C
  unfold f1_isInRound at hf
  refine x_iconst (q := 1) C dX1_isInRound_0 ki_0 rfl ?_
  refine x_istore_n (q := 2) C [1, 2, 3, 0] [(0, .ref (aT 0)), (1, .int p1), (2, .int p2), (3, .int 0)] dX1_isInRound_1 rfl (by decide) rfl rfl ?_
  exact w1_isInRound_L2 C xF 0 hf

/-! LampHills$Town.nearerEnd(II)I -/
theorem flX1_nearerEnd_17 : Cond.fieldLink RX1 17 "LampHills$Town" "ways" "[[I" ∈ wsX1_nearerEnd := by decide +kernel
theorem flX1_nearerEnd_20 : Cond.fieldLink RX1 20 "LampHills$Town" "firstEnd" "[I" ∈ wsX1_nearerEnd := by decide +kernel
theorem flX1_nearerEnd_23 : Cond.fieldLink RX1 23 "LampHills$Town" "secondEnd" "[I" ∈ wsX1_nearerEnd := by decide +kernel
theorem flX1_nearerEnd_29 : Cond.fieldLink RX1 29 "LampHills$Town" "lampStreet" "[I" ∈ wsX1_nearerEnd := by decide +kernel
theorem iuX1_nearerEnd_X1 : ∀ w ∈ u_ws RX1 TX1 17, w ∈ wsX1_nearerEnd := fun _ h => List.mem_cons_of_mem _ (List.mem_append_right _ h)
def f1_nearerEnd (T : St) (p1 : Int32) (p2 : Int32) : Option (Int32) :=
  gd (xin p2 20) <|
  lt_ (T 8 p2.toNatClampNeg) fun v2 =>
  gd (xin v2 18) <|
  lt_ (T 4 v2.toNatClampNeg) fun v4 =>
  lt_ (T 5 v2.toNatClampNeg) fun v5 =>
  gd (xin p1 12) <|
  gd (xin v4 12) <|
  gd (xin v5 12) <|
  if (T (100 + p1.toNatClampNeg) v5.toNatClampNeg) < (T (100 + p1.toNatClampNeg) v4.toNatClampNeg) then
  (
    some v5
  )
  else
  (
    some v4
  )
set_option maxHeartbeats 4000000 in
set_option maxRecDepth 100000 in
theorem c1_nearerEnd {l : Launch} {D : va_G} {y : Nat → ClassId} {aT : Nat → Nat} {T : St} {p1 : Int32} {p2 : Int32} {r : Int32} (hf : f1_nearerEnd T p1 p2 = some r) : xMi l yX1_nearerEnd wsX1_nearerEnd 0 0 0 0 D (xT y) [.ref (aT 0), .int p1, .int p2] (tC y aT T) (fun (r' : Int32) (_ : Unit) => r' = r) (fun _ : Unit => tC y aT T) := by
  refine xMi_of (cc := cX1_nearerEnd) (nL := 6) (ret := (some .int)) [(0, .ref (aT 0)), (1, .int p1), (2, .int p2)] (by decide) rfl (Nat.le_of_ble_eq_true rfl) rfl ?_
  intro p e s m args below meth c A C hin
  have C : xC p s m args meth c D A cX1_nearerEnd RX1 6 wsX1_nearerEnd (xT y) (some .int) := C
  unfold f1_nearerEnd at hf
  refine x_aload_n (q := 1) C 0 dX1_nearerEnd_0 rfl rfl rfl ?_
  refine x_get (q := 4) C 8 dX1_nearerEnd_1 (oX1 y aT T) rfl iuX1_nearerEnd_X1 flX1_nearerEnd_29 rfl (by decide) rfl rfl ?_
  refine x_iload_n (q := 5) C 2 dX1_nearerEnd_4 rfl rfl rfl ?_
  obtain ⟨hb1, hf⟩ := gd_some hf
  refine x_iald (q := 6) C 0 dX1_nearerEnd_5 (aX1_8 y aT T) rfl hb1 rfl ?_
  obtain ⟨v2, ev2, hf⟩ := lt_elim hf
  refine x_topi ev2 ?_
  refine x_istore_n (q := 7) C [1, 2, 0] [(0, .ref (aT 0)), (1, .int p1), (3, .int v2)] dX1_nearerEnd_6 rfl (by decide) rfl rfl ?_
  refine x_aload_n (q := 8) C 0 dX1_nearerEnd_7 rfl rfl rfl ?_
  refine x_get (q := 11) C 4 dX1_nearerEnd_8 (oX1 y aT T) rfl iuX1_nearerEnd_X1 flX1_nearerEnd_20 rfl (by decide) rfl rfl ?_
  refine x_iload_n (q := 12) C 2 dX1_nearerEnd_11 rfl rfl rfl ?_
  obtain ⟨hb3, hf⟩ := gd_some hf
  refine x_iald (q := 13) C 0 dX1_nearerEnd_12 (aX1_4 y aT T) rfl hb3 rfl ?_
  obtain ⟨v4, ev4, hf⟩ := lt_elim hf
  refine x_topi ev4 ?_
  refine x_istore (q := 15) C [1, 2, 3, 0] [(0, .ref (aT 0)), (1, .int p1), (3, .int v2), (4, .int v4)] dX1_nearerEnd_13 (by decide) rfl rfl ?_
  refine x_aload_n (q := 16) C 0 dX1_nearerEnd_15 rfl rfl rfl ?_
  refine x_get (q := 19) C 5 dX1_nearerEnd_16 (oX1 y aT T) rfl iuX1_nearerEnd_X1 flX1_nearerEnd_23 rfl (by decide) rfl rfl ?_
  refine x_iload_n (q := 20) C 2 dX1_nearerEnd_19 rfl rfl rfl ?_
  refine x_iald (q := 21) C 0 dX1_nearerEnd_20 (aX1_5 y aT T) rfl hb3 rfl ?_
  obtain ⟨v5, ev5, hf⟩ := lt_elim hf
  refine x_topi ev5 ?_
  refine x_istore (q := 23) C [1, 2, 4, 0] [(0, .ref (aT 0)), (1, .int p1), (4, .int v4), (5, .int v5)] dX1_nearerEnd_21 (by decide) rfl rfl ?_
  refine x_aload_n (q := 24) C 0 dX1_nearerEnd_23 rfl rfl rfl ?_
  refine x_get (q := 27) C 2 dX1_nearerEnd_24 (oX1 y aT T) rfl iuX1_nearerEnd_X1 flX1_nearerEnd_17 rfl (by decide) rfl rfl ?_
  refine x_iload_n (q := 28) C 1 dX1_nearerEnd_27 rfl rfl rfl ?_
  obtain ⟨hb6, hf⟩ := gd_some hf
  refine x_aald (q := 29) C 2 dX1_nearerEnd_28 (gX1_2 y aT T) rfl rfl hb6 (if_pos (xin_lt hb6)) rfl ?_
  refine x_iload (q := 31) C 2 dX1_nearerEnd_29 rfl rfl ?_
  obtain ⟨hb7, hf⟩ := gd_some hf
  refine x_iald (q := 32) C 0 dX1_nearerEnd_31 (aX1_r2 y aT T (xin_lt hb6)) rfl hb7 rfl ?_
  refine x_aload_n (q := 33) C 0 dX1_nearerEnd_32 rfl rfl rfl ?_
  refine x_get (q := 36) C 2 dX1_nearerEnd_33 (oX1 y aT T) rfl iuX1_nearerEnd_X1 flX1_nearerEnd_17 rfl (by decide) rfl rfl ?_
  refine x_iload_n (q := 37) C 1 dX1_nearerEnd_36 rfl rfl rfl ?_
  refine x_aald (q := 38) C 2 dX1_nearerEnd_37 (gX1_2 y aT T) rfl rfl hb6 (if_pos (xin_lt hb6)) rfl ?_
  refine x_iload (q := 40) C 3 dX1_nearerEnd_38 rfl rfl ?_
  obtain ⟨hb8, hf⟩ := gd_some hf
  refine x_iald (q := 41) C 0 dX1_nearerEnd_40 (aX1_r2 y aT T (xin_lt hb6)) rfl hb8 rfl ?_
  refine x_icmp_gt (t := 49) (q := 44) C dX1_nearerEnd_41 (by decide) rfl (fun hc => ?_) (fun hc => ?_)
  · have hf := (if_pos hc).symm.trans hf
    refine x_iload (q := 51) C 3 dX1_nearerEnd_49 rfl rfl ?_
    have hf := Option.some.inj hf
    exact x_iret () C dX1_nearerEnd_51 rfl hf rfl (Nat.le_of_ble_eq_true rfl) (Nat.le_of_ble_eq_true rfl)
  · have hf := (if_neg hc).symm.trans hf
    refine x_iload (q := 46) C 2 dX1_nearerEnd_44 rfl rfl ?_
    refine x_goto (t := 51) C dX1_nearerEnd_46 (by decide) ?_
    have hf := Option.some.inj hf
    exact x_iret () C dX1_nearerEnd_51 rfl hf rfl (Nat.le_of_ble_eq_true rfl) (Nat.le_of_ble_eq_true rfl)

/-! LampHills$Town.canReach(III)Z -/
theorem kX1_canReach_57 : Cond.constant RX1 57 (1000000) ∈ wsX1_canReach := by decide +kernel
theorem flX1_canReach_17 : Cond.fieldLink RX1 17 "LampHills$Town" "ways" "[[I" ∈ wsX1_canReach := by decide +kernel
theorem flX1_canReach_32 : Cond.fieldLink RX1 32 "LampHills$Town" "lampHeight" "[I" ∈ wsX1_canReach := by decide +kernel
theorem flX1_canReach_44 : Cond.fieldLink RX1 44 "LampHills$Town" "ladder" "[I" ∈ wsX1_canReach := by decide +kernel
theorem iuX1_canReach_X1 : ∀ w ∈ u_ws RX1 TX1 17, w ∈ wsX1_canReach := fun _ h => List.mem_cons_of_mem _ (List.mem_append_right _ h)
theorem yi_X1_nearerEnd : xY yX1_nearerEnd wsX1_nearerEnd cX1_nearerEnd 6 (some .int) 2 := ⟨⟨_, rfl⟩, by decide +kernel, by decide +kernel, by decide +kernel⟩
def f1_canReach (T : St) (p1 : Int32) (p2 : Int32) (p3 : Int32) : Option (Int32) :=
  gd (xin p3 20) <|
  gd (xin p1 4) <|
  if ((T 14 p1.toNatClampNeg) + 2) < (T 9 p3.toNatClampNeg) then
  (
    some 0
  )
  else
  (
    gd (xin p2 12) <|
    bd (f1_nearerEnd T p2 p3) fun v4 =>
    gd (xin v4 12) <|
    if 1000000 ≤ (T (100 + p2.toNatClampNeg) v4.toNatClampNeg) then
    (
      some 0
    )
    else
    (
      some 1
    )
  )
set_option maxHeartbeats 4000000 in
set_option maxRecDepth 100000 in
theorem c1_canReach {l : Launch} {D : va_G} {y : Nat → ClassId} {aT : Nat → Nat} {T : St} {p1 : Int32} {p2 : Int32} {p3 : Int32} {r : Int32} (hf : f1_canReach T p1 p2 p3 = some r) : xMi l yX1_canReach wsX1_canReach 1 25 0 0 D (xT y) [.ref (aT 0), .int p1, .int p2, .int p3] (tC y aT T) (fun (r' : Int32) (_ : Unit) => r' = r) (fun _ : Unit => tC y aT T) := by
  refine xMi_of (cc := cX1_canReach) (nL := 4) (ret := (some .boolean)) [(0, .ref (aT 0)), (1, .int p1), (2, .int p2), (3, .int p3)] (by decide) rfl (Nat.le_of_ble_eq_true rfl) rfl ?_
  intro p e s m args below meth c A C hin
  have C : xC p s m args meth c D A cX1_canReach RX1 4 wsX1_canReach (xT y) (some .boolean) := C
  unfold f1_canReach at hf
  refine x_aload_n (q := 1) C 0 dX1_canReach_0 rfl rfl rfl ?_
  refine x_get (q := 4) C 9 dX1_canReach_1 (oX1 y aT T) rfl iuX1_canReach_X1 flX1_canReach_32 rfl (by decide) rfl rfl ?_
  refine x_iload_n (q := 5) C 3 dX1_canReach_4 rfl rfl rfl ?_
  obtain ⟨hb1, hf⟩ := gd_some hf
  refine x_iald (q := 6) C 0 dX1_canReach_5 (aX1_9 y aT T) rfl hb1 rfl ?_
  refine x_aload_n (q := 7) C 0 dX1_canReach_6 rfl rfl rfl ?_
  refine x_get (q := 10) C 14 dX1_canReach_7 (oX1 y aT T) rfl iuX1_canReach_X1 flX1_canReach_44 rfl (by decide) rfl rfl ?_
  refine x_iload_n (q := 11) C 1 dX1_canReach_10 rfl rfl rfl ?_
  obtain ⟨hb2, hf⟩ := gd_some hf
  refine x_iald (q := 12) C 0 dX1_canReach_11 (aX1_14 y aT T) rfl hb2 rfl ?_
  refine x_iconst (q := 13) C dX1_canReach_12 ki_2 rfl ?_
  refine x_iadd (q := 14) C dX1_canReach_13 rfl ?_
  refine x_icmp_gt (t := 39) (q := 17) C dX1_canReach_14 (by decide) rfl (fun hc => ?_) (fun hc => ?_)
  · have hf := (if_pos hc).symm.trans hf
    refine x_iconst (q := 40) C dX1_canReach_39 ki_0 rfl ?_
    have hf := Option.some.inj hf
    exact x_zret () C dX1_canReach_40 rfl rfl hf rfl (Nat.le_of_ble_eq_true rfl) (Nat.le_of_ble_eq_true rfl)
  · have hf := (if_neg hc).symm.trans hf
    refine x_aload_n (q := 18) C 0 dX1_canReach_17 rfl rfl rfl ?_
    refine x_get (q := 21) C 2 dX1_canReach_18 (oX1 y aT T) rfl iuX1_canReach_X1 flX1_canReach_17 rfl (by decide) rfl rfl ?_
    refine x_iload_n (q := 22) C 2 dX1_canReach_21 rfl rfl rfl ?_
    obtain ⟨hb3, hf⟩ := gd_some hf
    refine x_aald (q := 23) C 2 dX1_canReach_22 (gX1_2 y aT T) rfl rfl hb3 (if_pos (xin_lt hb3)) rfl ?_
    refine x_aload_n (q := 24) C 0 dX1_canReach_23 rfl rfl rfl ?_
    refine x_iload_n (q := 25) C 2 dX1_canReach_24 rfl rfl rfl ?_
    refine x_iload_n (q := 26) C 3 dX1_canReach_25 rfl rfl rfl ?_
    obtain ⟨v4, hcal5, hf⟩ := bd_some hf
    refine x_callVi (q := 29) C (c1_nearerEnd (l := l) (D := D) (y := y) (aT := aT) hcal5) yi_X1_nearerEnd gX1_canReach_X1_nearerEnd rfl (oX1 y aT T) rfl ⟨(Nat.le_of_ble_eq_true rfl), (Nat.le_of_ble_eq_true rfl)⟩ dX1_canReach_26 pm_nil rfl rfl (Nat.le_of_ble_eq_true rfl) ⟨Nat.le_of_ble_eq_true rfl, Nat.le_of_ble_eq_true rfl⟩ rfl ?_
    intro rr6 uu hrr
    have hrr : v4 = rr6 := Eq.symm hrr
    subst hrr
    refine x_world (ws' := tC y aT T) (List.append_nil _) ?_
    obtain ⟨hb7, hf⟩ := gd_some hf
    refine x_iald (q := 30) C 0 dX1_canReach_29 (aX1_r2 y aT T (xin_lt hb3)) rfl hb7 rfl ?_
    refine x_ldc (q := 32) C dX1_canReach_30 kX1_canReach_57 rfl ?_
    refine x_icmp_ge (t := 39) (q := 35) C dX1_canReach_32 (by decide) rfl (fun hc => ?_) (fun hc => ?_)
    · have hf := (if_pos hc).symm.trans hf
      refine x_iconst (q := 40) C dX1_canReach_39 ki_0 rfl ?_
      have hf := Option.some.inj hf
      exact x_zret () C dX1_canReach_40 rfl rfl hf rfl (Nat.le_of_ble_eq_true rfl) (Nat.le_of_ble_eq_true rfl)
    · have hf := (if_neg hc).symm.trans hf
      refine x_iconst (q := 36) C dX1_canReach_35 ki_1 rfl ?_
      refine x_goto (t := 40) C dX1_canReach_36 (by decide) ?_
      have hf := Option.some.inj hf
      exact x_zret () C dX1_canReach_40 rfl rfl hf rfl (Nat.le_of_ble_eq_true rfl) (Nat.le_of_ble_eq_true rfl)

/-! LampHills$Town.windAtLamp(II)I -/
theorem kb_10 : (Int8.ofInt 10).toInt32 = 10 := by decide
theorem flX1_windAtLamp_20 : Cond.fieldLink RX1 20 "LampHills$Town" "firstEnd" "[I" ∈ wsX1_windAtLamp := by decide +kernel
theorem flX1_windAtLamp_23 : Cond.fieldLink RX1 23 "LampHills$Town" "secondEnd" "[I" ∈ wsX1_windAtLamp := by decide +kernel
theorem flX1_windAtLamp_29 : Cond.fieldLink RX1 29 "LampHills$Town" "lampStreet" "[I" ∈ wsX1_windAtLamp := by decide +kernel
theorem flX1_windAtLamp_9 : Cond.fieldLink RX1 9 "LampHills$Town" "height" "[I" ∈ wsX1_windAtLamp := by decide +kernel
theorem iuX1_windAtLamp_X1 : ∀ w ∈ u_ws RX1 TX1 17, w ∈ wsX1_windAtLamp := fun _ h => List.mem_cons_of_mem _ (List.mem_append_right _ h)
theorem kmX1_windAtLamp_75 : ∀ w ∈ ([.methodLink RX1 75 Lib.Math.max.name, .static Lib.Math.max.name, .initialized "java/lang/Math", .code Lib.Math.max.name Lib.Math.max.code 2 (some .int)] : List Cond), w ∈ wsX1_windAtLamp := by decide +kernel
def f1_windAtLamp (T : St) (p1 : Int32) (p2 : Int32) : Option (Int32) :=
  gd (xin p1 20) <|
  lt_ (T 8 p1.toNatClampNeg) fun v2 =>
  gd (xin v2 18) <|
  gd (xin (T 4 v2.toNatClampNeg) 12) <|
  gd (xin (T 5 v2.toNatClampNeg) 12) <|
  some (p2 + ((if (T 1 (T 4 v2.toNatClampNeg).toNatClampNeg) < (T 1 (T 5 v2.toNatClampNeg).toNatClampNeg) then (T 1 (T 5 v2.toNatClampNeg).toNatClampNeg) else (T 1 (T 4 v2.toNatClampNeg).toNatClampNeg)) / 10))
set_option maxHeartbeats 4000000 in
set_option maxRecDepth 100000 in
theorem c1_windAtLamp {l : Launch} {D : va_G} {y : Nat → ClassId} {aT : Nat → Nat} {T : St} {p1 : Int32} {p2 : Int32} {r : Int32} (hf : f1_windAtLamp T p1 p2 = some r) : xMi l yX1_windAtLamp wsX1_windAtLamp 1 48 0 0 D (xT y) [.ref (aT 0), .int p1, .int p2] (tC y aT T) (fun (r' : Int32) (_ : Unit) => r' = r) (fun _ : Unit => tC y aT T) := by
  refine xMi_of (cc := cX1_windAtLamp) (nL := 4) (ret := (some .int)) [(0, .ref (aT 0)), (1, .int p1), (2, .int p2)] (by decide) rfl (Nat.le_of_ble_eq_true rfl) rfl ?_
  intro p e s m args below meth c A C hin
  have C : xC p s m args meth c D A cX1_windAtLamp RX1 4 wsX1_windAtLamp (xT y) (some .int) := C
  unfold f1_windAtLamp at hf
  refine x_aload_n (q := 1) C 0 dX1_windAtLamp_0 rfl rfl rfl ?_
  refine x_get (q := 4) C 8 dX1_windAtLamp_1 (oX1 y aT T) rfl iuX1_windAtLamp_X1 flX1_windAtLamp_29 rfl (by decide) rfl rfl ?_
  refine x_iload_n (q := 5) C 1 dX1_windAtLamp_4 rfl rfl rfl ?_
  obtain ⟨hb1, hf⟩ := gd_some hf
  refine x_iald (q := 6) C 0 dX1_windAtLamp_5 (aX1_8 y aT T) rfl hb1 rfl ?_
  obtain ⟨v2, ev2, hf⟩ := lt_elim hf
  refine x_topi ev2 ?_
  refine x_istore_n (q := 7) C [1, 3, 0] [(0, .ref (aT 0)), (2, .int p2), (3, .int v2)] dX1_windAtLamp_6 rfl (by decide) rfl rfl ?_
  refine x_iload_n (q := 8) C 1 dX1_windAtLamp_7 rfl rfl rfl ?_
  refine x_aload_n (q := 9) C 0 dX1_windAtLamp_8 rfl rfl rfl ?_
  refine x_get (q := 12) C 1 dX1_windAtLamp_9 (oX1 y aT T) rfl iuX1_windAtLamp_X1 flX1_windAtLamp_9 rfl (by decide) rfl rfl ?_
  refine x_aload_n (q := 13) C 0 dX1_windAtLamp_12 rfl rfl rfl ?_
  refine x_get (q := 16) C 4 dX1_windAtLamp_13 (oX1 y aT T) rfl iuX1_windAtLamp_X1 flX1_windAtLamp_20 rfl (by decide) rfl rfl ?_
  refine x_iload_n (q := 17) C 2 dX1_windAtLamp_16 rfl rfl rfl ?_
  obtain ⟨hb3, hf⟩ := gd_some hf
  refine x_iald (q := 18) C 0 dX1_windAtLamp_17 (aX1_4 y aT T) rfl hb3 rfl ?_
  obtain ⟨hb4, hf⟩ := gd_some hf
  refine x_iald (q := 19) C 0 dX1_windAtLamp_18 (aX1_1 y aT T) rfl hb4 rfl ?_
  refine x_aload_n (q := 20) C 0 dX1_windAtLamp_19 rfl rfl rfl ?_
  refine x_get (q := 23) C 1 dX1_windAtLamp_20 (oX1 y aT T) rfl iuX1_windAtLamp_X1 flX1_windAtLamp_9 rfl (by decide) rfl rfl ?_
  refine x_aload_n (q := 24) C 0 dX1_windAtLamp_23 rfl rfl rfl ?_
  refine x_get (q := 27) C 5 dX1_windAtLamp_24 (oX1 y aT T) rfl iuX1_windAtLamp_X1 flX1_windAtLamp_23 rfl (by decide) rfl rfl ?_
  refine x_iload_n (q := 28) C 2 dX1_windAtLamp_27 rfl rfl rfl ?_
  refine x_iald (q := 29) C 0 dX1_windAtLamp_28 (aX1_5 y aT T) rfl hb3 rfl ?_
  obtain ⟨hb5, hf⟩ := gd_some hf
  refine x_iald (q := 30) C 0 dX1_windAtLamp_29 (aX1_1 y aT T) rfl hb5 rfl ?_
  refine x_mmax (q := 33) C dX1_windAtLamp_30 kmX1_windAtLamp_75 (Nat.le_of_ble_eq_true rfl) (Nat.le_of_ble_eq_true rfl) (Nat.le_of_ble_eq_true rfl) (Nat.le_of_ble_eq_true rfl) rfl ?_
  refine x_bipush (q := 35) C dX1_windAtLamp_33 kb_10 rfl ?_
  refine x_idiv (q := 36) C dX1_windAtLamp_35 (by decide) rfl ?_
  refine x_iadd (q := 37) C dX1_windAtLamp_36 rfl ?_
  have hf := Option.some.inj hf
  exact x_iret () C dX1_windAtLamp_37 rfl hf rfl (Nat.le_of_ble_eq_true rfl) (Nat.le_of_ble_eq_true rfl)
