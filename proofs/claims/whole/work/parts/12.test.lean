/-! LampHills$Night.waitFromNow(I)V -/
theorem ki_m1 : Int32.ofInt (-1) = (-1) := by decide
theorem ki_0 : Int32.ofInt 0 = 0 := by decide
theorem flX0_waitFromNow_37 : Cond.fieldLink RX0 37 "LampHills$Night" "goesTo" "[I" ∈ wsX0_waitFromNow := by decide +kernel
theorem flX0_waitFromNow_43 : Cond.fieldLink RX0 43 "LampHills$Night" "minutesLeft" "[I" ∈ wsX0_waitFromNow := by decide +kernel
theorem iuX0_waitFromNow_X0 : ∀ w ∈ u_ws RX0 TX0 16, w ∈ wsX0_waitFromNow := fun _ h => List.mem_cons_of_mem _ (List.mem_append_right _ h)
def f0_waitFromNow (N : St) (p1 : Int32) : Option (St) :=
  gd (xin p1 4) <|
  lt_ (up2 N 11 p1.toNatClampNeg (-1)) fun N2 =>
  lt_ (up2 N2 13 p1.toNatClampNeg 0) fun N3 =>
  some N3
set_option maxHeartbeats 4000000 in
set_option maxRecDepth 100000 in
theorem c0_waitFromNow {l : Launch} {D : va_G} {y : Nat → ClassId} {aN : Nat → Nat} {N : St} {p1 : Int32} {N' : St} (hf : f0_waitFromNow N p1 = some N') : xMv l yX0_waitFromNow wsX0_waitFromNow 0 0 0 0 D (xT y) [.ref (aN 0), .int p1] (nC y aN N) (fun (_ : Unit) => True) (fun _ : Unit => nC y aN N') := by
  refine xMv_of (cc := cX0_waitFromNow) (nL := 2) (ret := none) [(0, .ref (aN 0)), (1, .int p1)] (by decide) rfl (Nat.le_of_ble_eq_true rfl) rfl ?_
  intro p e s m args below meth c A C hin
  have C : xC p s m args meth c D A cX0_waitFromNow RX0 2 wsX0_waitFromNow (xT y) none := C
  unfold f0_waitFromNow at hf
  refine x_aload_n (q := 1) C 0 dX0_waitFromNow_0 rfl rfl rfl ?_
  refine x_get (q := 4) C 11 dX0_waitFromNow_1 (oX0 y aN N) rfl iuX0_waitFromNow_X0 flX0_waitFromNow_37 rfl (by decide) rfl rfl ?_
  refine x_iload_n (q := 5) C 1 dX0_waitFromNow_4 rfl rfl rfl ?_
  refine x_iconst (q := 6) C dX0_waitFromNow_5 ki_m1 rfl ?_
  obtain ⟨hb1, hf⟩ := gd_some hf
  obtain ⟨N2, eN2, hf⟩ := lt_elim hf
  refine x_iast (q := 7) (ws' := nC y aN N2) C 0 dX0_waitFromNow_6 (aX0_11 y aN N) rfl hb1 (congrArg (fun z => nC y aN z) eN2.symm) rfl ?_
  refine x_aload_n (q := 8) C 0 dX0_waitFromNow_7 rfl rfl rfl ?_
  refine x_get (q := 11) C 13 dX0_waitFromNow_8 (oX0 y aN N2) rfl iuX0_waitFromNow_X0 flX0_waitFromNow_43 rfl (by decide) rfl rfl ?_
  refine x_iload_n (q := 12) C 1 dX0_waitFromNow_11 rfl rfl rfl ?_
  refine x_iconst (q := 13) C dX0_waitFromNow_12 ki_0 rfl ?_
  obtain ⟨N3, eN3, hf⟩ := lt_elim hf
  refine x_iast (q := 14) (ws' := nC y aN N3) C 0 dX0_waitFromNow_13 (aX0_13 y aN N2) rfl hb1 (congrArg (fun z => nC y aN z) eN3.symm) rfl ?_
  have hf := Option.some.inj hf
  exact x_vret () C dX0_waitFromNow_14 rfl trivial (congrArg (fun z => nC y aN z) hf) (Nat.le_of_ble_eq_true rfl) (Nat.le_of_ble_eq_true rfl)

/-! LampHills$Night.whoGoesTo(LLampHills$Town;I)I -/
theorem ki_1 : Int32.ofInt 1 = 1 := by decide
theorem flX0_whoGoesTo_37 : Cond.fieldLink RX0 37 "LampHills$Night" "goesTo" "[I" ∈ wsX0_whoGoesTo := by decide +kernel
theorem flX0_whoGoesTo_91 : Cond.fieldLink RX0 91 "LampHills$Town" "lighters" "I" ∈ wsX0_whoGoesTo := by decide +kernel
theorem iuX0_whoGoesTo_X0 : ∀ w ∈ u_ws RX0 TX0 16, w ∈ wsX0_whoGoesTo := fun _ h => List.mem_cons_of_mem _ (List.mem_append_right _ h)
theorem iuX0_whoGoesTo_X1 : ∀ w ∈ u_ws RX1 TX1 17, w ∈ wsX0_whoGoesTo := fun _ h => List.mem_cons_of_mem _ (List.mem_append_left _ (List.mem_append_right _ h))
def f0_whoGoesTo_L2 (p2 : Int32) (N : St) (T : St) : Nat → Int32 → Option (Int32)
  | 0, _ => none
  | fu + 1, v1 =>
  if (T 12 0) ≤ v1 then
  (
    some (-1)
  )
  else
  (
    gd (xin v1 4) <|
    if (N 11 v1.toNatClampNeg) = p2 then
    (
      some v1
    )
    else
    (
      f0_whoGoesTo_L2 p2 N T fu (v1 + 1)
    )
  )
def f0_whoGoesTo (N : St) (T : St) (p2 : Int32) : Option (Int32) :=
  f0_whoGoesTo_L2 p2 N T xF 0
set_option maxHeartbeats 4000000 in
set_option maxRecDepth 100000 in
theorem w0_whoGoesTo_L2 {p : Program} {l : Launch} {e : Env} {s : State} {m : MethodId} {args : Array Value} {below : List Frame} {meth : Method} {c : Code} {D : va_G} {A : Nat → Prop} {y : Nat → ClassId} {aN aT : Nat → Nat} {N : St} {T : St} {p2 : Int32} {r : Int32} (C : xC p s m args meth c D A cX0_whoGoesTo RX0 4 wsX0_whoGoesTo (xT y) (some .int)) : ∀ (fu : Nat) (v1 : Int32), f0_whoGoesTo_L2 p2 N T fu v1 = some r → xV p l e { frames := 0, cells := 0, slots := 0, locals := 0 } s m args below meth c D A (xQi D (xT y) A (fun (r' : Int32) (_ : Unit) => r' = r) (fun _ : Unit => nC y aN N ++ tC y aT T) 0 0 below args s) 4 (nC y aN N ++ tC y aT T) 0 0 [(0, .ref (aN 0)), (1, .ref (aT 0)), (2, .int p2), (3, .int v1)] 2 [] := by
  intro fu
  induction fu with
  | zero => intro v1 hf; rw [f0_whoGoesTo_L2] at hf; cases hf
  | succ fu ih =>
    intro v1 hf
    rw [f0_whoGoesTo_L2] at hf
    refine x_iload_n (q := 3) C 3 dX0_whoGoesTo_2 rfl rfl rfl ?_
    refine x_aload_n (q := 4) C 1 dX0_whoGoesTo_3 rfl rfl rfl ?_
    refine x_get (q := 7) C 12 dX0_whoGoesTo_4 ((oX1 y aT T).R) rfl iuX0_whoGoesTo_X1 flX0_whoGoesTo_91 rfl (by decide) rfl rfl ?_
    refine x_icmp_ge (t := 28) (q := 10) C dX0_whoGoesTo_7 (by decide) rfl (fun hc => ?_) (fun hc => ?_)
    · have hf := (if_pos hc).symm.trans hf
      refine x_iconst (q := 29) C dX0_whoGoesTo_28 ki_m1 rfl ?_
      have hf := Option.some.inj hf
      exact x_iret () C dX0_whoGoesTo_29 rfl hf rfl (Nat.le_of_ble_eq_true rfl) (Nat.le_of_ble_eq_true rfl)
    · have hf := (if_neg hc).symm.trans hf
      refine x_aload_n (q := 11) C 0 dX0_whoGoesTo_10 rfl rfl rfl ?_
      refine x_get (q := 14) C 11 dX0_whoGoesTo_11 ((oX0 y aN N).L) rfl iuX0_whoGoesTo_X0 flX0_whoGoesTo_37 rfl (by decide) rfl rfl ?_
      refine x_iload_n (q := 15) C 3 dX0_whoGoesTo_14 rfl rfl rfl ?_
      obtain ⟨hb2, hf⟩ := gd_some hf
      refine x_iald (q := 16) C 0 dX0_whoGoesTo_15 ((aX0_11 y aN N).L) rfl hb2 rfl ?_
      refine x_iload_n (q := 17) C 2 dX0_whoGoesTo_16 rfl rfl rfl ?_
      refine x_icmp_ne (t := 22) (q := 20) C dX0_whoGoesTo_17 (by decide) rfl (fun hc => ?_) (fun hc => ?_)
      · have hf := (if_neg hc).symm.trans hf
        refine x_iinc (q := 25) C 3 (v1 + 1) [1, 2, 3, 0] [(0, .ref (aN 0)), (1, .ref (aT 0)), (2, .int p2), (3, .int (v1 + 1))] dX0_whoGoesTo_22 rfl (congrArg (fun z => v1 + z) ki_1) (by decide) rfl rfl ?_
        refine x_goto (t := 2) C dX0_whoGoesTo_25 (by decide) ?_
        exact ih (v1 + 1) hf
      · have hf := (if_pos hc).symm.trans hf
        refine x_iload_n (q := 21) C 3 dX0_whoGoesTo_20 rfl rfl rfl ?_
        have hf := Option.some.inj hf
        exact x_iret () C dX0_whoGoesTo_21 rfl hf rfl (Nat.le_of_ble_eq_true rfl) (Nat.le_of_ble_eq_true rfl)
set_option maxHeartbeats 4000000 in
set_option maxRecDepth 100000 in
theorem c0_whoGoesTo {l : Launch} {D : va_G} {y : Nat → ClassId} {aN aT : Nat → Nat} {N : St} {T : St} {p2 : Int32} {r : Int32} (hf : f0_whoGoesTo N T p2 = some r) : xMi l yX0_whoGoesTo wsX0_whoGoesTo 0 0 0 0 D (xT y) [.ref (aN 0), .ref (aT 0), .int p2] (nC y aN N ++ tC y aT T) (fun (r' : Int32) (_ : Unit) => r' = r) (fun _ : Unit => nC y aN N ++ tC y aT T) := by
  refine xMi_of (cc := cX0_whoGoesTo) (nL := 4) (ret := (some .int)) [(0, .ref (aN 0)), (1, .ref (aT 0)), (2, .int p2)] (by decide) rfl (Nat.le_of_ble_eq_true rfl) rfl ?_
  intro p e s m args below meth c A C hin
  have C : xC p s m args meth c D A cX0_whoGoesTo RX0 4 wsX0_whoGoesTo (xT y) (some .int) := C
  unfold f0_whoGoesTo at hf
  refine x_iconst (q := 1) C dX0_whoGoesTo_0 ki_0 rfl ?_
  refine x_istore_n (q := 2) C [1, 2, 3, 0] [(0, .ref (aN 0)), (1, .ref (aT 0)), (2, .int p2), (3, .int 0)] dX0_whoGoesTo_1 rfl (by decide) rfl rfl ?_
  exact w0_whoGoesTo_L2 C xF 0 hf

/-! LampHills$Night.isDark(I)Z -/
theorem flX0_isDark_9 : Cond.fieldLink RX0 9 "LampHills$Night" "burningIn" "[I" ∈ wsX0_isDark := by decide +kernel
theorem iuX0_isDark_X0 : ∀ w ∈ u_ws RX0 TX0 16, w ∈ wsX0_isDark := fun _ h => List.mem_cons_of_mem _ (List.mem_append_right _ h)
def f0_isDark (N : St) (p1 : Int32) : Option (Int32) :=
  gd (xin p1 18) <|
  if (N 3 p1.toNatClampNeg) = 0 then
  (
    some 1
  )
  else
  (
    some 0
  )
set_option maxHeartbeats 4000000 in
set_option maxRecDepth 100000 in
theorem c0_isDark {l : Launch} {D : va_G} {y : Nat → ClassId} {aN : Nat → Nat} {N : St} {p1 : Int32} {r : Int32} (hf : f0_isDark N p1 = some r) : xMi l yX0_isDark wsX0_isDark 0 0 0 0 D (xT y) [.ref (aN 0), .int p1] (nC y aN N) (fun (r' : Int32) (_ : Unit) => r' = r) (fun _ : Unit => nC y aN N) := by
  refine xMi_of (cc := cX0_isDark) (nL := 2) (ret := (some .boolean)) [(0, .ref (aN 0)), (1, .int p1)] (by decide) rfl (Nat.le_of_ble_eq_true rfl) rfl ?_
  intro p e s m args below meth c A C hin
  have C : xC p s m args meth c D A cX0_isDark RX0 2 wsX0_isDark (xT y) (some .boolean) := C
  unfold f0_isDark at hf
  refine x_aload_n (q := 1) C 0 dX0_isDark_0 rfl rfl rfl ?_
  refine x_get (q := 4) C 3 dX0_isDark_1 (oX0 y aN N) rfl iuX0_isDark_X0 flX0_isDark_9 rfl (by decide) rfl rfl ?_
  refine x_iload_n (q := 5) C 1 dX0_isDark_4 rfl rfl rfl ?_
  obtain ⟨hb1, hf⟩ := gd_some hf
  refine x_iald (q := 6) C 0 dX0_isDark_5 (aX0_3 y aN N) rfl hb1 rfl ?_
  refine x_if_ne (t := 13) (q := 9) C dX0_isDark_6 (by decide) rfl (fun hc => ?_) (fun hc => ?_)
  · have hf := (if_neg hc).symm.trans hf
    refine x_iconst (q := 14) C dX0_isDark_13 ki_0 rfl ?_
    have hf := Option.some.inj hf
    exact x_zret () C dX0_isDark_14 rfl rfl hf rfl (Nat.le_of_ble_eq_true rfl) (Nat.le_of_ble_eq_true rfl)
  · have hf := (if_pos hc).symm.trans hf
    refine x_iconst (q := 10) C dX0_isDark_9 ki_1 rfl ?_
    refine x_goto (t := 14) C dX0_isDark_10 (by decide) ?_
    have hf := Option.some.inj hf
    exact x_zret () C dX0_isDark_14 rfl rfl hf rfl (Nat.le_of_ble_eq_true rfl) (Nat.le_of_ble_eq_true rfl)

/-! LampHills$Night.putOut(LLampHills$Town;I)V -/
theorem flX0_putOut_148 : Cond.fieldLink RX0 148 "LampHills$Town" "lampStreet" "[I" ∈ wsX0_putOut := by decide +kernel
theorem flX0_putOut_21 : Cond.fieldLink RX0 21 "LampHills$Night" "burns" "[Z" ∈ wsX0_putOut := by decide +kernel
theorem flX0_putOut_9 : Cond.fieldLink RX0 9 "LampHills$Night" "burningIn" "[I" ∈ wsX0_putOut := by decide +kernel
theorem iuX0_putOut_X0 : ∀ w ∈ u_ws RX0 TX0 16, w ∈ wsX0_putOut := fun _ h => List.mem_cons_of_mem _ (List.mem_append_left _ (List.mem_append_right _ h))
theorem iuX0_putOut_X1 : ∀ w ∈ u_ws RX1 TX1 17, w ∈ wsX0_putOut := fun _ h => List.mem_cons_of_mem _ (List.mem_append_right _ h)
def f0_putOut (N : St) (T : St) (p2 : Int32) : Option (St) :=
  gd (xin p2 20) <|
  lt_ (up2 N 6 p2.toNatClampNeg (vp_nar .boolean 0)) fun N2 =>
  gd (xin (T 8 p2.toNatClampNeg) 18) <|
  lt_ (up2 N2 3 (T 8 p2.toNatClampNeg).toNatClampNeg ((N2 3 (T 8 p2.toNatClampNeg).toNatClampNeg) - 1)) fun N4 =>
  some N4
set_option maxHeartbeats 4000000 in
set_option maxRecDepth 100000 in
theorem c0_putOut {l : Launch} {D : va_G} {y : Nat → ClassId} {aN aT : Nat → Nat} {N : St} {T : St} {p2 : Int32} {N' : St} (hf : f0_putOut N T p2 = some N') : xMv l yX0_putOut wsX0_putOut 0 0 0 0 D (xT y) [.ref (aN 0), .ref (aT 0), .int p2] (nC y aN N ++ tC y aT T) (fun (_ : Unit) => True) (fun _ : Unit => nC y aN N' ++ tC y aT T) := by
  refine xMv_of (cc := cX0_putOut) (nL := 3) (ret := none) [(0, .ref (aN 0)), (1, .ref (aT 0)), (2, .int p2)] (by decide) rfl (Nat.le_of_ble_eq_true rfl) rfl ?_
  intro p e s m args below meth c A C hin
  have C : xC p s m args meth c D A cX0_putOut RX0 3 wsX0_putOut (xT y) none := C
  unfold f0_putOut at hf
  refine x_aload_n (q := 1) C 0 dX0_putOut_0 rfl rfl rfl ?_
  refine x_get (q := 4) C 6 dX0_putOut_1 ((oX0 y aN N).L) rfl iuX0_putOut_X0 flX0_putOut_21 rfl (by decide) rfl rfl ?_
  refine x_iload_n (q := 5) C 2 dX0_putOut_4 rfl rfl rfl ?_
  refine x_iconst (q := 6) C dX0_putOut_5 ki_0 rfl ?_
  obtain ⟨hb1, hf⟩ := gd_some hf
  obtain ⟨N2, eN2, hf⟩ := lt_elim hf
  refine x_zast (q := 7) (ws' := nC y aN N2 ++ tC y aT T) C 1 dX0_putOut_6 ((aX0_6 y aN N).L) rfl hb1 (congrArg (fun z => nC y aN z ++ tC y aT T) eN2.symm) rfl ?_
  refine x_aload_n (q := 8) C 0 dX0_putOut_7 rfl rfl rfl ?_
  refine x_get (q := 11) C 3 dX0_putOut_8 ((oX0 y aN N2).L) rfl iuX0_putOut_X0 flX0_putOut_9 rfl (by decide) rfl rfl ?_
  refine x_aload_n (q := 12) C 1 dX0_putOut_11 rfl rfl rfl ?_
  refine x_get (q := 15) C 8 dX0_putOut_12 ((oX1 y aT T).R) rfl iuX0_putOut_X1 flX0_putOut_148 rfl (by decide) rfl rfl ?_
  refine x_iload_n (q := 16) C 2 dX0_putOut_15 rfl rfl rfl ?_
  refine x_iald (q := 17) C 0 dX0_putOut_16 ((aX1_8 y aT T).R) rfl hb1 rfl ?_
  refine x_dup2 (q := 18) C dX0_putOut_17 rfl rfl rfl ?_
  obtain ⟨hb3, hf⟩ := gd_some hf
  refine x_iald (q := 19) C 0 dX0_putOut_18 ((aX0_3 y aN N2).L) rfl hb3 rfl ?_
  refine x_iconst (q := 20) C dX0_putOut_19 ki_1 rfl ?_
  refine x_isub (q := 21) C dX0_putOut_20 rfl ?_
  obtain ⟨N4, eN4, hf⟩ := lt_elim hf
  refine x_iast (q := 22) (ws' := nC y aN N4 ++ tC y aT T) C 0 dX0_putOut_21 ((aX0_3 y aN N2).L) rfl hb3 (congrArg (fun z => nC y aN z ++ tC y aT T) eN4.symm) rfl ?_
  have hf := Option.some.inj hf
  exact x_vret () C dX0_putOut_22 rfl trivial (congrArg (fun z => nC y aN z ++ tC y aT T) hf) (Nat.le_of_ble_eq_true rfl) (Nat.le_of_ble_eq_true rfl)
