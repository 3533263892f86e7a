/-! LampHills$Night.waitFromNow(I)V -/
theorem ki_m1 : Int32.ofInt (-1) = (-1) := by decide
theorem flX0_waitFromNow_37 : Cond.fieldLink RX0 37 "LampHills$Night" "goesTo" "[I" ∈ wsX0_waitFromNow := by decide +kernel
theorem flX0_waitFromNow_43 : Cond.fieldLink RX0 43 "LampHills$Night" "minutesLeft" "[I" ∈ wsX0_waitFromNow := by decide +kernel
theorem iuX0_waitFromNow_X0 : ∀ w ∈ u_ws RX0 TX0 16, w ∈ wsX0_waitFromNow := fun _ h => List.mem_cons_of_mem _ (List.mem_append_right _ h)
def f0_waitFromNow (N : St) (p1 : Int32) : Option (St) :=
  gd (xin p1 4) <|
  lt_ (up2 N 11 p1.toNatClampNeg (-1)) fun N2 =>
  lt_ (up2 N2 13 p1.toNatClampNeg 0) fun N3 =>
  some N3
set_option maxHeartbeats 4000000 in
set_option maxRecDepth 100000 in
theorem c0_waitFromNow {l : Launch} {D : va_G} {y : Nat → ClassId} {aN : Nat → Nat} {N : St} {p1 : Int32} {N' : St} (hf : f0_waitFromNow N p1 = some N') : xMv l yX0_waitFromNow wsX0_waitFromNow 0 0 0 0 D (xT y) [.ref (aN 0), .int p1] (nC y aN N) (fun (_ : Unit) => True) (fun _ : Unit => nC y aN N') := by
  refine xMv_of (cc := cX0_waitFromNow) (nL := 2) (ret := none) [(0, .ref (aN 0)), (1, .int p1)] (by decide) rfl (Nat.le_of_ble_eq_true rfl) rfl ?_
  intro p e s m args below meth c A C hin
  have C : xC p s m args meth c D A cX0_waitFromNow RX0 2 wsX0_waitFromNow (xT y) none := C
  unfold f0_waitFromNow at hf
  refine x_aload_n (q := 1) C 0 dX0_waitFromNow_0 rfl rfl rfl ?_
  refine x_get (q := 4) C 11 dX0_waitFromNow_1 (oX0 y aN N) rfl iuX0_waitFromNow_X0 flX0_waitFromNow_37 rfl (by decide) rfl rfl ?_
  refine x_iload_n (q := 5) C 1 dX0_waitFromNow_4 rfl rfl rfl ?_
  refine x_iconst (q := 6) C dX0_waitFromNow_5 ki_m1 rfl ?_
  obtain ⟨hb1, hf⟩ := gd_some hf
  obtain ⟨N2, eN2, hf⟩ := lt_elim hf
  refine x_iast (q := 7) (ws' := nC y aN N2) C 0 dX0_waitFromNow_6 (aX0_11 y aN N) rfl hb1 (congrArg (fun z => nC y aN z) eN2.symm) rfl ?_
  refine x_aload_n (q := 8) C 0 dX0_waitFromNow_7 rfl rfl rfl ?_
  refine x_get (q := 11) C 13 dX0_waitFromNow_8 (oX0 y aN N2) rfl iuX0_waitFromNow_X0 flX0_waitFromNow_43 rfl (by decide) rfl rfl ?_
  refine x_iload_n (q := 12) C 1 dX0_waitFromNow_11 rfl rfl rfl ?_
  refine x_iconst (q := 13) C dX0_waitFromNow_12 ki_0 rfl ?_
  obtain ⟨N3, eN3, hf⟩ := lt_elim hf
  refine x_iast (q := 14) (ws' := nC y aN N3) C 0 dX0_waitFromNow_13 (aX0_13 y aN N2) rfl hb1 (congrArg (fun z => nC y aN z) eN3.symm) rfl ?_
  have hf := Option.some.inj hf
  exact x_vret () C dX0_waitFromNow_14 rfl trivial (congrArg (fun z => nC y aN z) hf) (Nat.le_of_ble_eq_true rfl) (Nat.le_of_ble_eq_true rfl)

/-! LampHills$Night.whoGoesTo(LLampHills$Town;I)I -/
theorem flX0_whoGoesTo_37 : Cond.fieldLink RX0 37 "LampHills$Night" "goesTo" "[I" ∈ wsX0_whoGoesTo := by decide +kernel
theorem flX0_whoGoesTo_91 : Cond.fieldLink RX0 91 "LampHills$Town" "lighters" "I" ∈ wsX0_whoGoesTo := by decide +kernel
theorem iuX0_whoGoesTo_X0 : ∀ w ∈ u_ws RX0 TX0 16, w ∈ wsX0_whoGoesTo := fun _ h => List.mem_cons_of_mem _ (List.mem_append_right _ h)
theorem iuX0_whoGoesTo_X1 : ∀ w ∈ u_ws RX1 TX1 17, w ∈ wsX0_whoGoesTo := fun _ h => List.mem_cons_of_mem _ (List.mem_append_left _ (List.mem_append_right _ h))
def f0_whoGoesTo_L2 (p2 : Int32) (N : St) (T : St) : Nat → Int32 → Option (Int32)
  | 0, _ => none
  | fu + 1, v1 =>
  if (T 12 0) ≤ v1 then
  (
    some (-1)
  )
  else
  (
    gd (xin v1 4) <|
    if (N 11 v1.toNatClampNeg) = p2 then
    (
      some v1
    )
    else
    (
      f0_whoGoesTo_L2 p2 N T fu (v1 + 1)
    )
  )
def f0_whoGoesTo (N : St) (T : St) (p2 : Int32) : Option (Int32) :=
  f0_whoGoesTo_L2 p2 N T xF 0
set_option maxHeartbeats 4000000 in
set_option maxRecDepth 100000 in
theorem w0_whoGoesTo_L2 {p : Program} {l : Launch} {e : Env} {s : State} {m : MethodId} {args : Array Value} {below : List Frame} {meth : Method} {c : Code} {D : va_G} {A : Nat → Prop} {y : Nat → ClassId} {aN aT : Nat → Nat} {N : St} {T : St} {p2 : Int32} {r : Int32} (C : xC p s m args meth c D A cX0_whoGoesTo RX0 4 wsX0_whoGoesTo (xT y) (some .int)) : ∀ (fu : Nat) (v1 : Int32), f0_whoGoesTo_L2 p2 N T fu v1 = some r → xV p l e { frames := 0, cells := 0, slots := 0, locals := 0 } s m args below meth c D A (xQi D (xT y) A (fun (r' : Int32) (_ : Unit) => r' = r) (fun _ : Unit => nC y aN N ++ tC y aT T) 0 0 below args s) 4 (nC y aN N ++ tC y aT T) 0 0 [(0, .ref (aN 0)), (1, .ref (aT 0)), (2, .int p2), (3, .int v1)] 2 [] := by
  intro fu
  induction fu with
  | zero => intro v1 hf; rw [f0_whoGoesTo_L2] at hf; cases hf
  | succ fu ih =>
    intro v1 hf
    rw [f0_whoGoesTo_L2] at hf
    refine x_iload_n (q := 3) C 3 dX0_whoGoesTo_2 rfl rfl rfl ?_
    refine x_aload_n (q := 4) C 1 dX0_whoGoesTo_3 rfl rfl rfl ?_
    refine x_get (q := 7) C 12 dX0_whoGoesTo_4 ((oX1 y aT T).R) rfl iuX0_whoGoesTo_X1 flX0_whoGoesTo_91 rfl (by decide) rfl rfl ?_
    refine x_icmp_ge (t := 28) (q := 10) C dX0_whoGoesTo_7 (by decide) rfl (fun hc => ?_) (fun hc => ?_)
    · have hf := (if_pos hc).symm.trans hf
      refine x_iconst (q := 29) C dX0_whoGoesTo_28 ki_m1 rfl ?_
      have hf := Option.some.inj hf
      exact x_iret () C dX0_whoGoesTo_29 rfl hf rfl (Nat.le_of_ble_eq_true rfl) (Nat.le_of_ble_eq_true rfl)
    · have hf := (if_neg hc).symm.trans hf
      refine x_aload_n (q := 11) C 0 dX0_whoGoesTo_10 rfl rfl rfl ?_
      refine x_get (q := 14) C 11 dX0_whoGoesTo_11 ((oX0 y aN N).L) rfl iuX0_whoGoesTo_X0 flX0_whoGoesTo_37 rfl (by decide) rfl rfl ?_
      refine x_iload_n (q := 15) C 3 dX0_whoGoesTo_14 rfl rfl rfl ?_
      obtain ⟨hb2, hf⟩ := gd_some hf
      refine x_iald (q := 16) C 0 dX0_whoGoesTo_15 ((aX0_11 y aN N).L) rfl hb2 rfl ?_
      refine x_iload_n (q := 17) C 2 dX0_whoGoesTo_16 rfl rfl rfl ?_
      refine x_icmp_ne (t := 22) (q := 20) C dX0_whoGoesTo_17 (by decide) rfl (fun hc => ?_) (fun hc => ?_)
      · have hf := (if_neg hc).symm.trans hf
        refine x_iinc (q := 25) C 3 (v1 + 1) [1, 2, 3, 0] [(0, .ref (aN 0)), (1, .ref (aT 0)), (2, .int p2), (3, .int (v1 + 1))] dX0_whoGoesTo_22 rfl (congrArg (fun z => v1 + z) ki_1) (by decide) rfl rfl ?_
        refine x_goto (t := 2) C dX0_whoGoesTo_25 (by decide) ?_
        exact ih (v1 + 1) hf
      · have hf := (if_pos hc).symm.trans hf
        refine x_iload_n (q := 21) C 3 dX0_whoGoesTo_20 rfl rfl rfl ?_
        have hf := Option.some.inj hf
        exact x_iret () C dX0_whoGoesTo_21 rfl hf rfl (Nat.le_of_ble_eq_true rfl) (Nat.le_of_ble_eq_true rfl)
set_option maxHeartbeats 4000000 in
set_option maxRecDepth 100000 in
theorem c0_whoGoesTo {l : Launch} {D : va_G} {y : Nat → ClassId} {aN aT : Nat → Nat} {N : St} {T : St} {p2 : Int32} {r : Int32} (hf : f0_whoGoesTo N T p2 = some r) : xMi l yX0_whoGoesTo wsX0_whoGoesTo 0 0 0 0 D (xT y) [.ref (aN 0), .ref (aT 0), .int p2] (nC y aN N ++ tC y aT T) (fun (r' : Int32) (_ : Unit) => r' = r) (fun _ : Unit => nC y aN N ++ tC y aT T) := by
  refine xMi_of (cc := cX0_whoGoesTo) (nL := 4) (ret := (some .int)) [(0, .ref (aN 0)), (1, .ref (aT 0)), (2, .int p2)] (by decide) rfl (Nat.le_of_ble_eq_true rfl) rfl ?_
  intro p e s m args below meth c A C hin
  have C : xC p s m args meth c D A cX0_whoGoesTo RX0 4 wsX0_whoGoesTo (xT y) (some .int) := C
  unfold f0_whoGoesTo at hf
  refine x_iconst (q := 1) C dX0_whoGoesTo_0 ki_0 rfl ?_
  refine x_istore_n (q := 2) C [1, 2, 3, 0] [(0, .ref (aN 0)), (1, .ref (aT 0)), (2, .int p2), (3, .int 0)] dX0_whoGoesTo_1 rfl (by decide) rfl rfl ?_
  exact w0_whoGoesTo_L2 C xF 0 hf

/-! LampHills$Night.isDark(I)Z -/
theorem flX0_isDark_9 : Cond.fieldLink RX0 9 "LampHills$Night" "burningIn" "[I" ∈ wsX0_isDark := by decide +kernel
theorem iuX0_isDark_X0 : ∀ w ∈ u_ws RX0 TX0 16, w ∈ wsX0_isDark := fun _ h => List.mem_cons_of_mem _ (List.mem_append_right _ h)
def f0_isDark (N : St) (p1 : Int32) : Option (Int32) :=
  gd (xin p1 18) <|
  if (N 3 p1.toNatClampNeg) = 0 then
  (
    some 1
  )
  else
  (
    some 0
  )
set_option maxHeartbeats 4000000 in
set_option maxRecDepth 100000 in
theorem c0_isDark {l : Launch} {D : va_G} {y : Nat → ClassId} {aN : Nat → Nat} {N : St} {p1 : Int32} {r : Int32} (hf : f0_isDark N p1 = some r) : xMi l yX0_isDark wsX0_isDark 0 0 0 0 D (xT y) [.ref (aN 0), .int p1] (nC y aN N) (fun (r' : Int32) (_ : Unit) => r' = r) (fun _ : Unit => nC y aN N) := by
  refine xMi_of (cc := cX0_isDark) (nL := 2) (ret := (some .boolean)) [(0, .ref (aN 0)), (1, .int p1)] (by decide) rfl (Nat.le_of_ble_eq_true rfl) rfl ?_
  intro p e s m args below meth c A C hin
  have C : xC p s m args meth c D A cX0_isDark RX0 2 wsX0_isDark (xT y) (some .boolean) := C
  unfold f0_isDark at hf
  refine x_aload_n (q := 1) C 0 dX0_isDark_0 rfl rfl rfl ?_
  refine x_get (q := 4) C 3 dX0_isDark_1 (oX0 y aN N) rfl iuX0_isDark_X0 flX0_isDark_9 rfl (by decide) rfl rfl ?_
  refine x_iload_n (q := 5) C 1 dX0_isDark_4 rfl rfl rfl ?_
  obtain ⟨hb1, hf⟩ := gd_some hf
  refine x_iald (q := 6) C 0 dX0_isDark_5 (aX0_3 y aN N) rfl hb1 rfl ?_
  refine x_if_ne (t := 13) (q := 9) C dX0_isDark_6 (by decide) rfl (fun hc => ?_) (fun hc => ?_)
  · have hf := (if_neg hc).symm.trans hf
    refine x_iconst (q := 14) C dX0_isDark_13 ki_0 rfl ?_
    have hf := Option.some.inj hf
    exact x_zret () C dX0_isDark_14 rfl rfl hf rfl (Nat.le_of_ble_eq_true rfl) (Nat.le_of_ble_eq_true rfl)
  · have hf := (if_pos hc).symm.trans hf
    refine x_iconst (q := 10) C dX0_isDark_9 ki_1 rfl ?_
    refine x_goto (t := 14) C dX0_isDark_10 (by decide) ?_
    have hf := Option.some.inj hf
    exact x_zret () C dX0_isDark_14 rfl rfl hf rfl (Nat.le_of_ble_eq_true rfl) (Nat.le_of_ble_eq_true rfl)

/-! LampHills$Night.putOut(LLampHills$Town;I)V -/
theorem flX0_putOut_148 : Cond.fieldLink RX0 148 "LampHills$Town" "lampStreet" "[I" ∈ wsX0_putOut := by decide +kernel
theorem flX0_putOut_21 : Cond.fieldLink RX0 21 "LampHills$Night" "burns" "[Z" ∈ wsX0_putOut := by decide +kernel
theorem flX0_putOut_9 : Cond.fieldLink RX0 9 "LampHills$Night" "burningIn" "[I" ∈ wsX0_putOut := by decide +kernel
theorem iuX0_putOut_X0 : ∀ w ∈ u_ws RX0 TX0 16, w ∈ wsX0_putOut := fun _ h => List.mem_cons_of_mem _ (List.mem_append_left _ (List.mem_append_right _ h))
theorem iuX0_putOut_X1 : ∀ w ∈ u_ws RX1 TX1 17, w ∈ wsX0_putOut := fun _ h => List.mem_cons_of_mem _ (List.mem_append_right _ h)
def f0_putOut (N : St) (T : St) (p2 : Int32) : Option (St) :=
  gd (xin p2 20) <|
  lt_ (up2 N 6 p2.toNatClampNeg (vp_nar .boolean 0)) fun N2 =>
  gd (xin (T 8 p2.toNatClampNeg) 18) <|
  lt_ (up2 N2 3 (T 8 p2.toNatClampNeg).toNatClampNeg ((N2 3 (T 8 p2.toNatClampNeg).toNatClampNeg) - 1)) fun N4 =>
  some N4
set_option maxHeartbeats 4000000 in
set_option maxRecDepth 100000 in
theorem c0_putOut {l : Launch} {D : va_G} {y : Nat → ClassId} {aN aT : Nat → Nat} {N : St} {T : St} {p2 : Int32} {N' : St} (hf : f0_putOut N T p2 = some N') : xMv l yX0_putOut wsX0_putOut 0 0 0 0 D (xT y) [.ref (aN 0), .ref (aT 0), .int p2] (nC y aN N ++ tC y aT T) (fun (_ : Unit) => True) (fun _ : Unit => nC y aN N' ++ tC y aT T) := by
  refine xMv_of (cc := cX0_putOut) (nL := 3) (ret := none) [(0, .ref (aN 0)), (1, .ref (aT 0)), (2, .int p2)] (by decide) rfl (Nat.le_of_ble_eq_true rfl) rfl ?_
  intro p e s m args below meth c A C hin
  have C : xC p s m args meth c D A cX0_putOut RX0 3 wsX0_putOut (xT y) none := C
  unfold f0_putOut at hf
  refine x_aload_n (q := 1) C 0 dX0_putOut_0 rfl rfl rfl ?_
  refine x_get (q := 4) C 6 dX0_putOut_1 ((oX0 y aN N).L) rfl iuX0_putOut_X0 flX0_putOut_21 rfl (by decide) rfl rfl ?_
  refine x_iload_n (q := 5) C 2 dX0_putOut_4 rfl rfl rfl ?_
  refine x_iconst (q := 6) C dX0_putOut_5 ki_0 rfl ?_
  obtain ⟨hb1, hf⟩ := gd_some hf
  obtain ⟨N2, eN2, hf⟩ := lt_elim hf
  refine x_zast (q := 7) (ws' := nC y aN N2 ++ tC y aT T) C 1 dX0_putOut_6 ((aX0_6 y aN N).L) rfl hb1 (congrArg (fun z => nC y aN z ++ tC y aT T) eN2.symm) rfl ?_
  refine x_aload_n (q := 8) C 0 dX0_putOut_7 rfl rfl rfl ?_
  refine x_get (q := 11) C 3 dX0_putOut_8 ((oX0 y aN N2).L) rfl iuX0_putOut_X0 flX0_putOut_9 rfl (by decide) rfl rfl ?_
  refine x_aload_n (q := 12) C 1 dX0_putOut_11 rfl rfl rfl ?_
  refine x_get (q := 15) C 8 dX0_putOut_12 ((oX1 y aT T).R) rfl iuX0_putOut_X1 flX0_putOut_148 rfl (by decide) rfl rfl ?_
  refine x_iload_n (q := 16) C 2 dX0_putOut_15 rfl rfl rfl ?_
  refine x_iald (q := 17) C 0 dX0_putOut_16 ((aX1_8 y aT T).R) rfl hb1 rfl ?_
  refine x_dup2 (q := 18) C dX0_putOut_17 rfl rfl rfl ?_
  obtain ⟨hb3, hf⟩ := gd_some hf
  refine x_iald (q := 19) C 0 dX0_putOut_18 ((aX0_3 y aN N2).L) rfl hb3 rfl ?_
  refine x_iconst (q := 20) C dX0_putOut_19 ki_1 rfl ?_
  refine x_isub (q := 21) C dX0_putOut_20 rfl ?_
  obtain ⟨N4, eN4, hf⟩ := lt_elim hf
  refine x_iast (q := 22) (ws' := nC y aN N4 ++ tC y aT T) C 0 dX0_putOut_21 ((aX0_3 y aN N2).L) rfl hb3 (congrArg (fun z => nC y aN z ++ tC y aT T) eN4.symm) rfl ?_
  have hf := Option.some.inj hf
  exact x_vret () C dX0_putOut_22 rfl trivial (congrArg (fun z => nC y aN z ++ tC y aT T) hf) (Nat.le_of_ble_eq_true rfl) (Nat.le_of_ble_eq_true rfl)

/-! LampHills$Night.sendHome(LLampHills$Town;I)V -/
theorem flX0_sendHome_31 : Cond.fieldLink RX0 31 "LampHills$Night" "at" "[I" ∈ wsX0_sendHome := by decide +kernel
theorem flX0_sendHome_46 : Cond.fieldLink RX0 46 "LampHills$Night" "latestPlace" "[I" ∈ wsX0_sendHome := by decide +kernel
theorem flX0_sendHome_97 : Cond.fieldLink RX0 97 "LampHills$Town" "home" "[I" ∈ wsX0_sendHome := by decide +kernel
theorem iuX0_sendHome_X0 : ∀ w ∈ u_ws RX0 TX0 16, w ∈ wsX0_sendHome := fun _ h => List.mem_cons_of_mem _ (List.mem_append_left _ (List.mem_append_right _ h))
theorem iuX0_sendHome_X1 : ∀ w ∈ u_ws RX1 TX1 17, w ∈ wsX0_sendHome := fun _ h => List.mem_cons_of_mem _ (List.mem_append_right _ h)
theorem yi_X0_waitFromNow : xY yX0_waitFromNow wsX0_waitFromNow cX0_waitFromNow 2 none 1 := ⟨⟨_, rfl⟩, by decide +kernel, by decide +kernel, by decide +kernel⟩
def f0_sendHome (N : St) (T : St) (p2 : Int32) : Option (St) :=
  gd (xin p2 4) <|
  lt_ (up2 N 9 p2.toNatClampNeg (T 13 p2.toNatClampNeg)) fun N2 =>
  bd (f0_waitFromNow N2 p2) fun N3 =>
  lt_ (up2 N3 14 p2.toNatClampNeg (-1)) fun N5 =>
  some N5
set_option maxHeartbeats 4000000 in
set_option maxRecDepth 100000 in
theorem c0_sendHome {l : Launch} {D : va_G} {y : Nat → ClassId} {aN aT : Nat → Nat} {N : St} {T : St} {p2 : Int32} {N' : St} (hf : f0_sendHome N T p2 = some N') : xMv l yX0_sendHome wsX0_sendHome 1 21 0 0 D (xT y) [.ref (aN 0), .ref (aT 0), .int p2] (nC y aN N ++ tC y aT T) (fun (_ : Unit) => True) (fun _ : Unit => nC y aN N' ++ tC y aT T) := by
  refine xMv_of (cc := cX0_sendHome) (nL := 3) (ret := none) [(0, .ref (aN 0)), (1, .ref (aT 0)), (2, .int p2)] (by decide) rfl (Nat.le_of_ble_eq_true rfl) rfl ?_
  intro p e s m args below meth c A C hin
  have C : xC p s m args meth c D A cX0_sendHome RX0 3 wsX0_sendHome (xT y) none := C
  unfold f0_sendHome at hf
  refine x_aload_n (q := 1) C 0 dX0_sendHome_0 rfl rfl rfl ?_
  refine x_get (q := 4) C 9 dX0_sendHome_1 ((oX0 y aN N).L) rfl iuX0_sendHome_X0 flX0_sendHome_31 rfl (by decide) rfl rfl ?_
  refine x_iload_n (q := 5) C 2 dX0_sendHome_4 rfl rfl rfl ?_
  refine x_aload_n (q := 6) C 1 dX0_sendHome_5 rfl rfl rfl ?_
  refine x_get (q := 9) C 13 dX0_sendHome_6 ((oX1 y aT T).R) rfl iuX0_sendHome_X1 flX0_sendHome_97 rfl (by decide) rfl rfl ?_
  refine x_iload_n (q := 10) C 2 dX0_sendHome_9 rfl rfl rfl ?_
  obtain ⟨hb1, hf⟩ := gd_some hf
  refine x_iald (q := 11) C 0 dX0_sendHome_10 ((aX1_13 y aT T).R) rfl hb1 rfl ?_
  obtain ⟨N2, eN2, hf⟩ := lt_elim hf
  refine x_iast (q := 12) (ws' := nC y aN N2 ++ tC y aT T) C 0 dX0_sendHome_11 ((aX0_9 y aN N).L) rfl hb1 (congrArg (fun z => nC y aN z ++ tC y aT T) eN2.symm) rfl ?_
  refine x_aload_n (q := 13) C 0 dX0_sendHome_12 rfl rfl rfl ?_
  refine x_iload_n (q := 14) C 2 dX0_sendHome_13 rfl rfl rfl ?_
  obtain ⟨N3, hcal4, hf⟩ := bd_some hf
  refine x_callVv (q := 17) C (c0_waitFromNow (l := l) (D := D) (y := y) (aN := aN) hcal4) yi_X0_waitFromNow gX0_sendHome_X0_waitFromNow rfl (oX0 y aN N2) rfl ⟨(Nat.le_of_ble_eq_true rfl), (Nat.le_of_ble_eq_true rfl)⟩ dX0_sendHome_14 (pm2_0 _ _) rfl rfl (Nat.le_of_ble_eq_true rfl) ⟨Nat.le_of_ble_eq_true rfl, Nat.le_of_ble_eq_true rfl⟩ rfl ?_
  intro uu hrr
  refine x_perm (ws' := nC y aN N3 ++ tC y aT T) (pm2_0 _ _).symm ?_
  refine x_aload_n (q := 18) C 0 dX0_sendHome_17 rfl rfl rfl ?_
  refine x_get (q := 21) C 14 dX0_sendHome_18 ((oX0 y aN N3).L) rfl iuX0_sendHome_X0 flX0_sendHome_46 rfl (by decide) rfl rfl ?_
  refine x_iload_n (q := 22) C 2 dX0_sendHome_21 rfl rfl rfl ?_
  refine x_iconst (q := 23) C dX0_sendHome_22 ki_m1 rfl ?_
  obtain ⟨N5, eN5, hf⟩ := lt_elim hf
  refine x_iast (q := 24) (ws' := nC y aN N5 ++ tC y aT T) C 0 dX0_sendHome_23 ((aX0_14 y aN N3).L) rfl hb1 (congrArg (fun z => nC y aN z ++ tC y aT T) eN5.symm) rfl ?_
  have hf := Option.some.inj hf
  exact x_vret () C dX0_sendHome_24 rfl trivial (congrArg (fun z => nC y aN z ++ tC y aT T) hf) (Nat.le_of_ble_eq_true rfl) (Nat.le_of_ble_eq_true rfl)

/-! LampHills$Night.beginNext(LLampHills$Town;)V -/
theorem flX0_beginNext_21 : Cond.fieldLink RX0 21 "LampHills$Night" "burns" "[Z" ∈ wsX0_beginNext := by decide +kernel
theorem flX0_beginNext_52 : Cond.fieldLink RX0 52 "LampHills$Night" "minute" "I" ∈ wsX0_beginNext := by decide +kernel
theorem flX0_beginNext_56 : Cond.fieldLink RX0 56 "LampHills$Night" "number" "I" ∈ wsX0_beginNext := by decide +kernel
theorem flX0_beginNext_85 : Cond.fieldLink RX0 85 "LampHills$Town" "lamps" "I" ∈ wsX0_beginNext := by decide +kernel
theorem flX0_beginNext_91 : Cond.fieldLink RX0 91 "LampHills$Town" "lighters" "I" ∈ wsX0_beginNext := by decide +kernel
theorem iuX0_beginNext_X0 : ∀ w ∈ u_ws RX0 TX0 16, w ∈ wsX0_beginNext := fun _ h => List.mem_cons_of_mem _ (List.mem_append_left _ (List.mem_append_right _ h))
theorem iuX0_beginNext_X1 : ∀ w ∈ u_ws RX1 TX1 17, w ∈ wsX0_beginNext := fun _ h => List.mem_cons_of_mem _ (List.mem_append_right _ h)
theorem yi_X0_putOut : xY yX0_putOut wsX0_putOut cX0_putOut 3 none 2 := ⟨⟨_, rfl⟩, by decide +kernel, by decide +kernel, by decide +kernel⟩
theorem yi_X0_sendHome : xY yX0_sendHome wsX0_sendHome cX0_sendHome 3 none 2 := ⟨⟨_, rfl⟩, by decide +kernel, by decide +kernel, by decide +kernel⟩
def f0_beginNext_L17 (T : St) (K : St → Option (St)) : Nat → Int32 → St → Option (St)
  | 0, _, _ => none
  | fu + 1, v3, N4 =>
  if (T 7 0) ≤ v3 then
  (
    K N4
  )
  else
  (
    gd (xin v3 20) <|
    lt_ (fun (N7 : St) =>
    (
      f0_beginNext_L17 T K fu (v3 + 1) N7
    )
    ) fun J40 =>
    if (N4 6 v3.toNatClampNeg) = 0 then
    (
      J40 N4
    )
    else
    (
      bd (f0_putOut N4 T v3) fun N8 =>
      J40 N8
    )
  )
def f0_beginNext_L48 (T : St) : Nat → Int32 → St → Option (St)
  | 0, _, _ => none
  | fu + 1, v10, N11 =>
  if (T 12 0) ≤ v10 then
  (
    some N11
  )
  else
  (
    bd (f0_sendHome N11 T v10) fun N12 =>
    f0_beginNext_L48 T fu (v10 + 1) N12
  )
def f0_beginNext (N : St) (T : St) : Option (St) :=
  lt_ (up2 N 0 0 0) fun N1 =>
  lt_ (up2 N1 1 0 ((N1 1 0) + 1)) fun N2 =>
  f0_beginNext_L17 T (fun (N5 : St) =>
  (
    f0_beginNext_L48 T xF 0 N5
  )
  ) xF 0 N2
set_option maxHeartbeats 4000000 in
set_option maxRecDepth 100000 in
theorem w0_beginNext_L17 {p : Program} {l : Launch} {e : Env} {s : State} {m : MethodId} {args : Array Value} {below : List Frame} {meth : Method} {c : Code} {D : va_G} {A : Nat → Prop} {y : Nat → ClassId} {aN aT : Nat → Nat} {T : St} {N' : St} {K : St → Option (St)} (C : xC p s m args meth c D A cX0_beginNext RX0 3 wsX0_beginNext (xT y) none) (hK : ∀ (N5 : St), K N5 = some N' → xV p l e { frames := 2, cells := 0, slots := 0, locals := 43 } s m args below meth c D A (xQv D (xT y) A (fun (_ : Unit) => True) (fun _ : Unit => nC y aN N' ++ tC y aT T) 0 0 below args s) 3 (nC y aN N5 ++ tC y aT T) 0 0 [(0, .ref (aN 0)), (1, .ref (aT 0))] 46 []) : ∀ (fu : Nat) (v3 : Int32) (N4 : St), f0_beginNext_L17 T K fu v3 N4 = some N' → xV p l e { frames := 2, cells := 0, slots := 0, locals := 43 } s m args below meth c D A (xQv D (xT y) A (fun (_ : Unit) => True) (fun _ : Unit => nC y aN N' ++ tC y aT T) 0 0 below args s) 3 (nC y aN N4 ++ tC y aT T) 0 0 [(0, .ref (aN 0)), (1, .ref (aT 0)), (2, .int v3)] 17 [] := by
  intro fu
  induction fu with
  | zero => intro v3 N4 hf; rw [f0_beginNext_L17] at hf; cases hf
  | succ fu ih =>
    intro v3 N4 hf
    rw [f0_beginNext_L17] at hf
    refine x_iload_n (q := 18) C 2 dX0_beginNext_17 rfl rfl rfl ?_
    refine x_aload_n (q := 19) C 1 dX0_beginNext_18 rfl rfl rfl ?_
    refine x_get (q := 22) C 7 dX0_beginNext_19 ((oX1 y aT T).R) rfl iuX0_beginNext_X1 flX0_beginNext_85 rfl (by decide) rfl rfl ?_
    refine x_icmp_ge (t := 46) (q := 25) C dX0_beginNext_22 (by decide) rfl (fun hc => ?_) (fun hc => ?_)
    · have hf := (if_pos hc).symm.trans hf
      refine x_sub [0, 1] (L' := [(0, .ref (aN 0)), (1, .ref (aT 0))]) rfl ?_
      exact hK N4 hf
    · have hf := (if_neg hc).symm.trans hf
      refine x_aload_n (q := 26) C 0 dX0_beginNext_25 rfl rfl rfl ?_
      refine x_get (q := 29) C 6 dX0_beginNext_26 ((oX0 y aN N4).L) rfl iuX0_beginNext_X0 flX0_beginNext_21 rfl (by decide) rfl rfl ?_
      refine x_iload_n (q := 30) C 2 dX0_beginNext_29 rfl rfl rfl ?_
      obtain ⟨hb6, hf⟩ := gd_some hf
      refine x_zald (q := 31) C 1 dX0_beginNext_30 ((aX0_6 y aN N4).L) rfl hb6 rfl ?_
      obtain ⟨J40, eJ40, hf⟩ := lt_elim hf
      have hJ40 : ∀ (N7 : St), J40 N7 = some N' → xV p l e { frames := 2, cells := 0, slots := 0, locals := 43 } s m args below meth c D A (xQv D (xT y) A (fun (_ : Unit) => True) (fun _ : Unit => nC y aN N' ++ tC y aT T) 0 0 below args s) 3 (nC y aN N7 ++ tC y aT T) 0 0 [(0, .ref (aN 0)), (1, .ref (aT 0)), (2, .int v3)] 40 [] := by
        intro N7 hf
        subst eJ40
        refine x_iinc (q := 43) C 2 (v3 + 1) [1, 2, 0] [(0, .ref (aN 0)), (1, .ref (aT 0)), (2, .int (v3 + 1))] dX0_beginNext_40 rfl (congrArg (fun z => v3 + z) ki_1) (by decide) rfl rfl ?_
        refine x_goto (t := 17) C dX0_beginNext_43 (by decide) ?_
        exact ih (v3 + 1) N7 hf
      refine x_if_eq (t := 40) (q := 34) C dX0_beginNext_31 (by decide) rfl (fun hc => ?_) (fun hc => ?_)
      · have hf := (if_pos hc).symm.trans hf
        exact hJ40 N4 hf
      · have hf := (if_neg hc).symm.trans hf
        refine x_aload_n (q := 35) C 0 dX0_beginNext_34 rfl rfl rfl ?_
        refine x_aload_n (q := 36) C 1 dX0_beginNext_35 rfl rfl rfl ?_
        refine x_iload_n (q := 37) C 2 dX0_beginNext_36 rfl rfl rfl ?_
        obtain ⟨N8, hcal9, hf⟩ := bd_some hf
        refine x_callVv (q := 40) C (c0_putOut (l := l) (D := D) (y := y) (aN := aN) (aT := aT) hcal9) yi_X0_putOut gX0_beginNext_X0_putOut rfl ((oX0 y aN N4).L) rfl ⟨(Nat.le_of_ble_eq_true rfl), (Nat.le_of_ble_eq_true rfl)⟩ dX0_beginNext_37 pm_nil rfl rfl (Nat.le_of_ble_eq_true rfl) ⟨Nat.le_of_ble_eq_true rfl, Nat.le_of_ble_eq_true rfl⟩ rfl ?_
        intro uu hrr
        refine x_world (ws' := nC y aN N8 ++ tC y aT T) (List.append_nil _) ?_
        exact hJ40 N8 hf
set_option maxHeartbeats 4000000 in
set_option maxRecDepth 100000 in
theorem w0_beginNext_L48 {p : Program} {l : Launch} {e : Env} {s : State} {m : MethodId} {args : Array Value} {below : List Frame} {meth : Method} {c : Code} {D : va_G} {A : Nat → Prop} {y : Nat → ClassId} {aN aT : Nat → Nat} {T : St} {N' : St} (C : xC p s m args meth c D A cX0_beginNext RX0 3 wsX0_beginNext (xT y) none) : ∀ (fu : Nat) (v10 : Int32) (N11 : St), f0_beginNext_L48 T fu v10 N11 = some N' → xV p l e { frames := 2, cells := 0, slots := 0, locals := 43 } s m args below meth c D A (xQv D (xT y) A (fun (_ : Unit) => True) (fun _ : Unit => nC y aN N' ++ tC y aT T) 0 0 below args s) 3 (nC y aN N11 ++ tC y aT T) 0 0 [(0, .ref (aN 0)), (1, .ref (aT 0)), (2, .int v10)] 48 [] := by
  intro fu
  induction fu with
  | zero => intro v10 N11 hf; rw [f0_beginNext_L48] at hf; cases hf
  | succ fu ih =>
    intro v10 N11 hf
    rw [f0_beginNext_L48] at hf
    refine x_iload_n (q := 49) C 2 dX0_beginNext_48 rfl rfl rfl ?_
    refine x_aload_n (q := 50) C 1 dX0_beginNext_49 rfl rfl rfl ?_
    refine x_get (q := 53) C 12 dX0_beginNext_50 ((oX1 y aT T).R) rfl iuX0_beginNext_X1 flX0_beginNext_91 rfl (by decide) rfl rfl ?_
    refine x_icmp_ge (t := 68) (q := 56) C dX0_beginNext_53 (by decide) rfl (fun hc => ?_) (fun hc => ?_)
    · have hf := (if_pos hc).symm.trans hf
      have hf := Option.some.inj hf
      exact x_vret () C dX0_beginNext_68 rfl trivial (congrArg (fun z => nC y aN z ++ tC y aT T) hf) (Nat.le_of_ble_eq_true rfl) (Nat.le_of_ble_eq_true rfl)
    · have hf := (if_neg hc).symm.trans hf
      refine x_aload_n (q := 57) C 0 dX0_beginNext_56 rfl rfl rfl ?_
      refine x_aload_n (q := 58) C 1 dX0_beginNext_57 rfl rfl rfl ?_
      refine x_iload_n (q := 59) C 2 dX0_beginNext_58 rfl rfl rfl ?_
      obtain ⟨N12, hcal13, hf⟩ := bd_some hf
      refine x_callVv (q := 62) C (c0_sendHome (l := l) (D := D) (y := y) (aN := aN) (aT := aT) hcal13) yi_X0_sendHome gX0_beginNext_X0_sendHome rfl ((oX0 y aN N11).L) rfl ⟨(Nat.le_of_ble_eq_true rfl), (Nat.le_of_ble_eq_true rfl)⟩ dX0_beginNext_59 pm_nil rfl rfl (Nat.le_of_ble_eq_true rfl) ⟨Nat.le_of_ble_eq_true rfl, Nat.le_of_ble_eq_true rfl⟩ rfl ?_
      intro uu hrr
      refine x_world (ws' := nC y aN N12 ++ tC y aT T) (List.append_nil _) ?_
      refine x_iinc (q := 65) C 2 (v10 + 1) [1, 2, 0] [(0, .ref (aN 0)), (1, .ref (aT 0)), (2, .int (v10 + 1))] dX0_beginNext_62 rfl (congrArg (fun z => v10 + z) ki_1) (by decide) rfl rfl ?_
      refine x_goto (t := 48) C dX0_beginNext_65 (by decide) ?_
      exact ih (v10 + 1) N12 hf
set_option maxHeartbeats 4000000 in
set_option maxRecDepth 100000 in
theorem c0_beginNext {l : Launch} {D : va_G} {y : Nat → ClassId} {aN aT : Nat → Nat} {N : St} {T : St} {N' : St} (hf : f0_beginNext N T = some N') : xMv l yX0_beginNext wsX0_beginNext 2 43 0 0 D (xT y) [.ref (aN 0), .ref (aT 0)] (nC y aN N ++ tC y aT T) (fun (_ : Unit) => True) (fun _ : Unit => nC y aN N' ++ tC y aT T) := by
  refine xMv_of (cc := cX0_beginNext) (nL := 3) (ret := none) [(0, .ref (aN 0)), (1, .ref (aT 0))] (by decide) rfl (Nat.le_of_ble_eq_true rfl) rfl ?_
  intro p e s m args below meth c A C hin
  have C : xC p s m args meth c D A cX0_beginNext RX0 3 wsX0_beginNext (xT y) none := C
  unfold f0_beginNext at hf
  refine x_aload_n (q := 1) C 0 dX0_beginNext_0 rfl rfl rfl ?_
  refine x_iconst (q := 2) C dX0_beginNext_1 ki_0 rfl ?_
  obtain ⟨N1, eN1, hf⟩ := lt_elim hf
  refine x_puti (q := 5) (ws' := nC y aN N1 ++ tC y aT T) C tyX0 tyX0_ok nmX0 dX0_beginNext_2 ((iX0_0 y aN N).L) rfl iuX0_beginNext_X0 flX0_beginNext_52 rfl (by decide) rfl rfl (congrArg (fun z => nC y aN z ++ tC y aT T) eN1.symm) rfl ?_
  refine x_aload_n (q := 6) C 0 dX0_beginNext_5 rfl rfl rfl ?_
  refine x_dup (q := 7) C dX0_beginNext_6 rfl rfl ?_
  refine x_get (q := 10) C 1 dX0_beginNext_7 ((oX0 y aN N1).L) rfl iuX0_beginNext_X0 flX0_beginNext_56 rfl (by decide) rfl rfl ?_
  refine x_iconst (q := 11) C dX0_beginNext_10 ki_1 rfl ?_
  refine x_iadd (q := 12) C dX0_beginNext_11 rfl ?_
  obtain ⟨N2, eN2, hf⟩ := lt_elim hf
  refine x_puti (q := 15) (ws' := nC y aN N2 ++ tC y aT T) C tyX0 tyX0_ok nmX0 dX0_beginNext_12 ((iX0_1 y aN N1).L) rfl iuX0_beginNext_X0 flX0_beginNext_56 rfl (by decide) rfl rfl (congrArg (fun z => nC y aN z ++ tC y aT T) eN2.symm) rfl ?_
  refine x_iconst (q := 16) C dX0_beginNext_15 ki_0 rfl ?_
  refine x_istore_n (q := 17) C [1, 2, 0] [(0, .ref (aN 0)), (1, .ref (aT 0)), (2, .int 0)] dX0_beginNext_16 rfl (by decide) rfl rfl ?_
  refine w0_beginNext_L17 C (fun N5 hf => ?_) xF 0 N2 hf
  refine x_iconst (q := 47) C dX0_beginNext_46 ki_0 rfl ?_
  refine x_istore_n (q := 48) C [1, 2, 0] [(0, .ref (aN 0)), (1, .ref (aT 0)), (2, .int 0)] dX0_beginNext_47 rfl (by decide) rfl rfl ?_
  exact w0_beginNext_L48 C xF 0 N5 hf

/-! LampHills$Night.burningLamps(LLampHills$Town;)I -/
theorem flX0_burningLamps_104 : Cond.fieldLink RX0 104 "LampHills$Town" "streets" "I" ∈ wsX0_burningLamps := by decide +kernel
theorem flX0_burningLamps_9 : Cond.fieldLink RX0 9 "LampHills$Night" "burningIn" "[I" ∈ wsX0_burningLamps := by decide +kernel
theorem iuX0_burningLamps_X0 : ∀ w ∈ u_ws RX0 TX0 16, w ∈ wsX0_burningLamps := fun _ h => List.mem_cons_of_mem _ (List.mem_append_right _ h)
theorem iuX0_burningLamps_X1 : ∀ w ∈ u_ws RX1 TX1 17, w ∈ wsX0_burningLamps := fun _ h => List.mem_cons_of_mem _ (List.mem_append_left _ (List.mem_append_right _ h))
def f0_burningLamps_L4 (N : St) (T : St) : Nat → Int32 → Int32 → Option (Int32)
  | 0, _, _ => none
  | fu + 1, v1, v2 =>
  if (T 3 0) ≤ v2 then
  (
    some v1
  )
  else
  (
    gd (xin v2 18) <|
    lt_ (v1 + (N 3 v2.toNatClampNeg)) fun v4 =>
    f0_burningLamps_L4 N T fu v4 (v2 + 1)
  )
def f0_burningLamps (N : St) (T : St) : Option (Int32) :=
  f0_burningLamps_L4 N T xF 0 0
set_option maxHeartbeats 4000000 in
set_option maxRecDepth 100000 in
theorem w0_burningLamps_L4 {p : Program} {l : Launch} {e : Env} {s : State} {m : MethodId} {args : Array Value} {below : List Frame} {meth : Method} {c : Code} {D : va_G} {A : Nat → Prop} {y : Nat → ClassId} {aN aT : Nat → Nat} {N : St} {T : St} {r : Int32} (C : xC p s m args meth c D A cX0_burningLamps RX0 4 wsX0_burningLamps (xT y) (some .int)) : ∀ (fu : Nat) (v1 : Int32) (v2 : Int32), f0_burningLamps_L4 N T fu v1 v2 = some r → xV p l e { frames := 0, cells := 0, slots := 0, locals := 0 } s m args below meth c D A (xQi D (xT y) A (fun (r' : Int32) (_ : Unit) => r' = r) (fun _ : Unit => nC y aN N ++ tC y aT T) 0 0 below args s) 4 (nC y aN N ++ tC y aT T) 0 0 [(0, .ref (aN 0)), (1, .ref (aT 0)), (2, .int v1), (3, .int v2)] 4 [] := by
  intro fu
  induction fu with
  | zero => intro v1 v2 hf; rw [f0_burningLamps_L4] at hf; cases hf
  | succ fu ih =>
    intro v1 v2 hf
    rw [f0_burningLamps_L4] at hf
    refine x_iload_n (q := 5) C 3 dX0_burningLamps_4 rfl rfl rfl ?_
    refine x_aload_n (q := 6) C 1 dX0_burningLamps_5 rfl rfl rfl ?_
    refine x_get (q := 9) C 3 dX0_burningLamps_6 ((oX1 y aT T).R) rfl iuX0_burningLamps_X1 flX0_burningLamps_104 rfl (by decide) rfl rfl ?_
    refine x_icmp_ge (t := 27) (q := 12) C dX0_burningLamps_9 (by decide) rfl (fun hc => ?_) (fun hc => ?_)
    · have hf := (if_pos hc).symm.trans hf
      refine x_iload_n (q := 28) C 2 dX0_burningLamps_27 rfl rfl rfl ?_
      have hf := Option.some.inj hf
      exact x_iret () C dX0_burningLamps_28 rfl hf rfl (Nat.le_of_ble_eq_true rfl) (Nat.le_of_ble_eq_true rfl)
    · have hf := (if_neg hc).symm.trans hf
      refine x_iload_n (q := 13) C 2 dX0_burningLamps_12 rfl rfl rfl ?_
      refine x_aload_n (q := 14) C 0 dX0_burningLamps_13 rfl rfl rfl ?_
      refine x_get (q := 17) C 3 dX0_burningLamps_14 ((oX0 y aN N).L) rfl iuX0_burningLamps_X0 flX0_burningLamps_9 rfl (by decide) rfl rfl ?_
      refine x_iload_n (q := 18) C 3 dX0_burningLamps_17 rfl rfl rfl ?_
      obtain ⟨hb3, hf⟩ := gd_some hf
      refine x_iald (q := 19) C 0 dX0_burningLamps_18 ((aX0_3 y aN N).L) rfl hb3 rfl ?_
      refine x_iadd (q := 20) C dX0_burningLamps_19 rfl ?_
      obtain ⟨v4, ev4, hf⟩ := lt_elim hf
      refine x_topi ev4 ?_
      refine x_istore_n (q := 21) C [1, 2, 0, 3] [(0, .ref (aN 0)), (1, .ref (aT 0)), (2, .int v4), (3, .int v2)] dX0_burningLamps_20 rfl (by decide) rfl rfl ?_
      refine x_iinc (q := 24) C 3 (v2 + 1) [1, 2, 3, 0] [(0, .ref (aN 0)), (1, .ref (aT 0)), (2, .int v4), (3, .int (v2 + 1))] dX0_burningLamps_21 rfl (congrArg (fun z => v2 + z) ki_1) (by decide) rfl rfl ?_
      refine x_goto (t := 4) C dX0_burningLamps_24 (by decide) ?_
      exact ih v4 (v2 + 1) hf
set_option maxHeartbeats 4000000 in
set_option maxRecDepth 100000 in
theorem c0_burningLamps {l : Launch} {D : va_G} {y : Nat → ClassId} {aN aT : Nat → Nat} {N : St} {T : St} {r : Int32} (hf : f0_burningLamps N T = some r) : xMi l yX0_burningLamps wsX0_burningLamps 0 0 0 0 D (xT y) [.ref (aN 0), .ref (aT 0)] (nC y aN N ++ tC y aT T) (fun (r' : Int32) (_ : Unit) => r' = r) (fun _ : Unit => nC y aN N ++ tC y aT T) := by
  refine xMi_of (cc := cX0_burningLamps) (nL := 4) (ret := (some .int)) [(0, .ref (aN 0)), (1, .ref (aT 0))] (by decide) rfl (Nat.le_of_ble_eq_true rfl) rfl ?_
  intro p e s m args below meth c A C hin
  have C : xC p s m args meth c D A cX0_burningLamps RX0 4 wsX0_burningLamps (xT y) (some .int) := C
  unfold f0_burningLamps at hf
  refine x_iconst (q := 1) C dX0_burningLamps_0 ki_0 rfl ?_
  refine x_istore_n (q := 2) C [1, 2, 0] [(0, .ref (aN 0)), (1, .ref (aT 0)), (2, .int 0)] dX0_burningLamps_1 rfl (by decide) rfl rfl ?_
  refine x_iconst (q := 3) C dX0_burningLamps_2 ki_0 rfl ?_
  refine x_istore_n (q := 4) C [1, 2, 3, 0] [(0, .ref (aN 0)), (1, .ref (aT 0)), (2, .int 0), (3, .int 0)] dX0_burningLamps_3 rfl (by decide) rfl rfl ?_
  exact w0_burningLamps_L4 C xF 0 0 hf

/-! LampHills$Night.darkStreets(LLampHills$Town;)I -/
theorem flX0_darkStreets_104 : Cond.fieldLink RX0 104 "LampHills$Town" "streets" "I" ∈ wsX0_darkStreets := by decide +kernel
theorem iuX0_darkStreets_X1 : ∀ w ∈ u_ws RX1 TX1 17, w ∈ wsX0_darkStreets := fun _ h => List.mem_cons_of_mem _ (List.mem_append_left _ (List.mem_append_right _ h))
theorem yi_X0_isDark : xY yX0_isDark wsX0_isDark cX0_isDark 2 (some .boolean) 1 := ⟨⟨_, rfl⟩, by decide +kernel, by decide +kernel, by decide +kernel⟩
def f0_darkStreets_L4 (N : St) (T : St) : Nat → Int32 → Int32 → Option (Int32)
  | 0, _, _ => none
  | fu + 1, v1, v2 =>
  if (T 3 0) ≤ v2 then
  (
    some v1
  )
  else
  (
    bd (f0_isDark N v2) fun v3 =>
    lt_ (fun (v6 : Int32) =>
    (
      f0_darkStreets_L4 N T fu v6 (v2 + 1)
    )
    ) fun J23 =>
    if v3 = 0 then
    (
      J23 v1
    )
    else
    (
      J23 (v1 + 1)
    )
  )
def f0_darkStreets (N : St) (T : St) : Option (Int32) :=
  f0_darkStreets_L4 N T xF 0 0
set_option maxHeartbeats 4000000 in
set_option maxRecDepth 100000 in
theorem w0_darkStreets_L4 {p : Program} {l : Launch} {e : Env} {s : State} {m : MethodId} {args : Array Value} {below : List Frame} {meth : Method} {c : Code} {D : va_G} {A : Nat → Prop} {y : Nat → ClassId} {aN aT : Nat → Nat} {N : St} {T : St} {r : Int32} (C : xC p s m args meth c D A cX0_darkStreets RX0 4 wsX0_darkStreets (xT y) (some .int)) : ∀ (fu : Nat) (v1 : Int32) (v2 : Int32), f0_darkStreets_L4 N T fu v1 v2 = some r → xV p l e { frames := 1, cells := 0, slots := 0, locals := 21 } s m args below meth c D A (xQi D (xT y) A (fun (r' : Int32) (_ : Unit) => r' = r) (fun _ : Unit => nC y aN N ++ tC y aT T) 0 0 below args s) 4 (nC y aN N ++ tC y aT T) 0 0 [(0, .ref (aN 0)), (1, .ref (aT 0)), (2, .int v1), (3, .int v2)] 4 [] := by
  intro fu
  induction fu with
  | zero => intro v1 v2 hf; rw [f0_darkStreets_L4] at hf; cases hf
  | succ fu ih =>
    intro v1 v2 hf
    rw [f0_darkStreets_L4] at hf
    refine x_iload_n (q := 5) C 3 dX0_darkStreets_4 rfl rfl rfl ?_
    refine x_aload_n (q := 6) C 1 dX0_darkStreets_5 rfl rfl rfl ?_
    refine x_get (q := 9) C 3 dX0_darkStreets_6 ((oX1 y aT T).R) rfl iuX0_darkStreets_X1 flX0_darkStreets_104 rfl (by decide) rfl rfl ?_
    refine x_icmp_ge (t := 29) (q := 12) C dX0_darkStreets_9 (by decide) rfl (fun hc => ?_) (fun hc => ?_)
    · have hf := (if_pos hc).symm.trans hf
      refine x_iload_n (q := 30) C 2 dX0_darkStreets_29 rfl rfl rfl ?_
      have hf := Option.some.inj hf
      exact x_iret () C dX0_darkStreets_30 rfl hf rfl (Nat.le_of_ble_eq_true rfl) (Nat.le_of_ble_eq_true rfl)
    · have hf := (if_neg hc).symm.trans hf
      refine x_aload_n (q := 13) C 0 dX0_darkStreets_12 rfl rfl rfl ?_
      refine x_iload_n (q := 14) C 3 dX0_darkStreets_13 rfl rfl rfl ?_
      obtain ⟨v3, hcal4, hf⟩ := bd_some hf
      refine x_callVi (q := 17) C (c0_isDark (l := l) (D := D) (y := y) (aN := aN) hcal4) yi_X0_isDark gX0_darkStreets_X0_isDark rfl (oX0 y aN N) rfl ⟨(Nat.le_of_ble_eq_true rfl), (Nat.le_of_ble_eq_true rfl)⟩ dX0_darkStreets_14 (pm2_0 _ _) rfl rfl (Nat.le_of_ble_eq_true rfl) ⟨Nat.le_of_ble_eq_true rfl, Nat.le_of_ble_eq_true rfl⟩ rfl ?_
      intro rr5 uu hrr
      have hrr : v3 = rr5 := Eq.symm hrr
      subst hrr
      refine x_perm (ws' := nC y aN N ++ tC y aT T) (pm2_0 _ _).symm ?_
      obtain ⟨J23, eJ23, hf⟩ := lt_elim hf
      have hJ23 : ∀ (v6 : Int32), J23 v6 = some r → xV p l e { frames := 1, cells := 0, slots := 0, locals := 21 } s m args below meth c D A (xQi D (xT y) A (fun (r' : Int32) (_ : Unit) => r' = r) (fun _ : Unit => nC y aN N ++ tC y aT T) 0 0 below args s) 4 (nC y aN N ++ tC y aT T) 0 0 [(0, .ref (aN 0)), (1, .ref (aT 0)), (2, .int v6), (3, .int v2)] 23 [] := by
        intro v6 hf
        subst eJ23
        refine x_iinc (q := 26) C 3 (v2 + 1) [1, 2, 3, 0] [(0, .ref (aN 0)), (1, .ref (aT 0)), (2, .int v6), (3, .int (v2 + 1))] dX0_darkStreets_23 rfl (congrArg (fun z => v2 + z) ki_1) (by decide) rfl rfl ?_
        refine x_goto (t := 4) C dX0_darkStreets_26 (by decide) ?_
        exact ih v6 (v2 + 1) hf
      refine x_if_eq (t := 23) (q := 20) C dX0_darkStreets_17 (by decide) rfl (fun hc => ?_) (fun hc => ?_)
      · have hf := (if_pos hc).symm.trans hf
        exact hJ23 v1 hf
      · have hf := (if_neg hc).symm.trans hf
        refine x_iinc (q := 23) C 2 (v1 + 1) [1, 2, 0, 3] [(0, .ref (aN 0)), (1, .ref (aT 0)), (2, .int (v1 + 1)), (3, .int v2)] dX0_darkStreets_20 rfl (congrArg (fun z => v1 + z) ki_1) (by decide) rfl rfl ?_
        exact hJ23 (v1 + 1) hf
set_option maxHeartbeats 4000000 in
set_option maxRecDepth 100000 in
theorem c0_darkStreets {l : Launch} {D : va_G} {y : Nat → ClassId} {aN aT : Nat → Nat} {N : St} {T : St} {r : Int32} (hf : f0_darkStreets N T = some r) : xMi l yX0_darkStreets wsX0_darkStreets 1 21 0 0 D (xT y) [.ref (aN 0), .ref (aT 0)] (nC y aN N ++ tC y aT T) (fun (r' : Int32) (_ : Unit) => r' = r) (fun _ : Unit => nC y aN N ++ tC y aT T) := by
  refine xMi_of (cc := cX0_darkStreets) (nL := 4) (ret := (some .int)) [(0, .ref (aN 0)), (1, .ref (aT 0))] (by decide) rfl (Nat.le_of_ble_eq_true rfl) rfl ?_
  intro p e s m args below meth c A C hin
  have C : xC p s m args meth c D A cX0_darkStreets RX0 4 wsX0_darkStreets (xT y) (some .int) := C
  unfold f0_darkStreets at hf
  refine x_iconst (q := 1) C dX0_darkStreets_0 ki_0 rfl ?_
  refine x_istore_n (q := 2) C [1, 2, 0] [(0, .ref (aN 0)), (1, .ref (aT 0)), (2, .int 0)] dX0_darkStreets_1 rfl (by decide) rfl rfl ?_
  refine x_iconst (q := 3) C dX0_darkStreets_2 ki_0 rfl ?_
  refine x_istore_n (q := 4) C [1, 2, 3, 0] [(0, .ref (aN 0)), (1, .ref (aT 0)), (2, .int 0), (3, .int 0)] dX0_darkStreets_3 rfl (by decide) rfl rfl ?_
  exact w0_darkStreets_L4 C xF 0 0 hf

/-! LampHills$Night.oilOfLamps(LLampHills$Town;)I -/
theorem flX0_oilOfLamps_15 : Cond.fieldLink RX0 15 "LampHills$Night" "oil" "[I" ∈ wsX0_oilOfLamps := by decide +kernel
theorem flX0_oilOfLamps_85 : Cond.fieldLink RX0 85 "LampHills$Town" "lamps" "I" ∈ wsX0_oilOfLamps := by decide +kernel
theorem iuX0_oilOfLamps_X0 : ∀ w ∈ u_ws RX0 TX0 16, w ∈ wsX0_oilOfLamps := fun _ h => List.mem_cons_of_mem _ (List.mem_append_right _ h)
theorem iuX0_oilOfLamps_X1 : ∀ w ∈ u_ws RX1 TX1 17, w ∈ wsX0_oilOfLamps := fun _ h => List.mem_cons_of_mem _ (List.mem_append_left _ (List.mem_append_right _ h))
def f0_oilOfLamps_L4 (N : St) (T : St) : Nat → Int32 → Int32 → Option (Int32)
  | 0, _, _ => none
  | fu + 1, v1, v2 =>
  if (T 7 0) ≤ v2 then
  (
    some v1
  )
  else
  (
    gd (xin v2 20) <|
    lt_ (v1 + (N 4 v2.toNatClampNeg)) fun v4 =>
    f0_oilOfLamps_L4 N T fu v4 (v2 + 1)
  )
def f0_oilOfLamps (N : St) (T : St) : Option (Int32) :=
  f0_oilOfLamps_L4 N T xF 0 0
set_option maxHeartbeats 4000000 in
set_option maxRecDepth 100000 in
theorem w0_oilOfLamps_L4 {p : Program} {l : Launch} {e : Env} {s : State} {m : MethodId} {args : Array Value} {below : List Frame} {meth : Method} {c : Code} {D : va_G} {A : Nat → Prop} {y : Nat → ClassId} {aN aT : Nat → Nat} {N : St} {T : St} {r : Int32} (C : xC p s m args meth c D A cX0_oilOfLamps RX0 4 wsX0_oilOfLamps (xT y) (some .int)) : ∀ (fu : Nat) (v1 : Int32) (v2 : Int32), f0_oilOfLamps_L4 N T fu v1 v2 = some r → xV p l e { frames := 0, cells := 0, slots := 0, locals := 0 } s m args below meth c D A (xQi D (xT y) A (fun (r' : Int32) (_ : Unit) => r' = r) (fun _ : Unit => nC y aN N ++ tC y aT T) 0 0 below args s) 4 (nC y aN N ++ tC y aT T) 0 0 [(0, .ref (aN 0)), (1, .ref (aT 0)), (2, .int v1), (3, .int v2)] 4 [] := by
  intro fu
  induction fu with
  | zero => intro v1 v2 hf; rw [f0_oilOfLamps_L4] at hf; cases hf
  | succ fu ih =>
    intro v1 v2 hf
    rw [f0_oilOfLamps_L4] at hf
    refine x_iload_n (q := 5) C 3 dX0_oilOfLamps_4 rfl rfl rfl ?_
    refine x_aload_n (q := 6) C 1 dX0_oilOfLamps_5 rfl rfl rfl ?_
    refine x_get (q := 9) C 7 dX0_oilOfLamps_6 ((oX1 y aT T).R) rfl iuX0_oilOfLamps_X1 flX0_oilOfLamps_85 rfl (by decide) rfl rfl ?_
    refine x_icmp_ge (t := 27) (q := 12) C dX0_oilOfLamps_9 (by decide) rfl (fun hc => ?_) (fun hc => ?_)
    · have hf := (if_pos hc).symm.trans hf
      refine x_iload_n (q := 28) C 2 dX0_oilOfLamps_27 rfl rfl rfl ?_
      have hf := Option.some.inj hf
      exact x_iret () C dX0_oilOfLamps_28 rfl hf rfl (Nat.le_of_ble_eq_true rfl) (Nat.le_of_ble_eq_true rfl)
    · have hf := (if_neg hc).symm.trans hf
      refine x_iload_n (q := 13) C 2 dX0_oilOfLamps_12 rfl rfl rfl ?_
      refine x_aload_n (q := 14) C 0 dX0_oilOfLamps_13 rfl rfl rfl ?_
      refine x_get (q := 17) C 4 dX0_oilOfLamps_14 ((oX0 y aN N).L) rfl iuX0_oilOfLamps_X0 flX0_oilOfLamps_15 rfl (by decide) rfl rfl ?_
      refine x_iload_n (q := 18) C 3 dX0_oilOfLamps_17 rfl rfl rfl ?_
      obtain ⟨hb3, hf⟩ := gd_some hf
      refine x_iald (q := 19) C 0 dX0_oilOfLamps_18 ((aX0_4 y aN N).L) rfl hb3 rfl ?_
      refine x_iadd (q := 20) C dX0_oilOfLamps_19 rfl ?_
      obtain ⟨v4, ev4, hf⟩ := lt_elim hf
      refine x_topi ev4 ?_
      refine x_istore_n (q := 21) C [1, 2, 0, 3] [(0, .ref (aN 0)), (1, .ref (aT 0)), (2, .int v4), (3, .int v2)] dX0_oilOfLamps_20 rfl (by decide) rfl rfl ?_
      refine x_iinc (q := 24) C 3 (v2 + 1) [1, 2, 3, 0] [(0, .ref (aN 0)), (1, .ref (aT 0)), (2, .int v4), (3, .int (v2 + 1))] dX0_oilOfLamps_21 rfl (congrArg (fun z => v2 + z) ki_1) (by decide) rfl rfl ?_
      refine x_goto (t := 4) C dX0_oilOfLamps_24 (by decide) ?_
      exact ih v4 (v2 + 1) hf
set_option maxHeartbeats 4000000 in
set_option maxRecDepth 100000 in
theorem c0_oilOfLamps {l : Launch} {D : va_G} {y : Nat → ClassId} {aN aT : Nat → Nat} {N : St} {T : St} {r : Int32} (hf : f0_oilOfLamps N T = some r) : xMi l yX0_oilOfLamps wsX0_oilOfLamps 0 0 0 0 D (xT y) [.ref (aN 0), .ref (aT 0)] (nC y aN N ++ tC y aT T) (fun (r' : Int32) (_ : Unit) => r' = r) (fun _ : Unit => nC y aN N ++ tC y aT T) := by
  refine xMi_of (cc := cX0_oilOfLamps) (nL := 4) (ret := (some .int)) [(0, .ref (aN 0)), (1, .ref (aT 0))] (by decide) rfl (Nat.le_of_ble_eq_true rfl) rfl ?_
  intro p e s m args below meth c A C hin
  have C : xC p s m args meth c D A cX0_oilOfLamps RX0 4 wsX0_oilOfLamps (xT y) (some .int) := C
  unfold f0_oilOfLamps at hf
  refine x_iconst (q := 1) C dX0_oilOfLamps_0 ki_0 rfl ?_
  refine x_istore_n (q := 2) C [1, 2, 0] [(0, .ref (aN 0)), (1, .ref (aT 0)), (2, .int 0)] dX0_oilOfLamps_1 rfl (by decide) rfl rfl ?_
  refine x_iconst (q := 3) C dX0_oilOfLamps_2 ki_0 rfl ?_
  refine x_istore_n (q := 4) C [1, 2, 3, 0] [(0, .ref (aN 0)), (1, .ref (aT 0)), (2, .int 0), (3, .int 0)] dX0_oilOfLamps_3 rfl (by decide) rfl rfl ?_
  exact w0_oilOfLamps_L4 C xF 0 0 hf

/-! LampHills$Night.placeOfNextLamp(LLampHills$Town;I)I -/
theorem flX0_placeOfNextLamp_122 : Cond.fieldLink RX0 122 "LampHills$Town" "rounds" "[[I" ∈ wsX0_placeOfNextLamp := by decide +kernel
theorem flX0_placeOfNextLamp_133 : Cond.fieldLink RX0 133 "LampHills$Town" "roundSize" "[I" ∈ wsX0_placeOfNextLamp := by decide +kernel
theorem flX0_placeOfNextLamp_21 : Cond.fieldLink RX0 21 "LampHills$Night" "burns" "[Z" ∈ wsX0_placeOfNextLamp := by decide +kernel
theorem flX0_placeOfNextLamp_31 : Cond.fieldLink RX0 31 "LampHills$Night" "at" "[I" ∈ wsX0_placeOfNextLamp := by decide +kernel
theorem flX0_placeOfNextLamp_46 : Cond.fieldLink RX0 46 "LampHills$Night" "latestPlace" "[I" ∈ wsX0_placeOfNextLamp := by decide +kernel
theorem iuX0_placeOfNextLamp_X0 : ∀ w ∈ u_ws RX0 TX0 16, w ∈ wsX0_placeOfNextLamp := fun _ h => List.mem_cons_of_mem _ (List.mem_append_right _ h)
theorem iuX0_placeOfNextLamp_X1 : ∀ w ∈ u_ws RX1 TX1 17, w ∈ wsX0_placeOfNextLamp := fun _ h => List.mem_cons_of_mem _ (List.mem_append_left _ (List.mem_append_right _ h))
theorem yi_X0_whoGoesTo : xY yX0_whoGoesTo wsX0_whoGoesTo cX0_whoGoesTo 4 (some .int) 2 := ⟨⟨_, rfl⟩, by decide +kernel, by decide +kernel, by decide +kernel⟩
theorem yi_X1_canReach : xY yX1_canReach wsX1_canReach cX1_canReach 4 (some .boolean) 3 := ⟨⟨_, rfl⟩, by decide +kernel, by decide +kernel, by decide +kernel⟩
def f0_placeOfNextLamp_L18 (p2 : Int32) (v2 : Int32) (N : St) (T : St) : Nat → Int32 → Int32 → Option (Int32)
  | 0, _, _ => none
  | fu + 1, v4, v5 =>
  if v2 ≤ v5 then
  (
    some (-1)
  )
  else
  (
    lt_ (fun (v6 : Int32) =>
    (
      gd (xin p2 4) <|
      gd (xin v6 10) <|
      lt_ (T (200 + p2.toNatClampNeg) v6.toNatClampNeg) fun v9 =>
      gd (xin v9 20) <|
      lt_ (fun (u_ : Unit) =>
      (
        f0_placeOfNextLamp_L18 p2 v2 N T fu v6 (v5 + 1)
      )
      ) fun J93 =>
      if (N 6 v9.toNatClampNeg) = 0 then
      (
        bd (f0_whoGoesTo N T v9) fun v11 =>
        if v11 = (-1) then
        (
          bd (f1_canReach T p2 (N 9 p2.toNatClampNeg) v9) fun v14 =>
          if v14 = 0 then
          (
            J93 ()
          )
          else
          (
            some v6
          )
        )
        else
        (
          J93 ()
        )
      )
      else
      (
        J93 ()
      )
    )
    ) fun J40 =>
    if v2 ≤ (v4 + 1) then
    (
      J40 0
    )
    else
    (
      J40 (v4 + 1)
    )
  )
def f0_placeOfNextLamp (N : St) (T : St) (p2 : Int32) : Option (Int32) :=
  gd (xin p2 4) <|
  lt_ (T 15 p2.toNatClampNeg) fun v2 =>
  lt_ (N 14 p2.toNatClampNeg) fun v3 =>
  f0_placeOfNextLamp_L18 p2 v2 N T xF v3 0
set_option maxHeartbeats 4000000 in
set_option maxRecDepth 100000 in
theorem w0_placeOfNextLamp_L18 {p : Program} {l : Launch} {e : Env} {s : State} {m : MethodId} {args : Array Value} {below : List Frame} {meth : Method} {c : Code} {D : va_G} {A : Nat → Prop} {y : Nat → ClassId} {aN aT : Nat → Nat} {N : St} {T : St} {p2 : Int32} {v2 : Int32} {r : Int32} (C : xC p s m args meth c D A cX0_placeOfNextLamp RX0 7 wsX0_placeOfNextLamp (xT y) (some .int)) : ∀ (fu : Nat) (v4 : Int32) (v5 : Int32), f0_placeOfNextLamp_L18 p2 v2 N T fu v4 v5 = some r → xV p l e { frames := 2, cells := 0, slots := 0, locals := 48 } s m args below meth c D A (xQi D (xT y) A (fun (r' : Int32) (_ : Unit) => r' = r) (fun _ : Unit => nC y aN N ++ tC y aT T) 0 0 below args s) 7 (nC y aN N ++ tC y aT T) 0 0 [(0, .ref (aN 0)), (1, .ref (aT 0)), (2, .int p2), (3, .int v2), (4, .int v4), (5, .int v5)] 18 [] := by
  intro fu
  induction fu with
  | zero => intro v4 v5 hf; rw [f0_placeOfNextLamp_L18] at hf; cases hf
  | succ fu ih =>
    intro v4 v5 hf
    rw [f0_placeOfNextLamp_L18] at hf
    refine x_iload (q := 20) C 5 dX0_placeOfNextLamp_18 rfl rfl ?_
    refine x_iload_n (q := 21) C 3 dX0_placeOfNextLamp_20 rfl rfl rfl ?_
    refine x_icmp_ge (t := 99) (q := 24) C dX0_placeOfNextLamp_21 (by decide) rfl (fun hc => ?_) (fun hc => ?_)
    · have hf := (if_pos hc).symm.trans hf
      refine x_iconst (q := 100) C dX0_placeOfNextLamp_99 ki_m1 rfl ?_
      have hf := Option.some.inj hf
      exact x_iret () C dX0_placeOfNextLamp_100 rfl hf rfl (Nat.le_of_ble_eq_true rfl) (Nat.le_of_ble_eq_true rfl)
    · have hf := (if_neg hc).symm.trans hf
      refine x_iload (q := 26) C 4 dX0_placeOfNextLamp_24 rfl rfl ?_
      refine x_iconst (q := 27) C dX0_placeOfNextLamp_26 ki_1 rfl ?_
      refine x_iadd (q := 28) C dX0_placeOfNextLamp_27 rfl ?_
      refine x_iload_n (q := 29) C 3 dX0_placeOfNextLamp_28 rfl rfl rfl ?_
      obtain ⟨J40, eJ40, hf⟩ := lt_elim hf
      have hJ40 : ∀ (v6 : Int32), J40 v6 = some r → xV p l e { frames := 2, cells := 0, slots := 0, locals := 48 } s m args below meth c D A (xQi D (xT y) A (fun (r' : Int32) (_ : Unit) => r' = r) (fun _ : Unit => nC y aN N ++ tC y aT T) 0 0 below args s) 7 (nC y aN N ++ tC y aT T) 0 0 [(0, .ref (aN 0)), (1, .ref (aT 0)), (2, .int p2), (3, .int v2), (5, .int v5)] 40 [.int v6] := by
        intro v6 hf
        subst eJ40
        refine x_istore (q := 42) C [1, 2, 3, 4, 0, 5] [(0, .ref (aN 0)), (1, .ref (aT 0)), (2, .int p2), (3, .int v2), (4, .int v6), (5, .int v5)] dX0_placeOfNextLamp_40 (by decide) rfl rfl ?_
        refine x_aload_n (q := 43) C 1 dX0_placeOfNextLamp_42 rfl rfl rfl ?_
        refine x_get (q := 46) C 16 dX0_placeOfNextLamp_43 ((oX1 y aT T).R) rfl iuX0_placeOfNextLamp_X1 flX0_placeOfNextLamp_122 rfl (by decide) rfl rfl ?_
        refine x_iload_n (q := 47) C 2 dX0_placeOfNextLamp_46 rfl rfl rfl ?_
        obtain ⟨hb7, hf⟩ := gd_some hf
        refine x_aald (q := 48) C 2 dX0_placeOfNextLamp_47 ((gX1_16 y aT T).R) rfl rfl hb7 (if_pos (xin_lt hb7)) rfl ?_
        refine x_iload (q := 50) C 4 dX0_placeOfNextLamp_48 rfl rfl ?_
        obtain ⟨hb8, hf⟩ := gd_some hf
        refine x_iald (q := 51) C 0 dX0_placeOfNextLamp_50 ((aX1_r16 y aT T (xin_lt hb7)).R) rfl hb8 rfl ?_
        obtain ⟨v9, ev9, hf⟩ := lt_elim hf
        refine x_topi ev9 ?_
        refine x_istore (q := 53) C [1, 2, 3, 4, 5, 6, 0] [(0, .ref (aN 0)), (1, .ref (aT 0)), (2, .int p2), (3, .int v2), (4, .int v6), (5, .int v5), (6, .int v9)] dX0_placeOfNextLamp_51 (by decide) rfl rfl ?_
        refine x_aload_n (q := 54) C 0 dX0_placeOfNextLamp_53 rfl rfl rfl ?_
        refine x_get (q := 57) C 6 dX0_placeOfNextLamp_54 ((oX0 y aN N).L) rfl iuX0_placeOfNextLamp_X0 flX0_placeOfNextLamp_21 rfl (by decide) rfl rfl ?_
        refine x_iload (q := 59) C 6 dX0_placeOfNextLamp_57 rfl rfl ?_
        obtain ⟨hb10, hf⟩ := gd_some hf
        refine x_zald (q := 60) C 1 dX0_placeOfNextLamp_59 ((aX0_6 y aN N).L) rfl hb10 rfl ?_
        obtain ⟨J93, eJ93, hf⟩ := lt_elim hf
        have hJ93 : ∀ (u_ : Unit), J93 u_ = some r → xV p l e { frames := 2, cells := 0, slots := 0, locals := 48 } s m args below meth c D A (xQi D (xT y) A (fun (r' : Int32) (_ : Unit) => r' = r) (fun _ : Unit => nC y aN N ++ tC y aT T) 0 0 below args s) 7 (nC y aN N ++ tC y aT T) 0 0 [(0, .ref (aN 0)), (1, .ref (aT 0)), (2, .int p2), (3, .int v2), (4, .int v6), (5, .int v5)] 93 [] := by
          intro u_ hf
          subst eJ93
          refine x_iinc (q := 96) C 5 (v5 + 1) [1, 2, 3, 4, 5, 0] [(0, .ref (aN 0)), (1, .ref (aT 0)), (2, .int p2), (3, .int v2), (4, .int v6), (5, .int (v5 + 1))] dX0_placeOfNextLamp_93 rfl (congrArg (fun z => v5 + z) ki_1) (by decide) rfl rfl ?_
          refine x_goto (t := 18) C dX0_placeOfNextLamp_96 (by decide) ?_
          exact ih v6 (v5 + 1) hf
        refine x_if_ne (t := 93) (q := 63) C dX0_placeOfNextLamp_60 (by decide) rfl (fun hc => ?_) (fun hc => ?_)
        · have hf := (if_neg hc).symm.trans hf
          refine x_sub [0, 1, 2, 3, 4, 5] (L' := [(0, .ref (aN 0)), (1, .ref (aT 0)), (2, .int p2), (3, .int v2), (4, .int v6), (5, .int v5)]) rfl ?_
          exact hJ93 () hf
        · have hf := (if_pos hc).symm.trans hf
          refine x_aload_n (q := 64) C 0 dX0_placeOfNextLamp_63 rfl rfl rfl ?_
          refine x_aload_n (q := 65) C 1 dX0_placeOfNextLamp_64 rfl rfl rfl ?_
          refine x_iload (q := 67) C 6 dX0_placeOfNextLamp_65 rfl rfl ?_
          obtain ⟨v11, hcal12, hf⟩ := bd_some hf
          refine x_callVi (q := 70) C (c0_whoGoesTo (l := l) (D := D) (y := y) (aN := aN) (aT := aT) hcal12) yi_X0_whoGoesTo gX0_placeOfNextLamp_X0_whoGoesTo rfl ((oX0 y aN N).L) rfl ⟨(Nat.le_of_ble_eq_true rfl), (Nat.le_of_ble_eq_true rfl)⟩ dX0_placeOfNextLamp_67 pm_nil rfl rfl (Nat.le_of_ble_eq_true rfl) ⟨Nat.le_of_ble_eq_true rfl, Nat.le_of_ble_eq_true rfl⟩ rfl ?_
          intro rr13 uu hrr
          have hrr : v11 = rr13 := Eq.symm hrr
          subst hrr
          refine x_world (ws' := nC y aN N ++ tC y aT T) (List.append_nil _) ?_
          refine x_iconst (q := 71) C dX0_placeOfNextLamp_70 ki_m1 rfl ?_
          refine x_icmp_ne (t := 93) (q := 74) C dX0_placeOfNextLamp_71 (by decide) rfl (fun hc => ?_) (fun hc => ?_)
          · have hf := (if_neg hc).symm.trans hf
            refine x_sub [0, 1, 2, 3, 4, 5] (L' := [(0, .ref (aN 0)), (1, .ref (aT 0)), (2, .int p2), (3, .int v2), (4, .int v6), (5, .int v5)]) rfl ?_
            exact hJ93 () hf
          · have hf := (if_pos hc).symm.trans hf
            refine x_aload_n (q := 75) C 1 dX0_placeOfNextLamp_74 rfl rfl rfl ?_
            refine x_iload_n (q := 76) C 2 dX0_placeOfNextLamp_75 rfl rfl rfl ?_
            refine x_aload_n (q := 77) C 0 dX0_placeOfNextLamp_76 rfl rfl rfl ?_
            refine x_get (q := 80) C 9 dX0_placeOfNextLamp_77 ((oX0 y aN N).L) rfl iuX0_placeOfNextLamp_X0 flX0_placeOfNextLamp_31 rfl (by decide) rfl rfl ?_
            refine x_iload_n (q := 81) C 2 dX0_placeOfNextLamp_80 rfl rfl rfl ?_
            refine x_iald (q := 82) C 0 dX0_placeOfNextLamp_81 ((aX0_9 y aN N).L) rfl hb7 rfl ?_
            refine x_iload (q := 84) C 6 dX0_placeOfNextLamp_82 rfl rfl ?_
            obtain ⟨v14, hcal15, hf⟩ := bd_some hf
            refine x_callVi (q := 87) C (c1_canReach (l := l) (D := D) (y := y) (aT := aT) hcal15) yi_X1_canReach gX0_placeOfNextLamp_X1_canReach rfl (oX1 y aT T) rfl ⟨(Nat.le_of_ble_eq_true rfl), (Nat.le_of_ble_eq_true rfl)⟩ dX0_placeOfNextLamp_84 (pm2_1 _ _) rfl rfl (Nat.le_of_ble_eq_true rfl) ⟨Nat.le_of_ble_eq_true rfl, Nat.le_of_ble_eq_true rfl⟩ rfl ?_
            intro rr16 uu hrr
            have hrr : v14 = rr16 := Eq.symm hrr
            subst hrr
            refine x_perm (ws' := nC y aN N ++ tC y aT T) (pm2_1 _ _).symm ?_
            refine x_if_eq (t := 93) (q := 90) C dX0_placeOfNextLamp_87 (by decide) rfl (fun hc => ?_) (fun hc => ?_)
            · have hf := (if_pos hc).symm.trans hf
              refine x_sub [0, 1, 2, 3, 4, 5] (L' := [(0, .ref (aN 0)), (1, .ref (aT 0)), (2, .int p2), (3, .int v2), (4, .int v6), (5, .int v5)]) rfl ?_
              exact hJ93 () hf
            · have hf := (if_neg hc).symm.trans hf
              refine x_iload (q := 92) C 4 dX0_placeOfNextLamp_90 rfl rfl ?_
              have hf := Option.some.inj hf
              exact x_iret () C dX0_placeOfNextLamp_92 rfl hf rfl (Nat.le_of_ble_eq_true rfl) (Nat.le_of_ble_eq_true rfl)
      refine x_icmp_ge (t := 39) (q := 32) C dX0_placeOfNextLamp_29 (by decide) rfl (fun hc => ?_) (fun hc => ?_)
      · have hf := (if_pos hc).symm.trans hf
        refine x_iconst (q := 40) C dX0_placeOfNextLamp_39 ki_0 rfl ?_
        refine x_sub [0, 1, 2, 3, 5] (L' := [(0, .ref (aN 0)), (1, .ref (aT 0)), (2, .int p2), (3, .int v2), (5, .int v5)]) rfl ?_
        exact hJ40 0 hf
      · have hf := (if_neg hc).symm.trans hf
        refine x_iload (q := 34) C 4 dX0_placeOfNextLamp_32 rfl rfl ?_
        refine x_iconst (q := 35) C dX0_placeOfNextLamp_34 ki_1 rfl ?_
        refine x_iadd (q := 36) C dX0_placeOfNextLamp_35 rfl ?_
        refine x_goto (t := 40) C dX0_placeOfNextLamp_36 (by decide) ?_
        refine x_sub [0, 1, 2, 3, 5] (L' := [(0, .ref (aN 0)), (1, .ref (aT 0)), (2, .int p2), (3, .int v2), (5, .int v5)]) rfl ?_
        exact hJ40 (v4 + 1) hf
set_option maxHeartbeats 4000000 in
set_option maxRecDepth 100000 in
theorem c0_placeOfNextLamp {l : Launch} {D : va_G} {y : Nat → ClassId} {aN aT : Nat → Nat} {N : St} {T : St} {p2 : Int32} {r : Int32} (hf : f0_placeOfNextLamp N T p2 = some r) : xMi l yX0_placeOfNextLamp wsX0_placeOfNextLamp 2 48 0 0 D (xT y) [.ref (aN 0), .ref (aT 0), .int p2] (nC y aN N ++ tC y aT T) (fun (r' : Int32) (_ : Unit) => r' = r) (fun _ : Unit => nC y aN N ++ tC y aT T) := by
  refine xMi_of (cc := cX0_placeOfNextLamp) (nL := 7) (ret := (some .int)) [(0, .ref (aN 0)), (1, .ref (aT 0)), (2, .int p2)] (by decide) rfl (Nat.le_of_ble_eq_true rfl) rfl ?_
  intro p e s m args below meth c A C hin
  have C : xC p s m args meth c D A cX0_placeOfNextLamp RX0 7 wsX0_placeOfNextLamp (xT y) (some .int) := C
  unfold f0_placeOfNextLamp at hf
  refine x_aload_n (q := 1) C 1 dX0_placeOfNextLamp_0 rfl rfl rfl ?_
  refine x_get (q := 4) C 15 dX0_placeOfNextLamp_1 ((oX1 y aT T).R) rfl iuX0_placeOfNextLamp_X1 flX0_placeOfNextLamp_133 rfl (by decide) rfl rfl ?_
  refine x_iload_n (q := 5) C 2 dX0_placeOfNextLamp_4 rfl rfl rfl ?_
  obtain ⟨hb1, hf⟩ := gd_some hf
  refine x_iald (q := 6) C 0 dX0_placeOfNextLamp_5 ((aX1_15 y aT T).R) rfl hb1 rfl ?_
  obtain ⟨v2, ev2, hf⟩ := lt_elim hf
  refine x_topi ev2 ?_
  refine x_istore_n (q := 7) C [1, 2, 3, 0] [(0, .ref (aN 0)), (1, .ref (aT 0)), (2, .int p2), (3, .int v2)] dX0_placeOfNextLamp_6 rfl (by decide) rfl rfl ?_
  refine x_aload_n (q := 8) C 0 dX0_placeOfNextLamp_7 rfl rfl rfl ?_
  refine x_get (q := 11) C 14 dX0_placeOfNextLamp_8 ((oX0 y aN N).L) rfl iuX0_placeOfNextLamp_X0 flX0_placeOfNextLamp_46 rfl (by decide) rfl rfl ?_
  refine x_iload_n (q := 12) C 2 dX0_placeOfNextLamp_11 rfl rfl rfl ?_
  refine x_iald (q := 13) C 0 dX0_placeOfNextLamp_12 ((aX0_14 y aN N).L) rfl hb1 rfl ?_
  obtain ⟨v3, ev3, hf⟩ := lt_elim hf
  refine x_topi ev3 ?_
  refine x_istore (q := 15) C [1, 2, 3, 4, 0] [(0, .ref (aN 0)), (1, .ref (aT 0)), (2, .int p2), (3, .int v2), (4, .int v3)] dX0_placeOfNextLamp_13 (by decide) rfl rfl ?_
  refine x_iconst (q := 16) C dX0_placeOfNextLamp_15 ki_0 rfl ?_
  refine x_istore (q := 18) C [1, 2, 3, 4, 5, 0] [(0, .ref (aN 0)), (1, .ref (aT 0)), (2, .int p2), (3, .int v2), (4, .int v3), (5, .int 0)] dX0_placeOfNextLamp_16 (by decide) rfl rfl ?_
  exact w0_placeOfNextLamp_L18 C xF v3 0 hf

/-! LampHills$Night.lookForLamp(LLampHills$Town;I)V -/
theorem ki_3 : Int32.ofInt 3 = 3 := by decide
theorem flX0_lookForLamp_122 : Cond.fieldLink RX0 122 "LampHills$Town" "rounds" "[[I" ∈ wsX0_lookForLamp := by decide +kernel
theorem flX0_lookForLamp_130 : Cond.fieldLink RX0 130 "LampHills$Town" "ways" "[[I" ∈ wsX0_lookForLamp := by decide +kernel
theorem flX0_lookForLamp_15 : Cond.fieldLink RX0 15 "LampHills$Night" "oil" "[I" ∈ wsX0_lookForLamp := by decide +kernel
theorem flX0_lookForLamp_31 : Cond.fieldLink RX0 31 "LampHills$Night" "at" "[I" ∈ wsX0_lookForLamp := by decide +kernel
theorem flX0_lookForLamp_34 : Cond.fieldLink RX0 34 "LampHills$Night" "can" "[I" ∈ wsX0_lookForLamp := by decide +kernel
theorem flX0_lookForLamp_37 : Cond.fieldLink RX0 37 "LampHills$Night" "goesTo" "[I" ∈ wsX0_lookForLamp := by decide +kernel
theorem flX0_lookForLamp_40 : Cond.fieldLink RX0 40 "LampHills$Night" "goal" "[I" ∈ wsX0_lookForLamp := by decide +kernel
theorem flX0_lookForLamp_43 : Cond.fieldLink RX0 43 "LampHills$Night" "minutesLeft" "[I" ∈ wsX0_lookForLamp := by decide +kernel
theorem flX0_lookForLamp_46 : Cond.fieldLink RX0 46 "LampHills$Night" "latestPlace" "[I" ∈ wsX0_lookForLamp := by decide +kernel
theorem iuX0_lookForLamp_X0 : ∀ w ∈ u_ws RX0 TX0 16, w ∈ wsX0_lookForLamp := fun _ h => List.mem_cons_of_mem _ (List.mem_append_right _ h)
theorem iuX0_lookForLamp_X1 : ∀ w ∈ u_ws RX1 TX1 17, w ∈ wsX0_lookForLamp := fun _ h => List.mem_cons_of_mem _ (List.mem_append_left _ (List.mem_append_right _ h))
theorem yi_X0_placeOfNextLamp : xY yX0_placeOfNextLamp wsX0_placeOfNextLamp cX0_placeOfNextLamp 7 (some .int) 2 := ⟨⟨_, rfl⟩, by decide +kernel, by decide +kernel, by decide +kernel⟩
def f0_lookForLamp (N : St) (T : St) (p2 : Int32) : Option (St) :=
  bd (f0_placeOfNextLamp N T p2) fun v1 =>
  if v1 = (-1) then
  (
    some N
  )
  else
  (
    gd (xin p2 4) <|
    gd (xin v1 10) <|
    lt_ (T (200 + p2.toNatClampNeg) v1.toNatClampNeg) fun v6 =>
    lt_ (fun (u_ : Unit) =>
    (
      lt_ (up2 N 11 p2.toNatClampNeg v6) fun N7 =>
      lt_ (up2 N7 14 p2.toNatClampNeg v1) fun N8 =>
      bd (f1_nearerEnd T (N8 9 p2.toNatClampNeg) v6) fun v9 =>
      lt_ (up2 N8 12 p2.toNatClampNeg v9) fun N12 =>
      gd (xin (N12 9 p2.toNatClampNeg) 12) <|
      gd (xin (N12 12 p2.toNatClampNeg) 12) <|
      lt_ (up2 N12 13 p2.toNatClampNeg ((T (100 + (N12 9 p2.toNatClampNeg).toNatClampNeg) (N12 12 p2.toNatClampNeg).toNatClampNeg) + 3)) fun N15 =>
      some N15
    )
    ) fun J42 =>
    if 0 < (N 10 p2.toNatClampNeg) then
    (
      J42 ()
    )
    else
    (
      gd (xin v6 20) <|
      if (N 4 v6.toNatClampNeg) ≤ 0 then
      (
        some N
      )
      else
      (
        J42 ()
      )
    )
  )
set_option maxHeartbeats 4000000 in
set_option maxRecDepth 100000 in
theorem c0_lookForLamp {l : Launch} {D : va_G} {y : Nat → ClassId} {aN aT : Nat → Nat} {N : St} {T : St} {p2 : Int32} {N' : St} (hf : f0_lookForLamp N T p2 = some N') : xMv l yX0_lookForLamp wsX0_lookForLamp 3 74 0 0 D (xT y) [.ref (aN 0), .ref (aT 0), .int p2] (nC y aN N ++ tC y aT T) (fun (_ : Unit) => True) (fun _ : Unit => nC y aN N' ++ tC y aT T) := by
  refine xMv_of (cc := cX0_lookForLamp) (nL := 5) (ret := none) [(0, .ref (aN 0)), (1, .ref (aT 0)), (2, .int p2)] (by decide) rfl (Nat.le_of_ble_eq_true rfl) rfl ?_
  intro p e s m args below meth c A C hin
  have C : xC p s m args meth c D A cX0_lookForLamp RX0 5 wsX0_lookForLamp (xT y) none := C
  unfold f0_lookForLamp at hf
  refine x_aload_n (q := 1) C 0 dX0_lookForLamp_0 rfl rfl rfl ?_
  refine x_aload_n (q := 2) C 1 dX0_lookForLamp_1 rfl rfl rfl ?_
  refine x_iload_n (q := 3) C 2 dX0_lookForLamp_2 rfl rfl rfl ?_
  obtain ⟨v1, hcal2, hf⟩ := bd_some hf
  refine x_callVi (q := 6) C (c0_placeOfNextLamp (l := l) (D := D) (y := y) (aN := aN) (aT := aT) hcal2) yi_X0_placeOfNextLamp gX0_lookForLamp_X0_placeOfNextLamp rfl ((oX0 y aN N).L) rfl ⟨(Nat.le_of_ble_eq_true rfl), (Nat.le_of_ble_eq_true rfl)⟩ dX0_lookForLamp_3 pm_nil rfl rfl (Nat.le_of_ble_eq_true rfl) ⟨Nat.le_of_ble_eq_true rfl, Nat.le_of_ble_eq_true rfl⟩ rfl ?_
  intro rr3 uu hrr
  have hrr : v1 = rr3 := Eq.symm hrr
  subst hrr
  refine x_world (ws' := nC y aN N ++ tC y aT T) (List.append_nil _) ?_
  refine x_istore_n (q := 7) C [1, 2, 3, 0] [(0, .ref (aN 0)), (1, .ref (aT 0)), (2, .int p2), (3, .int v1)] dX0_lookForLamp_6 rfl (by decide) rfl rfl ?_
  refine x_iload_n (q := 8) C 3 dX0_lookForLamp_7 rfl rfl rfl ?_
  refine x_iconst (q := 9) C dX0_lookForLamp_8 ki_m1 rfl ?_
  refine x_icmp_ne (t := 13) (q := 12) C dX0_lookForLamp_9 (by decide) rfl (fun hc => ?_) (fun hc => ?_)
  · have hf := (if_neg hc).symm.trans hf
    refine x_aload_n (q := 14) C 1 dX0_lookForLamp_13 rfl rfl rfl ?_
    refine x_get (q := 17) C 16 dX0_lookForLamp_14 ((oX1 y aT T).R) rfl iuX0_lookForLamp_X1 flX0_lookForLamp_122 rfl (by decide) rfl rfl ?_
    refine x_iload_n (q := 18) C 2 dX0_lookForLamp_17 rfl rfl rfl ?_
    obtain ⟨hb4, hf⟩ := gd_some hf
    refine x_aald (q := 19) C 2 dX0_lookForLamp_18 ((gX1_16 y aT T).R) rfl rfl hb4 (if_pos (xin_lt hb4)) rfl ?_
    refine x_iload_n (q := 20) C 3 dX0_lookForLamp_19 rfl rfl rfl ?_
    obtain ⟨hb5, hf⟩ := gd_some hf
    refine x_iald (q := 21) C 0 dX0_lookForLamp_20 ((aX1_r16 y aT T (xin_lt hb4)).R) rfl hb5 rfl ?_
    obtain ⟨v6, ev6, hf⟩ := lt_elim hf
    refine x_topi ev6 ?_
    refine x_istore (q := 23) C [1, 2, 3, 4, 0] [(0, .ref (aN 0)), (1, .ref (aT 0)), (2, .int p2), (3, .int v1), (4, .int v6)] dX0_lookForLamp_21 (by decide) rfl rfl ?_
    refine x_aload_n (q := 24) C 0 dX0_lookForLamp_23 rfl rfl rfl ?_
    refine x_get (q := 27) C 10 dX0_lookForLamp_24 ((oX0 y aN N).L) rfl iuX0_lookForLamp_X0 flX0_lookForLamp_34 rfl (by decide) rfl rfl ?_
    refine x_iload_n (q := 28) C 2 dX0_lookForLamp_27 rfl rfl rfl ?_
    refine x_iald (q := 29) C 0 dX0_lookForLamp_28 ((aX0_10 y aN N).L) rfl hb4 rfl ?_
    obtain ⟨J42, eJ42, hf⟩ := lt_elim hf
    have hJ42 : ∀ (u_ : Unit), J42 u_ = some N' → xV p l e { frames := 3, cells := 0, slots := 0, locals := 74 } s m args below meth c D A (xQv D (xT y) A (fun (_ : Unit) => True) (fun _ : Unit => nC y aN N' ++ tC y aT T) 0 0 below args s) 5 (nC y aN N ++ tC y aT T) 0 0 [(0, .ref (aN 0)), (1, .ref (aT 0)), (2, .int p2), (3, .int v1), (4, .int v6)] 42 [] := by
      intro u_ hf
      subst eJ42
      refine x_aload_n (q := 43) C 0 dX0_lookForLamp_42 rfl rfl rfl ?_
      refine x_get (q := 46) C 11 dX0_lookForLamp_43 ((oX0 y aN N).L) rfl iuX0_lookForLamp_X0 flX0_lookForLamp_37 rfl (by decide) rfl rfl ?_
      refine x_iload_n (q := 47) C 2 dX0_lookForLamp_46 rfl rfl rfl ?_
      refine x_iload (q := 49) C 4 dX0_lookForLamp_47 rfl rfl ?_
      obtain ⟨N7, eN7, hf⟩ := lt_elim hf
      refine x_iast (q := 50) (ws' := nC y aN N7 ++ tC y aT T) C 0 dX0_lookForLamp_49 ((aX0_11 y aN N).L) rfl hb4 (congrArg (fun z => nC y aN z ++ tC y aT T) eN7.symm) rfl ?_
      refine x_aload_n (q := 51) C 0 dX0_lookForLamp_50 rfl rfl rfl ?_
      refine x_get (q := 54) C 14 dX0_lookForLamp_51 ((oX0 y aN N7).L) rfl iuX0_lookForLamp_X0 flX0_lookForLamp_46 rfl (by decide) rfl rfl ?_
      refine x_iload_n (q := 55) C 2 dX0_lookForLamp_54 rfl rfl rfl ?_
      refine x_iload_n (q := 56) C 3 dX0_lookForLamp_55 rfl rfl rfl ?_
      obtain ⟨N8, eN8, hf⟩ := lt_elim hf
      refine x_iast (q := 57) (ws' := nC y aN N8 ++ tC y aT T) C 0 dX0_lookForLamp_56 ((aX0_14 y aN N7).L) rfl hb4 (congrArg (fun z => nC y aN z ++ tC y aT T) eN8.symm) rfl ?_
      refine x_aload_n (q := 58) C 0 dX0_lookForLamp_57 rfl rfl rfl ?_
      refine x_get (q := 61) C 12 dX0_lookForLamp_58 ((oX0 y aN N8).L) rfl iuX0_lookForLamp_X0 flX0_lookForLamp_40 rfl (by decide) rfl rfl ?_
      refine x_iload_n (q := 62) C 2 dX0_lookForLamp_61 rfl rfl rfl ?_
      refine x_aload_n (q := 63) C 1 dX0_lookForLamp_62 rfl rfl rfl ?_
      refine x_aload_n (q := 64) C 0 dX0_lookForLamp_63 rfl rfl rfl ?_
      refine x_get (q := 67) C 9 dX0_lookForLamp_64 ((oX0 y aN N8).L) rfl iuX0_lookForLamp_X0 flX0_lookForLamp_31 rfl (by decide) rfl rfl ?_
      refine x_iload_n (q := 68) C 2 dX0_lookForLamp_67 rfl rfl rfl ?_
      refine x_iald (q := 69) C 0 dX0_lookForLamp_68 ((aX0_9 y aN N8).L) rfl hb4 rfl ?_
      refine x_iload (q := 71) C 4 dX0_lookForLamp_69 rfl rfl ?_
      obtain ⟨v9, hcal10, hf⟩ := bd_some hf
      refine x_callVi (q := 74) C (c1_nearerEnd (l := l) (D := D) (y := y) (aT := aT) hcal10) yi_X1_nearerEnd gX0_lookForLamp_X1_nearerEnd rfl (oX1 y aT T) rfl ⟨(Nat.le_of_ble_eq_true rfl), (Nat.le_of_ble_eq_true rfl)⟩ dX0_lookForLamp_71 (pm2_1 _ _) rfl rfl (Nat.le_of_ble_eq_true rfl) ⟨Nat.le_of_ble_eq_true rfl, Nat.le_of_ble_eq_true rfl⟩ rfl ?_
      intro rr11 uu hrr
      have hrr : v9 = rr11 := Eq.symm hrr
      subst hrr
      refine x_perm (ws' := nC y aN N8 ++ tC y aT T) (pm2_1 _ _).symm ?_
      obtain ⟨N12, eN12, hf⟩ := lt_elim hf
      refine x_iast (q := 75) (ws' := nC y aN N12 ++ tC y aT T) C 0 dX0_lookForLamp_74 ((aX0_12 y aN N8).L) rfl hb4 (congrArg (fun z => nC y aN z ++ tC y aT T) eN12.symm) rfl ?_
      refine x_aload_n (q := 76) C 0 dX0_lookForLamp_75 rfl rfl rfl ?_
      refine x_get (q := 79) C 13 dX0_lookForLamp_76 ((oX0 y aN N12).L) rfl iuX0_lookForLamp_X0 flX0_lookForLamp_43 rfl (by decide) rfl rfl ?_
      refine x_iload_n (q := 80) C 2 dX0_lookForLamp_79 rfl rfl rfl ?_
      refine x_aload_n (q := 81) C 1 dX0_lookForLamp_80 rfl rfl rfl ?_
      refine x_get (q := 84) C 2 dX0_lookForLamp_81 ((oX1 y aT T).R) rfl iuX0_lookForLamp_X1 flX0_lookForLamp_130 rfl (by decide) rfl rfl ?_
      refine x_aload_n (q := 85) C 0 dX0_lookForLamp_84 rfl rfl rfl ?_
      refine x_get (q := 88) C 9 dX0_lookForLamp_85 ((oX0 y aN N12).L) rfl iuX0_lookForLamp_X0 flX0_lookForLamp_31 rfl (by decide) rfl rfl ?_
      refine x_iload_n (q := 89) C 2 dX0_lookForLamp_88 rfl rfl rfl ?_
      refine x_iald (q := 90) C 0 dX0_lookForLamp_89 ((aX0_9 y aN N12).L) rfl hb4 rfl ?_
      obtain ⟨hb13, hf⟩ := gd_some hf
      refine x_aald (q := 91) C 2 dX0_lookForLamp_90 ((gX1_2 y aT T).R) rfl rfl hb13 (if_pos (xin_lt hb13)) rfl ?_
      refine x_aload_n (q := 92) C 0 dX0_lookForLamp_91 rfl rfl rfl ?_
      refine x_get (q := 95) C 12 dX0_lookForLamp_92 ((oX0 y aN N12).L) rfl iuX0_lookForLamp_X0 flX0_lookForLamp_40 rfl (by decide) rfl rfl ?_
      refine x_iload_n (q := 96) C 2 dX0_lookForLamp_95 rfl rfl rfl ?_
      refine x_iald (q := 97) C 0 dX0_lookForLamp_96 ((aX0_12 y aN N12).L) rfl hb4 rfl ?_
      obtain ⟨hb14, hf⟩ := gd_some hf
      refine x_iald (q := 98) C 0 dX0_lookForLamp_97 ((aX1_r2 y aT T (xin_lt hb13)).R) rfl hb14 rfl ?_
      refine x_iconst (q := 99) C dX0_lookForLamp_98 ki_3 rfl ?_
      refine x_iadd (q := 100) C dX0_lookForLamp_99 rfl ?_
      obtain ⟨N15, eN15, hf⟩ := lt_elim hf
      refine x_iast (q := 101) (ws' := nC y aN N15 ++ tC y aT T) C 0 dX0_lookForLamp_100 ((aX0_13 y aN N12).L) rfl hb4 (congrArg (fun z => nC y aN z ++ tC y aT T) eN15.symm) rfl ?_
      have hf := Option.some.inj hf
      exact x_vret () C dX0_lookForLamp_101 rfl trivial (congrArg (fun z => nC y aN z ++ tC y aT T) hf) (Nat.le_of_ble_eq_true rfl) (Nat.le_of_ble_eq_true rfl)
    refine x_if_gt (t := 42) (q := 32) C dX0_lookForLamp_29 (by decide) rfl (fun hc => ?_) (fun hc => ?_)
    · have hf := (if_pos hc).symm.trans hf
      exact hJ42 () hf
    · have hf := (if_neg hc).symm.trans hf
      refine x_aload_n (q := 33) C 0 dX0_lookForLamp_32 rfl rfl rfl ?_
      refine x_get (q := 36) C 4 dX0_lookForLamp_33 ((oX0 y aN N).L) rfl iuX0_lookForLamp_X0 flX0_lookForLamp_15 rfl (by decide) rfl rfl ?_
      refine x_iload (q := 38) C 4 dX0_lookForLamp_36 rfl rfl ?_
      obtain ⟨hb16, hf⟩ := gd_some hf
      refine x_iald (q := 39) C 0 dX0_lookForLamp_38 ((aX0_4 y aN N).L) rfl hb16 rfl ?_
      refine x_if_le (t := 101) (q := 42) C dX0_lookForLamp_39 (by decide) rfl (fun hc => ?_) (fun hc => ?_)
      · have hf := (if_pos hc).symm.trans hf
        have hf := Option.some.inj hf
        exact x_vret () C dX0_lookForLamp_101 rfl trivial (congrArg (fun z => nC y aN z ++ tC y aT T) hf) (Nat.le_of_ble_eq_true rfl) (Nat.le_of_ble_eq_true rfl)
      · have hf := (if_neg hc).symm.trans hf
        exact hJ42 () hf
  · have hf := (if_pos hc).symm.trans hf
    have hf := Option.some.inj hf
    exact x_vret () C dX0_lookForLamp_12 rfl trivial (congrArg (fun z => nC y aN z ++ tC y aT T) hf) (Nat.le_of_ble_eq_true rfl) (Nat.le_of_ble_eq_true rfl)

/-! LampHills$Night.tendLamp(LLampHills$Town;I)Z -/
theorem ks_300 : (Int16.ofInt 300).toInt32 = 300 := by decide
theorem flX0_tendLamp_148 : Cond.fieldLink RX0 148 "LampHills$Town" "lampStreet" "[I" ∈ wsX0_tendLamp := by decide +kernel
theorem flX0_tendLamp_15 : Cond.fieldLink RX0 15 "LampHills$Night" "oil" "[I" ∈ wsX0_tendLamp := by decide +kernel
theorem flX0_tendLamp_18 : Cond.fieldLink RX0 18 "LampHills$Night" "soot" "[I" ∈ wsX0_tendLamp := by decide +kernel
theorem flX0_tendLamp_21 : Cond.fieldLink RX0 21 "LampHills$Night" "burns" "[Z" ∈ wsX0_tendLamp := by decide +kernel
theorem flX0_tendLamp_25 : Cond.fieldLink RX0 25 "LampHills$Night" "timesLit" "[I" ∈ wsX0_tendLamp := by decide +kernel
theorem flX0_tendLamp_31 : Cond.fieldLink RX0 31 "LampHills$Night" "at" "[I" ∈ wsX0_tendLamp := by decide +kernel
theorem flX0_tendLamp_34 : Cond.fieldLink RX0 34 "LampHills$Night" "can" "[I" ∈ wsX0_tendLamp := by decide +kernel
theorem flX0_tendLamp_37 : Cond.fieldLink RX0 37 "LampHills$Night" "goesTo" "[I" ∈ wsX0_tendLamp := by decide +kernel
theorem flX0_tendLamp_40 : Cond.fieldLink RX0 40 "LampHills$Night" "goal" "[I" ∈ wsX0_tendLamp := by decide +kernel
theorem flX0_tendLamp_49 : Cond.fieldLink RX0 49 "LampHills$Night" "litBy" "[I" ∈ wsX0_tendLamp := by decide +kernel
theorem flX0_tendLamp_9 : Cond.fieldLink RX0 9 "LampHills$Night" "burningIn" "[I" ∈ wsX0_tendLamp := by decide +kernel
theorem iuX0_tendLamp_X0 : ∀ w ∈ u_ws RX0 TX0 16, w ∈ wsX0_tendLamp := fun _ h => List.mem_cons_of_mem _ (List.mem_append_left _ (List.mem_append_right _ h))
theorem iuX0_tendLamp_X1 : ∀ w ∈ u_ws RX1 TX1 17, w ∈ wsX0_tendLamp := fun _ h => List.mem_cons_of_mem _ (List.mem_append_right _ h)
theorem kmX0_tendLamp_143 : ∀ w ∈ ([.methodLink RX0 143 Lib.Math.min.name, .static Lib.Math.min.name, .initialized "java/lang/Math", .code Lib.Math.min.name Lib.Math.min.code 2 (some .int)] : List Cond), w ∈ wsX0_tendLamp := by decide +kernel
def f0_tendLamp (N : St) (T : St) (p2 : Int32) : Option (Int32 × St) :=
  gd (xin p2 4) <|
  lt_ (N 11 p2.toNatClampNeg) fun v2 =>
  lt_ (up2 N 9 p2.toNatClampNeg (N 12 p2.toNatClampNeg)) fun N3 =>
  bd (f0_waitFromNow N3 p2) fun N4 =>
  gd (xin v2 20) <|
  lt_ (if (300 - (N4 4 v2.toNatClampNeg)) < (N4 10 p2.toNatClampNeg) then (300 - (N4 4 v2.toNatClampNeg)) else (N4 10 p2.toNatClampNeg)) fun v7 =>
  lt_ (up2 N4 10 p2.toNatClampNeg ((N4 10 p2.toNatClampNeg) - v7)) fun N8 =>
  lt_ (up2 N8 4 v2.toNatClampNeg ((N8 4 v2.toNatClampNeg) + v7)) fun N9 =>
  lt_ (up2 N9 5 v2.toNatClampNeg 0) fun N10 =>
  if (N10 4 v2.toNatClampNeg) = 0 then
  (
    some (0, N10)
  )
  else
  (
    lt_ (up2 N10 6 v2.toNatClampNeg (vp_nar .boolean 1)) fun N11 =>
    gd (xin (T 8 v2.toNatClampNeg) 18) <|
    lt_ (up2 N11 3 (T 8 v2.toNatClampNeg).toNatClampNeg ((N11 3 (T 8 v2.toNatClampNeg).toNatClampNeg) + 1)) fun N13 =>
    lt_ (up2 N13 7 v2.toNatClampNeg ((N13 7 v2.toNatClampNeg) + 1)) fun N14 =>
    lt_ (up2 N14 15 p2.toNatClampNeg ((N14 15 p2.toNatClampNeg) + 1)) fun N15 =>
    some (1, N15)
  )
set_option maxHeartbeats 4000000 in
set_option maxRecDepth 100000 in
theorem c0_tendLamp {l : Launch} {D : va_G} {y : Nat → ClassId} {aN aT : Nat → Nat} {N : St} {T : St} {p2 : Int32} {r : Int32} {N' : St} (hf : f0_tendLamp N T p2 = some (r, N')) : xMi l yX0_tendLamp wsX0_tendLamp 1 48 0 0 D (xT y) [.ref (aN 0), .ref (aT 0), .int p2] (nC y aN N ++ tC y aT T) (fun (r' : Int32) (_ : Unit) => r' = r) (fun _ : Unit => nC y aN N' ++ tC y aT T) := by
  refine xMi_of (cc := cX0_tendLamp) (nL := 5) (ret := (some .boolean)) [(0, .ref (aN 0)), (1, .ref (aT 0)), (2, .int p2)] (by decide) rfl (Nat.le_of_ble_eq_true rfl) rfl ?_
  intro p e s m args below meth c A C hin
  have C : xC p s m args meth c D A cX0_tendLamp RX0 5 wsX0_tendLamp (xT y) (some .boolean) := C
  unfold f0_tendLamp at hf
  refine x_aload_n (q := 1) C 0 dX0_tendLamp_0 rfl rfl rfl ?_
  refine x_get (q := 4) C 11 dX0_tendLamp_1 ((oX0 y aN N).L) rfl iuX0_tendLamp_X0 flX0_tendLamp_37 rfl (by decide) rfl rfl ?_
  refine x_iload_n (q := 5) C 2 dX0_tendLamp_4 rfl rfl rfl ?_
  obtain ⟨hb1, hf⟩ := gd_some hf
  refine x_iald (q := 6) C 0 dX0_tendLamp_5 ((aX0_11 y aN N).L) rfl hb1 rfl ?_
  obtain ⟨v2, ev2, hf⟩ := lt_elim hf
  refine x_topi ev2 ?_
  refine x_istore_n (q := 7) C [1, 2, 3, 0] [(0, .ref (aN 0)), (1, .ref (aT 0)), (2, .int p2), (3, .int v2)] dX0_tendLamp_6 rfl (by decide) rfl rfl ?_
  refine x_aload_n (q := 8) C 0 dX0_tendLamp_7 rfl rfl rfl ?_
  refine x_get (q := 11) C 9 dX0_tendLamp_8 ((oX0 y aN N).L) rfl iuX0_tendLamp_X0 flX0_tendLamp_31 rfl (by decide) rfl rfl ?_
  refine x_iload_n (q := 12) C 2 dX0_tendLamp_11 rfl rfl rfl ?_
  refine x_aload_n (q := 13) C 0 dX0_tendLamp_12 rfl rfl rfl ?_
  refine x_get (q := 16) C 12 dX0_tendLamp_13 ((oX0 y aN N).L) rfl iuX0_tendLamp_X0 flX0_tendLamp_40 rfl (by decide) rfl rfl ?_
  refine x_iload_n (q := 17) C 2 dX0_tendLamp_16 rfl rfl rfl ?_
  refine x_iald (q := 18) C 0 dX0_tendLamp_17 ((aX0_12 y aN N).L) rfl hb1 rfl ?_
  obtain ⟨N3, eN3, hf⟩ := lt_elim hf
  refine x_iast (q := 19) (ws' := nC y aN N3 ++ tC y aT T) C 0 dX0_tendLamp_18 ((aX0_9 y aN N).L) rfl hb1 (congrArg (fun z => nC y aN z ++ tC y aT T) eN3.symm) rfl ?_
  refine x_aload_n (q := 20) C 0 dX0_tendLamp_19 rfl rfl rfl ?_
  refine x_iload_n (q := 21) C 2 dX0_tendLamp_20 rfl rfl rfl ?_
  obtain ⟨N4, hcal5, hf⟩ := bd_some hf
  refine x_callVv (q := 24) C (c0_waitFromNow (l := l) (D := D) (y := y) (aN := aN) hcal5) yi_X0_waitFromNow gX0_tendLamp_X0_waitFromNow rfl (oX0 y aN N3) rfl ⟨(Nat.le_of_ble_eq_true rfl), (Nat.le_of_ble_eq_true rfl)⟩ dX0_tendLamp_21 (pm2_0 _ _) rfl rfl (Nat.le_of_ble_eq_true rfl) ⟨Nat.le_of_ble_eq_true rfl, Nat.le_of_ble_eq_true rfl⟩ rfl ?_
  intro uu hrr
  refine x_perm (ws' := nC y aN N4 ++ tC y aT T) (pm2_0 _ _).symm ?_
  refine x_aload_n (q := 25) C 0 dX0_tendLamp_24 rfl rfl rfl ?_
  refine x_get (q := 28) C 10 dX0_tendLamp_25 ((oX0 y aN N4).L) rfl iuX0_tendLamp_X0 flX0_tendLamp_34 rfl (by decide) rfl rfl ?_
  refine x_iload_n (q := 29) C 2 dX0_tendLamp_28 rfl rfl rfl ?_
  refine x_iald (q := 30) C 0 dX0_tendLamp_29 ((aX0_10 y aN N4).L) rfl hb1 rfl ?_
  refine x_sipush (q := 33) C dX0_tendLamp_30 ks_300 rfl ?_
  refine x_aload_n (q := 34) C 0 dX0_tendLamp_33 rfl rfl rfl ?_
  refine x_get (q := 37) C 4 dX0_tendLamp_34 ((oX0 y aN N4).L) rfl iuX0_tendLamp_X0 flX0_tendLamp_15 rfl (by decide) rfl rfl ?_
  refine x_iload_n (q := 38) C 3 dX0_tendLamp_37 rfl rfl rfl ?_
  obtain ⟨hb6, hf⟩ := gd_some hf
  refine x_iald (q := 39) C 0 dX0_tendLamp_38 ((aX0_4 y aN N4).L) rfl hb6 rfl ?_
  refine x_isub (q := 40) C dX0_tendLamp_39 rfl ?_
  refine x_mmin (q := 43) C dX0_tendLamp_40 kmX0_tendLamp_143 (Nat.le_of_ble_eq_true rfl) (Nat.le_of_ble_eq_true rfl) (Nat.le_of_ble_eq_true rfl) (Nat.le_of_ble_eq_true rfl) rfl ?_
  obtain ⟨v7, ev7, hf⟩ := lt_elim hf
  refine x_topi ev7 ?_
  refine x_istore (q := 45) C [1, 2, 3, 4, 0] [(0, .ref (aN 0)), (1, .ref (aT 0)), (2, .int p2), (3, .int v2), (4, .int v7)] dX0_tendLamp_43 (by decide) rfl rfl ?_
  refine x_aload_n (q := 46) C 0 dX0_tendLamp_45 rfl rfl rfl ?_
  refine x_get (q := 49) C 10 dX0_tendLamp_46 ((oX0 y aN N4).L) rfl iuX0_tendLamp_X0 flX0_tendLamp_34 rfl (by decide) rfl rfl ?_
  refine x_iload_n (q := 50) C 2 dX0_tendLamp_49 rfl rfl rfl ?_
  refine x_dup2 (q := 51) C dX0_tendLamp_50 rfl rfl rfl ?_
  refine x_iald (q := 52) C 0 dX0_tendLamp_51 ((aX0_10 y aN N4).L) rfl hb1 rfl ?_
  refine x_iload (q := 54) C 4 dX0_tendLamp_52 rfl rfl ?_
  refine x_isub (q := 55) C dX0_tendLamp_54 rfl ?_
  obtain ⟨N8, eN8, hf⟩ := lt_elim hf
  refine x_iast (q := 56) (ws' := nC y aN N8 ++ tC y aT T) C 0 dX0_tendLamp_55 ((aX0_10 y aN N4).L) rfl hb1 (congrArg (fun z => nC y aN z ++ tC y aT T) eN8.symm) rfl ?_
  refine x_aload_n (q := 57) C 0 dX0_tendLamp_56 rfl rfl rfl ?_
  refine x_get (q := 60) C 4 dX0_tendLamp_57 ((oX0 y aN N8).L) rfl iuX0_tendLamp_X0 flX0_tendLamp_15 rfl (by decide) rfl rfl ?_
  refine x_iload_n (q := 61) C 3 dX0_tendLamp_60 rfl rfl rfl ?_
  refine x_dup2 (q := 62) C dX0_tendLamp_61 rfl rfl rfl ?_
  refine x_iald (q := 63) C 0 dX0_tendLamp_62 ((aX0_4 y aN N8).L) rfl hb6 rfl ?_
  refine x_iload (q := 65) C 4 dX0_tendLamp_63 rfl rfl ?_
  refine x_iadd (q := 66) C dX0_tendLamp_65 rfl ?_
  obtain ⟨N9, eN9, hf⟩ := lt_elim hf
  refine x_iast (q := 67) (ws' := nC y aN N9 ++ tC y aT T) C 0 dX0_tendLamp_66 ((aX0_4 y aN N8).L) rfl hb6 (congrArg (fun z => nC y aN z ++ tC y aT T) eN9.symm) rfl ?_
  refine x_aload_n (q := 68) C 0 dX0_tendLamp_67 rfl rfl rfl ?_
  refine x_get (q := 71) C 5 dX0_tendLamp_68 ((oX0 y aN N9).L) rfl iuX0_tendLamp_X0 flX0_tendLamp_18 rfl (by decide) rfl rfl ?_
  refine x_iload_n (q := 72) C 3 dX0_tendLamp_71 rfl rfl rfl ?_
  refine x_iconst (q := 73) C dX0_tendLamp_72 ki_0 rfl ?_
  obtain ⟨N10, eN10, hf⟩ := lt_elim hf
  refine x_iast (q := 74) (ws' := nC y aN N10 ++ tC y aT T) C 0 dX0_tendLamp_73 ((aX0_5 y aN N9).L) rfl hb6 (congrArg (fun z => nC y aN z ++ tC y aT T) eN10.symm) rfl ?_
  refine x_aload_n (q := 75) C 0 dX0_tendLamp_74 rfl rfl rfl ?_
  refine x_get (q := 78) C 4 dX0_tendLamp_75 ((oX0 y aN N10).L) rfl iuX0_tendLamp_X0 flX0_tendLamp_15 rfl (by decide) rfl rfl ?_
  refine x_iload_n (q := 79) C 3 dX0_tendLamp_78 rfl rfl rfl ?_
  refine x_iald (q := 80) C 0 dX0_tendLamp_79 ((aX0_4 y aN N10).L) rfl hb6 rfl ?_
  refine x_if_ne (t := 85) (q := 83) C dX0_tendLamp_80 (by decide) rfl (fun hc => ?_) (fun hc => ?_)
  · have hf := (if_neg hc).symm.trans hf
    refine x_aload_n (q := 86) C 0 dX0_tendLamp_85 rfl rfl rfl ?_
    refine x_get (q := 89) C 6 dX0_tendLamp_86 ((oX0 y aN N10).L) rfl iuX0_tendLamp_X0 flX0_tendLamp_21 rfl (by decide) rfl rfl ?_
    refine x_iload_n (q := 90) C 3 dX0_tendLamp_89 rfl rfl rfl ?_
    refine x_iconst (q := 91) C dX0_tendLamp_90 ki_1 rfl ?_
    obtain ⟨N11, eN11, hf⟩ := lt_elim hf
    refine x_zast (q := 92) (ws' := nC y aN N11 ++ tC y aT T) C 1 dX0_tendLamp_91 ((aX0_6 y aN N10).L) rfl hb6 (congrArg (fun z => nC y aN z ++ tC y aT T) eN11.symm) rfl ?_
    refine x_aload_n (q := 93) C 0 dX0_tendLamp_92 rfl rfl rfl ?_
    refine x_get (q := 96) C 3 dX0_tendLamp_93 ((oX0 y aN N11).L) rfl iuX0_tendLamp_X0 flX0_tendLamp_9 rfl (by decide) rfl rfl ?_
    refine x_aload_n (q := 97) C 1 dX0_tendLamp_96 rfl rfl rfl ?_
    refine x_get (q := 100) C 8 dX0_tendLamp_97 ((oX1 y aT T).R) rfl iuX0_tendLamp_X1 flX0_tendLamp_148 rfl (by decide) rfl rfl ?_
    refine x_iload_n (q := 101) C 3 dX0_tendLamp_100 rfl rfl rfl ?_
    refine x_iald (q := 102) C 0 dX0_tendLamp_101 ((aX1_8 y aT T).R) rfl hb6 rfl ?_
    refine x_dup2 (q := 103) C dX0_tendLamp_102 rfl rfl rfl ?_
    obtain ⟨hb12, hf⟩ := gd_some hf
    refine x_iald (q := 104) C 0 dX0_tendLamp_103 ((aX0_3 y aN N11).L) rfl hb12 rfl ?_
    refine x_iconst (q := 105) C dX0_tendLamp_104 ki_1 rfl ?_
    refine x_iadd (q := 106) C dX0_tendLamp_105 rfl ?_
    obtain ⟨N13, eN13, hf⟩ := lt_elim hf
    refine x_iast (q := 107) (ws' := nC y aN N13 ++ tC y aT T) C 0 dX0_tendLamp_106 ((aX0_3 y aN N11).L) rfl hb12 (congrArg (fun z => nC y aN z ++ tC y aT T) eN13.symm) rfl ?_
    refine x_aload_n (q := 108) C 0 dX0_tendLamp_107 rfl rfl rfl ?_
    refine x_get (q := 111) C 7 dX0_tendLamp_108 ((oX0 y aN N13).L) rfl iuX0_tendLamp_X0 flX0_tendLamp_25 rfl (by decide) rfl rfl ?_
    refine x_iload_n (q := 112) C 3 dX0_tendLamp_111 rfl rfl rfl ?_
    refine x_dup2 (q := 113) C dX0_tendLamp_112 rfl rfl rfl ?_
    refine x_iald (q := 114) C 0 dX0_tendLamp_113 ((aX0_7 y aN N13).L) rfl hb6 rfl ?_
    refine x_iconst (q := 115) C dX0_tendLamp_114 ki_1 rfl ?_
    refine x_iadd (q := 116) C dX0_tendLamp_115 rfl ?_
    obtain ⟨N14, eN14, hf⟩ := lt_elim hf
    refine x_iast (q := 117) (ws' := nC y aN N14 ++ tC y aT T) C 0 dX0_tendLamp_116 ((aX0_7 y aN N13).L) rfl hb6 (congrArg (fun z => nC y aN z ++ tC y aT T) eN14.symm) rfl ?_
    refine x_aload_n (q := 118) C 0 dX0_tendLamp_117 rfl rfl rfl ?_
    refine x_get (q := 121) C 15 dX0_tendLamp_118 ((oX0 y aN N14).L) rfl iuX0_tendLamp_X0 flX0_tendLamp_49 rfl (by decide) rfl rfl ?_
    refine x_iload_n (q := 122) C 2 dX0_tendLamp_121 rfl rfl rfl ?_
    refine x_dup2 (q := 123) C dX0_tendLamp_122 rfl rfl rfl ?_
    refine x_iald (q := 124) C 0 dX0_tendLamp_123 ((aX0_15 y aN N14).L) rfl hb1 rfl ?_
    refine x_iconst (q := 125) C dX0_tendLamp_124 ki_1 rfl ?_
    refine x_iadd (q := 126) C dX0_tendLamp_125 rfl ?_
    obtain ⟨N15, eN15, hf⟩ := lt_elim hf
    refine x_iast (q := 127) (ws' := nC y aN N15 ++ tC y aT T) C 0 dX0_tendLamp_126 ((aX0_15 y aN N14).L) rfl hb1 (congrArg (fun z => nC y aN z ++ tC y aT T) eN15.symm) rfl ?_
    refine x_iconst (q := 128) C dX0_tendLamp_127 ki_1 rfl ?_
    have hf := Option.some.inj hf
    obtain ⟨hr0, hr1⟩ := Prod.mk.inj hf
    exact x_zret () C dX0_tendLamp_128 rfl rfl hr0 (congrArg (fun z => nC y aN z ++ tC y aT T) hr1) (Nat.le_of_ble_eq_true rfl) (Nat.le_of_ble_eq_true rfl)
  · have hf := (if_pos hc).symm.trans hf
    refine x_iconst (q := 84) C dX0_tendLamp_83 ki_0 rfl ?_
    have hf := Option.some.inj hf
    obtain ⟨hr0, hr1⟩ := Prod.mk.inj hf
    exact x_zret () C dX0_tendLamp_84 rfl rfl hr0 (congrArg (fun z => nC y aN z ++ tC y aT T) hr1) (Nat.le_of_ble_eq_true rfl) (Nat.le_of_ble_eq_true rfl)

/-! LampHills$Night.moveLighters(LLampHills$Town;)I -/
theorem flX0_moveLighters_37 : Cond.fieldLink RX0 37 "LampHills$Night" "goesTo" "[I" ∈ wsX0_moveLighters := by decide +kernel
theorem flX0_moveLighters_43 : Cond.fieldLink RX0 43 "LampHills$Night" "minutesLeft" "[I" ∈ wsX0_moveLighters := by decide +kernel
theorem flX0_moveLighters_91 : Cond.fieldLink RX0 91 "LampHills$Town" "lighters" "I" ∈ wsX0_moveLighters := by decide +kernel
theorem iuX0_moveLighters_X0 : ∀ w ∈ u_ws RX0 TX0 16, w ∈ wsX0_moveLighters := fun _ h => List.mem_cons_of_mem _ (List.mem_append_right _ h)
theorem iuX0_moveLighters_X1 : ∀ w ∈ u_ws RX1 TX1 17, w ∈ wsX0_moveLighters := fun _ h => List.mem_cons_of_mem _ (List.mem_append_left _ (List.mem_append_right _ h))
theorem yi_X0_lookForLamp : xY yX0_lookForLamp wsX0_lookForLamp cX0_lookForLamp 5 none 2 := ⟨⟨_, rfl⟩, by decide +kernel, by decide +kernel, by decide +kernel⟩
theorem yi_X0_tendLamp : xY yX0_tendLamp wsX0_tendLamp cX0_tendLamp 5 (some .boolean) 2 := ⟨⟨_, rfl⟩, by decide +kernel, by decide +kernel, by decide +kernel⟩
def f0_moveLighters_L4 (T : St) : Nat → Int32 → Int32 → St → Option (Int32 × St)
  | 0, _, _, _ => none
  | fu + 1, v1, v2, N3 =>
  if (T 12 0) ≤ v2 then
  (
    some (v1, N3)
  )
  else
  (
    gd (xin v2 4) <|
    lt_ (fun (N5 : St) =>
    (
      lt_ (fun (v6 : Int32) (N7 : St) =>
      (
        f0_moveLighters_L4 T fu v6 (v2 + 1) N7
      )
      ) fun J69 =>
      if (N5 11 v2.toNatClampNeg) = (-1) then
      (
        J69 v1 N5
      )
      else
      (
        lt_ (up2 N5 13 v2.toNatClampNeg ((N5 13 v2.toNatClampNeg) - 1)) fun N8 =>
        if (N8 13 v2.toNatClampNeg) = 0 then
        (
          bd2 (f0_tendLamp N8 T v2) fun v9 N10 =>
          if v9 = 0 then
          (
            J69 v1 N10
          )
          else
          (
            J69 (v1 + 1) N10
          )
        )
        else
        (
          J69 v1 N8
        )
      )
    )
    ) fun J28 =>
    if (N3 11 v2.toNatClampNeg) = (-1) then
    (
      bd (f0_lookForLamp N3 T v2) fun N13 =>
      J28 N13
    )
    else
    (
      J28 N3
    )
  )
def f0_moveLighters (N : St) (T : St) : Option (Int32 × St) :=
  f0_moveLighters_L4 T xF 0 0 N
set_option maxHeartbeats 4000000 in
set_option maxRecDepth 100000 in
theorem w0_moveLighters_L4 {p : Program} {l : Launch} {e : Env} {s : State} {m : MethodId} {args : Array Value} {below : List Frame} {meth : Method} {c : Code} {D : va_G} {A : Nat → Prop} {y : Nat → ClassId} {aN aT : Nat → Nat} {T : St} {r : Int32} {N' : St} (C : xC p s m args meth c D A cX0_moveLighters RX0 4 wsX0_moveLighters (xT y) (some .int)) : ∀ (fu : Nat) (v1 : Int32) (v2 : Int32) (N3 : St), f0_moveLighters_L4 T fu v1 v2 N3 = some (r, N') → xV p l e { frames := 4, cells := 0, slots := 0, locals := 98 } s m args below meth c D A (xQi D (xT y) A (fun (r' : Int32) (_ : Unit) => r' = r) (fun _ : Unit => nC y aN N' ++ tC y aT T) 0 0 below args s) 4 (nC y aN N3 ++ tC y aT T) 0 0 [(0, .ref (aN 0)), (1, .ref (aT 0)), (2, .int v1), (3, .int v2)] 4 [] := by
  intro fu
  induction fu with
  | zero => intro v1 v2 N3 hf; rw [f0_moveLighters_L4] at hf; cases hf
  | succ fu ih =>
    intro v1 v2 N3 hf
    rw [f0_moveLighters_L4] at hf
    refine x_iload_n (q := 5) C 3 dX0_moveLighters_4 rfl rfl rfl ?_
    refine x_aload_n (q := 6) C 1 dX0_moveLighters_5 rfl rfl rfl ?_
    refine x_get (q := 9) C 12 dX0_moveLighters_6 ((oX1 y aT T).R) rfl iuX0_moveLighters_X1 flX0_moveLighters_91 rfl (by decide) rfl rfl ?_
    refine x_icmp_ge (t := 75) (q := 12) C dX0_moveLighters_9 (by decide) rfl (fun hc => ?_) (fun hc => ?_)
    · have hf := (if_pos hc).symm.trans hf
      refine x_iload_n (q := 76) C 2 dX0_moveLighters_75 rfl rfl rfl ?_
      have hf := Option.some.inj hf
      obtain ⟨hr0, hr1⟩ := Prod.mk.inj hf
      exact x_iret () C dX0_moveLighters_76 rfl hr0 (congrArg (fun z => nC y aN z ++ tC y aT T) hr1) (Nat.le_of_ble_eq_true rfl) (Nat.le_of_ble_eq_true rfl)
    · have hf := (if_neg hc).symm.trans hf
      refine x_aload_n (q := 13) C 0 dX0_moveLighters_12 rfl rfl rfl ?_
      refine x_get (q := 16) C 11 dX0_moveLighters_13 ((oX0 y aN N3).L) rfl iuX0_moveLighters_X0 flX0_moveLighters_37 rfl (by decide) rfl rfl ?_
      refine x_iload_n (q := 17) C 3 dX0_moveLighters_16 rfl rfl rfl ?_
      obtain ⟨hb4, hf⟩ := gd_some hf
      refine x_iald (q := 18) C 0 dX0_moveLighters_17 ((aX0_11 y aN N3).L) rfl hb4 rfl ?_
      refine x_iconst (q := 19) C dX0_moveLighters_18 ki_m1 rfl ?_
      obtain ⟨J28, eJ28, hf⟩ := lt_elim hf
      have hJ28 : ∀ (N5 : St), J28 N5 = some (r, N') → xV p l e { frames := 4, cells := 0, slots := 0, locals := 98 } s m args below meth c D A (xQi D (xT y) A (fun (r' : Int32) (_ : Unit) => r' = r) (fun _ : Unit => nC y aN N' ++ tC y aT T) 0 0 below args s) 4 (nC y aN N5 ++ tC y aT T) 0 0 [(0, .ref (aN 0)), (1, .ref (aT 0)), (2, .int v1), (3, .int v2)] 28 [] := by
        intro N5 hf
        subst eJ28
        refine x_aload_n (q := 29) C 0 dX0_moveLighters_28 rfl rfl rfl ?_
        refine x_get (q := 32) C 11 dX0_moveLighters_29 ((oX0 y aN N5).L) rfl iuX0_moveLighters_X0 flX0_moveLighters_37 rfl (by decide) rfl rfl ?_
        refine x_iload_n (q := 33) C 3 dX0_moveLighters_32 rfl rfl rfl ?_
        refine x_iald (q := 34) C 0 dX0_moveLighters_33 ((aX0_11 y aN N5).L) rfl hb4 rfl ?_
        refine x_iconst (q := 35) C dX0_moveLighters_34 ki_m1 rfl ?_
        obtain ⟨J69, eJ69, hf⟩ := lt_elim hf
        have hJ69 : ∀ (v6 : Int32) (N7 : St), J69 v6 N7 = some (r, N') → xV p l e { frames := 4, cells := 0, slots := 0, locals := 98 } s m args below meth c D A (xQi D (xT y) A (fun (r' : Int32) (_ : Unit) => r' = r) (fun _ : Unit => nC y aN N' ++ tC y aT T) 0 0 below args s) 4 (nC y aN N7 ++ tC y aT T) 0 0 [(0, .ref (aN 0)), (1, .ref (aT 0)), (2, .int v6), (3, .int v2)] 69 [] := by
          intro v6 N7 hf
          subst eJ69
          refine x_iinc (q := 72) C 3 (v2 + 1) [1, 2, 3, 0] [(0, .ref (aN 0)), (1, .ref (aT 0)), (2, .int v6), (3, .int (v2 + 1))] dX0_moveLighters_69 rfl (congrArg (fun z => v2 + z) ki_1) (by decide) rfl rfl ?_
          refine x_goto (t := 4) C dX0_moveLighters_72 (by decide) ?_
          exact ih v6 (v2 + 1) N7 hf
        refine x_icmp_eq (t := 69) (q := 38) C dX0_moveLighters_35 (by decide) rfl (fun hc => ?_) (fun hc => ?_)
        · have hf := (if_pos hc).symm.trans hf
          exact hJ69 v1 N5 hf
        · have hf := (if_neg hc).symm.trans hf
          refine x_aload_n (q := 39) C 0 dX0_moveLighters_38 rfl rfl rfl ?_
          refine x_get (q := 42) C 13 dX0_moveLighters_39 ((oX0 y aN N5).L) rfl iuX0_moveLighters_X0 flX0_moveLighters_43 rfl (by decide) rfl rfl ?_
          refine x_iload_n (q := 43) C 3 dX0_moveLighters_42 rfl rfl rfl ?_
          refine x_dup2 (q := 44) C dX0_moveLighters_43 rfl rfl rfl ?_
          refine x_iald (q := 45) C 0 dX0_moveLighters_44 ((aX0_13 y aN N5).L) rfl hb4 rfl ?_
          refine x_iconst (q := 46) C dX0_moveLighters_45 ki_1 rfl ?_
          refine x_isub (q := 47) C dX0_moveLighters_46 rfl ?_
          obtain ⟨N8, eN8, hf⟩ := lt_elim hf
          refine x_iast (q := 48) (ws' := nC y aN N8 ++ tC y aT T) C 0 dX0_moveLighters_47 ((aX0_13 y aN N5).L) rfl hb4 (congrArg (fun z => nC y aN z ++ tC y aT T) eN8.symm) rfl ?_
          refine x_aload_n (q := 49) C 0 dX0_moveLighters_48 rfl rfl rfl ?_
          refine x_get (q := 52) C 13 dX0_moveLighters_49 ((oX0 y aN N8).L) rfl iuX0_moveLighters_X0 flX0_moveLighters_43 rfl (by decide) rfl rfl ?_
          refine x_iload_n (q := 53) C 3 dX0_moveLighters_52 rfl rfl rfl ?_
          refine x_iald (q := 54) C 0 dX0_moveLighters_53 ((aX0_13 y aN N8).L) rfl hb4 rfl ?_
          refine x_if_ne (t := 69) (q := 57) C dX0_moveLighters_54 (by decide) rfl (fun hc => ?_) (fun hc => ?_)
          · have hf := (if_neg hc).symm.trans hf
            exact hJ69 v1 N8 hf
          · have hf := (if_pos hc).symm.trans hf
            refine x_aload_n (q := 58) C 0 dX0_moveLighters_57 rfl rfl rfl ?_
            refine x_aload_n (q := 59) C 1 dX0_moveLighters_58 rfl rfl rfl ?_
            refine x_iload_n (q := 60) C 3 dX0_moveLighters_59 rfl rfl rfl ?_
            obtain ⟨v9, N10, hcal11, hf⟩ := bd2_some hf
            refine x_callVi (q := 63) C (c0_tendLamp (l := l) (D := D) (y := y) (aN := aN) (aT := aT) hcal11) yi_X0_tendLamp gX0_moveLighters_X0_tendLamp rfl ((oX0 y aN N8).L) rfl ⟨(Nat.le_of_ble_eq_true rfl), (Nat.le_of_ble_eq_true rfl)⟩ dX0_moveLighters_60 pm_nil rfl rfl (Nat.le_of_ble_eq_true rfl) ⟨Nat.le_of_ble_eq_true rfl, Nat.le_of_ble_eq_true rfl⟩ rfl ?_
            intro rr12 uu hrr
            have hrr : v9 = rr12 := Eq.symm hrr
            subst hrr
            refine x_world (ws' := nC y aN N10 ++ tC y aT T) (List.append_nil _) ?_
            refine x_if_eq (t := 69) (q := 66) C dX0_moveLighters_63 (by decide) rfl (fun hc => ?_) (fun hc => ?_)
            · have hf := (if_pos hc).symm.trans hf
              exact hJ69 v1 N10 hf
            · have hf := (if_neg hc).symm.trans hf
              refine x_iinc (q := 69) C 2 (v1 + 1) [1, 2, 0, 3] [(0, .ref (aN 0)), (1, .ref (aT 0)), (2, .int (v1 + 1)), (3, .int v2)] dX0_moveLighters_66 rfl (congrArg (fun z => v1 + z) ki_1) (by decide) rfl rfl ?_
              exact hJ69 (v1 + 1) N10 hf
      refine x_icmp_ne (t := 28) (q := 22) C dX0_moveLighters_19 (by decide) rfl (fun hc => ?_) (fun hc => ?_)
      · have hf := (if_neg hc).symm.trans hf
        exact hJ28 N3 hf
      · have hf := (if_pos hc).symm.trans hf
        refine x_aload_n (q := 23) C 0 dX0_moveLighters_22 rfl rfl rfl ?_
        refine x_aload_n (q := 24) C 1 dX0_moveLighters_23 rfl rfl rfl ?_
        refine x_iload_n (q := 25) C 3 dX0_moveLighters_24 rfl rfl rfl ?_
        obtain ⟨N13, hcal14, hf⟩ := bd_some hf
        refine x_callVv (q := 28) C (c0_lookForLamp (l := l) (D := D) (y := y) (aN := aN) (aT := aT) hcal14) yi_X0_lookForLamp gX0_moveLighters_X0_lookForLamp rfl ((oX0 y aN N3).L) rfl ⟨(Nat.le_of_ble_eq_true rfl), (Nat.le_of_ble_eq_true rfl)⟩ dX0_moveLighters_25 pm_nil rfl rfl (Nat.le_of_ble_eq_true rfl) ⟨Nat.le_of_ble_eq_true rfl, Nat.le_of_ble_eq_true rfl⟩ rfl ?_
        intro uu hrr
        refine x_world (ws' := nC y aN N13 ++ tC y aT T) (List.append_nil _) ?_
        exact hJ28 N13 hf
set_option maxHeartbeats 4000000 in
set_option maxRecDepth 100000 in
theorem c0_moveLighters {l : Launch} {D : va_G} {y : Nat → ClassId} {aN aT : Nat → Nat} {N : St} {T : St} {r : Int32} {N' : St} (hf : f0_moveLighters N T = some (r, N')) : xMi l yX0_moveLighters wsX0_moveLighters 4 98 0 0 D (xT y) [.ref (aN 0), .ref (aT 0)] (nC y aN N ++ tC y aT T) (fun (r' : Int32) (_ : Unit) => r' = r) (fun _ : Unit => nC y aN N' ++ tC y aT T) := by
  refine xMi_of (cc := cX0_moveLighters) (nL := 4) (ret := (some .int)) [(0, .ref (aN 0)), (1, .ref (aT 0))] (by decide) rfl (Nat.le_of_ble_eq_true rfl) rfl ?_
  intro p e s m args below meth c A C hin
  have C : xC p s m args meth c D A cX0_moveLighters RX0 4 wsX0_moveLighters (xT y) (some .int) := C
  unfold f0_moveLighters at hf
  refine x_iconst (q := 1) C dX0_moveLighters_0 ki_0 rfl ?_
  refine x_istore_n (q := 2) C [1, 2, 0] [(0, .ref (aN 0)), (1, .ref (aT 0)), (2, .int 0)] dX0_moveLighters_1 rfl (by decide) rfl rfl ?_
  refine x_iconst (q := 3) C dX0_moveLighters_2 ki_0 rfl ?_
  refine x_istore_n (q := 4) C [1, 2, 3, 0] [(0, .ref (aN 0)), (1, .ref (aT 0)), (2, .int 0), (3, .int 0)] dX0_moveLighters_3 rfl (by decide) rfl rfl ?_
  exact w0_moveLighters_L4 C xF 0 0 N hf

/-! LampHills$Night.useOil(LLampHills$Town;I)V -/
theorem ki_5 : Int32.ofInt 5 = 5 := by decide
theorem flX0_useOil_15 : Cond.fieldLink RX0 15 "LampHills$Night" "oil" "[I" ∈ wsX0_useOil := by decide +kernel
theorem flX0_useOil_18 : Cond.fieldLink RX0 18 "LampHills$Night" "soot" "[I" ∈ wsX0_useOil := by decide +kernel
theorem flX0_useOil_59 : Cond.fieldLink RX0 59 "LampHills$Night" "oilUsed" "I" ∈ wsX0_useOil := by decide +kernel
theorem iuX0_useOil_X0 : ∀ w ∈ u_ws RX0 TX0 16, w ∈ wsX0_useOil := fun _ h => List.mem_cons_of_mem _ (List.mem_append_left _ (List.mem_append_right _ h))
theorem kmX0_useOil_143 : ∀ w ∈ ([.methodLink RX0 143 Lib.Math.min.name, .static Lib.Math.min.name, .initialized "java/lang/Math", .code Lib.Math.min.name Lib.Math.min.code 2 (some .int)] : List Cond), w ∈ wsX0_useOil := by decide +kernel
def f0_useOil (N : St) (T : St) (p2 : Int32) : Option (St) :=
  gd (xin p2 20) <|
  lt_ (fun (v2 : Int32) =>
  (
    lt_ (if v2 < (N 4 p2.toNatClampNeg) then v2 else (N 4 p2.toNatClampNeg)) fun v3 =>
    lt_ (up2 N 4 p2.toNatClampNeg ((N 4 p2.toNatClampNeg) - v3)) fun N4 =>
    lt_ (up2 N4 2 0 ((N4 2 0) + v3)) fun N5 =>
    if (N5 4 p2.toNatClampNeg) = 0 then
    (
      bd (f0_putOut N5 T p2) fun N6 =>
      some N6
    )
    else
    (
      some N5
    )
  )
  ) fun J21 =>
  if (N 5 p2.toNatClampNeg) < 5 then
  (
    J21 1
  )
  else
  (
    J21 2
  )
set_option maxHeartbeats 4000000 in
set_option maxRecDepth 100000 in
theorem c0_useOil {l : Launch} {D : va_G} {y : Nat → ClassId} {aN aT : Nat → Nat} {N : St} {T : St} {p2 : Int32} {N' : St} (hf : f0_useOil N T p2 = some N') : xMv l yX0_useOil wsX0_useOil 1 48 0 0 D (xT y) [.ref (aN 0), .ref (aT 0), .int p2] (nC y aN N ++ tC y aT T) (fun (_ : Unit) => True) (fun _ : Unit => nC y aN N' ++ tC y aT T) := by
  refine xMv_of (cc := cX0_useOil) (nL := 4) (ret := none) [(0, .ref (aN 0)), (1, .ref (aT 0)), (2, .int p2)] (by decide) rfl (Nat.le_of_ble_eq_true rfl) rfl ?_
  intro p e s m args below meth c A C hin
  have C : xC p s m args meth c D A cX0_useOil RX0 4 wsX0_useOil (xT y) none := C
  unfold f0_useOil at hf
  refine x_aload_n (q := 1) C 0 dX0_useOil_0 rfl rfl rfl ?_
  refine x_get (q := 4) C 4 dX0_useOil_1 ((oX0 y aN N).L) rfl iuX0_useOil_X0 flX0_useOil_15 rfl (by decide) rfl rfl ?_
  refine x_iload_n (q := 5) C 2 dX0_useOil_4 rfl rfl rfl ?_
  obtain ⟨hb1, hf⟩ := gd_some hf
  refine x_iald (q := 6) C 0 dX0_useOil_5 ((aX0_4 y aN N).L) rfl hb1 rfl ?_
  refine x_aload_n (q := 7) C 0 dX0_useOil_6 rfl rfl rfl ?_
  refine x_get (q := 10) C 5 dX0_useOil_7 ((oX0 y aN N).L) rfl iuX0_useOil_X0 flX0_useOil_18 rfl (by decide) rfl rfl ?_
  refine x_iload_n (q := 11) C 2 dX0_useOil_10 rfl rfl rfl ?_
  refine x_iald (q := 12) C 0 dX0_useOil_11 ((aX0_5 y aN N).L) rfl hb1 rfl ?_
  refine x_iconst (q := 13) C dX0_useOil_12 ki_5 rfl ?_
  obtain ⟨J21, eJ21, hf⟩ := lt_elim hf
  have hJ21 : ∀ (v2 : Int32), J21 v2 = some N' → xV p l e { frames := 1, cells := 0, slots := 0, locals := 48 } s m args below meth c D A (xQv D (xT y) A (fun (_ : Unit) => True) (fun _ : Unit => nC y aN N' ++ tC y aT T) 0 0 below args s) 4 (nC y aN N ++ tC y aT T) 0 0 [(0, .ref (aN 0)), (1, .ref (aT 0)), (2, .int p2)] 21 [.int v2, .int (N 4 p2.toNatClampNeg)] := by
    intro v2 hf
    subst eJ21
    refine x_mmin (q := 24) C dX0_useOil_21 kmX0_useOil_143 (Nat.le_of_ble_eq_true rfl) (Nat.le_of_ble_eq_true rfl) (Nat.le_of_ble_eq_true rfl) (Nat.le_of_ble_eq_true rfl) rfl ?_
    obtain ⟨v3, ev3, hf⟩ := lt_elim hf
    refine x_topi ev3 ?_
    refine x_istore_n (q := 25) C [1, 2, 3, 0] [(0, .ref (aN 0)), (1, .ref (aT 0)), (2, .int p2), (3, .int v3)] dX0_useOil_24 rfl (by decide) rfl rfl ?_
    refine x_aload_n (q := 26) C 0 dX0_useOil_25 rfl rfl rfl ?_
    refine x_get (q := 29) C 4 dX0_useOil_26 ((oX0 y aN N).L) rfl iuX0_useOil_X0 flX0_useOil_15 rfl (by decide) rfl rfl ?_
    refine x_iload_n (q := 30) C 2 dX0_useOil_29 rfl rfl rfl ?_
    refine x_dup2 (q := 31) C dX0_useOil_30 rfl rfl rfl ?_
    refine x_iald (q := 32) C 0 dX0_useOil_31 ((aX0_4 y aN N).L) rfl hb1 rfl ?_
    refine x_iload_n (q := 33) C 3 dX0_useOil_32 rfl rfl rfl ?_
    refine x_isub (q := 34) C dX0_useOil_33 rfl ?_
    obtain ⟨N4, eN4, hf⟩ := lt_elim hf
    refine x_iast (q := 35) (ws' := nC y aN N4 ++ tC y aT T) C 0 dX0_useOil_34 ((aX0_4 y aN N).L) rfl hb1 (congrArg (fun z => nC y aN z ++ tC y aT T) eN4.symm) rfl ?_
    refine x_aload_n (q := 36) C 0 dX0_useOil_35 rfl rfl rfl ?_
    refine x_dup (q := 37) C dX0_useOil_36 rfl rfl ?_
    refine x_get (q := 40) C 2 dX0_useOil_37 ((oX0 y aN N4).L) rfl iuX0_useOil_X0 flX0_useOil_59 rfl (by decide) rfl rfl ?_
    refine x_iload_n (q := 41) C 3 dX0_useOil_40 rfl rfl rfl ?_
    refine x_iadd (q := 42) C dX0_useOil_41 rfl ?_
    obtain ⟨N5, eN5, hf⟩ := lt_elim hf
    refine x_puti (q := 45) (ws' := nC y aN N5 ++ tC y aT T) C tyX0 tyX0_ok nmX0 dX0_useOil_42 ((iX0_2 y aN N4).L) rfl iuX0_useOil_X0 flX0_useOil_59 rfl (by decide) rfl rfl (congrArg (fun z => nC y aN z ++ tC y aT T) eN5.symm) rfl ?_
    refine x_aload_n (q := 46) C 0 dX0_useOil_45 rfl rfl rfl ?_
    refine x_get (q := 49) C 4 dX0_useOil_46 ((oX0 y aN N5).L) rfl iuX0_useOil_X0 flX0_useOil_15 rfl (by decide) rfl rfl ?_
    refine x_iload_n (q := 50) C 2 dX0_useOil_49 rfl rfl rfl ?_
    refine x_iald (q := 51) C 0 dX0_useOil_50 ((aX0_4 y aN N5).L) rfl hb1 rfl ?_
    refine x_if_ne (t := 60) (q := 54) C dX0_useOil_51 (by decide) rfl (fun hc => ?_) (fun hc => ?_)
    · have hf := (if_neg hc).symm.trans hf
      have hf := Option.some.inj hf
      exact x_vret () C dX0_useOil_60 rfl trivial (congrArg (fun z => nC y aN z ++ tC y aT T) hf) (Nat.le_of_ble_eq_true rfl) (Nat.le_of_ble_eq_true rfl)
    · have hf := (if_pos hc).symm.trans hf
      refine x_aload_n (q := 55) C 0 dX0_useOil_54 rfl rfl rfl ?_
      refine x_aload_n (q := 56) C 1 dX0_useOil_55 rfl rfl rfl ?_
      refine x_iload_n (q := 57) C 2 dX0_useOil_56 rfl rfl rfl ?_
      obtain ⟨N6, hcal7, hf⟩ := bd_some hf
      refine x_callVv (q := 60) C (c0_putOut (l := l) (D := D) (y := y) (aN := aN) (aT := aT) hcal7) yi_X0_putOut gX0_useOil_X0_putOut rfl ((oX0 y aN N5).L) rfl ⟨(Nat.le_of_ble_eq_true rfl), (Nat.le_of_ble_eq_true rfl)⟩ dX0_useOil_57 pm_nil rfl rfl (Nat.le_of_ble_eq_true rfl) ⟨Nat.le_of_ble_eq_true rfl, Nat.le_of_ble_eq_true rfl⟩ rfl ?_
      intro uu hrr
      refine x_world (ws' := nC y aN N6 ++ tC y aT T) (List.append_nil _) ?_
      have hf := Option.some.inj hf
      exact x_vret () C dX0_useOil_60 rfl trivial (congrArg (fun z => nC y aN z ++ tC y aT T) hf) (Nat.le_of_ble_eq_true rfl) (Nat.le_of_ble_eq_true rfl)
  refine x_icmp_lt (t := 20) (q := 16) C dX0_useOil_13 (by decide) rfl (fun hc => ?_) (fun hc => ?_)
  · have hf := (if_pos hc).symm.trans hf
    refine x_iconst (q := 21) C dX0_useOil_20 ki_1 rfl ?_
    exact hJ21 1 hf
  · have hf := (if_neg hc).symm.trans hf
    refine x_iconst (q := 17) C dX0_useOil_16 ki_2 rfl ?_
    refine x_goto (t := 21) C dX0_useOil_17 (by decide) ?_
    exact hJ21 2 hf

/-! LampHills$Night.burnLamps(LLampHills$Town;)V -/
theorem kb_30 : (Int8.ofInt 30).toInt32 = 30 := by decide
theorem kb_9 : (Int8.ofInt 9).toInt32 = 9 := by decide
theorem flX0_burnLamps_18 : Cond.fieldLink RX0 18 "LampHills$Night" "soot" "[I" ∈ wsX0_burnLamps := by decide +kernel
theorem flX0_burnLamps_21 : Cond.fieldLink RX0 21 "LampHills$Night" "burns" "[Z" ∈ wsX0_burnLamps := by decide +kernel
theorem flX0_burnLamps_52 : Cond.fieldLink RX0 52 "LampHills$Night" "minute" "I" ∈ wsX0_burnLamps := by decide +kernel
theorem flX0_burnLamps_85 : Cond.fieldLink RX0 85 "LampHills$Town" "lamps" "I" ∈ wsX0_burnLamps := by decide +kernel
theorem iuX0_burnLamps_X0 : ∀ w ∈ u_ws RX0 TX0 16, w ∈ wsX0_burnLamps := fun _ h => List.mem_cons_of_mem _ (List.mem_append_right _ h)
theorem iuX0_burnLamps_X1 : ∀ w ∈ u_ws RX1 TX1 17, w ∈ wsX0_burnLamps := fun _ h => List.mem_cons_of_mem _ (List.mem_append_left _ (List.mem_append_right _ h))
theorem kmX0_burnLamps_143 : ∀ w ∈ ([.methodLink RX0 143 Lib.Math.min.name, .static Lib.Math.min.name, .initialized "java/lang/Math", .code Lib.Math.min.name Lib.Math.min.code 2 (some .int)] : List Cond), w ∈ wsX0_burnLamps := by decide +kernel
theorem yi_X0_useOil : xY yX0_useOil wsX0_useOil cX0_useOil 4 none 2 := ⟨⟨_, rfl⟩, by decide +kernel, by decide +kernel, by decide +kernel⟩
def f0_burnLamps_L2 (T : St) : Nat → Int32 → St → Option (St)
  | 0, _, _ => none
  | fu + 1, v1, N2 =>
  if (T 7 0) ≤ v1 then
  (
    some N2
  )
  else
  (
    gd (xin v1 20) <|
    lt_ (fun (N4 : St) =>
    (
      lt_ (fun (N5 : St) =>
      (
        f0_burnLamps_L2 T fu (v1 + 1) N5
      )
      ) fun J63 =>
      if (N4 6 v1.toNatClampNeg) = 0 then
      (
        J63 N4
      )
      else
      (
        if ((N4 0 0) - (N4 0 0) / 30 * 30) = 0 then
        (
          lt_ (up2 N4 5 v1.toNatClampNeg (if ((N4 5 v1.toNatClampNeg) + 1) < (9 : Int32) then ((N4 5 v1.toNatClampNeg) + 1) else (9 : Int32))) fun N6 =>
          J63 N6
        )
        else
        (
          J63 N4
        )
      )
    )
    ) fun J25 =>
    if (N2 6 v1.toNatClampNeg) = 0 then
    (
      J25 N2
    )
    else
    (
      bd (f0_useOil N2 T v1) fun N7 =>
      J25 N7
    )
  )
def f0_burnLamps (N : St) (T : St) : Option (St) :=
  f0_burnLamps_L2 T xF 0 N
set_option maxHeartbeats 4000000 in
set_option maxRecDepth 100000 in
theorem w0_burnLamps_L2 {p : Program} {l : Launch} {e : Env} {s : State} {m : MethodId} {args : Array Value} {below : List Frame} {meth : Method} {c : Code} {D : va_G} {A : Nat → Prop} {y : Nat → ClassId} {aN aT : Nat → Nat} {T : St} {N' : St} (C : xC p s m args meth c D A cX0_burnLamps RX0 3 wsX0_burnLamps (xT y) none) : ∀ (fu : Nat) (v1 : Int32) (N2 : St), f0_burnLamps_L2 T fu v1 N2 = some N' → xV p l e { frames := 2, cells := 0, slots := 0, locals := 71 } s m args below meth c D A (xQv D (xT y) A (fun (_ : Unit) => True) (fun _ : Unit => nC y aN N' ++ tC y aT T) 0 0 below args s) 3 (nC y aN N2 ++ tC y aT T) 0 0 [(0, .ref (aN 0)), (1, .ref (aT 0)), (2, .int v1)] 2 [] := by
  intro fu
  induction fu with
  | zero => intro v1 N2 hf; rw [f0_burnLamps_L2] at hf; cases hf
  | succ fu ih =>
    intro v1 N2 hf
    rw [f0_burnLamps_L2] at hf
    refine x_iload_n (q := 3) C 2 dX0_burnLamps_2 rfl rfl rfl ?_
    refine x_aload_n (q := 4) C 1 dX0_burnLamps_3 rfl rfl rfl ?_
    refine x_get (q := 7) C 7 dX0_burnLamps_4 ((oX1 y aT T).R) rfl iuX0_burnLamps_X1 flX0_burnLamps_85 rfl (by decide) rfl rfl ?_
    refine x_icmp_ge (t := 69) (q := 10) C dX0_burnLamps_7 (by decide) rfl (fun hc => ?_) (fun hc => ?_)
    · have hf := (if_pos hc).symm.trans hf
      have hf := Option.some.inj hf
      exact x_vret () C dX0_burnLamps_69 rfl trivial (congrArg (fun z => nC y aN z ++ tC y aT T) hf) (Nat.le_of_ble_eq_true rfl) (Nat.le_of_ble_eq_true rfl)
    · have hf := (if_neg hc).symm.trans hf
      refine x_aload_n (q := 11) C 0 dX0_burnLamps_10 rfl rfl rfl ?_
      refine x_get (q := 14) C 6 dX0_burnLamps_11 ((oX0 y aN N2).L) rfl iuX0_burnLamps_X0 flX0_burnLamps_21 rfl (by decide) rfl rfl ?_
      refine x_iload_n (q := 15) C 2 dX0_burnLamps_14 rfl rfl rfl ?_
      obtain ⟨hb3, hf⟩ := gd_some hf
      refine x_zald (q := 16) C 1 dX0_burnLamps_15 ((aX0_6 y aN N2).L) rfl hb3 rfl ?_
      obtain ⟨J25, eJ25, hf⟩ := lt_elim hf
      have hJ25 : ∀ (N4 : St), J25 N4 = some N' → xV p l e { frames := 2, cells := 0, slots := 0, locals := 71 } s m args below meth c D A (xQv D (xT y) A (fun (_ : Unit) => True) (fun _ : Unit => nC y aN N' ++ tC y aT T) 0 0 below args s) 3 (nC y aN N4 ++ tC y aT T) 0 0 [(0, .ref (aN 0)), (1, .ref (aT 0)), (2, .int v1)] 25 [] := by
        intro N4 hf
        subst eJ25
        refine x_aload_n (q := 26) C 0 dX0_burnLamps_25 rfl rfl rfl ?_
        refine x_get (q := 29) C 6 dX0_burnLamps_26 ((oX0 y aN N4).L) rfl iuX0_burnLamps_X0 flX0_burnLamps_21 rfl (by decide) rfl rfl ?_
        refine x_iload_n (q := 30) C 2 dX0_burnLamps_29 rfl rfl rfl ?_
        refine x_zald (q := 31) C 1 dX0_burnLamps_30 ((aX0_6 y aN N4).L) rfl hb3 rfl ?_
        obtain ⟨J63, eJ63, hf⟩ := lt_elim hf
        have hJ63 : ∀ (N5 : St), J63 N5 = some N' → xV p l e { frames := 2, cells := 0, slots := 0, locals := 71 } s m args below meth c D A (xQv D (xT y) A (fun (_ : Unit) => True) (fun _ : Unit => nC y aN N' ++ tC y aT T) 0 0 below args s) 3 (nC y aN N5 ++ tC y aT T) 0 0 [(0, .ref (aN 0)), (1, .ref (aT 0)), (2, .int v1)] 63 [] := by
          intro N5 hf
          subst eJ63
          refine x_iinc (q := 66) C 2 (v1 + 1) [1, 2, 0] [(0, .ref (aN 0)), (1, .ref (aT 0)), (2, .int (v1 + 1))] dX0_burnLamps_63 rfl (congrArg (fun z => v1 + z) ki_1) (by decide) rfl rfl ?_
          refine x_goto (t := 2) C dX0_burnLamps_66 (by decide) ?_
          exact ih (v1 + 1) N5 hf
        refine x_if_eq (t := 63) (q := 34) C dX0_burnLamps_31 (by decide) rfl (fun hc => ?_) (fun hc => ?_)
        · have hf := (if_pos hc).symm.trans hf
          exact hJ63 N4 hf
        · have hf := (if_neg hc).symm.trans hf
          refine x_aload_n (q := 35) C 0 dX0_burnLamps_34 rfl rfl rfl ?_
          refine x_get (q := 38) C 0 dX0_burnLamps_35 ((oX0 y aN N4).L) rfl iuX0_burnLamps_X0 flX0_burnLamps_52 rfl (by decide) rfl rfl ?_
          refine x_bipush (q := 40) C dX0_burnLamps_38 kb_30 rfl ?_
          refine x_irem (q := 41) C dX0_burnLamps_40 (by decide) rfl ?_
          refine x_if_ne (t := 63) (q := 44) C dX0_burnLamps_41 (by decide) rfl (fun hc => ?_) (fun hc => ?_)
          · have hf := (if_neg hc).symm.trans hf
            exact hJ63 N4 hf
          · have hf := (if_pos hc).symm.trans hf
            refine x_aload_n (q := 45) C 0 dX0_burnLamps_44 rfl rfl rfl ?_
            refine x_get (q := 48) C 5 dX0_burnLamps_45 ((oX0 y aN N4).L) rfl iuX0_burnLamps_X0 flX0_burnLamps_18 rfl (by decide) rfl rfl ?_
            refine x_iload_n (q := 49) C 2 dX0_burnLamps_48 rfl rfl rfl ?_
            refine x_bipush (q := 51) C dX0_burnLamps_49 kb_9 rfl ?_
            refine x_aload_n (q := 52) C 0 dX0_burnLamps_51 rfl rfl rfl ?_
            refine x_get (q := 55) C 5 dX0_burnLamps_52 ((oX0 y aN N4).L) rfl iuX0_burnLamps_X0 flX0_burnLamps_18 rfl (by decide) rfl rfl ?_
            refine x_iload_n (q := 56) C 2 dX0_burnLamps_55 rfl rfl rfl ?_
            refine x_iald (q := 57) C 0 dX0_burnLamps_56 ((aX0_5 y aN N4).L) rfl hb3 rfl ?_
            refine x_iconst (q := 58) C dX0_burnLamps_57 ki_1 rfl ?_
            refine x_iadd (q := 59) C dX0_burnLamps_58 rfl ?_
            refine x_mmin (q := 62) C dX0_burnLamps_59 kmX0_burnLamps_143 (Nat.le_of_ble_eq_true rfl) (Nat.le_of_ble_eq_true rfl) (Nat.le_of_ble_eq_true rfl) (Nat.le_of_ble_eq_true rfl) rfl ?_
            obtain ⟨N6, eN6, hf⟩ := lt_elim hf
            refine x_iast (q := 63) (ws' := nC y aN N6 ++ tC y aT T) C 0 dX0_burnLamps_62 ((aX0_5 y aN N4).L) rfl hb3 (congrArg (fun z => nC y aN z ++ tC y aT T) eN6.symm) rfl ?_
            exact hJ63 N6 hf
      refine x_if_eq (t := 25) (q := 19) C dX0_burnLamps_16 (by decide) rfl (fun hc => ?_) (fun hc => ?_)
      · have hf := (if_pos hc).symm.trans hf
        exact hJ25 N2 hf
      · have hf := (if_neg hc).symm.trans hf
        refine x_aload_n (q := 20) C 0 dX0_burnLamps_19 rfl rfl rfl ?_
        refine x_aload_n (q := 21) C 1 dX0_burnLamps_20 rfl rfl rfl ?_
        refine x_iload_n (q := 22) C 2 dX0_burnLamps_21 rfl rfl rfl ?_
        obtain ⟨N7, hcal8, hf⟩ := bd_some hf
        refine x_callVv (q := 25) C (c0_useOil (l := l) (D := D) (y := y) (aN := aN) (aT := aT) hcal8) yi_X0_useOil gX0_burnLamps_X0_useOil rfl ((oX0 y aN N2).L) rfl ⟨(Nat.le_of_ble_eq_true rfl), (Nat.le_of_ble_eq_true rfl)⟩ dX0_burnLamps_22 pm_nil rfl rfl (Nat.le_of_ble_eq_true rfl) ⟨Nat.le_of_ble_eq_true rfl, Nat.le_of_ble_eq_true rfl⟩ rfl ?_
        intro uu hrr
        refine x_world (ws' := nC y aN N7 ++ tC y aT T) (List.append_nil _) ?_
        exact hJ25 N7 hf
set_option maxHeartbeats 4000000 in
set_option maxRecDepth 100000 in
theorem c0_burnLamps {l : Launch} {D : va_G} {y : Nat → ClassId} {aN aT : Nat → Nat} {N : St} {T : St} {N' : St} (hf : f0_burnLamps N T = some N') : xMv l yX0_burnLamps wsX0_burnLamps 2 71 0 0 D (xT y) [.ref (aN 0), .ref (aT 0)] (nC y aN N ++ tC y aT T) (fun (_ : Unit) => True) (fun _ : Unit => nC y aN N' ++ tC y aT T) := by
  refine xMv_of (cc := cX0_burnLamps) (nL := 3) (ret := none) [(0, .ref (aN 0)), (1, .ref (aT 0))] (by decide) rfl (Nat.le_of_ble_eq_true rfl) rfl ?_
  intro p e s m args below meth c A C hin
  have C : xC p s m args meth c D A cX0_burnLamps RX0 3 wsX0_burnLamps (xT y) none := C
  unfold f0_burnLamps at hf
  refine x_iconst (q := 1) C dX0_burnLamps_0 ki_0 rfl ?_
  refine x_istore_n (q := 2) C [1, 2, 0] [(0, .ref (aN 0)), (1, .ref (aT 0)), (2, .int 0)] dX0_burnLamps_1 rfl (by decide) rfl rfl ?_
  exact w0_burnLamps_L2 C xF 0 N hf

/-! LampHills$Night.blow(LLampHills$Town;I)V -/
theorem ki_4 : Int32.ofInt 4 = 4 := by decide
theorem flX0_blow_157 : Cond.fieldLink RX0 157 "LampHills$Town" "lid" "[I" ∈ wsX0_blow := by decide +kernel
theorem flX0_blow_21 : Cond.fieldLink RX0 21 "LampHills$Night" "burns" "[Z" ∈ wsX0_blow := by decide +kernel
theorem flX0_blow_28 : Cond.fieldLink RX0 28 "LampHills$Night" "timesBlownOut" "[I" ∈ wsX0_blow := by decide +kernel
theorem flX0_blow_85 : Cond.fieldLink RX0 85 "LampHills$Town" "lamps" "I" ∈ wsX0_blow := by decide +kernel
theorem iuX0_blow_X0 : ∀ w ∈ u_ws RX0 TX0 16, w ∈ wsX0_blow := fun _ h => List.mem_cons_of_mem _ (List.mem_append_right _ h)
theorem iuX0_blow_X1 : ∀ w ∈ u_ws RX1 TX1 17, w ∈ wsX0_blow := fun _ h => List.mem_cons_of_mem _ (List.mem_append_left _ (List.mem_append_right _ h))
theorem yi_X1_windAtLamp : xY yX1_windAtLamp wsX1_windAtLamp cX1_windAtLamp 4 (some .int) 2 := ⟨⟨_, rfl⟩, by decide +kernel, by decide +kernel, by decide +kernel⟩
def f0_blow_L2 (p2 : Int32) (T : St) : Nat → Int32 → St → Option (St)
  | 0, _, _ => none
  | fu + 1, v1, N2 =>
  if (T 7 0) ≤ v1 then
  (
    some N2
  )
  else
  (
    gd (xin v1 20) <|
    lt_ (fun (N4 : St) =>
    (
      f0_blow_L2 p2 T fu (v1 + 1) N4
    )
    ) fun J52 =>
    if (N2 6 v1.toNatClampNeg) = 0 then
    (
      J52 N2
    )
    else
    (
      bd (f1_windAtLamp T v1 p2) fun v5 =>
      if v5 ≤ ((T 10 v1.toNatClampNeg) + 4) then
      (
        J52 N2
      )
      else
      (
        bd (f0_putOut N2 T v1) fun N8 =>
        lt_ (up2 N8 8 v1.toNatClampNeg ((N8 8 v1.toNatClampNeg) + 1)) fun N10 =>
        J52 N10
      )
    )
  )
def f0_blow (N : St) (T : St) (p2 : Int32) : Option (St) :=
  f0_blow_L2 p2 T xF 0 N
set_option maxHeartbeats 4000000 in
set_option maxRecDepth 100000 in
theorem w0_blow_L2 {p : Program} {l : Launch} {e : Env} {s : State} {m : MethodId} {args : Array Value} {below : List Frame} {meth : Method} {c : Code} {D : va_G} {A : Nat → Prop} {y : Nat → ClassId} {aN aT : Nat → Nat} {T : St} {p2 : Int32} {N' : St} (C : xC p s m args meth c D A cX0_blow RX0 4 wsX0_blow (xT y) none) : ∀ (fu : Nat) (v1 : Int32) (N2 : St), f0_blow_L2 p2 T fu v1 N2 = some N' → xV p l e { frames := 2, cells := 0, slots := 0, locals := 71 } s m args below meth c D A (xQv D (xT y) A (fun (_ : Unit) => True) (fun _ : Unit => nC y aN N' ++ tC y aT T) 0 0 below args s) 4 (nC y aN N2 ++ tC y aT T) 0 0 [(0, .ref (aN 0)), (1, .ref (aT 0)), (2, .int p2), (3, .int v1)] 2 [] := by
  intro fu
  induction fu with
  | zero => intro v1 N2 hf; rw [f0_blow_L2] at hf; cases hf
  | succ fu ih =>
    intro v1 N2 hf
    rw [f0_blow_L2] at hf
    refine x_iload_n (q := 3) C 3 dX0_blow_2 rfl rfl rfl ?_
    refine x_aload_n (q := 4) C 1 dX0_blow_3 rfl rfl rfl ?_
    refine x_get (q := 7) C 7 dX0_blow_4 ((oX1 y aT T).R) rfl iuX0_blow_X1 flX0_blow_85 rfl (by decide) rfl rfl ?_
    refine x_icmp_ge (t := 58) (q := 10) C dX0_blow_7 (by decide) rfl (fun hc => ?_) (fun hc => ?_)
    · have hf := (if_pos hc).symm.trans hf
      have hf := Option.some.inj hf
      exact x_vret () C dX0_blow_58 rfl trivial (congrArg (fun z => nC y aN z ++ tC y aT T) hf) (Nat.le_of_ble_eq_true rfl) (Nat.le_of_ble_eq_true rfl)
    · have hf := (if_neg hc).symm.trans hf
      refine x_aload_n (q := 11) C 0 dX0_blow_10 rfl rfl rfl ?_
      refine x_get (q := 14) C 6 dX0_blow_11 ((oX0 y aN N2).L) rfl iuX0_blow_X0 flX0_blow_21 rfl (by decide) rfl rfl ?_
      refine x_iload_n (q := 15) C 3 dX0_blow_14 rfl rfl rfl ?_
      obtain ⟨hb3, hf⟩ := gd_some hf
      refine x_zald (q := 16) C 1 dX0_blow_15 ((aX0_6 y aN N2).L) rfl hb3 rfl ?_
      obtain ⟨J52, eJ52, hf⟩ := lt_elim hf
      have hJ52 : ∀ (N4 : St), J52 N4 = some N' → xV p l e { frames := 2, cells := 0, slots := 0, locals := 71 } s m args below meth c D A (xQv D (xT y) A (fun (_ : Unit) => True) (fun _ : Unit => nC y aN N' ++ tC y aT T) 0 0 below args s) 4 (nC y aN N4 ++ tC y aT T) 0 0 [(0, .ref (aN 0)), (1, .ref (aT 0)), (2, .int p2), (3, .int v1)] 52 [] := by
        intro N4 hf
        subst eJ52
        refine x_iinc (q := 55) C 3 (v1 + 1) [1, 2, 3, 0] [(0, .ref (aN 0)), (1, .ref (aT 0)), (2, .int p2), (3, .int (v1 + 1))] dX0_blow_52 rfl (congrArg (fun z => v1 + z) ki_1) (by decide) rfl rfl ?_
        refine x_goto (t := 2) C dX0_blow_55 (by decide) ?_
        exact ih (v1 + 1) N4 hf
      refine x_if_eq (t := 52) (q := 19) C dX0_blow_16 (by decide) rfl (fun hc => ?_) (fun hc => ?_)
      · have hf := (if_pos hc).symm.trans hf
        exact hJ52 N2 hf
      · have hf := (if_neg hc).symm.trans hf
        refine x_aload_n (q := 20) C 1 dX0_blow_19 rfl rfl rfl ?_
        refine x_iload_n (q := 21) C 3 dX0_blow_20 rfl rfl rfl ?_
        refine x_iload_n (q := 22) C 2 dX0_blow_21 rfl rfl rfl ?_
        obtain ⟨v5, hcal6, hf⟩ := bd_some hf
        refine x_callVi (q := 25) C (c1_windAtLamp (l := l) (D := D) (y := y) (aT := aT) hcal6) yi_X1_windAtLamp gX0_blow_X1_windAtLamp rfl (oX1 y aT T) rfl ⟨(Nat.le_of_ble_eq_true rfl), (Nat.le_of_ble_eq_true rfl)⟩ dX0_blow_22 (pm2_1 _ _) rfl rfl (Nat.le_of_ble_eq_true rfl) ⟨Nat.le_of_ble_eq_true rfl, Nat.le_of_ble_eq_true rfl⟩ rfl ?_
        intro rr7 uu hrr
        have hrr : v5 = rr7 := Eq.symm hrr
        subst hrr
        refine x_perm (ws' := nC y aN N2 ++ tC y aT T) (pm2_1 _ _).symm ?_
        refine x_aload_n (q := 26) C 1 dX0_blow_25 rfl rfl rfl ?_
        refine x_get (q := 29) C 10 dX0_blow_26 ((oX1 y aT T).R) rfl iuX0_blow_X1 flX0_blow_157 rfl (by decide) rfl rfl ?_
        refine x_iload_n (q := 30) C 3 dX0_blow_29 rfl rfl rfl ?_
        refine x_iald (q := 31) C 0 dX0_blow_30 ((aX1_10 y aT T).R) rfl hb3 rfl ?_
        refine x_iconst (q := 32) C dX0_blow_31 ki_4 rfl ?_
        refine x_iadd (q := 33) C dX0_blow_32 rfl ?_
        refine x_icmp_le (t := 52) (q := 36) C dX0_blow_33 (by decide) rfl (fun hc => ?_) (fun hc => ?_)
        · have hf := (if_pos hc).symm.trans hf
          exact hJ52 N2 hf
        · have hf := (if_neg hc).symm.trans hf
          refine x_aload_n (q := 37) C 0 dX0_blow_36 rfl rfl rfl ?_
          refine x_aload_n (q := 38) C 1 dX0_blow_37 rfl rfl rfl ?_
          refine x_iload_n (q := 39) C 3 dX0_blow_38 rfl rfl rfl ?_
          obtain ⟨N8, hcal9, hf⟩ := bd_some hf
          refine x_callVv (q := 42) C (c0_putOut (l := l) (D := D) (y := y) (aN := aN) (aT := aT) hcal9) yi_X0_putOut gX0_blow_X0_putOut rfl ((oX0 y aN N2).L) rfl ⟨(Nat.le_of_ble_eq_true rfl), (Nat.le_of_ble_eq_true rfl)⟩ dX0_blow_39 pm_nil rfl rfl (Nat.le_of_ble_eq_true rfl) ⟨Nat.le_of_ble_eq_true rfl, Nat.le_of_ble_eq_true rfl⟩ rfl ?_
          intro uu hrr
          refine x_world (ws' := nC y aN N8 ++ tC y aT T) (List.append_nil _) ?_
          refine x_aload_n (q := 43) C 0 dX0_blow_42 rfl rfl rfl ?_
          refine x_get (q := 46) C 8 dX0_blow_43 ((oX0 y aN N8).L) rfl iuX0_blow_X0 flX0_blow_28 rfl (by decide) rfl rfl ?_
          refine x_iload_n (q := 47) C 3 dX0_blow_46 rfl rfl rfl ?_
          refine x_dup2 (q := 48) C dX0_blow_47 rfl rfl rfl ?_
          refine x_iald (q := 49) C 0 dX0_blow_48 ((aX0_8 y aN N8).L) rfl hb3 rfl ?_
          refine x_iconst (q := 50) C dX0_blow_49 ki_1 rfl ?_
          refine x_iadd (q := 51) C dX0_blow_50 rfl ?_
          obtain ⟨N10, eN10, hf⟩ := lt_elim hf
          refine x_iast (q := 52) (ws' := nC y aN N10 ++ tC y aT T) C 0 dX0_blow_51 ((aX0_8 y aN N8).L) rfl hb3 (congrArg (fun z => nC y aN z ++ tC y aT T) eN10.symm) rfl ?_
          exact hJ52 N10 hf
set_option maxHeartbeats 4000000 in
set_option maxRecDepth 100000 in
theorem c0_blow {l : Launch} {D : va_G} {y : Nat → ClassId} {aN aT : Nat → Nat} {N : St} {T : St} {p2 : Int32} {N' : St} (hf : f0_blow N T p2 = some N') : xMv l yX0_blow wsX0_blow 2 71 0 0 D (xT y) [.ref (aN 0), .ref (aT 0), .int p2] (nC y aN N ++ tC y aT T) (fun (_ : Unit) => True) (fun _ : Unit => nC y aN N' ++ tC y aT T) := by
  refine xMv_of (cc := cX0_blow) (nL := 4) (ret := none) [(0, .ref (aN 0)), (1, .ref (aT 0)), (2, .int p2)] (by decide) rfl (Nat.le_of_ble_eq_true rfl) rfl ?_
  intro p e s m args below meth c A C hin
  have C : xC p s m args meth c D A cX0_blow RX0 4 wsX0_blow (xT y) none := C
  unfold f0_blow at hf
  refine x_iconst (q := 1) C dX0_blow_0 ki_0 rfl ?_
  refine x_istore_n (q := 2) C [1, 2, 3, 0] [(0, .ref (aN 0)), (1, .ref (aT 0)), (2, .int p2), (3, .int 0)] dX0_blow_1 rfl (by decide) rfl rfl ?_
  exact w0_blow_L2 C xF 0 N hf

/-! LampHills$Night.goBy(LLampHills$Town;I)I -/
theorem kb_60 : (Int8.ofInt 60).toInt32 = 60 := by decide
theorem ks_600 : (Int16.ofInt 600).toInt32 = 600 := by decide
theorem flX0_goBy_52 : Cond.fieldLink RX0 52 "LampHills$Night" "minute" "I" ∈ wsX0_goBy := by decide +kernel
theorem flX0_goBy_76 : Cond.fieldLink RX0 76 "LampHills$Town" "wind" "[I" ∈ wsX0_goBy := by decide +kernel
theorem iuX0_goBy_X0 : ∀ w ∈ u_ws RX0 TX0 16, w ∈ wsX0_goBy := fun _ h => List.mem_cons_of_mem _ (List.mem_append_left _ (List.mem_append_right _ h))
theorem iuX0_goBy_X1 : ∀ w ∈ u_ws RX1 TX1 17, w ∈ wsX0_goBy := fun _ h => List.mem_cons_of_mem _ (List.mem_append_right _ h)
theorem yi_X0_blow : xY yX0_blow wsX0_blow cX0_blow 4 none 2 := ⟨⟨_, rfl⟩, by decide +kernel, by decide +kernel, by decide +kernel⟩
theorem yi_X0_burnLamps : xY yX0_burnLamps wsX0_burnLamps cX0_burnLamps 3 none 1 := ⟨⟨_, rfl⟩, by decide +kernel, by decide +kernel, by decide +kernel⟩
theorem yi_X0_moveLighters : xY yX0_moveLighters wsX0_moveLighters cX0_moveLighters 4 (some .int) 1 := ⟨⟨_, rfl⟩, by decide +kernel, by decide +kernel, by decide +kernel⟩
def f0_goBy_L5 (p2 : Int32) (T : St) : Nat → Int32 → Int32 → St → Option (Int32 × St)
  | 0, _, _, _ => none
  | fu + 1, v1, v2, N3 =>
  if p2 ≤ v2 then
  (
    some (v1, N3)
  )
  else
  (
    if 600 ≤ (N3 0 0) then
    (
      some (v1, N3)
    )
    else
    (
      bd2 (f0_moveLighters N3 T) fun v4 N5 =>
      lt_ (v1 + v4) fun v8 =>
      bd (f0_burnLamps N5 T) fun N9 =>
      lt_ (fun (N11 : St) =>
      (
        lt_ (up2 N11 0 0 ((N11 0 0) + 1)) fun N12 =>
        f0_goBy_L5 p2 T fu v8 (v2 + 1) N12
      )
      ) fun J61 =>
      if ((N9 0 0) - (N9 0 0) / 10 * 10) = 0 then
      (
        gd (xin ((N9 0 0) / 60) 10) <|
        bd (f0_blow N9 T (T 11 ((N9 0 0) / 60).toNatClampNeg)) fun N14 =>
        J61 N14
      )
      else
      (
        J61 N9
      )
    )
  )
def f0_goBy (N : St) (T : St) (p2 : Int32) : Option (Int32 × St) :=
  f0_goBy_L5 p2 T xF 0 0 N
set_option maxHeartbeats 4000000 in
set_option maxRecDepth 100000 in
theorem w0_goBy_L5 {p : Program} {l : Launch} {e : Env} {s : State} {m : MethodId} {args : Array Value} {below : List Frame} {meth : Method} {c : Code} {D : va_G} {A : Nat → Prop} {y : Nat → ClassId} {aN aT : Nat → Nat} {T : St} {p2 : Int32} {r : Int32} {N' : St} (C : xC p s m args meth c D A cX0_goBy RX0 5 wsX0_goBy (xT y) (some .int)) : ∀ (fu : Nat) (v1 : Int32) (v2 : Int32) (N3 : St), f0_goBy_L5 p2 T fu v1 v2 N3 = some (r, N') → xV p l e { frames := 5, cells := 0, slots := 0, locals := 121 } s m args below meth c D A (xQi D (xT y) A (fun (r' : Int32) (_ : Unit) => r' = r) (fun _ : Unit => nC y aN N' ++ tC y aT T) 0 0 below args s) 5 (nC y aN N3 ++ tC y aT T) 0 0 [(0, .ref (aN 0)), (1, .ref (aT 0)), (2, .int p2), (3, .int v1), (4, .int v2)] 5 [] := by
  intro fu
  induction fu with
  | zero => intro v1 v2 N3 hf; rw [f0_goBy_L5] at hf; cases hf
  | succ fu ih =>
    intro v1 v2 N3 hf
    rw [f0_goBy_L5] at hf
    refine x_iload (q := 7) C 4 dX0_goBy_5 rfl rfl ?_
    refine x_iload_n (q := 8) C 2 dX0_goBy_7 rfl rfl rfl ?_
    refine x_icmp_ge (t := 77) (q := 11) C dX0_goBy_8 (by decide) rfl (fun hc => ?_) (fun hc => ?_)
    · have hf := (if_pos hc).symm.trans hf
      refine x_iload_n (q := 78) C 3 dX0_goBy_77 rfl rfl rfl ?_
      have hf := Option.some.inj hf
      obtain ⟨hr0, hr1⟩ := Prod.mk.inj hf
      exact x_iret () C dX0_goBy_78 rfl hr0 (congrArg (fun z => nC y aN z ++ tC y aT T) hr1) (Nat.le_of_ble_eq_true rfl) (Nat.le_of_ble_eq_true rfl)
    · have hf := (if_neg hc).symm.trans hf
      refine x_aload_n (q := 12) C 0 dX0_goBy_11 rfl rfl rfl ?_
      refine x_get (q := 15) C 0 dX0_goBy_12 ((oX0 y aN N3).L) rfl iuX0_goBy_X0 flX0_goBy_52 rfl (by decide) rfl rfl ?_
      refine x_sipush (q := 18) C dX0_goBy_15 ks_600 rfl ?_
      refine x_icmp_ge (t := 77) (q := 21) C dX0_goBy_18 (by decide) rfl (fun hc => ?_) (fun hc => ?_)
      · have hf := (if_pos hc).symm.trans hf
        refine x_iload_n (q := 78) C 3 dX0_goBy_77 rfl rfl rfl ?_
        have hf := Option.some.inj hf
        obtain ⟨hr0, hr1⟩ := Prod.mk.inj hf
        exact x_iret () C dX0_goBy_78 rfl hr0 (congrArg (fun z => nC y aN z ++ tC y aT T) hr1) (Nat.le_of_ble_eq_true rfl) (Nat.le_of_ble_eq_true rfl)
      · have hf := (if_neg hc).symm.trans hf
        refine x_iload_n (q := 22) C 3 dX0_goBy_21 rfl rfl rfl ?_
        refine x_aload_n (q := 23) C 0 dX0_goBy_22 rfl rfl rfl ?_
        refine x_aload_n (q := 24) C 1 dX0_goBy_23 rfl rfl rfl ?_
        obtain ⟨v4, N5, hcal6, hf⟩ := bd2_some hf
        refine x_callVi (q := 27) C (c0_moveLighters (l := l) (D := D) (y := y) (aN := aN) (aT := aT) hcal6) yi_X0_moveLighters gX0_goBy_X0_moveLighters rfl ((oX0 y aN N3).L) rfl ⟨(Nat.le_of_ble_eq_true rfl), (Nat.le_of_ble_eq_true rfl)⟩ dX0_goBy_24 pm_nil rfl rfl (Nat.le_of_ble_eq_true rfl) ⟨Nat.le_of_ble_eq_true rfl, Nat.le_of_ble_eq_true rfl⟩ rfl ?_
        intro rr7 uu hrr
        have hrr : v4 = rr7 := Eq.symm hrr
        subst hrr
        refine x_world (ws' := nC y aN N5 ++ tC y aT T) (List.append_nil _) ?_
        refine x_iadd (q := 28) C dX0_goBy_27 rfl ?_
        obtain ⟨v8, ev8, hf⟩ := lt_elim hf
        refine x_topi ev8 ?_
        refine x_istore_n (q := 29) C [1, 2, 3, 0, 4] [(0, .ref (aN 0)), (1, .ref (aT 0)), (2, .int p2), (3, .int v8), (4, .int v2)] dX0_goBy_28 rfl (by decide) rfl rfl ?_
        refine x_aload_n (q := 30) C 0 dX0_goBy_29 rfl rfl rfl ?_
        refine x_aload_n (q := 31) C 1 dX0_goBy_30 rfl rfl rfl ?_
        obtain ⟨N9, hcal10, hf⟩ := bd_some hf
        refine x_callVv (q := 34) C (c0_burnLamps (l := l) (D := D) (y := y) (aN := aN) (aT := aT) hcal10) yi_X0_burnLamps gX0_goBy_X0_burnLamps rfl ((oX0 y aN N5).L) rfl ⟨(Nat.le_of_ble_eq_true rfl), (Nat.le_of_ble_eq_true rfl)⟩ dX0_goBy_31 pm_nil rfl rfl (Nat.le_of_ble_eq_true rfl) ⟨Nat.le_of_ble_eq_true rfl, Nat.le_of_ble_eq_true rfl⟩ rfl ?_
        intro uu hrr
        refine x_world (ws' := nC y aN N9 ++ tC y aT T) (List.append_nil _) ?_
        refine x_aload_n (q := 35) C 0 dX0_goBy_34 rfl rfl rfl ?_
        refine x_get (q := 38) C 0 dX0_goBy_35 ((oX0 y aN N9).L) rfl iuX0_goBy_X0 flX0_goBy_52 rfl (by decide) rfl rfl ?_
        refine x_bipush (q := 40) C dX0_goBy_38 kb_10 rfl ?_
        refine x_irem (q := 41) C dX0_goBy_40 (by decide) rfl ?_
        obtain ⟨J61, eJ61, hf⟩ := lt_elim hf
        have hJ61 : ∀ (N11 : St), J61 N11 = some (r, N') → xV p l e { frames := 5, cells := 0, slots := 0, locals := 121 } s m args below meth c D A (xQi D (xT y) A (fun (r' : Int32) (_ : Unit) => r' = r) (fun _ : Unit => nC y aN N' ++ tC y aT T) 0 0 below args s) 5 (nC y aN N11 ++ tC y aT T) 0 0 [(0, .ref (aN 0)), (1, .ref (aT 0)), (2, .int p2), (3, .int v8), (4, .int v2)] 61 [] := by
          intro N11 hf
          subst eJ61
          refine x_aload_n (q := 62) C 0 dX0_goBy_61 rfl rfl rfl ?_
          refine x_dup (q := 63) C dX0_goBy_62 rfl rfl ?_
          refine x_get (q := 66) C 0 dX0_goBy_63 ((oX0 y aN N11).L) rfl iuX0_goBy_X0 flX0_goBy_52 rfl (by decide) rfl rfl ?_
          refine x_iconst (q := 67) C dX0_goBy_66 ki_1 rfl ?_
          refine x_iadd (q := 68) C dX0_goBy_67 rfl ?_
          obtain ⟨N12, eN12, hf⟩ := lt_elim hf
          refine x_puti (q := 71) (ws' := nC y aN N12 ++ tC y aT T) C tyX0 tyX0_ok nmX0 dX0_goBy_68 ((iX0_0 y aN N11).L) rfl iuX0_goBy_X0 flX0_goBy_52 rfl (by decide) rfl rfl (congrArg (fun z => nC y aN z ++ tC y aT T) eN12.symm) rfl ?_
          refine x_iinc (q := 74) C 4 (v2 + 1) [1, 2, 3, 4, 0] [(0, .ref (aN 0)), (1, .ref (aT 0)), (2, .int p2), (3, .int v8), (4, .int (v2 + 1))] dX0_goBy_71 rfl (congrArg (fun z => v2 + z) ki_1) (by decide) rfl rfl ?_
          refine x_goto (t := 5) C dX0_goBy_74 (by decide) ?_
          exact ih v8 (v2 + 1) N12 hf
        refine x_if_ne (t := 61) (q := 44) C dX0_goBy_41 (by decide) rfl (fun hc => ?_) (fun hc => ?_)
        · have hf := (if_neg hc).symm.trans hf
          exact hJ61 N9 hf
        · have hf := (if_pos hc).symm.trans hf
          refine x_aload_n (q := 45) C 0 dX0_goBy_44 rfl rfl rfl ?_
          refine x_aload_n (q := 46) C 1 dX0_goBy_45 rfl rfl rfl ?_
          refine x_aload_n (q := 47) C 1 dX0_goBy_46 rfl rfl rfl ?_
          refine x_get (q := 50) C 11 dX0_goBy_47 ((oX1 y aT T).R) rfl iuX0_goBy_X1 flX0_goBy_76 rfl (by decide) rfl rfl ?_
          refine x_aload_n (q := 51) C 0 dX0_goBy_50 rfl rfl rfl ?_
          refine x_get (q := 54) C 0 dX0_goBy_51 ((oX0 y aN N9).L) rfl iuX0_goBy_X0 flX0_goBy_52 rfl (by decide) rfl rfl ?_
          refine x_bipush (q := 56) C dX0_goBy_54 kb_60 rfl ?_
          refine x_idiv (q := 57) C dX0_goBy_56 (by decide) rfl ?_
          obtain ⟨hb13, hf⟩ := gd_some hf
          refine x_iald (q := 58) C 0 dX0_goBy_57 ((aX1_11 y aT T).R) rfl hb13 rfl ?_
          obtain ⟨N14, hcal15, hf⟩ := bd_some hf
          refine x_callVv (q := 61) C (c0_blow (l := l) (D := D) (y := y) (aN := aN) (aT := aT) hcal15) yi_X0_blow gX0_goBy_X0_blow rfl ((oX0 y aN N9).L) rfl ⟨(Nat.le_of_ble_eq_true rfl), (Nat.le_of_ble_eq_true rfl)⟩ dX0_goBy_58 pm_nil rfl rfl (Nat.le_of_ble_eq_true rfl) ⟨Nat.le_of_ble_eq_true rfl, Nat.le_of_ble_eq_true rfl⟩ rfl ?_
          intro uu hrr
          refine x_world (ws' := nC y aN N14 ++ tC y aT T) (List.append_nil _) ?_
          exact hJ61 N14 hf
set_option maxHeartbeats 4000000 in
set_option maxRecDepth 100000 in
theorem c0_goBy {l : Launch} {D : va_G} {y : Nat → ClassId} {aN aT : Nat → Nat} {N : St} {T : St} {p2 : Int32} {r : Int32} {N' : St} (hf : f0_goBy N T p2 = some (r, N')) : xMi l yX0_goBy wsX0_goBy 5 121 0 0 D (xT y) [.ref (aN 0), .ref (aT 0), .int p2] (nC y aN N ++ tC y aT T) (fun (r' : Int32) (_ : Unit) => r' = r) (fun _ : Unit => nC y aN N' ++ tC y aT T) := by
  refine xMi_of (cc := cX0_goBy) (nL := 5) (ret := (some .int)) [(0, .ref (aN 0)), (1, .ref (aT 0)), (2, .int p2)] (by decide) rfl (Nat.le_of_ble_eq_true rfl) rfl ?_
  intro p e s m args below meth c A C hin
  have C : xC p s m args meth c D A cX0_goBy RX0 5 wsX0_goBy (xT y) (some .int) := C
  unfold f0_goBy at hf
  refine x_iconst (q := 1) C dX0_goBy_0 ki_0 rfl ?_
  refine x_istore_n (q := 2) C [1, 2, 3, 0] [(0, .ref (aN 0)), (1, .ref (aT 0)), (2, .int p2), (3, .int 0)] dX0_goBy_1 rfl (by decide) rfl rfl ?_
  refine x_iconst (q := 3) C dX0_goBy_2 ki_0 rfl ?_
  refine x_istore (q := 5) C [1, 2, 3, 4, 0] [(0, .ref (aN 0)), (1, .ref (aT 0)), (2, .int p2), (3, .int 0), (4, .int 0)] dX0_goBy_3 (by decide) rfl rfl ?_
  exact w0_goBy_L5 C xF 0 0 N hf

/-! LampHills$Night.copy(LLampHills$Night;)V -/
theorem kb_18 : (Int8.ofInt 18).toInt32 = 18 := by decide
theorem kb_20 : (Int8.ofInt 20).toInt32 = 20 := by decide
theorem kcX0_copy_62 : ∀ w ∈ ([.methodLink RX0 62 arraycopyName, .native arraycopyName, .static arraycopyName, .initialized "java/lang/System"] : List Cond), w ∈ wsX0_copy := by decide +kernel
theorem flX0_copy_15 : Cond.fieldLink RX0 15 "LampHills$Night" "oil" "[I" ∈ wsX0_copy := by decide +kernel
theorem flX0_copy_18 : Cond.fieldLink RX0 18 "LampHills$Night" "soot" "[I" ∈ wsX0_copy := by decide +kernel
theorem flX0_copy_21 : Cond.fieldLink RX0 21 "LampHills$Night" "burns" "[Z" ∈ wsX0_copy := by decide +kernel
theorem flX0_copy_25 : Cond.fieldLink RX0 25 "LampHills$Night" "timesLit" "[I" ∈ wsX0_copy := by decide +kernel
theorem flX0_copy_28 : Cond.fieldLink RX0 28 "LampHills$Night" "timesBlownOut" "[I" ∈ wsX0_copy := by decide +kernel
theorem flX0_copy_31 : Cond.fieldLink RX0 31 "LampHills$Night" "at" "[I" ∈ wsX0_copy := by decide +kernel
theorem flX0_copy_34 : Cond.fieldLink RX0 34 "LampHills$Night" "can" "[I" ∈ wsX0_copy := by decide +kernel
theorem flX0_copy_37 : Cond.fieldLink RX0 37 "LampHills$Night" "goesTo" "[I" ∈ wsX0_copy := by decide +kernel
theorem flX0_copy_40 : Cond.fieldLink RX0 40 "LampHills$Night" "goal" "[I" ∈ wsX0_copy := by decide +kernel
theorem flX0_copy_43 : Cond.fieldLink RX0 43 "LampHills$Night" "minutesLeft" "[I" ∈ wsX0_copy := by decide +kernel
theorem flX0_copy_46 : Cond.fieldLink RX0 46 "LampHills$Night" "latestPlace" "[I" ∈ wsX0_copy := by decide +kernel
theorem flX0_copy_49 : Cond.fieldLink RX0 49 "LampHills$Night" "litBy" "[I" ∈ wsX0_copy := by decide +kernel
theorem flX0_copy_52 : Cond.fieldLink RX0 52 "LampHills$Night" "minute" "I" ∈ wsX0_copy := by decide +kernel
theorem flX0_copy_56 : Cond.fieldLink RX0 56 "LampHills$Night" "number" "I" ∈ wsX0_copy := by decide +kernel
theorem flX0_copy_59 : Cond.fieldLink RX0 59 "LampHills$Night" "oilUsed" "I" ∈ wsX0_copy := by decide +kernel
theorem flX0_copy_9 : Cond.fieldLink RX0 9 "LampHills$Night" "burningIn" "[I" ∈ wsX0_copy := by decide +kernel
theorem iuX0_copy_X0 : ∀ w ∈ u_ws RX0 TX0 16, w ∈ wsX0_copy := fun _ h => List.mem_cons_of_mem _ (List.mem_append_right _ h)
def f0_copy_L41 (F : St) (K : St → Option (St)) : Nat → Int32 → St → Option (St)
  | 0, _, _ => none
  | fu + 1, v6, N7 =>
  if 20 ≤ v6 then
  (
    K N7
  )
  else
  (
    gd (xin v6 20) <|
    lt_ (up2 N7 4 v6.toNatClampNeg (F 4 v6.toNatClampNeg)) fun N10 =>
    lt_ (up2 N10 5 v6.toNatClampNeg (F 5 v6.toNatClampNeg)) fun N11 =>
    lt_ (up2 N11 6 v6.toNatClampNeg (vp_nar .boolean (F 6 v6.toNatClampNeg))) fun N12 =>
    lt_ (up2 N12 7 v6.toNatClampNeg (F 7 v6.toNatClampNeg)) fun N13 =>
    lt_ (up2 N13 8 v6.toNatClampNeg (F 8 v6.toNatClampNeg)) fun N14 =>
    f0_copy_L41 F K fu (v6 + 1) N14
  )
def f0_copy_L115 (F : St) : Nat → Int32 → St → Option (St)
  | 0, _, _ => none
  | fu + 1, v15, N16 =>
  if 4 ≤ v15 then
  (
    some N16
  )
  else
  (
    gd (xin v15 4) <|
    lt_ (up2 N16 9 v15.toNatClampNeg (F 9 v15.toNatClampNeg)) fun N18 =>
    lt_ (up2 N18 10 v15.toNatClampNeg (F 10 v15.toNatClampNeg)) fun N19 =>
    lt_ (up2 N19 11 v15.toNatClampNeg (F 11 v15.toNatClampNeg)) fun N20 =>
    lt_ (up2 N20 12 v15.toNatClampNeg (F 12 v15.toNatClampNeg)) fun N21 =>
    lt_ (up2 N21 13 v15.toNatClampNeg (F 13 v15.toNatClampNeg)) fun N22 =>
    lt_ (up2 N22 14 v15.toNatClampNeg (F 14 v15.toNatClampNeg)) fun N23 =>
    lt_ (up2 N23 15 v15.toNatClampNeg (F 15 v15.toNatClampNeg)) fun N24 =>
    f0_copy_L115 F fu (v15 + 1) N24
  )
def f0_copy (N : St) (F : St) : Option (St) :=
  lt_ (up2 N 0 0 (F 0 0)) fun N1 =>
  lt_ (up2 N1 1 0 (F 1 0)) fun N2 =>
  lt_ (up2 N2 2 0 (F 2 0)) fun N3 =>
  gd (xcp 0 0 18 18 18) <|
  lt_ (up1 N3 3 (va_cpy (F 3) (N3 3) (0 : Int32).toNatClampNeg (0 : Int32).toNatClampNeg (18 : Int32).toNatClampNeg)) fun N5 =>
  f0_copy_L41 F (fun (N8 : St) =>
  (
    f0_copy_L115 F xF 0 N8
  )
  ) xF 0 N5
set_option maxHeartbeats 4000000 in
set_option maxRecDepth 100000 in
theorem w0_copy_L41 {p : Program} {l : Launch} {e : Env} {s : State} {m : MethodId} {args : Array Value} {below : List Frame} {meth : Method} {c : Code} {D : va_G} {A : Nat → Prop} {y : Nat → ClassId} {aN aF : Nat → Nat} {F : St} {N' : St} {K : St → Option (St)} (C : xC p s m args meth c D A cX0_copy RX0 3 wsX0_copy (xT y) none) (hK : ∀ (N8 : St), K N8 = some N' → xV p l e { frames := 1, cells := 0, slots := 0, locals := 48 } s m args below meth c D A (xQv D (xT y) A (fun (_ : Unit) => True) (fun _ : Unit => nC y aN N' ++ nC y aF F) 0 0 below args s) 3 (nC y aN N8 ++ nC y aF F) 0 0 [(0, .ref (aN 0)), (1, .ref (aF 0))] 113 []) : ∀ (fu : Nat) (v6 : Int32) (N7 : St), f0_copy_L41 F K fu v6 N7 = some N' → xV p l e { frames := 1, cells := 0, slots := 0, locals := 48 } s m args below meth c D A (xQv D (xT y) A (fun (_ : Unit) => True) (fun _ : Unit => nC y aN N' ++ nC y aF F) 0 0 below args s) 3 (nC y aN N7 ++ nC y aF F) 0 0 [(0, .ref (aN 0)), (1, .ref (aF 0)), (2, .int v6)] 41 [] := by
  intro fu
  induction fu with
  | zero => intro v6 N7 hf; rw [f0_copy_L41] at hf; cases hf
  | succ fu ih =>
    intro v6 N7 hf
    rw [f0_copy_L41] at hf
    refine x_iload_n (q := 42) C 2 dX0_copy_41 rfl rfl rfl ?_
    refine x_bipush (q := 44) C dX0_copy_42 kb_20 rfl ?_
    refine x_icmp_ge (t := 113) (q := 47) C dX0_copy_44 (by decide) rfl (fun hc => ?_) (fun hc => ?_)
    · have hf := (if_pos hc).symm.trans hf
      refine x_sub [0, 1] (L' := [(0, .ref (aN 0)), (1, .ref (aF 0))]) rfl ?_
      exact hK N7 hf
    · have hf := (if_neg hc).symm.trans hf
      refine x_aload_n (q := 48) C 0 dX0_copy_47 rfl rfl rfl ?_
      refine x_get (q := 51) C 4 dX0_copy_48 ((oX0 y aN N7).L) rfl iuX0_copy_X0 flX0_copy_15 rfl (by decide) rfl rfl ?_
      refine x_iload_n (q := 52) C 2 dX0_copy_51 rfl rfl rfl ?_
      refine x_aload_n (q := 53) C 1 dX0_copy_52 rfl rfl rfl ?_
      refine x_get (q := 56) C 4 dX0_copy_53 ((oX0 y aF F).R) rfl iuX0_copy_X0 flX0_copy_15 rfl (by decide) rfl rfl ?_
      refine x_iload_n (q := 57) C 2 dX0_copy_56 rfl rfl rfl ?_
      obtain ⟨hb9, hf⟩ := gd_some hf
      refine x_iald (q := 58) C 0 dX0_copy_57 ((aX0_4 y aF F).R) rfl hb9 rfl ?_
      obtain ⟨N10, eN10, hf⟩ := lt_elim hf
      refine x_iast (q := 59) (ws' := nC y aN N10 ++ nC y aF F) C 0 dX0_copy_58 ((aX0_4 y aN N7).L) rfl hb9 (congrArg (fun z => nC y aN z ++ nC y aF F) eN10.symm) rfl ?_
      refine x_aload_n (q := 60) C 0 dX0_copy_59 rfl rfl rfl ?_
      refine x_get (q := 63) C 5 dX0_copy_60 ((oX0 y aN N10).L) rfl iuX0_copy_X0 flX0_copy_18 rfl (by decide) rfl rfl ?_
      refine x_iload_n (q := 64) C 2 dX0_copy_63 rfl rfl rfl ?_
      refine x_aload_n (q := 65) C 1 dX0_copy_64 rfl rfl rfl ?_
      refine x_get (q := 68) C 5 dX0_copy_65 ((oX0 y aF F).R) rfl iuX0_copy_X0 flX0_copy_18 rfl (by decide) rfl rfl ?_
      refine x_iload_n (q := 69) C 2 dX0_copy_68 rfl rfl rfl ?_
      refine x_iald (q := 70) C 0 dX0_copy_69 ((aX0_5 y aF F).R) rfl hb9 rfl ?_
      obtain ⟨N11, eN11, hf⟩ := lt_elim hf
      refine x_iast (q := 71) (ws' := nC y aN N11 ++ nC y aF F) C 0 dX0_copy_70 ((aX0_5 y aN N10).L) rfl hb9 (congrArg (fun z => nC y aN z ++ nC y aF F) eN11.symm) rfl ?_
      refine x_aload_n (q := 72) C 0 dX0_copy_71 rfl rfl rfl ?_
      refine x_get (q := 75) C 6 dX0_copy_72 ((oX0 y aN N11).L) rfl iuX0_copy_X0 flX0_copy_21 rfl (by decide) rfl rfl ?_
      refine x_iload_n (q := 76) C 2 dX0_copy_75 rfl rfl rfl ?_
      refine x_aload_n (q := 77) C 1 dX0_copy_76 rfl rfl rfl ?_
      refine x_get (q := 80) C 6 dX0_copy_77 ((oX0 y aF F).R) rfl iuX0_copy_X0 flX0_copy_21 rfl (by decide) rfl rfl ?_
      refine x_iload_n (q := 81) C 2 dX0_copy_80 rfl rfl rfl ?_
      refine x_zald (q := 82) C 1 dX0_copy_81 ((aX0_6 y aF F).R) rfl hb9 rfl ?_
      obtain ⟨N12, eN12, hf⟩ := lt_elim hf
      refine x_zast (q := 83) (ws' := nC y aN N12 ++ nC y aF F) C 1 dX0_copy_82 ((aX0_6 y aN N11).L) rfl hb9 (congrArg (fun z => nC y aN z ++ nC y aF F) eN12.symm) rfl ?_
      refine x_aload_n (q := 84) C 0 dX0_copy_83 rfl rfl rfl ?_
      refine x_get (q := 87) C 7 dX0_copy_84 ((oX0 y aN N12).L) rfl iuX0_copy_X0 flX0_copy_25 rfl (by decide) rfl rfl ?_
      refine x_iload_n (q := 88) C 2 dX0_copy_87 rfl rfl rfl ?_
      refine x_aload_n (q := 89) C 1 dX0_copy_88 rfl rfl rfl ?_
      refine x_get (q := 92) C 7 dX0_copy_89 ((oX0 y aF F).R) rfl iuX0_copy_X0 flX0_copy_25 rfl (by decide) rfl rfl ?_
      refine x_iload_n (q := 93) C 2 dX0_copy_92 rfl rfl rfl ?_
      refine x_iald (q := 94) C 0 dX0_copy_93 ((aX0_7 y aF F).R) rfl hb9 rfl ?_
      obtain ⟨N13, eN13, hf⟩ := lt_elim hf
      refine x_iast (q := 95) (ws' := nC y aN N13 ++ nC y aF F) C 0 dX0_copy_94 ((aX0_7 y aN N12).L) rfl hb9 (congrArg (fun z => nC y aN z ++ nC y aF F) eN13.symm) rfl ?_
      refine x_aload_n (q := 96) C 0 dX0_copy_95 rfl rfl rfl ?_
      refine x_get (q := 99) C 8 dX0_copy_96 ((oX0 y aN N13).L) rfl iuX0_copy_X0 flX0_copy_28 rfl (by decide) rfl rfl ?_
      refine x_iload_n (q := 100) C 2 dX0_copy_99 rfl rfl rfl ?_
      refine x_aload_n (q := 101) C 1 dX0_copy_100 rfl rfl rfl ?_
      refine x_get (q := 104) C 8 dX0_copy_101 ((oX0 y aF F).R) rfl iuX0_copy_X0 flX0_copy_28 rfl (by decide) rfl rfl ?_
      refine x_iload_n (q := 105) C 2 dX0_copy_104 rfl rfl rfl ?_
      refine x_iald (q := 106) C 0 dX0_copy_105 ((aX0_8 y aF F).R) rfl hb9 rfl ?_
      obtain ⟨N14, eN14, hf⟩ := lt_elim hf
      refine x_iast (q := 107) (ws' := nC y aN N14 ++ nC y aF F) C 0 dX0_copy_106 ((aX0_8 y aN N13).L) rfl hb9 (congrArg (fun z => nC y aN z ++ nC y aF F) eN14.symm) rfl ?_
      refine x_iinc (q := 110) C 2 (v6 + 1) [1, 2, 0] [(0, .ref (aN 0)), (1, .ref (aF 0)), (2, .int (v6 + 1))] dX0_copy_107 rfl (congrArg (fun z => v6 + z) ki_1) (by decide) rfl rfl ?_
      refine x_goto (t := 41) C dX0_copy_110 (by decide) ?_
      exact ih (v6 + 1) N14 hf
set_option maxHeartbeats 4000000 in
set_option maxRecDepth 100000 in
theorem w0_copy_L115 {p : Program} {l : Launch} {e : Env} {s : State} {m : MethodId} {args : Array Value} {below : List Frame} {meth : Method} {c : Code} {D : va_G} {A : Nat → Prop} {y : Nat → ClassId} {aN aF : Nat → Nat} {F : St} {N' : St} (C : xC p s m args meth c D A cX0_copy RX0 3 wsX0_copy (xT y) none) : ∀ (fu : Nat) (v15 : Int32) (N16 : St), f0_copy_L115 F fu v15 N16 = some N' → xV p l e { frames := 1, cells := 0, slots := 0, locals := 48 } s m args below meth c D A (xQv D (xT y) A (fun (_ : Unit) => True) (fun _ : Unit => nC y aN N' ++ nC y aF F) 0 0 below args s) 3 (nC y aN N16 ++ nC y aF F) 0 0 [(0, .ref (aN 0)), (1, .ref (aF 0)), (2, .int v15)] 115 [] := by
  intro fu
  induction fu with
  | zero => intro v15 N16 hf; rw [f0_copy_L115] at hf; cases hf
  | succ fu ih =>
    intro v15 N16 hf
    rw [f0_copy_L115] at hf
    refine x_iload_n (q := 116) C 2 dX0_copy_115 rfl rfl rfl ?_
    refine x_iconst (q := 117) C dX0_copy_116 ki_4 rfl ?_
    refine x_icmp_ge (t := 210) (q := 120) C dX0_copy_117 (by decide) rfl (fun hc => ?_) (fun hc => ?_)
    · have hf := (if_pos hc).symm.trans hf
      have hf := Option.some.inj hf
      exact x_vret () C dX0_copy_210 rfl trivial (congrArg (fun z => nC y aN z ++ nC y aF F) hf) (Nat.le_of_ble_eq_true rfl) (Nat.le_of_ble_eq_true rfl)
    · have hf := (if_neg hc).symm.trans hf
      refine x_aload_n (q := 121) C 0 dX0_copy_120 rfl rfl rfl ?_
      refine x_get (q := 124) C 9 dX0_copy_121 ((oX0 y aN N16).L) rfl iuX0_copy_X0 flX0_copy_31 rfl (by decide) rfl rfl ?_
      refine x_iload_n (q := 125) C 2 dX0_copy_124 rfl rfl rfl ?_
      refine x_aload_n (q := 126) C 1 dX0_copy_125 rfl rfl rfl ?_
      refine x_get (q := 129) C 9 dX0_copy_126 ((oX0 y aF F).R) rfl iuX0_copy_X0 flX0_copy_31 rfl (by decide) rfl rfl ?_
      refine x_iload_n (q := 130) C 2 dX0_copy_129 rfl rfl rfl ?_
      obtain ⟨hb17, hf⟩ := gd_some hf
      refine x_iald (q := 131) C 0 dX0_copy_130 ((aX0_9 y aF F).R) rfl hb17 rfl ?_
      obtain ⟨N18, eN18, hf⟩ := lt_elim hf
      refine x_iast (q := 132) (ws' := nC y aN N18 ++ nC y aF F) C 0 dX0_copy_131 ((aX0_9 y aN N16).L) rfl hb17 (congrArg (fun z => nC y aN z ++ nC y aF F) eN18.symm) rfl ?_
      refine x_aload_n (q := 133) C 0 dX0_copy_132 rfl rfl rfl ?_
      refine x_get (q := 136) C 10 dX0_copy_133 ((oX0 y aN N18).L) rfl iuX0_copy_X0 flX0_copy_34 rfl (by decide) rfl rfl ?_
      refine x_iload_n (q := 137) C 2 dX0_copy_136 rfl rfl rfl ?_
      refine x_aload_n (q := 138) C 1 dX0_copy_137 rfl rfl rfl ?_
      refine x_get (q := 141) C 10 dX0_copy_138 ((oX0 y aF F).R) rfl iuX0_copy_X0 flX0_copy_34 rfl (by decide) rfl rfl ?_
      refine x_iload_n (q := 142) C 2 dX0_copy_141 rfl rfl rfl ?_
      refine x_iald (q := 143) C 0 dX0_copy_142 ((aX0_10 y aF F).R) rfl hb17 rfl ?_
      obtain ⟨N19, eN19, hf⟩ := lt_elim hf
      refine x_iast (q := 144) (ws' := nC y aN N19 ++ nC y aF F) C 0 dX0_copy_143 ((aX0_10 y aN N18).L) rfl hb17 (congrArg (fun z => nC y aN z ++ nC y aF F) eN19.symm) rfl ?_
      refine x_aload_n (q := 145) C 0 dX0_copy_144 rfl rfl rfl ?_
      refine x_get (q := 148) C 11 dX0_copy_145 ((oX0 y aN N19).L) rfl iuX0_copy_X0 flX0_copy_37 rfl (by decide) rfl rfl ?_
      refine x_iload_n (q := 149) C 2 dX0_copy_148 rfl rfl rfl ?_
      refine x_aload_n (q := 150) C 1 dX0_copy_149 rfl rfl rfl ?_
      refine x_get (q := 153) C 11 dX0_copy_150 ((oX0 y aF F).R) rfl iuX0_copy_X0 flX0_copy_37 rfl (by decide) rfl rfl ?_
      refine x_iload_n (q := 154) C 2 dX0_copy_153 rfl rfl rfl ?_
      refine x_iald (q := 155) C 0 dX0_copy_154 ((aX0_11 y aF F).R) rfl hb17 rfl ?_
      obtain ⟨N20, eN20, hf⟩ := lt_elim hf
      refine x_iast (q := 156) (ws' := nC y aN N20 ++ nC y aF F) C 0 dX0_copy_155 ((aX0_11 y aN N19).L) rfl hb17 (congrArg (fun z => nC y aN z ++ nC y aF F) eN20.symm) rfl ?_
      refine x_aload_n (q := 157) C 0 dX0_copy_156 rfl rfl rfl ?_
      refine x_get (q := 160) C 12 dX0_copy_157 ((oX0 y aN N20).L) rfl iuX0_copy_X0 flX0_copy_40 rfl (by decide) rfl rfl ?_
      refine x_iload_n (q := 161) C 2 dX0_copy_160 rfl rfl rfl ?_
      refine x_aload_n (q := 162) C 1 dX0_copy_161 rfl rfl rfl ?_
      refine x_get (q := 165) C 12 dX0_copy_162 ((oX0 y aF F).R) rfl iuX0_copy_X0 flX0_copy_40 rfl (by decide) rfl rfl ?_
      refine x_iload_n (q := 166) C 2 dX0_copy_165 rfl rfl rfl ?_
      refine x_iald (q := 167) C 0 dX0_copy_166 ((aX0_12 y aF F).R) rfl hb17 rfl ?_
      obtain ⟨N21, eN21, hf⟩ := lt_elim hf
      refine x_iast (q := 168) (ws' := nC y aN N21 ++ nC y aF F) C 0 dX0_copy_167 ((aX0_12 y aN N20).L) rfl hb17 (congrArg (fun z => nC y aN z ++ nC y aF F) eN21.symm) rfl ?_
      refine x_aload_n (q := 169) C 0 dX0_copy_168 rfl rfl rfl ?_
      refine x_get (q := 172) C 13 dX0_copy_169 ((oX0 y aN N21).L) rfl iuX0_copy_X0 flX0_copy_43 rfl (by decide) rfl rfl ?_
      refine x_iload_n (q := 173) C 2 dX0_copy_172 rfl rfl rfl ?_
      refine x_aload_n (q := 174) C 1 dX0_copy_173 rfl rfl rfl ?_
      refine x_get (q := 177) C 13 dX0_copy_174 ((oX0 y aF F).R) rfl iuX0_copy_X0 flX0_copy_43 rfl (by decide) rfl rfl ?_
      refine x_iload_n (q := 178) C 2 dX0_copy_177 rfl rfl rfl ?_
      refine x_iald (q := 179) C 0 dX0_copy_178 ((aX0_13 y aF F).R) rfl hb17 rfl ?_
      obtain ⟨N22, eN22, hf⟩ := lt_elim hf
      refine x_iast (q := 180) (ws' := nC y aN N22 ++ nC y aF F) C 0 dX0_copy_179 ((aX0_13 y aN N21).L) rfl hb17 (congrArg (fun z => nC y aN z ++ nC y aF F) eN22.symm) rfl ?_
      refine x_aload_n (q := 181) C 0 dX0_copy_180 rfl rfl rfl ?_
      refine x_get (q := 184) C 14 dX0_copy_181 ((oX0 y aN N22).L) rfl iuX0_copy_X0 flX0_copy_46 rfl (by decide) rfl rfl ?_
      refine x_iload_n (q := 185) C 2 dX0_copy_184 rfl rfl rfl ?_
      refine x_aload_n (q := 186) C 1 dX0_copy_185 rfl rfl rfl ?_
      refine x_get (q := 189) C 14 dX0_copy_186 ((oX0 y aF F).R) rfl iuX0_copy_X0 flX0_copy_46 rfl (by decide) rfl rfl ?_
      refine x_iload_n (q := 190) C 2 dX0_copy_189 rfl rfl rfl ?_
      refine x_iald (q := 191) C 0 dX0_copy_190 ((aX0_14 y aF F).R) rfl hb17 rfl ?_
      obtain ⟨N23, eN23, hf⟩ := lt_elim hf
      refine x_iast (q := 192) (ws' := nC y aN N23 ++ nC y aF F) C 0 dX0_copy_191 ((aX0_14 y aN N22).L) rfl hb17 (congrArg (fun z => nC y aN z ++ nC y aF F) eN23.symm) rfl ?_
      refine x_aload_n (q := 193) C 0 dX0_copy_192 rfl rfl rfl ?_
      refine x_get (q := 196) C 15 dX0_copy_193 ((oX0 y aN N23).L) rfl iuX0_copy_X0 flX0_copy_49 rfl (by decide) rfl rfl ?_
      refine x_iload_n (q := 197) C 2 dX0_copy_196 rfl rfl rfl ?_
      refine x_aload_n (q := 198) C 1 dX0_copy_197 rfl rfl rfl ?_
      refine x_get (q := 201) C 15 dX0_copy_198 ((oX0 y aF F).R) rfl iuX0_copy_X0 flX0_copy_49 rfl (by decide) rfl rfl ?_
      refine x_iload_n (q := 202) C 2 dX0_copy_201 rfl rfl rfl ?_
      refine x_iald (q := 203) C 0 dX0_copy_202 ((aX0_15 y aF F).R) rfl hb17 rfl ?_
      obtain ⟨N24, eN24, hf⟩ := lt_elim hf
      refine x_iast (q := 204) (ws' := nC y aN N24 ++ nC y aF F) C 0 dX0_copy_203 ((aX0_15 y aN N23).L) rfl hb17 (congrArg (fun z => nC y aN z ++ nC y aF F) eN24.symm) rfl ?_
      refine x_iinc (q := 207) C 2 (v15 + 1) [1, 2, 0] [(0, .ref (aN 0)), (1, .ref (aF 0)), (2, .int (v15 + 1))] dX0_copy_204 rfl (congrArg (fun z => v15 + z) ki_1) (by decide) rfl rfl ?_
      refine x_goto (t := 115) C dX0_copy_207 (by decide) ?_
      exact ih (v15 + 1) N24 hf
set_option maxHeartbeats 4000000 in
set_option maxRecDepth 100000 in
theorem c0_copy {l : Launch} {D : va_G} {y : Nat → ClassId} {aN aF : Nat → Nat} {N : St} {F : St} {N' : St} (hf : f0_copy N F = some N') : xMv l yX0_copy wsX0_copy 1 48 0 0 D (xT y) [.ref (aN 0), .ref (aF 0)] (nC y aN N ++ nC y aF F) (fun (_ : Unit) => True) (fun _ : Unit => nC y aN N' ++ nC y aF F) := by
  refine xMv_of (cc := cX0_copy) (nL := 3) (ret := none) [(0, .ref (aN 0)), (1, .ref (aF 0))] (by decide) rfl (Nat.le_of_ble_eq_true rfl) rfl ?_
  intro p e s m args below meth c A C hin
  have C : xC p s m args meth c D A cX0_copy RX0 3 wsX0_copy (xT y) none := C
  unfold f0_copy at hf
  refine x_aload_n (q := 1) C 0 dX0_copy_0 rfl rfl rfl ?_
  refine x_aload_n (q := 2) C 1 dX0_copy_1 rfl rfl rfl ?_
  refine x_get (q := 5) C 0 dX0_copy_2 ((oX0 y aF F).R) rfl iuX0_copy_X0 flX0_copy_52 rfl (by decide) rfl rfl ?_
  obtain ⟨N1, eN1, hf⟩ := lt_elim hf
  refine x_puti (q := 8) (ws' := nC y aN N1 ++ nC y aF F) C tyX0 tyX0_ok nmX0 dX0_copy_5 ((iX0_0 y aN N).L) rfl iuX0_copy_X0 flX0_copy_52 rfl (by decide) rfl rfl (congrArg (fun z => nC y aN z ++ nC y aF F) eN1.symm) rfl ?_
  refine x_aload_n (q := 9) C 0 dX0_copy_8 rfl rfl rfl ?_
  refine x_aload_n (q := 10) C 1 dX0_copy_9 rfl rfl rfl ?_
  refine x_get (q := 13) C 1 dX0_copy_10 ((oX0 y aF F).R) rfl iuX0_copy_X0 flX0_copy_56 rfl (by decide) rfl rfl ?_
  obtain ⟨N2, eN2, hf⟩ := lt_elim hf
  refine x_puti (q := 16) (ws' := nC y aN N2 ++ nC y aF F) C tyX0 tyX0_ok nmX0 dX0_copy_13 ((iX0_1 y aN N1).L) rfl iuX0_copy_X0 flX0_copy_56 rfl (by decide) rfl rfl (congrArg (fun z => nC y aN z ++ nC y aF F) eN2.symm) rfl ?_
  refine x_aload_n (q := 17) C 0 dX0_copy_16 rfl rfl rfl ?_
  refine x_aload_n (q := 18) C 1 dX0_copy_17 rfl rfl rfl ?_
  refine x_get (q := 21) C 2 dX0_copy_18 ((oX0 y aF F).R) rfl iuX0_copy_X0 flX0_copy_59 rfl (by decide) rfl rfl ?_
  obtain ⟨N3, eN3, hf⟩ := lt_elim hf
  refine x_puti (q := 24) (ws' := nC y aN N3 ++ nC y aF F) C tyX0 tyX0_ok nmX0 dX0_copy_21 ((iX0_2 y aN N2).L) rfl iuX0_copy_X0 flX0_copy_59 rfl (by decide) rfl rfl (congrArg (fun z => nC y aN z ++ nC y aF F) eN3.symm) rfl ?_
  refine x_aload_n (q := 25) C 1 dX0_copy_24 rfl rfl rfl ?_
  refine x_get (q := 28) C 3 dX0_copy_25 ((oX0 y aF F).R) rfl iuX0_copy_X0 flX0_copy_9 rfl (by decide) rfl rfl ?_
  refine x_iconst (q := 29) C dX0_copy_28 ki_0 rfl ?_
  refine x_aload_n (q := 30) C 0 dX0_copy_29 rfl rfl rfl ?_
  refine x_get (q := 33) C 3 dX0_copy_30 ((oX0 y aN N3).L) rfl iuX0_copy_X0 flX0_copy_9 rfl (by decide) rfl rfl ?_
  refine x_iconst (q := 34) C dX0_copy_33 ki_0 rfl ?_
  refine x_bipush (q := 36) C dX0_copy_34 kb_18 rfl ?_
  obtain ⟨hb4, hf⟩ := gd_some hf
  obtain ⟨N5, eN5, hf⟩ := lt_elim hf
  refine x_copy (q := 39) (ws' := nC y aN N5 ++ nC y aF F) C 0 0 dX0_copy_36 kcX0_copy_62 ((aX0_3 y aF F).R) ((aX0_3 y aN N3).L) rfl rfl hb4 (Nat.le_of_ble_eq_true rfl) (Nat.le_of_ble_eq_true rfl) (congrArg (fun z => nC y aN z ++ nC y aF F) eN5.symm) rfl ?_
  refine x_iconst (q := 40) C dX0_copy_39 ki_0 rfl ?_
  refine x_istore_n (q := 41) C [1, 2, 0] [(0, .ref (aN 0)), (1, .ref (aF 0)), (2, .int 0)] dX0_copy_40 rfl (by decide) rfl rfl ?_
  refine w0_copy_L41 C (fun N8 hf => ?_) xF 0 N5 hf
  refine x_iconst (q := 114) C dX0_copy_113 ki_0 rfl ?_
  refine x_istore_n (q := 115) C [1, 2, 0] [(0, .ref (aN 0)), (1, .ref (aF 0)), (2, .int 0)] dX0_copy_114 rfl (by decide) rfl rfl ?_
  exact w0_copy_L115 C xF 0 N8 hf
