/-! LampHillsModel.thrown()I -/
theorem flX3_thrown_34 : Cond.fieldLink RX3 34 "LampHillsModel" "thrown" "I" ∈ wsX3_thrown := by decide +kernel
theorem iuX3_thrown_X3 : ∀ w ∈ u_ws RX3 TX3 13, w ∈ wsX3_thrown := fun _ h => List.mem_cons_of_mem _ (List.mem_append_right _ h)
def f3_thrown (M : St) : Option (Int32) :=
  some (M 0 0)
set_option maxHeartbeats 4000000 in
set_option maxRecDepth 100000 in
theorem c3_thrown {l : Launch} {D : va_G} {y : Nat → ClassId} {aM : Nat → Nat} {M : St} {r : Int32} (hf : f3_thrown M = some r) : xMi l yX3_thrown wsX3_thrown 0 0 0 0 D (xT y) [.ref (aM 0)] (mC y aM M) (fun (r' : Int32) (_ : Unit) => r' = r) (fun _ : Unit => mC y aM M) := by
  refine xMi_of (cc := cX3_thrown) (nL := 1) (ret := (some .int)) [(0, .ref (aM 0))] (by decide) rfl (Nat.le_of_ble_eq_true rfl) rfl ?_
  intro p e s m args below meth c A C hin
  have C : xC p s m args meth c D A cX3_thrown RX3 1 wsX3_thrown (xT y) (some .int) := C
  unfold f3_thrown at hf
  refine x_aload_n (q := 1) C 0 dX3_thrown_0 rfl rfl rfl ?_
  refine x_get (q := 4) C 0 dX3_thrown_1 (oX3 y aM M) rfl iuX3_thrown_X3 flX3_thrown_34 rfl (by decide) rfl rfl ?_
  have hf := Option.some.inj hf
  exact x_iret () C dX3_thrown_4 rfl hf rfl (Nat.le_of_ble_eq_true rfl) (Nat.le_of_ble_eq_true rfl)

/-! LampHillsModel.fail(I)I -/
theorem flX3_fail_34 : Cond.fieldLink RX3 34 "LampHillsModel" "thrown" "I" ∈ wsX3_fail := by decide +kernel
theorem iuX3_fail_X3 : ∀ w ∈ u_ws RX3 TX3 13, w ∈ wsX3_fail := fun _ h => List.mem_cons_of_mem _ (List.mem_append_right _ h)
def f3_fail (M : St) (p1 : Int32) : Option (Int32 × St) :=
  lt_ (up2 M 0 0 p1) fun M1 =>
  some (0, M1)
set_option maxHeartbeats 4000000 in
set_option maxRecDepth 100000 in
theorem c3_fail {l : Launch} {D : va_G} {y : Nat → ClassId} {aM : Nat → Nat} {M : St} {p1 : Int32} {r : Int32} {M' : St} (hf : f3_fail M p1 = some (r, M')) : xMi l yX3_fail wsX3_fail 0 0 0 0 D (xT y) [.ref (aM 0), .int p1] (mC y aM M) (fun (r' : Int32) (_ : Unit) => r' = r) (fun _ : Unit => mC y aM M') := by
  refine xMi_of (cc := cX3_fail) (nL := 2) (ret := (some .int)) [(0, .ref (aM 0)), (1, .int p1)] (by decide) rfl (Nat.le_of_ble_eq_true rfl) rfl ?_
  intro p e s m args below meth c A C hin
  have C : xC p s m args meth c D A cX3_fail RX3 2 wsX3_fail (xT y) (some .int) := C
  unfold f3_fail at hf
  refine x_aload_n (q := 1) C 0 dX3_fail_0 rfl rfl rfl ?_
  refine x_iload_n (q := 2) C 1 dX3_fail_1 rfl rfl rfl ?_
  obtain ⟨M1, eM1, hf⟩ := lt_elim hf
  refine x_puti (q := 5) (ws' := mC y aM M1) C tyX3 tyX3_ok nmX3 dX3_fail_2 (iX3_0 y aM M) rfl iuX3_fail_X3 flX3_fail_34 rfl (by decide) rfl rfl (congrArg (fun z => mC y aM z) eM1.symm) rfl ?_
  refine x_iconst (q := 6) C dX3_fail_5 ki_0 rfl ?_
  have hf := Option.some.inj hf
  obtain ⟨hr0, hr1⟩ := Prod.mk.inj hf
  exact x_iret () C dX3_fail_6 rfl hr0 (congrArg (fun z => mC y aM z) hr1) (Nat.le_of_ble_eq_true rfl) (Nat.le_of_ble_eq_true rfl)

/-! LampHillsModel.isIn(III)Z -/
def f3_isIn (p1 : Int32) (p2 : Int32) (p3 : Int32) : Option (Int32) :=
  if p1 < p2 then
  (
    some 0
  )
  else
  (
    if p3 < p1 then
    (
      some 0
    )
    else
    (
      some 1
    )
  )
set_option maxHeartbeats 4000000 in
set_option maxRecDepth 100000 in
theorem c3_isIn {l : Launch} {D : va_G} {y : Nat → ClassId} {p1 : Int32} {p2 : Int32} {p3 : Int32} {r : Int32} (hf : f3_isIn p1 p2 p3 = some r) : xMi l yX3_isIn wsX3_isIn 0 0 0 0 D (xT y) [.int p1, .int p2, .int p3] ([]) (fun (r' : Int32) (_ : Unit) => r' = r) (fun _ : Unit => []) := by
  refine xMi_of (cc := cX3_isIn) (nL := 3) (ret := (some .boolean)) [(0, .int p1), (1, .int p2), (2, .int p3)] (by decide) rfl (Nat.le_of_ble_eq_true rfl) rfl ?_
  intro p e s m args below meth c A C hin
  have C : xC p s m args meth c D A cX3_isIn RX3 3 wsX3_isIn (xT y) (some .boolean) := C
  unfold f3_isIn at hf
  refine x_iload_n (q := 1) C 0 dX3_isIn_0 rfl rfl rfl ?_
  refine x_iload_n (q := 2) C 1 dX3_isIn_1 rfl rfl rfl ?_
  refine x_icmp_lt (t := 14) (q := 5) C dX3_isIn_2 (by decide) rfl (fun hc => ?_) (fun hc => ?_)
  · have hf := (if_pos hc).symm.trans hf
    refine x_iconst (q := 15) C dX3_isIn_14 ki_0 rfl ?_
    have hf := Option.some.inj hf
    exact x_zret () C dX3_isIn_15 rfl rfl hf rfl (Nat.le_of_ble_eq_true rfl) (Nat.le_of_ble_eq_true rfl)
  · have hf := (if_neg hc).symm.trans hf
    refine x_iload_n (q := 6) C 0 dX3_isIn_5 rfl rfl rfl ?_
    refine x_iload_n (q := 7) C 2 dX3_isIn_6 rfl rfl rfl ?_
    refine x_icmp_gt (t := 14) (q := 10) C dX3_isIn_7 (by decide) rfl (fun hc => ?_) (fun hc => ?_)
    · have hf := (if_pos hc).symm.trans hf
      refine x_iconst (q := 15) C dX3_isIn_14 ki_0 rfl ?_
      have hf := Option.some.inj hf
      exact x_zret () C dX3_isIn_15 rfl rfl hf rfl (Nat.le_of_ble_eq_true rfl) (Nat.le_of_ble_eq_true rfl)
    · have hf := (if_neg hc).symm.trans hf
      refine x_iconst (q := 11) C dX3_isIn_10 ki_1 rfl ?_
      refine x_goto (t := 15) C dX3_isIn_11 (by decide) ?_
      have hf := Option.some.inj hf
      exact x_zret () C dX3_isIn_15 rfl rfl hf rfl (Nat.le_of_ble_eq_true rfl) (Nat.le_of_ble_eq_true rfl)

theorem z3_isIn {a b c v : Int32} (h : f3_isIn a b c = some v) : narrow .boolean (.int v) = .int v := by
  have h2 : v = 0 ∨ v = 1 := by
    unfold f3_isIn at h
    repeat' split at h
    all_goals first | (cases h; simp) | (simp at h; simp [← h])
  rcases h2 with rfl | rfl <;> rfl

/-! LampHillsModel.isCorner(I)Z -/
theorem flX3_isCorner_38 : Cond.fieldLink RX3 38 "LampHillsModel" "corners" "I" ∈ wsX3_isCorner := by decide +kernel
theorem iuX3_isCorner_X3 : ∀ w ∈ u_ws RX3 TX3 13, w ∈ wsX3_isCorner := fun _ h => List.mem_cons_of_mem _ (List.mem_append_right _ h)
theorem yi_X3_isIn : xY yX3_isIn wsX3_isIn cX3_isIn 3 (some .boolean) 3 := ⟨⟨_, rfl⟩, by decide +kernel, by decide +kernel, by decide +kernel⟩
def f3_isCorner (M : St) (p1 : Int32) : Option (Int32) :=
  bd (f3_isIn p1 0 ((M 1 0) - 1)) fun v1 =>
  some v1
set_option maxHeartbeats 4000000 in
set_option maxRecDepth 100000 in
theorem c3_isCorner {l : Launch} {D : va_G} {y : Nat → ClassId} {aM : Nat → Nat} {M : St} {p1 : Int32} {r : Int32} (hf : f3_isCorner M p1 = some r) : xMi l yX3_isCorner wsX3_isCorner 1 22 0 0 D (xT y) [.ref (aM 0), .int p1] (mC y aM M) (fun (r' : Int32) (_ : Unit) => r' = r) (fun _ : Unit => mC y aM M) := by
  refine xMi_of (cc := cX3_isCorner) (nL := 2) (ret := (some .boolean)) [(0, .ref (aM 0)), (1, .int p1)] (by decide) rfl (Nat.le_of_ble_eq_true rfl) rfl ?_
  intro p e s m args below meth c A C hin
  have C : xC p s m args meth c D A cX3_isCorner RX3 2 wsX3_isCorner (xT y) (some .boolean) := C
  unfold f3_isCorner at hf
  refine x_iload_n (q := 1) C 1 dX3_isCorner_0 rfl rfl rfl ?_
  refine x_iconst (q := 2) C dX3_isCorner_1 ki_0 rfl ?_
  refine x_aload_n (q := 3) C 0 dX3_isCorner_2 rfl rfl rfl ?_
  refine x_get (q := 6) C 1 dX3_isCorner_3 (oX3 y aM M) rfl iuX3_isCorner_X3 flX3_isCorner_38 rfl (by decide) rfl rfl ?_
  refine x_iconst (q := 7) C dX3_isCorner_6 ki_1 rfl ?_
  refine x_isub (q := 8) C dX3_isCorner_7 rfl ?_
  obtain ⟨v1, hcal2, hf⟩ := bd_some hf
  refine x_callSi (q := 11) C (c3_isIn (l := l) (D := D) (y := y)  hcal2) yi_X3_isIn gX3_isCorner_X3_isIn ⟨(Nat.le_of_ble_eq_true rfl), (Nat.le_of_ble_eq_true rfl)⟩ dX3_isCorner_8 pm_emp rfl rfl (Nat.le_of_ble_eq_true rfl) ⟨Nat.le_of_ble_eq_true rfl, Nat.le_of_ble_eq_true rfl⟩ rfl ?_
  intro rr3 uu hrr
  have hrr : v1 = rr3 := Eq.symm hrr
  subst hrr
  refine x_world (ws' := mC y aM M) rfl ?_
  have hf := Option.some.inj hf
  exact x_zret () C dX3_isCorner_11 rfl (z3_isIn hcal2) hf rfl (Nat.le_of_ble_eq_true rfl) (Nat.le_of_ble_eq_true rfl)

/-! LampHillsModel.isStreet(I)Z -/
theorem flX3_isStreet_45 : Cond.fieldLink RX3 45 "LampHillsModel" "streets" "I" ∈ wsX3_isStreet := by decide +kernel
theorem iuX3_isStreet_X3 : ∀ w ∈ u_ws RX3 TX3 13, w ∈ wsX3_isStreet := fun _ h => List.mem_cons_of_mem _ (List.mem_append_right _ h)
def f3_isStreet (M : St) (p1 : Int32) : Option (Int32) :=
  bd (f3_isIn p1 0 ((M 2 0) - 1)) fun v1 =>
  some v1
set_option maxHeartbeats 4000000 in
set_option maxRecDepth 100000 in
theorem c3_isStreet {l : Launch} {D : va_G} {y : Nat → ClassId} {aM : Nat → Nat} {M : St} {p1 : Int32} {r : Int32} (hf : f3_isStreet M p1 = some r) : xMi l yX3_isStreet wsX3_isStreet 1 22 0 0 D (xT y) [.ref (aM 0), .int p1] (mC y aM M) (fun (r' : Int32) (_ : Unit) => r' = r) (fun _ : Unit => mC y aM M) := by
  refine xMi_of (cc := cX3_isStreet) (nL := 2) (ret := (some .boolean)) [(0, .ref (aM 0)), (1, .int p1)] (by decide) rfl (Nat.le_of_ble_eq_true rfl) rfl ?_
  intro p e s m args below meth c A C hin
  have C : xC p s m args meth c D A cX3_isStreet RX3 2 wsX3_isStreet (xT y) (some .boolean) := C
  unfold f3_isStreet at hf
  refine x_iload_n (q := 1) C 1 dX3_isStreet_0 rfl rfl rfl ?_
  refine x_iconst (q := 2) C dX3_isStreet_1 ki_0 rfl ?_
  refine x_aload_n (q := 3) C 0 dX3_isStreet_2 rfl rfl rfl ?_
  refine x_get (q := 6) C 2 dX3_isStreet_3 (oX3 y aM M) rfl iuX3_isStreet_X3 flX3_isStreet_45 rfl (by decide) rfl rfl ?_
  refine x_iconst (q := 7) C dX3_isStreet_6 ki_1 rfl ?_
  refine x_isub (q := 8) C dX3_isStreet_7 rfl ?_
  obtain ⟨v1, hcal2, hf⟩ := bd_some hf
  refine x_callSi (q := 11) C (c3_isIn (l := l) (D := D) (y := y)  hcal2) yi_X3_isIn gX3_isStreet_X3_isIn ⟨(Nat.le_of_ble_eq_true rfl), (Nat.le_of_ble_eq_true rfl)⟩ dX3_isStreet_8 pm_emp rfl rfl (Nat.le_of_ble_eq_true rfl) ⟨Nat.le_of_ble_eq_true rfl, Nat.le_of_ble_eq_true rfl⟩ rfl ?_
  intro rr3 uu hrr
  have hrr : v1 = rr3 := Eq.symm hrr
  subst hrr
  refine x_world (ws' := mC y aM M) rfl ?_
  have hf := Option.some.inj hf
  exact x_zret () C dX3_isStreet_11 rfl (z3_isIn hcal2) hf rfl (Nat.le_of_ble_eq_true rfl) (Nat.le_of_ble_eq_true rfl)

/-! LampHillsModel.isLamp(I)Z -/
theorem flX3_isLamp_48 : Cond.fieldLink RX3 48 "LampHillsModel" "lamps" "I" ∈ wsX3_isLamp := by decide +kernel
theorem iuX3_isLamp_X3 : ∀ w ∈ u_ws RX3 TX3 13, w ∈ wsX3_isLamp := fun _ h => List.mem_cons_of_mem _ (List.mem_append_right _ h)
def f3_isLamp (M : St) (p1 : Int32) : Option (Int32) :=
  bd (f3_isIn p1 0 ((M 3 0) - 1)) fun v1 =>
  some v1
set_option maxHeartbeats 4000000 in
set_option maxRecDepth 100000 in
theorem c3_isLamp {l : Launch} {D : va_G} {y : Nat → ClassId} {aM : Nat → Nat} {M : St} {p1 : Int32} {r : Int32} (hf : f3_isLamp M p1 = some r) : xMi l yX3_isLamp wsX3_isLamp 1 22 0 0 D (xT y) [.ref (aM 0), .int p1] (mC y aM M) (fun (r' : Int32) (_ : Unit) => r' = r) (fun _ : Unit => mC y aM M) := by
  refine xMi_of (cc := cX3_isLamp) (nL := 2) (ret := (some .boolean)) [(0, .ref (aM 0)), (1, .int p1)] (by decide) rfl (Nat.le_of_ble_eq_true rfl) rfl ?_
  intro p e s m args below meth c A C hin
  have C : xC p s m args meth c D A cX3_isLamp RX3 2 wsX3_isLamp (xT y) (some .boolean) := C
  unfold f3_isLamp at hf
  refine x_iload_n (q := 1) C 1 dX3_isLamp_0 rfl rfl rfl ?_
  refine x_iconst (q := 2) C dX3_isLamp_1 ki_0 rfl ?_
  refine x_aload_n (q := 3) C 0 dX3_isLamp_2 rfl rfl rfl ?_
  refine x_get (q := 6) C 3 dX3_isLamp_3 (oX3 y aM M) rfl iuX3_isLamp_X3 flX3_isLamp_48 rfl (by decide) rfl rfl ?_
  refine x_iconst (q := 7) C dX3_isLamp_6 ki_1 rfl ?_
  refine x_isub (q := 8) C dX3_isLamp_7 rfl ?_
  obtain ⟨v1, hcal2, hf⟩ := bd_some hf
  refine x_callSi (q := 11) C (c3_isIn (l := l) (D := D) (y := y)  hcal2) yi_X3_isIn gX3_isLamp_X3_isIn ⟨(Nat.le_of_ble_eq_true rfl), (Nat.le_of_ble_eq_true rfl)⟩ dX3_isLamp_8 pm_emp rfl rfl (Nat.le_of_ble_eq_true rfl) ⟨Nat.le_of_ble_eq_true rfl, Nat.le_of_ble_eq_true rfl⟩ rfl ?_
  intro rr3 uu hrr
  have hrr : v1 = rr3 := Eq.symm hrr
  subst hrr
  refine x_world (ws' := mC y aM M) rfl ?_
  have hf := Option.some.inj hf
  exact x_zret () C dX3_isLamp_11 rfl (z3_isIn hcal2) hf rfl (Nat.le_of_ble_eq_true rfl) (Nat.le_of_ble_eq_true rfl)

/-! LampHillsModel.isLighter(I)Z -/
theorem flX3_isLighter_51 : Cond.fieldLink RX3 51 "LampHillsModel" "lighters" "I" ∈ wsX3_isLighter := by decide +kernel
theorem iuX3_isLighter_X3 : ∀ w ∈ u_ws RX3 TX3 13, w ∈ wsX3_isLighter := fun _ h => List.mem_cons_of_mem _ (List.mem_append_right _ h)
def f3_isLighter (M : St) (p1 : Int32) : Option (Int32) :=
  bd (f3_isIn p1 0 ((M 4 0) - 1)) fun v1 =>
  some v1
set_option maxHeartbeats 4000000 in
set_option maxRecDepth 100000 in
theorem c3_isLighter {l : Launch} {D : va_G} {y : Nat → ClassId} {aM : Nat → Nat} {M : St} {p1 : Int32} {r : Int32} (hf : f3_isLighter M p1 = some r) : xMi l yX3_isLighter wsX3_isLighter 1 22 0 0 D (xT y) [.ref (aM 0), .int p1] (mC y aM M) (fun (r' : Int32) (_ : Unit) => r' = r) (fun _ : Unit => mC y aM M) := by
  refine xMi_of (cc := cX3_isLighter) (nL := 2) (ret := (some .boolean)) [(0, .ref (aM 0)), (1, .int p1)] (by decide) rfl (Nat.le_of_ble_eq_true rfl) rfl ?_
  intro p e s m args below meth c A C hin
  have C : xC p s m args meth c D A cX3_isLighter RX3 2 wsX3_isLighter (xT y) (some .boolean) := C
  unfold f3_isLighter at hf
  refine x_iload_n (q := 1) C 1 dX3_isLighter_0 rfl rfl rfl ?_
  refine x_iconst (q := 2) C dX3_isLighter_1 ki_0 rfl ?_
  refine x_aload_n (q := 3) C 0 dX3_isLighter_2 rfl rfl rfl ?_
  refine x_get (q := 6) C 4 dX3_isLighter_3 (oX3 y aM M) rfl iuX3_isLighter_X3 flX3_isLighter_51 rfl (by decide) rfl rfl ?_
  refine x_iconst (q := 7) C dX3_isLighter_6 ki_1 rfl ?_
  refine x_isub (q := 8) C dX3_isLighter_7 rfl ?_
  obtain ⟨v1, hcal2, hf⟩ := bd_some hf
  refine x_callSi (q := 11) C (c3_isIn (l := l) (D := D) (y := y)  hcal2) yi_X3_isIn gX3_isLighter_X3_isIn ⟨(Nat.le_of_ble_eq_true rfl), (Nat.le_of_ble_eq_true rfl)⟩ dX3_isLighter_8 pm_emp rfl rfl (Nat.le_of_ble_eq_true rfl) ⟨Nat.le_of_ble_eq_true rfl, Nat.le_of_ble_eq_true rfl⟩ rfl ?_
  intro rr3 uu hrr
  have hrr : v1 = rr3 := Eq.symm hrr
  subst hrr
  refine x_world (ws' := mC y aM M) rfl ?_
  have hf := Option.some.inj hf
  exact x_zret () C dX3_isLighter_11 rfl (z3_isIn hcal2) hf rfl (Nat.le_of_ble_eq_true rfl) (Nat.le_of_ble_eq_true rfl)

/-! LampHillsModel.ro(II)I -/
theorem flX3_ro_13 : Cond.fieldLink RX3 13 "LampHillsModel" "roads" "[I" ∈ wsX3_ro := by decide +kernel
theorem iuX3_ro_X3 : ∀ w ∈ u_ws RX3 TX3 13, w ∈ wsX3_ro := fun _ h => List.mem_cons_of_mem _ (List.mem_append_right _ h)
def f3_ro (M : St) (p1 : Int32) (p2 : Int32) : Option (Int32) :=
  gd (xin ((3 * p1) + p2) 54) <|
  some (M 6 ((3 * p1) + p2).toNatClampNeg)
set_option maxHeartbeats 4000000 in
set_option maxRecDepth 100000 in
theorem c3_ro {l : Launch} {D : va_G} {y : Nat → ClassId} {aM : Nat → Nat} {M : St} {p1 : Int32} {p2 : Int32} {r : Int32} (hf : f3_ro M p1 p2 = some r) : xMi l yX3_ro wsX3_ro 0 0 0 0 D (xT y) [.ref (aM 0), .int p1, .int p2] (mC y aM M) (fun (r' : Int32) (_ : Unit) => r' = r) (fun _ : Unit => mC y aM M) := by
  refine xMi_of (cc := cX3_ro) (nL := 3) (ret := (some .int)) [(0, .ref (aM 0)), (1, .int p1), (2, .int p2)] (by decide) rfl (Nat.le_of_ble_eq_true rfl) rfl ?_
  intro p e s m args below meth c A C hin
  have C : xC p s m args meth c D A cX3_ro RX3 3 wsX3_ro (xT y) (some .int) := C
  unfold f3_ro at hf
  refine x_aload_n (q := 1) C 0 dX3_ro_0 rfl rfl rfl ?_
  refine x_get (q := 4) C 6 dX3_ro_1 (oX3 y aM M) rfl iuX3_ro_X3 flX3_ro_13 rfl (by decide) rfl rfl ?_
  refine x_iconst (q := 5) C dX3_ro_4 ki_3 rfl ?_
  refine x_iload_n (q := 6) C 1 dX3_ro_5 rfl rfl rfl ?_
  refine x_imul (q := 7) C dX3_ro_6 rfl ?_
  refine x_iload_n (q := 8) C 2 dX3_ro_7 rfl rfl rfl ?_
  refine x_iadd (q := 9) C dX3_ro_8 rfl ?_
  obtain ⟨hb1, hf⟩ := gd_some hf
  refine x_iald (q := 10) C 0 dX3_ro_9 (aX3_6 y aM M) rfl hb1 rfl ?_
  have hf := Option.some.inj hf
  exact x_iret () C dX3_ro_10 rfl hf rfl (Nat.le_of_ble_eq_true rfl) (Nat.le_of_ble_eq_true rfl)

/-! LampHillsModel.la(II)I -/
theorem kb_8 : (Int8.ofInt 8).toInt32 = 8 := by decide
theorem flX3_la_19 : Cond.fieldLink RX3 19 "LampHillsModel" "lights" "[I" ∈ wsX3_la := by decide +kernel
theorem iuX3_la_X3 : ∀ w ∈ u_ws RX3 TX3 13, w ∈ wsX3_la := fun _ h => List.mem_cons_of_mem _ (List.mem_append_right _ h)
def f3_la (M : St) (p1 : Int32) (p2 : Int32) : Option (Int32) :=
  gd (xin ((8 * p1) + p2) 160) <|
  some (M 8 ((8 * p1) + p2).toNatClampNeg)
set_option maxHeartbeats 4000000 in
set_option maxRecDepth 100000 in
theorem c3_la {l : Launch} {D : va_G} {y : Nat → ClassId} {aM : Nat → Nat} {M : St} {p1 : Int32} {p2 : Int32} {r : Int32} (hf : f3_la M p1 p2 = some r) : xMi l yX3_la wsX3_la 0 0 0 0 D (xT y) [.ref (aM 0), .int p1, .int p2] (mC y aM M) (fun (r' : Int32) (_ : Unit) => r' = r) (fun _ : Unit => mC y aM M) := by
  refine xMi_of (cc := cX3_la) (nL := 3) (ret := (some .int)) [(0, .ref (aM 0)), (1, .int p1), (2, .int p2)] (by decide) rfl (Nat.le_of_ble_eq_true rfl) rfl ?_
  intro p e s m args below meth c A C hin
  have C : xC p s m args meth c D A cX3_la RX3 3 wsX3_la (xT y) (some .int) := C
  unfold f3_la at hf
  refine x_aload_n (q := 1) C 0 dX3_la_0 rfl rfl rfl ?_
  refine x_get (q := 4) C 8 dX3_la_1 (oX3 y aM M) rfl iuX3_la_X3 flX3_la_19 rfl (by decide) rfl rfl ?_
  refine x_bipush (q := 6) C dX3_la_4 kb_8 rfl ?_
  refine x_iload_n (q := 7) C 1 dX3_la_6 rfl rfl rfl ?_
  refine x_imul (q := 8) C dX3_la_7 rfl ?_
  refine x_iload_n (q := 9) C 2 dX3_la_8 rfl rfl rfl ?_
  refine x_iadd (q := 10) C dX3_la_9 rfl ?_
  obtain ⟨hb1, hf⟩ := gd_some hf
  refine x_iald (q := 11) C 0 dX3_la_10 (aX3_8 y aM M) rfl hb1 rfl ?_
  have hf := Option.some.inj hf
  exact x_iret () C dX3_la_11 rfl hf rfl (Nat.le_of_ble_eq_true rfl) (Nat.le_of_ble_eq_true rfl)

/-! LampHillsModel.setLamp(III)V -/
theorem flX3_setLamp_19 : Cond.fieldLink RX3 19 "LampHillsModel" "lights" "[I" ∈ wsX3_setLamp := by decide +kernel
theorem iuX3_setLamp_X3 : ∀ w ∈ u_ws RX3 TX3 13, w ∈ wsX3_setLamp := fun _ h => List.mem_cons_of_mem _ (List.mem_append_right _ h)
def f3_setLamp (M : St) (p1 : Int32) (p2 : Int32) (p3 : Int32) : Option (St) :=
  gd (xin ((8 * p1) + p2) 160) <|
  lt_ (up2 M 8 ((8 * p1) + p2).toNatClampNeg p3) fun M2 =>
  some M2
set_option maxHeartbeats 4000000 in
set_option maxRecDepth 100000 in
theorem c3_setLamp {l : Launch} {D : va_G} {y : Nat → ClassId} {aM : Nat → Nat} {M : St} {p1 : Int32} {p2 : Int32} {p3 : Int32} {M' : St} (hf : f3_setLamp M p1 p2 p3 = some M') : xMv l yX3_setLamp wsX3_setLamp 0 0 0 0 D (xT y) [.ref (aM 0), .int p1, .int p2, .int p3] (mC y aM M) (fun (_ : Unit) => True) (fun _ : Unit => mC y aM M') := by
  refine xMv_of (cc := cX3_setLamp) (nL := 4) (ret := none) [(0, .ref (aM 0)), (1, .int p1), (2, .int p2), (3, .int p3)] (by decide) rfl (Nat.le_of_ble_eq_true rfl) rfl ?_
  intro p e s m args below meth c A C hin
  have C : xC p s m args meth c D A cX3_setLamp RX3 4 wsX3_setLamp (xT y) none := C
  unfold f3_setLamp at hf
  refine x_aload_n (q := 1) C 0 dX3_setLamp_0 rfl rfl rfl ?_
  refine x_get (q := 4) C 8 dX3_setLamp_1 (oX3 y aM M) rfl iuX3_setLamp_X3 flX3_setLamp_19 rfl (by decide) rfl rfl ?_
  refine x_bipush (q := 6) C dX3_setLamp_4 kb_8 rfl ?_
  refine x_iload_n (q := 7) C 1 dX3_setLamp_6 rfl rfl rfl ?_
  refine x_imul (q := 8) C dX3_setLamp_7 rfl ?_
  refine x_iload_n (q := 9) C 2 dX3_setLamp_8 rfl rfl rfl ?_
  refine x_iadd (q := 10) C dX3_setLamp_9 rfl ?_
  refine x_iload_n (q := 11) C 3 dX3_setLamp_10 rfl rfl rfl ?_
  obtain ⟨hb1, hf⟩ := gd_some hf
  obtain ⟨M2, eM2, hf⟩ := lt_elim hf
  refine x_iast (q := 12) (ws' := mC y aM M2) C 0 dX3_setLamp_11 (aX3_8 y aM M) rfl hb1 (congrArg (fun z => mC y aM z) eM2.symm) rfl ?_
  have hf := Option.some.inj hf
  exact x_vret () C dX3_setLamp_12 rfl trivial (congrArg (fun z => mC y aM z) hf) (Nat.le_of_ble_eq_true rfl) (Nat.le_of_ble_eq_true rfl)

/-! LampHillsModel.pe(II)I -/
theorem flX3_pe_22 : Cond.fieldLink RX3 22 "LampHillsModel" "people" "[I" ∈ wsX3_pe := by decide +kernel
theorem iuX3_pe_X3 : ∀ w ∈ u_ws RX3 TX3 13, w ∈ wsX3_pe := fun _ h => List.mem_cons_of_mem _ (List.mem_append_right _ h)
def f3_pe (M : St) (p1 : Int32) (p2 : Int32) : Option (Int32) :=
  gd (xin ((10 * p1) + p2) 40) <|
  some (M 9 ((10 * p1) + p2).toNatClampNeg)
set_option maxHeartbeats 4000000 in
set_option maxRecDepth 100000 in
theorem c3_pe {l : Launch} {D : va_G} {y : Nat → ClassId} {aM : Nat → Nat} {M : St} {p1 : Int32} {p2 : Int32} {r : Int32} (hf : f3_pe M p1 p2 = some r) : xMi l yX3_pe wsX3_pe 0 0 0 0 D (xT y) [.ref (aM 0), .int p1, .int p2] (mC y aM M) (fun (r' : Int32) (_ : Unit) => r' = r) (fun _ : Unit => mC y aM M) := by
  refine xMi_of (cc := cX3_pe) (nL := 3) (ret := (some .int)) [(0, .ref (aM 0)), (1, .int p1), (2, .int p2)] (by decide) rfl (Nat.le_of_ble_eq_true rfl) rfl ?_
  intro p e s m args below meth c A C hin
  have C : xC p s m args meth c D A cX3_pe RX3 3 wsX3_pe (xT y) (some .int) := C
  unfold f3_pe at hf
  refine x_aload_n (q := 1) C 0 dX3_pe_0 rfl rfl rfl ?_
  refine x_get (q := 4) C 9 dX3_pe_1 (oX3 y aM M) rfl iuX3_pe_X3 flX3_pe_22 rfl (by decide) rfl rfl ?_
  refine x_bipush (q := 6) C dX3_pe_4 kb_10 rfl ?_
  refine x_iload_n (q := 7) C 1 dX3_pe_6 rfl rfl rfl ?_
  refine x_imul (q := 8) C dX3_pe_7 rfl ?_
  refine x_iload_n (q := 9) C 2 dX3_pe_8 rfl rfl rfl ?_
  refine x_iadd (q := 10) C dX3_pe_9 rfl ?_
  obtain ⟨hb1, hf⟩ := gd_some hf
  refine x_iald (q := 11) C 0 dX3_pe_10 (aX3_9 y aM M) rfl hb1 rfl ?_
  have hf := Option.some.inj hf
  exact x_iret () C dX3_pe_11 rfl hf rfl (Nat.le_of_ble_eq_true rfl) (Nat.le_of_ble_eq_true rfl)

/-! LampHillsModel.put(III)V -/
theorem flX3_put_22 : Cond.fieldLink RX3 22 "LampHillsModel" "people" "[I" ∈ wsX3_put := by decide +kernel
theorem iuX3_put_X3 : ∀ w ∈ u_ws RX3 TX3 13, w ∈ wsX3_put := fun _ h => List.mem_cons_of_mem _ (List.mem_append_right _ h)
def f3_put (M : St) (p1 : Int32) (p2 : Int32) (p3 : Int32) : Option (St) :=
  gd (xin ((10 * p1) + p2) 40) <|
  lt_ (up2 M 9 ((10 * p1) + p2).toNatClampNeg p3) fun M2 =>
  some M2
set_option maxHeartbeats 4000000 in
set_option maxRecDepth 100000 in
theorem c3_put {l : Launch} {D : va_G} {y : Nat → ClassId} {aM : Nat → Nat} {M : St} {p1 : Int32} {p2 : Int32} {p3 : Int32} {M' : St} (hf : f3_put M p1 p2 p3 = some M') : xMv l yX3_put wsX3_put 0 0 0 0 D (xT y) [.ref (aM 0), .int p1, .int p2, .int p3] (mC y aM M) (fun (_ : Unit) => True) (fun _ : Unit => mC y aM M') := by
  refine xMv_of (cc := cX3_put) (nL := 4) (ret := none) [(0, .ref (aM 0)), (1, .int p1), (2, .int p2), (3, .int p3)] (by decide) rfl (Nat.le_of_ble_eq_true rfl) rfl ?_
  intro p e s m args below meth c A C hin
  have C : xC p s m args meth c D A cX3_put RX3 4 wsX3_put (xT y) none := C
  unfold f3_put at hf
  refine x_aload_n (q := 1) C 0 dX3_put_0 rfl rfl rfl ?_
  refine x_get (q := 4) C 9 dX3_put_1 (oX3 y aM M) rfl iuX3_put_X3 flX3_put_22 rfl (by decide) rfl rfl ?_
  refine x_bipush (q := 6) C dX3_put_4 kb_10 rfl ?_
  refine x_iload_n (q := 7) C 1 dX3_put_6 rfl rfl rfl ?_
  refine x_imul (q := 8) C dX3_put_7 rfl ?_
  refine x_iload_n (q := 9) C 2 dX3_put_8 rfl rfl rfl ?_
  refine x_iadd (q := 10) C dX3_put_9 rfl ?_
  refine x_iload_n (q := 11) C 3 dX3_put_10 rfl rfl rfl ?_
  obtain ⟨hb1, hf⟩ := gd_some hf
  obtain ⟨M2, eM2, hf⟩ := lt_elim hf
  refine x_iast (q := 12) (ws' := mC y aM M2) C 0 dX3_put_11 (aX3_9 y aM M) rfl hb1 (congrArg (fun z => mC y aM z) eM2.symm) rfl ?_
  have hf := Option.some.inj hf
  exact x_vret () C dX3_put_12 rfl trivial (congrArg (fun z => mC y aM z) hf) (Nat.le_of_ble_eq_true rfl) (Nat.le_of_ble_eq_true rfl)

/-! LampHillsModel.reckon()V -/
theorem kb_12 : (Int8.ofInt 12).toInt32 = 12 := by decide
theorem ks_9999 : (Int16.ofInt 9999).toInt32 = 9999 := by decide
theorem flX3_reckon_16 : Cond.fieldLink RX3 16 "LampHillsModel" "ways" "[I" ∈ wsX3_reckon := by decide +kernel
theorem flX3_reckon_38 : Cond.fieldLink RX3 38 "LampHillsModel" "corners" "I" ∈ wsX3_reckon := by decide +kernel
theorem flX3_reckon_45 : Cond.fieldLink RX3 45 "LampHillsModel" "streets" "I" ∈ wsX3_reckon := by decide +kernel
theorem flX3_reckon_9 : Cond.fieldLink RX3 9 "LampHillsModel" "heights" "[I" ∈ wsX3_reckon := by decide +kernel
theorem iuX3_reckon_X3 : ∀ w ∈ u_ws RX3 TX3 13, w ∈ wsX3_reckon := fun _ h => List.mem_cons_of_mem _ (List.mem_append_right _ h)
theorem kmX3_reckon_58 : ∀ w ∈ ([.methodLink RX3 58 Lib.Math.max.name, .static Lib.Math.max.name, .initialized "java/lang/Math", .code Lib.Math.max.name Lib.Math.max.code 2 (some .int)] : List Cond), w ∈ wsX3_reckon := by decide +kernel
theorem kmX3_reckon_63 : ∀ w ∈ ([.methodLink RX3 63 Lib.Math.min.name, .static Lib.Math.min.name, .initialized "java/lang/Math", .code Lib.Math.min.name Lib.Math.min.code 2 (some .int)] : List Cond), w ∈ wsX3_reckon := by decide +kernel
theorem yi_X3_ro : xY yX3_ro wsX3_ro cX3_ro 3 (some .int) 2 := ⟨⟨_, rfl⟩, by decide +kernel, by decide +kernel, by decide +kernel⟩
def f3_reckon_L12 (v1 : Int32) (K : St → Option (St)) : Nat → Int32 → St → Option (St)
  | 0, _, _ => none
  | fu + 1, v4, M5 =>
  if (M5 1 0) ≤ v4 then
  (
    K M5
  )
  else
  (
    lt_ (fun (v7 : Int32) =>
    (
      gd (xin ((12 * v1) + v4) 144) <|
      lt_ (up2 M5 7 ((12 * v1) + v4).toNatClampNeg v7) fun M9 =>
      f3_reckon_L12 v1 K fu (v4 + 1) M9
    )
    ) fun J42 =>
    if v1 = v4 then
    (
      J42 0
    )
    else
    (
      J42 9999
    )
  )
def f3_reckon_L2 (K : St → Option (St)) : Nat → Int32 → St → Option (St)
  | 0, _, _ => none
  | fu + 1, v1, M2 =>
  if (M2 1 0) ≤ v1 then
  (
    K M2
  )
  else
  (
    f3_reckon_L12 v1 (fun (M6 : St) =>
    (
      f3_reckon_L2 K fu (v1 + 1) M6
    )
    ) xF 0 M2
  )
def f3_reckon_L67 (v10 : Int32) (K : St → Option (St)) : Nat → Int32 → St → Option (St)
  | 0, _, _ => none
  | fu + 1, v13, M14 =>
  if 2 ≤ v13 then
  (
    K M14
  )
  else
  (
    lt_ (fun (v16 : Int32) =>
    (
      bd (f3_ro M14 v10 v16) fun v17 =>
      lt_ (fun (v20 : Int32) =>
      (
        bd (f3_ro M14 v10 v20) fun v21 =>
        bd (f3_ro M14 v10 2) fun v24 =>
        gd (xin v21 12) <|
        gd (xin v17 12) <|
        lt_ (v24 + ((if (0 : Int32) < ((M14 5 v21.toNatClampNeg) - (M14 5 v17.toNatClampNeg)) then ((M14 5 v21.toNatClampNeg) - (M14 5 v17.toNatClampNeg)) else (0 : Int32)) / 2)) fun v29 =>
        gd (xin ((12 * v17) + v21) 144) <|
        lt_ (up2 M14 7 ((12 * v17) + v21).toNatClampNeg (if v29 < (M14 7 ((12 * v17) + v21).toNatClampNeg) then v29 else (M14 7 ((12 * v17) + v21).toNatClampNeg))) fun M31 =>
        f3_reckon_L67 v10 K fu (v13 + 1) M31
      )
      ) fun J98 =>
      if v13 = 0 then
      (
        J98 1
      )
      else
      (
        J98 0
      )
    )
    ) fun J83 =>
    if v13 = 0 then
    (
      J83 0
    )
    else
    (
      J83 1
    )
  )
def f3_reckon_L57 (K : St → Option (St)) : Nat → Int32 → St → Option (St)
  | 0, _, _ => none
  | fu + 1, v10, M11 =>
  if (M11 2 0) ≤ v10 then
  (
    K M11
  )
  else
  (
    f3_reckon_L67 v10 (fun (M15 : St) =>
    (
      f3_reckon_L57 K fu (v10 + 1) M15
    )
    ) xF 0 M11
  )
def f3_reckon_L195 (v32 : Int32) (v34 : Int32) (K : St → Option (St)) : Nat → Int32 → St → Option (St)
  | 0, _, _ => none
  | fu + 1, v37, M38 =>
  if (M38 1 0) ≤ v37 then
  (
    K M38
  )
  else
  (
    gd (xin ((12 * v34) + v37) 144) <|
    gd (xin ((12 * v34) + v32) 144) <|
    gd (xin ((12 * v32) + v37) 144) <|
    lt_ (up2 M38 7 ((12 * v34) + v37).toNatClampNeg (if ((M38 7 ((12 * v34) + v32).toNatClampNeg) + (M38 7 ((12 * v32) + v37).toNatClampNeg)) < (M38 7 ((12 * v34) + v37).toNatClampNeg) then ((M38 7 ((12 * v34) + v32).toNatClampNeg) + (M38 7 ((12 * v32) + v37).toNatClampNeg)) else (M38 7 ((12 * v34) + v37).toNatClampNeg))) fun M43 =>
    f3_reckon_L195 v32 v34 K fu (v37 + 1) M43
  )
def f3_reckon_L185 (v32 : Int32) (K : St → Option (St)) : Nat → Int32 → St → Option (St)
  | 0, _, _ => none
  | fu + 1, v34, M35 =>
  if (M35 1 0) ≤ v34 then
  (
    K M35
  )
  else
  (
    f3_reckon_L195 v32 v34 (fun (M39 : St) =>
    (
      f3_reckon_L185 v32 K fu (v34 + 1) M39
    )
    ) xF 0 M35
  )
def f3_reckon_L175 : Nat → Int32 → St → Option (St)
  | 0, _, _ => none
  | fu + 1, v32, M33 =>
  if (M33 1 0) ≤ v32 then
  (
    some M33
  )
  else
  (
    f3_reckon_L185 v32 (fun (M36 : St) =>
    (
      f3_reckon_L175 fu (v32 + 1) M36
    )
    ) xF 0 M33
  )
def f3_reckon (M : St) : Option (St) :=
  f3_reckon_L2 (fun (M3 : St) =>
  (
    f3_reckon_L57 (fun (M12 : St) =>
    (
      f3_reckon_L175 xF 0 M12
    )
    ) xF 0 M3
  )
  ) xF 0 M
set_option maxHeartbeats 4000000 in
set_option maxRecDepth 100000 in
theorem w3_reckon_L12 {p : Program} {l : Launch} {e : Env} {s : State} {m : MethodId} {args : Array Value} {below : List Frame} {meth : Method} {c : Code} {D : va_G} {A : Nat → Prop} {y : Nat → ClassId} {aM : Nat → Nat} {v1 : Int32} {M' : St} {K : St → Option (St)} (C : xC p s m args meth c D A cX3_reckon RX3 6 wsX3_reckon (xT y) none) (hK : ∀ (M6 : St), K M6 = some M' → xV p l e { frames := 1, cells := 0, slots := 0, locals := 48 } s m args below meth c D A (xQv D (xT y) A (fun (_ : Unit) => True) (fun _ : Unit => mC y aM M') 0 0 below args s) 6 (mC y aM M6) 0 0 [(0, .ref (aM 0)), (1, .int v1)] 49 []) : ∀ (fu : Nat) (v4 : Int32) (M5 : St), f3_reckon_L12 v1 K fu v4 M5 = some M' → xV p l e { frames := 1, cells := 0, slots := 0, locals := 48 } s m args below meth c D A (xQv D (xT y) A (fun (_ : Unit) => True) (fun _ : Unit => mC y aM M') 0 0 below args s) 6 (mC y aM M5) 0 0 [(0, .ref (aM 0)), (1, .int v1), (2, .int v4)] 12 [] := by
  intro fu
  induction fu with
  | zero => intro v4 M5 hf; rw [f3_reckon_L12] at hf; cases hf
  | succ fu ih =>
    intro v4 M5 hf
    rw [f3_reckon_L12] at hf
    refine x_iload_n (q := 13) C 2 dX3_reckon_12 rfl rfl rfl ?_
    refine x_aload_n (q := 14) C 0 dX3_reckon_13 rfl rfl rfl ?_
    refine x_get (q := 17) C 1 dX3_reckon_14 (oX3 y aM M5) rfl iuX3_reckon_X3 flX3_reckon_38 rfl (by decide) rfl rfl ?_
    refine x_icmp_ge (t := 49) (q := 20) C dX3_reckon_17 (by decide) rfl (fun hc => ?_) (fun hc => ?_)
    · have hf := (if_pos hc).symm.trans hf
      refine x_sub [0, 1] (L' := [(0, .ref (aM 0)), (1, .int v1)]) rfl ?_
      exact hK M5 hf
    · have hf := (if_neg hc).symm.trans hf
      refine x_aload_n (q := 21) C 0 dX3_reckon_20 rfl rfl rfl ?_
      refine x_get (q := 24) C 7 dX3_reckon_21 (oX3 y aM M5) rfl iuX3_reckon_X3 flX3_reckon_16 rfl (by decide) rfl rfl ?_
      refine x_bipush (q := 26) C dX3_reckon_24 kb_12 rfl ?_
      refine x_iload_n (q := 27) C 1 dX3_reckon_26 rfl rfl rfl ?_
      refine x_imul (q := 28) C dX3_reckon_27 rfl ?_
      refine x_iload_n (q := 29) C 2 dX3_reckon_28 rfl rfl rfl ?_
      refine x_iadd (q := 30) C dX3_reckon_29 rfl ?_
      refine x_iload_n (q := 31) C 1 dX3_reckon_30 rfl rfl rfl ?_
      refine x_iload_n (q := 32) C 2 dX3_reckon_31 rfl rfl rfl ?_
      obtain ⟨J42, eJ42, hf⟩ := lt_elim hf
      have hJ42 : ∀ (v7 : Int32), J42 v7 = some M' → xV p l e { frames := 1, cells := 0, slots := 0, locals := 48 } s m args below meth c D A (xQv D (xT y) A (fun (_ : Unit) => True) (fun _ : Unit => mC y aM M') 0 0 below args s) 6 (mC y aM M5) 0 0 [(0, .ref (aM 0)), (1, .int v1), (2, .int v4)] 42 [.int v7, .int ((12 * v1) + v4), .ref (aM 7)] := by
        intro v7 hf
        subst eJ42
        obtain ⟨hb8, hf⟩ := gd_some hf
        obtain ⟨M9, eM9, hf⟩ := lt_elim hf
        refine x_iast (q := 43) (ws' := mC y aM M9) C 0 dX3_reckon_42 (aX3_7 y aM M5) rfl hb8 (congrArg (fun z => mC y aM z) eM9.symm) rfl ?_
        refine x_iinc (q := 46) C 2 (v4 + 1) [1, 2, 0] [(0, .ref (aM 0)), (1, .int v1), (2, .int (v4 + 1))] dX3_reckon_43 rfl (congrArg (fun z => v4 + z) ki_1) (by decide) rfl rfl ?_
        refine x_goto (t := 12) C dX3_reckon_46 (by decide) ?_
        exact ih (v4 + 1) M9 hf
      refine x_icmp_ne (t := 39) (q := 35) C dX3_reckon_32 (by decide) rfl (fun hc => ?_) (fun hc => ?_)
      · have hf := (if_neg hc).symm.trans hf
        refine x_sipush (q := 42) C dX3_reckon_39 ks_9999 rfl ?_
        exact hJ42 9999 hf
      · have hf := (if_pos hc).symm.trans hf
        refine x_iconst (q := 36) C dX3_reckon_35 ki_0 rfl ?_
        refine x_goto (t := 42) C dX3_reckon_36 (by decide) ?_
        exact hJ42 0 hf
set_option maxHeartbeats 4000000 in
set_option maxRecDepth 100000 in
theorem w3_reckon_L2 {p : Program} {l : Launch} {e : Env} {s : State} {m : MethodId} {args : Array Value} {below : List Frame} {meth : Method} {c : Code} {D : va_G} {A : Nat → Prop} {y : Nat → ClassId} {aM : Nat → Nat} {M' : St} {K : St → Option (St)} (C : xC p s m args meth c D A cX3_reckon RX3 6 wsX3_reckon (xT y) none) (hK : ∀ (M3 : St), K M3 = some M' → xV p l e { frames := 1, cells := 0, slots := 0, locals := 48 } s m args below meth c D A (xQv D (xT y) A (fun (_ : Unit) => True) (fun _ : Unit => mC y aM M') 0 0 below args s) 6 (mC y aM M3) 0 0 [(0, .ref (aM 0))] 55 []) : ∀ (fu : Nat) (v1 : Int32) (M2 : St), f3_reckon_L2 K fu v1 M2 = some M' → xV p l e { frames := 1, cells := 0, slots := 0, locals := 48 } s m args below meth c D A (xQv D (xT y) A (fun (_ : Unit) => True) (fun _ : Unit => mC y aM M') 0 0 below args s) 6 (mC y aM M2) 0 0 [(0, .ref (aM 0)), (1, .int v1)] 2 [] := by
  intro fu
  induction fu with
  | zero => intro v1 M2 hf; rw [f3_reckon_L2] at hf; cases hf
  | succ fu ih =>
    intro v1 M2 hf
    rw [f3_reckon_L2] at hf
    refine x_iload_n (q := 3) C 1 dX3_reckon_2 rfl rfl rfl ?_
    refine x_aload_n (q := 4) C 0 dX3_reckon_3 rfl rfl rfl ?_
    refine x_get (q := 7) C 1 dX3_reckon_4 (oX3 y aM M2) rfl iuX3_reckon_X3 flX3_reckon_38 rfl (by decide) rfl rfl ?_
    refine x_icmp_ge (t := 55) (q := 10) C dX3_reckon_7 (by decide) rfl (fun hc => ?_) (fun hc => ?_)
    · have hf := (if_pos hc).symm.trans hf
      refine x_sub [0] (L' := [(0, .ref (aM 0))]) rfl ?_
      exact hK M2 hf
    · have hf := (if_neg hc).symm.trans hf
      refine x_iconst (q := 11) C dX3_reckon_10 ki_0 rfl ?_
      refine x_istore_n (q := 12) C [1, 2, 0] [(0, .ref (aM 0)), (1, .int v1), (2, .int 0)] dX3_reckon_11 rfl (by decide) rfl rfl ?_
      refine w3_reckon_L12 C (fun M6 hf => ?_) xF 0 M2 hf
      refine x_iinc (q := 52) C 1 (v1 + 1) [1, 0] [(0, .ref (aM 0)), (1, .int (v1 + 1))] dX3_reckon_49 rfl (congrArg (fun z => v1 + z) ki_1) (by decide) rfl rfl ?_
      refine x_goto (t := 2) C dX3_reckon_52 (by decide) ?_
      exact ih (v1 + 1) M6 hf
set_option maxHeartbeats 4000000 in
set_option maxRecDepth 100000 in
theorem w3_reckon_L67 {p : Program} {l : Launch} {e : Env} {s : State} {m : MethodId} {args : Array Value} {below : List Frame} {meth : Method} {c : Code} {D : va_G} {A : Nat → Prop} {y : Nat → ClassId} {aM : Nat → Nat} {v10 : Int32} {M' : St} {K : St → Option (St)} (C : xC p s m args meth c D A cX3_reckon RX3 6 wsX3_reckon (xT y) none) (hK : ∀ (M15 : St), K M15 = some M' → xV p l e { frames := 1, cells := 0, slots := 0, locals := 48 } s m args below meth c D A (xQv D (xT y) A (fun (_ : Unit) => True) (fun _ : Unit => mC y aM M') 0 0 below args s) 6 (mC y aM M15) 0 0 [(0, .ref (aM 0)), (1, .int v10)] 167 []) : ∀ (fu : Nat) (v13 : Int32) (M14 : St), f3_reckon_L67 v10 K fu v13 M14 = some M' → xV p l e { frames := 1, cells := 0, slots := 0, locals := 48 } s m args below meth c D A (xQv D (xT y) A (fun (_ : Unit) => True) (fun _ : Unit => mC y aM M') 0 0 below args s) 6 (mC y aM M14) 0 0 [(0, .ref (aM 0)), (1, .int v10), (2, .int v13)] 67 [] := by
  intro fu
  induction fu with
  | zero => intro v13 M14 hf; rw [f3_reckon_L67] at hf; cases hf
  | succ fu ih =>
    intro v13 M14 hf
    rw [f3_reckon_L67] at hf
    refine x_iload_n (q := 68) C 2 dX3_reckon_67 rfl rfl rfl ?_
    refine x_iconst (q := 69) C dX3_reckon_68 ki_2 rfl ?_
    refine x_icmp_ge (t := 167) (q := 72) C dX3_reckon_69 (by decide) rfl (fun hc => ?_) (fun hc => ?_)
    · have hf := (if_pos hc).symm.trans hf
      refine x_sub [0, 1] (L' := [(0, .ref (aM 0)), (1, .int v10)]) rfl ?_
      exact hK M14 hf
    · have hf := (if_neg hc).symm.trans hf
      refine x_aload_n (q := 73) C 0 dX3_reckon_72 rfl rfl rfl ?_
      refine x_iload_n (q := 74) C 1 dX3_reckon_73 rfl rfl rfl ?_
      refine x_iload_n (q := 75) C 2 dX3_reckon_74 rfl rfl rfl ?_
      obtain ⟨J83, eJ83, hf⟩ := lt_elim hf
      have hJ83 : ∀ (v16 : Int32), J83 v16 = some M' → xV p l e { frames := 1, cells := 0, slots := 0, locals := 48 } s m args below meth c D A (xQv D (xT y) A (fun (_ : Unit) => True) (fun _ : Unit => mC y aM M') 0 0 below args s) 6 (mC y aM M14) 0 0 [(0, .ref (aM 0)), (1, .int v10), (2, .int v13)] 83 [.int v16, .int v10, .ref (aM 0)] := by
        intro v16 hf
        subst eJ83
        obtain ⟨v17, hcal18, hf⟩ := bd_some hf
        refine x_callVi (q := 86) C (c3_ro (l := l) (D := D) (y := y) (aM := aM) hcal18) yi_X3_ro gX3_reckon_X3_ro rfl (oX3 y aM M14) rfl ⟨(Nat.le_of_ble_eq_true rfl), (Nat.le_of_ble_eq_true rfl)⟩ dX3_reckon_83 pm_nil rfl rfl (Nat.le_of_ble_eq_true rfl) ⟨Nat.le_of_ble_eq_true rfl, Nat.le_of_ble_eq_true rfl⟩ rfl ?_
        intro rr19 uu hrr
        have hrr : v17 = rr19 := Eq.symm hrr
        subst hrr
        refine x_world (ws' := mC y aM M14) (List.append_nil _) ?_
        refine x_istore_n (q := 87) C [1, 2, 3, 0] [(0, .ref (aM 0)), (1, .int v10), (2, .int v13), (3, .int v17)] dX3_reckon_86 rfl (by decide) rfl rfl ?_
        refine x_aload_n (q := 88) C 0 dX3_reckon_87 rfl rfl rfl ?_
        refine x_iload_n (q := 89) C 1 dX3_reckon_88 rfl rfl rfl ?_
        refine x_iload_n (q := 90) C 2 dX3_reckon_89 rfl rfl rfl ?_
        obtain ⟨J98, eJ98, hf⟩ := lt_elim hf
        have hJ98 : ∀ (v20 : Int32), J98 v20 = some M' → xV p l e { frames := 1, cells := 0, slots := 0, locals := 48 } s m args below meth c D A (xQv D (xT y) A (fun (_ : Unit) => True) (fun _ : Unit => mC y aM M') 0 0 below args s) 6 (mC y aM M14) 0 0 [(0, .ref (aM 0)), (1, .int v10), (2, .int v13), (3, .int v17)] 98 [.int v20, .int v10, .ref (aM 0)] := by
          intro v20 hf
          subst eJ98
          obtain ⟨v21, hcal22, hf⟩ := bd_some hf
          refine x_callVi (q := 101) C (c3_ro (l := l) (D := D) (y := y) (aM := aM) hcal22) yi_X3_ro gX3_reckon_X3_ro rfl (oX3 y aM M14) rfl ⟨(Nat.le_of_ble_eq_true rfl), (Nat.le_of_ble_eq_true rfl)⟩ dX3_reckon_98 pm_nil rfl rfl (Nat.le_of_ble_eq_true rfl) ⟨Nat.le_of_ble_eq_true rfl, Nat.le_of_ble_eq_true rfl⟩ rfl ?_
          intro rr23 uu hrr
          have hrr : v21 = rr23 := Eq.symm hrr
          subst hrr
          refine x_world (ws' := mC y aM M14) (List.append_nil _) ?_
          refine x_istore (q := 103) C [1, 2, 3, 4, 0] [(0, .ref (aM 0)), (1, .int v10), (2, .int v13), (3, .int v17), (4, .int v21)] dX3_reckon_101 (by decide) rfl rfl ?_
          refine x_aload_n (q := 104) C 0 dX3_reckon_103 rfl rfl rfl ?_
          refine x_iload_n (q := 105) C 1 dX3_reckon_104 rfl rfl rfl ?_
          refine x_iconst (q := 106) C dX3_reckon_105 ki_2 rfl ?_
          obtain ⟨v24, hcal25, hf⟩ := bd_some hf
          refine x_callVi (q := 109) C (c3_ro (l := l) (D := D) (y := y) (aM := aM) hcal25) yi_X3_ro gX3_reckon_X3_ro rfl (oX3 y aM M14) rfl ⟨(Nat.le_of_ble_eq_true rfl), (Nat.le_of_ble_eq_true rfl)⟩ dX3_reckon_106 pm_nil rfl rfl (Nat.le_of_ble_eq_true rfl) ⟨Nat.le_of_ble_eq_true rfl, Nat.le_of_ble_eq_true rfl⟩ rfl ?_
          intro rr26 uu hrr
          have hrr : v24 = rr26 := Eq.symm hrr
          subst hrr
          refine x_world (ws' := mC y aM M14) (List.append_nil _) ?_
          refine x_iconst (q := 110) C dX3_reckon_109 ki_0 rfl ?_
          refine x_aload_n (q := 111) C 0 dX3_reckon_110 rfl rfl rfl ?_
          refine x_get (q := 114) C 5 dX3_reckon_111 (oX3 y aM M14) rfl iuX3_reckon_X3 flX3_reckon_9 rfl (by decide) rfl rfl ?_
          refine x_iload (q := 116) C 4 dX3_reckon_114 rfl rfl ?_
          obtain ⟨hb27, hf⟩ := gd_some hf
          refine x_iald (q := 117) C 0 dX3_reckon_116 (aX3_5 y aM M14) rfl hb27 rfl ?_
          refine x_aload_n (q := 118) C 0 dX3_reckon_117 rfl rfl rfl ?_
          refine x_get (q := 121) C 5 dX3_reckon_118 (oX3 y aM M14) rfl iuX3_reckon_X3 flX3_reckon_9 rfl (by decide) rfl rfl ?_
          refine x_iload_n (q := 122) C 3 dX3_reckon_121 rfl rfl rfl ?_
          obtain ⟨hb28, hf⟩ := gd_some hf
          refine x_iald (q := 123) C 0 dX3_reckon_122 (aX3_5 y aM M14) rfl hb28 rfl ?_
          refine x_isub (q := 124) C dX3_reckon_123 rfl ?_
          refine x_mmax (q := 127) C dX3_reckon_124 kmX3_reckon_58 (Nat.le_of_ble_eq_true rfl) (Nat.le_of_ble_eq_true rfl) (Nat.le_of_ble_eq_true rfl) (Nat.le_of_ble_eq_true rfl) rfl ?_
          refine x_iconst (q := 128) C dX3_reckon_127 ki_2 rfl ?_
          refine x_idiv (q := 129) C dX3_reckon_128 (by decide) rfl ?_
          refine x_iadd (q := 130) C dX3_reckon_129 rfl ?_
          obtain ⟨v29, ev29, hf⟩ := lt_elim hf
          refine x_topi ev29 ?_
          refine x_istore (q := 132) C [1, 2, 3, 4, 5, 0] [(0, .ref (aM 0)), (1, .int v10), (2, .int v13), (3, .int v17), (4, .int v21), (5, .int v29)] dX3_reckon_130 (by decide) rfl rfl ?_
          refine x_aload_n (q := 133) C 0 dX3_reckon_132 rfl rfl rfl ?_
          refine x_get (q := 136) C 7 dX3_reckon_133 (oX3 y aM M14) rfl iuX3_reckon_X3 flX3_reckon_16 rfl (by decide) rfl rfl ?_
          refine x_bipush (q := 138) C dX3_reckon_136 kb_12 rfl ?_
          refine x_iload_n (q := 139) C 3 dX3_reckon_138 rfl rfl rfl ?_
          refine x_imul (q := 140) C dX3_reckon_139 rfl ?_
          refine x_iload (q := 142) C 4 dX3_reckon_140 rfl rfl ?_
          refine x_iadd (q := 143) C dX3_reckon_142 rfl ?_
          refine x_aload_n (q := 144) C 0 dX3_reckon_143 rfl rfl rfl ?_
          refine x_get (q := 147) C 7 dX3_reckon_144 (oX3 y aM M14) rfl iuX3_reckon_X3 flX3_reckon_16 rfl (by decide) rfl rfl ?_
          refine x_bipush (q := 149) C dX3_reckon_147 kb_12 rfl ?_
          refine x_iload_n (q := 150) C 3 dX3_reckon_149 rfl rfl rfl ?_
          refine x_imul (q := 151) C dX3_reckon_150 rfl ?_
          refine x_iload (q := 153) C 4 dX3_reckon_151 rfl rfl ?_
          refine x_iadd (q := 154) C dX3_reckon_153 rfl ?_
          obtain ⟨hb30, hf⟩ := gd_some hf
          refine x_iald (q := 155) C 0 dX3_reckon_154 (aX3_7 y aM M14) rfl hb30 rfl ?_
          refine x_iload (q := 157) C 5 dX3_reckon_155 rfl rfl ?_
          refine x_mmin (q := 160) C dX3_reckon_157 kmX3_reckon_63 (Nat.le_of_ble_eq_true rfl) (Nat.le_of_ble_eq_true rfl) (Nat.le_of_ble_eq_true rfl) (Nat.le_of_ble_eq_true rfl) rfl ?_
          obtain ⟨M31, eM31, hf⟩ := lt_elim hf
          refine x_iast (q := 161) (ws' := mC y aM M31) C 0 dX3_reckon_160 (aX3_7 y aM M14) rfl hb30 (congrArg (fun z => mC y aM z) eM31.symm) rfl ?_
          refine x_iinc (q := 164) C 2 (v13 + 1) [1, 2, 0] [(0, .ref (aM 0)), (1, .int v10), (2, .int (v13 + 1))] dX3_reckon_161 rfl (congrArg (fun z => v13 + z) ki_1) (by decide) rfl rfl ?_
          refine x_goto (t := 67) C dX3_reckon_164 (by decide) ?_
          exact ih (v13 + 1) M31 hf
        refine x_if_ne (t := 97) (q := 93) C dX3_reckon_90 (by decide) rfl (fun hc => ?_) (fun hc => ?_)
        · have hf := (if_neg hc).symm.trans hf
          refine x_iconst (q := 98) C dX3_reckon_97 ki_0 rfl ?_
          exact hJ98 0 hf
        · have hf := (if_pos hc).symm.trans hf
          refine x_iconst (q := 94) C dX3_reckon_93 ki_1 rfl ?_
          refine x_goto (t := 98) C dX3_reckon_94 (by decide) ?_
          exact hJ98 1 hf
      refine x_if_ne (t := 82) (q := 78) C dX3_reckon_75 (by decide) rfl (fun hc => ?_) (fun hc => ?_)
      · have hf := (if_neg hc).symm.trans hf
        refine x_iconst (q := 83) C dX3_reckon_82 ki_1 rfl ?_
        exact hJ83 1 hf
      · have hf := (if_pos hc).symm.trans hf
        refine x_iconst (q := 79) C dX3_reckon_78 ki_0 rfl ?_
        refine x_goto (t := 83) C dX3_reckon_79 (by decide) ?_
        exact hJ83 0 hf
set_option maxHeartbeats 4000000 in
set_option maxRecDepth 100000 in
theorem w3_reckon_L57 {p : Program} {l : Launch} {e : Env} {s : State} {m : MethodId} {args : Array Value} {below : List Frame} {meth : Method} {c : Code} {D : va_G} {A : Nat → Prop} {y : Nat → ClassId} {aM : Nat → Nat} {M' : St} {K : St → Option (St)} (C : xC p s m args meth c D A cX3_reckon RX3 6 wsX3_reckon (xT y) none) (hK : ∀ (M12 : St), K M12 = some M' → xV p l e { frames := 1, cells := 0, slots := 0, locals := 48 } s m args below meth c D A (xQv D (xT y) A (fun (_ : Unit) => True) (fun _ : Unit => mC y aM M') 0 0 below args s) 6 (mC y aM M12) 0 0 [(0, .ref (aM 0))] 173 []) : ∀ (fu : Nat) (v10 : Int32) (M11 : St), f3_reckon_L57 K fu v10 M11 = some M' → xV p l e { frames := 1, cells := 0, slots := 0, locals := 48 } s m args below meth c D A (xQv D (xT y) A (fun (_ : Unit) => True) (fun _ : Unit => mC y aM M') 0 0 below args s) 6 (mC y aM M11) 0 0 [(0, .ref (aM 0)), (1, .int v10)] 57 [] := by
  intro fu
  induction fu with
  | zero => intro v10 M11 hf; rw [f3_reckon_L57] at hf; cases hf
  | succ fu ih =>
    intro v10 M11 hf
    rw [f3_reckon_L57] at hf
    refine x_iload_n (q := 58) C 1 dX3_reckon_57 rfl rfl rfl ?_
    refine x_aload_n (q := 59) C 0 dX3_reckon_58 rfl rfl rfl ?_
    refine x_get (q := 62) C 2 dX3_reckon_59 (oX3 y aM M11) rfl iuX3_reckon_X3 flX3_reckon_45 rfl (by decide) rfl rfl ?_
    refine x_icmp_ge (t := 173) (q := 65) C dX3_reckon_62 (by decide) rfl (fun hc => ?_) (fun hc => ?_)
    · have hf := (if_pos hc).symm.trans hf
      refine x_sub [0] (L' := [(0, .ref (aM 0))]) rfl ?_
      exact hK M11 hf
    · have hf := (if_neg hc).symm.trans hf
      refine x_iconst (q := 66) C dX3_reckon_65 ki_0 rfl ?_
      refine x_istore_n (q := 67) C [1, 2, 0] [(0, .ref (aM 0)), (1, .int v10), (2, .int 0)] dX3_reckon_66 rfl (by decide) rfl rfl ?_
      refine w3_reckon_L67 C (fun M15 hf => ?_) xF 0 M11 hf
      refine x_iinc (q := 170) C 1 (v10 + 1) [1, 0] [(0, .ref (aM 0)), (1, .int (v10 + 1))] dX3_reckon_167 rfl (congrArg (fun z => v10 + z) ki_1) (by decide) rfl rfl ?_
      refine x_goto (t := 57) C dX3_reckon_170 (by decide) ?_
      exact ih (v10 + 1) M15 hf
set_option maxHeartbeats 4000000 in
set_option maxRecDepth 100000 in
theorem w3_reckon_L195 {p : Program} {l : Launch} {e : Env} {s : State} {m : MethodId} {args : Array Value} {below : List Frame} {meth : Method} {c : Code} {D : va_G} {A : Nat → Prop} {y : Nat → ClassId} {aM : Nat → Nat} {v32 : Int32} {v34 : Int32} {M' : St} {K : St → Option (St)} (C : xC p s m args meth c D A cX3_reckon RX3 6 wsX3_reckon (xT y) none) (hK : ∀ (M39 : St), K M39 = some M' → xV p l e { frames := 1, cells := 0, slots := 0, locals := 48 } s m args below meth c D A (xQv D (xT y) A (fun (_ : Unit) => True) (fun _ : Unit => mC y aM M') 0 0 below args s) 6 (mC y aM M39) 0 0 [(0, .ref (aM 0)), (1, .int v32), (2, .int v34)] 257 []) : ∀ (fu : Nat) (v37 : Int32) (M38 : St), f3_reckon_L195 v32 v34 K fu v37 M38 = some M' → xV p l e { frames := 1, cells := 0, slots := 0, locals := 48 } s m args below meth c D A (xQv D (xT y) A (fun (_ : Unit) => True) (fun _ : Unit => mC y aM M') 0 0 below args s) 6 (mC y aM M38) 0 0 [(0, .ref (aM 0)), (1, .int v32), (2, .int v34), (3, .int v37)] 195 [] := by
  intro fu
  induction fu with
  | zero => intro v37 M38 hf; rw [f3_reckon_L195] at hf; cases hf
  | succ fu ih =>
    intro v37 M38 hf
    rw [f3_reckon_L195] at hf
    refine x_iload_n (q := 196) C 3 dX3_reckon_195 rfl rfl rfl ?_
    refine x_aload_n (q := 197) C 0 dX3_reckon_196 rfl rfl rfl ?_
    refine x_get (q := 200) C 1 dX3_reckon_197 (oX3 y aM M38) rfl iuX3_reckon_X3 flX3_reckon_38 rfl (by decide) rfl rfl ?_
    refine x_icmp_ge (t := 257) (q := 203) C dX3_reckon_200 (by decide) rfl (fun hc => ?_) (fun hc => ?_)
    · have hf := (if_pos hc).symm.trans hf
      refine x_sub [0, 1, 2] (L' := [(0, .ref (aM 0)), (1, .int v32), (2, .int v34)]) rfl ?_
      exact hK M38 hf
    · have hf := (if_neg hc).symm.trans hf
      refine x_aload_n (q := 204) C 0 dX3_reckon_203 rfl rfl rfl ?_
      refine x_get (q := 207) C 7 dX3_reckon_204 (oX3 y aM M38) rfl iuX3_reckon_X3 flX3_reckon_16 rfl (by decide) rfl rfl ?_
      refine x_bipush (q := 209) C dX3_reckon_207 kb_12 rfl ?_
      refine x_iload_n (q := 210) C 2 dX3_reckon_209 rfl rfl rfl ?_
      refine x_imul (q := 211) C dX3_reckon_210 rfl ?_
      refine x_iload_n (q := 212) C 3 dX3_reckon_211 rfl rfl rfl ?_
      refine x_iadd (q := 213) C dX3_reckon_212 rfl ?_
      refine x_aload_n (q := 214) C 0 dX3_reckon_213 rfl rfl rfl ?_
      refine x_get (q := 217) C 7 dX3_reckon_214 (oX3 y aM M38) rfl iuX3_reckon_X3 flX3_reckon_16 rfl (by decide) rfl rfl ?_
      refine x_bipush (q := 219) C dX3_reckon_217 kb_12 rfl ?_
      refine x_iload_n (q := 220) C 2 dX3_reckon_219 rfl rfl rfl ?_
      refine x_imul (q := 221) C dX3_reckon_220 rfl ?_
      refine x_iload_n (q := 222) C 3 dX3_reckon_221 rfl rfl rfl ?_
      refine x_iadd (q := 223) C dX3_reckon_222 rfl ?_
      obtain ⟨hb40, hf⟩ := gd_some hf
      refine x_iald (q := 224) C 0 dX3_reckon_223 (aX3_7 y aM M38) rfl hb40 rfl ?_
      refine x_aload_n (q := 225) C 0 dX3_reckon_224 rfl rfl rfl ?_
      refine x_get (q := 228) C 7 dX3_reckon_225 (oX3 y aM M38) rfl iuX3_reckon_X3 flX3_reckon_16 rfl (by decide) rfl rfl ?_
      refine x_bipush (q := 230) C dX3_reckon_228 kb_12 rfl ?_
      refine x_iload_n (q := 231) C 2 dX3_reckon_230 rfl rfl rfl ?_
      refine x_imul (q := 232) C dX3_reckon_231 rfl ?_
      refine x_iload_n (q := 233) C 1 dX3_reckon_232 rfl rfl rfl ?_
      refine x_iadd (q := 234) C dX3_reckon_233 rfl ?_
      obtain ⟨hb41, hf⟩ := gd_some hf
      refine x_iald (q := 235) C 0 dX3_reckon_234 (aX3_7 y aM M38) rfl hb41 rfl ?_
      refine x_aload_n (q := 236) C 0 dX3_reckon_235 rfl rfl rfl ?_
      refine x_get (q := 239) C 7 dX3_reckon_236 (oX3 y aM M38) rfl iuX3_reckon_X3 flX3_reckon_16 rfl (by decide) rfl rfl ?_
      refine x_bipush (q := 241) C dX3_reckon_239 kb_12 rfl ?_
      refine x_iload_n (q := 242) C 1 dX3_reckon_241 rfl rfl rfl ?_
      refine x_imul (q := 243) C dX3_reckon_242 rfl ?_
      refine x_iload_n (q := 244) C 3 dX3_reckon_243 rfl rfl rfl ?_
      refine x_iadd (q := 245) C dX3_reckon_244 rfl ?_
      obtain ⟨hb42, hf⟩ := gd_some hf
      refine x_iald (q := 246) C 0 dX3_reckon_245 (aX3_7 y aM M38) rfl hb42 rfl ?_
      refine x_iadd (q := 247) C dX3_reckon_246 rfl ?_
      refine x_mmin (q := 250) C dX3_reckon_247 kmX3_reckon_63 (Nat.le_of_ble_eq_true rfl) (Nat.le_of_ble_eq_true rfl) (Nat.le_of_ble_eq_true rfl) (Nat.le_of_ble_eq_true rfl) rfl ?_
      obtain ⟨M43, eM43, hf⟩ := lt_elim hf
      refine x_iast (q := 251) (ws' := mC y aM M43) C 0 dX3_reckon_250 (aX3_7 y aM M38) rfl hb40 (congrArg (fun z => mC y aM z) eM43.symm) rfl ?_
      refine x_iinc (q := 254) C 3 (v37 + 1) [1, 2, 3, 0] [(0, .ref (aM 0)), (1, .int v32), (2, .int v34), (3, .int (v37 + 1))] dX3_reckon_251 rfl (congrArg (fun z => v37 + z) ki_1) (by decide) rfl rfl ?_
      refine x_goto (t := 195) C dX3_reckon_254 (by decide) ?_
      exact ih (v37 + 1) M43 hf
set_option maxHeartbeats 4000000 in
set_option maxRecDepth 100000 in
theorem w3_reckon_L185 {p : Program} {l : Launch} {e : Env} {s : State} {m : MethodId} {args : Array Value} {below : List Frame} {meth : Method} {c : Code} {D : va_G} {A : Nat → Prop} {y : Nat → ClassId} {aM : Nat → Nat} {v32 : Int32} {M' : St} {K : St → Option (St)} (C : xC p s m args meth c D A cX3_reckon RX3 6 wsX3_reckon (xT y) none) (hK : ∀ (M36 : St), K M36 = some M' → xV p l e { frames := 1, cells := 0, slots := 0, locals := 48 } s m args below meth c D A (xQv D (xT y) A (fun (_ : Unit) => True) (fun _ : Unit => mC y aM M') 0 0 below args s) 6 (mC y aM M36) 0 0 [(0, .ref (aM 0)), (1, .int v32)] 263 []) : ∀ (fu : Nat) (v34 : Int32) (M35 : St), f3_reckon_L185 v32 K fu v34 M35 = some M' → xV p l e { frames := 1, cells := 0, slots := 0, locals := 48 } s m args below meth c D A (xQv D (xT y) A (fun (_ : Unit) => True) (fun _ : Unit => mC y aM M') 0 0 below args s) 6 (mC y aM M35) 0 0 [(0, .ref (aM 0)), (1, .int v32), (2, .int v34)] 185 [] := by
  intro fu
  induction fu with
  | zero => intro v34 M35 hf; rw [f3_reckon_L185] at hf; cases hf
  | succ fu ih =>
    intro v34 M35 hf
    rw [f3_reckon_L185] at hf
    refine x_iload_n (q := 186) C 2 dX3_reckon_185 rfl rfl rfl ?_
    refine x_aload_n (q := 187) C 0 dX3_reckon_186 rfl rfl rfl ?_
    refine x_get (q := 190) C 1 dX3_reckon_187 (oX3 y aM M35) rfl iuX3_reckon_X3 flX3_reckon_38 rfl (by decide) rfl rfl ?_
    refine x_icmp_ge (t := 263) (q := 193) C dX3_reckon_190 (by decide) rfl (fun hc => ?_) (fun hc => ?_)
    · have hf := (if_pos hc).symm.trans hf
      refine x_sub [0, 1] (L' := [(0, .ref (aM 0)), (1, .int v32)]) rfl ?_
      exact hK M35 hf
    · have hf := (if_neg hc).symm.trans hf
      refine x_iconst (q := 194) C dX3_reckon_193 ki_0 rfl ?_
      refine x_istore_n (q := 195) C [1, 2, 3, 0] [(0, .ref (aM 0)), (1, .int v32), (2, .int v34), (3, .int 0)] dX3_reckon_194 rfl (by decide) rfl rfl ?_
      refine w3_reckon_L195 C (fun M39 hf => ?_) xF 0 M35 hf
      refine x_iinc (q := 260) C 2 (v34 + 1) [1, 2, 0] [(0, .ref (aM 0)), (1, .int v32), (2, .int (v34 + 1))] dX3_reckon_257 rfl (congrArg (fun z => v34 + z) ki_1) (by decide) rfl rfl ?_
      refine x_goto (t := 185) C dX3_reckon_260 (by decide) ?_
      exact ih (v34 + 1) M39 hf
set_option maxHeartbeats 4000000 in
set_option maxRecDepth 100000 in
theorem w3_reckon_L175 {p : Program} {l : Launch} {e : Env} {s : State} {m : MethodId} {args : Array Value} {below : List Frame} {meth : Method} {c : Code} {D : va_G} {A : Nat → Prop} {y : Nat → ClassId} {aM : Nat → Nat} {M' : St} (C : xC p s m args meth c D A cX3_reckon RX3 6 wsX3_reckon (xT y) none) : ∀ (fu : Nat) (v32 : Int32) (M33 : St), f3_reckon_L175 fu v32 M33 = some M' → xV p l e { frames := 1, cells := 0, slots := 0, locals := 48 } s m args below meth c D A (xQv D (xT y) A (fun (_ : Unit) => True) (fun _ : Unit => mC y aM M') 0 0 below args s) 6 (mC y aM M33) 0 0 [(0, .ref (aM 0)), (1, .int v32)] 175 [] := by
  intro fu
  induction fu with
  | zero => intro v32 M33 hf; rw [f3_reckon_L175] at hf; cases hf
  | succ fu ih =>
    intro v32 M33 hf
    rw [f3_reckon_L175] at hf
    refine x_iload_n (q := 176) C 1 dX3_reckon_175 rfl rfl rfl ?_
    refine x_aload_n (q := 177) C 0 dX3_reckon_176 rfl rfl rfl ?_
    refine x_get (q := 180) C 1 dX3_reckon_177 (oX3 y aM M33) rfl iuX3_reckon_X3 flX3_reckon_38 rfl (by decide) rfl rfl ?_
    refine x_icmp_ge (t := 269) (q := 183) C dX3_reckon_180 (by decide) rfl (fun hc => ?_) (fun hc => ?_)
    · have hf := (if_pos hc).symm.trans hf
      have hf := Option.some.inj hf
      exact x_vret () C dX3_reckon_269 rfl trivial (congrArg (fun z => mC y aM z) hf) (Nat.le_of_ble_eq_true rfl) (Nat.le_of_ble_eq_true rfl)
    · have hf := (if_neg hc).symm.trans hf
      refine x_iconst (q := 184) C dX3_reckon_183 ki_0 rfl ?_
      refine x_istore_n (q := 185) C [1, 2, 0] [(0, .ref (aM 0)), (1, .int v32), (2, .int 0)] dX3_reckon_184 rfl (by decide) rfl rfl ?_
      refine w3_reckon_L185 C (fun M36 hf => ?_) xF 0 M33 hf
      refine x_iinc (q := 266) C 1 (v32 + 1) [1, 0] [(0, .ref (aM 0)), (1, .int (v32 + 1))] dX3_reckon_263 rfl (congrArg (fun z => v32 + z) ki_1) (by decide) rfl rfl ?_
      refine x_goto (t := 175) C dX3_reckon_266 (by decide) ?_
      exact ih (v32 + 1) M36 hf
set_option maxHeartbeats 4000000 in
set_option maxRecDepth 100000 in
theorem c3_reckon {l : Launch} {D : va_G} {y : Nat → ClassId} {aM : Nat → Nat} {M : St} {M' : St} (hf : f3_reckon M = some M') : xMv l yX3_reckon wsX3_reckon 1 48 0 0 D (xT y) [.ref (aM 0)] (mC y aM M) (fun (_ : Unit) => True) (fun _ : Unit => mC y aM M') := by
  refine xMv_of (cc := cX3_reckon) (nL := 6) (ret := none) [(0, .ref (aM 0))] (by decide) rfl (Nat.le_of_ble_eq_true rfl) rfl ?_
  intro p e s m args below meth c A C hin
  have C : xC p s m args meth c D A cX3_reckon RX3 6 wsX3_reckon (xT y) none := C
  unfold f3_reckon at hf
  refine x_iconst (q := 1) C dX3_reckon_0 ki_0 rfl ?_
  refine x_istore_n (q := 2) C [1, 0] [(0, .ref (aM 0)), (1, .int 0)] dX3_reckon_1 rfl (by decide) rfl rfl ?_
  refine w3_reckon_L2 C (fun M3 hf => ?_) xF 0 M hf
  refine x_iconst (q := 56) C dX3_reckon_55 ki_0 rfl ?_
  refine x_istore_n (q := 57) C [1, 0] [(0, .ref (aM 0)), (1, .int 0)] dX3_reckon_56 rfl (by decide) rfl rfl ?_
  refine w3_reckon_L57 C (fun M12 hf => ?_) xF 0 M3 hf
  refine x_iconst (q := 174) C dX3_reckon_173 ki_0 rfl ?_
  refine x_istore_n (q := 175) C [1, 0] [(0, .ref (aM 0)), (1, .int 0)] dX3_reckon_174 rfl (by decide) rfl rfl ?_
  exact w3_reckon_L175 C xF 0 M12 hf

/-! LampHillsModel.corner(I)I -/
theorem flX3_corner_34 : Cond.fieldLink RX3 34 "LampHillsModel" "thrown" "I" ∈ wsX3_corner := by decide +kernel
theorem flX3_corner_38 : Cond.fieldLink RX3 38 "LampHillsModel" "corners" "I" ∈ wsX3_corner := by decide +kernel
theorem flX3_corner_9 : Cond.fieldLink RX3 9 "LampHillsModel" "heights" "[I" ∈ wsX3_corner := by decide +kernel
theorem iuX3_corner_X3 : ∀ w ∈ u_ws RX3 TX3 13, w ∈ wsX3_corner := fun _ h => List.mem_cons_of_mem _ (List.mem_append_right _ h)
theorem yi_X3_fail : xY yX3_fail wsX3_fail cX3_fail 2 (some .int) 1 := ⟨⟨_, rfl⟩, by decide +kernel, by decide +kernel, by decide +kernel⟩
theorem yi_X3_reckon : xY yX3_reckon wsX3_reckon cX3_reckon 6 none 0 := ⟨⟨_, rfl⟩, by decide +kernel, by decide +kernel, by decide +kernel⟩
def f3_corner (M : St) (p1 : Int32) : Option (Int32 × St) :=
  lt_ (up2 M 0 0 0) fun M1 =>
  bd (f3_isIn p1 0 30) fun v2 =>
  if v2 = 0 then
  (
    bd2 (f3_fail M1 1) fun v14 M15 =>
    some (v14, M15)
  )
  else
  (
    if (M1 1 0) = 12 then
    (
      bd2 (f3_fail M1 2) fun v10 M11 =>
      some (v10, M11)
    )
    else
    (
      gd (xin (M1 1 0) 12) <|
      lt_ (up2 M1 5 (M1 1 0).toNatClampNeg p1) fun M6 =>
      lt_ (up2 M6 1 0 ((M6 1 0) + 1)) fun M7 =>
      bd (f3_reckon M7) fun M8 =>
      some (((M8 1 0) - 1), M8)
    )
  )
set_option maxHeartbeats 4000000 in
set_option maxRecDepth 100000 in
theorem c3_corner {l : Launch} {D : va_G} {y : Nat → ClassId} {aM : Nat → Nat} {M : St} {p1 : Int32} {r : Int32} {M' : St} (hf : f3_corner M p1 = some (r, M')) : xMi l yX3_corner wsX3_corner 2 73 0 0 D (xT y) [.ref (aM 0), .int p1] (mC y aM M) (fun (r' : Int32) (_ : Unit) => r' = r) (fun _ : Unit => mC y aM M') := by
  refine xMi_of (cc := cX3_corner) (nL := 2) (ret := (some .int)) [(0, .ref (aM 0)), (1, .int p1)] (by decide) rfl (Nat.le_of_ble_eq_true rfl) rfl ?_
  intro p e s m args below meth c A C hin
  have C : xC p s m args meth c D A cX3_corner RX3 2 wsX3_corner (xT y) (some .int) := C
  unfold f3_corner at hf
  refine x_aload_n (q := 1) C 0 dX3_corner_0 rfl rfl rfl ?_
  refine x_iconst (q := 2) C dX3_corner_1 ki_0 rfl ?_
  obtain ⟨M1, eM1, hf⟩ := lt_elim hf
  refine x_puti (q := 5) (ws' := mC y aM M1) C tyX3 tyX3_ok nmX3 dX3_corner_2 (iX3_0 y aM M) rfl iuX3_corner_X3 flX3_corner_34 rfl (by decide) rfl rfl (congrArg (fun z => mC y aM z) eM1.symm) rfl ?_
  refine x_iload_n (q := 6) C 1 dX3_corner_5 rfl rfl rfl ?_
  refine x_iconst (q := 7) C dX3_corner_6 ki_0 rfl ?_
  refine x_bipush (q := 9) C dX3_corner_7 kb_30 rfl ?_
  obtain ⟨v2, hcal3, hf⟩ := bd_some hf
  refine x_callSi (q := 12) C (c3_isIn (l := l) (D := D) (y := y)  hcal3) yi_X3_isIn gX3_corner_X3_isIn ⟨(Nat.le_of_ble_eq_true rfl), (Nat.le_of_ble_eq_true rfl)⟩ dX3_corner_9 pm_emp rfl rfl (Nat.le_of_ble_eq_true rfl) ⟨Nat.le_of_ble_eq_true rfl, Nat.le_of_ble_eq_true rfl⟩ rfl ?_
  intro rr4 uu hrr
  have hrr : v2 = rr4 := Eq.symm hrr
  subst hrr
  refine x_world (ws' := mC y aM M1) rfl ?_
  refine x_if_ne (t := 21) (q := 15) C dX3_corner_12 (by decide) rfl (fun hc => ?_) (fun hc => ?_)
  · have hf := (if_neg hc).symm.trans hf
    refine x_aload_n (q := 22) C 0 dX3_corner_21 rfl rfl rfl ?_
    refine x_get (q := 25) C 1 dX3_corner_22 (oX3 y aM M1) rfl iuX3_corner_X3 flX3_corner_38 rfl (by decide) rfl rfl ?_
    refine x_bipush (q := 27) C dX3_corner_25 kb_12 rfl ?_
    refine x_icmp_ne (t := 36) (q := 30) C dX3_corner_27 (by decide) rfl (fun hc => ?_) (fun hc => ?_)
    · have hf := (if_neg hc).symm.trans hf
      refine x_aload_n (q := 37) C 0 dX3_corner_36 rfl rfl rfl ?_
      refine x_get (q := 40) C 5 dX3_corner_37 (oX3 y aM M1) rfl iuX3_corner_X3 flX3_corner_9 rfl (by decide) rfl rfl ?_
      refine x_aload_n (q := 41) C 0 dX3_corner_40 rfl rfl rfl ?_
      refine x_get (q := 44) C 1 dX3_corner_41 (oX3 y aM M1) rfl iuX3_corner_X3 flX3_corner_38 rfl (by decide) rfl rfl ?_
      refine x_iload_n (q := 45) C 1 dX3_corner_44 rfl rfl rfl ?_
      obtain ⟨hb5, hf⟩ := gd_some hf
      obtain ⟨M6, eM6, hf⟩ := lt_elim hf
      refine x_iast (q := 46) (ws' := mC y aM M6) C 0 dX3_corner_45 (aX3_5 y aM M1) rfl hb5 (congrArg (fun z => mC y aM z) eM6.symm) rfl ?_
      refine x_aload_n (q := 47) C 0 dX3_corner_46 rfl rfl rfl ?_
      refine x_dup (q := 48) C dX3_corner_47 rfl rfl ?_
      refine x_get (q := 51) C 1 dX3_corner_48 (oX3 y aM M6) rfl iuX3_corner_X3 flX3_corner_38 rfl (by decide) rfl rfl ?_
      refine x_iconst (q := 52) C dX3_corner_51 ki_1 rfl ?_
      refine x_iadd (q := 53) C dX3_corner_52 rfl ?_
      obtain ⟨M7, eM7, hf⟩ := lt_elim hf
      refine x_puti (q := 56) (ws' := mC y aM M7) C tyX3 tyX3_ok nmX3 dX3_corner_53 (iX3_1 y aM M6) rfl iuX3_corner_X3 flX3_corner_38 rfl (by decide) rfl rfl (congrArg (fun z => mC y aM z) eM7.symm) rfl ?_
      refine x_aload_n (q := 57) C 0 dX3_corner_56 rfl rfl rfl ?_
      obtain ⟨M8, hcal9, hf⟩ := bd_some hf
      refine x_callVv (q := 60) C (c3_reckon (l := l) (D := D) (y := y) (aM := aM) hcal9) yi_X3_reckon gX3_corner_X3_reckon rfl (oX3 y aM M7) rfl ⟨(Nat.le_of_ble_eq_true rfl), (Nat.le_of_ble_eq_true rfl)⟩ dX3_corner_57 pm_nil rfl rfl (Nat.le_of_ble_eq_true rfl) ⟨Nat.le_of_ble_eq_true rfl, Nat.le_of_ble_eq_true rfl⟩ rfl ?_
      intro uu hrr
      refine x_world (ws' := mC y aM M8) (List.append_nil _) ?_
      refine x_aload_n (q := 61) C 0 dX3_corner_60 rfl rfl rfl ?_
      refine x_get (q := 64) C 1 dX3_corner_61 (oX3 y aM M8) rfl iuX3_corner_X3 flX3_corner_38 rfl (by decide) rfl rfl ?_
      refine x_iconst (q := 65) C dX3_corner_64 ki_1 rfl ?_
      refine x_isub (q := 66) C dX3_corner_65 rfl ?_
      have hf := Option.some.inj hf
      obtain ⟨hr0, hr1⟩ := Prod.mk.inj hf
      exact x_iret () C dX3_corner_66 rfl hr0 (congrArg (fun z => mC y aM z) hr1) (Nat.le_of_ble_eq_true rfl) (Nat.le_of_ble_eq_true rfl)
    · have hf := (if_pos hc).symm.trans hf
      refine x_aload_n (q := 31) C 0 dX3_corner_30 rfl rfl rfl ?_
      refine x_iconst (q := 32) C dX3_corner_31 ki_2 rfl ?_
      obtain ⟨v10, M11, hcal12, hf⟩ := bd2_some hf
      refine x_callVi (q := 35) C (c3_fail (l := l) (D := D) (y := y) (aM := aM) hcal12) yi_X3_fail gX3_corner_X3_fail rfl (oX3 y aM M1) rfl ⟨(Nat.le_of_ble_eq_true rfl), (Nat.le_of_ble_eq_true rfl)⟩ dX3_corner_32 pm_nil rfl rfl (Nat.le_of_ble_eq_true rfl) ⟨Nat.le_of_ble_eq_true rfl, Nat.le_of_ble_eq_true rfl⟩ rfl ?_
      intro rr13 uu hrr
      have hrr : v10 = rr13 := Eq.symm hrr
      subst hrr
      refine x_world (ws' := mC y aM M11) (List.append_nil _) ?_
      have hf := Option.some.inj hf
      obtain ⟨hr0, hr1⟩ := Prod.mk.inj hf
      exact x_iret () C dX3_corner_35 rfl hr0 (congrArg (fun z => mC y aM z) hr1) (Nat.le_of_ble_eq_true rfl) (Nat.le_of_ble_eq_true rfl)
  · have hf := (if_pos hc).symm.trans hf
    refine x_aload_n (q := 16) C 0 dX3_corner_15 rfl rfl rfl ?_
    refine x_iconst (q := 17) C dX3_corner_16 ki_1 rfl ?_
    obtain ⟨v14, M15, hcal16, hf⟩ := bd2_some hf
    refine x_callVi (q := 20) C (c3_fail (l := l) (D := D) (y := y) (aM := aM) hcal16) yi_X3_fail gX3_corner_X3_fail rfl (oX3 y aM M1) rfl ⟨(Nat.le_of_ble_eq_true rfl), (Nat.le_of_ble_eq_true rfl)⟩ dX3_corner_17 pm_nil rfl rfl (Nat.le_of_ble_eq_true rfl) ⟨Nat.le_of_ble_eq_true rfl, Nat.le_of_ble_eq_true rfl⟩ rfl ?_
    intro rr17 uu hrr
    have hrr : v14 = rr17 := Eq.symm hrr
    subst hrr
    refine x_world (ws' := mC y aM M15) (List.append_nil _) ?_
    have hf := Option.some.inj hf
    obtain ⟨hr0, hr1⟩ := Prod.mk.inj hf
    exact x_iret () C dX3_corner_20 rfl hr0 (congrArg (fun z => mC y aM z) hr1) (Nat.le_of_ble_eq_true rfl) (Nat.le_of_ble_eq_true rfl)

/-! LampHillsModel.street(III)I -/
theorem kcX3_street_77 : ∀ w ∈ ([.methodLink RX3 77 arraycopyName, .native arraycopyName, .static arraycopyName, .initialized "java/lang/System"] : List Cond), w ∈ wsX3_street := by decide +kernel
theorem flX3_street_13 : Cond.fieldLink RX3 13 "LampHillsModel" "roads" "[I" ∈ wsX3_street := by decide +kernel
theorem flX3_street_34 : Cond.fieldLink RX3 34 "LampHillsModel" "thrown" "I" ∈ wsX3_street := by decide +kernel
theorem flX3_street_45 : Cond.fieldLink RX3 45 "LampHillsModel" "streets" "I" ∈ wsX3_street := by decide +kernel
theorem iuX3_street_X3 : ∀ w ∈ u_ws RX3 TX3 13, w ∈ wsX3_street := fun _ h => List.mem_cons_of_mem _ (List.mem_append_right _ h)
theorem knX3_street : Cond.arrayClass .int ∈ wsX3_street := by decide +kernel
theorem yi_X3_isCorner : xY yX3_isCorner wsX3_isCorner cX3_isCorner 2 (some .boolean) 1 := ⟨⟨_, rfl⟩, by decide +kernel, by decide +kernel, by decide +kernel⟩
def f3_street (M : St) (p1 : Int32) (p2 : Int32) (p3 : Int32) : Option (Int32 × St) :=
  lt_ (up2 M 0 0 0) fun M1 =>
  bd (f3_isCorner M1 p1) fun v2 =>
  lt_ (fun (u_ : Unit) =>
  (
    bd2 (f3_fail M1 1) fun v5 M6 =>
    some (v5, M6)
  )
  ) fun J21 =>
  if v2 = 0 then
  (
    J21 ()
  )
  else
  (
    bd (f3_isCorner M1 p2) fun v9 =>
    if v9 = 0 then
    (
      J21 ()
    )
    else
    (
      lt_ (fun (u_ : Unit) =>
      (
        bd2 (f3_fail M1 2) fun v12 M13 =>
        some (v12, M13)
      )
      ) fun J42 =>
      if p1 = p2 then
      (
        J42 ()
      )
      else
      (
        bd (f3_isIn p3 1 9) fun v16 =>
        if v16 = 0 then
        (
          J42 ()
        )
        else
        (
          if (M1 2 0) = 18 then
          (
            bd2 (f3_fail M1 3) fun v31 M32 =>
            some (v31, M32)
          )
          else
          (
            lt_ (upd ((fun _ => 0)) (0 : Int32).toNatClampNeg p1) fun f21 =>
            lt_ (upd f21 (1 : Int32).toNatClampNeg p2) fun f23 =>
            lt_ (upd f23 (2 : Int32).toNatClampNeg p3) fun f25 =>
            gd (xcp 0 (3 * (M1 2 0)) 3 3 54) <|
            lt_ (up1 M1 6 (va_cpy (f25) (M1 6) (0 : Int32).toNatClampNeg (3 * (M1 2 0)).toNatClampNeg (3 : Int32).toNatClampNeg)) fun M27 =>
            lt_ (up2 M27 2 0 ((M27 2 0) + 1)) fun M28 =>
            bd (f3_reckon M28) fun M29 =>
            some (((M29 2 0) - 1), M29)
          )
        )
      )
    )
  )
set_option maxHeartbeats 4000000 in
set_option maxRecDepth 100000 in
theorem c3_street {l : Launch} {D : va_G} {y : Nat → ClassId} {aM : Nat → Nat} {M : St} {p1 : Int32} {p2 : Int32} {p3 : Int32} {r : Int32} {M' : St} (hf : f3_street M p1 p2 p3 = some (r, M')) : xMi l yX3_street wsX3_street 2 73 1 3 D (xT y) [.ref (aM 0), .int p1, .int p2, .int p3] (mC y aM M) (fun (r' : Int32) (_ : Unit) => r' = r) (fun _ : Unit => mC y aM M') := by
  refine xMi_of (cc := cX3_street) (nL := 5) (ret := (some .int)) [(0, .ref (aM 0)), (1, .int p1), (2, .int p2), (3, .int p3)] (by decide) rfl (Nat.le_of_ble_eq_true rfl) rfl ?_
  intro p e s m args below meth c A C hin
  have C : xC p s m args meth c D A cX3_street RX3 5 wsX3_street (xT y) (some .int) := C
  unfold f3_street at hf
  refine x_aload_n (q := 1) C 0 dX3_street_0 rfl rfl rfl ?_
  refine x_iconst (q := 2) C dX3_street_1 ki_0 rfl ?_
  obtain ⟨M1, eM1, hf⟩ := lt_elim hf
  refine x_puti (q := 5) (ws' := mC y aM M1) C tyX3 tyX3_ok nmX3 dX3_street_2 (iX3_0 y aM M) rfl iuX3_street_X3 flX3_street_34 rfl (by decide) rfl rfl (congrArg (fun z => mC y aM z) eM1.symm) rfl ?_
  refine x_aload_n (q := 6) C 0 dX3_street_5 rfl rfl rfl ?_
  refine x_iload_n (q := 7) C 1 dX3_street_6 rfl rfl rfl ?_
  obtain ⟨v2, hcal3, hf⟩ := bd_some hf
  refine x_callVi (q := 10) C (c3_isCorner (l := l) (D := D) (y := y) (aM := aM) hcal3) yi_X3_isCorner gX3_street_X3_isCorner rfl (oX3 y aM M1) rfl ⟨(Nat.le_of_ble_eq_true rfl), (Nat.le_of_ble_eq_true rfl)⟩ dX3_street_7 pm_nil rfl rfl (Nat.le_of_ble_eq_true rfl) ⟨Nat.le_of_ble_eq_true rfl, Nat.le_of_ble_eq_true rfl⟩ rfl ?_
  intro rr4 uu hrr
  have hrr : v2 = rr4 := Eq.symm hrr
  subst hrr
  refine x_world (ws' := mC y aM M1) (List.append_nil _) ?_
  obtain ⟨J21, eJ21, hf⟩ := lt_elim hf
  have hJ21 : ∀ (u_ : Unit), J21 u_ = some (r, M') → xV p l e { frames := 2, cells := 1, slots := 3, locals := 73 } s m args below meth c D A (xQi D (xT y) A (fun (r' : Int32) (_ : Unit) => r' = r) (fun _ : Unit => mC y aM M') 1 3 below args s) 5 (mC y aM M1) 0 0 [(0, .ref (aM 0))] 21 [] := by
    intro u_ hf
    subst eJ21
    refine x_aload_n (q := 22) C 0 dX3_street_21 rfl rfl rfl ?_
    refine x_iconst (q := 23) C dX3_street_22 ki_1 rfl ?_
    obtain ⟨v5, M6, hcal7, hf⟩ := bd2_some hf
    refine x_callVi (q := 26) C (c3_fail (l := l) (D := D) (y := y) (aM := aM) hcal7) yi_X3_fail gX3_street_X3_fail rfl (oX3 y aM M1) rfl ⟨(Nat.le_of_ble_eq_true rfl), (Nat.le_of_ble_eq_true rfl)⟩ dX3_street_23 pm_nil rfl rfl (Nat.le_of_ble_eq_true rfl) ⟨Nat.le_of_ble_eq_true rfl, Nat.le_of_ble_eq_true rfl⟩ rfl ?_
    intro rr8 uu hrr
    have hrr : v5 = rr8 := Eq.symm hrr
    subst hrr
    refine x_world (ws' := mC y aM M6) (List.append_nil _) ?_
    have hf := Option.some.inj hf
    obtain ⟨hr0, hr1⟩ := Prod.mk.inj hf
    exact x_iret () C dX3_street_26 rfl hr0 (congrArg (fun z => mC y aM z) hr1) (Nat.le_of_ble_eq_true rfl) (Nat.le_of_ble_eq_true rfl)
  refine x_if_eq (t := 21) (q := 13) C dX3_street_10 (by decide) rfl (fun hc => ?_) (fun hc => ?_)
  · have hf := (if_pos hc).symm.trans hf
    refine x_sub [0] (L' := [(0, .ref (aM 0))]) rfl ?_
    exact hJ21 () hf
  · have hf := (if_neg hc).symm.trans hf
    refine x_aload_n (q := 14) C 0 dX3_street_13 rfl rfl rfl ?_
    refine x_iload_n (q := 15) C 2 dX3_street_14 rfl rfl rfl ?_
    obtain ⟨v9, hcal10, hf⟩ := bd_some hf
    refine x_callVi (q := 18) C (c3_isCorner (l := l) (D := D) (y := y) (aM := aM) hcal10) yi_X3_isCorner gX3_street_X3_isCorner rfl (oX3 y aM M1) rfl ⟨(Nat.le_of_ble_eq_true rfl), (Nat.le_of_ble_eq_true rfl)⟩ dX3_street_15 pm_nil rfl rfl (Nat.le_of_ble_eq_true rfl) ⟨Nat.le_of_ble_eq_true rfl, Nat.le_of_ble_eq_true rfl⟩ rfl ?_
    intro rr11 uu hrr
    have hrr : v9 = rr11 := Eq.symm hrr
    subst hrr
    refine x_world (ws' := mC y aM M1) (List.append_nil _) ?_
    refine x_if_ne (t := 27) (q := 21) C dX3_street_18 (by decide) rfl (fun hc => ?_) (fun hc => ?_)
    · have hf := (if_neg hc).symm.trans hf
      refine x_iload_n (q := 28) C 1 dX3_street_27 rfl rfl rfl ?_
      refine x_iload_n (q := 29) C 2 dX3_street_28 rfl rfl rfl ?_
      obtain ⟨J42, eJ42, hf⟩ := lt_elim hf
      have hJ42 : ∀ (u_ : Unit), J42 u_ = some (r, M') → xV p l e { frames := 2, cells := 1, slots := 3, locals := 73 } s m args below meth c D A (xQi D (xT y) A (fun (r' : Int32) (_ : Unit) => r' = r) (fun _ : Unit => mC y aM M') 1 3 below args s) 5 (mC y aM M1) 0 0 [(0, .ref (aM 0))] 42 [] := by
        intro u_ hf
        subst eJ42
        refine x_aload_n (q := 43) C 0 dX3_street_42 rfl rfl rfl ?_
        refine x_iconst (q := 44) C dX3_street_43 ki_2 rfl ?_
        obtain ⟨v12, M13, hcal14, hf⟩ := bd2_some hf
        refine x_callVi (q := 47) C (c3_fail (l := l) (D := D) (y := y) (aM := aM) hcal14) yi_X3_fail gX3_street_X3_fail rfl (oX3 y aM M1) rfl ⟨(Nat.le_of_ble_eq_true rfl), (Nat.le_of_ble_eq_true rfl)⟩ dX3_street_44 pm_nil rfl rfl (Nat.le_of_ble_eq_true rfl) ⟨Nat.le_of_ble_eq_true rfl, Nat.le_of_ble_eq_true rfl⟩ rfl ?_
        intro rr15 uu hrr
        have hrr : v12 = rr15 := Eq.symm hrr
        subst hrr
        refine x_world (ws' := mC y aM M13) (List.append_nil _) ?_
        have hf := Option.some.inj hf
        obtain ⟨hr0, hr1⟩ := Prod.mk.inj hf
        exact x_iret () C dX3_street_47 rfl hr0 (congrArg (fun z => mC y aM z) hr1) (Nat.le_of_ble_eq_true rfl) (Nat.le_of_ble_eq_true rfl)
      refine x_icmp_eq (t := 42) (q := 32) C dX3_street_29 (by decide) rfl (fun hc => ?_) (fun hc => ?_)
      · have hf := (if_pos hc).symm.trans hf
        refine x_sub [0] (L' := [(0, .ref (aM 0))]) rfl ?_
        exact hJ42 () hf
      · have hf := (if_neg hc).symm.trans hf
        refine x_iload_n (q := 33) C 3 dX3_street_32 rfl rfl rfl ?_
        refine x_iconst (q := 34) C dX3_street_33 ki_1 rfl ?_
        refine x_bipush (q := 36) C dX3_street_34 kb_9 rfl ?_
        obtain ⟨v16, hcal17, hf⟩ := bd_some hf
        refine x_callSi (q := 39) C (c3_isIn (l := l) (D := D) (y := y)  hcal17) yi_X3_isIn gX3_street_X3_isIn ⟨(Nat.le_of_ble_eq_true rfl), (Nat.le_of_ble_eq_true rfl)⟩ dX3_street_36 pm_emp rfl rfl (Nat.le_of_ble_eq_true rfl) ⟨Nat.le_of_ble_eq_true rfl, Nat.le_of_ble_eq_true rfl⟩ rfl ?_
        intro rr18 uu hrr
        have hrr : v16 = rr18 := Eq.symm hrr
        subst hrr
        refine x_world (ws' := mC y aM M1) rfl ?_
        refine x_if_ne (t := 48) (q := 42) C dX3_street_39 (by decide) rfl (fun hc => ?_) (fun hc => ?_)
        · have hf := (if_neg hc).symm.trans hf
          refine x_aload_n (q := 49) C 0 dX3_street_48 rfl rfl rfl ?_
          refine x_get (q := 52) C 2 dX3_street_49 (oX3 y aM M1) rfl iuX3_street_X3 flX3_street_45 rfl (by decide) rfl rfl ?_
          refine x_bipush (q := 54) C dX3_street_52 kb_18 rfl ?_
          refine x_icmp_ne (t := 63) (q := 57) C dX3_street_54 (by decide) rfl (fun hc => ?_) (fun hc => ?_)
          · have hf := (if_neg hc).symm.trans hf
            refine x_iconst (q := 64) C dX3_street_63 ki_3 rfl ?_
            refine x_newa (q := 66) C 3 dX3_street_64 knX3_street rfl (by decide) (by decide) (by decide) (Nat.le_of_ble_eq_true rfl) (Nat.le_of_ble_eq_true rfl) rfl (fun q19 => ?_)
            refine x_world (ws' := mC y aM M1 ++ zC y q19 3 (fun _ => 0)) rfl ?_
            refine x_widen (k' := 1) (n' := 3) (Nat.le_of_ble_eq_true rfl) (Nat.le_of_ble_eq_true rfl) ?_
            refine x_dup (q := 67) C dX3_street_66 rfl rfl ?_
            refine x_iconst (q := 68) C dX3_street_67 ki_0 rfl ?_
            refine x_iload_n (q := 69) C 1 dX3_street_68 rfl rfl rfl ?_
            have hb20 : xin 0 3 = true := by decide
            obtain ⟨f21, ef21, hf⟩ := lt_elim hf
            refine x_iast (q := 70) (ws' := mC y aM M1 ++ zC y q19 3 f21) C 0 dX3_street_69 ((zA y q19 3 (fun _ => 0)).R) rfl hb20 (congrArg (fun z => mC y aM M1 ++ zC y q19 3 z) ef21.symm) rfl ?_
            refine x_dup (q := 71) C dX3_street_70 rfl rfl ?_
            refine x_iconst (q := 72) C dX3_street_71 ki_1 rfl ?_
            refine x_iload_n (q := 73) C 2 dX3_street_72 rfl rfl rfl ?_
            have hb22 : xin 1 3 = true := by decide
            obtain ⟨f23, ef23, hf⟩ := lt_elim hf
            refine x_iast (q := 74) (ws' := mC y aM M1 ++ zC y q19 3 f23) C 0 dX3_street_73 ((zA y q19 3 f21).R) rfl hb22 (congrArg (fun z => mC y aM M1 ++ zC y q19 3 z) ef23.symm) rfl ?_
            refine x_dup (q := 75) C dX3_street_74 rfl rfl ?_
            refine x_iconst (q := 76) C dX3_street_75 ki_2 rfl ?_
            refine x_iload_n (q := 77) C 3 dX3_street_76 rfl rfl rfl ?_
            have hb24 : xin 2 3 = true := by decide
            obtain ⟨f25, ef25, hf⟩ := lt_elim hf
            refine x_iast (q := 78) (ws' := mC y aM M1 ++ zC y q19 3 f25) C 0 dX3_street_77 ((zA y q19 3 f23).R) rfl hb24 (congrArg (fun z => mC y aM M1 ++ zC y q19 3 z) ef25.symm) rfl ?_
            refine x_astore (q := 80) C [1, 0] [(0, .ref (aM 0)), (4, .ref q19)] dX3_street_78 (by decide) rfl rfl ?_
            refine x_aload (q := 82) C 1 dX3_street_80 rfl rfl ?_
            refine x_iconst (q := 83) C dX3_street_82 ki_0 rfl ?_
            refine x_aload_n (q := 84) C 0 dX3_street_83 rfl rfl rfl ?_
            refine x_get (q := 87) C 6 dX3_street_84 ((oX3 y aM M1).L) rfl iuX3_street_X3 flX3_street_13 rfl (by decide) rfl rfl ?_
            refine x_iconst (q := 88) C dX3_street_87 ki_3 rfl ?_
            refine x_aload_n (q := 89) C 0 dX3_street_88 rfl rfl rfl ?_
            refine x_get (q := 92) C 2 dX3_street_89 ((oX3 y aM M1).L) rfl iuX3_street_X3 flX3_street_45 rfl (by decide) rfl rfl ?_
            refine x_imul (q := 93) C dX3_street_92 rfl ?_
            refine x_iconst (q := 94) C dX3_street_93 ki_3 rfl ?_
            obtain ⟨hb26, hf⟩ := gd_some hf
            obtain ⟨M27, eM27, hf⟩ := lt_elim hf
            refine x_copy (q := 97) (ws' := mC y aM M27 ++ zC y q19 3 f25) C 0 0 dX3_street_94 kcX3_street_77 ((zA y q19 3 f25).R) ((aX3_6 y aM M1).L) rfl rfl hb26 (Nat.le_of_ble_eq_true rfl) (Nat.le_of_ble_eq_true rfl) (congrArg (fun z => mC y aM z ++ zC y q19 3 f25) eM27.symm) rfl ?_
            refine x_aload_n (q := 98) C 0 dX3_street_97 rfl rfl rfl ?_
            refine x_dup (q := 99) C dX3_street_98 rfl rfl ?_
            refine x_get (q := 102) C 2 dX3_street_99 ((oX3 y aM M27).L) rfl iuX3_street_X3 flX3_street_45 rfl (by decide) rfl rfl ?_
            refine x_iconst (q := 103) C dX3_street_102 ki_1 rfl ?_
            refine x_iadd (q := 104) C dX3_street_103 rfl ?_
            obtain ⟨M28, eM28, hf⟩ := lt_elim hf
            refine x_puti (q := 107) (ws' := mC y aM M28 ++ zC y q19 3 f25) C tyX3 tyX3_ok nmX3 dX3_street_104 ((iX3_2 y aM M27).L) rfl iuX3_street_X3 flX3_street_45 rfl (by decide) rfl rfl (congrArg (fun z => mC y aM z ++ zC y q19 3 f25) eM28.symm) rfl ?_
            refine x_aload_n (q := 108) C 0 dX3_street_107 rfl rfl rfl ?_
            obtain ⟨M29, hcal30, hf⟩ := bd_some hf
            refine x_callVv (q := 111) C (c3_reckon (l := l) (D := D) (y := y) (aM := aM) hcal30) yi_X3_reckon gX3_street_X3_reckon rfl (oX3 y aM M28) rfl ⟨(Nat.le_of_ble_eq_true rfl), (Nat.le_of_ble_eq_true rfl)⟩ dX3_street_108 (pm2_0 _ _) rfl rfl (Nat.le_of_ble_eq_true rfl) ⟨Nat.le_of_ble_eq_true rfl, Nat.le_of_ble_eq_true rfl⟩ rfl ?_
            intro uu hrr
            refine x_perm (ws' := mC y aM M29 ++ zC y q19 3 f25) (pm2_0 _ _).symm ?_
            refine x_aload_n (q := 112) C 0 dX3_street_111 rfl rfl rfl ?_
            refine x_get (q := 115) C 2 dX3_street_112 ((oX3 y aM M29).L) rfl iuX3_street_X3 flX3_street_45 rfl (by decide) rfl rfl ?_
            refine x_iconst (q := 116) C dX3_street_115 ki_1 rfl ?_
            refine x_isub (q := 117) C dX3_street_116 rfl ?_
            have hf := Option.some.inj hf
            refine x_drop ?_
            obtain ⟨hr0, hr1⟩ := Prod.mk.inj hf
            exact x_iret () C dX3_street_117 rfl hr0 (congrArg (fun z => mC y aM z) hr1) (Nat.le_of_ble_eq_true rfl) (Nat.le_of_ble_eq_true rfl)
          · have hf := (if_pos hc).symm.trans hf
            refine x_aload_n (q := 58) C 0 dX3_street_57 rfl rfl rfl ?_
            refine x_iconst (q := 59) C dX3_street_58 ki_3 rfl ?_
            obtain ⟨v31, M32, hcal33, hf⟩ := bd2_some hf
            refine x_callVi (q := 62) C (c3_fail (l := l) (D := D) (y := y) (aM := aM) hcal33) yi_X3_fail gX3_street_X3_fail rfl (oX3 y aM M1) rfl ⟨(Nat.le_of_ble_eq_true rfl), (Nat.le_of_ble_eq_true rfl)⟩ dX3_street_59 pm_nil rfl rfl (Nat.le_of_ble_eq_true rfl) ⟨Nat.le_of_ble_eq_true rfl, Nat.le_of_ble_eq_true rfl⟩ rfl ?_
            intro rr34 uu hrr
            have hrr : v31 = rr34 := Eq.symm hrr
            subst hrr
            refine x_world (ws' := mC y aM M32) (List.append_nil _) ?_
            have hf := Option.some.inj hf
            obtain ⟨hr0, hr1⟩ := Prod.mk.inj hf
            exact x_iret () C dX3_street_62 rfl hr0 (congrArg (fun z => mC y aM z) hr1) (Nat.le_of_ble_eq_true rfl) (Nat.le_of_ble_eq_true rfl)
        · have hf := (if_pos hc).symm.trans hf
          refine x_sub [0] (L' := [(0, .ref (aM 0))]) rfl ?_
          exact hJ42 () hf
    · have hf := (if_pos hc).symm.trans hf
      refine x_sub [0] (L' := [(0, .ref (aM 0))]) rfl ?_
      exact hJ21 () hf

/-! LampHillsModel.lamp(II)I -/
theorem kb_6 : (Int8.ofInt 6).toInt32 = 6 := by decide
theorem kb_7 : (Int8.ofInt 7).toInt32 = 7 := by decide
theorem kcX3_lamp_77 : ∀ w ∈ ([.methodLink RX3 77 arraycopyName, .native arraycopyName, .static arraycopyName, .initialized "java/lang/System"] : List Cond), w ∈ wsX3_lamp := by decide +kernel
theorem flX3_lamp_19 : Cond.fieldLink RX3 19 "LampHillsModel" "lights" "[I" ∈ wsX3_lamp := by decide +kernel
theorem flX3_lamp_34 : Cond.fieldLink RX3 34 "LampHillsModel" "thrown" "I" ∈ wsX3_lamp := by decide +kernel
theorem flX3_lamp_48 : Cond.fieldLink RX3 48 "LampHillsModel" "lamps" "I" ∈ wsX3_lamp := by decide +kernel
theorem iuX3_lamp_X3 : ∀ w ∈ u_ws RX3 TX3 13, w ∈ wsX3_lamp := fun _ h => List.mem_cons_of_mem _ (List.mem_append_right _ h)
theorem knX3_lamp : Cond.arrayClass .int ∈ wsX3_lamp := by decide +kernel
theorem yi_X3_isStreet : xY yX3_isStreet wsX3_isStreet cX3_isStreet 2 (some .boolean) 1 := ⟨⟨_, rfl⟩, by decide +kernel, by decide +kernel, by decide +kernel⟩
def f3_lamp (M : St) (p1 : Int32) (p2 : Int32) : Option (Int32 × St) :=
  lt_ (up2 M 0 0 0) fun M1 =>
  bd (f3_isStreet M1 p1) fun v2 =>
  if v2 = 0 then
  (
    bd2 (f3_fail M1 1) fun v36 M37 =>
    some (v36, M37)
  )
  else
  (
    bd (f3_isIn p2 2 9) fun v5 =>
    if v5 = 0 then
    (
      bd2 (f3_fail M1 2) fun v32 M33 =>
      some (v32, M33)
    )
    else
    (
      if (M1 3 0) = 20 then
      (
        bd2 (f3_fail M1 3) fun v28 M29 =>
        some (v28, M29)
      )
      else
      (
        lt_ (upd ((fun _ => 0)) (0 : Int32).toNatClampNeg p1) fun f10 =>
        lt_ (upd f10 (1 : Int32).toNatClampNeg p2) fun f12 =>
        lt_ (upd f12 (2 : Int32).toNatClampNeg 0) fun f14 =>
        lt_ (upd f14 (3 : Int32).toNatClampNeg 0) fun f16 =>
        lt_ (upd f16 (4 : Int32).toNatClampNeg 0) fun f18 =>
        lt_ (upd f18 (5 : Int32).toNatClampNeg 0) fun f20 =>
        lt_ (upd f20 (6 : Int32).toNatClampNeg 0) fun f22 =>
        lt_ (upd f22 (7 : Int32).toNatClampNeg 0) fun f24 =>
        gd (xcp 0 (8 * (M1 3 0)) 8 8 160) <|
        lt_ (up1 M1 8 (va_cpy (f24) (M1 8) (0 : Int32).toNatClampNeg (8 * (M1 3 0)).toNatClampNeg (8 : Int32).toNatClampNeg)) fun M26 =>
        lt_ (up2 M26 3 0 ((M26 3 0) + 1)) fun M27 =>
        some (((M27 3 0) - 1), M27)
      )
    )
  )
set_option maxHeartbeats 4000000 in
set_option maxRecDepth 100000 in
theorem c3_lamp {l : Launch} {D : va_G} {y : Nat → ClassId} {aM : Nat → Nat} {M : St} {p1 : Int32} {p2 : Int32} {r : Int32} {M' : St} (hf : f3_lamp M p1 p2 = some (r, M')) : xMi l yX3_lamp wsX3_lamp 2 48 1 8 D (xT y) [.ref (aM 0), .int p1, .int p2] (mC y aM M) (fun (r' : Int32) (_ : Unit) => r' = r) (fun _ : Unit => mC y aM M') := by
  refine xMi_of (cc := cX3_lamp) (nL := 4) (ret := (some .int)) [(0, .ref (aM 0)), (1, .int p1), (2, .int p2)] (by decide) rfl (Nat.le_of_ble_eq_true rfl) rfl ?_
  intro p e s m args below meth c A C hin
  have C : xC p s m args meth c D A cX3_lamp RX3 4 wsX3_lamp (xT y) (some .int) := C
  unfold f3_lamp at hf
  refine x_aload_n (q := 1) C 0 dX3_lamp_0 rfl rfl rfl ?_
  refine x_iconst (q := 2) C dX3_lamp_1 ki_0 rfl ?_
  obtain ⟨M1, eM1, hf⟩ := lt_elim hf
  refine x_puti (q := 5) (ws' := mC y aM M1) C tyX3 tyX3_ok nmX3 dX3_lamp_2 (iX3_0 y aM M) rfl iuX3_lamp_X3 flX3_lamp_34 rfl (by decide) rfl rfl (congrArg (fun z => mC y aM z) eM1.symm) rfl ?_
  refine x_aload_n (q := 6) C 0 dX3_lamp_5 rfl rfl rfl ?_
  refine x_iload_n (q := 7) C 1 dX3_lamp_6 rfl rfl rfl ?_
  obtain ⟨v2, hcal3, hf⟩ := bd_some hf
  refine x_callVi (q := 10) C (c3_isStreet (l := l) (D := D) (y := y) (aM := aM) hcal3) yi_X3_isStreet gX3_lamp_X3_isStreet rfl (oX3 y aM M1) rfl ⟨(Nat.le_of_ble_eq_true rfl), (Nat.le_of_ble_eq_true rfl)⟩ dX3_lamp_7 pm_nil rfl rfl (Nat.le_of_ble_eq_true rfl) ⟨Nat.le_of_ble_eq_true rfl, Nat.le_of_ble_eq_true rfl⟩ rfl ?_
  intro rr4 uu hrr
  have hrr : v2 = rr4 := Eq.symm hrr
  subst hrr
  refine x_world (ws' := mC y aM M1) (List.append_nil _) ?_
  refine x_if_ne (t := 19) (q := 13) C dX3_lamp_10 (by decide) rfl (fun hc => ?_) (fun hc => ?_)
  · have hf := (if_neg hc).symm.trans hf
    refine x_iload_n (q := 20) C 2 dX3_lamp_19 rfl rfl rfl ?_
    refine x_iconst (q := 21) C dX3_lamp_20 ki_2 rfl ?_
    refine x_bipush (q := 23) C dX3_lamp_21 kb_9 rfl ?_
    obtain ⟨v5, hcal6, hf⟩ := bd_some hf
    refine x_callSi (q := 26) C (c3_isIn (l := l) (D := D) (y := y)  hcal6) yi_X3_isIn gX3_lamp_X3_isIn ⟨(Nat.le_of_ble_eq_true rfl), (Nat.le_of_ble_eq_true rfl)⟩ dX3_lamp_23 pm_emp rfl rfl (Nat.le_of_ble_eq_true rfl) ⟨Nat.le_of_ble_eq_true rfl, Nat.le_of_ble_eq_true rfl⟩ rfl ?_
    intro rr7 uu hrr
    have hrr : v5 = rr7 := Eq.symm hrr
    subst hrr
    refine x_world (ws' := mC y aM M1) rfl ?_
    refine x_if_ne (t := 35) (q := 29) C dX3_lamp_26 (by decide) rfl (fun hc => ?_) (fun hc => ?_)
    · have hf := (if_neg hc).symm.trans hf
      refine x_aload_n (q := 36) C 0 dX3_lamp_35 rfl rfl rfl ?_
      refine x_get (q := 39) C 3 dX3_lamp_36 (oX3 y aM M1) rfl iuX3_lamp_X3 flX3_lamp_48 rfl (by decide) rfl rfl ?_
      refine x_bipush (q := 41) C dX3_lamp_39 kb_20 rfl ?_
      refine x_icmp_ne (t := 50) (q := 44) C dX3_lamp_41 (by decide) rfl (fun hc => ?_) (fun hc => ?_)
      · have hf := (if_neg hc).symm.trans hf
        refine x_bipush (q := 52) C dX3_lamp_50 kb_8 rfl ?_
        refine x_newa (q := 54) C 8 dX3_lamp_52 knX3_lamp rfl (by decide) (by decide) (by decide) (Nat.le_of_ble_eq_true rfl) (Nat.le_of_ble_eq_true rfl) rfl (fun q8 => ?_)
        refine x_world (ws' := mC y aM M1 ++ zC y q8 8 (fun _ => 0)) rfl ?_
        refine x_widen (k' := 1) (n' := 8) (Nat.le_of_ble_eq_true rfl) (Nat.le_of_ble_eq_true rfl) ?_
        refine x_dup (q := 55) C dX3_lamp_54 rfl rfl ?_
        refine x_iconst (q := 56) C dX3_lamp_55 ki_0 rfl ?_
        refine x_iload_n (q := 57) C 1 dX3_lamp_56 rfl rfl rfl ?_
        have hb9 : xin 0 8 = true := by decide
        obtain ⟨f10, ef10, hf⟩ := lt_elim hf
        refine x_iast (q := 58) (ws' := mC y aM M1 ++ zC y q8 8 f10) C 0 dX3_lamp_57 ((zA y q8 8 (fun _ => 0)).R) rfl hb9 (congrArg (fun z => mC y aM M1 ++ zC y q8 8 z) ef10.symm) rfl ?_
        refine x_dup (q := 59) C dX3_lamp_58 rfl rfl ?_
        refine x_iconst (q := 60) C dX3_lamp_59 ki_1 rfl ?_
        refine x_iload_n (q := 61) C 2 dX3_lamp_60 rfl rfl rfl ?_
        have hb11 : xin 1 8 = true := by decide
        obtain ⟨f12, ef12, hf⟩ := lt_elim hf
        refine x_iast (q := 62) (ws' := mC y aM M1 ++ zC y q8 8 f12) C 0 dX3_lamp_61 ((zA y q8 8 f10).R) rfl hb11 (congrArg (fun z => mC y aM M1 ++ zC y q8 8 z) ef12.symm) rfl ?_
        refine x_dup (q := 63) C dX3_lamp_62 rfl rfl ?_
        refine x_iconst (q := 64) C dX3_lamp_63 ki_2 rfl ?_
        refine x_iconst (q := 65) C dX3_lamp_64 ki_0 rfl ?_
        have hb13 : xin 2 8 = true := by decide
        obtain ⟨f14, ef14, hf⟩ := lt_elim hf
        refine x_iast (q := 66) (ws' := mC y aM M1 ++ zC y q8 8 f14) C 0 dX3_lamp_65 ((zA y q8 8 f12).R) rfl hb13 (congrArg (fun z => mC y aM M1 ++ zC y q8 8 z) ef14.symm) rfl ?_
        refine x_dup (q := 67) C dX3_lamp_66 rfl rfl ?_
        refine x_iconst (q := 68) C dX3_lamp_67 ki_3 rfl ?_
        refine x_iconst (q := 69) C dX3_lamp_68 ki_0 rfl ?_
        have hb15 : xin 3 8 = true := by decide
        obtain ⟨f16, ef16, hf⟩ := lt_elim hf
        refine x_iast (q := 70) (ws' := mC y aM M1 ++ zC y q8 8 f16) C 0 dX3_lamp_69 ((zA y q8 8 f14).R) rfl hb15 (congrArg (fun z => mC y aM M1 ++ zC y q8 8 z) ef16.symm) rfl ?_
        refine x_dup (q := 71) C dX3_lamp_70 rfl rfl ?_
        refine x_iconst (q := 72) C dX3_lamp_71 ki_4 rfl ?_
        refine x_iconst (q := 73) C dX3_lamp_72 ki_0 rfl ?_
        have hb17 : xin 4 8 = true := by decide
        obtain ⟨f18, ef18, hf⟩ := lt_elim hf
        refine x_iast (q := 74) (ws' := mC y aM M1 ++ zC y q8 8 f18) C 0 dX3_lamp_73 ((zA y q8 8 f16).R) rfl hb17 (congrArg (fun z => mC y aM M1 ++ zC y q8 8 z) ef18.symm) rfl ?_
        refine x_dup (q := 75) C dX3_lamp_74 rfl rfl ?_
        refine x_iconst (q := 76) C dX3_lamp_75 ki_5 rfl ?_
        refine x_iconst (q := 77) C dX3_lamp_76 ki_0 rfl ?_
        have hb19 : xin 5 8 = true := by decide
        obtain ⟨f20, ef20, hf⟩ := lt_elim hf
        refine x_iast (q := 78) (ws' := mC y aM M1 ++ zC y q8 8 f20) C 0 dX3_lamp_77 ((zA y q8 8 f18).R) rfl hb19 (congrArg (fun z => mC y aM M1 ++ zC y q8 8 z) ef20.symm) rfl ?_
        refine x_dup (q := 79) C dX3_lamp_78 rfl rfl ?_
        refine x_bipush (q := 81) C dX3_lamp_79 kb_6 rfl ?_
        refine x_iconst (q := 82) C dX3_lamp_81 ki_0 rfl ?_
        have hb21 : xin 6 8 = true := by decide
        obtain ⟨f22, ef22, hf⟩ := lt_elim hf
        refine x_iast (q := 83) (ws' := mC y aM M1 ++ zC y q8 8 f22) C 0 dX3_lamp_82 ((zA y q8 8 f20).R) rfl hb21 (congrArg (fun z => mC y aM M1 ++ zC y q8 8 z) ef22.symm) rfl ?_
        refine x_dup (q := 84) C dX3_lamp_83 rfl rfl ?_
        refine x_bipush (q := 86) C dX3_lamp_84 kb_7 rfl ?_
        refine x_iconst (q := 87) C dX3_lamp_86 ki_0 rfl ?_
        have hb23 : xin 7 8 = true := by decide
        obtain ⟨f24, ef24, hf⟩ := lt_elim hf
        refine x_iast (q := 88) (ws' := mC y aM M1 ++ zC y q8 8 f24) C 0 dX3_lamp_87 ((zA y q8 8 f22).R) rfl hb23 (congrArg (fun z => mC y aM M1 ++ zC y q8 8 z) ef24.symm) rfl ?_
        refine x_astore_n (q := 89) C [1, 0] [(0, .ref (aM 0)), (3, .ref q8)] dX3_lamp_88 rfl (by decide) rfl rfl ?_
        refine x_aload_n (q := 90) C 1 dX3_lamp_89 rfl rfl rfl ?_
        refine x_iconst (q := 91) C dX3_lamp_90 ki_0 rfl ?_
        refine x_aload_n (q := 92) C 0 dX3_lamp_91 rfl rfl rfl ?_
        refine x_get (q := 95) C 8 dX3_lamp_92 ((oX3 y aM M1).L) rfl iuX3_lamp_X3 flX3_lamp_19 rfl (by decide) rfl rfl ?_
        refine x_bipush (q := 97) C dX3_lamp_95 kb_8 rfl ?_
        refine x_aload_n (q := 98) C 0 dX3_lamp_97 rfl rfl rfl ?_
        refine x_get (q := 101) C 3 dX3_lamp_98 ((oX3 y aM M1).L) rfl iuX3_lamp_X3 flX3_lamp_48 rfl (by decide) rfl rfl ?_
        refine x_imul (q := 102) C dX3_lamp_101 rfl ?_
        refine x_bipush (q := 104) C dX3_lamp_102 kb_8 rfl ?_
        obtain ⟨hb25, hf⟩ := gd_some hf
        obtain ⟨M26, eM26, hf⟩ := lt_elim hf
        refine x_copy (q := 107) (ws' := mC y aM M26 ++ zC y q8 8 f24) C 0 0 dX3_lamp_104 kcX3_lamp_77 ((zA y q8 8 f24).R) ((aX3_8 y aM M1).L) rfl rfl hb25 (Nat.le_of_ble_eq_true rfl) (Nat.le_of_ble_eq_true rfl) (congrArg (fun z => mC y aM z ++ zC y q8 8 f24) eM26.symm) rfl ?_
        refine x_aload_n (q := 108) C 0 dX3_lamp_107 rfl rfl rfl ?_
        refine x_dup (q := 109) C dX3_lamp_108 rfl rfl ?_
        refine x_get (q := 112) C 3 dX3_lamp_109 ((oX3 y aM M26).L) rfl iuX3_lamp_X3 flX3_lamp_48 rfl (by decide) rfl rfl ?_
        refine x_iconst (q := 113) C dX3_lamp_112 ki_1 rfl ?_
        refine x_iadd (q := 114) C dX3_lamp_113 rfl ?_
        obtain ⟨M27, eM27, hf⟩ := lt_elim hf
        refine x_puti (q := 117) (ws' := mC y aM M27 ++ zC y q8 8 f24) C tyX3 tyX3_ok nmX3 dX3_lamp_114 ((iX3_3 y aM M26).L) rfl iuX3_lamp_X3 flX3_lamp_48 rfl (by decide) rfl rfl (congrArg (fun z => mC y aM z ++ zC y q8 8 f24) eM27.symm) rfl ?_
        refine x_aload_n (q := 118) C 0 dX3_lamp_117 rfl rfl rfl ?_
        refine x_get (q := 121) C 3 dX3_lamp_118 ((oX3 y aM M27).L) rfl iuX3_lamp_X3 flX3_lamp_48 rfl (by decide) rfl rfl ?_
        refine x_iconst (q := 122) C dX3_lamp_121 ki_1 rfl ?_
        refine x_isub (q := 123) C dX3_lamp_122 rfl ?_
        have hf := Option.some.inj hf
        refine x_drop ?_
        obtain ⟨hr0, hr1⟩ := Prod.mk.inj hf
        exact x_iret () C dX3_lamp_123 rfl hr0 (congrArg (fun z => mC y aM z) hr1) (Nat.le_of_ble_eq_true rfl) (Nat.le_of_ble_eq_true rfl)
      · have hf := (if_pos hc).symm.trans hf
        refine x_aload_n (q := 45) C 0 dX3_lamp_44 rfl rfl rfl ?_
        refine x_iconst (q := 46) C dX3_lamp_45 ki_3 rfl ?_
        obtain ⟨v28, M29, hcal30, hf⟩ := bd2_some hf
        refine x_callVi (q := 49) C (c3_fail (l := l) (D := D) (y := y) (aM := aM) hcal30) yi_X3_fail gX3_lamp_X3_fail rfl (oX3 y aM M1) rfl ⟨(Nat.le_of_ble_eq_true rfl), (Nat.le_of_ble_eq_true rfl)⟩ dX3_lamp_46 pm_nil rfl rfl (Nat.le_of_ble_eq_true rfl) ⟨Nat.le_of_ble_eq_true rfl, Nat.le_of_ble_eq_true rfl⟩ rfl ?_
        intro rr31 uu hrr
        have hrr : v28 = rr31 := Eq.symm hrr
        subst hrr
        refine x_world (ws' := mC y aM M29) (List.append_nil _) ?_
        have hf := Option.some.inj hf
        obtain ⟨hr0, hr1⟩ := Prod.mk.inj hf
        exact x_iret () C dX3_lamp_49 rfl hr0 (congrArg (fun z => mC y aM z) hr1) (Nat.le_of_ble_eq_true rfl) (Nat.le_of_ble_eq_true rfl)
    · have hf := (if_pos hc).symm.trans hf
      refine x_aload_n (q := 30) C 0 dX3_lamp_29 rfl rfl rfl ?_
      refine x_iconst (q := 31) C dX3_lamp_30 ki_2 rfl ?_
      obtain ⟨v32, M33, hcal34, hf⟩ := bd2_some hf
      refine x_callVi (q := 34) C (c3_fail (l := l) (D := D) (y := y) (aM := aM) hcal34) yi_X3_fail gX3_lamp_X3_fail rfl (oX3 y aM M1) rfl ⟨(Nat.le_of_ble_eq_true rfl), (Nat.le_of_ble_eq_true rfl)⟩ dX3_lamp_31 pm_nil rfl rfl (Nat.le_of_ble_eq_true rfl) ⟨Nat.le_of_ble_eq_true rfl, Nat.le_of_ble_eq_true rfl⟩ rfl ?_
      intro rr35 uu hrr
      have hrr : v32 = rr35 := Eq.symm hrr
      subst hrr
      refine x_world (ws' := mC y aM M33) (List.append_nil _) ?_
      have hf := Option.some.inj hf
      obtain ⟨hr0, hr1⟩ := Prod.mk.inj hf
      exact x_iret () C dX3_lamp_34 rfl hr0 (congrArg (fun z => mC y aM z) hr1) (Nat.le_of_ble_eq_true rfl) (Nat.le_of_ble_eq_true rfl)
  · have hf := (if_pos hc).symm.trans hf
    refine x_aload_n (q := 14) C 0 dX3_lamp_13 rfl rfl rfl ?_
    refine x_iconst (q := 15) C dX3_lamp_14 ki_1 rfl ?_
    obtain ⟨v36, M37, hcal38, hf⟩ := bd2_some hf
    refine x_callVi (q := 18) C (c3_fail (l := l) (D := D) (y := y) (aM := aM) hcal38) yi_X3_fail gX3_lamp_X3_fail rfl (oX3 y aM M1) rfl ⟨(Nat.le_of_ble_eq_true rfl), (Nat.le_of_ble_eq_true rfl)⟩ dX3_lamp_15 pm_nil rfl rfl (Nat.le_of_ble_eq_true rfl) ⟨Nat.le_of_ble_eq_true rfl, Nat.le_of_ble_eq_true rfl⟩ rfl ?_
    intro rr39 uu hrr
    have hrr : v36 = rr39 := Eq.symm hrr
    subst hrr
    refine x_world (ws' := mC y aM M37) (List.append_nil _) ?_
    have hf := Option.some.inj hf
    obtain ⟨hr0, hr1⟩ := Prod.mk.inj hf
    exact x_iret () C dX3_lamp_18 rfl hr0 (congrArg (fun z => mC y aM z) hr1) (Nat.le_of_ble_eq_true rfl) (Nat.le_of_ble_eq_true rfl)

/-! LampHillsModel.lid(II)I -/
theorem flX3_lid_34 : Cond.fieldLink RX3 34 "LampHillsModel" "thrown" "I" ∈ wsX3_lid := by decide +kernel
theorem iuX3_lid_X3 : ∀ w ∈ u_ws RX3 TX3 13, w ∈ wsX3_lid := fun _ h => List.mem_cons_of_mem _ (List.mem_append_right _ h)
theorem yi_X3_isLamp : xY yX3_isLamp wsX3_isLamp cX3_isLamp 2 (some .boolean) 1 := ⟨⟨_, rfl⟩, by decide +kernel, by decide +kernel, by decide +kernel⟩
theorem yi_X3_la : xY yX3_la wsX3_la cX3_la 3 (some .int) 2 := ⟨⟨_, rfl⟩, by decide +kernel, by decide +kernel, by decide +kernel⟩
theorem yi_X3_setLamp : xY yX3_setLamp wsX3_setLamp cX3_setLamp 4 none 3 := ⟨⟨_, rfl⟩, by decide +kernel, by decide +kernel, by decide +kernel⟩
def f3_lid (M : St) (p1 : Int32) (p2 : Int32) : Option (Int32 × St) :=
  lt_ (up2 M 0 0 0) fun M1 =>
  bd (f3_isLamp M1 p1) fun v2 =>
  if v2 = 0 then
  (
    bd2 (f3_fail M1 1) fun v17 M18 =>
    some (v17, M18)
  )
  else
  (
    bd (f3_isIn p2 0 9) fun v5 =>
    if v5 = 0 then
    (
      bd2 (f3_fail M1 2) fun v13 M14 =>
      some (v13, M14)
    )
    else
    (
      bd (f3_la M1 p1 2) fun v8 =>
      bd (f3_setLamp M1 p1 2 p2) fun M11 =>
      some (v8, M11)
    )
  )
set_option maxHeartbeats 4000000 in
set_option maxRecDepth 100000 in
theorem c3_lid {l : Launch} {D : va_G} {y : Nat → ClassId} {aM : Nat → Nat} {M : St} {p1 : Int32} {p2 : Int32} {r : Int32} {M' : St} (hf : f3_lid M p1 p2 = some (r, M')) : xMi l yX3_lid wsX3_lid 2 43 0 0 D (xT y) [.ref (aM 0), .int p1, .int p2] (mC y aM M) (fun (r' : Int32) (_ : Unit) => r' = r) (fun _ : Unit => mC y aM M') := by
  refine xMi_of (cc := cX3_lid) (nL := 4) (ret := (some .int)) [(0, .ref (aM 0)), (1, .int p1), (2, .int p2)] (by decide) rfl (Nat.le_of_ble_eq_true rfl) rfl ?_
  intro p e s m args below meth c A C hin
  have C : xC p s m args meth c D A cX3_lid RX3 4 wsX3_lid (xT y) (some .int) := C
  unfold f3_lid at hf
  refine x_aload_n (q := 1) C 0 dX3_lid_0 rfl rfl rfl ?_
  refine x_iconst (q := 2) C dX3_lid_1 ki_0 rfl ?_
  obtain ⟨M1, eM1, hf⟩ := lt_elim hf
  refine x_puti (q := 5) (ws' := mC y aM M1) C tyX3 tyX3_ok nmX3 dX3_lid_2 (iX3_0 y aM M) rfl iuX3_lid_X3 flX3_lid_34 rfl (by decide) rfl rfl (congrArg (fun z => mC y aM z) eM1.symm) rfl ?_
  refine x_aload_n (q := 6) C 0 dX3_lid_5 rfl rfl rfl ?_
  refine x_iload_n (q := 7) C 1 dX3_lid_6 rfl rfl rfl ?_
  obtain ⟨v2, hcal3, hf⟩ := bd_some hf
  refine x_callVi (q := 10) C (c3_isLamp (l := l) (D := D) (y := y) (aM := aM) hcal3) yi_X3_isLamp gX3_lid_X3_isLamp rfl (oX3 y aM M1) rfl ⟨(Nat.le_of_ble_eq_true rfl), (Nat.le_of_ble_eq_true rfl)⟩ dX3_lid_7 pm_nil rfl rfl (Nat.le_of_ble_eq_true rfl) ⟨Nat.le_of_ble_eq_true rfl, Nat.le_of_ble_eq_true rfl⟩ rfl ?_
  intro rr4 uu hrr
  have hrr : v2 = rr4 := Eq.symm hrr
  subst hrr
  refine x_world (ws' := mC y aM M1) (List.append_nil _) ?_
  refine x_if_ne (t := 19) (q := 13) C dX3_lid_10 (by decide) rfl (fun hc => ?_) (fun hc => ?_)
  · have hf := (if_neg hc).symm.trans hf
    refine x_iload_n (q := 20) C 2 dX3_lid_19 rfl rfl rfl ?_
    refine x_iconst (q := 21) C dX3_lid_20 ki_0 rfl ?_
    refine x_bipush (q := 23) C dX3_lid_21 kb_9 rfl ?_
    obtain ⟨v5, hcal6, hf⟩ := bd_some hf
    refine x_callSi (q := 26) C (c3_isIn (l := l) (D := D) (y := y)  hcal6) yi_X3_isIn gX3_lid_X3_isIn ⟨(Nat.le_of_ble_eq_true rfl), (Nat.le_of_ble_eq_true rfl)⟩ dX3_lid_23 pm_emp rfl rfl (Nat.le_of_ble_eq_true rfl) ⟨Nat.le_of_ble_eq_true rfl, Nat.le_of_ble_eq_true rfl⟩ rfl ?_
    intro rr7 uu hrr
    have hrr : v5 = rr7 := Eq.symm hrr
    subst hrr
    refine x_world (ws' := mC y aM M1) rfl ?_
    refine x_if_ne (t := 35) (q := 29) C dX3_lid_26 (by decide) rfl (fun hc => ?_) (fun hc => ?_)
    · have hf := (if_neg hc).symm.trans hf
      refine x_aload_n (q := 36) C 0 dX3_lid_35 rfl rfl rfl ?_
      refine x_iload_n (q := 37) C 1 dX3_lid_36 rfl rfl rfl ?_
      refine x_iconst (q := 38) C dX3_lid_37 ki_2 rfl ?_
      obtain ⟨v8, hcal9, hf⟩ := bd_some hf
      refine x_callVi (q := 41) C (c3_la (l := l) (D := D) (y := y) (aM := aM) hcal9) yi_X3_la gX3_lid_X3_la rfl (oX3 y aM M1) rfl ⟨(Nat.le_of_ble_eq_true rfl), (Nat.le_of_ble_eq_true rfl)⟩ dX3_lid_38 pm_nil rfl rfl (Nat.le_of_ble_eq_true rfl) ⟨Nat.le_of_ble_eq_true rfl, Nat.le_of_ble_eq_true rfl⟩ rfl ?_
      intro rr10 uu hrr
      have hrr : v8 = rr10 := Eq.symm hrr
      subst hrr
      refine x_world (ws' := mC y aM M1) (List.append_nil _) ?_
      refine x_istore_n (q := 42) C [1, 2, 3, 0] [(0, .ref (aM 0)), (1, .int p1), (2, .int p2), (3, .int v8)] dX3_lid_41 rfl (by decide) rfl rfl ?_
      refine x_aload_n (q := 43) C 0 dX3_lid_42 rfl rfl rfl ?_
      refine x_iload_n (q := 44) C 1 dX3_lid_43 rfl rfl rfl ?_
      refine x_iconst (q := 45) C dX3_lid_44 ki_2 rfl ?_
      refine x_iload_n (q := 46) C 2 dX3_lid_45 rfl rfl rfl ?_
      obtain ⟨M11, hcal12, hf⟩ := bd_some hf
      refine x_callVv (q := 49) C (c3_setLamp (l := l) (D := D) (y := y) (aM := aM) hcal12) yi_X3_setLamp gX3_lid_X3_setLamp rfl (oX3 y aM M1) rfl ⟨(Nat.le_of_ble_eq_true rfl), (Nat.le_of_ble_eq_true rfl)⟩ dX3_lid_46 pm_nil rfl rfl (Nat.le_of_ble_eq_true rfl) ⟨Nat.le_of_ble_eq_true rfl, Nat.le_of_ble_eq_true rfl⟩ rfl ?_
      intro uu hrr
      refine x_world (ws' := mC y aM M11) (List.append_nil _) ?_
      refine x_iload_n (q := 50) C 3 dX3_lid_49 rfl rfl rfl ?_
      have hf := Option.some.inj hf
      obtain ⟨hr0, hr1⟩ := Prod.mk.inj hf
      exact x_iret () C dX3_lid_50 rfl hr0 (congrArg (fun z => mC y aM z) hr1) (Nat.le_of_ble_eq_true rfl) (Nat.le_of_ble_eq_true rfl)
    · have hf := (if_pos hc).symm.trans hf
      refine x_aload_n (q := 30) C 0 dX3_lid_29 rfl rfl rfl ?_
      refine x_iconst (q := 31) C dX3_lid_30 ki_2 rfl ?_
      obtain ⟨v13, M14, hcal15, hf⟩ := bd2_some hf
      refine x_callVi (q := 34) C (c3_fail (l := l) (D := D) (y := y) (aM := aM) hcal15) yi_X3_fail gX3_lid_X3_fail rfl (oX3 y aM M1) rfl ⟨(Nat.le_of_ble_eq_true rfl), (Nat.le_of_ble_eq_true rfl)⟩ dX3_lid_31 pm_nil rfl rfl (Nat.le_of_ble_eq_true rfl) ⟨Nat.le_of_ble_eq_true rfl, Nat.le_of_ble_eq_true rfl⟩ rfl ?_
      intro rr16 uu hrr
      have hrr : v13 = rr16 := Eq.symm hrr
      subst hrr
      refine x_world (ws' := mC y aM M14) (List.append_nil _) ?_
      have hf := Option.some.inj hf
      obtain ⟨hr0, hr1⟩ := Prod.mk.inj hf
      exact x_iret () C dX3_lid_34 rfl hr0 (congrArg (fun z => mC y aM z) hr1) (Nat.le_of_ble_eq_true rfl) (Nat.le_of_ble_eq_true rfl)
  · have hf := (if_pos hc).symm.trans hf
    refine x_aload_n (q := 14) C 0 dX3_lid_13 rfl rfl rfl ?_
    refine x_iconst (q := 15) C dX3_lid_14 ki_1 rfl ?_
    obtain ⟨v17, M18, hcal19, hf⟩ := bd2_some hf
    refine x_callVi (q := 18) C (c3_fail (l := l) (D := D) (y := y) (aM := aM) hcal19) yi_X3_fail gX3_lid_X3_fail rfl (oX3 y aM M1) rfl ⟨(Nat.le_of_ble_eq_true rfl), (Nat.le_of_ble_eq_true rfl)⟩ dX3_lid_15 pm_nil rfl rfl (Nat.le_of_ble_eq_true rfl) ⟨Nat.le_of_ble_eq_true rfl, Nat.le_of_ble_eq_true rfl⟩ rfl ?_
    intro rr20 uu hrr
    have hrr : v17 = rr20 := Eq.symm hrr
    subst hrr
    refine x_world (ws' := mC y aM M18) (List.append_nil _) ?_
    have hf := Option.some.inj hf
    obtain ⟨hr0, hr1⟩ := Prod.mk.inj hf
    exact x_iret () C dX3_lid_18 rfl hr0 (congrArg (fun z => mC y aM z) hr1) (Nat.le_of_ble_eq_true rfl) (Nat.le_of_ble_eq_true rfl)

/-! LampHillsModel.setWind(II)I -/
theorem flX3_setWind_28 : Cond.fieldLink RX3 28 "LampHillsModel" "winds" "[I" ∈ wsX3_setWind := by decide +kernel
theorem flX3_setWind_34 : Cond.fieldLink RX3 34 "LampHillsModel" "thrown" "I" ∈ wsX3_setWind := by decide +kernel
theorem iuX3_setWind_X3 : ∀ w ∈ u_ws RX3 TX3 13, w ∈ wsX3_setWind := fun _ h => List.mem_cons_of_mem _ (List.mem_append_right _ h)
def f3_setWind (M : St) (p1 : Int32) (p2 : Int32) : Option (Int32 × St) :=
  lt_ (up2 M 0 0 0) fun M1 =>
  bd (f3_isIn p1 0 9) fun v2 =>
  if v2 = 0 then
  (
    bd2 (f3_fail M1 1) fun v15 M16 =>
    some (v15, M16)
  )
  else
  (
    bd (f3_isIn p2 0 9) fun v5 =>
    if v5 = 0 then
    (
      bd2 (f3_fail M1 2) fun v11 M12 =>
      some (v11, M12)
    )
    else
    (
      gd (xin p1 10) <|
      lt_ (M1 11 p1.toNatClampNeg) fun v9 =>
      lt_ (up2 M1 11 p1.toNatClampNeg p2) fun M10 =>
      some (v9, M10)
    )
  )
set_option maxHeartbeats 4000000 in
set_option maxRecDepth 100000 in
theorem c3_setWind {l : Launch} {D : va_G} {y : Nat → ClassId} {aM : Nat → Nat} {M : St} {p1 : Int32} {p2 : Int32} {r : Int32} {M' : St} (hf : f3_setWind M p1 p2 = some (r, M')) : xMi l yX3_setWind wsX3_setWind 1 22 0 0 D (xT y) [.ref (aM 0), .int p1, .int p2] (mC y aM M) (fun (r' : Int32) (_ : Unit) => r' = r) (fun _ : Unit => mC y aM M') := by
  refine xMi_of (cc := cX3_setWind) (nL := 4) (ret := (some .int)) [(0, .ref (aM 0)), (1, .int p1), (2, .int p2)] (by decide) rfl (Nat.le_of_ble_eq_true rfl) rfl ?_
  intro p e s m args below meth c A C hin
  have C : xC p s m args meth c D A cX3_setWind RX3 4 wsX3_setWind (xT y) (some .int) := C
  unfold f3_setWind at hf
  refine x_aload_n (q := 1) C 0 dX3_setWind_0 rfl rfl rfl ?_
  refine x_iconst (q := 2) C dX3_setWind_1 ki_0 rfl ?_
  obtain ⟨M1, eM1, hf⟩ := lt_elim hf
  refine x_puti (q := 5) (ws' := mC y aM M1) C tyX3 tyX3_ok nmX3 dX3_setWind_2 (iX3_0 y aM M) rfl iuX3_setWind_X3 flX3_setWind_34 rfl (by decide) rfl rfl (congrArg (fun z => mC y aM z) eM1.symm) rfl ?_
  refine x_iload_n (q := 6) C 1 dX3_setWind_5 rfl rfl rfl ?_
  refine x_iconst (q := 7) C dX3_setWind_6 ki_0 rfl ?_
  refine x_bipush (q := 9) C dX3_setWind_7 kb_9 rfl ?_
  obtain ⟨v2, hcal3, hf⟩ := bd_some hf
  refine x_callSi (q := 12) C (c3_isIn (l := l) (D := D) (y := y)  hcal3) yi_X3_isIn gX3_setWind_X3_isIn ⟨(Nat.le_of_ble_eq_true rfl), (Nat.le_of_ble_eq_true rfl)⟩ dX3_setWind_9 pm_emp rfl rfl (Nat.le_of_ble_eq_true rfl) ⟨Nat.le_of_ble_eq_true rfl, Nat.le_of_ble_eq_true rfl⟩ rfl ?_
  intro rr4 uu hrr
  have hrr : v2 = rr4 := Eq.symm hrr
  subst hrr
  refine x_world (ws' := mC y aM M1) rfl ?_
  refine x_if_ne (t := 21) (q := 15) C dX3_setWind_12 (by decide) rfl (fun hc => ?_) (fun hc => ?_)
  · have hf := (if_neg hc).symm.trans hf
    refine x_iload_n (q := 22) C 2 dX3_setWind_21 rfl rfl rfl ?_
    refine x_iconst (q := 23) C dX3_setWind_22 ki_0 rfl ?_
    refine x_bipush (q := 25) C dX3_setWind_23 kb_9 rfl ?_
    obtain ⟨v5, hcal6, hf⟩ := bd_some hf
    refine x_callSi (q := 28) C (c3_isIn (l := l) (D := D) (y := y)  hcal6) yi_X3_isIn gX3_setWind_X3_isIn ⟨(Nat.le_of_ble_eq_true rfl), (Nat.le_of_ble_eq_true rfl)⟩ dX3_setWind_25 pm_emp rfl rfl (Nat.le_of_ble_eq_true rfl) ⟨Nat.le_of_ble_eq_true rfl, Nat.le_of_ble_eq_true rfl⟩ rfl ?_
    intro rr7 uu hrr
    have hrr : v5 = rr7 := Eq.symm hrr
    subst hrr
    refine x_world (ws' := mC y aM M1) rfl ?_
    refine x_if_ne (t := 37) (q := 31) C dX3_setWind_28 (by decide) rfl (fun hc => ?_) (fun hc => ?_)
    · have hf := (if_neg hc).symm.trans hf
      refine x_aload_n (q := 38) C 0 dX3_setWind_37 rfl rfl rfl ?_
      refine x_get (q := 41) C 11 dX3_setWind_38 (oX3 y aM M1) rfl iuX3_setWind_X3 flX3_setWind_28 rfl (by decide) rfl rfl ?_
      refine x_iload_n (q := 42) C 1 dX3_setWind_41 rfl rfl rfl ?_
      obtain ⟨hb8, hf⟩ := gd_some hf
      refine x_iald (q := 43) C 0 dX3_setWind_42 (aX3_11 y aM M1) rfl hb8 rfl ?_
      obtain ⟨v9, ev9, hf⟩ := lt_elim hf
      refine x_topi ev9 ?_
      refine x_istore_n (q := 44) C [1, 2, 3, 0] [(0, .ref (aM 0)), (1, .int p1), (2, .int p2), (3, .int v9)] dX3_setWind_43 rfl (by decide) rfl rfl ?_
      refine x_aload_n (q := 45) C 0 dX3_setWind_44 rfl rfl rfl ?_
      refine x_get (q := 48) C 11 dX3_setWind_45 (oX3 y aM M1) rfl iuX3_setWind_X3 flX3_setWind_28 rfl (by decide) rfl rfl ?_
      refine x_iload_n (q := 49) C 1 dX3_setWind_48 rfl rfl rfl ?_
      refine x_iload_n (q := 50) C 2 dX3_setWind_49 rfl rfl rfl ?_
      obtain ⟨M10, eM10, hf⟩ := lt_elim hf
      refine x_iast (q := 51) (ws' := mC y aM M10) C 0 dX3_setWind_50 (aX3_11 y aM M1) rfl hb8 (congrArg (fun z => mC y aM z) eM10.symm) rfl ?_
      refine x_iload_n (q := 52) C 3 dX3_setWind_51 rfl rfl rfl ?_
      have hf := Option.some.inj hf
      obtain ⟨hr0, hr1⟩ := Prod.mk.inj hf
      exact x_iret () C dX3_setWind_52 rfl hr0 (congrArg (fun z => mC y aM z) hr1) (Nat.le_of_ble_eq_true rfl) (Nat.le_of_ble_eq_true rfl)
    · have hf := (if_pos hc).symm.trans hf
      refine x_aload_n (q := 32) C 0 dX3_setWind_31 rfl rfl rfl ?_
      refine x_iconst (q := 33) C dX3_setWind_32 ki_2 rfl ?_
      obtain ⟨v11, M12, hcal13, hf⟩ := bd2_some hf
      refine x_callVi (q := 36) C (c3_fail (l := l) (D := D) (y := y) (aM := aM) hcal13) yi_X3_fail gX3_setWind_X3_fail rfl (oX3 y aM M1) rfl ⟨(Nat.le_of_ble_eq_true rfl), (Nat.le_of_ble_eq_true rfl)⟩ dX3_setWind_33 pm_nil rfl rfl (Nat.le_of_ble_eq_true rfl) ⟨Nat.le_of_ble_eq_true rfl, Nat.le_of_ble_eq_true rfl⟩ rfl ?_
      intro rr14 uu hrr
      have hrr : v11 = rr14 := Eq.symm hrr
      subst hrr
      refine x_world (ws' := mC y aM M12) (List.append_nil _) ?_
      have hf := Option.some.inj hf
      obtain ⟨hr0, hr1⟩ := Prod.mk.inj hf
      exact x_iret () C dX3_setWind_36 rfl hr0 (congrArg (fun z => mC y aM z) hr1) (Nat.le_of_ble_eq_true rfl) (Nat.le_of_ble_eq_true rfl)
  · have hf := (if_pos hc).symm.trans hf
    refine x_aload_n (q := 16) C 0 dX3_setWind_15 rfl rfl rfl ?_
    refine x_iconst (q := 17) C dX3_setWind_16 ki_1 rfl ?_
    obtain ⟨v15, M16, hcal17, hf⟩ := bd2_some hf
    refine x_callVi (q := 20) C (c3_fail (l := l) (D := D) (y := y) (aM := aM) hcal17) yi_X3_fail gX3_setWind_X3_fail rfl (oX3 y aM M1) rfl ⟨(Nat.le_of_ble_eq_true rfl), (Nat.le_of_ble_eq_true rfl)⟩ dX3_setWind_17 pm_nil rfl rfl (Nat.le_of_ble_eq_true rfl) ⟨Nat.le_of_ble_eq_true rfl, Nat.le_of_ble_eq_true rfl⟩ rfl ?_
    intro rr18 uu hrr
    have hrr : v15 = rr18 := Eq.symm hrr
    subst hrr
    refine x_world (ws' := mC y aM M16) (List.append_nil _) ?_
    have hf := Option.some.inj hf
    obtain ⟨hr0, hr1⟩ := Prod.mk.inj hf
    exact x_iret () C dX3_setWind_20 rfl hr0 (congrArg (fun z => mC y aM z) hr1) (Nat.le_of_ble_eq_true rfl) (Nat.le_of_ble_eq_true rfl)

/-! LampHillsModel.hire(III)I -/
theorem ks_999 : (Int16.ofInt 999).toInt32 = 999 := by decide
theorem kcX3_hire_77 : ∀ w ∈ ([.methodLink RX3 77 arraycopyName, .native arraycopyName, .static arraycopyName, .initialized "java/lang/System"] : List Cond), w ∈ wsX3_hire := by decide +kernel
theorem flX3_hire_22 : Cond.fieldLink RX3 22 "LampHillsModel" "people" "[I" ∈ wsX3_hire := by decide +kernel
theorem flX3_hire_34 : Cond.fieldLink RX3 34 "LampHillsModel" "thrown" "I" ∈ wsX3_hire := by decide +kernel
theorem flX3_hire_51 : Cond.fieldLink RX3 51 "LampHillsModel" "lighters" "I" ∈ wsX3_hire := by decide +kernel
theorem iuX3_hire_X3 : ∀ w ∈ u_ws RX3 TX3 13, w ∈ wsX3_hire := fun _ h => List.mem_cons_of_mem _ (List.mem_append_right _ h)
theorem knX3_hire : Cond.arrayClass .int ∈ wsX3_hire := by decide +kernel
def f3_hire (M : St) (p1 : Int32) (p2 : Int32) (p3 : Int32) : Option (Int32 × St) :=
  lt_ (up2 M 0 0 0) fun M1 =>
  bd (f3_isCorner M1 p1) fun v2 =>
  if v2 = 0 then
  (
    bd2 (f3_fail M1 1) fun v43 M44 =>
    some (v43, M44)
  )
  else
  (
    bd (f3_isIn p2 1 9) fun v5 =>
    lt_ (fun (u_ : Unit) =>
    (
      bd2 (f3_fail M1 2) fun v8 M9 =>
      some (v8, M9)
    )
    ) fun J40 =>
    if v5 = 0 then
    (
      J40 ()
    )
    else
    (
      bd (f3_isIn p3 0 999) fun v12 =>
      if v12 = 0 then
      (
        J40 ()
      )
      else
      (
        if (M1 4 0) = 4 then
        (
          bd2 (f3_fail M1 3) fun v39 M40 =>
          some (v39, M40)
        )
        else
        (
          lt_ (upd ((fun _ => 0)) (0 : Int32).toNatClampNeg p1) fun f17 =>
          lt_ (upd f17 (1 : Int32).toNatClampNeg p1) fun f19 =>
          lt_ (upd f19 (2 : Int32).toNatClampNeg p2) fun f21 =>
          lt_ (upd f21 (3 : Int32).toNatClampNeg p3) fun f23 =>
          lt_ (upd f23 (4 : Int32).toNatClampNeg 0) fun f25 =>
          lt_ (upd f25 (5 : Int32).toNatClampNeg (-1)) fun f27 =>
          lt_ (upd f27 (6 : Int32).toNatClampNeg 0) fun f29 =>
          lt_ (upd f29 (7 : Int32).toNatClampNeg (-1)) fun f31 =>
          lt_ (upd f31 (8 : Int32).toNatClampNeg (-1)) fun f33 =>
          lt_ (upd f33 (9 : Int32).toNatClampNeg 0) fun f35 =>
          gd (xcp 0 (10 * (M1 4 0)) 10 10 40) <|
          lt_ (up1 M1 9 (va_cpy (f35) (M1 9) (0 : Int32).toNatClampNeg (10 * (M1 4 0)).toNatClampNeg (10 : Int32).toNatClampNeg)) fun M37 =>
          lt_ (up2 M37 4 0 ((M37 4 0) + 1)) fun M38 =>
          some (((M38 4 0) - 1), M38)
        )
      )
    )
  )
set_option maxHeartbeats 4000000 in
set_option maxRecDepth 100000 in
theorem c3_hire {l : Launch} {D : va_G} {y : Nat → ClassId} {aM : Nat → Nat} {M : St} {p1 : Int32} {p2 : Int32} {p3 : Int32} {r : Int32} {M' : St} (hf : f3_hire M p1 p2 p3 = some (r, M')) : xMi l yX3_hire wsX3_hire 2 48 1 10 D (xT y) [.ref (aM 0), .int p1, .int p2, .int p3] (mC y aM M) (fun (r' : Int32) (_ : Unit) => r' = r) (fun _ : Unit => mC y aM M') := by
  refine xMi_of (cc := cX3_hire) (nL := 5) (ret := (some .int)) [(0, .ref (aM 0)), (1, .int p1), (2, .int p2), (3, .int p3)] (by decide) rfl (Nat.le_of_ble_eq_true rfl) rfl ?_
  intro p e s m args below meth c A C hin
  have C : xC p s m args meth c D A cX3_hire RX3 5 wsX3_hire (xT y) (some .int) := C
  unfold f3_hire at hf
  refine x_aload_n (q := 1) C 0 dX3_hire_0 rfl rfl rfl ?_
  refine x_iconst (q := 2) C dX3_hire_1 ki_0 rfl ?_
  obtain ⟨M1, eM1, hf⟩ := lt_elim hf
  refine x_puti (q := 5) (ws' := mC y aM M1) C tyX3 tyX3_ok nmX3 dX3_hire_2 (iX3_0 y aM M) rfl iuX3_hire_X3 flX3_hire_34 rfl (by decide) rfl rfl (congrArg (fun z => mC y aM z) eM1.symm) rfl ?_
  refine x_aload_n (q := 6) C 0 dX3_hire_5 rfl rfl rfl ?_
  refine x_iload_n (q := 7) C 1 dX3_hire_6 rfl rfl rfl ?_
  obtain ⟨v2, hcal3, hf⟩ := bd_some hf
  refine x_callVi (q := 10) C (c3_isCorner (l := l) (D := D) (y := y) (aM := aM) hcal3) yi_X3_isCorner gX3_hire_X3_isCorner rfl (oX3 y aM M1) rfl ⟨(Nat.le_of_ble_eq_true rfl), (Nat.le_of_ble_eq_true rfl)⟩ dX3_hire_7 pm_nil rfl rfl (Nat.le_of_ble_eq_true rfl) ⟨Nat.le_of_ble_eq_true rfl, Nat.le_of_ble_eq_true rfl⟩ rfl ?_
  intro rr4 uu hrr
  have hrr : v2 = rr4 := Eq.symm hrr
  subst hrr
  refine x_world (ws' := mC y aM M1) (List.append_nil _) ?_
  refine x_if_ne (t := 19) (q := 13) C dX3_hire_10 (by decide) rfl (fun hc => ?_) (fun hc => ?_)
  · have hf := (if_neg hc).symm.trans hf
    refine x_iload_n (q := 20) C 2 dX3_hire_19 rfl rfl rfl ?_
    refine x_iconst (q := 21) C dX3_hire_20 ki_1 rfl ?_
    refine x_bipush (q := 23) C dX3_hire_21 kb_9 rfl ?_
    obtain ⟨v5, hcal6, hf⟩ := bd_some hf
    refine x_callSi (q := 26) C (c3_isIn (l := l) (D := D) (y := y)  hcal6) yi_X3_isIn gX3_hire_X3_isIn ⟨(Nat.le_of_ble_eq_true rfl), (Nat.le_of_ble_eq_true rfl)⟩ dX3_hire_23 pm_emp rfl rfl (Nat.le_of_ble_eq_true rfl) ⟨Nat.le_of_ble_eq_true rfl, Nat.le_of_ble_eq_true rfl⟩ rfl ?_
    intro rr7 uu hrr
    have hrr : v5 = rr7 := Eq.symm hrr
    subst hrr
    refine x_world (ws' := mC y aM M1) rfl ?_
    obtain ⟨J40, eJ40, hf⟩ := lt_elim hf
    have hJ40 : ∀ (u_ : Unit), J40 u_ = some (r, M') → xV p l e { frames := 2, cells := 1, slots := 10, locals := 48 } s m args below meth c D A (xQi D (xT y) A (fun (r' : Int32) (_ : Unit) => r' = r) (fun _ : Unit => mC y aM M') 1 10 below args s) 5 (mC y aM M1) 0 0 [(0, .ref (aM 0))] 40 [] := by
      intro u_ hf
      subst eJ40
      refine x_aload_n (q := 41) C 0 dX3_hire_40 rfl rfl rfl ?_
      refine x_iconst (q := 42) C dX3_hire_41 ki_2 rfl ?_
      obtain ⟨v8, M9, hcal10, hf⟩ := bd2_some hf
      refine x_callVi (q := 45) C (c3_fail (l := l) (D := D) (y := y) (aM := aM) hcal10) yi_X3_fail gX3_hire_X3_fail rfl (oX3 y aM M1) rfl ⟨(Nat.le_of_ble_eq_true rfl), (Nat.le_of_ble_eq_true rfl)⟩ dX3_hire_42 pm_nil rfl rfl (Nat.le_of_ble_eq_true rfl) ⟨Nat.le_of_ble_eq_true rfl, Nat.le_of_ble_eq_true rfl⟩ rfl ?_
      intro rr11 uu hrr
      have hrr : v8 = rr11 := Eq.symm hrr
      subst hrr
      refine x_world (ws' := mC y aM M9) (List.append_nil _) ?_
      have hf := Option.some.inj hf
      obtain ⟨hr0, hr1⟩ := Prod.mk.inj hf
      exact x_iret () C dX3_hire_45 rfl hr0 (congrArg (fun z => mC y aM z) hr1) (Nat.le_of_ble_eq_true rfl) (Nat.le_of_ble_eq_true rfl)
    refine x_if_eq (t := 40) (q := 29) C dX3_hire_26 (by decide) rfl (fun hc => ?_) (fun hc => ?_)
    · have hf := (if_pos hc).symm.trans hf
      refine x_sub [0] (L' := [(0, .ref (aM 0))]) rfl ?_
      exact hJ40 () hf
    · have hf := (if_neg hc).symm.trans hf
      refine x_iload_n (q := 30) C 3 dX3_hire_29 rfl rfl rfl ?_
      refine x_iconst (q := 31) C dX3_hire_30 ki_0 rfl ?_
      refine x_sipush (q := 34) C dX3_hire_31 ks_999 rfl ?_
      obtain ⟨v12, hcal13, hf⟩ := bd_some hf
      refine x_callSi (q := 37) C (c3_isIn (l := l) (D := D) (y := y)  hcal13) yi_X3_isIn gX3_hire_X3_isIn ⟨(Nat.le_of_ble_eq_true rfl), (Nat.le_of_ble_eq_true rfl)⟩ dX3_hire_34 pm_emp rfl rfl (Nat.le_of_ble_eq_true rfl) ⟨Nat.le_of_ble_eq_true rfl, Nat.le_of_ble_eq_true rfl⟩ rfl ?_
      intro rr14 uu hrr
      have hrr : v12 = rr14 := Eq.symm hrr
      subst hrr
      refine x_world (ws' := mC y aM M1) rfl ?_
      refine x_if_ne (t := 46) (q := 40) C dX3_hire_37 (by decide) rfl (fun hc => ?_) (fun hc => ?_)
      · have hf := (if_neg hc).symm.trans hf
        refine x_aload_n (q := 47) C 0 dX3_hire_46 rfl rfl rfl ?_
        refine x_get (q := 50) C 4 dX3_hire_47 (oX3 y aM M1) rfl iuX3_hire_X3 flX3_hire_51 rfl (by decide) rfl rfl ?_
        refine x_iconst (q := 51) C dX3_hire_50 ki_4 rfl ?_
        refine x_icmp_ne (t := 60) (q := 54) C dX3_hire_51 (by decide) rfl (fun hc => ?_) (fun hc => ?_)
        · have hf := (if_neg hc).symm.trans hf
          refine x_bipush (q := 62) C dX3_hire_60 kb_10 rfl ?_
          refine x_newa (q := 64) C 10 dX3_hire_62 knX3_hire rfl (by decide) (by decide) (by decide) (Nat.le_of_ble_eq_true rfl) (Nat.le_of_ble_eq_true rfl) rfl (fun q15 => ?_)
          refine x_world (ws' := mC y aM M1 ++ zC y q15 10 (fun _ => 0)) rfl ?_
          refine x_widen (k' := 1) (n' := 10) (Nat.le_of_ble_eq_true rfl) (Nat.le_of_ble_eq_true rfl) ?_
          refine x_dup (q := 65) C dX3_hire_64 rfl rfl ?_
          refine x_iconst (q := 66) C dX3_hire_65 ki_0 rfl ?_
          refine x_iload_n (q := 67) C 1 dX3_hire_66 rfl rfl rfl ?_
          have hb16 : xin 0 10 = true := by decide
          obtain ⟨f17, ef17, hf⟩ := lt_elim hf
          refine x_iast (q := 68) (ws' := mC y aM M1 ++ zC y q15 10 f17) C 0 dX3_hire_67 ((zA y q15 10 (fun _ => 0)).R) rfl hb16 (congrArg (fun z => mC y aM M1 ++ zC y q15 10 z) ef17.symm) rfl ?_
          refine x_dup (q := 69) C dX3_hire_68 rfl rfl ?_
          refine x_iconst (q := 70) C dX3_hire_69 ki_1 rfl ?_
          refine x_iload_n (q := 71) C 1 dX3_hire_70 rfl rfl rfl ?_
          have hb18 : xin 1 10 = true := by decide
          obtain ⟨f19, ef19, hf⟩ := lt_elim hf
          refine x_iast (q := 72) (ws' := mC y aM M1 ++ zC y q15 10 f19) C 0 dX3_hire_71 ((zA y q15 10 f17).R) rfl hb18 (congrArg (fun z => mC y aM M1 ++ zC y q15 10 z) ef19.symm) rfl ?_
          refine x_dup (q := 73) C dX3_hire_72 rfl rfl ?_
          refine x_iconst (q := 74) C dX3_hire_73 ki_2 rfl ?_
          refine x_iload_n (q := 75) C 2 dX3_hire_74 rfl rfl rfl ?_
          have hb20 : xin 2 10 = true := by decide
          obtain ⟨f21, ef21, hf⟩ := lt_elim hf
          refine x_iast (q := 76) (ws' := mC y aM M1 ++ zC y q15 10 f21) C 0 dX3_hire_75 ((zA y q15 10 f19).R) rfl hb20 (congrArg (fun z => mC y aM M1 ++ zC y q15 10 z) ef21.symm) rfl ?_
          refine x_dup (q := 77) C dX3_hire_76 rfl rfl ?_
          refine x_iconst (q := 78) C dX3_hire_77 ki_3 rfl ?_
          refine x_iload_n (q := 79) C 3 dX3_hire_78 rfl rfl rfl ?_
          have hb22 : xin 3 10 = true := by decide
          obtain ⟨f23, ef23, hf⟩ := lt_elim hf
          refine x_iast (q := 80) (ws' := mC y aM M1 ++ zC y q15 10 f23) C 0 dX3_hire_79 ((zA y q15 10 f21).R) rfl hb22 (congrArg (fun z => mC y aM M1 ++ zC y q15 10 z) ef23.symm) rfl ?_
          refine x_dup (q := 81) C dX3_hire_80 rfl rfl ?_
          refine x_iconst (q := 82) C dX3_hire_81 ki_4 rfl ?_
          refine x_iconst (q := 83) C dX3_hire_82 ki_0 rfl ?_
          have hb24 : xin 4 10 = true := by decide
          obtain ⟨f25, ef25, hf⟩ := lt_elim hf
          refine x_iast (q := 84) (ws' := mC y aM M1 ++ zC y q15 10 f25) C 0 dX3_hire_83 ((zA y q15 10 f23).R) rfl hb24 (congrArg (fun z => mC y aM M1 ++ zC y q15 10 z) ef25.symm) rfl ?_
          refine x_dup (q := 85) C dX3_hire_84 rfl rfl ?_
          refine x_iconst (q := 86) C dX3_hire_85 ki_5 rfl ?_
          refine x_iconst (q := 87) C dX3_hire_86 ki_m1 rfl ?_
          have hb26 : xin 5 10 = true := by decide
          obtain ⟨f27, ef27, hf⟩ := lt_elim hf
          refine x_iast (q := 88) (ws' := mC y aM M1 ++ zC y q15 10 f27) C 0 dX3_hire_87 ((zA y q15 10 f25).R) rfl hb26 (congrArg (fun z => mC y aM M1 ++ zC y q15 10 z) ef27.symm) rfl ?_
          refine x_dup (q := 89) C dX3_hire_88 rfl rfl ?_
          refine x_bipush (q := 91) C dX3_hire_89 kb_6 rfl ?_
          refine x_iconst (q := 92) C dX3_hire_91 ki_0 rfl ?_
          have hb28 : xin 6 10 = true := by decide
          obtain ⟨f29, ef29, hf⟩ := lt_elim hf
          refine x_iast (q := 93) (ws' := mC y aM M1 ++ zC y q15 10 f29) C 0 dX3_hire_92 ((zA y q15 10 f27).R) rfl hb28 (congrArg (fun z => mC y aM M1 ++ zC y q15 10 z) ef29.symm) rfl ?_
          refine x_dup (q := 94) C dX3_hire_93 rfl rfl ?_
          refine x_bipush (q := 96) C dX3_hire_94 kb_7 rfl ?_
          refine x_iconst (q := 97) C dX3_hire_96 ki_m1 rfl ?_
          have hb30 : xin 7 10 = true := by decide
          obtain ⟨f31, ef31, hf⟩ := lt_elim hf
          refine x_iast (q := 98) (ws' := mC y aM M1 ++ zC y q15 10 f31) C 0 dX3_hire_97 ((zA y q15 10 f29).R) rfl hb30 (congrArg (fun z => mC y aM M1 ++ zC y q15 10 z) ef31.symm) rfl ?_
          refine x_dup (q := 99) C dX3_hire_98 rfl rfl ?_
          refine x_bipush (q := 101) C dX3_hire_99 kb_8 rfl ?_
          refine x_iconst (q := 102) C dX3_hire_101 ki_m1 rfl ?_
          have hb32 : xin 8 10 = true := by decide
          obtain ⟨f33, ef33, hf⟩ := lt_elim hf
          refine x_iast (q := 103) (ws' := mC y aM M1 ++ zC y q15 10 f33) C 0 dX3_hire_102 ((zA y q15 10 f31).R) rfl hb32 (congrArg (fun z => mC y aM M1 ++ zC y q15 10 z) ef33.symm) rfl ?_
          refine x_dup (q := 104) C dX3_hire_103 rfl rfl ?_
          refine x_bipush (q := 106) C dX3_hire_104 kb_9 rfl ?_
          refine x_iconst (q := 107) C dX3_hire_106 ki_0 rfl ?_
          have hb34 : xin 9 10 = true := by decide
          obtain ⟨f35, ef35, hf⟩ := lt_elim hf
          refine x_iast (q := 108) (ws' := mC y aM M1 ++ zC y q15 10 f35) C 0 dX3_hire_107 ((zA y q15 10 f33).R) rfl hb34 (congrArg (fun z => mC y aM M1 ++ zC y q15 10 z) ef35.symm) rfl ?_
          refine x_astore (q := 110) C [1, 0] [(0, .ref (aM 0)), (4, .ref q15)] dX3_hire_108 (by decide) rfl rfl ?_
          refine x_aload (q := 112) C 1 dX3_hire_110 rfl rfl ?_
          refine x_iconst (q := 113) C dX3_hire_112 ki_0 rfl ?_
          refine x_aload_n (q := 114) C 0 dX3_hire_113 rfl rfl rfl ?_
          refine x_get (q := 117) C 9 dX3_hire_114 ((oX3 y aM M1).L) rfl iuX3_hire_X3 flX3_hire_22 rfl (by decide) rfl rfl ?_
          refine x_bipush (q := 119) C dX3_hire_117 kb_10 rfl ?_
          refine x_aload_n (q := 120) C 0 dX3_hire_119 rfl rfl rfl ?_
          refine x_get (q := 123) C 4 dX3_hire_120 ((oX3 y aM M1).L) rfl iuX3_hire_X3 flX3_hire_51 rfl (by decide) rfl rfl ?_
          refine x_imul (q := 124) C dX3_hire_123 rfl ?_
          refine x_bipush (q := 126) C dX3_hire_124 kb_10 rfl ?_
          obtain ⟨hb36, hf⟩ := gd_some hf
          obtain ⟨M37, eM37, hf⟩ := lt_elim hf
          refine x_copy (q := 129) (ws' := mC y aM M37 ++ zC y q15 10 f35) C 0 0 dX3_hire_126 kcX3_hire_77 ((zA y q15 10 f35).R) ((aX3_9 y aM M1).L) rfl rfl hb36 (Nat.le_of_ble_eq_true rfl) (Nat.le_of_ble_eq_true rfl) (congrArg (fun z => mC y aM z ++ zC y q15 10 f35) eM37.symm) rfl ?_
          refine x_aload_n (q := 130) C 0 dX3_hire_129 rfl rfl rfl ?_
          refine x_dup (q := 131) C dX3_hire_130 rfl rfl ?_
          refine x_get (q := 134) C 4 dX3_hire_131 ((oX3 y aM M37).L) rfl iuX3_hire_X3 flX3_hire_51 rfl (by decide) rfl rfl ?_
          refine x_iconst (q := 135) C dX3_hire_134 ki_1 rfl ?_
          refine x_iadd (q := 136) C dX3_hire_135 rfl ?_
          obtain ⟨M38, eM38, hf⟩ := lt_elim hf
          refine x_puti (q := 139) (ws' := mC y aM M38 ++ zC y q15 10 f35) C tyX3 tyX3_ok nmX3 dX3_hire_136 ((iX3_4 y aM M37).L) rfl iuX3_hire_X3 flX3_hire_51 rfl (by decide) rfl rfl (congrArg (fun z => mC y aM z ++ zC y q15 10 f35) eM38.symm) rfl ?_
          refine x_aload_n (q := 140) C 0 dX3_hire_139 rfl rfl rfl ?_
          refine x_get (q := 143) C 4 dX3_hire_140 ((oX3 y aM M38).L) rfl iuX3_hire_X3 flX3_hire_51 rfl (by decide) rfl rfl ?_
          refine x_iconst (q := 144) C dX3_hire_143 ki_1 rfl ?_
          refine x_isub (q := 145) C dX3_hire_144 rfl ?_
          have hf := Option.some.inj hf
          refine x_drop ?_
          obtain ⟨hr0, hr1⟩ := Prod.mk.inj hf
          exact x_iret () C dX3_hire_145 rfl hr0 (congrArg (fun z => mC y aM z) hr1) (Nat.le_of_ble_eq_true rfl) (Nat.le_of_ble_eq_true rfl)
        · have hf := (if_pos hc).symm.trans hf
          refine x_aload_n (q := 55) C 0 dX3_hire_54 rfl rfl rfl ?_
          refine x_iconst (q := 56) C dX3_hire_55 ki_3 rfl ?_
          obtain ⟨v39, M40, hcal41, hf⟩ := bd2_some hf
          refine x_callVi (q := 59) C (c3_fail (l := l) (D := D) (y := y) (aM := aM) hcal41) yi_X3_fail gX3_hire_X3_fail rfl (oX3 y aM M1) rfl ⟨(Nat.le_of_ble_eq_true rfl), (Nat.le_of_ble_eq_true rfl)⟩ dX3_hire_56 pm_nil rfl rfl (Nat.le_of_ble_eq_true rfl) ⟨Nat.le_of_ble_eq_true rfl, Nat.le_of_ble_eq_true rfl⟩ rfl ?_
          intro rr42 uu hrr
          have hrr : v39 = rr42 := Eq.symm hrr
          subst hrr
          refine x_world (ws' := mC y aM M40) (List.append_nil _) ?_
          have hf := Option.some.inj hf
          obtain ⟨hr0, hr1⟩ := Prod.mk.inj hf
          exact x_iret () C dX3_hire_59 rfl hr0 (congrArg (fun z => mC y aM z) hr1) (Nat.le_of_ble_eq_true rfl) (Nat.le_of_ble_eq_true rfl)
      · have hf := (if_pos hc).symm.trans hf
        refine x_sub [0] (L' := [(0, .ref (aM 0))]) rfl ?_
        exact hJ40 () hf
  · have hf := (if_pos hc).symm.trans hf
    refine x_aload_n (q := 14) C 0 dX3_hire_13 rfl rfl rfl ?_
    refine x_iconst (q := 15) C dX3_hire_14 ki_1 rfl ?_
    obtain ⟨v43, M44, hcal45, hf⟩ := bd2_some hf
    refine x_callVi (q := 18) C (c3_fail (l := l) (D := D) (y := y) (aM := aM) hcal45) yi_X3_fail gX3_hire_X3_fail rfl (oX3 y aM M1) rfl ⟨(Nat.le_of_ble_eq_true rfl), (Nat.le_of_ble_eq_true rfl)⟩ dX3_hire_15 pm_nil rfl rfl (Nat.le_of_ble_eq_true rfl) ⟨Nat.le_of_ble_eq_true rfl, Nat.le_of_ble_eq_true rfl⟩ rfl ?_
    intro rr46 uu hrr
    have hrr : v43 = rr46 := Eq.symm hrr
    subst hrr
    refine x_world (ws' := mC y aM M44) (List.append_nil _) ?_
    have hf := Option.some.inj hf
    obtain ⟨hr0, hr1⟩ := Prod.mk.inj hf
    exact x_iret () C dX3_hire_18 rfl hr0 (congrArg (fun z => mC y aM z) hr1) (Nat.le_of_ble_eq_true rfl) (Nat.le_of_ble_eq_true rfl)

/-! LampHillsModel.round(II)I -/
theorem flX3_round_25 : Cond.fieldLink RX3 25 "LampHillsModel" "rounds" "[I" ∈ wsX3_round := by decide +kernel
theorem flX3_round_34 : Cond.fieldLink RX3 34 "LampHillsModel" "thrown" "I" ∈ wsX3_round := by decide +kernel
theorem iuX3_round_X3 : ∀ w ∈ u_ws RX3 TX3 13, w ∈ wsX3_round := fun _ h => List.mem_cons_of_mem _ (List.mem_append_right _ h)
theorem yi_X3_isLighter : xY yX3_isLighter wsX3_isLighter cX3_isLighter 2 (some .boolean) 1 := ⟨⟨_, rfl⟩, by decide +kernel, by decide +kernel, by decide +kernel⟩
theorem yi_X3_pe : xY yX3_pe wsX3_pe cX3_pe 3 (some .int) 2 := ⟨⟨_, rfl⟩, by decide +kernel, by decide +kernel, by decide +kernel⟩
theorem yi_X3_put : xY yX3_put wsX3_put cX3_put 4 none 3 := ⟨⟨_, rfl⟩, by decide +kernel, by decide +kernel, by decide +kernel⟩
def f3_round_L40 (p1 : Int32) (p2 : Int32) (v12 : Int32) (M1 : St) (K : Int32 → Option (Int32 × St)) : Nat → Int32 → Int32 → Option (Int32 × St)
  | 0, _, _ => none
  | fu + 1, v15, v16 =>
  if v12 ≤ v16 then
  (
    K v15
  )
  else
  (
    gd (xin ((10 * p1) + v16) 40) <|
    lt_ (fun (v19 : Int32) =>
    (
      lt_ (v15 ||| v19) fun v20 =>
      f3_round_L40 p1 p2 v12 M1 K fu v20 (v16 + 1)
    )
    ) fun J69 =>
    if (M1 10 ((10 * p1) + v16).toNatClampNeg) = p2 then
    (
      J69 1
    )
    else
    (
      J69 0
    )
  )
def f3_round (M : St) (p1 : Int32) (p2 : Int32) : Option (Int32 × St) :=
  lt_ (up2 M 0 0 0) fun M1 =>
  bd (f3_isLighter M1 p1) fun v2 =>
  lt_ (fun (u_ : Unit) =>
  (
    bd2 (f3_fail M1 1) fun v5 M6 =>
    some (v5, M6)
  )
  ) fun J21 =>
  if v2 = 0 then
  (
    J21 ()
  )
  else
  (
    bd (f3_isLamp M1 p2) fun v9 =>
    if v9 = 0 then
    (
      J21 ()
    )
    else
    (
      bd (f3_pe M1 p1 4) fun v12 =>
      f3_round_L40 p1 p2 v12 M1 (fun (v17 : Int32) =>
      (
        lt_ (fun (u_ : Unit) =>
        (
          bd2 (f3_fail M1 2) fun v21 M22 =>
          some (v21, M22)
        )
        ) fun J89 =>
        if v17 = 0 then
        (
          if v12 = 10 then
          (
            J89 ()
          )
          else
          (
            gd (xin ((10 * p1) + v12) 40) <|
            lt_ (up2 M1 10 ((10 * p1) + v12).toNatClampNeg p2) fun M26 =>
            bd (f3_put M26 p1 4 (v12 + 1)) fun M27 =>
            some ((v12 + 1), M27)
          )
        )
        else
        (
          J89 ()
        )
      )
      ) xF 0 0
    )
  )
set_option maxHeartbeats 4000000 in
set_option maxRecDepth 100000 in
theorem w3_round_L40 {p : Program} {l : Launch} {e : Env} {s : State} {m : MethodId} {args : Array Value} {below : List Frame} {meth : Method} {c : Code} {D : va_G} {A : Nat → Prop} {y : Nat → ClassId} {aM : Nat → Nat} {M1 : St} {p1 : Int32} {p2 : Int32} {v12 : Int32} {r : Int32} {M' : St} {K : Int32 → Option (Int32 × St)} (C : xC p s m args meth c D A cX3_round RX3 6 wsX3_round (xT y) (some .int)) (hK : ∀ (v17 : Int32), K v17 = some (r, M') → xV p l e { frames := 2, cells := 0, slots := 0, locals := 43 } s m args below meth c D A (xQi D (xT y) A (fun (r' : Int32) (_ : Unit) => r' = r) (fun _ : Unit => mC y aM M') 0 0 below args s) 6 (mC y aM M1) 0 0 [(0, .ref (aM 0)), (1, .int p1), (2, .int p2), (3, .int v12), (4, .int v17)] 78 []) : ∀ (fu : Nat) (v15 : Int32) (v16 : Int32), f3_round_L40 p1 p2 v12 M1 K fu v15 v16 = some (r, M') → xV p l e { frames := 2, cells := 0, slots := 0, locals := 43 } s m args below meth c D A (xQi D (xT y) A (fun (r' : Int32) (_ : Unit) => r' = r) (fun _ : Unit => mC y aM M') 0 0 below args s) 6 (mC y aM M1) 0 0 [(0, .ref (aM 0)), (1, .int p1), (2, .int p2), (3, .int v12), (4, .int v15), (5, .int v16)] 40 [] := by
  intro fu
  induction fu with
  | zero => intro v15 v16 hf; rw [f3_round_L40] at hf; cases hf
  | succ fu ih =>
    intro v15 v16 hf
    rw [f3_round_L40] at hf
    refine x_iload (q := 42) C 5 dX3_round_40 rfl rfl ?_
    refine x_iload_n (q := 43) C 3 dX3_round_42 rfl rfl rfl ?_
    refine x_icmp_ge (t := 78) (q := 46) C dX3_round_43 (by decide) rfl (fun hc => ?_) (fun hc => ?_)
    · have hf := (if_pos hc).symm.trans hf
      refine x_sub [0, 1, 2, 3, 4] (L' := [(0, .ref (aM 0)), (1, .int p1), (2, .int p2), (3, .int v12), (4, .int v15)]) rfl ?_
      exact hK v15 hf
    · have hf := (if_neg hc).symm.trans hf
      refine x_iload (q := 48) C 4 dX3_round_46 rfl rfl ?_
      refine x_aload_n (q := 49) C 0 dX3_round_48 rfl rfl rfl ?_
      refine x_get (q := 52) C 10 dX3_round_49 (oX3 y aM M1) rfl iuX3_round_X3 flX3_round_25 rfl (by decide) rfl rfl ?_
      refine x_bipush (q := 54) C dX3_round_52 kb_10 rfl ?_
      refine x_iload_n (q := 55) C 1 dX3_round_54 rfl rfl rfl ?_
      refine x_imul (q := 56) C dX3_round_55 rfl ?_
      refine x_iload (q := 58) C 5 dX3_round_56 rfl rfl ?_
      refine x_iadd (q := 59) C dX3_round_58 rfl ?_
      obtain ⟨hb18, hf⟩ := gd_some hf
      refine x_iald (q := 60) C 0 dX3_round_59 (aX3_10 y aM M1) rfl hb18 rfl ?_
      refine x_iload_n (q := 61) C 2 dX3_round_60 rfl rfl rfl ?_
      obtain ⟨J69, eJ69, hf⟩ := lt_elim hf
      have hJ69 : ∀ (v19 : Int32), J69 v19 = some (r, M') → xV p l e { frames := 2, cells := 0, slots := 0, locals := 43 } s m args below meth c D A (xQi D (xT y) A (fun (r' : Int32) (_ : Unit) => r' = r) (fun _ : Unit => mC y aM M') 0 0 below args s) 6 (mC y aM M1) 0 0 [(0, .ref (aM 0)), (1, .int p1), (2, .int p2), (3, .int v12), (5, .int v16)] 69 [.int v19, .int v15] := by
        intro v19 hf
        subst eJ69
        refine x_ior (q := 70) C dX3_round_69 rfl ?_
        obtain ⟨v20, ev20, hf⟩ := lt_elim hf
        refine x_topi ev20 ?_
        refine x_istore (q := 72) C [1, 2, 3, 4, 0, 5] [(0, .ref (aM 0)), (1, .int p1), (2, .int p2), (3, .int v12), (4, .int v20), (5, .int v16)] dX3_round_70 (by decide) rfl rfl ?_
        refine x_iinc (q := 75) C 5 (v16 + 1) [1, 2, 3, 4, 5, 0] [(0, .ref (aM 0)), (1, .int p1), (2, .int p2), (3, .int v12), (4, .int v20), (5, .int (v16 + 1))] dX3_round_72 rfl (congrArg (fun z => v16 + z) ki_1) (by decide) rfl rfl ?_
        refine x_goto (t := 40) C dX3_round_75 (by decide) ?_
        exact ih v20 (v16 + 1) hf
      refine x_icmp_ne (t := 68) (q := 64) C dX3_round_61 (by decide) rfl (fun hc => ?_) (fun hc => ?_)
      · have hf := (if_neg hc).symm.trans hf
        refine x_iconst (q := 69) C dX3_round_68 ki_0 rfl ?_
        refine x_sub [0, 1, 2, 3, 5] (L' := [(0, .ref (aM 0)), (1, .int p1), (2, .int p2), (3, .int v12), (5, .int v16)]) rfl ?_
        exact hJ69 0 hf
      · have hf := (if_pos hc).symm.trans hf
        refine x_iconst (q := 65) C dX3_round_64 ki_1 rfl ?_
        refine x_goto (t := 69) C dX3_round_65 (by decide) ?_
        refine x_sub [0, 1, 2, 3, 5] (L' := [(0, .ref (aM 0)), (1, .int p1), (2, .int p2), (3, .int v12), (5, .int v16)]) rfl ?_
        exact hJ69 1 hf
set_option maxHeartbeats 4000000 in
set_option maxRecDepth 100000 in
theorem c3_round {l : Launch} {D : va_G} {y : Nat → ClassId} {aM : Nat → Nat} {M : St} {p1 : Int32} {p2 : Int32} {r : Int32} {M' : St} (hf : f3_round M p1 p2 = some (r, M')) : xMi l yX3_round wsX3_round 2 43 0 0 D (xT y) [.ref (aM 0), .int p1, .int p2] (mC y aM M) (fun (r' : Int32) (_ : Unit) => r' = r) (fun _ : Unit => mC y aM M') := by
  refine xMi_of (cc := cX3_round) (nL := 6) (ret := (some .int)) [(0, .ref (aM 0)), (1, .int p1), (2, .int p2)] (by decide) rfl (Nat.le_of_ble_eq_true rfl) rfl ?_
  intro p e s m args below meth c A C hin
  have C : xC p s m args meth c D A cX3_round RX3 6 wsX3_round (xT y) (some .int) := C
  unfold f3_round at hf
  refine x_aload_n (q := 1) C 0 dX3_round_0 rfl rfl rfl ?_
  refine x_iconst (q := 2) C dX3_round_1 ki_0 rfl ?_
  obtain ⟨M1, eM1, hf⟩ := lt_elim hf
  refine x_puti (q := 5) (ws' := mC y aM M1) C tyX3 tyX3_ok nmX3 dX3_round_2 (iX3_0 y aM M) rfl iuX3_round_X3 flX3_round_34 rfl (by decide) rfl rfl (congrArg (fun z => mC y aM z) eM1.symm) rfl ?_
  refine x_aload_n (q := 6) C 0 dX3_round_5 rfl rfl rfl ?_
  refine x_iload_n (q := 7) C 1 dX3_round_6 rfl rfl rfl ?_
  obtain ⟨v2, hcal3, hf⟩ := bd_some hf
  refine x_callVi (q := 10) C (c3_isLighter (l := l) (D := D) (y := y) (aM := aM) hcal3) yi_X3_isLighter gX3_round_X3_isLighter rfl (oX3 y aM M1) rfl ⟨(Nat.le_of_ble_eq_true rfl), (Nat.le_of_ble_eq_true rfl)⟩ dX3_round_7 pm_nil rfl rfl (Nat.le_of_ble_eq_true rfl) ⟨Nat.le_of_ble_eq_true rfl, Nat.le_of_ble_eq_true rfl⟩ rfl ?_
  intro rr4 uu hrr
  have hrr : v2 = rr4 := Eq.symm hrr
  subst hrr
  refine x_world (ws' := mC y aM M1) (List.append_nil _) ?_
  obtain ⟨J21, eJ21, hf⟩ := lt_elim hf
  have hJ21 : ∀ (u_ : Unit), J21 u_ = some (r, M') → xV p l e { frames := 2, cells := 0, slots := 0, locals := 43 } s m args below meth c D A (xQi D (xT y) A (fun (r' : Int32) (_ : Unit) => r' = r) (fun _ : Unit => mC y aM M') 0 0 below args s) 6 (mC y aM M1) 0 0 [(0, .ref (aM 0))] 21 [] := by
    intro u_ hf
    subst eJ21
    refine x_aload_n (q := 22) C 0 dX3_round_21 rfl rfl rfl ?_
    refine x_iconst (q := 23) C dX3_round_22 ki_1 rfl ?_
    obtain ⟨v5, M6, hcal7, hf⟩ := bd2_some hf
    refine x_callVi (q := 26) C (c3_fail (l := l) (D := D) (y := y) (aM := aM) hcal7) yi_X3_fail gX3_round_X3_fail rfl (oX3 y aM M1) rfl ⟨(Nat.le_of_ble_eq_true rfl), (Nat.le_of_ble_eq_true rfl)⟩ dX3_round_23 pm_nil rfl rfl (Nat.le_of_ble_eq_true rfl) ⟨Nat.le_of_ble_eq_true rfl, Nat.le_of_ble_eq_true rfl⟩ rfl ?_
    intro rr8 uu hrr
    have hrr : v5 = rr8 := Eq.symm hrr
    subst hrr
    refine x_world (ws' := mC y aM M6) (List.append_nil _) ?_
    have hf := Option.some.inj hf
    obtain ⟨hr0, hr1⟩ := Prod.mk.inj hf
    exact x_iret () C dX3_round_26 rfl hr0 (congrArg (fun z => mC y aM z) hr1) (Nat.le_of_ble_eq_true rfl) (Nat.le_of_ble_eq_true rfl)
  refine x_if_eq (t := 21) (q := 13) C dX3_round_10 (by decide) rfl (fun hc => ?_) (fun hc => ?_)
  · have hf := (if_pos hc).symm.trans hf
    refine x_sub [0] (L' := [(0, .ref (aM 0))]) rfl ?_
    exact hJ21 () hf
  · have hf := (if_neg hc).symm.trans hf
    refine x_aload_n (q := 14) C 0 dX3_round_13 rfl rfl rfl ?_
    refine x_iload_n (q := 15) C 2 dX3_round_14 rfl rfl rfl ?_
    obtain ⟨v9, hcal10, hf⟩ := bd_some hf
    refine x_callVi (q := 18) C (c3_isLamp (l := l) (D := D) (y := y) (aM := aM) hcal10) yi_X3_isLamp gX3_round_X3_isLamp rfl (oX3 y aM M1) rfl ⟨(Nat.le_of_ble_eq_true rfl), (Nat.le_of_ble_eq_true rfl)⟩ dX3_round_15 pm_nil rfl rfl (Nat.le_of_ble_eq_true rfl) ⟨Nat.le_of_ble_eq_true rfl, Nat.le_of_ble_eq_true rfl⟩ rfl ?_
    intro rr11 uu hrr
    have hrr : v9 = rr11 := Eq.symm hrr
    subst hrr
    refine x_world (ws' := mC y aM M1) (List.append_nil _) ?_
    refine x_if_ne (t := 27) (q := 21) C dX3_round_18 (by decide) rfl (fun hc => ?_) (fun hc => ?_)
    · have hf := (if_neg hc).symm.trans hf
      refine x_aload_n (q := 28) C 0 dX3_round_27 rfl rfl rfl ?_
      refine x_iload_n (q := 29) C 1 dX3_round_28 rfl rfl rfl ?_
      refine x_iconst (q := 30) C dX3_round_29 ki_4 rfl ?_
      obtain ⟨v12, hcal13, hf⟩ := bd_some hf
      refine x_callVi (q := 33) C (c3_pe (l := l) (D := D) (y := y) (aM := aM) hcal13) yi_X3_pe gX3_round_X3_pe rfl (oX3 y aM M1) rfl ⟨(Nat.le_of_ble_eq_true rfl), (Nat.le_of_ble_eq_true rfl)⟩ dX3_round_30 pm_nil rfl rfl (Nat.le_of_ble_eq_true rfl) ⟨Nat.le_of_ble_eq_true rfl, Nat.le_of_ble_eq_true rfl⟩ rfl ?_
      intro rr14 uu hrr
      have hrr : v12 = rr14 := Eq.symm hrr
      subst hrr
      refine x_world (ws' := mC y aM M1) (List.append_nil _) ?_
      refine x_istore_n (q := 34) C [1, 2, 3, 0] [(0, .ref (aM 0)), (1, .int p1), (2, .int p2), (3, .int v12)] dX3_round_33 rfl (by decide) rfl rfl ?_
      refine x_iconst (q := 35) C dX3_round_34 ki_0 rfl ?_
      refine x_istore (q := 37) C [1, 2, 3, 4, 0] [(0, .ref (aM 0)), (1, .int p1), (2, .int p2), (3, .int v12), (4, .int 0)] dX3_round_35 (by decide) rfl rfl ?_
      refine x_iconst (q := 38) C dX3_round_37 ki_0 rfl ?_
      refine x_istore (q := 40) C [1, 2, 3, 4, 5, 0] [(0, .ref (aM 0)), (1, .int p1), (2, .int p2), (3, .int v12), (4, .int 0), (5, .int 0)] dX3_round_38 (by decide) rfl rfl ?_
      refine w3_round_L40 C (fun v17 hf => ?_) xF 0 0 hf
      refine x_iload (q := 80) C 4 dX3_round_78 rfl rfl ?_
      obtain ⟨J89, eJ89, hf⟩ := lt_elim hf
      have hJ89 : ∀ (u_ : Unit), J89 u_ = some (r, M') → xV p l e { frames := 2, cells := 0, slots := 0, locals := 43 } s m args below meth c D A (xQi D (xT y) A (fun (r' : Int32) (_ : Unit) => r' = r) (fun _ : Unit => mC y aM M') 0 0 below args s) 6 (mC y aM M1) 0 0 [(0, .ref (aM 0))] 89 [] := by
        intro u_ hf
        subst eJ89
        refine x_aload_n (q := 90) C 0 dX3_round_89 rfl rfl rfl ?_
        refine x_iconst (q := 91) C dX3_round_90 ki_2 rfl ?_
        obtain ⟨v21, M22, hcal23, hf⟩ := bd2_some hf
        refine x_callVi (q := 94) C (c3_fail (l := l) (D := D) (y := y) (aM := aM) hcal23) yi_X3_fail gX3_round_X3_fail rfl (oX3 y aM M1) rfl ⟨(Nat.le_of_ble_eq_true rfl), (Nat.le_of_ble_eq_true rfl)⟩ dX3_round_91 pm_nil rfl rfl (Nat.le_of_ble_eq_true rfl) ⟨Nat.le_of_ble_eq_true rfl, Nat.le_of_ble_eq_true rfl⟩ rfl ?_
        intro rr24 uu hrr
        have hrr : v21 = rr24 := Eq.symm hrr
        subst hrr
        refine x_world (ws' := mC y aM M22) (List.append_nil _) ?_
        have hf := Option.some.inj hf
        obtain ⟨hr0, hr1⟩ := Prod.mk.inj hf
        exact x_iret () C dX3_round_94 rfl hr0 (congrArg (fun z => mC y aM z) hr1) (Nat.le_of_ble_eq_true rfl) (Nat.le_of_ble_eq_true rfl)
      refine x_if_ne (t := 89) (q := 83) C dX3_round_80 (by decide) rfl (fun hc => ?_) (fun hc => ?_)
      · have hf := (if_neg hc).symm.trans hf
        refine x_sub [0] (L' := [(0, .ref (aM 0))]) rfl ?_
        exact hJ89 () hf
      · have hf := (if_pos hc).symm.trans hf
        refine x_iload_n (q := 84) C 3 dX3_round_83 rfl rfl rfl ?_
        refine x_bipush (q := 86) C dX3_round_84 kb_10 rfl ?_
        refine x_icmp_ne (t := 95) (q := 89) C dX3_round_86 (by decide) rfl (fun hc => ?_) (fun hc => ?_)
        · have hf := (if_neg hc).symm.trans hf
          refine x_aload_n (q := 96) C 0 dX3_round_95 rfl rfl rfl ?_
          refine x_get (q := 99) C 10 dX3_round_96 (oX3 y aM M1) rfl iuX3_round_X3 flX3_round_25 rfl (by decide) rfl rfl ?_
          refine x_bipush (q := 101) C dX3_round_99 kb_10 rfl ?_
          refine x_iload_n (q := 102) C 1 dX3_round_101 rfl rfl rfl ?_
          refine x_imul (q := 103) C dX3_round_102 rfl ?_
          refine x_iload_n (q := 104) C 3 dX3_round_103 rfl rfl rfl ?_
          refine x_iadd (q := 105) C dX3_round_104 rfl ?_
          refine x_iload_n (q := 106) C 2 dX3_round_105 rfl rfl rfl ?_
          obtain ⟨hb25, hf⟩ := gd_some hf
          obtain ⟨M26, eM26, hf⟩ := lt_elim hf
          refine x_iast (q := 107) (ws' := mC y aM M26) C 0 dX3_round_106 (aX3_10 y aM M1) rfl hb25 (congrArg (fun z => mC y aM z) eM26.symm) rfl ?_
          refine x_aload_n (q := 108) C 0 dX3_round_107 rfl rfl rfl ?_
          refine x_iload_n (q := 109) C 1 dX3_round_108 rfl rfl rfl ?_
          refine x_iconst (q := 110) C dX3_round_109 ki_4 rfl ?_
          refine x_iload_n (q := 111) C 3 dX3_round_110 rfl rfl rfl ?_
          refine x_iconst (q := 112) C dX3_round_111 ki_1 rfl ?_
          refine x_iadd (q := 113) C dX3_round_112 rfl ?_
          obtain ⟨M27, hcal28, hf⟩ := bd_some hf
          refine x_callVv (q := 116) C (c3_put (l := l) (D := D) (y := y) (aM := aM) hcal28) yi_X3_put gX3_round_X3_put rfl (oX3 y aM M26) rfl ⟨(Nat.le_of_ble_eq_true rfl), (Nat.le_of_ble_eq_true rfl)⟩ dX3_round_113 pm_nil rfl rfl (Nat.le_of_ble_eq_true rfl) ⟨Nat.le_of_ble_eq_true rfl, Nat.le_of_ble_eq_true rfl⟩ rfl ?_
          intro uu hrr
          refine x_world (ws' := mC y aM M27) (List.append_nil _) ?_
          refine x_iload_n (q := 117) C 3 dX3_round_116 rfl rfl rfl ?_
          refine x_iconst (q := 118) C dX3_round_117 ki_1 rfl ?_
          refine x_iadd (q := 119) C dX3_round_118 rfl ?_
          have hf := Option.some.inj hf
          obtain ⟨hr0, hr1⟩ := Prod.mk.inj hf
          exact x_iret () C dX3_round_119 rfl hr0 (congrArg (fun z => mC y aM z) hr1) (Nat.le_of_ble_eq_true rfl) (Nat.le_of_ble_eq_true rfl)
        · have hf := (if_pos hc).symm.trans hf
          refine x_sub [0] (L' := [(0, .ref (aM 0))]) rfl ?_
          exact hJ89 () hf
    · have hf := (if_pos hc).symm.trans hf
      refine x_sub [0] (L' := [(0, .ref (aM 0))]) rfl ?_
      exact hJ21 () hf

/-! LampHillsModel.fill(II)I -/
theorem flX3_fill_34 : Cond.fieldLink RX3 34 "LampHillsModel" "thrown" "I" ∈ wsX3_fill := by decide +kernel
theorem iuX3_fill_X3 : ∀ w ∈ u_ws RX3 TX3 13, w ∈ wsX3_fill := fun _ h => List.mem_cons_of_mem _ (List.mem_append_right _ h)
theorem kmX3_fill_63 : ∀ w ∈ ([.methodLink RX3 63 Lib.Math.min.name, .static Lib.Math.min.name, .initialized "java/lang/Math", .code Lib.Math.min.name Lib.Math.min.code 2 (some .int)] : List Cond), w ∈ wsX3_fill := by decide +kernel
def f3_fill (M : St) (p1 : Int32) (p2 : Int32) : Option (Int32 × St) :=
  lt_ (up2 M 0 0 0) fun M1 =>
  bd (f3_isLighter M1 p1) fun v2 =>
  if v2 = 0 then
  (
    bd2 (f3_fail M1 1) fun v20 M21 =>
    some (v20, M21)
  )
  else
  (
    bd (f3_isIn p2 1 999) fun v5 =>
    if v5 = 0 then
    (
      bd2 (f3_fail M1 2) fun v16 M17 =>
      some (v16, M17)
    )
    else
    (
      bd (f3_pe M1 p1 3) fun v8 =>
      bd (f3_put M1 p1 3 (if (v8 + p2) < (999 : Int32) then (v8 + p2) else (999 : Int32))) fun M11 =>
      bd (f3_pe M11 p1 3) fun v13 =>
      some (v13, M11)
    )
  )
set_option maxHeartbeats 4000000 in
set_option maxRecDepth 100000 in
theorem c3_fill {l : Launch} {D : va_G} {y : Nat → ClassId} {aM : Nat → Nat} {M : St} {p1 : Int32} {p2 : Int32} {r : Int32} {M' : St} (hf : f3_fill M p1 p2 = some (r, M')) : xMi l yX3_fill wsX3_fill 2 48 0 0 D (xT y) [.ref (aM 0), .int p1, .int p2] (mC y aM M) (fun (r' : Int32) (_ : Unit) => r' = r) (fun _ : Unit => mC y aM M') := by
  refine xMi_of (cc := cX3_fill) (nL := 3) (ret := (some .int)) [(0, .ref (aM 0)), (1, .int p1), (2, .int p2)] (by decide) rfl (Nat.le_of_ble_eq_true rfl) rfl ?_
  intro p e s m args below meth c A C hin
  have C : xC p s m args meth c D A cX3_fill RX3 3 wsX3_fill (xT y) (some .int) := C
  unfold f3_fill at hf
  refine x_aload_n (q := 1) C 0 dX3_fill_0 rfl rfl rfl ?_
  refine x_iconst (q := 2) C dX3_fill_1 ki_0 rfl ?_
  obtain ⟨M1, eM1, hf⟩ := lt_elim hf
  refine x_puti (q := 5) (ws' := mC y aM M1) C tyX3 tyX3_ok nmX3 dX3_fill_2 (iX3_0 y aM M) rfl iuX3_fill_X3 flX3_fill_34 rfl (by decide) rfl rfl (congrArg (fun z => mC y aM z) eM1.symm) rfl ?_
  refine x_aload_n (q := 6) C 0 dX3_fill_5 rfl rfl rfl ?_
  refine x_iload_n (q := 7) C 1 dX3_fill_6 rfl rfl rfl ?_
  obtain ⟨v2, hcal3, hf⟩ := bd_some hf
  refine x_callVi (q := 10) C (c3_isLighter (l := l) (D := D) (y := y) (aM := aM) hcal3) yi_X3_isLighter gX3_fill_X3_isLighter rfl (oX3 y aM M1) rfl ⟨(Nat.le_of_ble_eq_true rfl), (Nat.le_of_ble_eq_true rfl)⟩ dX3_fill_7 pm_nil rfl rfl (Nat.le_of_ble_eq_true rfl) ⟨Nat.le_of_ble_eq_true rfl, Nat.le_of_ble_eq_true rfl⟩ rfl ?_
  intro rr4 uu hrr
  have hrr : v2 = rr4 := Eq.symm hrr
  subst hrr
  refine x_world (ws' := mC y aM M1) (List.append_nil _) ?_
  refine x_if_ne (t := 19) (q := 13) C dX3_fill_10 (by decide) rfl (fun hc => ?_) (fun hc => ?_)
  · have hf := (if_neg hc).symm.trans hf
    refine x_iload_n (q := 20) C 2 dX3_fill_19 rfl rfl rfl ?_
    refine x_iconst (q := 21) C dX3_fill_20 ki_1 rfl ?_
    refine x_sipush (q := 24) C dX3_fill_21 ks_999 rfl ?_
    obtain ⟨v5, hcal6, hf⟩ := bd_some hf
    refine x_callSi (q := 27) C (c3_isIn (l := l) (D := D) (y := y)  hcal6) yi_X3_isIn gX3_fill_X3_isIn ⟨(Nat.le_of_ble_eq_true rfl), (Nat.le_of_ble_eq_true rfl)⟩ dX3_fill_24 pm_emp rfl rfl (Nat.le_of_ble_eq_true rfl) ⟨Nat.le_of_ble_eq_true rfl, Nat.le_of_ble_eq_true rfl⟩ rfl ?_
    intro rr7 uu hrr
    have hrr : v5 = rr7 := Eq.symm hrr
    subst hrr
    refine x_world (ws' := mC y aM M1) rfl ?_
    refine x_if_ne (t := 36) (q := 30) C dX3_fill_27 (by decide) rfl (fun hc => ?_) (fun hc => ?_)
    · have hf := (if_neg hc).symm.trans hf
      refine x_aload_n (q := 37) C 0 dX3_fill_36 rfl rfl rfl ?_
      refine x_iload_n (q := 38) C 1 dX3_fill_37 rfl rfl rfl ?_
      refine x_iconst (q := 39) C dX3_fill_38 ki_3 rfl ?_
      refine x_sipush (q := 42) C dX3_fill_39 ks_999 rfl ?_
      refine x_aload_n (q := 43) C 0 dX3_fill_42 rfl rfl rfl ?_
      refine x_iload_n (q := 44) C 1 dX3_fill_43 rfl rfl rfl ?_
      refine x_iconst (q := 45) C dX3_fill_44 ki_3 rfl ?_
      obtain ⟨v8, hcal9, hf⟩ := bd_some hf
      refine x_callVi (q := 48) C (c3_pe (l := l) (D := D) (y := y) (aM := aM) hcal9) yi_X3_pe gX3_fill_X3_pe rfl (oX3 y aM M1) rfl ⟨(Nat.le_of_ble_eq_true rfl), (Nat.le_of_ble_eq_true rfl)⟩ dX3_fill_45 pm_nil rfl rfl (Nat.le_of_ble_eq_true rfl) ⟨Nat.le_of_ble_eq_true rfl, Nat.le_of_ble_eq_true rfl⟩ rfl ?_
      intro rr10 uu hrr
      have hrr : v8 = rr10 := Eq.symm hrr
      subst hrr
      refine x_world (ws' := mC y aM M1) (List.append_nil _) ?_
      refine x_iload_n (q := 49) C 2 dX3_fill_48 rfl rfl rfl ?_
      refine x_iadd (q := 50) C dX3_fill_49 rfl ?_
      refine x_mmin (q := 53) C dX3_fill_50 kmX3_fill_63 (Nat.le_of_ble_eq_true rfl) (Nat.le_of_ble_eq_true rfl) (Nat.le_of_ble_eq_true rfl) (Nat.le_of_ble_eq_true rfl) rfl ?_
      obtain ⟨M11, hcal12, hf⟩ := bd_some hf
      refine x_callVv (q := 56) C (c3_put (l := l) (D := D) (y := y) (aM := aM) hcal12) yi_X3_put gX3_fill_X3_put rfl (oX3 y aM M1) rfl ⟨(Nat.le_of_ble_eq_true rfl), (Nat.le_of_ble_eq_true rfl)⟩ dX3_fill_53 pm_nil rfl rfl (Nat.le_of_ble_eq_true rfl) ⟨Nat.le_of_ble_eq_true rfl, Nat.le_of_ble_eq_true rfl⟩ rfl ?_
      intro uu hrr
      refine x_world (ws' := mC y aM M11) (List.append_nil _) ?_
      refine x_aload_n (q := 57) C 0 dX3_fill_56 rfl rfl rfl ?_
      refine x_iload_n (q := 58) C 1 dX3_fill_57 rfl rfl rfl ?_
      refine x_iconst (q := 59) C dX3_fill_58 ki_3 rfl ?_
      obtain ⟨v13, hcal14, hf⟩ := bd_some hf
      refine x_callVi (q := 62) C (c3_pe (l := l) (D := D) (y := y) (aM := aM) hcal14) yi_X3_pe gX3_fill_X3_pe rfl (oX3 y aM M11) rfl ⟨(Nat.le_of_ble_eq_true rfl), (Nat.le_of_ble_eq_true rfl)⟩ dX3_fill_59 pm_nil rfl rfl (Nat.le_of_ble_eq_true rfl) ⟨Nat.le_of_ble_eq_true rfl, Nat.le_of_ble_eq_true rfl⟩ rfl ?_
      intro rr15 uu hrr
      have hrr : v13 = rr15 := Eq.symm hrr
      subst hrr
      refine x_world (ws' := mC y aM M11) (List.append_nil _) ?_
      have hf := Option.some.inj hf
      obtain ⟨hr0, hr1⟩ := Prod.mk.inj hf
      exact x_iret () C dX3_fill_62 rfl hr0 (congrArg (fun z => mC y aM z) hr1) (Nat.le_of_ble_eq_true rfl) (Nat.le_of_ble_eq_true rfl)
    · have hf := (if_pos hc).symm.trans hf
      refine x_aload_n (q := 31) C 0 dX3_fill_30 rfl rfl rfl ?_
      refine x_iconst (q := 32) C dX3_fill_31 ki_2 rfl ?_
      obtain ⟨v16, M17, hcal18, hf⟩ := bd2_some hf
      refine x_callVi (q := 35) C (c3_fail (l := l) (D := D) (y := y) (aM := aM) hcal18) yi_X3_fail gX3_fill_X3_fail rfl (oX3 y aM M1) rfl ⟨(Nat.le_of_ble_eq_true rfl), (Nat.le_of_ble_eq_true rfl)⟩ dX3_fill_32 pm_nil rfl rfl (Nat.le_of_ble_eq_true rfl) ⟨Nat.le_of_ble_eq_true rfl, Nat.le_of_ble_eq_true rfl⟩ rfl ?_
      intro rr19 uu hrr
      have hrr : v16 = rr19 := Eq.symm hrr
      subst hrr
      refine x_world (ws' := mC y aM M17) (List.append_nil _) ?_
      have hf := Option.some.inj hf
      obtain ⟨hr0, hr1⟩ := Prod.mk.inj hf
      exact x_iret () C dX3_fill_35 rfl hr0 (congrArg (fun z => mC y aM z) hr1) (Nat.le_of_ble_eq_true rfl) (Nat.le_of_ble_eq_true rfl)
  · have hf := (if_pos hc).symm.trans hf
    refine x_aload_n (q := 14) C 0 dX3_fill_13 rfl rfl rfl ?_
    refine x_iconst (q := 15) C dX3_fill_14 ki_1 rfl ?_
    obtain ⟨v20, M21, hcal22, hf⟩ := bd2_some hf
    refine x_callVi (q := 18) C (c3_fail (l := l) (D := D) (y := y) (aM := aM) hcal22) yi_X3_fail gX3_fill_X3_fail rfl (oX3 y aM M1) rfl ⟨(Nat.le_of_ble_eq_true rfl), (Nat.le_of_ble_eq_true rfl)⟩ dX3_fill_15 pm_nil rfl rfl (Nat.le_of_ble_eq_true rfl) ⟨Nat.le_of_ble_eq_true rfl, Nat.le_of_ble_eq_true rfl⟩ rfl ?_
    intro rr23 uu hrr
    have hrr : v20 = rr23 := Eq.symm hrr
    subst hrr
    refine x_world (ws' := mC y aM M21) (List.append_nil _) ?_
    have hf := Option.some.inj hf
    obtain ⟨hr0, hr1⟩ := Prod.mk.inj hf
    exact x_iret () C dX3_fill_18 rfl hr0 (congrArg (fun z => mC y aM z) hr1) (Nat.le_of_ble_eq_true rfl) (Nat.le_of_ble_eq_true rfl)

/-! LampHillsModel.away(II)I -/
theorem flX3_away_16 : Cond.fieldLink RX3 16 "LampHillsModel" "ways" "[I" ∈ wsX3_away := by decide +kernel
theorem iuX3_away_X3 : ∀ w ∈ u_ws RX3 TX3 13, w ∈ wsX3_away := fun _ h => List.mem_cons_of_mem _ (List.mem_append_right _ h)
theorem kmX3_away_63 : ∀ w ∈ ([.methodLink RX3 63 Lib.Math.min.name, .static Lib.Math.min.name, .initialized "java/lang/Math", .code Lib.Math.min.name Lib.Math.min.code 2 (some .int)] : List Cond), w ∈ wsX3_away := by decide +kernel
def f3_away (M : St) (p1 : Int32) (p2 : Int32) : Option (Int32) :=
  gd (xin ((12 * p1) + p2) 144) <|
  some (if (M 7 ((12 * p1) + p2).toNatClampNeg) < (9999 : Int32) then (M 7 ((12 * p1) + p2).toNatClampNeg) else (9999 : Int32))
set_option maxHeartbeats 4000000 in
set_option maxRecDepth 100000 in
theorem c3_away {l : Launch} {D : va_G} {y : Nat → ClassId} {aM : Nat → Nat} {M : St} {p1 : Int32} {p2 : Int32} {r : Int32} (hf : f3_away M p1 p2 = some r) : xMi l yX3_away wsX3_away 1 48 0 0 D (xT y) [.ref (aM 0), .int p1, .int p2] (mC y aM M) (fun (r' : Int32) (_ : Unit) => r' = r) (fun _ : Unit => mC y aM M) := by
  refine xMi_of (cc := cX3_away) (nL := 3) (ret := (some .int)) [(0, .ref (aM 0)), (1, .int p1), (2, .int p2)] (by decide) rfl (Nat.le_of_ble_eq_true rfl) rfl ?_
  intro p e s m args below meth c A C hin
  have C : xC p s m args meth c D A cX3_away RX3 3 wsX3_away (xT y) (some .int) := C
  unfold f3_away at hf
  refine x_sipush (q := 3) C dX3_away_0 ks_9999 rfl ?_
  refine x_aload_n (q := 4) C 0 dX3_away_3 rfl rfl rfl ?_
  refine x_get (q := 7) C 7 dX3_away_4 (oX3 y aM M) rfl iuX3_away_X3 flX3_away_16 rfl (by decide) rfl rfl ?_
  refine x_bipush (q := 9) C dX3_away_7 kb_12 rfl ?_
  refine x_iload_n (q := 10) C 1 dX3_away_9 rfl rfl rfl ?_
  refine x_imul (q := 11) C dX3_away_10 rfl ?_
  refine x_iload_n (q := 12) C 2 dX3_away_11 rfl rfl rfl ?_
  refine x_iadd (q := 13) C dX3_away_12 rfl ?_
  obtain ⟨hb1, hf⟩ := gd_some hf
  refine x_iald (q := 14) C 0 dX3_away_13 (aX3_7 y aM M) rfl hb1 rfl ?_
  refine x_mmin (q := 17) C dX3_away_14 kmX3_away_63 (Nat.le_of_ble_eq_true rfl) (Nat.le_of_ble_eq_true rfl) (Nat.le_of_ble_eq_true rfl) (Nat.le_of_ble_eq_true rfl) rfl ?_
  have hf := Option.some.inj hf
  exact x_iret () C dX3_away_17 rfl hf rfl (Nat.le_of_ble_eq_true rfl) (Nat.le_of_ble_eq_true rfl)

/-! LampHillsModel.way(II)I -/
theorem flX3_way_34 : Cond.fieldLink RX3 34 "LampHillsModel" "thrown" "I" ∈ wsX3_way := by decide +kernel
theorem iuX3_way_X3 : ∀ w ∈ u_ws RX3 TX3 13, w ∈ wsX3_way := fun _ h => List.mem_cons_of_mem _ (List.mem_append_right _ h)
theorem yi_X3_away : xY yX3_away wsX3_away cX3_away 3 (some .int) 2 := ⟨⟨_, rfl⟩, by decide +kernel, by decide +kernel, by decide +kernel⟩
def f3_way (M : St) (p1 : Int32) (p2 : Int32) : Option (Int32 × St) :=
  lt_ (up2 M 0 0 0) fun M1 =>
  bd (f3_isCorner M1 p1) fun v2 =>
  lt_ (fun (u_ : Unit) =>
  (
    bd2 (f3_fail M1 1) fun v5 M6 =>
    some (v5, M6)
  )
  ) fun J21 =>
  if v2 = 0 then
  (
    J21 ()
  )
  else
  (
    bd (f3_isCorner M1 p2) fun v9 =>
    if v9 = 0 then
    (
      J21 ()
    )
    else
    (
      bd (f3_away M1 p1 p2) fun v12 =>
      if v12 = 9999 then
      (
        some ((-1), M1)
      )
      else
      (
        bd (f3_away M1 p1 p2) fun v15 =>
        some (v15, M1)
      )
    )
  )
set_option maxHeartbeats 4000000 in
set_option maxRecDepth 100000 in
theorem c3_way {l : Launch} {D : va_G} {y : Nat → ClassId} {aM : Nat → Nat} {M : St} {p1 : Int32} {p2 : Int32} {r : Int32} {M' : St} (hf : f3_way M p1 p2 = some (r, M')) : xMi l yX3_way wsX3_way 2 70 0 0 D (xT y) [.ref (aM 0), .int p1, .int p2] (mC y aM M) (fun (r' : Int32) (_ : Unit) => r' = r) (fun _ : Unit => mC y aM M') := by
  refine xMi_of (cc := cX3_way) (nL := 3) (ret := (some .int)) [(0, .ref (aM 0)), (1, .int p1), (2, .int p2)] (by decide) rfl (Nat.le_of_ble_eq_true rfl) rfl ?_
  intro p e s m args below meth c A C hin
  have C : xC p s m args meth c D A cX3_way RX3 3 wsX3_way (xT y) (some .int) := C
  unfold f3_way at hf
  refine x_aload_n (q := 1) C 0 dX3_way_0 rfl rfl rfl ?_
  refine x_iconst (q := 2) C dX3_way_1 ki_0 rfl ?_
  obtain ⟨M1, eM1, hf⟩ := lt_elim hf
  refine x_puti (q := 5) (ws' := mC y aM M1) C tyX3 tyX3_ok nmX3 dX3_way_2 (iX3_0 y aM M) rfl iuX3_way_X3 flX3_way_34 rfl (by decide) rfl rfl (congrArg (fun z => mC y aM z) eM1.symm) rfl ?_
  refine x_aload_n (q := 6) C 0 dX3_way_5 rfl rfl rfl ?_
  refine x_iload_n (q := 7) C 1 dX3_way_6 rfl rfl rfl ?_
  obtain ⟨v2, hcal3, hf⟩ := bd_some hf
  refine x_callVi (q := 10) C (c3_isCorner (l := l) (D := D) (y := y) (aM := aM) hcal3) yi_X3_isCorner gX3_way_X3_isCorner rfl (oX3 y aM M1) rfl ⟨(Nat.le_of_ble_eq_true rfl), (Nat.le_of_ble_eq_true rfl)⟩ dX3_way_7 pm_nil rfl rfl (Nat.le_of_ble_eq_true rfl) ⟨Nat.le_of_ble_eq_true rfl, Nat.le_of_ble_eq_true rfl⟩ rfl ?_
  intro rr4 uu hrr
  have hrr : v2 = rr4 := Eq.symm hrr
  subst hrr
  refine x_world (ws' := mC y aM M1) (List.append_nil _) ?_
  obtain ⟨J21, eJ21, hf⟩ := lt_elim hf
  have hJ21 : ∀ (u_ : Unit), J21 u_ = some (r, M') → xV p l e { frames := 2, cells := 0, slots := 0, locals := 70 } s m args below meth c D A (xQi D (xT y) A (fun (r' : Int32) (_ : Unit) => r' = r) (fun _ : Unit => mC y aM M') 0 0 below args s) 3 (mC y aM M1) 0 0 [(0, .ref (aM 0))] 21 [] := by
    intro u_ hf
    subst eJ21
    refine x_aload_n (q := 22) C 0 dX3_way_21 rfl rfl rfl ?_
    refine x_iconst (q := 23) C dX3_way_22 ki_1 rfl ?_
    obtain ⟨v5, M6, hcal7, hf⟩ := bd2_some hf
    refine x_callVi (q := 26) C (c3_fail (l := l) (D := D) (y := y) (aM := aM) hcal7) yi_X3_fail gX3_way_X3_fail rfl (oX3 y aM M1) rfl ⟨(Nat.le_of_ble_eq_true rfl), (Nat.le_of_ble_eq_true rfl)⟩ dX3_way_23 pm_nil rfl rfl (Nat.le_of_ble_eq_true rfl) ⟨Nat.le_of_ble_eq_true rfl, Nat.le_of_ble_eq_true rfl⟩ rfl ?_
    intro rr8 uu hrr
    have hrr : v5 = rr8 := Eq.symm hrr
    subst hrr
    refine x_world (ws' := mC y aM M6) (List.append_nil _) ?_
    have hf := Option.some.inj hf
    obtain ⟨hr0, hr1⟩ := Prod.mk.inj hf
    exact x_iret () C dX3_way_26 rfl hr0 (congrArg (fun z => mC y aM z) hr1) (Nat.le_of_ble_eq_true rfl) (Nat.le_of_ble_eq_true rfl)
  refine x_if_eq (t := 21) (q := 13) C dX3_way_10 (by decide) rfl (fun hc => ?_) (fun hc => ?_)
  · have hf := (if_pos hc).symm.trans hf
    refine x_sub [0] (L' := [(0, .ref (aM 0))]) rfl ?_
    exact hJ21 () hf
  · have hf := (if_neg hc).symm.trans hf
    refine x_aload_n (q := 14) C 0 dX3_way_13 rfl rfl rfl ?_
    refine x_iload_n (q := 15) C 2 dX3_way_14 rfl rfl rfl ?_
    obtain ⟨v9, hcal10, hf⟩ := bd_some hf
    refine x_callVi (q := 18) C (c3_isCorner (l := l) (D := D) (y := y) (aM := aM) hcal10) yi_X3_isCorner gX3_way_X3_isCorner rfl (oX3 y aM M1) rfl ⟨(Nat.le_of_ble_eq_true rfl), (Nat.le_of_ble_eq_true rfl)⟩ dX3_way_15 pm_nil rfl rfl (Nat.le_of_ble_eq_true rfl) ⟨Nat.le_of_ble_eq_true rfl, Nat.le_of_ble_eq_true rfl⟩ rfl ?_
    intro rr11 uu hrr
    have hrr : v9 = rr11 := Eq.symm hrr
    subst hrr
    refine x_world (ws' := mC y aM M1) (List.append_nil _) ?_
    refine x_if_ne (t := 27) (q := 21) C dX3_way_18 (by decide) rfl (fun hc => ?_) (fun hc => ?_)
    · have hf := (if_neg hc).symm.trans hf
      refine x_aload_n (q := 28) C 0 dX3_way_27 rfl rfl rfl ?_
      refine x_iload_n (q := 29) C 1 dX3_way_28 rfl rfl rfl ?_
      refine x_iload_n (q := 30) C 2 dX3_way_29 rfl rfl rfl ?_
      obtain ⟨v12, hcal13, hf⟩ := bd_some hf
      refine x_callVi (q := 33) C (c3_away (l := l) (D := D) (y := y) (aM := aM) hcal13) yi_X3_away gX3_way_X3_away rfl (oX3 y aM M1) rfl ⟨(Nat.le_of_ble_eq_true rfl), (Nat.le_of_ble_eq_true rfl)⟩ dX3_way_30 pm_nil rfl rfl (Nat.le_of_ble_eq_true rfl) ⟨Nat.le_of_ble_eq_true rfl, Nat.le_of_ble_eq_true rfl⟩ rfl ?_
      intro rr14 uu hrr
      have hrr : v12 = rr14 := Eq.symm hrr
      subst hrr
      refine x_world (ws' := mC y aM M1) (List.append_nil _) ?_
      refine x_sipush (q := 36) C dX3_way_33 ks_9999 rfl ?_
      refine x_icmp_ne (t := 43) (q := 39) C dX3_way_36 (by decide) rfl (fun hc => ?_) (fun hc => ?_)
      · have hf := (if_neg hc).symm.trans hf
        refine x_aload_n (q := 44) C 0 dX3_way_43 rfl rfl rfl ?_
        refine x_iload_n (q := 45) C 1 dX3_way_44 rfl rfl rfl ?_
        refine x_iload_n (q := 46) C 2 dX3_way_45 rfl rfl rfl ?_
        obtain ⟨v15, hcal16, hf⟩ := bd_some hf
        refine x_callVi (q := 49) C (c3_away (l := l) (D := D) (y := y) (aM := aM) hcal16) yi_X3_away gX3_way_X3_away rfl (oX3 y aM M1) rfl ⟨(Nat.le_of_ble_eq_true rfl), (Nat.le_of_ble_eq_true rfl)⟩ dX3_way_46 pm_nil rfl rfl (Nat.le_of_ble_eq_true rfl) ⟨Nat.le_of_ble_eq_true rfl, Nat.le_of_ble_eq_true rfl⟩ rfl ?_
        intro rr17 uu hrr
        have hrr : v15 = rr17 := Eq.symm hrr
        subst hrr
        refine x_world (ws' := mC y aM M1) (List.append_nil _) ?_
        have hf := Option.some.inj hf
        obtain ⟨hr0, hr1⟩ := Prod.mk.inj hf
        exact x_iret () C dX3_way_49 rfl hr0 (congrArg (fun z => mC y aM z) hr1) (Nat.le_of_ble_eq_true rfl) (Nat.le_of_ble_eq_true rfl)
      · have hf := (if_pos hc).symm.trans hf
        refine x_iconst (q := 40) C dX3_way_39 ki_m1 rfl ?_
        refine x_goto (t := 49) C dX3_way_40 (by decide) ?_
        have hf := Option.some.inj hf
        obtain ⟨hr0, hr1⟩ := Prod.mk.inj hf
        exact x_iret () C dX3_way_49 rfl hr0 (congrArg (fun z => mC y aM z) hr1) (Nat.le_of_ble_eq_true rfl) (Nat.le_of_ble_eq_true rfl)
    · have hf := (if_pos hc).symm.trans hf
      refine x_sub [0] (L' := [(0, .ref (aM 0))]) rfl ?_
      exact hJ21 () hf

/-! LampHillsModel.goer(I)I -/
theorem flX3_goer_51 : Cond.fieldLink RX3 51 "LampHillsModel" "lighters" "I" ∈ wsX3_goer := by decide +kernel
theorem iuX3_goer_X3 : ∀ w ∈ u_ws RX3 TX3 13, w ∈ wsX3_goer := fun _ h => List.mem_cons_of_mem _ (List.mem_append_right _ h)
def f3_goer_L2 (p1 : Int32) (M : St) : Nat → Int32 → Option (Int32)
  | 0, _ => none
  | fu + 1, v1 =>
  if (M 4 0) ≤ v1 then
  (
    some (-1)
  )
  else
  (
    bd (f3_pe M v1 5) fun v2 =>
    if v2 = p1 then
    (
      some v1
    )
    else
    (
      f3_goer_L2 p1 M fu (v1 + 1)
    )
  )
def f3_goer (M : St) (p1 : Int32) : Option (Int32) :=
  f3_goer_L2 p1 M xF 0
set_option maxHeartbeats 4000000 in
set_option maxRecDepth 100000 in
theorem w3_goer_L2 {p : Program} {l : Launch} {e : Env} {s : State} {m : MethodId} {args : Array Value} {below : List Frame} {meth : Method} {c : Code} {D : va_G} {A : Nat → Prop} {y : Nat → ClassId} {aM : Nat → Nat} {M : St} {p1 : Int32} {r : Int32} (C : xC p s m args meth c D A cX3_goer RX3 3 wsX3_goer (xT y) (some .int)) : ∀ (fu : Nat) (v1 : Int32), f3_goer_L2 p1 M fu v1 = some r → xV p l e { frames := 1, cells := 0, slots := 0, locals := 22 } s m args below meth c D A (xQi D (xT y) A (fun (r' : Int32) (_ : Unit) => r' = r) (fun _ : Unit => mC y aM M) 0 0 below args s) 3 (mC y aM M) 0 0 [(0, .ref (aM 0)), (1, .int p1), (2, .int v1)] 2 [] := by
  intro fu
  induction fu with
  | zero => intro v1 hf; rw [f3_goer_L2] at hf; cases hf
  | succ fu ih =>
    intro v1 hf
    rw [f3_goer_L2] at hf
    refine x_iload_n (q := 3) C 2 dX3_goer_2 rfl rfl rfl ?_
    refine x_aload_n (q := 4) C 0 dX3_goer_3 rfl rfl rfl ?_
    refine x_get (q := 7) C 4 dX3_goer_4 (oX3 y aM M) rfl iuX3_goer_X3 flX3_goer_51 rfl (by decide) rfl rfl ?_
    refine x_icmp_ge (t := 28) (q := 10) C dX3_goer_7 (by decide) rfl (fun hc => ?_) (fun hc => ?_)
    · have hf := (if_pos hc).symm.trans hf
      refine x_iconst (q := 29) C dX3_goer_28 ki_m1 rfl ?_
      have hf := Option.some.inj hf
      exact x_iret () C dX3_goer_29 rfl hf rfl (Nat.le_of_ble_eq_true rfl) (Nat.le_of_ble_eq_true rfl)
    · have hf := (if_neg hc).symm.trans hf
      refine x_aload_n (q := 11) C 0 dX3_goer_10 rfl rfl rfl ?_
      refine x_iload_n (q := 12) C 2 dX3_goer_11 rfl rfl rfl ?_
      refine x_iconst (q := 13) C dX3_goer_12 ki_5 rfl ?_
      obtain ⟨v2, hcal3, hf⟩ := bd_some hf
      refine x_callVi (q := 16) C (c3_pe (l := l) (D := D) (y := y) (aM := aM) hcal3) yi_X3_pe gX3_goer_X3_pe rfl (oX3 y aM M) rfl ⟨(Nat.le_of_ble_eq_true rfl), (Nat.le_of_ble_eq_true rfl)⟩ dX3_goer_13 pm_nil rfl rfl (Nat.le_of_ble_eq_true rfl) ⟨Nat.le_of_ble_eq_true rfl, Nat.le_of_ble_eq_true rfl⟩ rfl ?_
      intro rr4 uu hrr
      have hrr : v2 = rr4 := Eq.symm hrr
      subst hrr
      refine x_world (ws' := mC y aM M) (List.append_nil _) ?_
      refine x_iload_n (q := 17) C 1 dX3_goer_16 rfl rfl rfl ?_
      refine x_icmp_ne (t := 22) (q := 20) C dX3_goer_17 (by decide) rfl (fun hc => ?_) (fun hc => ?_)
      · have hf := (if_neg hc).symm.trans hf
        refine x_iinc (q := 25) C 2 (v1 + 1) [1, 2, 0] [(0, .ref (aM 0)), (1, .int p1), (2, .int (v1 + 1))] dX3_goer_22 rfl (congrArg (fun z => v1 + z) ki_1) (by decide) rfl rfl ?_
        refine x_goto (t := 2) C dX3_goer_25 (by decide) ?_
        exact ih (v1 + 1) hf
      · have hf := (if_pos hc).symm.trans hf
        refine x_iload_n (q := 21) C 2 dX3_goer_20 rfl rfl rfl ?_
        have hf := Option.some.inj hf
        exact x_iret () C dX3_goer_21 rfl hf rfl (Nat.le_of_ble_eq_true rfl) (Nat.le_of_ble_eq_true rfl)
set_option maxHeartbeats 4000000 in
set_option maxRecDepth 100000 in
theorem c3_goer {l : Launch} {D : va_G} {y : Nat → ClassId} {aM : Nat → Nat} {M : St} {p1 : Int32} {r : Int32} (hf : f3_goer M p1 = some r) : xMi l yX3_goer wsX3_goer 1 22 0 0 D (xT y) [.ref (aM 0), .int p1] (mC y aM M) (fun (r' : Int32) (_ : Unit) => r' = r) (fun _ : Unit => mC y aM M) := by
  refine xMi_of (cc := cX3_goer) (nL := 3) (ret := (some .int)) [(0, .ref (aM 0)), (1, .int p1)] (by decide) rfl (Nat.le_of_ble_eq_true rfl) rfl ?_
  intro p e s m args below meth c A C hin
  have C : xC p s m args meth c D A cX3_goer RX3 3 wsX3_goer (xT y) (some .int) := C
  unfold f3_goer at hf
  refine x_iconst (q := 1) C dX3_goer_0 ki_0 rfl ?_
  refine x_istore_n (q := 2) C [1, 2, 0] [(0, .ref (aM 0)), (1, .int p1), (2, .int 0)] dX3_goer_1 rfl (by decide) rfl rfl ?_
  exact w3_goer_L2 C xF 0 hf

/-! LampHillsModel.lampTold(II)I -/
theorem yi_X3_goer : xY yX3_goer wsX3_goer cX3_goer 3 (some .int) 1 := ⟨⟨_, rfl⟩, by decide +kernel, by decide +kernel, by decide +kernel⟩
def f3_lampTold (M : St) (p1 : Int32) (p2 : Int32) : Option (Int32) :=
  if 6 ≤ p2 then
  (
    if p2 = 6 then
    (
      bd (f3_goer M p1) fun v4 =>
      some v4
    )
    else
    (
      bd (f3_la M p1 (p2 - 1)) fun v1 =>
      some v1
    )
  )
  else
  (
    bd (f3_la M p1 p2) fun v7 =>
    some v7
  )
set_option maxHeartbeats 4000000 in
set_option maxRecDepth 100000 in
theorem c3_lampTold {l : Launch} {D : va_G} {y : Nat → ClassId} {aM : Nat → Nat} {M : St} {p1 : Int32} {p2 : Int32} {r : Int32} (hf : f3_lampTold M p1 p2 = some r) : xMi l yX3_lampTold wsX3_lampTold 2 44 0 0 D (xT y) [.ref (aM 0), .int p1, .int p2] (mC y aM M) (fun (r' : Int32) (_ : Unit) => r' = r) (fun _ : Unit => mC y aM M) := by
  refine xMi_of (cc := cX3_lampTold) (nL := 3) (ret := (some .int)) [(0, .ref (aM 0)), (1, .int p1), (2, .int p2)] (by decide) rfl (Nat.le_of_ble_eq_true rfl) rfl ?_
  intro p e s m args below meth c A C hin
  have C : xC p s m args meth c D A cX3_lampTold RX3 3 wsX3_lampTold (xT y) (some .int) := C
  unfold f3_lampTold at hf
  refine x_iload_n (q := 1) C 2 dX3_lampTold_0 rfl rfl rfl ?_
  refine x_bipush (q := 3) C dX3_lampTold_1 kb_6 rfl ?_
  refine x_icmp_ge (t := 15) (q := 6) C dX3_lampTold_3 (by decide) rfl (fun hc => ?_) (fun hc => ?_)
  · have hf := (if_pos hc).symm.trans hf
    refine x_iload_n (q := 16) C 2 dX3_lampTold_15 rfl rfl rfl ?_
    refine x_bipush (q := 18) C dX3_lampTold_16 kb_6 rfl ?_
    refine x_icmp_ne (t := 29) (q := 21) C dX3_lampTold_18 (by decide) rfl (fun hc => ?_) (fun hc => ?_)
    · have hf := (if_neg hc).symm.trans hf
      refine x_aload_n (q := 30) C 0 dX3_lampTold_29 rfl rfl rfl ?_
      refine x_iload_n (q := 31) C 1 dX3_lampTold_30 rfl rfl rfl ?_
      refine x_iload_n (q := 32) C 2 dX3_lampTold_31 rfl rfl rfl ?_
      refine x_iconst (q := 33) C dX3_lampTold_32 ki_1 rfl ?_
      refine x_isub (q := 34) C dX3_lampTold_33 rfl ?_
      obtain ⟨v1, hcal2, hf⟩ := bd_some hf
      refine x_callVi (q := 37) C (c3_la (l := l) (D := D) (y := y) (aM := aM) hcal2) yi_X3_la gX3_lampTold_X3_la rfl (oX3 y aM M) rfl ⟨(Nat.le_of_ble_eq_true rfl), (Nat.le_of_ble_eq_true rfl)⟩ dX3_lampTold_34 pm_nil rfl rfl (Nat.le_of_ble_eq_true rfl) ⟨Nat.le_of_ble_eq_true rfl, Nat.le_of_ble_eq_true rfl⟩ rfl ?_
      intro rr3 uu hrr
      have hrr : v1 = rr3 := Eq.symm hrr
      subst hrr
      refine x_world (ws' := mC y aM M) (List.append_nil _) ?_
      have hf := Option.some.inj hf
      exact x_iret () C dX3_lampTold_37 rfl hf rfl (Nat.le_of_ble_eq_true rfl) (Nat.le_of_ble_eq_true rfl)
    · have hf := (if_pos hc).symm.trans hf
      refine x_aload_n (q := 22) C 0 dX3_lampTold_21 rfl rfl rfl ?_
      refine x_iload_n (q := 23) C 1 dX3_lampTold_22 rfl rfl rfl ?_
      obtain ⟨v4, hcal5, hf⟩ := bd_some hf
      refine x_callVi (q := 26) C (c3_goer (l := l) (D := D) (y := y) (aM := aM) hcal5) yi_X3_goer gX3_lampTold_X3_goer rfl (oX3 y aM M) rfl ⟨(Nat.le_of_ble_eq_true rfl), (Nat.le_of_ble_eq_true rfl)⟩ dX3_lampTold_23 pm_nil rfl rfl (Nat.le_of_ble_eq_true rfl) ⟨Nat.le_of_ble_eq_true rfl, Nat.le_of_ble_eq_true rfl⟩ rfl ?_
      intro rr6 uu hrr
      have hrr : v4 = rr6 := Eq.symm hrr
      subst hrr
      refine x_world (ws' := mC y aM M) (List.append_nil _) ?_
      refine x_goto (t := 37) C dX3_lampTold_26 (by decide) ?_
      have hf := Option.some.inj hf
      exact x_iret () C dX3_lampTold_37 rfl hf rfl (Nat.le_of_ble_eq_true rfl) (Nat.le_of_ble_eq_true rfl)
  · have hf := (if_neg hc).symm.trans hf
    refine x_aload_n (q := 7) C 0 dX3_lampTold_6 rfl rfl rfl ?_
    refine x_iload_n (q := 8) C 1 dX3_lampTold_7 rfl rfl rfl ?_
    refine x_iload_n (q := 9) C 2 dX3_lampTold_8 rfl rfl rfl ?_
    obtain ⟨v7, hcal8, hf⟩ := bd_some hf
    refine x_callVi (q := 12) C (c3_la (l := l) (D := D) (y := y) (aM := aM) hcal8) yi_X3_la gX3_lampTold_X3_la rfl (oX3 y aM M) rfl ⟨(Nat.le_of_ble_eq_true rfl), (Nat.le_of_ble_eq_true rfl)⟩ dX3_lampTold_9 pm_nil rfl rfl (Nat.le_of_ble_eq_true rfl) ⟨Nat.le_of_ble_eq_true rfl, Nat.le_of_ble_eq_true rfl⟩ rfl ?_
    intro rr9 uu hrr
    have hrr : v7 = rr9 := Eq.symm hrr
    subst hrr
    refine x_world (ws' := mC y aM M) (List.append_nil _) ?_
    refine x_goto (t := 37) C dX3_lampTold_12 (by decide) ?_
    have hf := Option.some.inj hf
    exact x_iret () C dX3_lampTold_37 rfl hf rfl (Nat.le_of_ble_eq_true rfl) (Nat.le_of_ble_eq_true rfl)

/-! LampHillsModel.told(II)I -/
theorem flX3_told_34 : Cond.fieldLink RX3 34 "LampHillsModel" "thrown" "I" ∈ wsX3_told := by decide +kernel
theorem iuX3_told_X3 : ∀ w ∈ u_ws RX3 TX3 13, w ∈ wsX3_told := fun _ h => List.mem_cons_of_mem _ (List.mem_append_right _ h)
theorem yi_X3_lampTold : xY yX3_lampTold wsX3_lampTold cX3_lampTold 3 (some .int) 2 := ⟨⟨_, rfl⟩, by decide +kernel, by decide +kernel, by decide +kernel⟩
def f3_told (M : St) (p1 : Int32) (p2 : Int32) : Option (Int32 × St) :=
  lt_ (up2 M 0 0 0) fun M1 =>
  bd (f3_isLamp M1 p1) fun v2 =>
  lt_ (fun (u_ : Unit) =>
  (
    bd2 (f3_fail M1 1) fun v5 M6 =>
    some (v5, M6)
  )
  ) fun J32 =>
  if v2 = 0 then
  (
    J32 ()
  )
  else
  (
    bd (f3_isIn p2 0 8) fun v9 =>
    if v9 = 0 then
    (
      J32 ()
    )
    else
    (
      bd (f3_lampTold M1 p1 p2) fun v12 =>
      some (v12, M1)
    )
  )
set_option maxHeartbeats 4000000 in
set_option maxRecDepth 100000 in
theorem c3_told {l : Launch} {D : va_G} {y : Nat → ClassId} {aM : Nat → Nat} {M : St} {p1 : Int32} {p2 : Int32} {r : Int32} {M' : St} (hf : f3_told M p1 p2 = some (r, M')) : xMi l yX3_told wsX3_told 3 66 0 0 D (xT y) [.ref (aM 0), .int p1, .int p2] (mC y aM M) (fun (r' : Int32) (_ : Unit) => r' = r) (fun _ : Unit => mC y aM M') := by
  refine xMi_of (cc := cX3_told) (nL := 3) (ret := (some .int)) [(0, .ref (aM 0)), (1, .int p1), (2, .int p2)] (by decide) rfl (Nat.le_of_ble_eq_true rfl) rfl ?_
  intro p e s m args below meth c A C hin
  have C : xC p s m args meth c D A cX3_told RX3 3 wsX3_told (xT y) (some .int) := C
  unfold f3_told at hf
  refine x_aload_n (q := 1) C 0 dX3_told_0 rfl rfl rfl ?_
  refine x_iconst (q := 2) C dX3_told_1 ki_0 rfl ?_
  obtain ⟨M1, eM1, hf⟩ := lt_elim hf
  refine x_puti (q := 5) (ws' := mC y aM M1) C tyX3 tyX3_ok nmX3 dX3_told_2 (iX3_0 y aM M) rfl iuX3_told_X3 flX3_told_34 rfl (by decide) rfl rfl (congrArg (fun z => mC y aM z) eM1.symm) rfl ?_
  refine x_aload_n (q := 6) C 0 dX3_told_5 rfl rfl rfl ?_
  refine x_iload_n (q := 7) C 1 dX3_told_6 rfl rfl rfl ?_
  obtain ⟨v2, hcal3, hf⟩ := bd_some hf
  refine x_callVi (q := 10) C (c3_isLamp (l := l) (D := D) (y := y) (aM := aM) hcal3) yi_X3_isLamp gX3_told_X3_isLamp rfl (oX3 y aM M1) rfl ⟨(Nat.le_of_ble_eq_true rfl), (Nat.le_of_ble_eq_true rfl)⟩ dX3_told_7 pm_nil rfl rfl (Nat.le_of_ble_eq_true rfl) ⟨Nat.le_of_ble_eq_true rfl, Nat.le_of_ble_eq_true rfl⟩ rfl ?_
  intro rr4 uu hrr
  have hrr : v2 = rr4 := Eq.symm hrr
  subst hrr
  refine x_world (ws' := mC y aM M1) (List.append_nil _) ?_
  obtain ⟨J32, eJ32, hf⟩ := lt_elim hf
  have hJ32 : ∀ (u_ : Unit), J32 u_ = some (r, M') → xV p l e { frames := 3, cells := 0, slots := 0, locals := 66 } s m args below meth c D A (xQi D (xT y) A (fun (r' : Int32) (_ : Unit) => r' = r) (fun _ : Unit => mC y aM M') 0 0 below args s) 3 (mC y aM M1) 0 0 [(0, .ref (aM 0))] 32 [] := by
    intro u_ hf
    subst eJ32
    refine x_aload_n (q := 33) C 0 dX3_told_32 rfl rfl rfl ?_
    refine x_iconst (q := 34) C dX3_told_33 ki_1 rfl ?_
    obtain ⟨v5, M6, hcal7, hf⟩ := bd2_some hf
    refine x_callVi (q := 37) C (c3_fail (l := l) (D := D) (y := y) (aM := aM) hcal7) yi_X3_fail gX3_told_X3_fail rfl (oX3 y aM M1) rfl ⟨(Nat.le_of_ble_eq_true rfl), (Nat.le_of_ble_eq_true rfl)⟩ dX3_told_34 pm_nil rfl rfl (Nat.le_of_ble_eq_true rfl) ⟨Nat.le_of_ble_eq_true rfl, Nat.le_of_ble_eq_true rfl⟩ rfl ?_
    intro rr8 uu hrr
    have hrr : v5 = rr8 := Eq.symm hrr
    subst hrr
    refine x_world (ws' := mC y aM M6) (List.append_nil _) ?_
    have hf := Option.some.inj hf
    obtain ⟨hr0, hr1⟩ := Prod.mk.inj hf
    exact x_iret () C dX3_told_37 rfl hr0 (congrArg (fun z => mC y aM z) hr1) (Nat.le_of_ble_eq_true rfl) (Nat.le_of_ble_eq_true rfl)
  refine x_if_eq (t := 32) (q := 13) C dX3_told_10 (by decide) rfl (fun hc => ?_) (fun hc => ?_)
  · have hf := (if_pos hc).symm.trans hf
    refine x_sub [0] (L' := [(0, .ref (aM 0))]) rfl ?_
    exact hJ32 () hf
  · have hf := (if_neg hc).symm.trans hf
    refine x_iload_n (q := 14) C 2 dX3_told_13 rfl rfl rfl ?_
    refine x_iconst (q := 15) C dX3_told_14 ki_0 rfl ?_
    refine x_bipush (q := 17) C dX3_told_15 kb_8 rfl ?_
    obtain ⟨v9, hcal10, hf⟩ := bd_some hf
    refine x_callSi (q := 20) C (c3_isIn (l := l) (D := D) (y := y)  hcal10) yi_X3_isIn gX3_told_X3_isIn ⟨(Nat.le_of_ble_eq_true rfl), (Nat.le_of_ble_eq_true rfl)⟩ dX3_told_17 pm_emp rfl rfl (Nat.le_of_ble_eq_true rfl) ⟨Nat.le_of_ble_eq_true rfl, Nat.le_of_ble_eq_true rfl⟩ rfl ?_
    intro rr11 uu hrr
    have hrr : v9 = rr11 := Eq.symm hrr
    subst hrr
    refine x_world (ws' := mC y aM M1) rfl ?_
    refine x_if_eq (t := 32) (q := 23) C dX3_told_20 (by decide) rfl (fun hc => ?_) (fun hc => ?_)
    · have hf := (if_pos hc).symm.trans hf
      refine x_sub [0] (L' := [(0, .ref (aM 0))]) rfl ?_
      exact hJ32 () hf
    · have hf := (if_neg hc).symm.trans hf
      refine x_aload_n (q := 24) C 0 dX3_told_23 rfl rfl rfl ?_
      refine x_iload_n (q := 25) C 1 dX3_told_24 rfl rfl rfl ?_
      refine x_iload_n (q := 26) C 2 dX3_told_25 rfl rfl rfl ?_
      obtain ⟨v12, hcal13, hf⟩ := bd_some hf
      refine x_callVi (q := 29) C (c3_lampTold (l := l) (D := D) (y := y) (aM := aM) hcal13) yi_X3_lampTold gX3_told_X3_lampTold rfl (oX3 y aM M1) rfl ⟨(Nat.le_of_ble_eq_true rfl), (Nat.le_of_ble_eq_true rfl)⟩ dX3_told_26 pm_nil rfl rfl (Nat.le_of_ble_eq_true rfl) ⟨Nat.le_of_ble_eq_true rfl, Nat.le_of_ble_eq_true rfl⟩ rfl ?_
      intro rr14 uu hrr
      have hrr : v12 = rr14 := Eq.symm hrr
      subst hrr
      refine x_world (ws' := mC y aM M1) (List.append_nil _) ?_
      refine x_goto (t := 37) C dX3_told_29 (by decide) ?_
      have hf := Option.some.inj hf
      obtain ⟨hr0, hr1⟩ := Prod.mk.inj hf
      exact x_iret () C dX3_told_37 rfl hr0 (congrArg (fun z => mC y aM z) hr1) (Nat.le_of_ble_eq_true rfl) (Nat.le_of_ble_eq_true rfl)
