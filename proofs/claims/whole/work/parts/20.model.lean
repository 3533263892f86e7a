/-! LampHillsModel.bringBack([[I)V -/
theorem kcX3_bringBack_77 : ∀ w ∈ ([.methodLink RX3 77 arraycopyName, .native arraycopyName, .static arraycopyName, .initialized "java/lang/System"] : List Cond), w ∈ wsX3_bringBack := by decide +kernel
theorem flX3_bringBack_19 : Cond.fieldLink RX3 19 "LampHillsModel" "lights" "[I" ∈ wsX3_bringBack := by decide +kernel
theorem flX3_bringBack_22 : Cond.fieldLink RX3 22 "LampHillsModel" "people" "[I" ∈ wsX3_bringBack := by decide +kernel
theorem flX3_bringBack_31 : Cond.fieldLink RX3 31 "LampHillsModel" "numbers" "[I" ∈ wsX3_bringBack := by decide +kernel
theorem iuX3_bringBack_X3 : ∀ w ∈ u_ws RX3 TX3 13, w ∈ wsX3_bringBack := fun _ h => List.mem_cons_of_mem _ (List.mem_append_right _ h)
def f3_bringBack (M : St) (K : St) : Option (St) :=
  gd (xcp 0 0 160 160 160) <|
  lt_ (up1 M 8 (va_cpy (K 1) (M 8) (0 : Int32).toNatClampNeg (0 : Int32).toNatClampNeg (160 : Int32).toNatClampNeg)) fun M2 =>
  gd (xcp 0 0 40 40 40) <|
  lt_ (up1 M2 9 (va_cpy (K 2) (M2 9) (0 : Int32).toNatClampNeg (0 : Int32).toNatClampNeg (40 : Int32).toNatClampNeg)) fun M4 =>
  gd (xcp 0 0 3 3 3) <|
  lt_ (up1 M4 12 (va_cpy (K 3) (M4 12) (0 : Int32).toNatClampNeg (0 : Int32).toNatClampNeg (3 : Int32).toNatClampNeg)) fun M6 =>
  some M6
set_option maxHeartbeats 4000000 in
set_option maxRecDepth 100000 in
theorem c3_bringBack {l : Launch} {D : va_G} {y : Nat → ClassId} {aM aK : Nat → Nat} {M : St} {K : St} {M' : St} (hf : f3_bringBack M K = some M') : xMv l yX3_bringBack wsX3_bringBack 1 48 0 0 D (xT y) [.ref (aM 0), .ref (aK 0)] (mC y aM M ++ kC y aK K) (fun (_ : Unit) => True) (fun _ : Unit => mC y aM M' ++ kC y aK K) := by
  refine xMv_of (cc := cX3_bringBack) (nL := 2) (ret := none) [(0, .ref (aM 0)), (1, .ref (aK 0))] (by decide) rfl (Nat.le_of_ble_eq_true rfl) rfl ?_
  intro p e s m args below meth c A C hin
  have C : xC p s m args meth c D A cX3_bringBack RX3 2 wsX3_bringBack (xT y) none := C
  unfold f3_bringBack at hf
  refine x_aload_n (q := 1) C 1 dX3_bringBack_0 rfl rfl rfl ?_
  refine x_iconst (q := 2) C dX3_bringBack_1 ki_0 rfl ?_
  refine x_aald (q := 3) (b := aK 1) C 2 dX3_bringBack_2 ((gK y aK K).R) rfl rfl (by decide) rfl rfl ?_
  refine x_iconst (q := 4) C dX3_bringBack_3 ki_0 rfl ?_
  refine x_aload_n (q := 5) C 0 dX3_bringBack_4 rfl rfl rfl ?_
  refine x_get (q := 8) C 8 dX3_bringBack_5 ((oX3 y aM M).L) rfl iuX3_bringBack_X3 flX3_bringBack_19 rfl (by decide) rfl rfl ?_
  refine x_iconst (q := 9) C dX3_bringBack_8 ki_0 rfl ?_
  refine x_aload_n (q := 10) C 0 dX3_bringBack_9 rfl rfl rfl ?_
  refine x_get (q := 13) C 8 dX3_bringBack_10 ((oX3 y aM M).L) rfl iuX3_bringBack_X3 flX3_bringBack_19 rfl (by decide) rfl rfl ?_
  refine x_alen (q := 14) (v := 160) C 0 dX3_bringBack_13 ((aX3_8 y aM M).L) rfl (by decide) rfl ?_
  obtain ⟨hb1, hf⟩ := gd_some hf
  obtain ⟨M2, eM2, hf⟩ := lt_elim hf
  refine x_copy (q := 17) (ws' := mC y aM M2 ++ kC y aK K) C 0 0 dX3_bringBack_14 kcX3_bringBack_77 ((aK_1 y aK K).R) ((aX3_8 y aM M).L) rfl rfl hb1 (Nat.le_of_ble_eq_true rfl) (Nat.le_of_ble_eq_true rfl) (congrArg (fun z => mC y aM z ++ kC y aK K) eM2.symm) rfl ?_
  refine x_aload_n (q := 18) C 1 dX3_bringBack_17 rfl rfl rfl ?_
  refine x_iconst (q := 19) C dX3_bringBack_18 ki_1 rfl ?_
  refine x_aald (q := 20) (b := aK 2) C 2 dX3_bringBack_19 ((gK y aK K).R) rfl rfl (by decide) rfl rfl ?_
  refine x_iconst (q := 21) C dX3_bringBack_20 ki_0 rfl ?_
  refine x_aload_n (q := 22) C 0 dX3_bringBack_21 rfl rfl rfl ?_
  refine x_get (q := 25) C 9 dX3_bringBack_22 ((oX3 y aM M2).L) rfl iuX3_bringBack_X3 flX3_bringBack_22 rfl (by decide) rfl rfl ?_
  refine x_iconst (q := 26) C dX3_bringBack_25 ki_0 rfl ?_
  refine x_aload_n (q := 27) C 0 dX3_bringBack_26 rfl rfl rfl ?_
  refine x_get (q := 30) C 9 dX3_bringBack_27 ((oX3 y aM M2).L) rfl iuX3_bringBack_X3 flX3_bringBack_22 rfl (by decide) rfl rfl ?_
  refine x_alen (q := 31) (v := 40) C 0 dX3_bringBack_30 ((aX3_9 y aM M2).L) rfl (by decide) rfl ?_
  obtain ⟨hb3, hf⟩ := gd_some hf
  obtain ⟨M4, eM4, hf⟩ := lt_elim hf
  refine x_copy (q := 34) (ws' := mC y aM M4 ++ kC y aK K) C 0 0 dX3_bringBack_31 kcX3_bringBack_77 ((aK_2 y aK K).R) ((aX3_9 y aM M2).L) rfl rfl hb3 (Nat.le_of_ble_eq_true rfl) (Nat.le_of_ble_eq_true rfl) (congrArg (fun z => mC y aM z ++ kC y aK K) eM4.symm) rfl ?_
  refine x_aload_n (q := 35) C 1 dX3_bringBack_34 rfl rfl rfl ?_
  refine x_iconst (q := 36) C dX3_bringBack_35 ki_2 rfl ?_
  refine x_aald (q := 37) (b := aK 3) C 2 dX3_bringBack_36 ((gK y aK K).R) rfl rfl (by decide) rfl rfl ?_
  refine x_iconst (q := 38) C dX3_bringBack_37 ki_0 rfl ?_
  refine x_aload_n (q := 39) C 0 dX3_bringBack_38 rfl rfl rfl ?_
  refine x_get (q := 42) C 12 dX3_bringBack_39 ((oX3 y aM M4).L) rfl iuX3_bringBack_X3 flX3_bringBack_31 rfl (by decide) rfl rfl ?_
  refine x_iconst (q := 43) C dX3_bringBack_42 ki_0 rfl ?_
  refine x_aload_n (q := 44) C 0 dX3_bringBack_43 rfl rfl rfl ?_
  refine x_get (q := 47) C 12 dX3_bringBack_44 ((oX3 y aM M4).L) rfl iuX3_bringBack_X3 flX3_bringBack_31 rfl (by decide) rfl rfl ?_
  refine x_alen (q := 48) (v := 3) C 0 dX3_bringBack_47 ((aX3_12 y aM M4).L) rfl (by decide) rfl ?_
  obtain ⟨hb5, hf⟩ := gd_some hf
  obtain ⟨M6, eM6, hf⟩ := lt_elim hf
  refine x_copy (q := 51) (ws' := mC y aM M6 ++ kC y aK K) C 0 0 dX3_bringBack_48 kcX3_bringBack_77 ((aK_3 y aK K).R) ((aX3_12 y aM M4).L) rfl rfl hb5 (Nat.le_of_ble_eq_true rfl) (Nat.le_of_ble_eq_true rfl) (congrArg (fun z => mC y aM z ++ kC y aK K) eM6.symm) rfl ?_
  have hf := Option.some.inj hf
  exact x_vret () C dX3_bringBack_51 rfl trivial (congrArg (fun z => mC y aM z ++ kC y aK K) hf) (Nat.le_of_ble_eq_true rfl) (Nat.le_of_ble_eq_true rfl)

/-! LampHillsModel.comes(I)I -/
theorem flX3_comes_34 : Cond.fieldLink RX3 34 "LampHillsModel" "thrown" "I" ∈ wsX3_comes := by decide +kernel
theorem iuX3_comes_X3 : ∀ w ∈ u_ws RX3 TX3 13, w ∈ wsX3_comes := fun _ h => List.mem_cons_of_mem _ (List.mem_append_right _ h)
theorem yi_X3_bringBack : xY yX3_bringBack wsX3_bringBack cX3_bringBack 2 none 1 := ⟨⟨_, rfl⟩, by decide +kernel, by decide +kernel, by decide +kernel⟩
def f3_comes_L29 (p1 : Int32) (K : Int32 → St → Option (Int32 × St)) : Nat → Int32 → Int32 → St → Option (Int32 × St)
  | 0, _, _, _ => none
  | fu + 1, v6, v7, M8 =>
  if v6 = (-1) then
  (
    bd (f3_isOver M8) fun v11 =>
    if v11 = 0 then
    (
      bd2 (f3_minuteOn M8) fun v14 M15 =>
      lt_ (fun (v18 : Int32) =>
      (
        f3_comes_L29 p1 K fu v18 (v7 + 1) M15
      )
      ) fun J56 =>
      if ((v14 >>> (p1 &&& 31)) &&& 1) = 1 then
      (
        J56 v7
      )
      else
      (
        J56 v6
      )
    )
    else
    (
      K v6 M8
    )
  )
  else
  (
    K v6 M8
  )
def f3_comes (M : St) (p1 : Int32) : Option (Int32 × St) :=
  lt_ (up2 M 0 0 0) fun M1 =>
  bd (f3_isLamp M1 p1) fun v2 =>
  if v2 = 0 then
  (
    bd2 (f3_fail M1 1) fun v21 M22 =>
    some (v21, M22)
  )
  else
  (
    lt_ (kS M1) fun K5 =>
    f3_comes_L29 p1 (fun (v9 : Int32) (M10 : St) =>
    (
      bd (f3_bringBack M10 K5) fun M19 =>
      some (v9, M19)
    )
    ) xF (-1) 1 M1
  )
set_option maxHeartbeats 4000000 in
set_option maxRecDepth 100000 in
theorem w3_comes_L29 {p : Program} {l : Launch} {e : Env} {s : State} {m : MethodId} {args : Array Value} {below : List Frame} {meth : Method} {c : Code} {D : va_G} {A : Nat → Prop} {y : Nat → ClassId} {aM : Nat → Nat} {p1 : Int32} {K5 : St} {r : Int32} {M' : St} {aK : (Nat → Nat)} {K : Int32 → St → Option (Int32 × St)} (C : xC p s m args meth c D A cX3_comes RX3 5 wsX3_comes (xT y) (some .int)) (hK : ∀ (v9 : Int32) (M10 : St), K v9 M10 = some (r, M') → xV p l e { frames := 6, cells := 4, slots := 206, locals := 166 } s m args below meth c D A (xQi D (xT y) A (fun (r' : Int32) (_ : Unit) => r' = r) (fun _ : Unit => mC y aM M') 4 206 below args s) 5 (mC y aM M10 ++ kC y aK K5) 4 206 [(0, .ref (aM 0)), (2, .ref (aK 0)), (3, .int v9)] 62 []) : ∀ (fu : Nat) (v6 : Int32) (v7 : Int32) (M8 : St), f3_comes_L29 p1 K fu v6 v7 M8 = some (r, M') → xV p l e { frames := 6, cells := 4, slots := 206, locals := 166 } s m args below meth c D A (xQi D (xT y) A (fun (r' : Int32) (_ : Unit) => r' = r) (fun _ : Unit => mC y aM M') 4 206 below args s) 5 (mC y aM M8 ++ kC y aK K5) 4 206 [(0, .ref (aM 0)), (1, .int p1), (2, .ref (aK 0)), (3, .int v6), (4, .int v7)] 29 [] := by
  intro fu
  induction fu with
  | zero => intro v6 v7 M8 hf; rw [f3_comes_L29] at hf; cases hf
  | succ fu ih =>
    intro v6 v7 M8 hf
    rw [f3_comes_L29] at hf
    refine x_iload_n (q := 30) C 3 dX3_comes_29 rfl rfl rfl ?_
    refine x_iconst (q := 31) C dX3_comes_30 ki_m1 rfl ?_
    refine x_icmp_ne (t := 62) (q := 34) C dX3_comes_31 (by decide) rfl (fun hc => ?_) (fun hc => ?_)
    · have hf := (if_neg hc).symm.trans hf
      refine x_sub [0, 2, 3] (L' := [(0, .ref (aM 0)), (2, .ref (aK 0)), (3, .int v6)]) rfl ?_
      exact hK v6 M8 hf
    · have hf := (if_pos hc).symm.trans hf
      refine x_aload_n (q := 35) C 0 dX3_comes_34 rfl rfl rfl ?_
      obtain ⟨v11, hcal12, hf⟩ := bd_some hf
      refine x_callVi (q := 38) C (c3_isOver (l := l) (D := D) (y := y) (aM := aM) hcal12) yi_X3_isOver gX3_comes_X3_isOver rfl (oX3 y aM M8) rfl ⟨(Nat.le_of_ble_eq_true rfl), (Nat.le_of_ble_eq_true rfl)⟩ dX3_comes_35 (pm2_0 _ _) rfl rfl (Nat.le_of_ble_eq_true rfl) ⟨Nat.le_of_ble_eq_true rfl, Nat.le_of_ble_eq_true rfl⟩ rfl ?_
      intro rr13 uu hrr
      have hrr : v11 = rr13 := Eq.symm hrr
      subst hrr
      refine x_perm (ws' := mC y aM M8 ++ kC y aK K5) (pm2_0 _ _).symm ?_
      refine x_if_ne (t := 62) (q := 41) C dX3_comes_38 (by decide) rfl (fun hc => ?_) (fun hc => ?_)
      · have hf := (if_neg hc).symm.trans hf
        refine x_sub [0, 2, 3] (L' := [(0, .ref (aM 0)), (2, .ref (aK 0)), (3, .int v6)]) rfl ?_
        exact hK v6 M8 hf
      · have hf := (if_pos hc).symm.trans hf
        refine x_aload_n (q := 42) C 0 dX3_comes_41 rfl rfl rfl ?_
        obtain ⟨v14, M15, hcal16, hf⟩ := bd2_some hf
        refine x_callVi (q := 45) C (c3_minuteOn (l := l) (D := D) (y := y) (aM := aM) hcal16) yi_X3_minuteOn gX3_comes_X3_minuteOn rfl (oX3 y aM M8) rfl ⟨(Nat.le_of_ble_eq_true rfl), (Nat.le_of_ble_eq_true rfl)⟩ dX3_comes_42 (pm2_0 _ _) rfl rfl (Nat.le_of_ble_eq_true rfl) ⟨Nat.le_of_ble_eq_true rfl, Nat.le_of_ble_eq_true rfl⟩ rfl ?_
        intro rr17 uu hrr
        have hrr : v14 = rr17 := Eq.symm hrr
        subst hrr
        refine x_perm (ws' := mC y aM M15 ++ kC y aK K5) (pm2_0 _ _).symm ?_
        refine x_iload_n (q := 46) C 1 dX3_comes_45 rfl rfl rfl ?_
        refine x_ishr (q := 47) C dX3_comes_46 rfl ?_
        refine x_iconst (q := 48) C dX3_comes_47 ki_1 rfl ?_
        refine x_iand (q := 49) C dX3_comes_48 rfl ?_
        refine x_iconst (q := 50) C dX3_comes_49 ki_1 rfl ?_
        obtain ⟨J56, eJ56, hf⟩ := lt_elim hf
        have hJ56 : ∀ (v18 : Int32), J56 v18 = some (r, M') → xV p l e { frames := 6, cells := 4, slots := 206, locals := 166 } s m args below meth c D A (xQi D (xT y) A (fun (r' : Int32) (_ : Unit) => r' = r) (fun _ : Unit => mC y aM M') 4 206 below args s) 5 (mC y aM M15 ++ kC y aK K5) 4 206 [(0, .ref (aM 0)), (1, .int p1), (2, .ref (aK 0)), (3, .int v18), (4, .int v7)] 56 [] := by
          intro v18 hf
          subst eJ56
          refine x_iinc (q := 59) C 4 (v7 + 1) [1, 2, 3, 4, 0] [(0, .ref (aM 0)), (1, .int p1), (2, .ref (aK 0)), (3, .int v18), (4, .int (v7 + 1))] dX3_comes_56 rfl (congrArg (fun z => v7 + z) ki_1) (by decide) rfl rfl ?_
          refine x_goto (t := 29) C dX3_comes_59 (by decide) ?_
          exact ih v18 (v7 + 1) M15 hf
        refine x_icmp_ne (t := 56) (q := 53) C dX3_comes_50 (by decide) rfl (fun hc => ?_) (fun hc => ?_)
        · have hf := (if_neg hc).symm.trans hf
          exact hJ56 v6 hf
        · have hf := (if_pos hc).symm.trans hf
          refine x_iload (q := 55) C 4 dX3_comes_53 rfl rfl ?_
          refine x_istore_n (q := 56) C [1, 2, 3, 0, 4] [(0, .ref (aM 0)), (1, .int p1), (2, .ref (aK 0)), (3, .int v7), (4, .int v7)] dX3_comes_55 rfl (by decide) rfl rfl ?_
          exact hJ56 v7 hf
set_option maxHeartbeats 4000000 in
set_option maxRecDepth 100000 in
theorem c3_comes {l : Launch} {D : va_G} {y : Nat → ClassId} {aM : Nat → Nat} {M : St} {p1 : Int32} {r : Int32} {M' : St} (hf : f3_comes M p1 = some (r, M')) : xMJi l yX3_comes wsX3_comes 6 166 4 206 D (xT y) [.ref (aM 0), .int p1] (mC y aM M) (fun (r' : Int32) (_ : Unit) => r' = r) (fun _ : Unit => mC y aM M') := by
  refine xMJi_of (cc := cX3_comes) (nL := 5) (ret := (some .int)) [(0, .ref (aM 0)), (1, .int p1)] (by decide) rfl (Nat.le_of_ble_eq_true rfl) rfl ?_
  intro p e s m args below meth c A C hin hJ
  have C : xC p s m args meth c D A cX3_comes RX3 5 wsX3_comes (xT y) (some .int) := C
  unfold f3_comes at hf
  refine x_aload_n (q := 1) C 0 dX3_comes_0 rfl rfl rfl ?_
  refine x_iconst (q := 2) C dX3_comes_1 ki_0 rfl ?_
  obtain ⟨M1, eM1, hf⟩ := lt_elim hf
  refine x_puti (q := 5) (ws' := mC y aM M1) C tyX3 tyX3_ok nmX3 dX3_comes_2 (iX3_0 y aM M) rfl iuX3_comes_X3 flX3_comes_34 rfl (by decide) rfl rfl (congrArg (fun z => mC y aM z) eM1.symm) rfl ?_
  refine x_aload_n (q := 6) C 0 dX3_comes_5 rfl rfl rfl ?_
  refine x_iload_n (q := 7) C 1 dX3_comes_6 rfl rfl rfl ?_
  obtain ⟨v2, hcal3, hf⟩ := bd_some hf
  refine x_callVi (q := 10) C (c3_isLamp (l := l) (D := D) (y := y) (aM := aM) hcal3) yi_X3_isLamp gX3_comes_X3_isLamp rfl (oX3 y aM M1) rfl ⟨(Nat.le_of_ble_eq_true rfl), (Nat.le_of_ble_eq_true rfl)⟩ dX3_comes_7 pm_nil rfl rfl (Nat.le_of_ble_eq_true rfl) ⟨Nat.le_of_ble_eq_true rfl, Nat.le_of_ble_eq_true rfl⟩ rfl ?_
  intro rr4 uu hrr
  have hrr : v2 = rr4 := Eq.symm hrr
  subst hrr
  refine x_world (ws' := mC y aM M1) (List.append_nil _) ?_
  refine x_if_ne (t := 19) (q := 13) C dX3_comes_10 (by decide) rfl (fun hc => ?_) (fun hc => ?_)
  · have hf := (if_neg hc).symm.trans hf
    refine x_aload_n (q := 20) C 0 dX3_comes_19 rfl rfl rfl ?_
    obtain ⟨K5, eK5, hf⟩ := lt_elim hf
    refine x_callJVr (q := 23) C hJ (c3_kept (l := l) (D := D) (y := y) (aM := aM) (M := M1)) yi_X3_kept gX3_comes_X3_kept rfl (oX3 y aM M1) rfl ⟨(Nat.le_of_ble_eq_true rfl), (Nat.le_of_ble_eq_true rfl)⟩ dX3_comes_20 pm_nil rfl rfl (Nat.le_of_ble_eq_true rfl) ⟨(Nat.le_of_ble_eq_true rfl), (Nat.le_of_ble_eq_true rfl)⟩ rfl ?_
    intro u ra _
    refine x_widen (k' := 4) (n' := 206) (Nat.le_of_ble_eq_true rfl) (Nat.le_of_ble_eq_true rfl) ?_
    refine x_world (ws' := mC y aM M1 ++ kC y (aKf u ra) K5) (by rw [eK5, List.append_nil]) ?_
    obtain ⟨aK, eaK⟩ : ∃ z, z = aKf u ra := ⟨_, rfl⟩
    rw [← eaK]
    refine x_topr (v := aK 0) (by rw [eaK]; rfl) ?_
    clear eaK
    refine x_astore_n (q := 24) C [1, 2, 0] [(0, .ref (aM 0)), (1, .int p1), (2, .ref (aK 0))] dX3_comes_23 rfl (by decide) rfl rfl ?_
    refine x_iconst (q := 25) C dX3_comes_24 ki_m1 rfl ?_
    refine x_istore_n (q := 26) C [1, 2, 3, 0] [(0, .ref (aM 0)), (1, .int p1), (2, .ref (aK 0)), (3, .int (-1))] dX3_comes_25 rfl (by decide) rfl rfl ?_
    refine x_iconst (q := 27) C dX3_comes_26 ki_1 rfl ?_
    refine x_istore (q := 29) C [1, 2, 3, 4, 0] [(0, .ref (aM 0)), (1, .int p1), (2, .ref (aK 0)), (3, .int (-1)), (4, .int 1)] dX3_comes_27 (by decide) rfl rfl ?_
    refine w3_comes_L29 C (fun v9 M10 hf => ?_) xF (-1) 1 M1 hf
    refine x_aload_n (q := 63) C 0 dX3_comes_62 rfl rfl rfl ?_
    refine x_aload_n (q := 64) C 1 dX3_comes_63 rfl rfl rfl ?_
    obtain ⟨M19, hcal20, hf⟩ := bd_some hf
    refine x_callVv (q := 67) C (c3_bringBack (l := l) (D := D) (y := y) (aM := aM) (aK := aK) hcal20) yi_X3_bringBack gX3_comes_X3_bringBack rfl ((oX3 y aM M10).L) rfl ⟨(Nat.le_of_ble_eq_true rfl), (Nat.le_of_ble_eq_true rfl)⟩ dX3_comes_64 pm_nil rfl rfl (Nat.le_of_ble_eq_true rfl) ⟨Nat.le_of_ble_eq_true rfl, Nat.le_of_ble_eq_true rfl⟩ rfl ?_
    intro uu hrr
    refine x_world (ws' := mC y aM M19 ++ kC y aK K5) (List.append_nil _) ?_
    refine x_iload_n (q := 68) C 2 dX3_comes_67 rfl rfl rfl ?_
    have hf := Option.some.inj hf
    refine x_drop ?_
    obtain ⟨hr0, hr1⟩ := Prod.mk.inj hf
    exact x_iret () C dX3_comes_68 rfl hr0 (congrArg (fun z => mC y aM z) hr1) (Nat.le_of_ble_eq_true rfl) (Nat.le_of_ble_eq_true rfl)
  · have hf := (if_pos hc).symm.trans hf
    refine x_aload_n (q := 14) C 0 dX3_comes_13 rfl rfl rfl ?_
    refine x_iconst (q := 15) C dX3_comes_14 ki_1 rfl ?_
    obtain ⟨v21, M22, hcal23, hf⟩ := bd2_some hf
    refine x_callVi (q := 18) C (c3_fail (l := l) (D := D) (y := y) (aM := aM) hcal23) yi_X3_fail gX3_comes_X3_fail rfl (oX3 y aM M1) rfl ⟨(Nat.le_of_ble_eq_true rfl), (Nat.le_of_ble_eq_true rfl)⟩ dX3_comes_15 pm_nil rfl rfl (Nat.le_of_ble_eq_true rfl) ⟨Nat.le_of_ble_eq_true rfl, Nat.le_of_ble_eq_true rfl⟩ rfl ?_
    intro rr24 uu hrr
    have hrr : v21 = rr24 := Eq.symm hrr
    subst hrr
    refine x_world (ws' := mC y aM M22) (List.append_nil _) ?_
    have hf := Option.some.inj hf
    obtain ⟨hr0, hr1⟩ := Prod.mk.inj hf
    exact x_iret () C dX3_comes_18 rfl hr0 (congrArg (fun z => mC y aM z) hr1) (Nat.le_of_ble_eq_true rfl) (Nat.le_of_ble_eq_true rfl)

/-! LampHillsModel.darkest()I -/
theorem flX3_darkest_34 : Cond.fieldLink RX3 34 "LampHillsModel" "thrown" "I" ∈ wsX3_darkest := by decide +kernel
theorem flX3_darkest_45 : Cond.fieldLink RX3 45 "LampHillsModel" "streets" "I" ∈ wsX3_darkest := by decide +kernel
theorem iuX3_darkest_X3 : ∀ w ∈ u_ws RX3 TX3 13, w ∈ wsX3_darkest := fun _ h => List.mem_cons_of_mem _ (List.mem_append_right _ h)
theorem knX3_darkest : Cond.arrayClass .int ∈ wsX3_darkest := by decide +kernel
def f3_darkest_L29 (M12 : St) (K : (Nat → Int32) → Option (Int32 × St)) : Nat → Int32 → (Nat → Int32) → Option (Int32 × St)
  | 0, _, _ => none
  | fu + 1, v15, f16 =>
  if (M12 2 0) ≤ v15 then
  (
    K f16
  )
  else
  (
    gd (xin v15 18) <|
    bd (f3_burns M12 v15) fun v19 =>
    lt_ (fun (v22 : Int32) =>
    (
      lt_ (upd f16 v15.toNatClampNeg ((f16 v15.toNatClampNeg) + v22)) fun f23 =>
      f3_darkest_L29 M12 K fu (v15 + 1) f23
    )
    ) fun J54 =>
    if v19 = 0 then
    (
      J54 1
    )
    else
    (
      J54 0
    )
  )
def f3_darkest_L15 (K : St → (Nat → Int32) → Option (Int32 × St)) : Nat → St → (Nat → Int32) → Option (Int32 × St)
  | 0, _, _ => none
  | fu + 1, M4, f5 =>
  bd (f3_isOver M4) fun v8 =>
  if v8 = 0 then
  (
    bd2 (f3_minuteOn M4) fun v11 M12 =>
    f3_darkest_L29 M12 (fun (f17 : (Nat → Int32)) =>
    (
      f3_darkest_L15 K fu M12 f17
    )
    ) xF 0 f5
  )
  else
  (
    K M4 f5
  )
def f3_darkest_L75 (M24 : St) (f7 : (Nat → Int32)) : Nat → Int32 → Int32 → Option (Int32 × St)
  | 0, _, _ => none
  | fu + 1, v26, v27 =>
  if (M24 2 0) ≤ v27 then
  (
    some (v26, M24)
  )
  else
  (
    gd (xin v27 18) <|
    lt_ (fun (v29 : Int32) =>
    (
      lt_ (fun (v30 : Int32) =>
      (
        f3_darkest_L75 M24 f7 fu v30 (v27 + 1)
      )
      ) fun J106 =>
      if (f7 v27.toNatClampNeg) ≤ v29 then
      (
        J106 v26
      )
      else
      (
        J106 v27
      )
    )
    ) fun J100 =>
    if v26 = (-1) then
    (
      J100 0
    )
    else
    (
      gd (xin v26 18) <|
      J100 (f7 v26.toNatClampNeg)
    )
  )
def f3_darkest (M : St) : Option (Int32 × St) :=
  lt_ (up2 M 0 0 0) fun M1 =>
  lt_ (kS M1) fun K2 =>
  f3_darkest_L15 (fun (M6 : St) (f7 : (Nat → Int32)) =>
  (
    bd (f3_bringBack M6 K2) fun M24 =>
    f3_darkest_L75 M24 f7 xF (-1) 0
  )
  ) xF M1 ((fun _ => 0))
set_option maxHeartbeats 4000000 in
set_option maxRecDepth 100000 in
theorem w3_darkest_L29 {p : Program} {l : Launch} {e : Env} {s : State} {m : MethodId} {args : Array Value} {below : List Frame} {meth : Method} {c : Code} {D : va_G} {A : Nat → Prop} {y : Nat → ClassId} {aM : Nat → Nat} {M12 : St} {K2 : St} {r : Int32} {M' : St} {q3 : Nat} {aK : (Nat → Nat)} {K : (Nat → Int32) → Option (Int32 × St)} (C : xC p s m args meth c D A cX3_darkest RX3 5 wsX3_darkest (xT y) (some .int)) (hK : ∀ (f17 : (Nat → Int32)), K f17 = some (r, M') → xV p l e { frames := 6, cells := 5, slots := 224, locals := 166 } s m args below meth c D A (xQi D (xT y) A (fun (r' : Int32) (_ : Unit) => r' = r) (fun _ : Unit => mC y aM M') 5 224 below args s) 5 (mC y aM M12 ++ (kC y aK K2 ++ zC y q3 18 f17)) 5 224 [(0, .ref (aM 0)), (1, .ref (aK 0)), (2, .ref q3)] 62 []) : ∀ (fu : Nat) (v15 : Int32) (f16 : (Nat → Int32)), f3_darkest_L29 M12 K fu v15 f16 = some (r, M') → xV p l e { frames := 6, cells := 5, slots := 224, locals := 166 } s m args below meth c D A (xQi D (xT y) A (fun (r' : Int32) (_ : Unit) => r' = r) (fun _ : Unit => mC y aM M') 5 224 below args s) 5 (mC y aM M12 ++ (kC y aK K2 ++ zC y q3 18 f16)) 5 224 [(0, .ref (aM 0)), (1, .ref (aK 0)), (2, .ref q3), (3, .int v15)] 29 [] := by
  intro fu
  induction fu with
  | zero => intro v15 f16 hf; rw [f3_darkest_L29] at hf; cases hf
  | succ fu ih =>
    intro v15 f16 hf
    rw [f3_darkest_L29] at hf
    refine x_iload_n (q := 30) C 3 dX3_darkest_29 rfl rfl rfl ?_
    refine x_aload_n (q := 31) C 0 dX3_darkest_30 rfl rfl rfl ?_
    refine x_get (q := 34) C 2 dX3_darkest_31 ((oX3 y aM M12).L) rfl iuX3_darkest_X3 flX3_darkest_45 rfl (by decide) rfl rfl ?_
    refine x_icmp_ge (t := 62) (q := 37) C dX3_darkest_34 (by decide) rfl (fun hc => ?_) (fun hc => ?_)
    · have hf := (if_pos hc).symm.trans hf
      refine x_sub [0, 1, 2] (L' := [(0, .ref (aM 0)), (1, .ref (aK 0)), (2, .ref q3)]) rfl ?_
      exact hK f16 hf
    · have hf := (if_neg hc).symm.trans hf
      refine x_aload_n (q := 38) C 2 dX3_darkest_37 rfl rfl rfl ?_
      refine x_iload_n (q := 39) C 3 dX3_darkest_38 rfl rfl rfl ?_
      refine x_dup2 (q := 40) C dX3_darkest_39 rfl rfl rfl ?_
      obtain ⟨hb18, hf⟩ := gd_some hf
      refine x_iald (q := 41) C 0 dX3_darkest_40 (((zA y q3 18 f16).R).R) rfl hb18 rfl ?_
      refine x_aload_n (q := 42) C 0 dX3_darkest_41 rfl rfl rfl ?_
      refine x_iload_n (q := 43) C 3 dX3_darkest_42 rfl rfl rfl ?_
      obtain ⟨v19, hcal20, hf⟩ := bd_some hf
      refine x_callVi (q := 46) C (c3_burns (l := l) (D := D) (y := y) (aM := aM) hcal20) yi_X3_burns gX3_darkest_X3_burns rfl (oX3 y aM M12) rfl ⟨(Nat.le_of_ble_eq_true rfl), (Nat.le_of_ble_eq_true rfl)⟩ dX3_darkest_43 (pm3_0 _ _ _) rfl rfl (Nat.le_of_ble_eq_true rfl) ⟨Nat.le_of_ble_eq_true rfl, Nat.le_of_ble_eq_true rfl⟩ rfl ?_
      intro rr21 uu hrr
      have hrr : v19 = rr21 := Eq.symm hrr
      subst hrr
      refine x_perm (ws' := mC y aM M12 ++ (kC y aK K2 ++ zC y q3 18 f16)) (pm3_0 _ _ _).symm ?_
      obtain ⟨J54, eJ54, hf⟩ := lt_elim hf
      have hJ54 : ∀ (v22 : Int32), J54 v22 = some (r, M') → xV p l e { frames := 6, cells := 5, slots := 224, locals := 166 } s m args below meth c D A (xQi D (xT y) A (fun (r' : Int32) (_ : Unit) => r' = r) (fun _ : Unit => mC y aM M') 5 224 below args s) 5 (mC y aM M12 ++ (kC y aK K2 ++ zC y q3 18 f16)) 5 224 [(0, .ref (aM 0)), (1, .ref (aK 0)), (2, .ref q3), (3, .int v15)] 54 [.int v22, .int (f16 v15.toNatClampNeg), .int v15, .ref q3] := by
        intro v22 hf
        subst eJ54
        refine x_iadd (q := 55) C dX3_darkest_54 rfl ?_
        obtain ⟨f23, ef23, hf⟩ := lt_elim hf
        refine x_iast (q := 56) (ws' := mC y aM M12 ++ (kC y aK K2 ++ zC y q3 18 f23)) C 0 dX3_darkest_55 (((zA y q3 18 f16).R).R) rfl hb18 (congrArg (fun z => mC y aM M12 ++ (kC y aK K2 ++ zC y q3 18 z)) ef23.symm) rfl ?_
        refine x_iinc (q := 59) C 3 (v15 + 1) [1, 2, 3, 0] [(0, .ref (aM 0)), (1, .ref (aK 0)), (2, .ref q3), (3, .int (v15 + 1))] dX3_darkest_56 rfl (congrArg (fun z => v15 + z) ki_1) (by decide) rfl rfl ?_
        refine x_goto (t := 29) C dX3_darkest_59 (by decide) ?_
        exact ih (v15 + 1) f23 hf
      refine x_if_ne (t := 53) (q := 49) C dX3_darkest_46 (by decide) rfl (fun hc => ?_) (fun hc => ?_)
      · have hf := (if_neg hc).symm.trans hf
        refine x_iconst (q := 54) C dX3_darkest_53 ki_0 rfl ?_
        exact hJ54 0 hf
      · have hf := (if_pos hc).symm.trans hf
        refine x_iconst (q := 50) C dX3_darkest_49 ki_1 rfl ?_
        refine x_goto (t := 54) C dX3_darkest_50 (by decide) ?_
        exact hJ54 1 hf
set_option maxHeartbeats 4000000 in
set_option maxRecDepth 100000 in
theorem w3_darkest_L15 {p : Program} {l : Launch} {e : Env} {s : State} {m : MethodId} {args : Array Value} {below : List Frame} {meth : Method} {c : Code} {D : va_G} {A : Nat → Prop} {y : Nat → ClassId} {aM : Nat → Nat} {K2 : St} {r : Int32} {M' : St} {q3 : Nat} {aK : (Nat → Nat)} {K : St → (Nat → Int32) → Option (Int32 × St)} (C : xC p s m args meth c D A cX3_darkest RX3 5 wsX3_darkest (xT y) (some .int)) (hK : ∀ (M6 : St) (f7 : (Nat → Int32)), K M6 f7 = some (r, M') → xV p l e { frames := 6, cells := 5, slots := 224, locals := 166 } s m args below meth c D A (xQi D (xT y) A (fun (r' : Int32) (_ : Unit) => r' = r) (fun _ : Unit => mC y aM M') 5 224 below args s) 5 (mC y aM M6 ++ (kC y aK K2 ++ zC y q3 18 f7)) 5 224 [(0, .ref (aM 0)), (1, .ref (aK 0)), (2, .ref q3)] 65 []) : ∀ (fu : Nat) (M4 : St) (f5 : (Nat → Int32)), f3_darkest_L15 K fu M4 f5 = some (r, M') → xV p l e { frames := 6, cells := 5, slots := 224, locals := 166 } s m args below meth c D A (xQi D (xT y) A (fun (r' : Int32) (_ : Unit) => r' = r) (fun _ : Unit => mC y aM M') 5 224 below args s) 5 (mC y aM M4 ++ (kC y aK K2 ++ zC y q3 18 f5)) 5 224 [(0, .ref (aM 0)), (1, .ref (aK 0)), (2, .ref q3)] 15 [] := by
  intro fu
  induction fu with
  | zero => intro M4 f5 hf; rw [f3_darkest_L15] at hf; cases hf
  | succ fu ih =>
    intro M4 f5 hf
    rw [f3_darkest_L15] at hf
    refine x_aload_n (q := 16) C 0 dX3_darkest_15 rfl rfl rfl ?_
    obtain ⟨v8, hcal9, hf⟩ := bd_some hf
    refine x_callVi (q := 19) C (c3_isOver (l := l) (D := D) (y := y) (aM := aM) hcal9) yi_X3_isOver gX3_darkest_X3_isOver rfl (oX3 y aM M4) rfl ⟨(Nat.le_of_ble_eq_true rfl), (Nat.le_of_ble_eq_true rfl)⟩ dX3_darkest_16 (pm3_0 _ _ _) rfl rfl (Nat.le_of_ble_eq_true rfl) ⟨Nat.le_of_ble_eq_true rfl, Nat.le_of_ble_eq_true rfl⟩ rfl ?_
    intro rr10 uu hrr
    have hrr : v8 = rr10 := Eq.symm hrr
    subst hrr
    refine x_perm (ws' := mC y aM M4 ++ (kC y aK K2 ++ zC y q3 18 f5)) (pm3_0 _ _ _).symm ?_
    refine x_if_ne (t := 65) (q := 22) C dX3_darkest_19 (by decide) rfl (fun hc => ?_) (fun hc => ?_)
    · have hf := (if_neg hc).symm.trans hf
      exact hK M4 f5 hf
    · have hf := (if_pos hc).symm.trans hf
      refine x_aload_n (q := 23) C 0 dX3_darkest_22 rfl rfl rfl ?_
      obtain ⟨v11, M12, hcal13, hf⟩ := bd2_some hf
      refine x_callVi (q := 26) C (c3_minuteOn (l := l) (D := D) (y := y) (aM := aM) hcal13) yi_X3_minuteOn gX3_darkest_X3_minuteOn rfl (oX3 y aM M4) rfl ⟨(Nat.le_of_ble_eq_true rfl), (Nat.le_of_ble_eq_true rfl)⟩ dX3_darkest_23 (pm3_0 _ _ _) rfl rfl (Nat.le_of_ble_eq_true rfl) ⟨Nat.le_of_ble_eq_true rfl, Nat.le_of_ble_eq_true rfl⟩ rfl ?_
      intro rr14 uu hrr
      have hrr : v11 = rr14 := Eq.symm hrr
      subst hrr
      refine x_perm (ws' := mC y aM M12 ++ (kC y aK K2 ++ zC y q3 18 f5)) (pm3_0 _ _ _).symm ?_
      refine x_pop (q := 27) C dX3_darkest_26 rfl rfl ?_
      refine x_iconst (q := 28) C dX3_darkest_27 ki_0 rfl ?_
      refine x_istore_n (q := 29) C [1, 2, 3, 0] [(0, .ref (aM 0)), (1, .ref (aK 0)), (2, .ref q3), (3, .int 0)] dX3_darkest_28 rfl (by decide) rfl rfl ?_
      refine w3_darkest_L29 C (fun f17 hf => ?_) xF 0 f5 hf
      refine x_goto (t := 15) C dX3_darkest_62 (by decide) ?_
      exact ih M12 f17 hf
set_option maxHeartbeats 4000000 in
set_option maxRecDepth 100000 in
theorem w3_darkest_L75 {p : Program} {l : Launch} {e : Env} {s : State} {m : MethodId} {args : Array Value} {below : List Frame} {meth : Method} {c : Code} {D : va_G} {A : Nat → Prop} {y : Nat → ClassId} {aM : Nat → Nat} {M24 : St} {f7 : (Nat → Int32)} {K2 : St} {r : Int32} {M' : St} {q3 : Nat} {aK : (Nat → Nat)} (C : xC p s m args meth c D A cX3_darkest RX3 5 wsX3_darkest (xT y) (some .int)) : ∀ (fu : Nat) (v26 : Int32) (v27 : Int32), f3_darkest_L75 M24 f7 fu v26 v27 = some (r, M') → xV p l e { frames := 6, cells := 5, slots := 224, locals := 166 } s m args below meth c D A (xQi D (xT y) A (fun (r' : Int32) (_ : Unit) => r' = r) (fun _ : Unit => mC y aM M') 5 224 below args s) 5 (mC y aM M24 ++ (kC y aK K2 ++ zC y q3 18 f7)) 5 224 [(0, .ref (aM 0)), (2, .ref q3), (3, .int v26), (4, .int v27)] 75 [] := by
  intro fu
  induction fu with
  | zero => intro v26 v27 hf; rw [f3_darkest_L75] at hf; cases hf
  | succ fu ih =>
    intro v26 v27 hf
    rw [f3_darkest_L75] at hf
    refine x_iload (q := 77) C 3 dX3_darkest_75 rfl rfl ?_
    refine x_aload_n (q := 78) C 0 dX3_darkest_77 rfl rfl rfl ?_
    refine x_get (q := 81) C 2 dX3_darkest_78 ((oX3 y aM M24).L) rfl iuX3_darkest_X3 flX3_darkest_45 rfl (by decide) rfl rfl ?_
    refine x_icmp_ge (t := 112) (q := 84) C dX3_darkest_81 (by decide) rfl (fun hc => ?_) (fun hc => ?_)
    · have hf := (if_pos hc).symm.trans hf
      refine x_iload_n (q := 113) C 2 dX3_darkest_112 rfl rfl rfl ?_
      have hf := Option.some.inj hf
      refine x_drop ?_
      obtain ⟨hr0, hr1⟩ := Prod.mk.inj hf
      exact x_iret () C dX3_darkest_113 rfl hr0 (congrArg (fun z => mC y aM z) hr1) (Nat.le_of_ble_eq_true rfl) (Nat.le_of_ble_eq_true rfl)
    · have hf := (if_neg hc).symm.trans hf
      refine x_aload_n (q := 85) C 1 dX3_darkest_84 rfl rfl rfl ?_
      refine x_iload (q := 87) C 3 dX3_darkest_85 rfl rfl ?_
      obtain ⟨hb28, hf⟩ := gd_some hf
      refine x_iald (q := 88) C 0 dX3_darkest_87 (((zA y q3 18 f7).R).R) rfl hb28 rfl ?_
      refine x_iload_n (q := 89) C 2 dX3_darkest_88 rfl rfl rfl ?_
      refine x_iconst (q := 90) C dX3_darkest_89 ki_m1 rfl ?_
      obtain ⟨J100, eJ100, hf⟩ := lt_elim hf
      have hJ100 : ∀ (v29 : Int32), J100 v29 = some (r, M') → xV p l e { frames := 6, cells := 5, slots := 224, locals := 166 } s m args below meth c D A (xQi D (xT y) A (fun (r' : Int32) (_ : Unit) => r' = r) (fun _ : Unit => mC y aM M') 5 224 below args s) 5 (mC y aM M24 ++ (kC y aK K2 ++ zC y q3 18 f7)) 5 224 [(0, .ref (aM 0)), (2, .ref q3), (3, .int v26), (4, .int v27)] 100 [.int v29, .int (f7 v27.toNatClampNeg)] := by
        intro v29 hf
        subst eJ100
        obtain ⟨J106, eJ106, hf⟩ := lt_elim hf
        have hJ106 : ∀ (v30 : Int32), J106 v30 = some (r, M') → xV p l e { frames := 6, cells := 5, slots := 224, locals := 166 } s m args below meth c D A (xQi D (xT y) A (fun (r' : Int32) (_ : Unit) => r' = r) (fun _ : Unit => mC y aM M') 5 224 below args s) 5 (mC y aM M24 ++ (kC y aK K2 ++ zC y q3 18 f7)) 5 224 [(0, .ref (aM 0)), (2, .ref q3), (3, .int v30), (4, .int v27)] 106 [] := by
          intro v30 hf
          subst eJ106
          refine x_iinc (q := 109) C 3 (v27 + 1) [1, 2, 3, 0] [(0, .ref (aM 0)), (2, .ref q3), (3, .int v30), (4, .int (v27 + 1))] dX3_darkest_106 rfl (congrArg (fun z => v27 + z) ki_1) (by decide) rfl rfl ?_
          refine x_goto (t := 75) C dX3_darkest_109 (by decide) ?_
          exact ih v30 (v27 + 1) hf
        refine x_icmp_le (t := 106) (q := 103) C dX3_darkest_100 (by decide) rfl (fun hc => ?_) (fun hc => ?_)
        · have hf := (if_pos hc).symm.trans hf
          exact hJ106 v26 hf
        · have hf := (if_neg hc).symm.trans hf
          refine x_iload (q := 105) C 3 dX3_darkest_103 rfl rfl ?_
          refine x_istore_n (q := 106) C [1, 2, 0, 3] [(0, .ref (aM 0)), (2, .ref q3), (3, .int v27), (4, .int v27)] dX3_darkest_105 rfl (by decide) rfl rfl ?_
          exact hJ106 v27 hf
      refine x_icmp_ne (t := 97) (q := 93) C dX3_darkest_90 (by decide) rfl (fun hc => ?_) (fun hc => ?_)
      · have hf := (if_neg hc).symm.trans hf
        refine x_aload_n (q := 98) C 1 dX3_darkest_97 rfl rfl rfl ?_
        refine x_iload_n (q := 99) C 2 dX3_darkest_98 rfl rfl rfl ?_
        obtain ⟨hb31, hf⟩ := gd_some hf
        refine x_iald (q := 100) C 0 dX3_darkest_99 (((zA y q3 18 f7).R).R) rfl hb31 rfl ?_
        exact hJ100 (f7 v26.toNatClampNeg) hf
      · have hf := (if_pos hc).symm.trans hf
        refine x_iconst (q := 94) C dX3_darkest_93 ki_0 rfl ?_
        refine x_goto (t := 100) C dX3_darkest_94 (by decide) ?_
        exact hJ100 0 hf
set_option maxHeartbeats 4000000 in
set_option maxRecDepth 100000 in
theorem c3_darkest {l : Launch} {D : va_G} {y : Nat → ClassId} {aM : Nat → Nat} {M : St} {r : Int32} {M' : St} (hf : f3_darkest M = some (r, M')) : xMJi l yX3_darkest wsX3_darkest 6 166 5 224 D (xT y) [.ref (aM 0)] (mC y aM M) (fun (r' : Int32) (_ : Unit) => r' = r) (fun _ : Unit => mC y aM M') := by
  refine xMJi_of (cc := cX3_darkest) (nL := 5) (ret := (some .int)) [(0, .ref (aM 0))] (by decide) rfl (Nat.le_of_ble_eq_true rfl) rfl ?_
  intro p e s m args below meth c A C hin hJ
  have C : xC p s m args meth c D A cX3_darkest RX3 5 wsX3_darkest (xT y) (some .int) := C
  unfold f3_darkest at hf
  refine x_aload_n (q := 1) C 0 dX3_darkest_0 rfl rfl rfl ?_
  refine x_iconst (q := 2) C dX3_darkest_1 ki_0 rfl ?_
  obtain ⟨M1, eM1, hf⟩ := lt_elim hf
  refine x_puti (q := 5) (ws' := mC y aM M1) C tyX3 tyX3_ok nmX3 dX3_darkest_2 (iX3_0 y aM M) rfl iuX3_darkest_X3 flX3_darkest_34 rfl (by decide) rfl rfl (congrArg (fun z => mC y aM z) eM1.symm) rfl ?_
  refine x_aload_n (q := 6) C 0 dX3_darkest_5 rfl rfl rfl ?_
  obtain ⟨K2, eK2, hf⟩ := lt_elim hf
  refine x_callJVr (q := 9) C hJ (c3_kept (l := l) (D := D) (y := y) (aM := aM) (M := M1)) yi_X3_kept gX3_darkest_X3_kept rfl (oX3 y aM M1) rfl ⟨(Nat.le_of_ble_eq_true rfl), (Nat.le_of_ble_eq_true rfl)⟩ dX3_darkest_6 pm_nil rfl rfl (Nat.le_of_ble_eq_true rfl) ⟨(Nat.le_of_ble_eq_true rfl), (Nat.le_of_ble_eq_true rfl)⟩ rfl ?_
  intro u ra _
  refine x_widen (k' := 4) (n' := 206) (Nat.le_of_ble_eq_true rfl) (Nat.le_of_ble_eq_true rfl) ?_
  refine x_world (ws' := mC y aM M1 ++ kC y (aKf u ra) K2) (by rw [eK2, List.append_nil]) ?_
  obtain ⟨aK, eaK⟩ : ∃ z, z = aKf u ra := ⟨_, rfl⟩
  rw [← eaK]
  refine x_topr (v := aK 0) (by rw [eaK]; rfl) ?_
  clear eaK
  refine x_astore_n (q := 10) C [1, 0] [(0, .ref (aM 0)), (1, .ref (aK 0))] dX3_darkest_9 rfl (by decide) rfl rfl ?_
  refine x_bipush (q := 12) C dX3_darkest_10 kb_18 rfl ?_
  refine x_newa (q := 14) C 18 dX3_darkest_12 knX3_darkest rfl (by decide) (by decide) (by decide) (Nat.le_of_ble_eq_true rfl) (Nat.le_of_ble_eq_true rfl) rfl (fun q3 => ?_)
  refine x_world (ws' := mC y aM M1 ++ (kC y aK K2 ++ zC y q3 18 (fun _ => 0))) as2 ?_
  refine x_widen (k' := 5) (n' := 224) (Nat.le_of_ble_eq_true rfl) (Nat.le_of_ble_eq_true rfl) ?_
  refine x_astore_n (q := 15) C [1, 2, 0] [(0, .ref (aM 0)), (1, .ref (aK 0)), (2, .ref q3)] dX3_darkest_14 rfl (by decide) rfl rfl ?_
  refine w3_darkest_L15 C (fun M6 f7 hf => ?_) xF M1 ((fun _ => 0)) hf
  refine x_aload_n (q := 66) C 0 dX3_darkest_65 rfl rfl rfl ?_
  refine x_aload_n (q := 67) C 1 dX3_darkest_66 rfl rfl rfl ?_
  obtain ⟨M24, hcal25, hf⟩ := bd_some hf
  refine x_callVv (q := 70) C (c3_bringBack (l := l) (D := D) (y := y) (aM := aM) (aK := aK) hcal25) yi_X3_bringBack gX3_darkest_X3_bringBack rfl ((oX3 y aM M6).L) rfl ⟨(Nat.le_of_ble_eq_true rfl), (Nat.le_of_ble_eq_true rfl)⟩ dX3_darkest_67 (pm3_01 _ _ _) rfl rfl (Nat.le_of_ble_eq_true rfl) ⟨Nat.le_of_ble_eq_true rfl, Nat.le_of_ble_eq_true rfl⟩ rfl ?_
  intro uu hrr
  refine x_perm (ws' := mC y aM M24 ++ (kC y aK K2 ++ zC y q3 18 f7)) (pm3_01 _ _ _).symm ?_
  refine x_iconst (q := 71) C dX3_darkest_70 ki_m1 rfl ?_
  refine x_istore_n (q := 72) C [1, 3, 0] [(0, .ref (aM 0)), (2, .ref q3), (3, .int (-1))] dX3_darkest_71 rfl (by decide) rfl rfl ?_
  refine x_iconst (q := 73) C dX3_darkest_72 ki_0 rfl ?_
  refine x_istore (q := 75) C [1, 2, 3, 0] [(0, .ref (aM 0)), (2, .ref q3), (3, .int (-1)), (4, .int 0)] dX3_darkest_73 (by decide) rfl rfl ?_
  exact w3_darkest_L75 C xF (-1) 0 hf

/-! LampHillsModel.foresee(II)I -/
theorem flX3_foresee_31 : Cond.fieldLink RX3 31 "LampHillsModel" "numbers" "[I" ∈ wsX3_foresee := by decide +kernel
theorem flX3_foresee_34 : Cond.fieldLink RX3 34 "LampHillsModel" "thrown" "I" ∈ wsX3_foresee := by decide +kernel
theorem iuX3_foresee_X3 : ∀ w ∈ u_ws RX3 TX3 13, w ∈ wsX3_foresee := fun _ h => List.mem_cons_of_mem _ (List.mem_append_right _ h)
def f3_foresee (M : St) (p1 : Int32) (p2 : Int32) : Option (Int32 × St) :=
  lt_ (up2 M 0 0 0) fun M1 =>
  bd (f3_isIn p1 1 600) fun v2 =>
  if v2 = 0 then
  (
    bd2 (f3_fail M1 1) fun v26 M27 =>
    some (v26, M27)
  )
  else
  (
    bd (f3_isIn p2 0 2) fun v5 =>
    if v5 = 0 then
    (
      bd2 (f3_fail M1 2) fun v22 M23 =>
      some (v22, M23)
    )
    else
    (
      lt_ (kS M1) fun K8 =>
      lt_ (M1 12 (2 : Int32).toNatClampNeg) fun v10 =>
      bd (f3_minutesOn M1 p1) fun M11 =>
      lt_ (fun (v13 : Int32) =>
      (
        bd (f3_bringBack M11 K8) fun M14 =>
        some (v13, M14)
      )
      ) fun J88 =>
      if p2 = 0 then
      (
        bd (f3_all M11 5) fun v19 =>
        J88 v19
      )
      else
      (
        if p2 = 1 then
        (
          bd (f3_dark M11) fun v16 =>
          J88 v16
        )
        else
        (
          J88 ((M11 12 (2 : Int32).toNatClampNeg) - v10)
        )
      )
    )
  )
set_option maxHeartbeats 4000000 in
set_option maxRecDepth 100000 in
theorem c3_foresee {l : Launch} {D : va_G} {y : Nat → ClassId} {aM : Nat → Nat} {M : St} {p1 : Int32} {p2 : Int32} {r : Int32} {M' : St} (hf : f3_foresee M p1 p2 = some (r, M')) : xMJi l yX3_foresee wsX3_foresee 7 188 4 206 D (xT y) [.ref (aM 0), .int p1, .int p2] (mC y aM M) (fun (r' : Int32) (_ : Unit) => r' = r) (fun _ : Unit => mC y aM M') := by
  refine xMJi_of (cc := cX3_foresee) (nL := 6) (ret := (some .int)) [(0, .ref (aM 0)), (1, .int p1), (2, .int p2)] (by decide) rfl (Nat.le_of_ble_eq_true rfl) rfl ?_
  intro p e s m args below meth c A C hin hJ
  have C : xC p s m args meth c D A cX3_foresee RX3 6 wsX3_foresee (xT y) (some .int) := C
  unfold f3_foresee at hf
  refine x_aload_n (q := 1) C 0 dX3_foresee_0 rfl rfl rfl ?_
  refine x_iconst (q := 2) C dX3_foresee_1 ki_0 rfl ?_
  obtain ⟨M1, eM1, hf⟩ := lt_elim hf
  refine x_puti (q := 5) (ws' := mC y aM M1) C tyX3 tyX3_ok nmX3 dX3_foresee_2 (iX3_0 y aM M) rfl iuX3_foresee_X3 flX3_foresee_34 rfl (by decide) rfl rfl (congrArg (fun z => mC y aM z) eM1.symm) rfl ?_
  refine x_iload_n (q := 6) C 1 dX3_foresee_5 rfl rfl rfl ?_
  refine x_iconst (q := 7) C dX3_foresee_6 ki_1 rfl ?_
  refine x_sipush (q := 10) C dX3_foresee_7 ks_600 rfl ?_
  obtain ⟨v2, hcal3, hf⟩ := bd_some hf
  refine x_callSi (q := 13) C (c3_isIn (l := l) (D := D) (y := y)  hcal3) yi_X3_isIn gX3_foresee_X3_isIn ⟨(Nat.le_of_ble_eq_true rfl), (Nat.le_of_ble_eq_true rfl)⟩ dX3_foresee_10 pm_emp rfl rfl (Nat.le_of_ble_eq_true rfl) ⟨Nat.le_of_ble_eq_true rfl, Nat.le_of_ble_eq_true rfl⟩ rfl ?_
  intro rr4 uu hrr
  have hrr : v2 = rr4 := Eq.symm hrr
  subst hrr
  refine x_world (ws' := mC y aM M1) rfl ?_
  refine x_if_ne (t := 22) (q := 16) C dX3_foresee_13 (by decide) rfl (fun hc => ?_) (fun hc => ?_)
  · have hf := (if_neg hc).symm.trans hf
    refine x_iload_n (q := 23) C 2 dX3_foresee_22 rfl rfl rfl ?_
    refine x_iconst (q := 24) C dX3_foresee_23 ki_0 rfl ?_
    refine x_iconst (q := 25) C dX3_foresee_24 ki_2 rfl ?_
    obtain ⟨v5, hcal6, hf⟩ := bd_some hf
    refine x_callSi (q := 28) C (c3_isIn (l := l) (D := D) (y := y)  hcal6) yi_X3_isIn gX3_foresee_X3_isIn ⟨(Nat.le_of_ble_eq_true rfl), (Nat.le_of_ble_eq_true rfl)⟩ dX3_foresee_25 pm_emp rfl rfl (Nat.le_of_ble_eq_true rfl) ⟨Nat.le_of_ble_eq_true rfl, Nat.le_of_ble_eq_true rfl⟩ rfl ?_
    intro rr7 uu hrr
    have hrr : v5 = rr7 := Eq.symm hrr
    subst hrr
    refine x_world (ws' := mC y aM M1) rfl ?_
    refine x_if_ne (t := 37) (q := 31) C dX3_foresee_28 (by decide) rfl (fun hc => ?_) (fun hc => ?_)
    · have hf := (if_neg hc).symm.trans hf
      refine x_aload_n (q := 38) C 0 dX3_foresee_37 rfl rfl rfl ?_
      obtain ⟨K8, eK8, hf⟩ := lt_elim hf
      refine x_callJVr (q := 41) C hJ (c3_kept (l := l) (D := D) (y := y) (aM := aM) (M := M1)) yi_X3_kept gX3_foresee_X3_kept rfl (oX3 y aM M1) rfl ⟨(Nat.le_of_ble_eq_true rfl), (Nat.le_of_ble_eq_true rfl)⟩ dX3_foresee_38 pm_nil rfl rfl (Nat.le_of_ble_eq_true rfl) ⟨(Nat.le_of_ble_eq_true rfl), (Nat.le_of_ble_eq_true rfl)⟩ rfl ?_
      intro u ra _
      refine x_widen (k' := 4) (n' := 206) (Nat.le_of_ble_eq_true rfl) (Nat.le_of_ble_eq_true rfl) ?_
      refine x_world (ws' := mC y aM M1 ++ kC y (aKf u ra) K8) (by rw [eK8, List.append_nil]) ?_
      obtain ⟨aK, eaK⟩ : ∃ z, z = aKf u ra := ⟨_, rfl⟩
      rw [← eaK]
      refine x_topr (v := aK 0) (by rw [eaK]; rfl) ?_
      clear eaK
      refine x_astore_n (q := 42) C [1, 2, 3, 0] [(0, .ref (aM 0)), (1, .int p1), (2, .int p2), (3, .ref (aK 0))] dX3_foresee_41 rfl (by decide) rfl rfl ?_
      refine x_aload_n (q := 43) C 0 dX3_foresee_42 rfl rfl rfl ?_
      refine x_get (q := 46) C 12 dX3_foresee_43 ((oX3 y aM M1).L) rfl iuX3_foresee_X3 flX3_foresee_31 rfl (by decide) rfl rfl ?_
      refine x_iconst (q := 47) C dX3_foresee_46 ki_2 rfl ?_
      have hb9 : xin 2 3 = true := by decide
      refine x_iald (q := 48) C 0 dX3_foresee_47 ((aX3_12 y aM M1).L) rfl hb9 rfl ?_
      obtain ⟨v10, ev10, hf⟩ := lt_elim hf
      refine x_topi ev10 ?_
      refine x_istore (q := 50) C [1, 2, 3, 4, 0] [(0, .ref (aM 0)), (1, .int p1), (2, .int p2), (3, .ref (aK 0)), (4, .int v10)] dX3_foresee_48 (by decide) rfl rfl ?_
      refine x_aload_n (q := 51) C 0 dX3_foresee_50 rfl rfl rfl ?_
      refine x_iload_n (q := 52) C 1 dX3_foresee_51 rfl rfl rfl ?_
      obtain ⟨M11, hcal12, hf⟩ := bd_some hf
      refine x_callVv (q := 55) C (c3_minutesOn (l := l) (D := D) (y := y) (aM := aM) hcal12) yi_X3_minutesOn gX3_foresee_X3_minutesOn rfl (oX3 y aM M1) rfl ⟨(Nat.le_of_ble_eq_true rfl), (Nat.le_of_ble_eq_true rfl)⟩ dX3_foresee_52 (pm2_0 _ _) rfl rfl (Nat.le_of_ble_eq_true rfl) ⟨Nat.le_of_ble_eq_true rfl, Nat.le_of_ble_eq_true rfl⟩ rfl ?_
      intro uu hrr
      refine x_perm (ws' := mC y aM M11 ++ kC y aK K8) (pm2_0 _ _).symm ?_
      refine x_iload_n (q := 56) C 2 dX3_foresee_55 rfl rfl rfl ?_
      obtain ⟨J88, eJ88, hf⟩ := lt_elim hf
      have hJ88 : ∀ (v13 : Int32), J88 v13 = some (r, M') → xV p l e { frames := 7, cells := 4, slots := 206, locals := 188 } s m args below meth c D A (xQi D (xT y) A (fun (r' : Int32) (_ : Unit) => r' = r) (fun _ : Unit => mC y aM M') 4 206 below args s) 6 (mC y aM M11 ++ kC y aK K8) 4 206 [(0, .ref (aM 0)), (3, .ref (aK 0))] 88 [.int v13] := by
        intro v13 hf
        subst eJ88
        refine x_istore (q := 90) C [1, 2, 0] [(0, .ref (aM 0)), (3, .ref (aK 0)), (5, .int v13)] dX3_foresee_88 (by decide) rfl rfl ?_
        refine x_aload_n (q := 91) C 0 dX3_foresee_90 rfl rfl rfl ?_
        refine x_aload_n (q := 92) C 1 dX3_foresee_91 rfl rfl rfl ?_
        obtain ⟨M14, hcal15, hf⟩ := bd_some hf
        refine x_callVv (q := 95) C (c3_bringBack (l := l) (D := D) (y := y) (aM := aM) (aK := aK) hcal15) yi_X3_bringBack gX3_foresee_X3_bringBack rfl ((oX3 y aM M11).L) rfl ⟨(Nat.le_of_ble_eq_true rfl), (Nat.le_of_ble_eq_true rfl)⟩ dX3_foresee_92 pm_nil rfl rfl (Nat.le_of_ble_eq_true rfl) ⟨Nat.le_of_ble_eq_true rfl, Nat.le_of_ble_eq_true rfl⟩ rfl ?_
        intro uu hrr
        refine x_world (ws' := mC y aM M14 ++ kC y aK K8) (List.append_nil _) ?_
        refine x_iload (q := 97) C 2 dX3_foresee_95 rfl rfl ?_
        have hf := Option.some.inj hf
        refine x_drop ?_
        obtain ⟨hr0, hr1⟩ := Prod.mk.inj hf
        exact x_iret () C dX3_foresee_97 rfl hr0 (congrArg (fun z => mC y aM z) hr1) (Nat.le_of_ble_eq_true rfl) (Nat.le_of_ble_eq_true rfl)
      refine x_if_ne (t := 67) (q := 59) C dX3_foresee_56 (by decide) rfl (fun hc => ?_) (fun hc => ?_)
      · have hf := (if_neg hc).symm.trans hf
        refine x_iload_n (q := 68) C 2 dX3_foresee_67 rfl rfl rfl ?_
        refine x_iconst (q := 69) C dX3_foresee_68 ki_1 rfl ?_
        refine x_icmp_ne (t := 79) (q := 72) C dX3_foresee_69 (by decide) rfl (fun hc => ?_) (fun hc => ?_)
        · have hf := (if_neg hc).symm.trans hf
          refine x_aload_n (q := 80) C 0 dX3_foresee_79 rfl rfl rfl ?_
          refine x_get (q := 83) C 12 dX3_foresee_80 ((oX3 y aM M11).L) rfl iuX3_foresee_X3 flX3_foresee_31 rfl (by decide) rfl rfl ?_
          refine x_iconst (q := 84) C dX3_foresee_83 ki_2 rfl ?_
          refine x_iald (q := 85) C 0 dX3_foresee_84 ((aX3_12 y aM M11).L) rfl hb9 rfl ?_
          refine x_iload (q := 87) C 4 dX3_foresee_85 rfl rfl ?_
          refine x_isub (q := 88) C dX3_foresee_87 rfl ?_
          refine x_sub [0, 3] (L' := [(0, .ref (aM 0)), (3, .ref (aK 0))]) rfl ?_
          exact hJ88 ((M11 12 (2 : Int32).toNatClampNeg) - v10) hf
        · have hf := (if_pos hc).symm.trans hf
          refine x_aload_n (q := 73) C 0 dX3_foresee_72 rfl rfl rfl ?_
          obtain ⟨v16, hcal17, hf⟩ := bd_some hf
          refine x_callVi (q := 76) C (c3_dark (l := l) (D := D) (y := y) (aM := aM) hcal17) yi_X3_dark gX3_foresee_X3_dark rfl (oX3 y aM M11) rfl ⟨(Nat.le_of_ble_eq_true rfl), (Nat.le_of_ble_eq_true rfl)⟩ dX3_foresee_73 (pm2_0 _ _) rfl rfl (Nat.le_of_ble_eq_true rfl) ⟨Nat.le_of_ble_eq_true rfl, Nat.le_of_ble_eq_true rfl⟩ rfl ?_
          intro rr18 uu hrr
          have hrr : v16 = rr18 := Eq.symm hrr
          subst hrr
          refine x_perm (ws' := mC y aM M11 ++ kC y aK K8) (pm2_0 _ _).symm ?_
          refine x_goto (t := 88) C dX3_foresee_76 (by decide) ?_
          refine x_sub [0, 3] (L' := [(0, .ref (aM 0)), (3, .ref (aK 0))]) rfl ?_
          exact hJ88 v16 hf
      · have hf := (if_pos hc).symm.trans hf
        refine x_aload_n (q := 60) C 0 dX3_foresee_59 rfl rfl rfl ?_
        refine x_iconst (q := 61) C dX3_foresee_60 ki_5 rfl ?_
        obtain ⟨v19, hcal20, hf⟩ := bd_some hf
        refine x_callVi (q := 64) C (c3_all (l := l) (D := D) (y := y) (aM := aM) hcal20) yi_X3_all gX3_foresee_X3_all rfl (oX3 y aM M11) rfl ⟨(Nat.le_of_ble_eq_true rfl), (Nat.le_of_ble_eq_true rfl)⟩ dX3_foresee_61 (pm2_0 _ _) rfl rfl (Nat.le_of_ble_eq_true rfl) ⟨Nat.le_of_ble_eq_true rfl, Nat.le_of_ble_eq_true rfl⟩ rfl ?_
        intro rr21 uu hrr
        have hrr : v19 = rr21 := Eq.symm hrr
        subst hrr
        refine x_perm (ws' := mC y aM M11 ++ kC y aK K8) (pm2_0 _ _).symm ?_
        refine x_goto (t := 88) C dX3_foresee_64 (by decide) ?_
        refine x_sub [0, 3] (L' := [(0, .ref (aM 0)), (3, .ref (aK 0))]) rfl ?_
        exact hJ88 v19 hf
    · have hf := (if_pos hc).symm.trans hf
      refine x_aload_n (q := 32) C 0 dX3_foresee_31 rfl rfl rfl ?_
      refine x_iconst (q := 33) C dX3_foresee_32 ki_2 rfl ?_
      obtain ⟨v22, M23, hcal24, hf⟩ := bd2_some hf
      refine x_callVi (q := 36) C (c3_fail (l := l) (D := D) (y := y) (aM := aM) hcal24) yi_X3_fail gX3_foresee_X3_fail rfl (oX3 y aM M1) rfl ⟨(Nat.le_of_ble_eq_true rfl), (Nat.le_of_ble_eq_true rfl)⟩ dX3_foresee_33 pm_nil rfl rfl (Nat.le_of_ble_eq_true rfl) ⟨Nat.le_of_ble_eq_true rfl, Nat.le_of_ble_eq_true rfl⟩ rfl ?_
      intro rr25 uu hrr
      have hrr : v22 = rr25 := Eq.symm hrr
      subst hrr
      refine x_world (ws' := mC y aM M23) (List.append_nil _) ?_
      have hf := Option.some.inj hf
      obtain ⟨hr0, hr1⟩ := Prod.mk.inj hf
      exact x_iret () C dX3_foresee_36 rfl hr0 (congrArg (fun z => mC y aM z) hr1) (Nat.le_of_ble_eq_true rfl) (Nat.le_of_ble_eq_true rfl)
  · have hf := (if_pos hc).symm.trans hf
    refine x_aload_n (q := 17) C 0 dX3_foresee_16 rfl rfl rfl ?_
    refine x_iconst (q := 18) C dX3_foresee_17 ki_1 rfl ?_
    obtain ⟨v26, M27, hcal28, hf⟩ := bd2_some hf
    refine x_callVi (q := 21) C (c3_fail (l := l) (D := D) (y := y) (aM := aM) hcal28) yi_X3_fail gX3_foresee_X3_fail rfl (oX3 y aM M1) rfl ⟨(Nat.le_of_ble_eq_true rfl), (Nat.le_of_ble_eq_true rfl)⟩ dX3_foresee_18 pm_nil rfl rfl (Nat.le_of_ble_eq_true rfl) ⟨Nat.le_of_ble_eq_true rfl, Nat.le_of_ble_eq_true rfl⟩ rfl ?_
    intro rr29 uu hrr
    have hrr : v26 = rr29 := Eq.symm hrr
    subst hrr
    refine x_world (ws' := mC y aM M27) (List.append_nil _) ?_
    have hf := Option.some.inj hf
    obtain ⟨hr0, hr1⟩ := Prod.mk.inj hf
    exact x_iret () C dX3_foresee_21 rfl hr0 (congrArg (fun z => mC y aM z) hr1) (Nat.le_of_ble_eq_true rfl) (Nat.le_of_ble_eq_true rfl)

/-! LampHillsModel.digest()J -/
theorem kX3_digest_169 : Cond.constantLong RX3 169 (941) ∈ wsX3_digest := by decide +kernel
theorem kX3_digest_171 : Cond.constantLong RX3 171 (31) ∈ wsX3_digest := by decide +kernel
theorem flX3_digest_25 : Cond.fieldLink RX3 25 "LampHillsModel" "rounds" "[I" ∈ wsX3_digest := by decide +kernel
theorem flX3_digest_28 : Cond.fieldLink RX3 28 "LampHillsModel" "winds" "[I" ∈ wsX3_digest := by decide +kernel
theorem flX3_digest_34 : Cond.fieldLink RX3 34 "LampHillsModel" "thrown" "I" ∈ wsX3_digest := by decide +kernel
theorem flX3_digest_38 : Cond.fieldLink RX3 38 "LampHillsModel" "corners" "I" ∈ wsX3_digest := by decide +kernel
theorem flX3_digest_45 : Cond.fieldLink RX3 45 "LampHillsModel" "streets" "I" ∈ wsX3_digest := by decide +kernel
theorem flX3_digest_48 : Cond.fieldLink RX3 48 "LampHillsModel" "lamps" "I" ∈ wsX3_digest := by decide +kernel
theorem flX3_digest_51 : Cond.fieldLink RX3 51 "LampHillsModel" "lighters" "I" ∈ wsX3_digest := by decide +kernel
theorem flX3_digest_9 : Cond.fieldLink RX3 9 "LampHillsModel" "heights" "[I" ∈ wsX3_digest := by decide +kernel
theorem iuX3_digest_X3 : ∀ w ∈ u_ws RX3 TX3 13, w ∈ wsX3_digest := fun _ h => List.mem_cons_of_mem _ (List.mem_append_right _ h)
def f3_digest_L11 (M1 : St) (K : Int64 → Option (Int64 × St)) : Nat → Int64 → Int32 → Option (Int64 × St)
  | 0, _, _ => none
  | fu + 1, v2, v3 =>
  if 10 ≤ v3 then
  (
    K v2
  )
  else
  (
    bd (f3_counted M1 v3) fun v5 =>
    lt_ ((v2 * 31) + (v5.toInt64)) fun v8 =>
    f3_digest_L11 M1 K fu v8 (v3 + 1)
  )
def f3_digest_L38 (M1 : St) (K : Int64 → Option (Int64 × St)) : Nat → Int64 → Int32 → Option (Int64 × St)
  | 0, _, _ => none
  | fu + 1, v9, v10 =>
  if (M1 1 0) ≤ v10 then
  (
    K v9
  )
  else
  (
    gd (xin v10 12) <|
    lt_ ((v9 * 31) + ((M1 5 v10.toNatClampNeg).toInt64)) fun v13 =>
    f3_digest_L38 M1 K fu v13 (v10 + 1)
  )
def f3_digest_L79 (v15 : Int32) (M1 : St) (K : Int64 → Option (Int64 × St)) : Nat → Int64 → Int32 → Option (Int64 × St)
  | 0, _, _ => none
  | fu + 1, v17, v18 =>
  if 3 ≤ v18 then
  (
    K v17
  )
  else
  (
    bd (f3_ro M1 v15 v18) fun v20 =>
    lt_ ((v17 * 31) + (v20.toInt64)) fun v23 =>
    f3_digest_L79 v15 M1 K fu v23 (v18 + 1)
  )
def f3_digest_L68 (M1 : St) (K : Int64 → Option (Int64 × St)) : Nat → Int64 → Int32 → Option (Int64 × St)
  | 0, _, _ => none
  | fu + 1, v14, v15 =>
  if (M1 2 0) ≤ v15 then
  (
    K v14
  )
  else
  (
    f3_digest_L79 v15 M1 (fun (v19 : Int64) =>
    (
      bd (f3_burns M1 v15) fun v24 =>
      lt_ ((v19 * 31) + (v24.toInt64)) fun v27 =>
      f3_digest_L68 M1 K fu v27 (v15 + 1)
    )
    ) xF v14 0
  )
def f3_digest_L138 (v29 : Int32) (M1 : St) (K : Int64 → Option (Int64 × St)) : Nat → Int64 → Int32 → Option (Int64 × St)
  | 0, _, _ => none
  | fu + 1, v31, v32 =>
  if 9 ≤ v32 then
  (
    K v31
  )
  else
  (
    bd (f3_lampTold M1 v29 v32) fun v34 =>
    lt_ ((v31 * 31) + (v34.toInt64)) fun v37 =>
    f3_digest_L138 v29 M1 K fu v37 (v32 + 1)
  )
def f3_digest_L127 (M1 : St) (K : Int64 → Option (Int64 × St)) : Nat → Int64 → Int32 → Option (Int64 × St)
  | 0, _, _ => none
  | fu + 1, v28, v29 =>
  if (M1 3 0) ≤ v29 then
  (
    K v28
  )
  else
  (
    f3_digest_L138 v29 M1 (fun (v33 : Int64) =>
    (
      f3_digest_L127 M1 K fu v33 (v29 + 1)
    )
    ) xF v28 0
  )
def f3_digest_L185 (v39 : Int32) (M1 : St) (K : Int64 → Option (Int64 × St)) : Nat → Int64 → Int32 → Option (Int64 × St)
  | 0, _, _ => none
  | fu + 1, v41, v42 =>
  if 7 ≤ v42 then
  (
    K v41
  )
  else
  (
    bd (f3_lighterTold M1 v39 v42) fun v44 =>
    lt_ ((v41 * 31) + (v44.toInt64)) fun v47 =>
    f3_digest_L185 v39 M1 K fu v47 (v42 + 1)
  )
def f3_digest_L216 (v39 : Int32) (M1 : St) (K : Int64 → Option (Int64 × St)) : Nat → Int64 → Int32 → Option (Int64 × St)
  | 0, _, _ => none
  | fu + 1, v48, v49 =>
  bd (f3_pe M1 v39 4) fun v51 =>
  if v51 ≤ v49 then
  (
    K v48
  )
  else
  (
    gd (xin ((10 * v39) + v49) 40) <|
    lt_ ((v48 * 31) + ((M1 10 ((10 * v39) + v49).toNatClampNeg).toInt64)) fun v55 =>
    f3_digest_L216 v39 M1 K fu v55 (v49 + 1)
  )
def f3_digest_L174 (M1 : St) (K : Int64 → Option (Int64 × St)) : Nat → Int64 → Int32 → Option (Int64 × St)
  | 0, _, _ => none
  | fu + 1, v38, v39 =>
  if (M1 4 0) ≤ v39 then
  (
    K v38
  )
  else
  (
    f3_digest_L185 v39 M1 (fun (v43 : Int64) =>
    (
      f3_digest_L216 v39 M1 (fun (v50 : Int64) =>
      (
        f3_digest_L174 M1 K fu v50 (v39 + 1)
      )
      ) xF v43 0
    )
    ) xF8 v38 0
  )
def f3_digest_L271 (M1 : St) : Nat → Int64 → Int32 → Option (Int64 × St)
  | 0, _, _ => none
  | fu + 1, v56, v57 =>
  if 10 ≤ v57 then
  (
    some (v56, M1)
  )
  else
  (
    gd (xin v57 10) <|
    lt_ (M1 11 v57.toNatClampNeg) fun v59 =>
    lt_ ((v56 * 31) + (v59.toInt64)) fun v60 =>
    f3_digest_L271 M1 fu v60 (v57 + 1)
  )
def f3_digest (M : St) : Option (Int64 × St) :=
  lt_ (up2 M 0 0 0) fun M1 =>
  f3_digest_L11 M1 (fun (v4 : Int64) =>
  (
    f3_digest_L38 M1 (fun (v11 : Int64) =>
    (
      f3_digest_L68 M1 (fun (v16 : Int64) =>
      (
        f3_digest_L127 M1 (fun (v30 : Int64) =>
        (
          f3_digest_L174 M1 (fun (v40 : Int64) =>
          (
            f3_digest_L271 M1 xF v40 0
          )
          ) xF5 v30 0
        )
        ) xF v16 0
      )
      ) xF v11 0
    )
    ) xF v4 0
  )
  ) xF11 941 0
set_option maxHeartbeats 4000000 in
set_option maxRecDepth 100000 in
theorem w3_digest_L11 {p : Program} {l : Launch} {e : Env} {s : State} {m : MethodId} {args : Array Value} {below : List Frame} {meth : Method} {c : Code} {D : va_G} {A : Nat → Prop} {y : Nat → ClassId} {aM : Nat → Nat} {M1 : St} {r : Int64} {M' : St} {K : Int64 → Option (Int64 × St)} (C : xC p s m args meth c D A cX3_digest RX3 7 wsX3_digest (xT y) (some .long)) {kX nX : Nat} (hm1 : kX ≤ 51) (hm2 : nX ≤ 390) (hK : ∀ (v4 : Int64), K v4 = some (r, M') → xV p l e { frames := 4, cells := 51, slots := 390, locals := 89 } s m args below meth c D A (xQl D (xT y) A (fun (r' : Int64) (_ : Unit) => r' = r) (fun _ : Unit => mC y aM M') 51 390 below args s) 7 (mC y aM M1) kX nX [(0, .ref (aM 0)), (1, .long v4)] 36 []) : ∀ (fu : Nat) (kk nn : Nat) (v2 : Int64) (v3 : Int32), kk + 1 * fu ≤ kX → nn + 10 * fu ≤ nX → f3_digest_L11 M1 K fu v2 v3 = some (r, M') → xV p l e { frames := 4, cells := 51, slots := 390, locals := 89 } s m args below meth c D A (xQl D (xT y) A (fun (r' : Int64) (_ : Unit) => r' = r) (fun _ : Unit => mC y aM M') 51 390 below args s) 7 (mC y aM M1) kk nn [(0, .ref (aM 0)), (1, .long v2), (3, .int v3)] 11 [] := by
  intro fu
  induction fu with
  | zero => intro kk nn v2 v3 hb1 hb2 hf; rw [f3_digest_L11] at hf; cases hf
  | succ fu ih =>
    intro kk nn v2 v3 hb1 hb2 hf
    rw [f3_digest_L11] at hf
    refine x_iload_n (q := 12) C 2 dX3_digest_11 rfl rfl rfl ?_
    refine x_bipush (q := 14) C dX3_digest_12 kb_10 rfl ?_
    refine x_icmp_ge (t := 36) (q := 17) C dX3_digest_14 (by decide) rfl (fun hc => ?_) (fun hc => ?_)
    · have hf := (if_pos hc).symm.trans hf
      refine x_sub [0, 1] (L' := [(0, .ref (aM 0)), (1, .long v2)]) rfl ?_
      refine x_widen (k' := kX) (n' := nX) (by omega) (by omega) ?_
      exact hK v2 hf
    · have hf := (if_neg hc).symm.trans hf
      refine x_lload_n (q := 18) C 1 dX3_digest_17 rfl rfl rfl ?_
      refine x_ldc2 (q := 21) C dX3_digest_18 kX3_digest_171 rfl ?_
      refine x_lmul (q := 22) C dX3_digest_21 rfl ?_
      refine x_aload_n (q := 23) C 0 dX3_digest_22 rfl rfl rfl ?_
      refine x_iload_n (q := 24) C 2 dX3_digest_23 rfl rfl rfl ?_
      obtain ⟨v5, hcal6, hf⟩ := bd_some hf
      refine x_callVi (q := 27) C (c3_counted (l := l) (D := D) (y := y) (aM := aM) hcal6) yi_X3_counted gX3_digest_X3_counted rfl (oX3 y aM M1) rfl ⟨(Nat.le_of_ble_eq_true rfl), (Nat.le_of_ble_eq_true rfl)⟩ dX3_digest_24 pm_nil rfl rfl (Nat.le_of_ble_eq_true rfl) ⟨by dsimp only; omega, by dsimp only; omega⟩ rfl ?_
      intro rr7 uu hrr
      have hrr : v5 = rr7 := Eq.symm hrr
      subst hrr
      refine x_world (ws' := mC y aM M1) (List.append_nil _) ?_
      refine x_i2l (q := 28) C dX3_digest_27 rfl ?_
      refine x_ladd (q := 29) C dX3_digest_28 rfl ?_
      obtain ⟨v8, ev8, hf⟩ := lt_elim hf
      refine x_topl ev8 ?_
      refine x_lstore_n (q := 30) C [1, 0, 2] [(0, .ref (aM 0)), (1, .long v8), (3, .int v3)] dX3_digest_29 rfl (by decide) rfl rfl ?_
      refine x_iinc (q := 33) C 2 (v3 + 1) [1, 2, 0] [(0, .ref (aM 0)), (1, .long v8), (3, .int (v3 + 1))] dX3_digest_30 rfl (congrArg (fun z => v3 + z) ki_1) (by decide) rfl rfl ?_
      refine x_goto (t := 11) C dX3_digest_33 (by decide) ?_
      exact ih (kk + 1) (nn + 10) v8 (v3 + 1) (by omega) (by omega) hf
set_option maxHeartbeats 4000000 in
set_option maxRecDepth 100000 in
theorem w3_digest_L38 {p : Program} {l : Launch} {e : Env} {s : State} {m : MethodId} {args : Array Value} {below : List Frame} {meth : Method} {c : Code} {D : va_G} {A : Nat → Prop} {y : Nat → ClassId} {aM : Nat → Nat} {M1 : St} {r : Int64} {M' : St} {K : Int64 → Option (Int64 × St)} (C : xC p s m args meth c D A cX3_digest RX3 7 wsX3_digest (xT y) (some .long)) (hK : ∀ (v11 : Int64), K v11 = some (r, M') → xV p l e { frames := 4, cells := 51, slots := 390, locals := 89 } s m args below meth c D A (xQl D (xT y) A (fun (r' : Int64) (_ : Unit) => r' = r) (fun _ : Unit => mC y aM M') 51 390 below args s) 7 (mC y aM M1) 11 110 [(0, .ref (aM 0)), (1, .long v11)] 66 []) : ∀ (fu : Nat) (v9 : Int64) (v10 : Int32), f3_digest_L38 M1 K fu v9 v10 = some (r, M') → xV p l e { frames := 4, cells := 51, slots := 390, locals := 89 } s m args below meth c D A (xQl D (xT y) A (fun (r' : Int64) (_ : Unit) => r' = r) (fun _ : Unit => mC y aM M') 51 390 below args s) 7 (mC y aM M1) 11 110 [(0, .ref (aM 0)), (1, .long v9), (3, .int v10)] 38 [] := by
  intro fu
  induction fu with
  | zero => intro v9 v10 hf; rw [f3_digest_L38] at hf; cases hf
  | succ fu ih =>
    intro v9 v10 hf
    rw [f3_digest_L38] at hf
    refine x_iload_n (q := 39) C 2 dX3_digest_38 rfl rfl rfl ?_
    refine x_aload_n (q := 40) C 0 dX3_digest_39 rfl rfl rfl ?_
    refine x_get (q := 43) C 1 dX3_digest_40 (oX3 y aM M1) rfl iuX3_digest_X3 flX3_digest_38 rfl (by decide) rfl rfl ?_
    refine x_icmp_ge (t := 66) (q := 46) C dX3_digest_43 (by decide) rfl (fun hc => ?_) (fun hc => ?_)
    · have hf := (if_pos hc).symm.trans hf
      refine x_sub [0, 1] (L' := [(0, .ref (aM 0)), (1, .long v9)]) rfl ?_
      exact hK v9 hf
    · have hf := (if_neg hc).symm.trans hf
      refine x_lload_n (q := 47) C 1 dX3_digest_46 rfl rfl rfl ?_
      refine x_ldc2 (q := 50) C dX3_digest_47 kX3_digest_171 rfl ?_
      refine x_lmul (q := 51) C dX3_digest_50 rfl ?_
      refine x_aload_n (q := 52) C 0 dX3_digest_51 rfl rfl rfl ?_
      refine x_get (q := 55) C 5 dX3_digest_52 (oX3 y aM M1) rfl iuX3_digest_X3 flX3_digest_9 rfl (by decide) rfl rfl ?_
      refine x_iload_n (q := 56) C 2 dX3_digest_55 rfl rfl rfl ?_
      obtain ⟨hb12, hf⟩ := gd_some hf
      refine x_iald (q := 57) C 0 dX3_digest_56 (aX3_5 y aM M1) rfl hb12 rfl ?_
      refine x_i2l (q := 58) C dX3_digest_57 rfl ?_
      refine x_ladd (q := 59) C dX3_digest_58 rfl ?_
      obtain ⟨v13, ev13, hf⟩ := lt_elim hf
      refine x_topl ev13 ?_
      refine x_lstore_n (q := 60) C [1, 0, 2] [(0, .ref (aM 0)), (1, .long v13), (3, .int v10)] dX3_digest_59 rfl (by decide) rfl rfl ?_
      refine x_iinc (q := 63) C 2 (v10 + 1) [1, 2, 0] [(0, .ref (aM 0)), (1, .long v13), (3, .int (v10 + 1))] dX3_digest_60 rfl (congrArg (fun z => v10 + z) ki_1) (by decide) rfl rfl ?_
      refine x_goto (t := 38) C dX3_digest_63 (by decide) ?_
      exact ih v13 (v10 + 1) hf
set_option maxHeartbeats 4000000 in
set_option maxRecDepth 100000 in
theorem w3_digest_L79 {p : Program} {l : Launch} {e : Env} {s : State} {m : MethodId} {args : Array Value} {below : List Frame} {meth : Method} {c : Code} {D : va_G} {A : Nat → Prop} {y : Nat → ClassId} {aM : Nat → Nat} {M1 : St} {v15 : Int32} {r : Int64} {M' : St} {K : Int64 → Option (Int64 × St)} (C : xC p s m args meth c D A cX3_digest RX3 7 wsX3_digest (xT y) (some .long)) (hK : ∀ (v19 : Int64), K v19 = some (r, M') → xV p l e { frames := 4, cells := 51, slots := 390, locals := 89 } s m args below meth c D A (xQl D (xT y) A (fun (r' : Int64) (_ : Unit) => r' = r) (fun _ : Unit => mC y aM M') 51 390 below args s) 7 (mC y aM M1) 11 110 [(0, .ref (aM 0)), (1, .long v19), (3, .int v15)] 106 []) : ∀ (fu : Nat) (v17 : Int64) (v18 : Int32), f3_digest_L79 v15 M1 K fu v17 v18 = some (r, M') → xV p l e { frames := 4, cells := 51, slots := 390, locals := 89 } s m args below meth c D A (xQl D (xT y) A (fun (r' : Int64) (_ : Unit) => r' = r) (fun _ : Unit => mC y aM M') 51 390 below args s) 7 (mC y aM M1) 11 110 [(0, .ref (aM 0)), (1, .long v17), (3, .int v15), (4, .int v18)] 79 [] := by
  intro fu
  induction fu with
  | zero => intro v17 v18 hf; rw [f3_digest_L79] at hf; cases hf
  | succ fu ih =>
    intro v17 v18 hf
    rw [f3_digest_L79] at hf
    refine x_iload (q := 81) C 3 dX3_digest_79 rfl rfl ?_
    refine x_iconst (q := 82) C dX3_digest_81 ki_3 rfl ?_
    refine x_icmp_ge (t := 106) (q := 85) C dX3_digest_82 (by decide) rfl (fun hc => ?_) (fun hc => ?_)
    · have hf := (if_pos hc).symm.trans hf
      refine x_sub [0, 1, 2] (L' := [(0, .ref (aM 0)), (1, .long v17), (3, .int v15)]) rfl ?_
      exact hK v17 hf
    · have hf := (if_neg hc).symm.trans hf
      refine x_lload_n (q := 86) C 1 dX3_digest_85 rfl rfl rfl ?_
      refine x_ldc2 (q := 89) C dX3_digest_86 kX3_digest_171 rfl ?_
      refine x_lmul (q := 90) C dX3_digest_89 rfl ?_
      refine x_aload_n (q := 91) C 0 dX3_digest_90 rfl rfl rfl ?_
      refine x_iload_n (q := 92) C 2 dX3_digest_91 rfl rfl rfl ?_
      refine x_iload (q := 94) C 3 dX3_digest_92 rfl rfl ?_
      obtain ⟨v20, hcal21, hf⟩ := bd_some hf
      refine x_callVi (q := 97) C (c3_ro (l := l) (D := D) (y := y) (aM := aM) hcal21) yi_X3_ro gX3_digest_X3_ro rfl (oX3 y aM M1) rfl ⟨(Nat.le_of_ble_eq_true rfl), (Nat.le_of_ble_eq_true rfl)⟩ dX3_digest_94 pm_nil rfl rfl (Nat.le_of_ble_eq_true rfl) ⟨Nat.le_of_ble_eq_true rfl, Nat.le_of_ble_eq_true rfl⟩ rfl ?_
      intro rr22 uu hrr
      have hrr : v20 = rr22 := Eq.symm hrr
      subst hrr
      refine x_world (ws' := mC y aM M1) (List.append_nil _) ?_
      refine x_i2l (q := 98) C dX3_digest_97 rfl ?_
      refine x_ladd (q := 99) C dX3_digest_98 rfl ?_
      obtain ⟨v23, ev23, hf⟩ := lt_elim hf
      refine x_topl ev23 ?_
      refine x_lstore_n (q := 100) C [1, 0, 2, 3] [(0, .ref (aM 0)), (1, .long v23), (3, .int v15), (4, .int v18)] dX3_digest_99 rfl (by decide) rfl rfl ?_
      refine x_iinc (q := 103) C 3 (v18 + 1) [1, 2, 3, 0] [(0, .ref (aM 0)), (1, .long v23), (3, .int v15), (4, .int (v18 + 1))] dX3_digest_100 rfl (congrArg (fun z => v18 + z) ki_1) (by decide) rfl rfl ?_
      refine x_goto (t := 79) C dX3_digest_103 (by decide) ?_
      exact ih v23 (v18 + 1) hf
set_option maxHeartbeats 4000000 in
set_option maxRecDepth 100000 in
theorem w3_digest_L68 {p : Program} {l : Launch} {e : Env} {s : State} {m : MethodId} {args : Array Value} {below : List Frame} {meth : Method} {c : Code} {D : va_G} {A : Nat → Prop} {y : Nat → ClassId} {aM : Nat → Nat} {M1 : St} {r : Int64} {M' : St} {K : Int64 → Option (Int64 × St)} (C : xC p s m args meth c D A cX3_digest RX3 7 wsX3_digest (xT y) (some .long)) (hK : ∀ (v16 : Int64), K v16 = some (r, M') → xV p l e { frames := 4, cells := 51, slots := 390, locals := 89 } s m args below meth c D A (xQl D (xT y) A (fun (r' : Int64) (_ : Unit) => r' = r) (fun _ : Unit => mC y aM M') 51 390 below args s) 7 (mC y aM M1) 11 110 [(0, .ref (aM 0)), (1, .long v16)] 125 []) : ∀ (fu : Nat) (v14 : Int64) (v15 : Int32), f3_digest_L68 M1 K fu v14 v15 = some (r, M') → xV p l e { frames := 4, cells := 51, slots := 390, locals := 89 } s m args below meth c D A (xQl D (xT y) A (fun (r' : Int64) (_ : Unit) => r' = r) (fun _ : Unit => mC y aM M') 51 390 below args s) 7 (mC y aM M1) 11 110 [(0, .ref (aM 0)), (1, .long v14), (3, .int v15)] 68 [] := by
  intro fu
  induction fu with
  | zero => intro v14 v15 hf; rw [f3_digest_L68] at hf; cases hf
  | succ fu ih =>
    intro v14 v15 hf
    rw [f3_digest_L68] at hf
    refine x_iload_n (q := 69) C 2 dX3_digest_68 rfl rfl rfl ?_
    refine x_aload_n (q := 70) C 0 dX3_digest_69 rfl rfl rfl ?_
    refine x_get (q := 73) C 2 dX3_digest_70 (oX3 y aM M1) rfl iuX3_digest_X3 flX3_digest_45 rfl (by decide) rfl rfl ?_
    refine x_icmp_ge (t := 125) (q := 76) C dX3_digest_73 (by decide) rfl (fun hc => ?_) (fun hc => ?_)
    · have hf := (if_pos hc).symm.trans hf
      refine x_sub [0, 1] (L' := [(0, .ref (aM 0)), (1, .long v14)]) rfl ?_
      exact hK v14 hf
    · have hf := (if_neg hc).symm.trans hf
      refine x_iconst (q := 77) C dX3_digest_76 ki_0 rfl ?_
      refine x_istore (q := 79) C [1, 2, 3, 0] [(0, .ref (aM 0)), (1, .long v14), (3, .int v15), (4, .int 0)] dX3_digest_77 (by decide) rfl rfl ?_
      refine w3_digest_L79 C (fun v19 hf => ?_) xF v14 0 hf
      refine x_lload_n (q := 107) C 1 dX3_digest_106 rfl rfl rfl ?_
      refine x_ldc2 (q := 110) C dX3_digest_107 kX3_digest_171 rfl ?_
      refine x_lmul (q := 111) C dX3_digest_110 rfl ?_
      refine x_aload_n (q := 112) C 0 dX3_digest_111 rfl rfl rfl ?_
      refine x_iload_n (q := 113) C 2 dX3_digest_112 rfl rfl rfl ?_
      obtain ⟨v24, hcal25, hf⟩ := bd_some hf
      refine x_callVi (q := 116) C (c3_burns (l := l) (D := D) (y := y) (aM := aM) hcal25) yi_X3_burns gX3_digest_X3_burns rfl (oX3 y aM M1) rfl ⟨(Nat.le_of_ble_eq_true rfl), (Nat.le_of_ble_eq_true rfl)⟩ dX3_digest_113 pm_nil rfl rfl (Nat.le_of_ble_eq_true rfl) ⟨Nat.le_of_ble_eq_true rfl, Nat.le_of_ble_eq_true rfl⟩ rfl ?_
      intro rr26 uu hrr
      have hrr : v24 = rr26 := Eq.symm hrr
      subst hrr
      refine x_world (ws' := mC y aM M1) (List.append_nil _) ?_
      refine x_i2l (q := 117) C dX3_digest_116 rfl ?_
      refine x_ladd (q := 118) C dX3_digest_117 rfl ?_
      obtain ⟨v27, ev27, hf⟩ := lt_elim hf
      refine x_topl ev27 ?_
      refine x_lstore_n (q := 119) C [1, 0, 2] [(0, .ref (aM 0)), (1, .long v27), (3, .int v15)] dX3_digest_118 rfl (by decide) rfl rfl ?_
      refine x_iinc (q := 122) C 2 (v15 + 1) [1, 2, 0] [(0, .ref (aM 0)), (1, .long v27), (3, .int (v15 + 1))] dX3_digest_119 rfl (congrArg (fun z => v15 + z) ki_1) (by decide) rfl rfl ?_
      refine x_goto (t := 68) C dX3_digest_122 (by decide) ?_
      exact ih v27 (v15 + 1) hf
set_option maxHeartbeats 4000000 in
set_option maxRecDepth 100000 in
theorem w3_digest_L138 {p : Program} {l : Launch} {e : Env} {s : State} {m : MethodId} {args : Array Value} {below : List Frame} {meth : Method} {c : Code} {D : va_G} {A : Nat → Prop} {y : Nat → ClassId} {aM : Nat → Nat} {M1 : St} {v29 : Int32} {r : Int64} {M' : St} {K : Int64 → Option (Int64 × St)} (C : xC p s m args meth c D A cX3_digest RX3 7 wsX3_digest (xT y) (some .long)) (hK : ∀ (v33 : Int64), K v33 = some (r, M') → xV p l e { frames := 4, cells := 51, slots := 390, locals := 89 } s m args below meth c D A (xQl D (xT y) A (fun (r' : Int64) (_ : Unit) => r' = r) (fun _ : Unit => mC y aM M') 51 390 below args s) 7 (mC y aM M1) 11 110 [(0, .ref (aM 0)), (1, .long v33), (3, .int v29)] 166 []) : ∀ (fu : Nat) (v31 : Int64) (v32 : Int32), f3_digest_L138 v29 M1 K fu v31 v32 = some (r, M') → xV p l e { frames := 4, cells := 51, slots := 390, locals := 89 } s m args below meth c D A (xQl D (xT y) A (fun (r' : Int64) (_ : Unit) => r' = r) (fun _ : Unit => mC y aM M') 51 390 below args s) 7 (mC y aM M1) 11 110 [(0, .ref (aM 0)), (1, .long v31), (3, .int v29), (4, .int v32)] 138 [] := by
  intro fu
  induction fu with
  | zero => intro v31 v32 hf; rw [f3_digest_L138] at hf; cases hf
  | succ fu ih =>
    intro v31 v32 hf
    rw [f3_digest_L138] at hf
    refine x_iload (q := 140) C 3 dX3_digest_138 rfl rfl ?_
    refine x_bipush (q := 142) C dX3_digest_140 kb_9 rfl ?_
    refine x_icmp_ge (t := 166) (q := 145) C dX3_digest_142 (by decide) rfl (fun hc => ?_) (fun hc => ?_)
    · have hf := (if_pos hc).symm.trans hf
      refine x_sub [0, 1, 2] (L' := [(0, .ref (aM 0)), (1, .long v31), (3, .int v29)]) rfl ?_
      exact hK v31 hf
    · have hf := (if_neg hc).symm.trans hf
      refine x_lload_n (q := 146) C 1 dX3_digest_145 rfl rfl rfl ?_
      refine x_ldc2 (q := 149) C dX3_digest_146 kX3_digest_171 rfl ?_
      refine x_lmul (q := 150) C dX3_digest_149 rfl ?_
      refine x_aload_n (q := 151) C 0 dX3_digest_150 rfl rfl rfl ?_
      refine x_iload_n (q := 152) C 2 dX3_digest_151 rfl rfl rfl ?_
      refine x_iload (q := 154) C 3 dX3_digest_152 rfl rfl ?_
      obtain ⟨v34, hcal35, hf⟩ := bd_some hf
      refine x_callVi (q := 157) C (c3_lampTold (l := l) (D := D) (y := y) (aM := aM) hcal35) yi_X3_lampTold gX3_digest_X3_lampTold rfl (oX3 y aM M1) rfl ⟨(Nat.le_of_ble_eq_true rfl), (Nat.le_of_ble_eq_true rfl)⟩ dX3_digest_154 pm_nil rfl rfl (Nat.le_of_ble_eq_true rfl) ⟨Nat.le_of_ble_eq_true rfl, Nat.le_of_ble_eq_true rfl⟩ rfl ?_
      intro rr36 uu hrr
      have hrr : v34 = rr36 := Eq.symm hrr
      subst hrr
      refine x_world (ws' := mC y aM M1) (List.append_nil _) ?_
      refine x_i2l (q := 158) C dX3_digest_157 rfl ?_
      refine x_ladd (q := 159) C dX3_digest_158 rfl ?_
      obtain ⟨v37, ev37, hf⟩ := lt_elim hf
      refine x_topl ev37 ?_
      refine x_lstore_n (q := 160) C [1, 0, 2, 3] [(0, .ref (aM 0)), (1, .long v37), (3, .int v29), (4, .int v32)] dX3_digest_159 rfl (by decide) rfl rfl ?_
      refine x_iinc (q := 163) C 3 (v32 + 1) [1, 2, 3, 0] [(0, .ref (aM 0)), (1, .long v37), (3, .int v29), (4, .int (v32 + 1))] dX3_digest_160 rfl (congrArg (fun z => v32 + z) ki_1) (by decide) rfl rfl ?_
      refine x_goto (t := 138) C dX3_digest_163 (by decide) ?_
      exact ih v37 (v32 + 1) hf
set_option maxHeartbeats 4000000 in
set_option maxRecDepth 100000 in
theorem w3_digest_L127 {p : Program} {l : Launch} {e : Env} {s : State} {m : MethodId} {args : Array Value} {below : List Frame} {meth : Method} {c : Code} {D : va_G} {A : Nat → Prop} {y : Nat → ClassId} {aM : Nat → Nat} {M1 : St} {r : Int64} {M' : St} {K : Int64 → Option (Int64 × St)} (C : xC p s m args meth c D A cX3_digest RX3 7 wsX3_digest (xT y) (some .long)) (hK : ∀ (v30 : Int64), K v30 = some (r, M') → xV p l e { frames := 4, cells := 51, slots := 390, locals := 89 } s m args below meth c D A (xQl D (xT y) A (fun (r' : Int64) (_ : Unit) => r' = r) (fun _ : Unit => mC y aM M') 51 390 below args s) 7 (mC y aM M1) 11 110 [(0, .ref (aM 0)), (1, .long v30)] 172 []) : ∀ (fu : Nat) (v28 : Int64) (v29 : Int32), f3_digest_L127 M1 K fu v28 v29 = some (r, M') → xV p l e { frames := 4, cells := 51, slots := 390, locals := 89 } s m args below meth c D A (xQl D (xT y) A (fun (r' : Int64) (_ : Unit) => r' = r) (fun _ : Unit => mC y aM M') 51 390 below args s) 7 (mC y aM M1) 11 110 [(0, .ref (aM 0)), (1, .long v28), (3, .int v29)] 127 [] := by
  intro fu
  induction fu with
  | zero => intro v28 v29 hf; rw [f3_digest_L127] at hf; cases hf
  | succ fu ih =>
    intro v28 v29 hf
    rw [f3_digest_L127] at hf
    refine x_iload_n (q := 128) C 2 dX3_digest_127 rfl rfl rfl ?_
    refine x_aload_n (q := 129) C 0 dX3_digest_128 rfl rfl rfl ?_
    refine x_get (q := 132) C 3 dX3_digest_129 (oX3 y aM M1) rfl iuX3_digest_X3 flX3_digest_48 rfl (by decide) rfl rfl ?_
    refine x_icmp_ge (t := 172) (q := 135) C dX3_digest_132 (by decide) rfl (fun hc => ?_) (fun hc => ?_)
    · have hf := (if_pos hc).symm.trans hf
      refine x_sub [0, 1] (L' := [(0, .ref (aM 0)), (1, .long v28)]) rfl ?_
      exact hK v28 hf
    · have hf := (if_neg hc).symm.trans hf
      refine x_iconst (q := 136) C dX3_digest_135 ki_0 rfl ?_
      refine x_istore (q := 138) C [1, 2, 3, 0] [(0, .ref (aM 0)), (1, .long v28), (3, .int v29), (4, .int 0)] dX3_digest_136 (by decide) rfl rfl ?_
      refine w3_digest_L138 C (fun v33 hf => ?_) xF v28 0 hf
      refine x_iinc (q := 169) C 2 (v29 + 1) [1, 2, 0] [(0, .ref (aM 0)), (1, .long v33), (3, .int (v29 + 1))] dX3_digest_166 rfl (congrArg (fun z => v29 + z) ki_1) (by decide) rfl rfl ?_
      refine x_goto (t := 127) C dX3_digest_169 (by decide) ?_
      exact ih v33 (v29 + 1) hf
set_option maxHeartbeats 4000000 in
set_option maxRecDepth 100000 in
theorem w3_digest_L185 {p : Program} {l : Launch} {e : Env} {s : State} {m : MethodId} {args : Array Value} {below : List Frame} {meth : Method} {c : Code} {D : va_G} {A : Nat → Prop} {y : Nat → ClassId} {aM : Nat → Nat} {M1 : St} {v39 : Int32} {r : Int64} {M' : St} {K : Int64 → Option (Int64 × St)} (C : xC p s m args meth c D A cX3_digest RX3 7 wsX3_digest (xT y) (some .long)) {kX nX : Nat} (hm1 : kX ≤ 51) (hm2 : nX ≤ 390) (hK : ∀ (v43 : Int64), K v43 = some (r, M') → xV p l e { frames := 4, cells := 51, slots := 390, locals := 89 } s m args below meth c D A (xQl D (xT y) A (fun (r' : Int64) (_ : Unit) => r' = r) (fun _ : Unit => mC y aM M') 51 390 below args s) 7 (mC y aM M1) kX nX [(0, .ref (aM 0)), (1, .long v43), (3, .int v39)] 213 []) : ∀ (fu : Nat) (kk nn : Nat) (v41 : Int64) (v42 : Int32), kk + 1 * fu ≤ kX → nn + 7 * fu ≤ nX → f3_digest_L185 v39 M1 K fu v41 v42 = some (r, M') → xV p l e { frames := 4, cells := 51, slots := 390, locals := 89 } s m args below meth c D A (xQl D (xT y) A (fun (r' : Int64) (_ : Unit) => r' = r) (fun _ : Unit => mC y aM M') 51 390 below args s) 7 (mC y aM M1) kk nn [(0, .ref (aM 0)), (1, .long v41), (3, .int v39), (4, .int v42)] 185 [] := by
  intro fu
  induction fu with
  | zero => intro kk nn v41 v42 hb1 hb2 hf; rw [f3_digest_L185] at hf; cases hf
  | succ fu ih =>
    intro kk nn v41 v42 hb1 hb2 hf
    rw [f3_digest_L185] at hf
    refine x_iload (q := 187) C 3 dX3_digest_185 rfl rfl ?_
    refine x_bipush (q := 189) C dX3_digest_187 kb_7 rfl ?_
    refine x_icmp_ge (t := 213) (q := 192) C dX3_digest_189 (by decide) rfl (fun hc => ?_) (fun hc => ?_)
    · have hf := (if_pos hc).symm.trans hf
      refine x_sub [0, 1, 2] (L' := [(0, .ref (aM 0)), (1, .long v41), (3, .int v39)]) rfl ?_
      refine x_widen (k' := kX) (n' := nX) (by omega) (by omega) ?_
      exact hK v41 hf
    · have hf := (if_neg hc).symm.trans hf
      refine x_lload_n (q := 193) C 1 dX3_digest_192 rfl rfl rfl ?_
      refine x_ldc2 (q := 196) C dX3_digest_193 kX3_digest_171 rfl ?_
      refine x_lmul (q := 197) C dX3_digest_196 rfl ?_
      refine x_aload_n (q := 198) C 0 dX3_digest_197 rfl rfl rfl ?_
      refine x_iload_n (q := 199) C 2 dX3_digest_198 rfl rfl rfl ?_
      refine x_iload (q := 201) C 3 dX3_digest_199 rfl rfl ?_
      obtain ⟨v44, hcal45, hf⟩ := bd_some hf
      refine x_callVi (q := 204) C (c3_lighterTold (l := l) (D := D) (y := y) (aM := aM) hcal45) yi_X3_lighterTold gX3_digest_X3_lighterTold rfl (oX3 y aM M1) rfl ⟨(Nat.le_of_ble_eq_true rfl), (Nat.le_of_ble_eq_true rfl)⟩ dX3_digest_201 pm_nil rfl rfl (Nat.le_of_ble_eq_true rfl) ⟨by dsimp only; omega, by dsimp only; omega⟩ rfl ?_
      intro rr46 uu hrr
      have hrr : v44 = rr46 := Eq.symm hrr
      subst hrr
      refine x_world (ws' := mC y aM M1) (List.append_nil _) ?_
      refine x_i2l (q := 205) C dX3_digest_204 rfl ?_
      refine x_ladd (q := 206) C dX3_digest_205 rfl ?_
      obtain ⟨v47, ev47, hf⟩ := lt_elim hf
      refine x_topl ev47 ?_
      refine x_lstore_n (q := 207) C [1, 0, 2, 3] [(0, .ref (aM 0)), (1, .long v47), (3, .int v39), (4, .int v42)] dX3_digest_206 rfl (by decide) rfl rfl ?_
      refine x_iinc (q := 210) C 3 (v42 + 1) [1, 2, 3, 0] [(0, .ref (aM 0)), (1, .long v47), (3, .int v39), (4, .int (v42 + 1))] dX3_digest_207 rfl (congrArg (fun z => v42 + z) ki_1) (by decide) rfl rfl ?_
      refine x_goto (t := 185) C dX3_digest_210 (by decide) ?_
      exact ih (kk + 1) (nn + 7) v47 (v42 + 1) (by omega) (by omega) hf
set_option maxHeartbeats 4000000 in
set_option maxRecDepth 100000 in
theorem w3_digest_L216 {p : Program} {l : Launch} {e : Env} {s : State} {m : MethodId} {args : Array Value} {below : List Frame} {meth : Method} {c : Code} {D : va_G} {A : Nat → Prop} {y : Nat → ClassId} {aM : Nat → Nat} {M1 : St} {v39 : Int32} {r : Int64} {M' : St} {K : Int64 → Option (Int64 × St)} (C : xC p s m args meth c D A cX3_digest RX3 7 wsX3_digest (xT y) (some .long)) {k0_ n0_ : Nat} (hg1 : k0_ ≤ 51) (hg2 : n0_ ≤ 390) (hK : ∀ (v50 : Int64), K v50 = some (r, M') → xV p l e { frames := 4, cells := 51, slots := 390, locals := 89 } s m args below meth c D A (xQl D (xT y) A (fun (r' : Int64) (_ : Unit) => r' = r) (fun _ : Unit => mC y aM M') 51 390 below args s) 7 (mC y aM M1) k0_ n0_ [(0, .ref (aM 0)), (1, .long v50), (3, .int v39)] 253 []) : ∀ (fu : Nat) (v48 : Int64) (v49 : Int32), f3_digest_L216 v39 M1 K fu v48 v49 = some (r, M') → xV p l e { frames := 4, cells := 51, slots := 390, locals := 89 } s m args below meth c D A (xQl D (xT y) A (fun (r' : Int64) (_ : Unit) => r' = r) (fun _ : Unit => mC y aM M') 51 390 below args s) 7 (mC y aM M1) k0_ n0_ [(0, .ref (aM 0)), (1, .long v48), (3, .int v39), (4, .int v49)] 216 [] := by
  intro fu
  induction fu with
  | zero => intro v48 v49 hf; rw [f3_digest_L216] at hf; cases hf
  | succ fu ih =>
    intro v48 v49 hf
    rw [f3_digest_L216] at hf
    refine x_iload (q := 218) C 3 dX3_digest_216 rfl rfl ?_
    refine x_aload_n (q := 219) C 0 dX3_digest_218 rfl rfl rfl ?_
    refine x_iload_n (q := 220) C 2 dX3_digest_219 rfl rfl rfl ?_
    refine x_iconst (q := 221) C dX3_digest_220 ki_4 rfl ?_
    obtain ⟨v51, hcal52, hf⟩ := bd_some hf
    refine x_callVi (q := 224) C (c3_pe (l := l) (D := D) (y := y) (aM := aM) hcal52) yi_X3_pe gX3_digest_X3_pe rfl (oX3 y aM M1) rfl ⟨(Nat.le_of_ble_eq_true rfl), (Nat.le_of_ble_eq_true rfl)⟩ dX3_digest_221 pm_nil rfl rfl (Nat.le_of_ble_eq_true rfl) ⟨by dsimp only; omega, by dsimp only; omega⟩ rfl ?_
    intro rr53 uu hrr
    have hrr : v51 = rr53 := Eq.symm hrr
    subst hrr
    refine x_world (ws' := mC y aM M1) (List.append_nil _) ?_
    refine x_icmp_ge (t := 253) (q := 227) C dX3_digest_224 (by decide) rfl (fun hc => ?_) (fun hc => ?_)
    · have hf := (if_pos hc).symm.trans hf
      refine x_sub [0, 1, 2] (L' := [(0, .ref (aM 0)), (1, .long v48), (3, .int v39)]) rfl ?_
      exact hK v48 hf
    · have hf := (if_neg hc).symm.trans hf
      refine x_lload_n (q := 228) C 1 dX3_digest_227 rfl rfl rfl ?_
      refine x_ldc2 (q := 231) C dX3_digest_228 kX3_digest_171 rfl ?_
      refine x_lmul (q := 232) C dX3_digest_231 rfl ?_
      refine x_aload_n (q := 233) C 0 dX3_digest_232 rfl rfl rfl ?_
      refine x_get (q := 236) C 10 dX3_digest_233 (oX3 y aM M1) rfl iuX3_digest_X3 flX3_digest_25 rfl (by decide) rfl rfl ?_
      refine x_bipush (q := 238) C dX3_digest_236 kb_10 rfl ?_
      refine x_iload_n (q := 239) C 2 dX3_digest_238 rfl rfl rfl ?_
      refine x_imul (q := 240) C dX3_digest_239 rfl ?_
      refine x_iload (q := 242) C 3 dX3_digest_240 rfl rfl ?_
      refine x_iadd (q := 243) C dX3_digest_242 rfl ?_
      obtain ⟨hb54, hf⟩ := gd_some hf
      refine x_iald (q := 244) C 0 dX3_digest_243 (aX3_10 y aM M1) rfl hb54 rfl ?_
      refine x_i2l (q := 245) C dX3_digest_244 rfl ?_
      refine x_ladd (q := 246) C dX3_digest_245 rfl ?_
      obtain ⟨v55, ev55, hf⟩ := lt_elim hf
      refine x_topl ev55 ?_
      refine x_lstore_n (q := 247) C [1, 0, 2, 3] [(0, .ref (aM 0)), (1, .long v55), (3, .int v39), (4, .int v49)] dX3_digest_246 rfl (by decide) rfl rfl ?_
      refine x_iinc (q := 250) C 3 (v49 + 1) [1, 2, 3, 0] [(0, .ref (aM 0)), (1, .long v55), (3, .int v39), (4, .int (v49 + 1))] dX3_digest_247 rfl (congrArg (fun z => v49 + z) ki_1) (by decide) rfl rfl ?_
      refine x_goto (t := 216) C dX3_digest_250 (by decide) ?_
      exact ih v55 (v49 + 1) hf
set_option maxHeartbeats 4000000 in
set_option maxRecDepth 100000 in
theorem w3_digest_L174 {p : Program} {l : Launch} {e : Env} {s : State} {m : MethodId} {args : Array Value} {below : List Frame} {meth : Method} {c : Code} {D : va_G} {A : Nat → Prop} {y : Nat → ClassId} {aM : Nat → Nat} {M1 : St} {r : Int64} {M' : St} {K : Int64 → Option (Int64 × St)} (C : xC p s m args meth c D A cX3_digest RX3 7 wsX3_digest (xT y) (some .long)) {kX nX : Nat} (hm1 : kX ≤ 51) (hm2 : nX ≤ 390) (hK : ∀ (v40 : Int64), K v40 = some (r, M') → xV p l e { frames := 4, cells := 51, slots := 390, locals := 89 } s m args below meth c D A (xQl D (xT y) A (fun (r' : Int64) (_ : Unit) => r' = r) (fun _ : Unit => mC y aM M') 51 390 below args s) 7 (mC y aM M1) kX nX [(0, .ref (aM 0)), (1, .long v40)] 259 []) : ∀ (fu : Nat) (kk nn : Nat) (v38 : Int64) (v39 : Int32), kk + 8 * fu ≤ kX → nn + 56 * fu ≤ nX → f3_digest_L174 M1 K fu v38 v39 = some (r, M') → xV p l e { frames := 4, cells := 51, slots := 390, locals := 89 } s m args below meth c D A (xQl D (xT y) A (fun (r' : Int64) (_ : Unit) => r' = r) (fun _ : Unit => mC y aM M') 51 390 below args s) 7 (mC y aM M1) kk nn [(0, .ref (aM 0)), (1, .long v38), (3, .int v39)] 174 [] := by
  intro fu
  induction fu with
  | zero => intro kk nn v38 v39 hb1 hb2 hf; rw [f3_digest_L174] at hf; cases hf
  | succ fu ih =>
    intro kk nn v38 v39 hb1 hb2 hf
    rw [f3_digest_L174] at hf
    refine x_iload_n (q := 175) C 2 dX3_digest_174 rfl rfl rfl ?_
    refine x_aload_n (q := 176) C 0 dX3_digest_175 rfl rfl rfl ?_
    refine x_get (q := 179) C 4 dX3_digest_176 (oX3 y aM M1) rfl iuX3_digest_X3 flX3_digest_51 rfl (by decide) rfl rfl ?_
    refine x_icmp_ge (t := 259) (q := 182) C dX3_digest_179 (by decide) rfl (fun hc => ?_) (fun hc => ?_)
    · have hf := (if_pos hc).symm.trans hf
      refine x_sub [0, 1] (L' := [(0, .ref (aM 0)), (1, .long v38)]) rfl ?_
      refine x_widen (k' := kX) (n' := nX) (by omega) (by omega) ?_
      exact hK v38 hf
    · have hf := (if_neg hc).symm.trans hf
      refine x_iconst (q := 183) C dX3_digest_182 ki_0 rfl ?_
      refine x_istore (q := 185) C [1, 2, 3, 0] [(0, .ref (aM 0)), (1, .long v38), (3, .int v39), (4, .int 0)] dX3_digest_183 (by decide) rfl rfl ?_
      refine w3_digest_L185 C (kX := kk + 8) (nX := nn + 56) (by omega) (by omega) (fun v43 hf => ?_) xF8 kk nn v38 0 (by unfold xF8; omega) (by unfold xF8; omega) hf
      refine x_iconst (q := 214) C dX3_digest_213 ki_0 rfl ?_
      refine x_istore (q := 216) C [1, 2, 3, 0] [(0, .ref (aM 0)), (1, .long v43), (3, .int v39), (4, .int 0)] dX3_digest_214 (by decide) rfl rfl ?_
      refine w3_digest_L216 C (by omega) (by omega) (fun v50 hf => ?_) xF v43 0 hf
      refine x_iinc (q := 256) C 2 (v39 + 1) [1, 2, 0] [(0, .ref (aM 0)), (1, .long v50), (3, .int (v39 + 1))] dX3_digest_253 rfl (congrArg (fun z => v39 + z) ki_1) (by decide) rfl rfl ?_
      refine x_goto (t := 174) C dX3_digest_256 (by decide) ?_
      exact ih (kk + 8) (nn + 56) v50 (v39 + 1) (by omega) (by omega) hf
set_option maxHeartbeats 4000000 in
set_option maxRecDepth 100000 in
theorem w3_digest_L271 {p : Program} {l : Launch} {e : Env} {s : State} {m : MethodId} {args : Array Value} {below : List Frame} {meth : Method} {c : Code} {D : va_G} {A : Nat → Prop} {y : Nat → ClassId} {aM : Nat → Nat} {M1 : St} {r : Int64} {M' : St} (C : xC p s m args meth c D A cX3_digest RX3 7 wsX3_digest (xT y) (some .long)) : ∀ (fu : Nat) (v56 : Int64) (v57 : Int32), f3_digest_L271 M1 fu v56 v57 = some (r, M') → xV p l e { frames := 4, cells := 51, slots := 390, locals := 89 } s m args below meth c D A (xQl D (xT y) A (fun (r' : Int64) (_ : Unit) => r' = r) (fun _ : Unit => mC y aM M') 51 390 below args s) 7 (mC y aM M1) 51 390 [(1, .long v56), (3, .ref (aM 11)), (4, .int 10), (5, .int v57)] 271 [] := by
  intro fu
  induction fu with
  | zero => intro v56 v57 hf; rw [f3_digest_L271] at hf; cases hf
  | succ fu ih =>
    intro v56 v57 hf
    rw [f3_digest_L271] at hf
    refine x_iload (q := 273) C 3 dX3_digest_271 rfl rfl ?_
    refine x_iload (q := 275) C 2 dX3_digest_273 rfl rfl ?_
    refine x_icmp_ge (t := 300) (q := 278) C dX3_digest_275 (by decide) rfl (fun hc => ?_) (fun hc => ?_)
    · have hf := (if_pos hc).symm.trans hf
      refine x_lload_n (q := 301) C 0 dX3_digest_300 rfl rfl rfl ?_
      have hf := Option.some.inj hf
      obtain ⟨hr0, hr1⟩ := Prod.mk.inj hf
      exact x_lret () C dX3_digest_301 rfl hr0 (congrArg (fun z => mC y aM z) hr1) (Nat.le_of_ble_eq_true rfl) (Nat.le_of_ble_eq_true rfl)
    · have hf := (if_neg hc).symm.trans hf
      refine x_aload_n (q := 279) C 1 dX3_digest_278 rfl rfl rfl ?_
      refine x_iload (q := 281) C 3 dX3_digest_279 rfl rfl ?_
      obtain ⟨hb58, hf⟩ := gd_some hf
      refine x_iald (q := 282) C 0 dX3_digest_281 (aX3_11 y aM M1) rfl hb58 rfl ?_
      obtain ⟨v59, ev59, hf⟩ := lt_elim hf
      refine x_topi ev59 ?_
      refine x_istore (q := 284) C [1, 2, 3, 4, 0] [(1, .long v56), (3, .ref (aM 11)), (4, .int 10), (5, .int v57), (6, .int v59)] dX3_digest_282 (by decide) rfl rfl ?_
      refine x_lload_n (q := 285) C 0 dX3_digest_284 rfl rfl rfl ?_
      refine x_ldc2 (q := 288) C dX3_digest_285 kX3_digest_171 rfl ?_
      refine x_lmul (q := 289) C dX3_digest_288 rfl ?_
      refine x_iload (q := 291) C 4 dX3_digest_289 rfl rfl ?_
      refine x_i2l (q := 292) C dX3_digest_291 rfl ?_
      refine x_ladd (q := 293) C dX3_digest_292 rfl ?_
      obtain ⟨v60, ev60, hf⟩ := lt_elim hf
      refine x_topl ev60 ?_
      refine x_lstore_n (q := 294) C [0, 1, 2, 3] [(1, .long v60), (3, .ref (aM 11)), (4, .int 10), (5, .int v57)] dX3_digest_293 rfl (by decide) rfl rfl ?_
      refine x_iinc (q := 297) C 3 (v57 + 1) [1, 2, 3, 0] [(1, .long v60), (3, .ref (aM 11)), (4, .int 10), (5, .int (v57 + 1))] dX3_digest_294 rfl (congrArg (fun z => v57 + z) ki_1) (by decide) rfl rfl ?_
      refine x_goto (t := 271) C dX3_digest_297 (by decide) ?_
      exact ih v60 (v57 + 1) hf
set_option maxHeartbeats 4000000 in
set_option maxRecDepth 100000 in
theorem c3_digest {l : Launch} {D : va_G} {y : Nat → ClassId} {aM : Nat → Nat} {M : St} {r : Int64} {M' : St} (hf : f3_digest M = some (r, M')) : xMl l yX3_digest wsX3_digest 4 89 51 390 D (xT y) [.ref (aM 0)] (mC y aM M) (fun (r' : Int64) (_ : Unit) => r' = r) (fun _ : Unit => mC y aM M') := by
  refine xMl_of (cc := cX3_digest) (nL := 7) (ret := (some .long)) [(0, .ref (aM 0))] (by decide) rfl (Nat.le_of_ble_eq_true rfl) rfl ?_
  intro p e s m args below meth c A C hin
  have C : xC p s m args meth c D A cX3_digest RX3 7 wsX3_digest (xT y) (some .long) := C
  unfold f3_digest at hf
  refine x_aload_n (q := 1) C 0 dX3_digest_0 rfl rfl rfl ?_
  refine x_iconst (q := 2) C dX3_digest_1 ki_0 rfl ?_
  obtain ⟨M1, eM1, hf⟩ := lt_elim hf
  refine x_puti (q := 5) (ws' := mC y aM M1) C tyX3 tyX3_ok nmX3 dX3_digest_2 (iX3_0 y aM M) rfl iuX3_digest_X3 flX3_digest_34 rfl (by decide) rfl rfl (congrArg (fun z => mC y aM z) eM1.symm) rfl ?_
  refine x_ldc2 (q := 8) C dX3_digest_5 kX3_digest_169 rfl ?_
  refine x_lstore_n (q := 9) C [1, 0] [(0, .ref (aM 0)), (1, .long 941)] dX3_digest_8 rfl (by decide) rfl rfl ?_
  refine x_iconst (q := 10) C dX3_digest_9 ki_0 rfl ?_
  refine x_istore_n (q := 11) C [1, 2, 0] [(0, .ref (aM 0)), (1, .long 941), (3, .int 0)] dX3_digest_10 rfl (by decide) rfl rfl ?_
  refine w3_digest_L11 C (kX := 11) (nX := 110) (by decide) (by decide) (fun v4 hf => ?_) xF11 0 0 941 0 (by unfold xF11; omega) (by unfold xF11; omega) hf
  refine x_iconst (q := 37) C dX3_digest_36 ki_0 rfl ?_
  refine x_istore_n (q := 38) C [1, 2, 0] [(0, .ref (aM 0)), (1, .long v4), (3, .int 0)] dX3_digest_37 rfl (by decide) rfl rfl ?_
  refine w3_digest_L38 C (fun v11 hf => ?_) xF v4 0 hf
  refine x_iconst (q := 67) C dX3_digest_66 ki_0 rfl ?_
  refine x_istore_n (q := 68) C [1, 2, 0] [(0, .ref (aM 0)), (1, .long v11), (3, .int 0)] dX3_digest_67 rfl (by decide) rfl rfl ?_
  refine w3_digest_L68 C (fun v16 hf => ?_) xF v11 0 hf
  refine x_iconst (q := 126) C dX3_digest_125 ki_0 rfl ?_
  refine x_istore_n (q := 127) C [1, 2, 0] [(0, .ref (aM 0)), (1, .long v16), (3, .int 0)] dX3_digest_126 rfl (by decide) rfl rfl ?_
  refine w3_digest_L127 C (fun v30 hf => ?_) xF v16 0 hf
  refine x_iconst (q := 173) C dX3_digest_172 ki_0 rfl ?_
  refine x_istore_n (q := 174) C [1, 2, 0] [(0, .ref (aM 0)), (1, .long v30), (3, .int 0)] dX3_digest_173 rfl (by decide) rfl rfl ?_
  refine w3_digest_L174 C (kX := 51) (nX := 390) (by decide) (by decide) (fun v40 hf => ?_) xF5 11 110 v30 0 (by unfold xF5; omega) (by unfold xF5; omega) hf
  refine x_aload_n (q := 260) C 0 dX3_digest_259 rfl rfl rfl ?_
  refine x_get (q := 263) C 11 dX3_digest_260 (oX3 y aM M1) rfl iuX3_digest_X3 flX3_digest_28 rfl (by decide) rfl rfl ?_
  refine x_astore_n (q := 264) C [2, 0] [(1, .long v40), (3, .ref (aM 11))] dX3_digest_263 rfl (by decide) rfl rfl ?_
  refine x_aload_n (q := 265) C 1 dX3_digest_264 rfl rfl rfl ?_
  refine x_alen (q := 266) (v := 10) C 0 dX3_digest_265 (aX3_11 y aM M1) rfl (by decide) rfl ?_
  refine x_istore (q := 268) C [1, 2, 0] [(1, .long v40), (3, .ref (aM 11)), (4, .int 10)] dX3_digest_266 (by decide) rfl rfl ?_
  refine x_iconst (q := 269) C dX3_digest_268 ki_0 rfl ?_
  refine x_istore (q := 271) C [1, 2, 3, 0] [(1, .long v40), (3, .ref (aM 11)), (4, .int 10), (5, .int 0)] dX3_digest_269 (by decide) rfl rfl ?_
  exact w3_digest_L271 C xF v40 0 hf
