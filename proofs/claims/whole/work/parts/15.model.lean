/-! LampHillsModel.lighterTold(II)I -/
theorem knX3_lighterTold : Cond.arrayClass .int ∈ wsX3_lighterTold := by decide +kernel
def f3_lighterTold (M : St) (p1 : Int32) (p2 : Int32) : Option (Int32) :=
  bd (f3_pe M p1 1) fun v2 =>
  lt_ (upd ((fun _ => 0)) (0 : Int32).toNatClampNeg v2) fun f6 =>
  bd (f3_pe M p1 2) fun v7 =>
  lt_ (upd f6 (1 : Int32).toNatClampNeg v7) fun f11 =>
  bd (f3_pe M p1 3) fun v12 =>
  lt_ (upd f11 (2 : Int32).toNatClampNeg v12) fun f16 =>
  bd (f3_pe M p1 4) fun v17 =>
  lt_ (upd f16 (3 : Int32).toNatClampNeg v17) fun f21 =>
  bd (f3_pe M p1 5) fun v22 =>
  lt_ (upd f21 (4 : Int32).toNatClampNeg v22) fun f26 =>
  bd (f3_pe M p1 6) fun v27 =>
  lt_ (upd f26 (5 : Int32).toNatClampNeg v27) fun f31 =>
  bd (f3_pe M p1 9) fun v32 =>
  lt_ (upd f31 (6 : Int32).toNatClampNeg v32) fun f36 =>
  gd (xin p2 7) <|
  some (f36 p2.toNatClampNeg)
set_option maxHeartbeats 4000000 in
set_option maxRecDepth 100000 in
theorem c3_lighterTold {l : Launch} {D : va_G} {y : Nat → ClassId} {aM : Nat → Nat} {M : St} {p1 : Int32} {p2 : Int32} {r : Int32} (hf : f3_lighterTold M p1 p2 = some r) : xMi l yX3_lighterTold wsX3_lighterTold 1 22 1 7 D (xT y) [.ref (aM 0), .int p1, .int p2] (mC y aM M) (fun (r' : Int32) (_ : Unit) => r' = r) (fun _ : Unit => mC y aM M) := by
  refine xMi_of (cc := cX3_lighterTold) (nL := 4) (ret := (some .int)) [(0, .ref (aM 0)), (1, .int p1), (2, .int p2)] (by decide) rfl (Nat.le_of_ble_eq_true rfl) rfl ?_
  intro p e s m args below meth c A C hin
  have C : xC p s m args meth c D A cX3_lighterTold RX3 4 wsX3_lighterTold (xT y) (some .int) := C
  unfold f3_lighterTold at hf
  refine x_bipush (q := 2) C dX3_lighterTold_0 kb_7 rfl ?_
  refine x_newa (q := 4) C 7 dX3_lighterTold_2 knX3_lighterTold rfl (by decide) (by decide) (by decide) (Nat.le_of_ble_eq_true rfl) (Nat.le_of_ble_eq_true rfl) rfl (fun q1 => ?_)
  refine x_world (ws' := mC y aM M ++ zC y q1 7 (fun _ => 0)) rfl ?_
  refine x_widen (k' := 1) (n' := 7) (Nat.le_of_ble_eq_true rfl) (Nat.le_of_ble_eq_true rfl) ?_
  refine x_dup (q := 5) C dX3_lighterTold_4 rfl rfl ?_
  refine x_iconst (q := 6) C dX3_lighterTold_5 ki_0 rfl ?_
  refine x_aload_n (q := 7) C 0 dX3_lighterTold_6 rfl rfl rfl ?_
  refine x_iload_n (q := 8) C 1 dX3_lighterTold_7 rfl rfl rfl ?_
  refine x_iconst (q := 9) C dX3_lighterTold_8 ki_1 rfl ?_
  obtain ⟨v2, hcal3, hf⟩ := bd_some hf
  refine x_callVi (q := 12) C (c3_pe (l := l) (D := D) (y := y) (aM := aM) hcal3) yi_X3_pe gX3_lighterTold_X3_pe rfl (oX3 y aM M) rfl ⟨(Nat.le_of_ble_eq_true rfl), (Nat.le_of_ble_eq_true rfl)⟩ dX3_lighterTold_9 (pm2_0 _ _) rfl rfl (Nat.le_of_ble_eq_true rfl) ⟨Nat.le_of_ble_eq_true rfl, Nat.le_of_ble_eq_true rfl⟩ rfl ?_
  intro rr4 uu hrr
  have hrr : v2 = rr4 := Eq.symm hrr
  subst hrr
  refine x_perm (ws' := mC y aM M ++ zC y q1 7 (fun _ => 0)) (pm2_0 _ _).symm ?_
  have hb5 : xin 0 7 = true := by decide
  obtain ⟨f6, ef6, hf⟩ := lt_elim hf
  refine x_iast (q := 13) (ws' := mC y aM M ++ zC y q1 7 f6) C 0 dX3_lighterTold_12 ((zA y q1 7 (fun _ => 0)).R) rfl hb5 (congrArg (fun z => mC y aM M ++ zC y q1 7 z) ef6.symm) rfl ?_
  refine x_dup (q := 14) C dX3_lighterTold_13 rfl rfl ?_
  refine x_iconst (q := 15) C dX3_lighterTold_14 ki_1 rfl ?_
  refine x_aload_n (q := 16) C 0 dX3_lighterTold_15 rfl rfl rfl ?_
  refine x_iload_n (q := 17) C 1 dX3_lighterTold_16 rfl rfl rfl ?_
  refine x_iconst (q := 18) C dX3_lighterTold_17 ki_2 rfl ?_
  obtain ⟨v7, hcal8, hf⟩ := bd_some hf
  refine x_callVi (q := 21) C (c3_pe (l := l) (D := D) (y := y) (aM := aM) hcal8) yi_X3_pe gX3_lighterTold_X3_pe rfl (oX3 y aM M) rfl ⟨(Nat.le_of_ble_eq_true rfl), (Nat.le_of_ble_eq_true rfl)⟩ dX3_lighterTold_18 (pm2_0 _ _) rfl rfl (Nat.le_of_ble_eq_true rfl) ⟨Nat.le_of_ble_eq_true rfl, Nat.le_of_ble_eq_true rfl⟩ rfl ?_
  intro rr9 uu hrr
  have hrr : v7 = rr9 := Eq.symm hrr
  subst hrr
  refine x_perm (ws' := mC y aM M ++ zC y q1 7 f6) (pm2_0 _ _).symm ?_
  have hb10 : xin 1 7 = true := by decide
  obtain ⟨f11, ef11, hf⟩ := lt_elim hf
  refine x_iast (q := 22) (ws' := mC y aM M ++ zC y q1 7 f11) C 0 dX3_lighterTold_21 ((zA y q1 7 f6).R) rfl hb10 (congrArg (fun z => mC y aM M ++ zC y q1 7 z) ef11.symm) rfl ?_
  refine x_dup (q := 23) C dX3_lighterTold_22 rfl rfl ?_
  refine x_iconst (q := 24) C dX3_lighterTold_23 ki_2 rfl ?_
  refine x_aload_n (q := 25) C 0 dX3_lighterTold_24 rfl rfl rfl ?_
  refine x_iload_n (q := 26) C 1 dX3_lighterTold_25 rfl rfl rfl ?_
  refine x_iconst (q := 27) C dX3_lighterTold_26 ki_3 rfl ?_
  obtain ⟨v12, hcal13, hf⟩ := bd_some hf
  refine x_callVi (q := 30) C (c3_pe (l := l) (D := D) (y := y) (aM := aM) hcal13) yi_X3_pe gX3_lighterTold_X3_pe rfl (oX3 y aM M) rfl ⟨(Nat.le_of_ble_eq_true rfl), (Nat.le_of_ble_eq_true rfl)⟩ dX3_lighterTold_27 (pm2_0 _ _) rfl rfl (Nat.le_of_ble_eq_true rfl) ⟨Nat.le_of_ble_eq_true rfl, Nat.le_of_ble_eq_true rfl⟩ rfl ?_
  intro rr14 uu hrr
  have hrr : v12 = rr14 := Eq.symm hrr
  subst hrr
  refine x_perm (ws' := mC y aM M ++ zC y q1 7 f11) (pm2_0 _ _).symm ?_
  have hb15 : xin 2 7 = true := by decide
  obtain ⟨f16, ef16, hf⟩ := lt_elim hf
  refine x_iast (q := 31) (ws' := mC y aM M ++ zC y q1 7 f16) C 0 dX3_lighterTold_30 ((zA y q1 7 f11).R) rfl hb15 (congrArg (fun z => mC y aM M ++ zC y q1 7 z) ef16.symm) rfl ?_
  refine x_dup (q := 32) C dX3_lighterTold_31 rfl rfl ?_
  refine x_iconst (q := 33) C dX3_lighterTold_32 ki_3 rfl ?_
  refine x_aload_n (q := 34) C 0 dX3_lighterTold_33 rfl rfl rfl ?_
  refine x_iload_n (q := 35) C 1 dX3_lighterTold_34 rfl rfl rfl ?_
  refine x_iconst (q := 36) C dX3_lighterTold_35 ki_4 rfl ?_
  obtain ⟨v17, hcal18, hf⟩ := bd_some hf
  refine x_callVi (q := 39) C (c3_pe (l := l) (D := D) (y := y) (aM := aM) hcal18) yi_X3_pe gX3_lighterTold_X3_pe rfl (oX3 y aM M) rfl ⟨(Nat.le_of_ble_eq_true rfl), (Nat.le_of_ble_eq_true rfl)⟩ dX3_lighterTold_36 (pm2_0 _ _) rfl rfl (Nat.le_of_ble_eq_true rfl) ⟨Nat.le_of_ble_eq_true rfl, Nat.le_of_ble_eq_true rfl⟩ rfl ?_
  intro rr19 uu hrr
  have hrr : v17 = rr19 := Eq.symm hrr
  subst hrr
  refine x_perm (ws' := mC y aM M ++ zC y q1 7 f16) (pm2_0 _ _).symm ?_
  have hb20 : xin 3 7 = true := by decide
  obtain ⟨f21, ef21, hf⟩ := lt_elim hf
  refine x_iast (q := 40) (ws' := mC y aM M ++ zC y q1 7 f21) C 0 dX3_lighterTold_39 ((zA y q1 7 f16).R) rfl hb20 (congrArg (fun z => mC y aM M ++ zC y q1 7 z) ef21.symm) rfl ?_
  refine x_dup (q := 41) C dX3_lighterTold_40 rfl rfl ?_
  refine x_iconst (q := 42) C dX3_lighterTold_41 ki_4 rfl ?_
  refine x_aload_n (q := 43) C 0 dX3_lighterTold_42 rfl rfl rfl ?_
  refine x_iload_n (q := 44) C 1 dX3_lighterTold_43 rfl rfl rfl ?_
  refine x_iconst (q := 45) C dX3_lighterTold_44 ki_5 rfl ?_
  obtain ⟨v22, hcal23, hf⟩ := bd_some hf
  refine x_callVi (q := 48) C (c3_pe (l := l) (D := D) (y := y) (aM := aM) hcal23) yi_X3_pe gX3_lighterTold_X3_pe rfl (oX3 y aM M) rfl ⟨(Nat.le_of_ble_eq_true rfl), (Nat.le_of_ble_eq_true rfl)⟩ dX3_lighterTold_45 (pm2_0 _ _) rfl rfl (Nat.le_of_ble_eq_true rfl) ⟨Nat.le_of_ble_eq_true rfl, Nat.le_of_ble_eq_true rfl⟩ rfl ?_
  intro rr24 uu hrr
  have hrr : v22 = rr24 := Eq.symm hrr
  subst hrr
  refine x_perm (ws' := mC y aM M ++ zC y q1 7 f21) (pm2_0 _ _).symm ?_
  have hb25 : xin 4 7 = true := by decide
  obtain ⟨f26, ef26, hf⟩ := lt_elim hf
  refine x_iast (q := 49) (ws' := mC y aM M ++ zC y q1 7 f26) C 0 dX3_lighterTold_48 ((zA y q1 7 f21).R) rfl hb25 (congrArg (fun z => mC y aM M ++ zC y q1 7 z) ef26.symm) rfl ?_
  refine x_dup (q := 50) C dX3_lighterTold_49 rfl rfl ?_
  refine x_iconst (q := 51) C dX3_lighterTold_50 ki_5 rfl ?_
  refine x_aload_n (q := 52) C 0 dX3_lighterTold_51 rfl rfl rfl ?_
  refine x_iload_n (q := 53) C 1 dX3_lighterTold_52 rfl rfl rfl ?_
  refine x_bipush (q := 55) C dX3_lighterTold_53 kb_6 rfl ?_
  obtain ⟨v27, hcal28, hf⟩ := bd_some hf
  refine x_callVi (q := 58) C (c3_pe (l := l) (D := D) (y := y) (aM := aM) hcal28) yi_X3_pe gX3_lighterTold_X3_pe rfl (oX3 y aM M) rfl ⟨(Nat.le_of_ble_eq_true rfl), (Nat.le_of_ble_eq_true rfl)⟩ dX3_lighterTold_55 (pm2_0 _ _) rfl rfl (Nat.le_of_ble_eq_true rfl) ⟨Nat.le_of_ble_eq_true rfl, Nat.le_of_ble_eq_true rfl⟩ rfl ?_
  intro rr29 uu hrr
  have hrr : v27 = rr29 := Eq.symm hrr
  subst hrr
  refine x_perm (ws' := mC y aM M ++ zC y q1 7 f26) (pm2_0 _ _).symm ?_
  have hb30 : xin 5 7 = true := by decide
  obtain ⟨f31, ef31, hf⟩ := lt_elim hf
  refine x_iast (q := 59) (ws' := mC y aM M ++ zC y q1 7 f31) C 0 dX3_lighterTold_58 ((zA y q1 7 f26).R) rfl hb30 (congrArg (fun z => mC y aM M ++ zC y q1 7 z) ef31.symm) rfl ?_
  refine x_dup (q := 60) C dX3_lighterTold_59 rfl rfl ?_
  refine x_bipush (q := 62) C dX3_lighterTold_60 kb_6 rfl ?_
  refine x_aload_n (q := 63) C 0 dX3_lighterTold_62 rfl rfl rfl ?_
  refine x_iload_n (q := 64) C 1 dX3_lighterTold_63 rfl rfl rfl ?_
  refine x_bipush (q := 66) C dX3_lighterTold_64 kb_9 rfl ?_
  obtain ⟨v32, hcal33, hf⟩ := bd_some hf
  refine x_callVi (q := 69) C (c3_pe (l := l) (D := D) (y := y) (aM := aM) hcal33) yi_X3_pe gX3_lighterTold_X3_pe rfl (oX3 y aM M) rfl ⟨(Nat.le_of_ble_eq_true rfl), (Nat.le_of_ble_eq_true rfl)⟩ dX3_lighterTold_66 (pm2_0 _ _) rfl rfl (Nat.le_of_ble_eq_true rfl) ⟨Nat.le_of_ble_eq_true rfl, Nat.le_of_ble_eq_true rfl⟩ rfl ?_
  intro rr34 uu hrr
  have hrr : v32 = rr34 := Eq.symm hrr
  subst hrr
  refine x_perm (ws' := mC y aM M ++ zC y q1 7 f31) (pm2_0 _ _).symm ?_
  have hb35 : xin 6 7 = true := by decide
  obtain ⟨f36, ef36, hf⟩ := lt_elim hf
  refine x_iast (q := 70) (ws' := mC y aM M ++ zC y q1 7 f36) C 0 dX3_lighterTold_69 ((zA y q1 7 f31).R) rfl hb35 (congrArg (fun z => mC y aM M ++ zC y q1 7 z) ef36.symm) rfl ?_
  refine x_astore_n (q := 71) C [3, 0] [(2, .int p2), (3, .ref q1)] dX3_lighterTold_70 rfl (by decide) rfl rfl ?_
  refine x_aload_n (q := 72) C 1 dX3_lighterTold_71 rfl rfl rfl ?_
  refine x_iload_n (q := 73) C 0 dX3_lighterTold_72 rfl rfl rfl ?_
  obtain ⟨hb37, hf⟩ := gd_some hf
  refine x_iald (q := 74) C 0 dX3_lighterTold_73 ((zA y q1 7 f36).R) rfl hb37 rfl ?_
  have hf := Option.some.inj hf
  refine x_drop ?_
  exact x_iret () C dX3_lighterTold_74 rfl hf rfl (Nat.le_of_ble_eq_true rfl) (Nat.le_of_ble_eq_true rfl)

/-! LampHillsModel.lighter(II)I -/
theorem flX3_lighter_34 : Cond.fieldLink RX3 34 "LampHillsModel" "thrown" "I" ∈ wsX3_lighter := by decide +kernel
theorem iuX3_lighter_X3 : ∀ w ∈ u_ws RX3 TX3 13, w ∈ wsX3_lighter := fun _ h => List.mem_cons_of_mem _ (List.mem_append_right _ h)
theorem yi_X3_lighterTold : xY yX3_lighterTold wsX3_lighterTold cX3_lighterTold 4 (some .int) 2 := ⟨⟨_, rfl⟩, by decide +kernel, by decide +kernel, by decide +kernel⟩
def f3_lighter (M : St) (p1 : Int32) (p2 : Int32) : Option (Int32 × St) :=
  lt_ (up2 M 0 0 0) fun M1 =>
  bd (f3_isLighter M1 p1) fun v2 =>
  lt_ (fun (u_ : Unit) =>
  (
    bd2 (f3_fail M1 1) fun v5 M6 =>
    some (v5, M6)
  )
  ) fun J32 =>
  if v2 = 0 then
  (
    J32 ()
  )
  else
  (
    bd (f3_isIn p2 0 6) fun v9 =>
    if v9 = 0 then
    (
      J32 ()
    )
    else
    (
      bd (f3_lighterTold M1 p1 p2) fun v12 =>
      some (v12, M1)
    )
  )
set_option maxHeartbeats 4000000 in
set_option maxRecDepth 100000 in
theorem c3_lighter {l : Launch} {D : va_G} {y : Nat → ClassId} {aM : Nat → Nat} {M : St} {p1 : Int32} {p2 : Int32} {r : Int32} {M' : St} (hf : f3_lighter M p1 p2 = some (r, M')) : xMi l yX3_lighter wsX3_lighter 2 45 1 7 D (xT y) [.ref (aM 0), .int p1, .int p2] (mC y aM M) (fun (r' : Int32) (_ : Unit) => r' = r) (fun _ : Unit => mC y aM M') := by
  refine xMi_of (cc := cX3_lighter) (nL := 3) (ret := (some .int)) [(0, .ref (aM 0)), (1, .int p1), (2, .int p2)] (by decide) rfl (Nat.le_of_ble_eq_true rfl) rfl ?_
  intro p e s m args below meth c A C hin
  have C : xC p s m args meth c D A cX3_lighter RX3 3 wsX3_lighter (xT y) (some .int) := C
  unfold f3_lighter at hf
  refine x_aload_n (q := 1) C 0 dX3_lighter_0 rfl rfl rfl ?_
  refine x_iconst (q := 2) C dX3_lighter_1 ki_0 rfl ?_
  obtain ⟨M1, eM1, hf⟩ := lt_elim hf
  refine x_puti (q := 5) (ws' := mC y aM M1) C tyX3 tyX3_ok nmX3 dX3_lighter_2 (iX3_0 y aM M) rfl iuX3_lighter_X3 flX3_lighter_34 rfl (by decide) rfl rfl (congrArg (fun z => mC y aM z) eM1.symm) rfl ?_
  refine x_aload_n (q := 6) C 0 dX3_lighter_5 rfl rfl rfl ?_
  refine x_iload_n (q := 7) C 1 dX3_lighter_6 rfl rfl rfl ?_
  obtain ⟨v2, hcal3, hf⟩ := bd_some hf
  refine x_callVi (q := 10) C (c3_isLighter (l := l) (D := D) (y := y) (aM := aM) hcal3) yi_X3_isLighter gX3_lighter_X3_isLighter rfl (oX3 y aM M1) rfl ⟨(Nat.le_of_ble_eq_true rfl), (Nat.le_of_ble_eq_true rfl)⟩ dX3_lighter_7 pm_nil rfl rfl (Nat.le_of_ble_eq_true rfl) ⟨Nat.le_of_ble_eq_true rfl, Nat.le_of_ble_eq_true rfl⟩ rfl ?_
  intro rr4 uu hrr
  have hrr : v2 = rr4 := Eq.symm hrr
  subst hrr
  refine x_world (ws' := mC y aM M1) (List.append_nil _) ?_
  obtain ⟨J32, eJ32, hf⟩ := lt_elim hf
  have hJ32 : ∀ (u_ : Unit), J32 u_ = some (r, M') → xV p l e { frames := 2, cells := 1, slots := 7, locals := 45 } s m args below meth c D A (xQi D (xT y) A (fun (r' : Int32) (_ : Unit) => r' = r) (fun _ : Unit => mC y aM M') 1 7 below args s) 3 (mC y aM M1) 0 0 [(0, .ref (aM 0))] 32 [] := by
    intro u_ hf
    subst eJ32
    refine x_aload_n (q := 33) C 0 dX3_lighter_32 rfl rfl rfl ?_
    refine x_iconst (q := 34) C dX3_lighter_33 ki_1 rfl ?_
    obtain ⟨v5, M6, hcal7, hf⟩ := bd2_some hf
    refine x_callVi (q := 37) C (c3_fail (l := l) (D := D) (y := y) (aM := aM) hcal7) yi_X3_fail gX3_lighter_X3_fail rfl (oX3 y aM M1) rfl ⟨(Nat.le_of_ble_eq_true rfl), (Nat.le_of_ble_eq_true rfl)⟩ dX3_lighter_34 pm_nil rfl rfl (Nat.le_of_ble_eq_true rfl) ⟨Nat.le_of_ble_eq_true rfl, Nat.le_of_ble_eq_true rfl⟩ rfl ?_
    intro rr8 uu hrr
    have hrr : v5 = rr8 := Eq.symm hrr
    subst hrr
    refine x_world (ws' := mC y aM M6) (List.append_nil _) ?_
    have hf := Option.some.inj hf
    obtain ⟨hr0, hr1⟩ := Prod.mk.inj hf
    exact x_iret () C dX3_lighter_37 rfl hr0 (congrArg (fun z => mC y aM z) hr1) (Nat.le_of_ble_eq_true rfl) (Nat.le_of_ble_eq_true rfl)
  refine x_if_eq (t := 32) (q := 13) C dX3_lighter_10 (by decide) rfl (fun hc => ?_) (fun hc => ?_)
  · have hf := (if_pos hc).symm.trans hf
    refine x_sub [0] (L' := [(0, .ref (aM 0))]) rfl ?_
    exact hJ32 () hf
  · have hf := (if_neg hc).symm.trans hf
    refine x_iload_n (q := 14) C 2 dX3_lighter_13 rfl rfl rfl ?_
    refine x_iconst (q := 15) C dX3_lighter_14 ki_0 rfl ?_
    refine x_bipush (q := 17) C dX3_lighter_15 kb_6 rfl ?_
    obtain ⟨v9, hcal10, hf⟩ := bd_some hf
    refine x_callSi (q := 20) C (c3_isIn (l := l) (D := D) (y := y)  hcal10) yi_X3_isIn gX3_lighter_X3_isIn ⟨(Nat.le_of_ble_eq_true rfl), (Nat.le_of_ble_eq_true rfl)⟩ dX3_lighter_17 pm_emp rfl rfl (Nat.le_of_ble_eq_true rfl) ⟨Nat.le_of_ble_eq_true rfl, Nat.le_of_ble_eq_true rfl⟩ rfl ?_
    intro rr11 uu hrr
    have hrr : v9 = rr11 := Eq.symm hrr
    subst hrr
    refine x_world (ws' := mC y aM M1) rfl ?_
    refine x_if_eq (t := 32) (q := 23) C dX3_lighter_20 (by decide) rfl (fun hc => ?_) (fun hc => ?_)
    · have hf := (if_pos hc).symm.trans hf
      refine x_sub [0] (L' := [(0, .ref (aM 0))]) rfl ?_
      exact hJ32 () hf
    · have hf := (if_neg hc).symm.trans hf
      refine x_aload_n (q := 24) C 0 dX3_lighter_23 rfl rfl rfl ?_
      refine x_iload_n (q := 25) C 1 dX3_lighter_24 rfl rfl rfl ?_
      refine x_iload_n (q := 26) C 2 dX3_lighter_25 rfl rfl rfl ?_
      obtain ⟨v12, hcal13, hf⟩ := bd_some hf
      refine x_callVi (q := 29) C (c3_lighterTold (l := l) (D := D) (y := y) (aM := aM) hcal13) yi_X3_lighterTold gX3_lighter_X3_lighterTold rfl (oX3 y aM M1) rfl ⟨(Nat.le_of_ble_eq_true rfl), (Nat.le_of_ble_eq_true rfl)⟩ dX3_lighter_26 pm_nil rfl rfl (Nat.le_of_ble_eq_true rfl) ⟨Nat.le_of_ble_eq_true rfl, Nat.le_of_ble_eq_true rfl⟩ rfl ?_
      intro rr14 uu hrr
      have hrr : v12 = rr14 := Eq.symm hrr
      subst hrr
      refine x_widen (k' := 1) (n' := 7) (Nat.le_of_ble_eq_true rfl) (Nat.le_of_ble_eq_true rfl) ?_
      refine x_world (ws' := mC y aM M1) (List.append_nil _) ?_
      refine x_goto (t := 37) C dX3_lighter_29 (by decide) ?_
      have hf := Option.some.inj hf
      obtain ⟨hr0, hr1⟩ := Prod.mk.inj hf
      exact x_iret () C dX3_lighter_37 rfl hr0 (congrArg (fun z => mC y aM z) hr1) (Nat.le_of_ble_eq_true rfl) (Nat.le_of_ble_eq_true rfl)

/-! LampHillsModel.burns(I)I -/
theorem flX3_burns_48 : Cond.fieldLink RX3 48 "LampHillsModel" "lamps" "I" ∈ wsX3_burns := by decide +kernel
theorem iuX3_burns_X3 : ∀ w ∈ u_ws RX3 TX3 13, w ∈ wsX3_burns := fun _ h => List.mem_cons_of_mem _ (List.mem_append_right _ h)
def f3_burns_L4 (p1 : Int32) (M : St) : Nat → Int32 → Int32 → Option (Int32)
  | 0, _, _ => none
  | fu + 1, v1, v2 =>
  if (M 3 0) ≤ v2 then
  (
    some v1
  )
  else
  (
    bd (f3_la M v2 0) fun v3 =>
    lt_ (fun (v6 : Int32) =>
    (
      lt_ (v1 + v6) fun v7 =>
      f3_burns_L4 p1 M fu v7 (v2 + 1)
    )
    ) fun J33 =>
    if v3 = p1 then
    (
      bd (f3_la M v2 5) fun v8 =>
      J33 v8
    )
    else
    (
      J33 0
    )
  )
def f3_burns (M : St) (p1 : Int32) : Option (Int32) :=
  f3_burns_L4 p1 M xF 0 0
set_option maxHeartbeats 4000000 in
set_option maxRecDepth 100000 in
theorem w3_burns_L4 {p : Program} {l : Launch} {e : Env} {s : State} {m : MethodId} {args : Array Value} {below : List Frame} {meth : Method} {c : Code} {D : va_G} {A : Nat → Prop} {y : Nat → ClassId} {aM : Nat → Nat} {M : St} {p1 : Int32} {r : Int32} (C : xC p s m args meth c D A cX3_burns RX3 4 wsX3_burns (xT y) (some .int)) : ∀ (fu : Nat) (v1 : Int32) (v2 : Int32), f3_burns_L4 p1 M fu v1 v2 = some r → xV p l e { frames := 1, cells := 0, slots := 0, locals := 22 } s m args below meth c D A (xQi D (xT y) A (fun (r' : Int32) (_ : Unit) => r' = r) (fun _ : Unit => mC y aM M) 0 0 below args s) 4 (mC y aM M) 0 0 [(0, .ref (aM 0)), (1, .int p1), (2, .int v1), (3, .int v2)] 4 [] := by
  intro fu
  induction fu with
  | zero => intro v1 v2 hf; rw [f3_burns_L4] at hf; cases hf
  | succ fu ih =>
    intro v1 v2 hf
    rw [f3_burns_L4] at hf
    refine x_iload_n (q := 5) C 3 dX3_burns_4 rfl rfl rfl ?_
    refine x_aload_n (q := 6) C 0 dX3_burns_5 rfl rfl rfl ?_
    refine x_get (q := 9) C 3 dX3_burns_6 (oX3 y aM M) rfl iuX3_burns_X3 flX3_burns_48 rfl (by decide) rfl rfl ?_
    refine x_icmp_ge (t := 41) (q := 12) C dX3_burns_9 (by decide) rfl (fun hc => ?_) (fun hc => ?_)
    · have hf := (if_pos hc).symm.trans hf
      refine x_iload_n (q := 42) C 2 dX3_burns_41 rfl rfl rfl ?_
      have hf := Option.some.inj hf
      exact x_iret () C dX3_burns_42 rfl hf rfl (Nat.le_of_ble_eq_true rfl) (Nat.le_of_ble_eq_true rfl)
    · have hf := (if_neg hc).symm.trans hf
      refine x_iload_n (q := 13) C 2 dX3_burns_12 rfl rfl rfl ?_
      refine x_aload_n (q := 14) C 0 dX3_burns_13 rfl rfl rfl ?_
      refine x_iload_n (q := 15) C 3 dX3_burns_14 rfl rfl rfl ?_
      refine x_iconst (q := 16) C dX3_burns_15 ki_0 rfl ?_
      obtain ⟨v3, hcal4, hf⟩ := bd_some hf
      refine x_callVi (q := 19) C (c3_la (l := l) (D := D) (y := y) (aM := aM) hcal4) yi_X3_la gX3_burns_X3_la rfl (oX3 y aM M) rfl ⟨(Nat.le_of_ble_eq_true rfl), (Nat.le_of_ble_eq_true rfl)⟩ dX3_burns_16 pm_nil rfl rfl (Nat.le_of_ble_eq_true rfl) ⟨Nat.le_of_ble_eq_true rfl, Nat.le_of_ble_eq_true rfl⟩ rfl ?_
      intro rr5 uu hrr
      have hrr : v3 = rr5 := Eq.symm hrr
      subst hrr
      refine x_world (ws' := mC y aM M) (List.append_nil _) ?_
      refine x_iload_n (q := 20) C 1 dX3_burns_19 rfl rfl rfl ?_
      obtain ⟨J33, eJ33, hf⟩ := lt_elim hf
      have hJ33 : ∀ (v6 : Int32), J33 v6 = some r → xV p l e { frames := 1, cells := 0, slots := 0, locals := 22 } s m args below meth c D A (xQi D (xT y) A (fun (r' : Int32) (_ : Unit) => r' = r) (fun _ : Unit => mC y aM M) 0 0 below args s) 4 (mC y aM M) 0 0 [(0, .ref (aM 0)), (1, .int p1), (3, .int v2)] 33 [.int v6, .int v1] := by
        intro v6 hf
        subst eJ33
        refine x_iadd (q := 34) C dX3_burns_33 rfl ?_
        obtain ⟨v7, ev7, hf⟩ := lt_elim hf
        refine x_topi ev7 ?_
        refine x_istore_n (q := 35) C [1, 2, 0, 3] [(0, .ref (aM 0)), (1, .int p1), (2, .int v7), (3, .int v2)] dX3_burns_34 rfl (by decide) rfl rfl ?_
        refine x_iinc (q := 38) C 3 (v2 + 1) [1, 2, 3, 0] [(0, .ref (aM 0)), (1, .int p1), (2, .int v7), (3, .int (v2 + 1))] dX3_burns_35 rfl (congrArg (fun z => v2 + z) ki_1) (by decide) rfl rfl ?_
        refine x_goto (t := 4) C dX3_burns_38 (by decide) ?_
        exact ih v7 (v2 + 1) hf
      refine x_icmp_ne (t := 32) (q := 23) C dX3_burns_20 (by decide) rfl (fun hc => ?_) (fun hc => ?_)
      · have hf := (if_neg hc).symm.trans hf
        refine x_iconst (q := 33) C dX3_burns_32 ki_0 rfl ?_
        refine x_sub [0, 1, 3] (L' := [(0, .ref (aM 0)), (1, .int p1), (3, .int v2)]) rfl ?_
        exact hJ33 0 hf
      · have hf := (if_pos hc).symm.trans hf
        refine x_aload_n (q := 24) C 0 dX3_burns_23 rfl rfl rfl ?_
        refine x_iload_n (q := 25) C 3 dX3_burns_24 rfl rfl rfl ?_
        refine x_iconst (q := 26) C dX3_burns_25 ki_5 rfl ?_
        obtain ⟨v8, hcal9, hf⟩ := bd_some hf
        refine x_callVi (q := 29) C (c3_la (l := l) (D := D) (y := y) (aM := aM) hcal9) yi_X3_la gX3_burns_X3_la rfl (oX3 y aM M) rfl ⟨(Nat.le_of_ble_eq_true rfl), (Nat.le_of_ble_eq_true rfl)⟩ dX3_burns_26 pm_nil rfl rfl (Nat.le_of_ble_eq_true rfl) ⟨Nat.le_of_ble_eq_true rfl, Nat.le_of_ble_eq_true rfl⟩ rfl ?_
        intro rr10 uu hrr
        have hrr : v8 = rr10 := Eq.symm hrr
        subst hrr
        refine x_world (ws' := mC y aM M) (List.append_nil _) ?_
        refine x_goto (t := 33) C dX3_burns_29 (by decide) ?_
        refine x_sub [0, 1, 3] (L' := [(0, .ref (aM 0)), (1, .int p1), (3, .int v2)]) rfl ?_
        exact hJ33 v8 hf
set_option maxHeartbeats 4000000 in
set_option maxRecDepth 100000 in
theorem c3_burns {l : Launch} {D : va_G} {y : Nat → ClassId} {aM : Nat → Nat} {M : St} {p1 : Int32} {r : Int32} (hf : f3_burns M p1 = some r) : xMi l yX3_burns wsX3_burns 1 22 0 0 D (xT y) [.ref (aM 0), .int p1] (mC y aM M) (fun (r' : Int32) (_ : Unit) => r' = r) (fun _ : Unit => mC y aM M) := by
  refine xMi_of (cc := cX3_burns) (nL := 4) (ret := (some .int)) [(0, .ref (aM 0)), (1, .int p1)] (by decide) rfl (Nat.le_of_ble_eq_true rfl) rfl ?_
  intro p e s m args below meth c A C hin
  have C : xC p s m args meth c D A cX3_burns RX3 4 wsX3_burns (xT y) (some .int) := C
  unfold f3_burns at hf
  refine x_iconst (q := 1) C dX3_burns_0 ki_0 rfl ?_
  refine x_istore_n (q := 2) C [1, 2, 0] [(0, .ref (aM 0)), (1, .int p1), (2, .int 0)] dX3_burns_1 rfl (by decide) rfl rfl ?_
  refine x_iconst (q := 3) C dX3_burns_2 ki_0 rfl ?_
  refine x_istore_n (q := 4) C [1, 2, 3, 0] [(0, .ref (aM 0)), (1, .int p1), (2, .int 0), (3, .int 0)] dX3_burns_3 rfl (by decide) rfl rfl ?_
  exact w3_burns_L4 C xF 0 0 hf

/-! LampHillsModel.burning(I)I -/
theorem flX3_burning_34 : Cond.fieldLink RX3 34 "LampHillsModel" "thrown" "I" ∈ wsX3_burning := by decide +kernel
theorem iuX3_burning_X3 : ∀ w ∈ u_ws RX3 TX3 13, w ∈ wsX3_burning := fun _ h => List.mem_cons_of_mem _ (List.mem_append_right _ h)
theorem yi_X3_burns : xY yX3_burns wsX3_burns cX3_burns 4 (some .int) 1 := ⟨⟨_, rfl⟩, by decide +kernel, by decide +kernel, by decide +kernel⟩
def f3_burning (M : St) (p1 : Int32) : Option (Int32 × St) :=
  lt_ (up2 M 0 0 0) fun M1 =>
  bd (f3_isStreet M1 p1) fun v2 =>
  if v2 = 0 then
  (
    bd2 (f3_fail M1 1) fun v5 M6 =>
    some (v5, M6)
  )
  else
  (
    bd (f3_burns M1 p1) fun v9 =>
    some (v9, M1)
  )
set_option maxHeartbeats 4000000 in
set_option maxRecDepth 100000 in
theorem c3_burning {l : Launch} {D : va_G} {y : Nat → ClassId} {aM : Nat → Nat} {M : St} {p1 : Int32} {r : Int32} {M' : St} (hf : f3_burning M p1 = some (r, M')) : xMi l yX3_burning wsX3_burning 2 45 0 0 D (xT y) [.ref (aM 0), .int p1] (mC y aM M) (fun (r' : Int32) (_ : Unit) => r' = r) (fun _ : Unit => mC y aM M') := by
  refine xMi_of (cc := cX3_burning) (nL := 2) (ret := (some .int)) [(0, .ref (aM 0)), (1, .int p1)] (by decide) rfl (Nat.le_of_ble_eq_true rfl) rfl ?_
  intro p e s m args below meth c A C hin
  have C : xC p s m args meth c D A cX3_burning RX3 2 wsX3_burning (xT y) (some .int) := C
  unfold f3_burning at hf
  refine x_aload_n (q := 1) C 0 dX3_burning_0 rfl rfl rfl ?_
  refine x_iconst (q := 2) C dX3_burning_1 ki_0 rfl ?_
  obtain ⟨M1, eM1, hf⟩ := lt_elim hf
  refine x_puti (q := 5) (ws' := mC y aM M1) C tyX3 tyX3_ok nmX3 dX3_burning_2 (iX3_0 y aM M) rfl iuX3_burning_X3 flX3_burning_34 rfl (by decide) rfl rfl (congrArg (fun z => mC y aM z) eM1.symm) rfl ?_
  refine x_aload_n (q := 6) C 0 dX3_burning_5 rfl rfl rfl ?_
  refine x_iload_n (q := 7) C 1 dX3_burning_6 rfl rfl rfl ?_
  obtain ⟨v2, hcal3, hf⟩ := bd_some hf
  refine x_callVi (q := 10) C (c3_isStreet (l := l) (D := D) (y := y) (aM := aM) hcal3) yi_X3_isStreet gX3_burning_X3_isStreet rfl (oX3 y aM M1) rfl ⟨(Nat.le_of_ble_eq_true rfl), (Nat.le_of_ble_eq_true rfl)⟩ dX3_burning_7 pm_nil rfl rfl (Nat.le_of_ble_eq_true rfl) ⟨Nat.le_of_ble_eq_true rfl, Nat.le_of_ble_eq_true rfl⟩ rfl ?_
  intro rr4 uu hrr
  have hrr : v2 = rr4 := Eq.symm hrr
  subst hrr
  refine x_world (ws' := mC y aM M1) (List.append_nil _) ?_
  refine x_if_eq (t := 21) (q := 13) C dX3_burning_10 (by decide) rfl (fun hc => ?_) (fun hc => ?_)
  · have hf := (if_pos hc).symm.trans hf
    refine x_aload_n (q := 22) C 0 dX3_burning_21 rfl rfl rfl ?_
    refine x_iconst (q := 23) C dX3_burning_22 ki_1 rfl ?_
    obtain ⟨v5, M6, hcal7, hf⟩ := bd2_some hf
    refine x_callVi (q := 26) C (c3_fail (l := l) (D := D) (y := y) (aM := aM) hcal7) yi_X3_fail gX3_burning_X3_fail rfl (oX3 y aM M1) rfl ⟨(Nat.le_of_ble_eq_true rfl), (Nat.le_of_ble_eq_true rfl)⟩ dX3_burning_23 pm_nil rfl rfl (Nat.le_of_ble_eq_true rfl) ⟨Nat.le_of_ble_eq_true rfl, Nat.le_of_ble_eq_true rfl⟩ rfl ?_
    intro rr8 uu hrr
    have hrr : v5 = rr8 := Eq.symm hrr
    subst hrr
    refine x_world (ws' := mC y aM M6) (List.append_nil _) ?_
    have hf := Option.some.inj hf
    obtain ⟨hr0, hr1⟩ := Prod.mk.inj hf
    exact x_iret () C dX3_burning_26 rfl hr0 (congrArg (fun z => mC y aM z) hr1) (Nat.le_of_ble_eq_true rfl) (Nat.le_of_ble_eq_true rfl)
  · have hf := (if_neg hc).symm.trans hf
    refine x_aload_n (q := 14) C 0 dX3_burning_13 rfl rfl rfl ?_
    refine x_iload_n (q := 15) C 1 dX3_burning_14 rfl rfl rfl ?_
    obtain ⟨v9, hcal10, hf⟩ := bd_some hf
    refine x_callVi (q := 18) C (c3_burns (l := l) (D := D) (y := y) (aM := aM) hcal10) yi_X3_burns gX3_burning_X3_burns rfl (oX3 y aM M1) rfl ⟨(Nat.le_of_ble_eq_true rfl), (Nat.le_of_ble_eq_true rfl)⟩ dX3_burning_15 pm_nil rfl rfl (Nat.le_of_ble_eq_true rfl) ⟨Nat.le_of_ble_eq_true rfl, Nat.le_of_ble_eq_true rfl⟩ rfl ?_
    intro rr11 uu hrr
    have hrr : v9 = rr11 := Eq.symm hrr
    subst hrr
    refine x_world (ws' := mC y aM M1) (List.append_nil _) ?_
    refine x_goto (t := 26) C dX3_burning_18 (by decide) ?_
    have hf := Option.some.inj hf
    obtain ⟨hr0, hr1⟩ := Prod.mk.inj hf
    exact x_iret () C dX3_burning_26 rfl hr0 (congrArg (fun z => mC y aM z) hr1) (Nat.le_of_ble_eq_true rfl) (Nat.le_of_ble_eq_true rfl)

/-! LampHillsModel.all(I)I -/
theorem flX3_all_48 : Cond.fieldLink RX3 48 "LampHillsModel" "lamps" "I" ∈ wsX3_all := by decide +kernel
theorem iuX3_all_X3 : ∀ w ∈ u_ws RX3 TX3 13, w ∈ wsX3_all := fun _ h => List.mem_cons_of_mem _ (List.mem_append_right _ h)
def f3_all_L4 (p1 : Int32) (M : St) : Nat → Int32 → Int32 → Option (Int32)
  | 0, _, _ => none
  | fu + 1, v1, v2 =>
  if (M 3 0) ≤ v2 then
  (
    some v1
  )
  else
  (
    bd (f3_la M v2 p1) fun v3 =>
    lt_ (v1 + v3) fun v6 =>
    f3_all_L4 p1 M fu v6 (v2 + 1)
  )
def f3_all (M : St) (p1 : Int32) : Option (Int32) :=
  f3_all_L4 p1 M xF 0 0
set_option maxHeartbeats 4000000 in
set_option maxRecDepth 100000 in
theorem w3_all_L4 {p : Program} {l : Launch} {e : Env} {s : State} {m : MethodId} {args : Array Value} {below : List Frame} {meth : Method} {c : Code} {D : va_G} {A : Nat → Prop} {y : Nat → ClassId} {aM : Nat → Nat} {M : St} {p1 : Int32} {r : Int32} (C : xC p s m args meth c D A cX3_all RX3 4 wsX3_all (xT y) (some .int)) : ∀ (fu : Nat) (v1 : Int32) (v2 : Int32), f3_all_L4 p1 M fu v1 v2 = some r → xV p l e { frames := 1, cells := 0, slots := 0, locals := 22 } s m args below meth c D A (xQi D (xT y) A (fun (r' : Int32) (_ : Unit) => r' = r) (fun _ : Unit => mC y aM M) 0 0 below args s) 4 (mC y aM M) 0 0 [(0, .ref (aM 0)), (1, .int p1), (2, .int v1), (3, .int v2)] 4 [] := by
  intro fu
  induction fu with
  | zero => intro v1 v2 hf; rw [f3_all_L4] at hf; cases hf
  | succ fu ih =>
    intro v1 v2 hf
    rw [f3_all_L4] at hf
    refine x_iload_n (q := 5) C 3 dX3_all_4 rfl rfl rfl ?_
    refine x_aload_n (q := 6) C 0 dX3_all_5 rfl rfl rfl ?_
    refine x_get (q := 9) C 3 dX3_all_6 (oX3 y aM M) rfl iuX3_all_X3 flX3_all_48 rfl (by decide) rfl rfl ?_
    refine x_icmp_ge (t := 27) (q := 12) C dX3_all_9 (by decide) rfl (fun hc => ?_) (fun hc => ?_)
    · have hf := (if_pos hc).symm.trans hf
      refine x_iload_n (q := 28) C 2 dX3_all_27 rfl rfl rfl ?_
      have hf := Option.some.inj hf
      exact x_iret () C dX3_all_28 rfl hf rfl (Nat.le_of_ble_eq_true rfl) (Nat.le_of_ble_eq_true rfl)
    · have hf := (if_neg hc).symm.trans hf
      refine x_iload_n (q := 13) C 2 dX3_all_12 rfl rfl rfl ?_
      refine x_aload_n (q := 14) C 0 dX3_all_13 rfl rfl rfl ?_
      refine x_iload_n (q := 15) C 3 dX3_all_14 rfl rfl rfl ?_
      refine x_iload_n (q := 16) C 1 dX3_all_15 rfl rfl rfl ?_
      obtain ⟨v3, hcal4, hf⟩ := bd_some hf
      refine x_callVi (q := 19) C (c3_la (l := l) (D := D) (y := y) (aM := aM) hcal4) yi_X3_la gX3_all_X3_la rfl (oX3 y aM M) rfl ⟨(Nat.le_of_ble_eq_true rfl), (Nat.le_of_ble_eq_true rfl)⟩ dX3_all_16 pm_nil rfl rfl (Nat.le_of_ble_eq_true rfl) ⟨Nat.le_of_ble_eq_true rfl, Nat.le_of_ble_eq_true rfl⟩ rfl ?_
      intro rr5 uu hrr
      have hrr : v3 = rr5 := Eq.symm hrr
      subst hrr
      refine x_world (ws' := mC y aM M) (List.append_nil _) ?_
      refine x_iadd (q := 20) C dX3_all_19 rfl ?_
      obtain ⟨v6, ev6, hf⟩ := lt_elim hf
      refine x_topi ev6 ?_
      refine x_istore_n (q := 21) C [1, 2, 0, 3] [(0, .ref (aM 0)), (1, .int p1), (2, .int v6), (3, .int v2)] dX3_all_20 rfl (by decide) rfl rfl ?_
      refine x_iinc (q := 24) C 3 (v2 + 1) [1, 2, 3, 0] [(0, .ref (aM 0)), (1, .int p1), (2, .int v6), (3, .int (v2 + 1))] dX3_all_21 rfl (congrArg (fun z => v2 + z) ki_1) (by decide) rfl rfl ?_
      refine x_goto (t := 4) C dX3_all_24 (by decide) ?_
      exact ih v6 (v2 + 1) hf
set_option maxHeartbeats 4000000 in
set_option maxRecDepth 100000 in
theorem c3_all {l : Launch} {D : va_G} {y : Nat → ClassId} {aM : Nat → Nat} {M : St} {p1 : Int32} {r : Int32} (hf : f3_all M p1 = some r) : xMi l yX3_all wsX3_all 1 22 0 0 D (xT y) [.ref (aM 0), .int p1] (mC y aM M) (fun (r' : Int32) (_ : Unit) => r' = r) (fun _ : Unit => mC y aM M) := by
  refine xMi_of (cc := cX3_all) (nL := 4) (ret := (some .int)) [(0, .ref (aM 0)), (1, .int p1)] (by decide) rfl (Nat.le_of_ble_eq_true rfl) rfl ?_
  intro p e s m args below meth c A C hin
  have C : xC p s m args meth c D A cX3_all RX3 4 wsX3_all (xT y) (some .int) := C
  unfold f3_all at hf
  refine x_iconst (q := 1) C dX3_all_0 ki_0 rfl ?_
  refine x_istore_n (q := 2) C [1, 2, 0] [(0, .ref (aM 0)), (1, .int p1), (2, .int 0)] dX3_all_1 rfl (by decide) rfl rfl ?_
  refine x_iconst (q := 3) C dX3_all_2 ki_0 rfl ?_
  refine x_istore_n (q := 4) C [1, 2, 3, 0] [(0, .ref (aM 0)), (1, .int p1), (2, .int 0), (3, .int 0)] dX3_all_3 rfl (by decide) rfl rfl ?_
  exact w3_all_L4 C xF 0 0 hf

/-! LampHillsModel.dark()I -/
theorem flX3_dark_45 : Cond.fieldLink RX3 45 "LampHillsModel" "streets" "I" ∈ wsX3_dark := by decide +kernel
theorem iuX3_dark_X3 : ∀ w ∈ u_ws RX3 TX3 13, w ∈ wsX3_dark := fun _ h => List.mem_cons_of_mem _ (List.mem_append_right _ h)
def f3_dark_L4 (M : St) : Nat → Int32 → Int32 → Option (Int32)
  | 0, _, _ => none
  | fu + 1, v1, v2 =>
  if (M 2 0) ≤ v2 then
  (
    some v1
  )
  else
  (
    bd (f3_burns M v2) fun v3 =>
    lt_ (fun (v6 : Int32) =>
    (
      lt_ (v1 + v6) fun v7 =>
      f3_dark_L4 M fu v7 (v2 + 1)
    )
    ) fun J26 =>
    if v3 = 0 then
    (
      J26 1
    )
    else
    (
      J26 0
    )
  )
def f3_dark (M : St) : Option (Int32) :=
  f3_dark_L4 M xF 0 0
set_option maxHeartbeats 4000000 in
set_option maxRecDepth 100000 in
theorem w3_dark_L4 {p : Program} {l : Launch} {e : Env} {s : State} {m : MethodId} {args : Array Value} {below : List Frame} {meth : Method} {c : Code} {D : va_G} {A : Nat → Prop} {y : Nat → ClassId} {aM : Nat → Nat} {M : St} {r : Int32} (C : xC p s m args meth c D A cX3_dark RX3 3 wsX3_dark (xT y) (some .int)) : ∀ (fu : Nat) (v1 : Int32) (v2 : Int32), f3_dark_L4 M fu v1 v2 = some r → xV p l e { frames := 2, cells := 0, slots := 0, locals := 45 } s m args below meth c D A (xQi D (xT y) A (fun (r' : Int32) (_ : Unit) => r' = r) (fun _ : Unit => mC y aM M) 0 0 below args s) 3 (mC y aM M) 0 0 [(0, .ref (aM 0)), (1, .int v1), (2, .int v2)] 4 [] := by
  intro fu
  induction fu with
  | zero => intro v1 v2 hf; rw [f3_dark_L4] at hf; cases hf
  | succ fu ih =>
    intro v1 v2 hf
    rw [f3_dark_L4] at hf
    refine x_iload_n (q := 5) C 2 dX3_dark_4 rfl rfl rfl ?_
    refine x_aload_n (q := 6) C 0 dX3_dark_5 rfl rfl rfl ?_
    refine x_get (q := 9) C 2 dX3_dark_6 (oX3 y aM M) rfl iuX3_dark_X3 flX3_dark_45 rfl (by decide) rfl rfl ?_
    refine x_icmp_ge (t := 34) (q := 12) C dX3_dark_9 (by decide) rfl (fun hc => ?_) (fun hc => ?_)
    · have hf := (if_pos hc).symm.trans hf
      refine x_iload_n (q := 35) C 1 dX3_dark_34 rfl rfl rfl ?_
      have hf := Option.some.inj hf
      exact x_iret () C dX3_dark_35 rfl hf rfl (Nat.le_of_ble_eq_true rfl) (Nat.le_of_ble_eq_true rfl)
    · have hf := (if_neg hc).symm.trans hf
      refine x_iload_n (q := 13) C 1 dX3_dark_12 rfl rfl rfl ?_
      refine x_aload_n (q := 14) C 0 dX3_dark_13 rfl rfl rfl ?_
      refine x_iload_n (q := 15) C 2 dX3_dark_14 rfl rfl rfl ?_
      obtain ⟨v3, hcal4, hf⟩ := bd_some hf
      refine x_callVi (q := 18) C (c3_burns (l := l) (D := D) (y := y) (aM := aM) hcal4) yi_X3_burns gX3_dark_X3_burns rfl (oX3 y aM M) rfl ⟨(Nat.le_of_ble_eq_true rfl), (Nat.le_of_ble_eq_true rfl)⟩ dX3_dark_15 pm_nil rfl rfl (Nat.le_of_ble_eq_true rfl) ⟨Nat.le_of_ble_eq_true rfl, Nat.le_of_ble_eq_true rfl⟩ rfl ?_
      intro rr5 uu hrr
      have hrr : v3 = rr5 := Eq.symm hrr
      subst hrr
      refine x_world (ws' := mC y aM M) (List.append_nil _) ?_
      obtain ⟨J26, eJ26, hf⟩ := lt_elim hf
      have hJ26 : ∀ (v6 : Int32), J26 v6 = some r → xV p l e { frames := 2, cells := 0, slots := 0, locals := 45 } s m args below meth c D A (xQi D (xT y) A (fun (r' : Int32) (_ : Unit) => r' = r) (fun _ : Unit => mC y aM M) 0 0 below args s) 3 (mC y aM M) 0 0 [(0, .ref (aM 0)), (2, .int v2)] 26 [.int v6, .int v1] := by
        intro v6 hf
        subst eJ26
        refine x_iadd (q := 27) C dX3_dark_26 rfl ?_
        obtain ⟨v7, ev7, hf⟩ := lt_elim hf
        refine x_topi ev7 ?_
        refine x_istore_n (q := 28) C [1, 0, 2] [(0, .ref (aM 0)), (1, .int v7), (2, .int v2)] dX3_dark_27 rfl (by decide) rfl rfl ?_
        refine x_iinc (q := 31) C 2 (v2 + 1) [1, 2, 0] [(0, .ref (aM 0)), (1, .int v7), (2, .int (v2 + 1))] dX3_dark_28 rfl (congrArg (fun z => v2 + z) ki_1) (by decide) rfl rfl ?_
        refine x_goto (t := 4) C dX3_dark_31 (by decide) ?_
        exact ih v7 (v2 + 1) hf
      refine x_if_ne (t := 25) (q := 21) C dX3_dark_18 (by decide) rfl (fun hc => ?_) (fun hc => ?_)
      · have hf := (if_neg hc).symm.trans hf
        refine x_iconst (q := 26) C dX3_dark_25 ki_0 rfl ?_
        refine x_sub [0, 2] (L' := [(0, .ref (aM 0)), (2, .int v2)]) rfl ?_
        exact hJ26 0 hf
      · have hf := (if_pos hc).symm.trans hf
        refine x_iconst (q := 22) C dX3_dark_21 ki_1 rfl ?_
        refine x_goto (t := 26) C dX3_dark_22 (by decide) ?_
        refine x_sub [0, 2] (L' := [(0, .ref (aM 0)), (2, .int v2)]) rfl ?_
        exact hJ26 1 hf
set_option maxHeartbeats 4000000 in
set_option maxRecDepth 100000 in
theorem c3_dark {l : Launch} {D : va_G} {y : Nat → ClassId} {aM : Nat → Nat} {M : St} {r : Int32} (hf : f3_dark M = some r) : xMi l yX3_dark wsX3_dark 2 45 0 0 D (xT y) [.ref (aM 0)] (mC y aM M) (fun (r' : Int32) (_ : Unit) => r' = r) (fun _ : Unit => mC y aM M) := by
  refine xMi_of (cc := cX3_dark) (nL := 3) (ret := (some .int)) [(0, .ref (aM 0))] (by decide) rfl (Nat.le_of_ble_eq_true rfl) rfl ?_
  intro p e s m args below meth c A C hin
  have C : xC p s m args meth c D A cX3_dark RX3 3 wsX3_dark (xT y) (some .int) := C
  unfold f3_dark at hf
  refine x_iconst (q := 1) C dX3_dark_0 ki_0 rfl ?_
  refine x_istore_n (q := 2) C [1, 0] [(0, .ref (aM 0)), (1, .int 0)] dX3_dark_1 rfl (by decide) rfl rfl ?_
  refine x_iconst (q := 3) C dX3_dark_2 ki_0 rfl ?_
  refine x_istore_n (q := 4) C [1, 2, 0] [(0, .ref (aM 0)), (1, .int 0), (2, .int 0)] dX3_dark_3 rfl (by decide) rfl rfl ?_
  exact w3_dark_L4 C xF 0 0 hf

/-! LampHillsModel.counted(I)I -/
theorem flX3_counted_31 : Cond.fieldLink RX3 31 "LampHillsModel" "numbers" "[I" ∈ wsX3_counted := by decide +kernel
theorem flX3_counted_38 : Cond.fieldLink RX3 38 "LampHillsModel" "corners" "I" ∈ wsX3_counted := by decide +kernel
theorem flX3_counted_45 : Cond.fieldLink RX3 45 "LampHillsModel" "streets" "I" ∈ wsX3_counted := by decide +kernel
theorem flX3_counted_48 : Cond.fieldLink RX3 48 "LampHillsModel" "lamps" "I" ∈ wsX3_counted := by decide +kernel
theorem flX3_counted_51 : Cond.fieldLink RX3 51 "LampHillsModel" "lighters" "I" ∈ wsX3_counted := by decide +kernel
theorem iuX3_counted_X3 : ∀ w ∈ u_ws RX3 TX3 13, w ∈ wsX3_counted := fun _ h => List.mem_cons_of_mem _ (List.mem_append_right _ h)
theorem knX3_counted : Cond.arrayClass .int ∈ wsX3_counted := by decide +kernel
theorem yi_X3_all : xY yX3_all wsX3_all cX3_all 4 (some .int) 1 := ⟨⟨_, rfl⟩, by decide +kernel, by decide +kernel, by decide +kernel⟩
theorem yi_X3_dark : xY yX3_dark wsX3_dark cX3_dark 3 (some .int) 0 := ⟨⟨_, rfl⟩, by decide +kernel, by decide +kernel, by decide +kernel⟩
def f3_counted (M : St) (p1 : Int32) : Option (Int32) :=
  lt_ (upd ((fun _ => 0)) (0 : Int32).toNatClampNeg (M 12 (0 : Int32).toNatClampNeg)) fun f4 =>
  lt_ (upd f4 (1 : Int32).toNatClampNeg (M 12 (1 : Int32).toNatClampNeg)) fun f7 =>
  lt_ (upd f7 (2 : Int32).toNatClampNeg (M 1 0)) fun f9 =>
  lt_ (upd f9 (3 : Int32).toNatClampNeg (M 2 0)) fun f11 =>
  lt_ (upd f11 (4 : Int32).toNatClampNeg (M 3 0)) fun f13 =>
  bd (f3_all M 5) fun v14 =>
  lt_ (upd f13 (5 : Int32).toNatClampNeg v14) fun f18 =>
  bd (f3_dark M) fun v19 =>
  lt_ (upd f18 (6 : Int32).toNatClampNeg v19) fun f23 =>
  lt_ (upd f23 (7 : Int32).toNatClampNeg (M 4 0)) fun f25 =>
  bd (f3_all M 3) fun v26 =>
  lt_ (upd f25 (8 : Int32).toNatClampNeg v26) fun f30 =>
  lt_ (upd f30 (9 : Int32).toNatClampNeg (M 12 (2 : Int32).toNatClampNeg)) fun f33 =>
  gd (xin p1 10) <|
  some (f33 p1.toNatClampNeg)
set_option maxHeartbeats 4000000 in
set_option maxRecDepth 100000 in
theorem c3_counted {l : Launch} {D : va_G} {y : Nat → ClassId} {aM : Nat → Nat} {M : St} {p1 : Int32} {r : Int32} (hf : f3_counted M p1 = some r) : xMi l yX3_counted wsX3_counted 3 67 1 10 D (xT y) [.ref (aM 0), .int p1] (mC y aM M) (fun (r' : Int32) (_ : Unit) => r' = r) (fun _ : Unit => mC y aM M) := by
  refine xMi_of (cc := cX3_counted) (nL := 3) (ret := (some .int)) [(0, .ref (aM 0)), (1, .int p1)] (by decide) rfl (Nat.le_of_ble_eq_true rfl) rfl ?_
  intro p e s m args below meth c A C hin
  have C : xC p s m args meth c D A cX3_counted RX3 3 wsX3_counted (xT y) (some .int) := C
  unfold f3_counted at hf
  refine x_bipush (q := 2) C dX3_counted_0 kb_10 rfl ?_
  refine x_newa (q := 4) C 10 dX3_counted_2 knX3_counted rfl (by decide) (by decide) (by decide) (Nat.le_of_ble_eq_true rfl) (Nat.le_of_ble_eq_true rfl) rfl (fun q1 => ?_)
  refine x_world (ws' := mC y aM M ++ zC y q1 10 (fun _ => 0)) rfl ?_
  refine x_widen (k' := 1) (n' := 10) (Nat.le_of_ble_eq_true rfl) (Nat.le_of_ble_eq_true rfl) ?_
  refine x_dup (q := 5) C dX3_counted_4 rfl rfl ?_
  refine x_iconst (q := 6) C dX3_counted_5 ki_0 rfl ?_
  refine x_aload_n (q := 7) C 0 dX3_counted_6 rfl rfl rfl ?_
  refine x_get (q := 10) C 12 dX3_counted_7 ((oX3 y aM M).L) rfl iuX3_counted_X3 flX3_counted_31 rfl (by decide) rfl rfl ?_
  refine x_iconst (q := 11) C dX3_counted_10 ki_0 rfl ?_
  have hb2 : xin 0 3 = true := by decide
  refine x_iald (q := 12) C 0 dX3_counted_11 ((aX3_12 y aM M).L) rfl hb2 rfl ?_
  have hb3 : xin 0 10 = true := by decide
  obtain ⟨f4, ef4, hf⟩ := lt_elim hf
  refine x_iast (q := 13) (ws' := mC y aM M ++ zC y q1 10 f4) C 0 dX3_counted_12 ((zA y q1 10 (fun _ => 0)).R) rfl hb3 (congrArg (fun z => mC y aM M ++ zC y q1 10 z) ef4.symm) rfl ?_
  refine x_dup (q := 14) C dX3_counted_13 rfl rfl ?_
  refine x_iconst (q := 15) C dX3_counted_14 ki_1 rfl ?_
  refine x_aload_n (q := 16) C 0 dX3_counted_15 rfl rfl rfl ?_
  refine x_get (q := 19) C 12 dX3_counted_16 ((oX3 y aM M).L) rfl iuX3_counted_X3 flX3_counted_31 rfl (by decide) rfl rfl ?_
  refine x_iconst (q := 20) C dX3_counted_19 ki_1 rfl ?_
  have hb5 : xin 1 3 = true := by decide
  refine x_iald (q := 21) C 0 dX3_counted_20 ((aX3_12 y aM M).L) rfl hb5 rfl ?_
  have hb6 : xin 1 10 = true := by decide
  obtain ⟨f7, ef7, hf⟩ := lt_elim hf
  refine x_iast (q := 22) (ws' := mC y aM M ++ zC y q1 10 f7) C 0 dX3_counted_21 ((zA y q1 10 f4).R) rfl hb6 (congrArg (fun z => mC y aM M ++ zC y q1 10 z) ef7.symm) rfl ?_
  refine x_dup (q := 23) C dX3_counted_22 rfl rfl ?_
  refine x_iconst (q := 24) C dX3_counted_23 ki_2 rfl ?_
  refine x_aload_n (q := 25) C 0 dX3_counted_24 rfl rfl rfl ?_
  refine x_get (q := 28) C 1 dX3_counted_25 ((oX3 y aM M).L) rfl iuX3_counted_X3 flX3_counted_38 rfl (by decide) rfl rfl ?_
  have hb8 : xin 2 10 = true := by decide
  obtain ⟨f9, ef9, hf⟩ := lt_elim hf
  refine x_iast (q := 29) (ws' := mC y aM M ++ zC y q1 10 f9) C 0 dX3_counted_28 ((zA y q1 10 f7).R) rfl hb8 (congrArg (fun z => mC y aM M ++ zC y q1 10 z) ef9.symm) rfl ?_
  refine x_dup (q := 30) C dX3_counted_29 rfl rfl ?_
  refine x_iconst (q := 31) C dX3_counted_30 ki_3 rfl ?_
  refine x_aload_n (q := 32) C 0 dX3_counted_31 rfl rfl rfl ?_
  refine x_get (q := 35) C 2 dX3_counted_32 ((oX3 y aM M).L) rfl iuX3_counted_X3 flX3_counted_45 rfl (by decide) rfl rfl ?_
  have hb10 : xin 3 10 = true := by decide
  obtain ⟨f11, ef11, hf⟩ := lt_elim hf
  refine x_iast (q := 36) (ws' := mC y aM M ++ zC y q1 10 f11) C 0 dX3_counted_35 ((zA y q1 10 f9).R) rfl hb10 (congrArg (fun z => mC y aM M ++ zC y q1 10 z) ef11.symm) rfl ?_
  refine x_dup (q := 37) C dX3_counted_36 rfl rfl ?_
  refine x_iconst (q := 38) C dX3_counted_37 ki_4 rfl ?_
  refine x_aload_n (q := 39) C 0 dX3_counted_38 rfl rfl rfl ?_
  refine x_get (q := 42) C 3 dX3_counted_39 ((oX3 y aM M).L) rfl iuX3_counted_X3 flX3_counted_48 rfl (by decide) rfl rfl ?_
  have hb12 : xin 4 10 = true := by decide
  obtain ⟨f13, ef13, hf⟩ := lt_elim hf
  refine x_iast (q := 43) (ws' := mC y aM M ++ zC y q1 10 f13) C 0 dX3_counted_42 ((zA y q1 10 f11).R) rfl hb12 (congrArg (fun z => mC y aM M ++ zC y q1 10 z) ef13.symm) rfl ?_
  refine x_dup (q := 44) C dX3_counted_43 rfl rfl ?_
  refine x_iconst (q := 45) C dX3_counted_44 ki_5 rfl ?_
  refine x_aload_n (q := 46) C 0 dX3_counted_45 rfl rfl rfl ?_
  refine x_iconst (q := 47) C dX3_counted_46 ki_5 rfl ?_
  obtain ⟨v14, hcal15, hf⟩ := bd_some hf
  refine x_callVi (q := 50) C (c3_all (l := l) (D := D) (y := y) (aM := aM) hcal15) yi_X3_all gX3_counted_X3_all rfl (oX3 y aM M) rfl ⟨(Nat.le_of_ble_eq_true rfl), (Nat.le_of_ble_eq_true rfl)⟩ dX3_counted_47 (pm2_0 _ _) rfl rfl (Nat.le_of_ble_eq_true rfl) ⟨Nat.le_of_ble_eq_true rfl, Nat.le_of_ble_eq_true rfl⟩ rfl ?_
  intro rr16 uu hrr
  have hrr : v14 = rr16 := Eq.symm hrr
  subst hrr
  refine x_perm (ws' := mC y aM M ++ zC y q1 10 f13) (pm2_0 _ _).symm ?_
  have hb17 : xin 5 10 = true := by decide
  obtain ⟨f18, ef18, hf⟩ := lt_elim hf
  refine x_iast (q := 51) (ws' := mC y aM M ++ zC y q1 10 f18) C 0 dX3_counted_50 ((zA y q1 10 f13).R) rfl hb17 (congrArg (fun z => mC y aM M ++ zC y q1 10 z) ef18.symm) rfl ?_
  refine x_dup (q := 52) C dX3_counted_51 rfl rfl ?_
  refine x_bipush (q := 54) C dX3_counted_52 kb_6 rfl ?_
  refine x_aload_n (q := 55) C 0 dX3_counted_54 rfl rfl rfl ?_
  obtain ⟨v19, hcal20, hf⟩ := bd_some hf
  refine x_callVi (q := 58) C (c3_dark (l := l) (D := D) (y := y) (aM := aM) hcal20) yi_X3_dark gX3_counted_X3_dark rfl (oX3 y aM M) rfl ⟨(Nat.le_of_ble_eq_true rfl), (Nat.le_of_ble_eq_true rfl)⟩ dX3_counted_55 (pm2_0 _ _) rfl rfl (Nat.le_of_ble_eq_true rfl) ⟨Nat.le_of_ble_eq_true rfl, Nat.le_of_ble_eq_true rfl⟩ rfl ?_
  intro rr21 uu hrr
  have hrr : v19 = rr21 := Eq.symm hrr
  subst hrr
  refine x_perm (ws' := mC y aM M ++ zC y q1 10 f18) (pm2_0 _ _).symm ?_
  have hb22 : xin 6 10 = true := by decide
  obtain ⟨f23, ef23, hf⟩ := lt_elim hf
  refine x_iast (q := 59) (ws' := mC y aM M ++ zC y q1 10 f23) C 0 dX3_counted_58 ((zA y q1 10 f18).R) rfl hb22 (congrArg (fun z => mC y aM M ++ zC y q1 10 z) ef23.symm) rfl ?_
  refine x_dup (q := 60) C dX3_counted_59 rfl rfl ?_
  refine x_bipush (q := 62) C dX3_counted_60 kb_7 rfl ?_
  refine x_aload_n (q := 63) C 0 dX3_counted_62 rfl rfl rfl ?_
  refine x_get (q := 66) C 4 dX3_counted_63 ((oX3 y aM M).L) rfl iuX3_counted_X3 flX3_counted_51 rfl (by decide) rfl rfl ?_
  have hb24 : xin 7 10 = true := by decide
  obtain ⟨f25, ef25, hf⟩ := lt_elim hf
  refine x_iast (q := 67) (ws' := mC y aM M ++ zC y q1 10 f25) C 0 dX3_counted_66 ((zA y q1 10 f23).R) rfl hb24 (congrArg (fun z => mC y aM M ++ zC y q1 10 z) ef25.symm) rfl ?_
  refine x_dup (q := 68) C dX3_counted_67 rfl rfl ?_
  refine x_bipush (q := 70) C dX3_counted_68 kb_8 rfl ?_
  refine x_aload_n (q := 71) C 0 dX3_counted_70 rfl rfl rfl ?_
  refine x_iconst (q := 72) C dX3_counted_71 ki_3 rfl ?_
  obtain ⟨v26, hcal27, hf⟩ := bd_some hf
  refine x_callVi (q := 75) C (c3_all (l := l) (D := D) (y := y) (aM := aM) hcal27) yi_X3_all gX3_counted_X3_all rfl (oX3 y aM M) rfl ⟨(Nat.le_of_ble_eq_true rfl), (Nat.le_of_ble_eq_true rfl)⟩ dX3_counted_72 (pm2_0 _ _) rfl rfl (Nat.le_of_ble_eq_true rfl) ⟨Nat.le_of_ble_eq_true rfl, Nat.le_of_ble_eq_true rfl⟩ rfl ?_
  intro rr28 uu hrr
  have hrr : v26 = rr28 := Eq.symm hrr
  subst hrr
  refine x_perm (ws' := mC y aM M ++ zC y q1 10 f25) (pm2_0 _ _).symm ?_
  have hb29 : xin 8 10 = true := by decide
  obtain ⟨f30, ef30, hf⟩ := lt_elim hf
  refine x_iast (q := 76) (ws' := mC y aM M ++ zC y q1 10 f30) C 0 dX3_counted_75 ((zA y q1 10 f25).R) rfl hb29 (congrArg (fun z => mC y aM M ++ zC y q1 10 z) ef30.symm) rfl ?_
  refine x_dup (q := 77) C dX3_counted_76 rfl rfl ?_
  refine x_bipush (q := 79) C dX3_counted_77 kb_9 rfl ?_
  refine x_aload_n (q := 80) C 0 dX3_counted_79 rfl rfl rfl ?_
  refine x_get (q := 83) C 12 dX3_counted_80 ((oX3 y aM M).L) rfl iuX3_counted_X3 flX3_counted_31 rfl (by decide) rfl rfl ?_
  refine x_iconst (q := 84) C dX3_counted_83 ki_2 rfl ?_
  have hb31 : xin 2 3 = true := by decide
  refine x_iald (q := 85) C 0 dX3_counted_84 ((aX3_12 y aM M).L) rfl hb31 rfl ?_
  have hb32 : xin 9 10 = true := by decide
  obtain ⟨f33, ef33, hf⟩ := lt_elim hf
  refine x_iast (q := 86) (ws' := mC y aM M ++ zC y q1 10 f33) C 0 dX3_counted_85 ((zA y q1 10 f30).R) rfl hb32 (congrArg (fun z => mC y aM M ++ zC y q1 10 z) ef33.symm) rfl ?_
  refine x_astore_n (q := 87) C [2, 0] [(1, .int p1), (2, .ref q1)] dX3_counted_86 rfl (by decide) rfl rfl ?_
  refine x_aload_n (q := 88) C 1 dX3_counted_87 rfl rfl rfl ?_
  refine x_iload_n (q := 89) C 0 dX3_counted_88 rfl rfl rfl ?_
  obtain ⟨hb34, hf⟩ := gd_some hf
  refine x_iald (q := 90) C 0 dX3_counted_89 ((zA y q1 10 f33).R) rfl hb34 rfl ?_
  have hf := Option.some.inj hf
  refine x_drop ?_
  exact x_iret () C dX3_counted_90 rfl hf rfl (Nat.le_of_ble_eq_true rfl) (Nat.le_of_ble_eq_true rfl)

/-! LampHillsModel.count(I)I -/
theorem flX3_count_34 : Cond.fieldLink RX3 34 "LampHillsModel" "thrown" "I" ∈ wsX3_count := by decide +kernel
theorem iuX3_count_X3 : ∀ w ∈ u_ws RX3 TX3 13, w ∈ wsX3_count := fun _ h => List.mem_cons_of_mem _ (List.mem_append_right _ h)
theorem yi_X3_counted : xY yX3_counted wsX3_counted cX3_counted 3 (some .int) 1 := ⟨⟨_, rfl⟩, by decide +kernel, by decide +kernel, by decide +kernel⟩
def f3_count (M : St) (p1 : Int32) : Option (Int32 × St) :=
  lt_ (up2 M 0 0 0) fun M1 =>
  bd (f3_isIn p1 0 9) fun v2 =>
  if v2 = 0 then
  (
    bd2 (f3_fail M1 1) fun v5 M6 =>
    some (v5, M6)
  )
  else
  (
    bd (f3_counted M1 p1) fun v9 =>
    some (v9, M1)
  )
set_option maxHeartbeats 4000000 in
set_option maxRecDepth 100000 in
theorem c3_count {l : Launch} {D : va_G} {y : Nat → ClassId} {aM : Nat → Nat} {M : St} {p1 : Int32} {r : Int32} {M' : St} (hf : f3_count M p1 = some (r, M')) : xMi l yX3_count wsX3_count 4 89 1 10 D (xT y) [.ref (aM 0), .int p1] (mC y aM M) (fun (r' : Int32) (_ : Unit) => r' = r) (fun _ : Unit => mC y aM M') := by
  refine xMi_of (cc := cX3_count) (nL := 2) (ret := (some .int)) [(0, .ref (aM 0)), (1, .int p1)] (by decide) rfl (Nat.le_of_ble_eq_true rfl) rfl ?_
  intro p e s m args below meth c A C hin
  have C : xC p s m args meth c D A cX3_count RX3 2 wsX3_count (xT y) (some .int) := C
  unfold f3_count at hf
  refine x_aload_n (q := 1) C 0 dX3_count_0 rfl rfl rfl ?_
  refine x_iconst (q := 2) C dX3_count_1 ki_0 rfl ?_
  obtain ⟨M1, eM1, hf⟩ := lt_elim hf
  refine x_puti (q := 5) (ws' := mC y aM M1) C tyX3 tyX3_ok nmX3 dX3_count_2 (iX3_0 y aM M) rfl iuX3_count_X3 flX3_count_34 rfl (by decide) rfl rfl (congrArg (fun z => mC y aM z) eM1.symm) rfl ?_
  refine x_iload_n (q := 6) C 1 dX3_count_5 rfl rfl rfl ?_
  refine x_iconst (q := 7) C dX3_count_6 ki_0 rfl ?_
  refine x_bipush (q := 9) C dX3_count_7 kb_9 rfl ?_
  obtain ⟨v2, hcal3, hf⟩ := bd_some hf
  refine x_callSi (q := 12) C (c3_isIn (l := l) (D := D) (y := y)  hcal3) yi_X3_isIn gX3_count_X3_isIn ⟨(Nat.le_of_ble_eq_true rfl), (Nat.le_of_ble_eq_true rfl)⟩ dX3_count_9 pm_emp rfl rfl (Nat.le_of_ble_eq_true rfl) ⟨Nat.le_of_ble_eq_true rfl, Nat.le_of_ble_eq_true rfl⟩ rfl ?_
  intro rr4 uu hrr
  have hrr : v2 = rr4 := Eq.symm hrr
  subst hrr
  refine x_world (ws' := mC y aM M1) rfl ?_
  refine x_if_eq (t := 23) (q := 15) C dX3_count_12 (by decide) rfl (fun hc => ?_) (fun hc => ?_)
  · have hf := (if_pos hc).symm.trans hf
    refine x_aload_n (q := 24) C 0 dX3_count_23 rfl rfl rfl ?_
    refine x_iconst (q := 25) C dX3_count_24 ki_1 rfl ?_
    obtain ⟨v5, M6, hcal7, hf⟩ := bd2_some hf
    refine x_callVi (q := 28) C (c3_fail (l := l) (D := D) (y := y) (aM := aM) hcal7) yi_X3_fail gX3_count_X3_fail rfl (oX3 y aM M1) rfl ⟨(Nat.le_of_ble_eq_true rfl), (Nat.le_of_ble_eq_true rfl)⟩ dX3_count_25 pm_nil rfl rfl (Nat.le_of_ble_eq_true rfl) ⟨Nat.le_of_ble_eq_true rfl, Nat.le_of_ble_eq_true rfl⟩ rfl ?_
    intro rr8 uu hrr
    have hrr : v5 = rr8 := Eq.symm hrr
    subst hrr
    refine x_world (ws' := mC y aM M6) (List.append_nil _) ?_
    have hf := Option.some.inj hf
    obtain ⟨hr0, hr1⟩ := Prod.mk.inj hf
    exact x_iret () C dX3_count_28 rfl hr0 (congrArg (fun z => mC y aM z) hr1) (Nat.le_of_ble_eq_true rfl) (Nat.le_of_ble_eq_true rfl)
  · have hf := (if_neg hc).symm.trans hf
    refine x_aload_n (q := 16) C 0 dX3_count_15 rfl rfl rfl ?_
    refine x_iload_n (q := 17) C 1 dX3_count_16 rfl rfl rfl ?_
    obtain ⟨v9, hcal10, hf⟩ := bd_some hf
    refine x_callVi (q := 20) C (c3_counted (l := l) (D := D) (y := y) (aM := aM) hcal10) yi_X3_counted gX3_count_X3_counted rfl (oX3 y aM M1) rfl ⟨(Nat.le_of_ble_eq_true rfl), (Nat.le_of_ble_eq_true rfl)⟩ dX3_count_17 pm_nil rfl rfl (Nat.le_of_ble_eq_true rfl) ⟨Nat.le_of_ble_eq_true rfl, Nat.le_of_ble_eq_true rfl⟩ rfl ?_
    intro rr11 uu hrr
    have hrr : v9 = rr11 := Eq.symm hrr
    subst hrr
    refine x_widen (k' := 1) (n' := 10) (Nat.le_of_ble_eq_true rfl) (Nat.le_of_ble_eq_true rfl) ?_
    refine x_world (ws' := mC y aM M1) (List.append_nil _) ?_
    refine x_goto (t := 28) C dX3_count_20 (by decide) ?_
    have hf := Option.some.inj hf
    obtain ⟨hr0, hr1⟩ := Prod.mk.inj hf
    exact x_iret () C dX3_count_28 rfl hr0 (congrArg (fun z => mC y aM z) hr1) (Nat.le_of_ble_eq_true rfl) (Nat.le_of_ble_eq_true rfl)

/-! LampHillsModel.corner(II)I -/
def f3_corner_ (M : St) (p1 : Int32) (p2 : Int32) : Option (Int32) :=
  bd (f3_la M p2 0) fun v1 =>
  bd (f3_ro M v1 0) fun v4 =>
  bd (f3_la M p2 0) fun v7 =>
  bd (f3_ro M v7 1) fun v10 =>
  bd (f3_pe M p1 1) fun v13 =>
  bd (f3_away M v13 v10) fun v16 =>
  bd (f3_pe M p1 1) fun v19 =>
  bd (f3_away M v19 v4) fun v22 =>
  lt_ (fun (v25 : Int32) =>
  (
    bd (f3_la M p2 1) fun v26 =>
    bd (f3_pe M p1 2) fun v29 =>
    lt_ (fun (u_ : Unit) =>
    (
      some (-1)
    )
    ) fun J94 =>
    if (v29 + 2) < v26 then
    (
      J94 ()
    )
    else
    (
      bd (f3_pe M p1 1) fun v32 =>
      bd (f3_away M v32 v25) fun v35 =>
      if v35 = 9999 then
      (
        J94 ()
      )
      else
      (
        some v25
      )
    )
  )
  ) fun J57 =>
  if v22 ≤ v16 then
  (
    J57 v4
  )
  else
  (
    J57 v10
  )
set_option maxHeartbeats 4000000 in
set_option maxRecDepth 100000 in
theorem c3_corner_ {l : Launch} {D : va_G} {y : Nat → ClassId} {aM : Nat → Nat} {M : St} {p1 : Int32} {p2 : Int32} {r : Int32} (hf : f3_corner_ M p1 p2 = some r) : xMi l yX3_corner_ wsX3_corner_ 2 70 0 0 D (xT y) [.ref (aM 0), .int p1, .int p2] (mC y aM M) (fun (r' : Int32) (_ : Unit) => r' = r) (fun _ : Unit => mC y aM M) := by
  refine xMi_of (cc := cX3_corner_) (nL := 6) (ret := (some .int)) [(0, .ref (aM 0)), (1, .int p1), (2, .int p2)] (by decide) rfl (Nat.le_of_ble_eq_true rfl) rfl ?_
  intro p e s m args below meth c A C hin
  have C : xC p s m args meth c D A cX3_corner_ RX3 6 wsX3_corner_ (xT y) (some .int) := C
  unfold f3_corner_ at hf
  refine x_aload_n (q := 1) C 0 dX3_corner__0 rfl rfl rfl ?_
  refine x_aload_n (q := 2) C 0 dX3_corner__1 rfl rfl rfl ?_
  refine x_iload_n (q := 3) C 2 dX3_corner__2 rfl rfl rfl ?_
  refine x_iconst (q := 4) C dX3_corner__3 ki_0 rfl ?_
  obtain ⟨v1, hcal2, hf⟩ := bd_some hf
  refine x_callVi (q := 7) C (c3_la (l := l) (D := D) (y := y) (aM := aM) hcal2) yi_X3_la gX3_corner__X3_la rfl (oX3 y aM M) rfl ⟨(Nat.le_of_ble_eq_true rfl), (Nat.le_of_ble_eq_true rfl)⟩ dX3_corner__4 pm_nil rfl rfl (Nat.le_of_ble_eq_true rfl) ⟨Nat.le_of_ble_eq_true rfl, Nat.le_of_ble_eq_true rfl⟩ rfl ?_
  intro rr3 uu hrr
  have hrr : v1 = rr3 := Eq.symm hrr
  subst hrr
  refine x_world (ws' := mC y aM M) (List.append_nil _) ?_
  refine x_iconst (q := 8) C dX3_corner__7 ki_0 rfl ?_
  obtain ⟨v4, hcal5, hf⟩ := bd_some hf
  refine x_callVi (q := 11) C (c3_ro (l := l) (D := D) (y := y) (aM := aM) hcal5) yi_X3_ro gX3_corner__X3_ro rfl (oX3 y aM M) rfl ⟨(Nat.le_of_ble_eq_true rfl), (Nat.le_of_ble_eq_true rfl)⟩ dX3_corner__8 pm_nil rfl rfl (Nat.le_of_ble_eq_true rfl) ⟨Nat.le_of_ble_eq_true rfl, Nat.le_of_ble_eq_true rfl⟩ rfl ?_
  intro rr6 uu hrr
  have hrr : v4 = rr6 := Eq.symm hrr
  subst hrr
  refine x_world (ws' := mC y aM M) (List.append_nil _) ?_
  refine x_istore_n (q := 12) C [1, 2, 3, 0] [(0, .ref (aM 0)), (1, .int p1), (2, .int p2), (3, .int v4)] dX3_corner__11 rfl (by decide) rfl rfl ?_
  refine x_aload_n (q := 13) C 0 dX3_corner__12 rfl rfl rfl ?_
  refine x_aload_n (q := 14) C 0 dX3_corner__13 rfl rfl rfl ?_
  refine x_iload_n (q := 15) C 2 dX3_corner__14 rfl rfl rfl ?_
  refine x_iconst (q := 16) C dX3_corner__15 ki_0 rfl ?_
  obtain ⟨v7, hcal8, hf⟩ := bd_some hf
  refine x_callVi (q := 19) C (c3_la (l := l) (D := D) (y := y) (aM := aM) hcal8) yi_X3_la gX3_corner__X3_la rfl (oX3 y aM M) rfl ⟨(Nat.le_of_ble_eq_true rfl), (Nat.le_of_ble_eq_true rfl)⟩ dX3_corner__16 pm_nil rfl rfl (Nat.le_of_ble_eq_true rfl) ⟨Nat.le_of_ble_eq_true rfl, Nat.le_of_ble_eq_true rfl⟩ rfl ?_
  intro rr9 uu hrr
  have hrr : v7 = rr9 := Eq.symm hrr
  subst hrr
  refine x_world (ws' := mC y aM M) (List.append_nil _) ?_
  refine x_iconst (q := 20) C dX3_corner__19 ki_1 rfl ?_
  obtain ⟨v10, hcal11, hf⟩ := bd_some hf
  refine x_callVi (q := 23) C (c3_ro (l := l) (D := D) (y := y) (aM := aM) hcal11) yi_X3_ro gX3_corner__X3_ro rfl (oX3 y aM M) rfl ⟨(Nat.le_of_ble_eq_true rfl), (Nat.le_of_ble_eq_true rfl)⟩ dX3_corner__20 pm_nil rfl rfl (Nat.le_of_ble_eq_true rfl) ⟨Nat.le_of_ble_eq_true rfl, Nat.le_of_ble_eq_true rfl⟩ rfl ?_
  intro rr12 uu hrr
  have hrr : v10 = rr12 := Eq.symm hrr
  subst hrr
  refine x_world (ws' := mC y aM M) (List.append_nil _) ?_
  refine x_istore (q := 25) C [1, 2, 3, 4, 0] [(0, .ref (aM 0)), (1, .int p1), (2, .int p2), (3, .int v4), (4, .int v10)] dX3_corner__23 (by decide) rfl rfl ?_
  refine x_aload_n (q := 26) C 0 dX3_corner__25 rfl rfl rfl ?_
  refine x_aload_n (q := 27) C 0 dX3_corner__26 rfl rfl rfl ?_
  refine x_iload_n (q := 28) C 1 dX3_corner__27 rfl rfl rfl ?_
  refine x_iconst (q := 29) C dX3_corner__28 ki_1 rfl ?_
  obtain ⟨v13, hcal14, hf⟩ := bd_some hf
  refine x_callVi (q := 32) C (c3_pe (l := l) (D := D) (y := y) (aM := aM) hcal14) yi_X3_pe gX3_corner__X3_pe rfl (oX3 y aM M) rfl ⟨(Nat.le_of_ble_eq_true rfl), (Nat.le_of_ble_eq_true rfl)⟩ dX3_corner__29 pm_nil rfl rfl (Nat.le_of_ble_eq_true rfl) ⟨Nat.le_of_ble_eq_true rfl, Nat.le_of_ble_eq_true rfl⟩ rfl ?_
  intro rr15 uu hrr
  have hrr : v13 = rr15 := Eq.symm hrr
  subst hrr
  refine x_world (ws' := mC y aM M) (List.append_nil _) ?_
  refine x_iload (q := 34) C 4 dX3_corner__32 rfl rfl ?_
  obtain ⟨v16, hcal17, hf⟩ := bd_some hf
  refine x_callVi (q := 37) C (c3_away (l := l) (D := D) (y := y) (aM := aM) hcal17) yi_X3_away gX3_corner__X3_away rfl (oX3 y aM M) rfl ⟨(Nat.le_of_ble_eq_true rfl), (Nat.le_of_ble_eq_true rfl)⟩ dX3_corner__34 pm_nil rfl rfl (Nat.le_of_ble_eq_true rfl) ⟨Nat.le_of_ble_eq_true rfl, Nat.le_of_ble_eq_true rfl⟩ rfl ?_
  intro rr18 uu hrr
  have hrr : v16 = rr18 := Eq.symm hrr
  subst hrr
  refine x_world (ws' := mC y aM M) (List.append_nil _) ?_
  refine x_aload_n (q := 38) C 0 dX3_corner__37 rfl rfl rfl ?_
  refine x_aload_n (q := 39) C 0 dX3_corner__38 rfl rfl rfl ?_
  refine x_iload_n (q := 40) C 1 dX3_corner__39 rfl rfl rfl ?_
  refine x_iconst (q := 41) C dX3_corner__40 ki_1 rfl ?_
  obtain ⟨v19, hcal20, hf⟩ := bd_some hf
  refine x_callVi (q := 44) C (c3_pe (l := l) (D := D) (y := y) (aM := aM) hcal20) yi_X3_pe gX3_corner__X3_pe rfl (oX3 y aM M) rfl ⟨(Nat.le_of_ble_eq_true rfl), (Nat.le_of_ble_eq_true rfl)⟩ dX3_corner__41 pm_nil rfl rfl (Nat.le_of_ble_eq_true rfl) ⟨Nat.le_of_ble_eq_true rfl, Nat.le_of_ble_eq_true rfl⟩ rfl ?_
  intro rr21 uu hrr
  have hrr : v19 = rr21 := Eq.symm hrr
  subst hrr
  refine x_world (ws' := mC y aM M) (List.append_nil _) ?_
  refine x_iload_n (q := 45) C 3 dX3_corner__44 rfl rfl rfl ?_
  obtain ⟨v22, hcal23, hf⟩ := bd_some hf
  refine x_callVi (q := 48) C (c3_away (l := l) (D := D) (y := y) (aM := aM) hcal23) yi_X3_away gX3_corner__X3_away rfl (oX3 y aM M) rfl ⟨(Nat.le_of_ble_eq_true rfl), (Nat.le_of_ble_eq_true rfl)⟩ dX3_corner__45 pm_nil rfl rfl (Nat.le_of_ble_eq_true rfl) ⟨Nat.le_of_ble_eq_true rfl, Nat.le_of_ble_eq_true rfl⟩ rfl ?_
  intro rr24 uu hrr
  have hrr : v22 = rr24 := Eq.symm hrr
  subst hrr
  refine x_world (ws' := mC y aM M) (List.append_nil _) ?_
  obtain ⟨J57, eJ57, hf⟩ := lt_elim hf
  have hJ57 : ∀ (v25 : Int32), J57 v25 = some r → xV p l e { frames := 2, cells := 0, slots := 0, locals := 70 } s m args below meth c D A (xQi D (xT y) A (fun (r' : Int32) (_ : Unit) => r' = r) (fun _ : Unit => mC y aM M) 0 0 below args s) 6 (mC y aM M) 0 0 [(0, .ref (aM 0)), (1, .int p1), (2, .int p2)] 57 [.int v25] := by
    intro v25 hf
    subst eJ57
    refine x_istore (q := 59) C [1, 2, 3, 0] [(0, .ref (aM 0)), (1, .int p1), (2, .int p2), (5, .int v25)] dX3_corner__57 (by decide) rfl rfl ?_
    refine x_aload_n (q := 60) C 0 dX3_corner__59 rfl rfl rfl ?_
    refine x_iload_n (q := 61) C 2 dX3_corner__60 rfl rfl rfl ?_
    refine x_iconst (q := 62) C dX3_corner__61 ki_1 rfl ?_
    obtain ⟨v26, hcal27, hf⟩ := bd_some hf
    refine x_callVi (q := 65) C (c3_la (l := l) (D := D) (y := y) (aM := aM) hcal27) yi_X3_la gX3_corner__X3_la rfl (oX3 y aM M) rfl ⟨(Nat.le_of_ble_eq_true rfl), (Nat.le_of_ble_eq_true rfl)⟩ dX3_corner__62 pm_nil rfl rfl (Nat.le_of_ble_eq_true rfl) ⟨Nat.le_of_ble_eq_true rfl, Nat.le_of_ble_eq_true rfl⟩ rfl ?_
    intro rr28 uu hrr
    have hrr : v26 = rr28 := Eq.symm hrr
    subst hrr
    refine x_world (ws' := mC y aM M) (List.append_nil _) ?_
    refine x_aload_n (q := 66) C 0 dX3_corner__65 rfl rfl rfl ?_
    refine x_iload_n (q := 67) C 1 dX3_corner__66 rfl rfl rfl ?_
    refine x_iconst (q := 68) C dX3_corner__67 ki_2 rfl ?_
    obtain ⟨v29, hcal30, hf⟩ := bd_some hf
    refine x_callVi (q := 71) C (c3_pe (l := l) (D := D) (y := y) (aM := aM) hcal30) yi_X3_pe gX3_corner__X3_pe rfl (oX3 y aM M) rfl ⟨(Nat.le_of_ble_eq_true rfl), (Nat.le_of_ble_eq_true rfl)⟩ dX3_corner__68 pm_nil rfl rfl (Nat.le_of_ble_eq_true rfl) ⟨Nat.le_of_ble_eq_true rfl, Nat.le_of_ble_eq_true rfl⟩ rfl ?_
    intro rr31 uu hrr
    have hrr : v29 = rr31 := Eq.symm hrr
    subst hrr
    refine x_world (ws' := mC y aM M) (List.append_nil _) ?_
    refine x_iconst (q := 72) C dX3_corner__71 ki_2 rfl ?_
    refine x_iadd (q := 73) C dX3_corner__72 rfl ?_
    obtain ⟨J94, eJ94, hf⟩ := lt_elim hf
    have hJ94 : ∀ (u_ : Unit), J94 u_ = some r → xV p l e { frames := 2, cells := 0, slots := 0, locals := 70 } s m args below meth c D A (xQi D (xT y) A (fun (r' : Int32) (_ : Unit) => r' = r) (fun _ : Unit => mC y aM M) 0 0 below args s) 6 (mC y aM M) 0 0 [] 94 [] := by
      intro u_ hf
      subst eJ94
      refine x_iconst (q := 95) C dX3_corner__94 ki_m1 rfl ?_
      refine x_goto (t := 100) C dX3_corner__95 (by decide) ?_
      have hf := Option.some.inj hf
      exact x_iret () C dX3_corner__100 rfl hf rfl (Nat.le_of_ble_eq_true rfl) (Nat.le_of_ble_eq_true rfl)
    refine x_icmp_gt (t := 94) (q := 76) C dX3_corner__73 (by decide) rfl (fun hc => ?_) (fun hc => ?_)
    · have hf := (if_pos hc).symm.trans hf
      refine x_sub [] (L' := []) rfl ?_
      exact hJ94 () hf
    · have hf := (if_neg hc).symm.trans hf
      refine x_aload_n (q := 77) C 0 dX3_corner__76 rfl rfl rfl ?_
      refine x_aload_n (q := 78) C 0 dX3_corner__77 rfl rfl rfl ?_
      refine x_iload_n (q := 79) C 1 dX3_corner__78 rfl rfl rfl ?_
      refine x_iconst (q := 80) C dX3_corner__79 ki_1 rfl ?_
      obtain ⟨v32, hcal33, hf⟩ := bd_some hf
      refine x_callVi (q := 83) C (c3_pe (l := l) (D := D) (y := y) (aM := aM) hcal33) yi_X3_pe gX3_corner__X3_pe rfl (oX3 y aM M) rfl ⟨(Nat.le_of_ble_eq_true rfl), (Nat.le_of_ble_eq_true rfl)⟩ dX3_corner__80 pm_nil rfl rfl (Nat.le_of_ble_eq_true rfl) ⟨Nat.le_of_ble_eq_true rfl, Nat.le_of_ble_eq_true rfl⟩ rfl ?_
      intro rr34 uu hrr
      have hrr : v32 = rr34 := Eq.symm hrr
      subst hrr
      refine x_world (ws' := mC y aM M) (List.append_nil _) ?_
      refine x_iload (q := 85) C 3 dX3_corner__83 rfl rfl ?_
      obtain ⟨v35, hcal36, hf⟩ := bd_some hf
      refine x_callVi (q := 88) C (c3_away (l := l) (D := D) (y := y) (aM := aM) hcal36) yi_X3_away gX3_corner__X3_away rfl (oX3 y aM M) rfl ⟨(Nat.le_of_ble_eq_true rfl), (Nat.le_of_ble_eq_true rfl)⟩ dX3_corner__85 pm_nil rfl rfl (Nat.le_of_ble_eq_true rfl) ⟨Nat.le_of_ble_eq_true rfl, Nat.le_of_ble_eq_true rfl⟩ rfl ?_
      intro rr37 uu hrr
      have hrr : v35 = rr37 := Eq.symm hrr
      subst hrr
      refine x_world (ws' := mC y aM M) (List.append_nil _) ?_
      refine x_sipush (q := 91) C dX3_corner__88 ks_9999 rfl ?_
      refine x_icmp_ne (t := 98) (q := 94) C dX3_corner__91 (by decide) rfl (fun hc => ?_) (fun hc => ?_)
      · have hf := (if_neg hc).symm.trans hf
        refine x_iload (q := 100) C 3 dX3_corner__98 rfl rfl ?_
        have hf := Option.some.inj hf
        exact x_iret () C dX3_corner__100 rfl hf rfl (Nat.le_of_ble_eq_true rfl) (Nat.le_of_ble_eq_true rfl)
      · have hf := (if_pos hc).symm.trans hf
        refine x_sub [] (L' := []) rfl ?_
        exact hJ94 () hf
  refine x_icmp_ge (t := 56) (q := 51) C dX3_corner__48 (by decide) rfl (fun hc => ?_) (fun hc => ?_)
  · have hf := (if_pos hc).symm.trans hf
    refine x_iload_n (q := 57) C 3 dX3_corner__56 rfl rfl rfl ?_
    refine x_sub [0, 1, 2] (L' := [(0, .ref (aM 0)), (1, .int p1), (2, .int p2)]) rfl ?_
    exact hJ57 v4 hf
  · have hf := (if_neg hc).symm.trans hf
    refine x_iload (q := 53) C 4 dX3_corner__51 rfl rfl ?_
    refine x_goto (t := 57) C dX3_corner__53 (by decide) ?_
    refine x_sub [0, 1, 2] (L' := [(0, .ref (aM 0)), (1, .int p1), (2, .int p2)]) rfl ?_
    exact hJ57 v10 hf

/-! LampHillsModel.look(I)V -/
theorem flX3_look_25 : Cond.fieldLink RX3 25 "LampHillsModel" "rounds" "[I" ∈ wsX3_look := by decide +kernel
theorem iuX3_look_X3 : ∀ w ∈ u_ws RX3 TX3 13, w ∈ wsX3_look := fun _ h => List.mem_cons_of_mem _ (List.mem_append_right _ h)
theorem yi_X3_corner_ : xY yX3_corner_ wsX3_corner_ cX3_corner_ 6 (some .int) 2 := ⟨⟨_, rfl⟩, by decide +kernel, by decide +kernel, by decide +kernel⟩
def f3_look_L9 (p1 : Int32) (v1 : Int32) (M : St) (K : Int32 → Int32 → Option (St)) : Nat → Int32 → Option (St)
  | 0, _ => none
  | fu + 1, v4 =>
  if v1 < v4 then
  (
    some M
  )
  else
  (
    bd (f3_pe M p1 8) fun v7 =>
    gd (decide (¬ v1 = 0)) <|
    lt_ ((v7 + v4) - (v7 + v4) / v1 * v1) fun v11 =>
    gd (xin ((10 * p1) + v11) 40) <|
    lt_ (M 10 ((10 * p1) + v11).toNatClampNeg) fun v13 =>
    bd (f3_la M v13 5) fun v14 =>
    lt_ (fun (u_ : Unit) =>
    (
      f3_look_L9 p1 v1 M K fu (v4 + 1)
    )
    ) fun J154 =>
    if v14 = 1 then
    (
      J154 ()
    )
    else
    (
      bd (f3_goer M v13) fun v17 =>
      if v17 = (-1) then
      (
        bd (f3_corner_ M p1 v13) fun v20 =>
        if v20 = (-1) then
        (
          J154 ()
        )
        else
        (
          K v11 v13
        )
      )
      else
      (
        J154 ()
      )
    )
  )
def f3_look (M : St) (p1 : Int32) : Option (St) :=
  bd (f3_pe M p1 4) fun v1 =>
  f3_look_L9 p1 v1 M (fun (v5 : Int32) (v6 : Int32) =>
  (
    bd (f3_pe M p1 3) fun v23 =>
    lt_ (fun (u_ : Unit) =>
    (
      bd (f3_put M p1 5 v6) fun M26 =>
      bd (f3_corner_ M26 p1 v6) fun v28 =>
      bd (f3_put M26 p1 7 v28) fun M31 =>
      bd (f3_pe M31 p1 1) fun v33 =>
      bd (f3_pe M31 p1 7) fun v36 =>
      bd (f3_away M31 v33 v36) fun v39 =>
      bd (f3_put M31 p1 6 (v39 + 3)) fun M42 =>
      bd (f3_put M42 p1 8 v5) fun M44 =>
      some M44
    )
    ) fun J96 =>
    if v23 = 0 then
    (
      bd (f3_la M v6 3) fun v46 =>
      if v46 = 0 then
      (
        some M
      )
      else
      (
        J96 ()
      )
    )
    else
    (
      J96 ()
    )
  )
  ) xF 1
set_option maxHeartbeats 4000000 in
set_option maxRecDepth 100000 in
theorem w3_look_L9 {p : Program} {l : Launch} {e : Env} {s : State} {m : MethodId} {args : Array Value} {below : List Frame} {meth : Method} {c : Code} {D : va_G} {A : Nat → Prop} {y : Nat → ClassId} {aM : Nat → Nat} {M : St} {p1 : Int32} {v1 : Int32} {M' : St} {K : Int32 → Int32 → Option (St)} (C : xC p s m args meth c D A cX3_look RX3 6 wsX3_look (xT y) none) (hK : ∀ (v5 : Int32) (v6 : Int32), K v5 v6 = some M' → xV p l e { frames := 3, cells := 0, slots := 0, locals := 95 } s m args below meth c D A (xQv D (xT y) A (fun (_ : Unit) => True) (fun _ : Unit => mC y aM M') 0 0 below args s) 6 (mC y aM M) 0 0 [(0, .ref (aM 0)), (1, .int p1), (4, .int v5), (5, .int v6)] 76 []) : ∀ (fu : Nat) (v4 : Int32), f3_look_L9 p1 v1 M K fu v4 = some M' → xV p l e { frames := 3, cells := 0, slots := 0, locals := 95 } s m args below meth c D A (xQv D (xT y) A (fun (_ : Unit) => True) (fun _ : Unit => mC y aM M') 0 0 below args s) 6 (mC y aM M) 0 0 [(0, .ref (aM 0)), (1, .int p1), (2, .int v1), (3, .int v4)] 9 [] := by
  intro fu
  induction fu with
  | zero => intro v4 hf; rw [f3_look_L9] at hf; cases hf
  | succ fu ih =>
    intro v4 hf
    rw [f3_look_L9] at hf
    refine x_iload_n (q := 10) C 3 dX3_look_9 rfl rfl rfl ?_
    refine x_iload_n (q := 11) C 2 dX3_look_10 rfl rfl rfl ?_
    refine x_icmp_gt (t := 160) (q := 14) C dX3_look_11 (by decide) rfl (fun hc => ?_) (fun hc => ?_)
    · have hf := (if_pos hc).symm.trans hf
      have hf := Option.some.inj hf
      exact x_vret () C dX3_look_160 rfl trivial (congrArg (fun z => mC y aM z) hf) (Nat.le_of_ble_eq_true rfl) (Nat.le_of_ble_eq_true rfl)
    · have hf := (if_neg hc).symm.trans hf
      refine x_aload_n (q := 15) C 0 dX3_look_14 rfl rfl rfl ?_
      refine x_iload_n (q := 16) C 1 dX3_look_15 rfl rfl rfl ?_
      refine x_bipush (q := 18) C dX3_look_16 kb_8 rfl ?_
      obtain ⟨v7, hcal8, hf⟩ := bd_some hf
      refine x_callVi (q := 21) C (c3_pe (l := l) (D := D) (y := y) (aM := aM) hcal8) yi_X3_pe gX3_look_X3_pe rfl (oX3 y aM M) rfl ⟨(Nat.le_of_ble_eq_true rfl), (Nat.le_of_ble_eq_true rfl)⟩ dX3_look_18 pm_nil rfl rfl (Nat.le_of_ble_eq_true rfl) ⟨Nat.le_of_ble_eq_true rfl, Nat.le_of_ble_eq_true rfl⟩ rfl ?_
      intro rr9 uu hrr
      have hrr : v7 = rr9 := Eq.symm hrr
      subst hrr
      refine x_world (ws' := mC y aM M) (List.append_nil _) ?_
      refine x_iload_n (q := 22) C 3 dX3_look_21 rfl rfl rfl ?_
      refine x_iadd (q := 23) C dX3_look_22 rfl ?_
      refine x_iload_n (q := 24) C 2 dX3_look_23 rfl rfl rfl ?_
      obtain ⟨hz10, hf⟩ := gd_some hf
      refine x_irem (q := 25) C dX3_look_24 (of_decide_eq_true hz10) rfl ?_
      obtain ⟨v11, ev11, hf⟩ := lt_elim hf
      refine x_topi ev11 ?_
      refine x_istore (q := 27) C [1, 2, 3, 4, 0] [(0, .ref (aM 0)), (1, .int p1), (2, .int v1), (3, .int v4), (4, .int v11)] dX3_look_25 (by decide) rfl rfl ?_
      refine x_aload_n (q := 28) C 0 dX3_look_27 rfl rfl rfl ?_
      refine x_get (q := 31) C 10 dX3_look_28 (oX3 y aM M) rfl iuX3_look_X3 flX3_look_25 rfl (by decide) rfl rfl ?_
      refine x_bipush (q := 33) C dX3_look_31 kb_10 rfl ?_
      refine x_iload_n (q := 34) C 1 dX3_look_33 rfl rfl rfl ?_
      refine x_imul (q := 35) C dX3_look_34 rfl ?_
      refine x_iload (q := 37) C 4 dX3_look_35 rfl rfl ?_
      refine x_iadd (q := 38) C dX3_look_37 rfl ?_
      obtain ⟨hb12, hf⟩ := gd_some hf
      refine x_iald (q := 39) C 0 dX3_look_38 (aX3_10 y aM M) rfl hb12 rfl ?_
      obtain ⟨v13, ev13, hf⟩ := lt_elim hf
      refine x_topi ev13 ?_
      refine x_istore (q := 41) C [1, 2, 3, 4, 5, 0] [(0, .ref (aM 0)), (1, .int p1), (2, .int v1), (3, .int v4), (4, .int v11), (5, .int v13)] dX3_look_39 (by decide) rfl rfl ?_
      refine x_aload_n (q := 42) C 0 dX3_look_41 rfl rfl rfl ?_
      refine x_iload (q := 44) C 5 dX3_look_42 rfl rfl ?_
      refine x_iconst (q := 45) C dX3_look_44 ki_5 rfl ?_
      obtain ⟨v14, hcal15, hf⟩ := bd_some hf
      refine x_callVi (q := 48) C (c3_la (l := l) (D := D) (y := y) (aM := aM) hcal15) yi_X3_la gX3_look_X3_la rfl (oX3 y aM M) rfl ⟨(Nat.le_of_ble_eq_true rfl), (Nat.le_of_ble_eq_true rfl)⟩ dX3_look_45 pm_nil rfl rfl (Nat.le_of_ble_eq_true rfl) ⟨Nat.le_of_ble_eq_true rfl, Nat.le_of_ble_eq_true rfl⟩ rfl ?_
      intro rr16 uu hrr
      have hrr : v14 = rr16 := Eq.symm hrr
      subst hrr
      refine x_world (ws' := mC y aM M) (List.append_nil _) ?_
      refine x_iconst (q := 49) C dX3_look_48 ki_1 rfl ?_
      obtain ⟨J154, eJ154, hf⟩ := lt_elim hf
      have hJ154 : ∀ (u_ : Unit), J154 u_ = some M' → xV p l e { frames := 3, cells := 0, slots := 0, locals := 95 } s m args below meth c D A (xQv D (xT y) A (fun (_ : Unit) => True) (fun _ : Unit => mC y aM M') 0 0 below args s) 6 (mC y aM M) 0 0 [(0, .ref (aM 0)), (1, .int p1), (2, .int v1), (3, .int v4)] 154 [] := by
        intro u_ hf
        subst eJ154
        refine x_iinc (q := 157) C 3 (v4 + 1) [1, 2, 3, 0] [(0, .ref (aM 0)), (1, .int p1), (2, .int v1), (3, .int (v4 + 1))] dX3_look_154 rfl (congrArg (fun z => v4 + z) ki_1) (by decide) rfl rfl ?_
        refine x_goto (t := 9) C dX3_look_157 (by decide) ?_
        exact ih (v4 + 1) hf
      refine x_icmp_eq (t := 154) (q := 52) C dX3_look_49 (by decide) rfl (fun hc => ?_) (fun hc => ?_)
      · have hf := (if_pos hc).symm.trans hf
        refine x_sub [0, 1, 2, 3] (L' := [(0, .ref (aM 0)), (1, .int p1), (2, .int v1), (3, .int v4)]) rfl ?_
        exact hJ154 () hf
      · have hf := (if_neg hc).symm.trans hf
        refine x_aload_n (q := 53) C 0 dX3_look_52 rfl rfl rfl ?_
        refine x_iload (q := 55) C 5 dX3_look_53 rfl rfl ?_
        obtain ⟨v17, hcal18, hf⟩ := bd_some hf
        refine x_callVi (q := 58) C (c3_goer (l := l) (D := D) (y := y) (aM := aM) hcal18) yi_X3_goer gX3_look_X3_goer rfl (oX3 y aM M) rfl ⟨(Nat.le_of_ble_eq_true rfl), (Nat.le_of_ble_eq_true rfl)⟩ dX3_look_55 pm_nil rfl rfl (Nat.le_of_ble_eq_true rfl) ⟨Nat.le_of_ble_eq_true rfl, Nat.le_of_ble_eq_true rfl⟩ rfl ?_
        intro rr19 uu hrr
        have hrr : v17 = rr19 := Eq.symm hrr
        subst hrr
        refine x_world (ws' := mC y aM M) (List.append_nil _) ?_
        refine x_iconst (q := 59) C dX3_look_58 ki_m1 rfl ?_
        refine x_icmp_ne (t := 154) (q := 62) C dX3_look_59 (by decide) rfl (fun hc => ?_) (fun hc => ?_)
        · have hf := (if_neg hc).symm.trans hf
          refine x_sub [0, 1, 2, 3] (L' := [(0, .ref (aM 0)), (1, .int p1), (2, .int v1), (3, .int v4)]) rfl ?_
          exact hJ154 () hf
        · have hf := (if_pos hc).symm.trans hf
          refine x_aload_n (q := 63) C 0 dX3_look_62 rfl rfl rfl ?_
          refine x_iload_n (q := 64) C 1 dX3_look_63 rfl rfl rfl ?_
          refine x_iload (q := 66) C 5 dX3_look_64 rfl rfl ?_
          obtain ⟨v20, hcal21, hf⟩ := bd_some hf
          refine x_callVi (q := 69) C (c3_corner_ (l := l) (D := D) (y := y) (aM := aM) hcal21) yi_X3_corner_ gX3_look_X3_corner_ rfl (oX3 y aM M) rfl ⟨(Nat.le_of_ble_eq_true rfl), (Nat.le_of_ble_eq_true rfl)⟩ dX3_look_66 pm_nil rfl rfl (Nat.le_of_ble_eq_true rfl) ⟨Nat.le_of_ble_eq_true rfl, Nat.le_of_ble_eq_true rfl⟩ rfl ?_
          intro rr22 uu hrr
          have hrr : v20 = rr22 := Eq.symm hrr
          subst hrr
          refine x_world (ws' := mC y aM M) (List.append_nil _) ?_
          refine x_iconst (q := 70) C dX3_look_69 ki_m1 rfl ?_
          refine x_icmp_ne (t := 76) (q := 73) C dX3_look_70 (by decide) rfl (fun hc => ?_) (fun hc => ?_)
          · have hf := (if_neg hc).symm.trans hf
            refine x_sub [0, 1, 4, 5] (L' := [(0, .ref (aM 0)), (1, .int p1), (4, .int v11), (5, .int v13)]) rfl ?_
            exact hK v11 v13 hf
          · have hf := (if_pos hc).symm.trans hf
            refine x_goto (t := 154) C dX3_look_73 (by decide) ?_
            refine x_sub [0, 1, 2, 3] (L' := [(0, .ref (aM 0)), (1, .int p1), (2, .int v1), (3, .int v4)]) rfl ?_
            exact hJ154 () hf
set_option maxHeartbeats 4000000 in
set_option maxRecDepth 100000 in
theorem c3_look {l : Launch} {D : va_G} {y : Nat → ClassId} {aM : Nat → Nat} {M : St} {p1 : Int32} {M' : St} (hf : f3_look M p1 = some M') : xMv l yX3_look wsX3_look 3 95 0 0 D (xT y) [.ref (aM 0), .int p1] (mC y aM M) (fun (_ : Unit) => True) (fun _ : Unit => mC y aM M') := by
  refine xMv_of (cc := cX3_look) (nL := 6) (ret := none) [(0, .ref (aM 0)), (1, .int p1)] (by decide) rfl (Nat.le_of_ble_eq_true rfl) rfl ?_
  intro p e s m args below meth c A C hin
  have C : xC p s m args meth c D A cX3_look RX3 6 wsX3_look (xT y) none := C
  unfold f3_look at hf
  refine x_aload_n (q := 1) C 0 dX3_look_0 rfl rfl rfl ?_
  refine x_iload_n (q := 2) C 1 dX3_look_1 rfl rfl rfl ?_
  refine x_iconst (q := 3) C dX3_look_2 ki_4 rfl ?_
  obtain ⟨v1, hcal2, hf⟩ := bd_some hf
  refine x_callVi (q := 6) C (c3_pe (l := l) (D := D) (y := y) (aM := aM) hcal2) yi_X3_pe gX3_look_X3_pe rfl (oX3 y aM M) rfl ⟨(Nat.le_of_ble_eq_true rfl), (Nat.le_of_ble_eq_true rfl)⟩ dX3_look_3 pm_nil rfl rfl (Nat.le_of_ble_eq_true rfl) ⟨Nat.le_of_ble_eq_true rfl, Nat.le_of_ble_eq_true rfl⟩ rfl ?_
  intro rr3 uu hrr
  have hrr : v1 = rr3 := Eq.symm hrr
  subst hrr
  refine x_world (ws' := mC y aM M) (List.append_nil _) ?_
  refine x_istore_n (q := 7) C [1, 2, 0] [(0, .ref (aM 0)), (1, .int p1), (2, .int v1)] dX3_look_6 rfl (by decide) rfl rfl ?_
  refine x_iconst (q := 8) C dX3_look_7 ki_1 rfl ?_
  refine x_istore_n (q := 9) C [1, 2, 3, 0] [(0, .ref (aM 0)), (1, .int p1), (2, .int v1), (3, .int 1)] dX3_look_8 rfl (by decide) rfl rfl ?_
  refine w3_look_L9 C (fun v5 v6 hf => ?_) xF 1 hf
  refine x_aload_n (q := 77) C 0 dX3_look_76 rfl rfl rfl ?_
  refine x_iload_n (q := 78) C 1 dX3_look_77 rfl rfl rfl ?_
  refine x_iconst (q := 79) C dX3_look_78 ki_3 rfl ?_
  obtain ⟨v23, hcal24, hf⟩ := bd_some hf
  refine x_callVi (q := 82) C (c3_pe (l := l) (D := D) (y := y) (aM := aM) hcal24) yi_X3_pe gX3_look_X3_pe rfl (oX3 y aM M) rfl ⟨(Nat.le_of_ble_eq_true rfl), (Nat.le_of_ble_eq_true rfl)⟩ dX3_look_79 pm_nil rfl rfl (Nat.le_of_ble_eq_true rfl) ⟨Nat.le_of_ble_eq_true rfl, Nat.le_of_ble_eq_true rfl⟩ rfl ?_
  intro rr25 uu hrr
  have hrr : v23 = rr25 := Eq.symm hrr
  subst hrr
  refine x_world (ws' := mC y aM M) (List.append_nil _) ?_
  obtain ⟨J96, eJ96, hf⟩ := lt_elim hf
  have hJ96 : ∀ (u_ : Unit), J96 u_ = some M' → xV p l e { frames := 3, cells := 0, slots := 0, locals := 95 } s m args below meth c D A (xQv D (xT y) A (fun (_ : Unit) => True) (fun _ : Unit => mC y aM M') 0 0 below args s) 6 (mC y aM M) 0 0 [(0, .ref (aM 0)), (1, .int p1), (4, .int v5), (5, .int v6)] 96 [] := by
    intro u_ hf
    subst eJ96
    refine x_aload_n (q := 97) C 0 dX3_look_96 rfl rfl rfl ?_
    refine x_iload_n (q := 98) C 1 dX3_look_97 rfl rfl rfl ?_
    refine x_iconst (q := 99) C dX3_look_98 ki_5 rfl ?_
    refine x_iload (q := 101) C 3 dX3_look_99 rfl rfl ?_
    obtain ⟨M26, hcal27, hf⟩ := bd_some hf
    refine x_callVv (q := 104) C (c3_put (l := l) (D := D) (y := y) (aM := aM) hcal27) yi_X3_put gX3_look_X3_put rfl (oX3 y aM M) rfl ⟨(Nat.le_of_ble_eq_true rfl), (Nat.le_of_ble_eq_true rfl)⟩ dX3_look_101 pm_nil rfl rfl (Nat.le_of_ble_eq_true rfl) ⟨Nat.le_of_ble_eq_true rfl, Nat.le_of_ble_eq_true rfl⟩ rfl ?_
    intro uu hrr
    refine x_world (ws' := mC y aM M26) (List.append_nil _) ?_
    refine x_aload_n (q := 105) C 0 dX3_look_104 rfl rfl rfl ?_
    refine x_iload_n (q := 106) C 1 dX3_look_105 rfl rfl rfl ?_
    refine x_bipush (q := 108) C dX3_look_106 kb_7 rfl ?_
    refine x_aload_n (q := 109) C 0 dX3_look_108 rfl rfl rfl ?_
    refine x_iload_n (q := 110) C 1 dX3_look_109 rfl rfl rfl ?_
    refine x_iload (q := 112) C 3 dX3_look_110 rfl rfl ?_
    obtain ⟨v28, hcal29, hf⟩ := bd_some hf
    refine x_callVi (q := 115) C (c3_corner_ (l := l) (D := D) (y := y) (aM := aM) hcal29) yi_X3_corner_ gX3_look_X3_corner_ rfl (oX3 y aM M26) rfl ⟨(Nat.le_of_ble_eq_true rfl), (Nat.le_of_ble_eq_true rfl)⟩ dX3_look_112 pm_nil rfl rfl (Nat.le_of_ble_eq_true rfl) ⟨Nat.le_of_ble_eq_true rfl, Nat.le_of_ble_eq_true rfl⟩ rfl ?_
    intro rr30 uu hrr
    have hrr : v28 = rr30 := Eq.symm hrr
    subst hrr
    refine x_world (ws' := mC y aM M26) (List.append_nil _) ?_
    obtain ⟨M31, hcal32, hf⟩ := bd_some hf
    refine x_callVv (q := 118) C (c3_put (l := l) (D := D) (y := y) (aM := aM) hcal32) yi_X3_put gX3_look_X3_put rfl (oX3 y aM M26) rfl ⟨(Nat.le_of_ble_eq_true rfl), (Nat.le_of_ble_eq_true rfl)⟩ dX3_look_115 pm_nil rfl rfl (Nat.le_of_ble_eq_true rfl) ⟨Nat.le_of_ble_eq_true rfl, Nat.le_of_ble_eq_true rfl⟩ rfl ?_
    intro uu hrr
    refine x_world (ws' := mC y aM M31) (List.append_nil _) ?_
    refine x_aload_n (q := 119) C 0 dX3_look_118 rfl rfl rfl ?_
    refine x_iload_n (q := 120) C 1 dX3_look_119 rfl rfl rfl ?_
    refine x_bipush (q := 122) C dX3_look_120 kb_6 rfl ?_
    refine x_aload_n (q := 123) C 0 dX3_look_122 rfl rfl rfl ?_
    refine x_aload_n (q := 124) C 0 dX3_look_123 rfl rfl rfl ?_
    refine x_iload_n (q := 125) C 1 dX3_look_124 rfl rfl rfl ?_
    refine x_iconst (q := 126) C dX3_look_125 ki_1 rfl ?_
    obtain ⟨v33, hcal34, hf⟩ := bd_some hf
    refine x_callVi (q := 129) C (c3_pe (l := l) (D := D) (y := y) (aM := aM) hcal34) yi_X3_pe gX3_look_X3_pe rfl (oX3 y aM M31) rfl ⟨(Nat.le_of_ble_eq_true rfl), (Nat.le_of_ble_eq_true rfl)⟩ dX3_look_126 pm_nil rfl rfl (Nat.le_of_ble_eq_true rfl) ⟨Nat.le_of_ble_eq_true rfl, Nat.le_of_ble_eq_true rfl⟩ rfl ?_
    intro rr35 uu hrr
    have hrr : v33 = rr35 := Eq.symm hrr
    subst hrr
    refine x_world (ws' := mC y aM M31) (List.append_nil _) ?_
    refine x_aload_n (q := 130) C 0 dX3_look_129 rfl rfl rfl ?_
    refine x_iload_n (q := 131) C 1 dX3_look_130 rfl rfl rfl ?_
    refine x_bipush (q := 133) C dX3_look_131 kb_7 rfl ?_
    obtain ⟨v36, hcal37, hf⟩ := bd_some hf
    refine x_callVi (q := 136) C (c3_pe (l := l) (D := D) (y := y) (aM := aM) hcal37) yi_X3_pe gX3_look_X3_pe rfl (oX3 y aM M31) rfl ⟨(Nat.le_of_ble_eq_true rfl), (Nat.le_of_ble_eq_true rfl)⟩ dX3_look_133 pm_nil rfl rfl (Nat.le_of_ble_eq_true rfl) ⟨Nat.le_of_ble_eq_true rfl, Nat.le_of_ble_eq_true rfl⟩ rfl ?_
    intro rr38 uu hrr
    have hrr : v36 = rr38 := Eq.symm hrr
    subst hrr
    refine x_world (ws' := mC y aM M31) (List.append_nil _) ?_
    obtain ⟨v39, hcal40, hf⟩ := bd_some hf
    refine x_callVi (q := 139) C (c3_away (l := l) (D := D) (y := y) (aM := aM) hcal40) yi_X3_away gX3_look_X3_away rfl (oX3 y aM M31) rfl ⟨(Nat.le_of_ble_eq_true rfl), (Nat.le_of_ble_eq_true rfl)⟩ dX3_look_136 pm_nil rfl rfl (Nat.le_of_ble_eq_true rfl) ⟨Nat.le_of_ble_eq_true rfl, Nat.le_of_ble_eq_true rfl⟩ rfl ?_
    intro rr41 uu hrr
    have hrr : v39 = rr41 := Eq.symm hrr
    subst hrr
    refine x_world (ws' := mC y aM M31) (List.append_nil _) ?_
    refine x_iconst (q := 140) C dX3_look_139 ki_3 rfl ?_
    refine x_iadd (q := 141) C dX3_look_140 rfl ?_
    obtain ⟨M42, hcal43, hf⟩ := bd_some hf
    refine x_callVv (q := 144) C (c3_put (l := l) (D := D) (y := y) (aM := aM) hcal43) yi_X3_put gX3_look_X3_put rfl (oX3 y aM M31) rfl ⟨(Nat.le_of_ble_eq_true rfl), (Nat.le_of_ble_eq_true rfl)⟩ dX3_look_141 pm_nil rfl rfl (Nat.le_of_ble_eq_true rfl) ⟨Nat.le_of_ble_eq_true rfl, Nat.le_of_ble_eq_true rfl⟩ rfl ?_
    intro uu hrr
    refine x_world (ws' := mC y aM M42) (List.append_nil _) ?_
    refine x_aload_n (q := 145) C 0 dX3_look_144 rfl rfl rfl ?_
    refine x_iload_n (q := 146) C 1 dX3_look_145 rfl rfl rfl ?_
    refine x_bipush (q := 148) C dX3_look_146 kb_8 rfl ?_
    refine x_iload (q := 150) C 2 dX3_look_148 rfl rfl ?_
    obtain ⟨M44, hcal45, hf⟩ := bd_some hf
    refine x_callVv (q := 153) C (c3_put (l := l) (D := D) (y := y) (aM := aM) hcal45) yi_X3_put gX3_look_X3_put rfl (oX3 y aM M42) rfl ⟨(Nat.le_of_ble_eq_true rfl), (Nat.le_of_ble_eq_true rfl)⟩ dX3_look_150 pm_nil rfl rfl (Nat.le_of_ble_eq_true rfl) ⟨Nat.le_of_ble_eq_true rfl, Nat.le_of_ble_eq_true rfl⟩ rfl ?_
    intro uu hrr
    refine x_world (ws' := mC y aM M44) (List.append_nil _) ?_
    have hf := Option.some.inj hf
    exact x_vret () C dX3_look_153 rfl trivial (congrArg (fun z => mC y aM z) hf) (Nat.le_of_ble_eq_true rfl) (Nat.le_of_ble_eq_true rfl)
  refine x_if_ne (t := 96) (q := 85) C dX3_look_82 (by decide) rfl (fun hc => ?_) (fun hc => ?_)
  · have hf := (if_neg hc).symm.trans hf
    exact hJ96 () hf
  · have hf := (if_pos hc).symm.trans hf
    refine x_aload_n (q := 86) C 0 dX3_look_85 rfl rfl rfl ?_
    refine x_iload (q := 88) C 3 dX3_look_86 rfl rfl ?_
    refine x_iconst (q := 89) C dX3_look_88 ki_3 rfl ?_
    obtain ⟨v46, hcal47, hf⟩ := bd_some hf
    refine x_callVi (q := 92) C (c3_la (l := l) (D := D) (y := y) (aM := aM) hcal47) yi_X3_la gX3_look_X3_la rfl (oX3 y aM M) rfl ⟨(Nat.le_of_ble_eq_true rfl), (Nat.le_of_ble_eq_true rfl)⟩ dX3_look_89 pm_nil rfl rfl (Nat.le_of_ble_eq_true rfl) ⟨Nat.le_of_ble_eq_true rfl, Nat.le_of_ble_eq_true rfl⟩ rfl ?_
    intro rr48 uu hrr
    have hrr : v46 = rr48 := Eq.symm hrr
    subst hrr
    refine x_world (ws' := mC y aM M) (List.append_nil _) ?_
    refine x_if_ne (t := 96) (q := 95) C dX3_look_92 (by decide) rfl (fun hc => ?_) (fun hc => ?_)
    · have hf := (if_neg hc).symm.trans hf
      exact hJ96 () hf
    · have hf := (if_pos hc).symm.trans hf
      have hf := Option.some.inj hf
      exact x_vret () C dX3_look_95 rfl trivial (congrArg (fun z => mC y aM z) hf) (Nat.le_of_ble_eq_true rfl) (Nat.le_of_ble_eq_true rfl)

/-! LampHillsModel.goOn(I)I -/
theorem kmX3_goOn_63 : ∀ w ∈ ([.methodLink RX3 63 Lib.Math.min.name, .static Lib.Math.min.name, .initialized "java/lang/Math", .code Lib.Math.min.name Lib.Math.min.code 2 (some .int)] : List Cond), w ∈ wsX3_goOn := by decide +kernel
theorem yi_X3_look : xY yX3_look wsX3_look cX3_look 6 none 1 := ⟨⟨_, rfl⟩, by decide +kernel, by decide +kernel, by decide +kernel⟩
def f3_goOn (M : St) (p1 : Int32) : Option (Int32 × St) :=
  bd (f3_pe M p1 5) fun v1 =>
  lt_ (fun (M4 : St) =>
  (
    bd (f3_pe M4 p1 5) fun v5 =>
    if v5 = (-1) then
    (
      some ((-1), M4)
    )
    else
    (
      bd (f3_pe M4 p1 6) fun v8 =>
      bd (f3_put M4 p1 6 (v8 - 1)) fun M11 =>
      bd (f3_pe M11 p1 6) fun v13 =>
      if v13 ≤ 0 then
      (
        bd (f3_pe M11 p1 7) fun v16 =>
        bd (f3_put M11 p1 1 v16) fun M19 =>
        bd (f3_put M19 p1 5 (-1)) fun M21 =>
        bd (f3_la M21 v5 3) fun v23 =>
        bd (f3_pe M21 p1 3) fun v26 =>
        lt_ (if v26 < (300 - v23) then v26 else (300 - v23)) fun v29 =>
        bd (f3_pe M21 p1 3) fun v30 =>
        bd (f3_put M21 p1 3 (v30 - v29)) fun M33 =>
        bd (f3_la M33 v5 3) fun v35 =>
        bd (f3_setLamp M33 v5 3 (v35 + v29)) fun M38 =>
        bd (f3_setLamp M38 v5 4 0) fun M40 =>
        bd (f3_la M40 v5 3) fun v42 =>
        if v42 ≤ 0 then
        (
          some (v5, M40)
        )
        else
        (
          bd (f3_setLamp M40 v5 5 1) fun M45 =>
          bd (f3_la M45 v5 6) fun v47 =>
          bd (f3_setLamp M45 v5 6 (v47 + 1)) fun M50 =>
          bd (f3_pe M50 p1 9) fun v52 =>
          bd (f3_put M50 p1 9 (v52 + 1)) fun M55 =>
          some (v5, M55)
        )
      )
      else
      (
        some ((-1), M11)
      )
    )
  )
  ) fun J15 =>
  if v1 = (-1) then
  (
    bd (f3_look M p1) fun M57 =>
    J15 M57
  )
  else
  (
    J15 M
  )
set_option maxHeartbeats 4000000 in
set_option maxRecDepth 100000 in
theorem c3_goOn {l : Launch} {D : va_G} {y : Nat → ClassId} {aM : Nat → Nat} {M : St} {p1 : Int32} {r : Int32} {M' : St} (hf : f3_goOn M p1 = some (r, M')) : xMi l yX3_goOn wsX3_goOn 4 120 0 0 D (xT y) [.ref (aM 0), .int p1] (mC y aM M) (fun (r' : Int32) (_ : Unit) => r' = r) (fun _ : Unit => mC y aM M') := by
  refine xMi_of (cc := cX3_goOn) (nL := 4) (ret := (some .int)) [(0, .ref (aM 0)), (1, .int p1)] (by decide) rfl (Nat.le_of_ble_eq_true rfl) rfl ?_
  intro p e s m args below meth c A C hin
  have C : xC p s m args meth c D A cX3_goOn RX3 4 wsX3_goOn (xT y) (some .int) := C
  unfold f3_goOn at hf
  refine x_aload_n (q := 1) C 0 dX3_goOn_0 rfl rfl rfl ?_
  refine x_iload_n (q := 2) C 1 dX3_goOn_1 rfl rfl rfl ?_
  refine x_iconst (q := 3) C dX3_goOn_2 ki_5 rfl ?_
  obtain ⟨v1, hcal2, hf⟩ := bd_some hf
  refine x_callVi (q := 6) C (c3_pe (l := l) (D := D) (y := y) (aM := aM) hcal2) yi_X3_pe gX3_goOn_X3_pe rfl (oX3 y aM M) rfl ⟨(Nat.le_of_ble_eq_true rfl), (Nat.le_of_ble_eq_true rfl)⟩ dX3_goOn_3 pm_nil rfl rfl (Nat.le_of_ble_eq_true rfl) ⟨Nat.le_of_ble_eq_true rfl, Nat.le_of_ble_eq_true rfl⟩ rfl ?_
  intro rr3 uu hrr
  have hrr : v1 = rr3 := Eq.symm hrr
  subst hrr
  refine x_world (ws' := mC y aM M) (List.append_nil _) ?_
  refine x_iconst (q := 7) C dX3_goOn_6 ki_m1 rfl ?_
  obtain ⟨J15, eJ15, hf⟩ := lt_elim hf
  have hJ15 : ∀ (M4 : St), J15 M4 = some (r, M') → xV p l e { frames := 4, cells := 0, slots := 0, locals := 120 } s m args below meth c D A (xQi D (xT y) A (fun (r' : Int32) (_ : Unit) => r' = r) (fun _ : Unit => mC y aM M') 0 0 below args s) 4 (mC y aM M4) 0 0 [(0, .ref (aM 0)), (1, .int p1)] 15 [] := by
    intro M4 hf
    subst eJ15
    refine x_aload_n (q := 16) C 0 dX3_goOn_15 rfl rfl rfl ?_
    refine x_iload_n (q := 17) C 1 dX3_goOn_16 rfl rfl rfl ?_
    refine x_iconst (q := 18) C dX3_goOn_17 ki_5 rfl ?_
    obtain ⟨v5, hcal6, hf⟩ := bd_some hf
    refine x_callVi (q := 21) C (c3_pe (l := l) (D := D) (y := y) (aM := aM) hcal6) yi_X3_pe gX3_goOn_X3_pe rfl (oX3 y aM M4) rfl ⟨(Nat.le_of_ble_eq_true rfl), (Nat.le_of_ble_eq_true rfl)⟩ dX3_goOn_18 pm_nil rfl rfl (Nat.le_of_ble_eq_true rfl) ⟨Nat.le_of_ble_eq_true rfl, Nat.le_of_ble_eq_true rfl⟩ rfl ?_
    intro rr7 uu hrr
    have hrr : v5 = rr7 := Eq.symm hrr
    subst hrr
    refine x_world (ws' := mC y aM M4) (List.append_nil _) ?_
    refine x_istore_n (q := 22) C [1, 2, 0] [(0, .ref (aM 0)), (1, .int p1), (2, .int v5)] dX3_goOn_21 rfl (by decide) rfl rfl ?_
    refine x_iload_n (q := 23) C 2 dX3_goOn_22 rfl rfl rfl ?_
    refine x_iconst (q := 24) C dX3_goOn_23 ki_m1 rfl ?_
    refine x_icmp_ne (t := 29) (q := 27) C dX3_goOn_24 (by decide) rfl (fun hc => ?_) (fun hc => ?_)
    · have hf := (if_neg hc).symm.trans hf
      refine x_aload_n (q := 30) C 0 dX3_goOn_29 rfl rfl rfl ?_
      refine x_iload_n (q := 31) C 1 dX3_goOn_30 rfl rfl rfl ?_
      refine x_bipush (q := 33) C dX3_goOn_31 kb_6 rfl ?_
      refine x_aload_n (q := 34) C 0 dX3_goOn_33 rfl rfl rfl ?_
      refine x_iload_n (q := 35) C 1 dX3_goOn_34 rfl rfl rfl ?_
      refine x_bipush (q := 37) C dX3_goOn_35 kb_6 rfl ?_
      obtain ⟨v8, hcal9, hf⟩ := bd_some hf
      refine x_callVi (q := 40) C (c3_pe (l := l) (D := D) (y := y) (aM := aM) hcal9) yi_X3_pe gX3_goOn_X3_pe rfl (oX3 y aM M4) rfl ⟨(Nat.le_of_ble_eq_true rfl), (Nat.le_of_ble_eq_true rfl)⟩ dX3_goOn_37 pm_nil rfl rfl (Nat.le_of_ble_eq_true rfl) ⟨Nat.le_of_ble_eq_true rfl, Nat.le_of_ble_eq_true rfl⟩ rfl ?_
      intro rr10 uu hrr
      have hrr : v8 = rr10 := Eq.symm hrr
      subst hrr
      refine x_world (ws' := mC y aM M4) (List.append_nil _) ?_
      refine x_iconst (q := 41) C dX3_goOn_40 ki_1 rfl ?_
      refine x_isub (q := 42) C dX3_goOn_41 rfl ?_
      obtain ⟨M11, hcal12, hf⟩ := bd_some hf
      refine x_callVv (q := 45) C (c3_put (l := l) (D := D) (y := y) (aM := aM) hcal12) yi_X3_put gX3_goOn_X3_put rfl (oX3 y aM M4) rfl ⟨(Nat.le_of_ble_eq_true rfl), (Nat.le_of_ble_eq_true rfl)⟩ dX3_goOn_42 pm_nil rfl rfl (Nat.le_of_ble_eq_true rfl) ⟨Nat.le_of_ble_eq_true rfl, Nat.le_of_ble_eq_true rfl⟩ rfl ?_
      intro uu hrr
      refine x_world (ws' := mC y aM M11) (List.append_nil _) ?_
      refine x_aload_n (q := 46) C 0 dX3_goOn_45 rfl rfl rfl ?_
      refine x_iload_n (q := 47) C 1 dX3_goOn_46 rfl rfl rfl ?_
      refine x_bipush (q := 49) C dX3_goOn_47 kb_6 rfl ?_
      obtain ⟨v13, hcal14, hf⟩ := bd_some hf
      refine x_callVi (q := 52) C (c3_pe (l := l) (D := D) (y := y) (aM := aM) hcal14) yi_X3_pe gX3_goOn_X3_pe rfl (oX3 y aM M11) rfl ⟨(Nat.le_of_ble_eq_true rfl), (Nat.le_of_ble_eq_true rfl)⟩ dX3_goOn_49 pm_nil rfl rfl (Nat.le_of_ble_eq_true rfl) ⟨Nat.le_of_ble_eq_true rfl, Nat.le_of_ble_eq_true rfl⟩ rfl ?_
      intro rr15 uu hrr
      have hrr : v13 = rr15 := Eq.symm hrr
      subst hrr
      refine x_world (ws' := mC y aM M11) (List.append_nil _) ?_
      refine x_if_le (t := 57) (q := 55) C dX3_goOn_52 (by decide) rfl (fun hc => ?_) (fun hc => ?_)
      · have hf := (if_pos hc).symm.trans hf
        refine x_aload_n (q := 58) C 0 dX3_goOn_57 rfl rfl rfl ?_
        refine x_iload_n (q := 59) C 1 dX3_goOn_58 rfl rfl rfl ?_
        refine x_iconst (q := 60) C dX3_goOn_59 ki_1 rfl ?_
        refine x_aload_n (q := 61) C 0 dX3_goOn_60 rfl rfl rfl ?_
        refine x_iload_n (q := 62) C 1 dX3_goOn_61 rfl rfl rfl ?_
        refine x_bipush (q := 64) C dX3_goOn_62 kb_7 rfl ?_
        obtain ⟨v16, hcal17, hf⟩ := bd_some hf
        refine x_callVi (q := 67) C (c3_pe (l := l) (D := D) (y := y) (aM := aM) hcal17) yi_X3_pe gX3_goOn_X3_pe rfl (oX3 y aM M11) rfl ⟨(Nat.le_of_ble_eq_true rfl), (Nat.le_of_ble_eq_true rfl)⟩ dX3_goOn_64 pm_nil rfl rfl (Nat.le_of_ble_eq_true rfl) ⟨Nat.le_of_ble_eq_true rfl, Nat.le_of_ble_eq_true rfl⟩ rfl ?_
        intro rr18 uu hrr
        have hrr : v16 = rr18 := Eq.symm hrr
        subst hrr
        refine x_world (ws' := mC y aM M11) (List.append_nil _) ?_
        obtain ⟨M19, hcal20, hf⟩ := bd_some hf
        refine x_callVv (q := 70) C (c3_put (l := l) (D := D) (y := y) (aM := aM) hcal20) yi_X3_put gX3_goOn_X3_put rfl (oX3 y aM M11) rfl ⟨(Nat.le_of_ble_eq_true rfl), (Nat.le_of_ble_eq_true rfl)⟩ dX3_goOn_67 pm_nil rfl rfl (Nat.le_of_ble_eq_true rfl) ⟨Nat.le_of_ble_eq_true rfl, Nat.le_of_ble_eq_true rfl⟩ rfl ?_
        intro uu hrr
        refine x_world (ws' := mC y aM M19) (List.append_nil _) ?_
        refine x_aload_n (q := 71) C 0 dX3_goOn_70 rfl rfl rfl ?_
        refine x_iload_n (q := 72) C 1 dX3_goOn_71 rfl rfl rfl ?_
        refine x_iconst (q := 73) C dX3_goOn_72 ki_5 rfl ?_
        refine x_iconst (q := 74) C dX3_goOn_73 ki_m1 rfl ?_
        obtain ⟨M21, hcal22, hf⟩ := bd_some hf
        refine x_callVv (q := 77) C (c3_put (l := l) (D := D) (y := y) (aM := aM) hcal22) yi_X3_put gX3_goOn_X3_put rfl (oX3 y aM M19) rfl ⟨(Nat.le_of_ble_eq_true rfl), (Nat.le_of_ble_eq_true rfl)⟩ dX3_goOn_74 pm_nil rfl rfl (Nat.le_of_ble_eq_true rfl) ⟨Nat.le_of_ble_eq_true rfl, Nat.le_of_ble_eq_true rfl⟩ rfl ?_
        intro uu hrr
        refine x_world (ws' := mC y aM M21) (List.append_nil _) ?_
        refine x_sipush (q := 80) C dX3_goOn_77 ks_300 rfl ?_
        refine x_aload_n (q := 81) C 0 dX3_goOn_80 rfl rfl rfl ?_
        refine x_iload_n (q := 82) C 2 dX3_goOn_81 rfl rfl rfl ?_
        refine x_iconst (q := 83) C dX3_goOn_82 ki_3 rfl ?_
        obtain ⟨v23, hcal24, hf⟩ := bd_some hf
        refine x_callVi (q := 86) C (c3_la (l := l) (D := D) (y := y) (aM := aM) hcal24) yi_X3_la gX3_goOn_X3_la rfl (oX3 y aM M21) rfl ⟨(Nat.le_of_ble_eq_true rfl), (Nat.le_of_ble_eq_true rfl)⟩ dX3_goOn_83 pm_nil rfl rfl (Nat.le_of_ble_eq_true rfl) ⟨Nat.le_of_ble_eq_true rfl, Nat.le_of_ble_eq_true rfl⟩ rfl ?_
        intro rr25 uu hrr
        have hrr : v23 = rr25 := Eq.symm hrr
        subst hrr
        refine x_world (ws' := mC y aM M21) (List.append_nil _) ?_
        refine x_isub (q := 87) C dX3_goOn_86 rfl ?_
        refine x_aload_n (q := 88) C 0 dX3_goOn_87 rfl rfl rfl ?_
        refine x_iload_n (q := 89) C 1 dX3_goOn_88 rfl rfl rfl ?_
        refine x_iconst (q := 90) C dX3_goOn_89 ki_3 rfl ?_
        obtain ⟨v26, hcal27, hf⟩ := bd_some hf
        refine x_callVi (q := 93) C (c3_pe (l := l) (D := D) (y := y) (aM := aM) hcal27) yi_X3_pe gX3_goOn_X3_pe rfl (oX3 y aM M21) rfl ⟨(Nat.le_of_ble_eq_true rfl), (Nat.le_of_ble_eq_true rfl)⟩ dX3_goOn_90 pm_nil rfl rfl (Nat.le_of_ble_eq_true rfl) ⟨Nat.le_of_ble_eq_true rfl, Nat.le_of_ble_eq_true rfl⟩ rfl ?_
        intro rr28 uu hrr
        have hrr : v26 = rr28 := Eq.symm hrr
        subst hrr
        refine x_world (ws' := mC y aM M21) (List.append_nil _) ?_
        refine x_mmin (q := 96) C dX3_goOn_93 kmX3_goOn_63 (Nat.le_of_ble_eq_true rfl) (Nat.le_of_ble_eq_true rfl) (Nat.le_of_ble_eq_true rfl) (Nat.le_of_ble_eq_true rfl) rfl ?_
        obtain ⟨v29, ev29, hf⟩ := lt_elim hf
        refine x_topi ev29 ?_
        refine x_istore_n (q := 97) C [1, 2, 3, 0] [(0, .ref (aM 0)), (1, .int p1), (2, .int v5), (3, .int v29)] dX3_goOn_96 rfl (by decide) rfl rfl ?_
        refine x_aload_n (q := 98) C 0 dX3_goOn_97 rfl rfl rfl ?_
        refine x_iload_n (q := 99) C 1 dX3_goOn_98 rfl rfl rfl ?_
        refine x_iconst (q := 100) C dX3_goOn_99 ki_3 rfl ?_
        refine x_aload_n (q := 101) C 0 dX3_goOn_100 rfl rfl rfl ?_
        refine x_iload_n (q := 102) C 1 dX3_goOn_101 rfl rfl rfl ?_
        refine x_iconst (q := 103) C dX3_goOn_102 ki_3 rfl ?_
        obtain ⟨v30, hcal31, hf⟩ := bd_some hf
        refine x_callVi (q := 106) C (c3_pe (l := l) (D := D) (y := y) (aM := aM) hcal31) yi_X3_pe gX3_goOn_X3_pe rfl (oX3 y aM M21) rfl ⟨(Nat.le_of_ble_eq_true rfl), (Nat.le_of_ble_eq_true rfl)⟩ dX3_goOn_103 pm_nil rfl rfl (Nat.le_of_ble_eq_true rfl) ⟨Nat.le_of_ble_eq_true rfl, Nat.le_of_ble_eq_true rfl⟩ rfl ?_
        intro rr32 uu hrr
        have hrr : v30 = rr32 := Eq.symm hrr
        subst hrr
        refine x_world (ws' := mC y aM M21) (List.append_nil _) ?_
        refine x_iload_n (q := 107) C 3 dX3_goOn_106 rfl rfl rfl ?_
        refine x_isub (q := 108) C dX3_goOn_107 rfl ?_
        obtain ⟨M33, hcal34, hf⟩ := bd_some hf
        refine x_callVv (q := 111) C (c3_put (l := l) (D := D) (y := y) (aM := aM) hcal34) yi_X3_put gX3_goOn_X3_put rfl (oX3 y aM M21) rfl ⟨(Nat.le_of_ble_eq_true rfl), (Nat.le_of_ble_eq_true rfl)⟩ dX3_goOn_108 pm_nil rfl rfl (Nat.le_of_ble_eq_true rfl) ⟨Nat.le_of_ble_eq_true rfl, Nat.le_of_ble_eq_true rfl⟩ rfl ?_
        intro uu hrr
        refine x_world (ws' := mC y aM M33) (List.append_nil _) ?_
        refine x_aload_n (q := 112) C 0 dX3_goOn_111 rfl rfl rfl ?_
        refine x_iload_n (q := 113) C 2 dX3_goOn_112 rfl rfl rfl ?_
        refine x_iconst (q := 114) C dX3_goOn_113 ki_3 rfl ?_
        refine x_aload_n (q := 115) C 0 dX3_goOn_114 rfl rfl rfl ?_
        refine x_iload_n (q := 116) C 2 dX3_goOn_115 rfl rfl rfl ?_
        refine x_iconst (q := 117) C dX3_goOn_116 ki_3 rfl ?_
        obtain ⟨v35, hcal36, hf⟩ := bd_some hf
        refine x_callVi (q := 120) C (c3_la (l := l) (D := D) (y := y) (aM := aM) hcal36) yi_X3_la gX3_goOn_X3_la rfl (oX3 y aM M33) rfl ⟨(Nat.le_of_ble_eq_true rfl), (Nat.le_of_ble_eq_true rfl)⟩ dX3_goOn_117 pm_nil rfl rfl (Nat.le_of_ble_eq_true rfl) ⟨Nat.le_of_ble_eq_true rfl, Nat.le_of_ble_eq_true rfl⟩ rfl ?_
        intro rr37 uu hrr
        have hrr : v35 = rr37 := Eq.symm hrr
        subst hrr
        refine x_world (ws' := mC y aM M33) (List.append_nil _) ?_
        refine x_iload_n (q := 121) C 3 dX3_goOn_120 rfl rfl rfl ?_
        refine x_iadd (q := 122) C dX3_goOn_121 rfl ?_
        obtain ⟨M38, hcal39, hf⟩ := bd_some hf
        refine x_callVv (q := 125) C (c3_setLamp (l := l) (D := D) (y := y) (aM := aM) hcal39) yi_X3_setLamp gX3_goOn_X3_setLamp rfl (oX3 y aM M33) rfl ⟨(Nat.le_of_ble_eq_true rfl), (Nat.le_of_ble_eq_true rfl)⟩ dX3_goOn_122 pm_nil rfl rfl (Nat.le_of_ble_eq_true rfl) ⟨Nat.le_of_ble_eq_true rfl, Nat.le_of_ble_eq_true rfl⟩ rfl ?_
        intro uu hrr
        refine x_world (ws' := mC y aM M38) (List.append_nil _) ?_
        refine x_aload_n (q := 126) C 0 dX3_goOn_125 rfl rfl rfl ?_
        refine x_iload_n (q := 127) C 2 dX3_goOn_126 rfl rfl rfl ?_
        refine x_iconst (q := 128) C dX3_goOn_127 ki_4 rfl ?_
        refine x_iconst (q := 129) C dX3_goOn_128 ki_0 rfl ?_
        obtain ⟨M40, hcal41, hf⟩ := bd_some hf
        refine x_callVv (q := 132) C (c3_setLamp (l := l) (D := D) (y := y) (aM := aM) hcal41) yi_X3_setLamp gX3_goOn_X3_setLamp rfl (oX3 y aM M38) rfl ⟨(Nat.le_of_ble_eq_true rfl), (Nat.le_of_ble_eq_true rfl)⟩ dX3_goOn_129 pm_nil rfl rfl (Nat.le_of_ble_eq_true rfl) ⟨Nat.le_of_ble_eq_true rfl, Nat.le_of_ble_eq_true rfl⟩ rfl ?_
        intro uu hrr
        refine x_world (ws' := mC y aM M40) (List.append_nil _) ?_
        refine x_aload_n (q := 133) C 0 dX3_goOn_132 rfl rfl rfl ?_
        refine x_iload_n (q := 134) C 2 dX3_goOn_133 rfl rfl rfl ?_
        refine x_iconst (q := 135) C dX3_goOn_134 ki_3 rfl ?_
        obtain ⟨v42, hcal43, hf⟩ := bd_some hf
        refine x_callVi (q := 138) C (c3_la (l := l) (D := D) (y := y) (aM := aM) hcal43) yi_X3_la gX3_goOn_X3_la rfl (oX3 y aM M40) rfl ⟨(Nat.le_of_ble_eq_true rfl), (Nat.le_of_ble_eq_true rfl)⟩ dX3_goOn_135 pm_nil rfl rfl (Nat.le_of_ble_eq_true rfl) ⟨Nat.le_of_ble_eq_true rfl, Nat.le_of_ble_eq_true rfl⟩ rfl ?_
        intro rr44 uu hrr
        have hrr : v42 = rr44 := Eq.symm hrr
        subst hrr
        refine x_world (ws' := mC y aM M40) (List.append_nil _) ?_
        refine x_if_le (t := 180) (q := 141) C dX3_goOn_138 (by decide) rfl (fun hc => ?_) (fun hc => ?_)
        · have hf := (if_pos hc).symm.trans hf
          refine x_iload_n (q := 181) C 2 dX3_goOn_180 rfl rfl rfl ?_
          have hf := Option.some.inj hf
          obtain ⟨hr0, hr1⟩ := Prod.mk.inj hf
          exact x_iret () C dX3_goOn_181 rfl hr0 (congrArg (fun z => mC y aM z) hr1) (Nat.le_of_ble_eq_true rfl) (Nat.le_of_ble_eq_true rfl)
        · have hf := (if_neg hc).symm.trans hf
          refine x_aload_n (q := 142) C 0 dX3_goOn_141 rfl rfl rfl ?_
          refine x_iload_n (q := 143) C 2 dX3_goOn_142 rfl rfl rfl ?_
          refine x_iconst (q := 144) C dX3_goOn_143 ki_5 rfl ?_
          refine x_iconst (q := 145) C dX3_goOn_144 ki_1 rfl ?_
          obtain ⟨M45, hcal46, hf⟩ := bd_some hf
          refine x_callVv (q := 148) C (c3_setLamp (l := l) (D := D) (y := y) (aM := aM) hcal46) yi_X3_setLamp gX3_goOn_X3_setLamp rfl (oX3 y aM M40) rfl ⟨(Nat.le_of_ble_eq_true rfl), (Nat.le_of_ble_eq_true rfl)⟩ dX3_goOn_145 pm_nil rfl rfl (Nat.le_of_ble_eq_true rfl) ⟨Nat.le_of_ble_eq_true rfl, Nat.le_of_ble_eq_true rfl⟩ rfl ?_
          intro uu hrr
          refine x_world (ws' := mC y aM M45) (List.append_nil _) ?_
          refine x_aload_n (q := 149) C 0 dX3_goOn_148 rfl rfl rfl ?_
          refine x_iload_n (q := 150) C 2 dX3_goOn_149 rfl rfl rfl ?_
          refine x_bipush (q := 152) C dX3_goOn_150 kb_6 rfl ?_
          refine x_aload_n (q := 153) C 0 dX3_goOn_152 rfl rfl rfl ?_
          refine x_iload_n (q := 154) C 2 dX3_goOn_153 rfl rfl rfl ?_
          refine x_bipush (q := 156) C dX3_goOn_154 kb_6 rfl ?_
          obtain ⟨v47, hcal48, hf⟩ := bd_some hf
          refine x_callVi (q := 159) C (c3_la (l := l) (D := D) (y := y) (aM := aM) hcal48) yi_X3_la gX3_goOn_X3_la rfl (oX3 y aM M45) rfl ⟨(Nat.le_of_ble_eq_true rfl), (Nat.le_of_ble_eq_true rfl)⟩ dX3_goOn_156 pm_nil rfl rfl (Nat.le_of_ble_eq_true rfl) ⟨Nat.le_of_ble_eq_true rfl, Nat.le_of_ble_eq_true rfl⟩ rfl ?_
          intro rr49 uu hrr
          have hrr : v47 = rr49 := Eq.symm hrr
          subst hrr
          refine x_world (ws' := mC y aM M45) (List.append_nil _) ?_
          refine x_iconst (q := 160) C dX3_goOn_159 ki_1 rfl ?_
          refine x_iadd (q := 161) C dX3_goOn_160 rfl ?_
          obtain ⟨M50, hcal51, hf⟩ := bd_some hf
          refine x_callVv (q := 164) C (c3_setLamp (l := l) (D := D) (y := y) (aM := aM) hcal51) yi_X3_setLamp gX3_goOn_X3_setLamp rfl (oX3 y aM M45) rfl ⟨(Nat.le_of_ble_eq_true rfl), (Nat.le_of_ble_eq_true rfl)⟩ dX3_goOn_161 pm_nil rfl rfl (Nat.le_of_ble_eq_true rfl) ⟨Nat.le_of_ble_eq_true rfl, Nat.le_of_ble_eq_true rfl⟩ rfl ?_
          intro uu hrr
          refine x_world (ws' := mC y aM M50) (List.append_nil _) ?_
          refine x_aload_n (q := 165) C 0 dX3_goOn_164 rfl rfl rfl ?_
          refine x_iload_n (q := 166) C 1 dX3_goOn_165 rfl rfl rfl ?_
          refine x_bipush (q := 168) C dX3_goOn_166 kb_9 rfl ?_
          refine x_aload_n (q := 169) C 0 dX3_goOn_168 rfl rfl rfl ?_
          refine x_iload_n (q := 170) C 1 dX3_goOn_169 rfl rfl rfl ?_
          refine x_bipush (q := 172) C dX3_goOn_170 kb_9 rfl ?_
          obtain ⟨v52, hcal53, hf⟩ := bd_some hf
          refine x_callVi (q := 175) C (c3_pe (l := l) (D := D) (y := y) (aM := aM) hcal53) yi_X3_pe gX3_goOn_X3_pe rfl (oX3 y aM M50) rfl ⟨(Nat.le_of_ble_eq_true rfl), (Nat.le_of_ble_eq_true rfl)⟩ dX3_goOn_172 pm_nil rfl rfl (Nat.le_of_ble_eq_true rfl) ⟨Nat.le_of_ble_eq_true rfl, Nat.le_of_ble_eq_true rfl⟩ rfl ?_
          intro rr54 uu hrr
          have hrr : v52 = rr54 := Eq.symm hrr
          subst hrr
          refine x_world (ws' := mC y aM M50) (List.append_nil _) ?_
          refine x_iconst (q := 176) C dX3_goOn_175 ki_1 rfl ?_
          refine x_iadd (q := 177) C dX3_goOn_176 rfl ?_
          obtain ⟨M55, hcal56, hf⟩ := bd_some hf
          refine x_callVv (q := 180) C (c3_put (l := l) (D := D) (y := y) (aM := aM) hcal56) yi_X3_put gX3_goOn_X3_put rfl (oX3 y aM M50) rfl ⟨(Nat.le_of_ble_eq_true rfl), (Nat.le_of_ble_eq_true rfl)⟩ dX3_goOn_177 pm_nil rfl rfl (Nat.le_of_ble_eq_true rfl) ⟨Nat.le_of_ble_eq_true rfl, Nat.le_of_ble_eq_true rfl⟩ rfl ?_
          intro uu hrr
          refine x_world (ws' := mC y aM M55) (List.append_nil _) ?_
          refine x_iload_n (q := 181) C 2 dX3_goOn_180 rfl rfl rfl ?_
          have hf := Option.some.inj hf
          obtain ⟨hr0, hr1⟩ := Prod.mk.inj hf
          exact x_iret () C dX3_goOn_181 rfl hr0 (congrArg (fun z => mC y aM z) hr1) (Nat.le_of_ble_eq_true rfl) (Nat.le_of_ble_eq_true rfl)
      · have hf := (if_neg hc).symm.trans hf
        refine x_iconst (q := 56) C dX3_goOn_55 ki_m1 rfl ?_
        have hf := Option.some.inj hf
        obtain ⟨hr0, hr1⟩ := Prod.mk.inj hf
        exact x_iret () C dX3_goOn_56 rfl hr0 (congrArg (fun z => mC y aM z) hr1) (Nat.le_of_ble_eq_true rfl) (Nat.le_of_ble_eq_true rfl)
    · have hf := (if_pos hc).symm.trans hf
      refine x_iconst (q := 28) C dX3_goOn_27 ki_m1 rfl ?_
      have hf := Option.some.inj hf
      obtain ⟨hr0, hr1⟩ := Prod.mk.inj hf
      exact x_iret () C dX3_goOn_28 rfl hr0 (congrArg (fun z => mC y aM z) hr1) (Nat.le_of_ble_eq_true rfl) (Nat.le_of_ble_eq_true rfl)
  refine x_icmp_ne (t := 15) (q := 10) C dX3_goOn_7 (by decide) rfl (fun hc => ?_) (fun hc => ?_)
  · have hf := (if_neg hc).symm.trans hf
    exact hJ15 M hf
  · have hf := (if_pos hc).symm.trans hf
    refine x_aload_n (q := 11) C 0 dX3_goOn_10 rfl rfl rfl ?_
    refine x_iload_n (q := 12) C 1 dX3_goOn_11 rfl rfl rfl ?_
    obtain ⟨M57, hcal58, hf⟩ := bd_some hf
    refine x_callVv (q := 15) C (c3_look (l := l) (D := D) (y := y) (aM := aM) hcal58) yi_X3_look gX3_goOn_X3_look rfl (oX3 y aM M) rfl ⟨(Nat.le_of_ble_eq_true rfl), (Nat.le_of_ble_eq_true rfl)⟩ dX3_goOn_12 pm_nil rfl rfl (Nat.le_of_ble_eq_true rfl) ⟨Nat.le_of_ble_eq_true rfl, Nat.le_of_ble_eq_true rfl⟩ rfl ?_
    intro uu hrr
    refine x_world (ws' := mC y aM M57) (List.append_nil _) ?_
    exact hJ15 M57 hf

/-! LampHillsModel.gust(II)I -/
theorem flX3_gust_9 : Cond.fieldLink RX3 9 "LampHillsModel" "heights" "[I" ∈ wsX3_gust := by decide +kernel
theorem iuX3_gust_X3 : ∀ w ∈ u_ws RX3 TX3 13, w ∈ wsX3_gust := fun _ h => List.mem_cons_of_mem _ (List.mem_append_right _ h)
theorem kmX3_gust_58 : ∀ w ∈ ([.methodLink RX3 58 Lib.Math.max.name, .static Lib.Math.max.name, .initialized "java/lang/Math", .code Lib.Math.max.name Lib.Math.max.code 2 (some .int)] : List Cond), w ∈ wsX3_gust := by decide +kernel
def f3_gust (M : St) (p1 : Int32) (p2 : Int32) : Option (Int32) :=
  bd (f3_la M p1 0) fun v1 =>
  bd (f3_ro M v1 0) fun v4 =>
  gd (xin v4 12) <|
  bd (f3_la M p1 0) fun v8 =>
  bd (f3_ro M v8 1) fun v11 =>
  gd (xin v11 12) <|
  some (p2 + ((if (M 5 v4.toNatClampNeg) < (M 5 v11.toNatClampNeg) then (M 5 v11.toNatClampNeg) else (M 5 v4.toNatClampNeg)) / 10))
set_option maxHeartbeats 4000000 in
set_option maxRecDepth 100000 in
theorem c3_gust {l : Launch} {D : va_G} {y : Nat → ClassId} {aM : Nat → Nat} {M : St} {p1 : Int32} {p2 : Int32} {r : Int32} (hf : f3_gust M p1 p2 = some r) : xMi l yX3_gust wsX3_gust 1 48 0 0 D (xT y) [.ref (aM 0), .int p1, .int p2] (mC y aM M) (fun (r' : Int32) (_ : Unit) => r' = r) (fun _ : Unit => mC y aM M) := by
  refine xMi_of (cc := cX3_gust) (nL := 3) (ret := (some .int)) [(0, .ref (aM 0)), (1, .int p1), (2, .int p2)] (by decide) rfl (Nat.le_of_ble_eq_true rfl) rfl ?_
  intro p e s m args below meth c A C hin
  have C : xC p s m args meth c D A cX3_gust RX3 3 wsX3_gust (xT y) (some .int) := C
  unfold f3_gust at hf
  refine x_iload_n (q := 1) C 2 dX3_gust_0 rfl rfl rfl ?_
  refine x_aload_n (q := 2) C 0 dX3_gust_1 rfl rfl rfl ?_
  refine x_get (q := 5) C 5 dX3_gust_2 (oX3 y aM M) rfl iuX3_gust_X3 flX3_gust_9 rfl (by decide) rfl rfl ?_
  refine x_aload_n (q := 6) C 0 dX3_gust_5 rfl rfl rfl ?_
  refine x_aload_n (q := 7) C 0 dX3_gust_6 rfl rfl rfl ?_
  refine x_iload_n (q := 8) C 1 dX3_gust_7 rfl rfl rfl ?_
  refine x_iconst (q := 9) C dX3_gust_8 ki_0 rfl ?_
  obtain ⟨v1, hcal2, hf⟩ := bd_some hf
  refine x_callVi (q := 12) C (c3_la (l := l) (D := D) (y := y) (aM := aM) hcal2) yi_X3_la gX3_gust_X3_la rfl (oX3 y aM M) rfl ⟨(Nat.le_of_ble_eq_true rfl), (Nat.le_of_ble_eq_true rfl)⟩ dX3_gust_9 pm_nil rfl rfl (Nat.le_of_ble_eq_true rfl) ⟨Nat.le_of_ble_eq_true rfl, Nat.le_of_ble_eq_true rfl⟩ rfl ?_
  intro rr3 uu hrr
  have hrr : v1 = rr3 := Eq.symm hrr
  subst hrr
  refine x_world (ws' := mC y aM M) (List.append_nil _) ?_
  refine x_iconst (q := 13) C dX3_gust_12 ki_0 rfl ?_
  obtain ⟨v4, hcal5, hf⟩ := bd_some hf
  refine x_callVi (q := 16) C (c3_ro (l := l) (D := D) (y := y) (aM := aM) hcal5) yi_X3_ro gX3_gust_X3_ro rfl (oX3 y aM M) rfl ⟨(Nat.le_of_ble_eq_true rfl), (Nat.le_of_ble_eq_true rfl)⟩ dX3_gust_13 pm_nil rfl rfl (Nat.le_of_ble_eq_true rfl) ⟨Nat.le_of_ble_eq_true rfl, Nat.le_of_ble_eq_true rfl⟩ rfl ?_
  intro rr6 uu hrr
  have hrr : v4 = rr6 := Eq.symm hrr
  subst hrr
  refine x_world (ws' := mC y aM M) (List.append_nil _) ?_
  obtain ⟨hb7, hf⟩ := gd_some hf
  refine x_iald (q := 17) C 0 dX3_gust_16 (aX3_5 y aM M) rfl hb7 rfl ?_
  refine x_aload_n (q := 18) C 0 dX3_gust_17 rfl rfl rfl ?_
  refine x_get (q := 21) C 5 dX3_gust_18 (oX3 y aM M) rfl iuX3_gust_X3 flX3_gust_9 rfl (by decide) rfl rfl ?_
  refine x_aload_n (q := 22) C 0 dX3_gust_21 rfl rfl rfl ?_
  refine x_aload_n (q := 23) C 0 dX3_gust_22 rfl rfl rfl ?_
  refine x_iload_n (q := 24) C 1 dX3_gust_23 rfl rfl rfl ?_
  refine x_iconst (q := 25) C dX3_gust_24 ki_0 rfl ?_
  obtain ⟨v8, hcal9, hf⟩ := bd_some hf
  refine x_callVi (q := 28) C (c3_la (l := l) (D := D) (y := y) (aM := aM) hcal9) yi_X3_la gX3_gust_X3_la rfl (oX3 y aM M) rfl ⟨(Nat.le_of_ble_eq_true rfl), (Nat.le_of_ble_eq_true rfl)⟩ dX3_gust_25 pm_nil rfl rfl (Nat.le_of_ble_eq_true rfl) ⟨Nat.le_of_ble_eq_true rfl, Nat.le_of_ble_eq_true rfl⟩ rfl ?_
  intro rr10 uu hrr
  have hrr : v8 = rr10 := Eq.symm hrr
  subst hrr
  refine x_world (ws' := mC y aM M) (List.append_nil _) ?_
  refine x_iconst (q := 29) C dX3_gust_28 ki_1 rfl ?_
  obtain ⟨v11, hcal12, hf⟩ := bd_some hf
  refine x_callVi (q := 32) C (c3_ro (l := l) (D := D) (y := y) (aM := aM) hcal12) yi_X3_ro gX3_gust_X3_ro rfl (oX3 y aM M) rfl ⟨(Nat.le_of_ble_eq_true rfl), (Nat.le_of_ble_eq_true rfl)⟩ dX3_gust_29 pm_nil rfl rfl (Nat.le_of_ble_eq_true rfl) ⟨Nat.le_of_ble_eq_true rfl, Nat.le_of_ble_eq_true rfl⟩ rfl ?_
  intro rr13 uu hrr
  have hrr : v11 = rr13 := Eq.symm hrr
  subst hrr
  refine x_world (ws' := mC y aM M) (List.append_nil _) ?_
  obtain ⟨hb14, hf⟩ := gd_some hf
  refine x_iald (q := 33) C 0 dX3_gust_32 (aX3_5 y aM M) rfl hb14 rfl ?_
  refine x_mmax (q := 36) C dX3_gust_33 kmX3_gust_58 (Nat.le_of_ble_eq_true rfl) (Nat.le_of_ble_eq_true rfl) (Nat.le_of_ble_eq_true rfl) (Nat.le_of_ble_eq_true rfl) rfl ?_
  refine x_bipush (q := 38) C dX3_gust_36 kb_10 rfl ?_
  refine x_idiv (q := 39) C dX3_gust_38 (by decide) rfl ?_
  refine x_iadd (q := 40) C dX3_gust_39 rfl ?_
  have hf := Option.some.inj hf
  exact x_iret () C dX3_gust_40 rfl hf rfl (Nat.le_of_ble_eq_true rfl) (Nat.le_of_ble_eq_true rfl)

/-! LampHillsModel.burn(I)V -/
theorem flX3_burn_28 : Cond.fieldLink RX3 28 "LampHillsModel" "winds" "[I" ∈ wsX3_burn := by decide +kernel
theorem flX3_burn_31 : Cond.fieldLink RX3 31 "LampHillsModel" "numbers" "[I" ∈ wsX3_burn := by decide +kernel
theorem iuX3_burn_X3 : ∀ w ∈ u_ws RX3 TX3 13, w ∈ wsX3_burn := fun _ h => List.mem_cons_of_mem _ (List.mem_append_right _ h)
theorem kmX3_burn_63 : ∀ w ∈ ([.methodLink RX3 63 Lib.Math.min.name, .static Lib.Math.min.name, .initialized "java/lang/Math", .code Lib.Math.min.name Lib.Math.min.code 2 (some .int)] : List Cond), w ∈ wsX3_burn := by decide +kernel
theorem yi_X3_gust : xY yX3_gust wsX3_gust cX3_gust 3 (some .int) 2 := ⟨⟨_, rfl⟩, by decide +kernel, by decide +kernel, by decide +kernel⟩
def f3_burn (M : St) (p1 : Int32) : Option (St) :=
  bd (f3_la M p1 5) fun v1 =>
  if v1 = 0 then
  (
    some M
  )
  else
  (
    bd (f3_la M p1 3) fun v4 =>
    bd (f3_la M p1 4) fun v7 =>
    lt_ (fun (v10 : Int32) =>
    (
      lt_ (if v10 < v4 then v10 else v4) fun v11 =>
      bd (f3_la M p1 3) fun v12 =>
      bd (f3_setLamp M p1 3 (v12 - v11)) fun M15 =>
      lt_ (up2 M15 12 (2 : Int32).toNatClampNeg ((M15 12 (2 : Int32).toNatClampNeg) + v11)) fun M18 =>
      bd (f3_la M18 p1 3) fun v19 =>
      lt_ (fun (M22 : St) =>
      (
        bd (f3_la M22 p1 5) fun v23 =>
        if v23 = 0 then
        (
          some M22
        )
        else
        (
          if ((M22 12 (0 : Int32).toNatClampNeg) - (M22 12 (0 : Int32).toNatClampNeg) / 10 * 10) = 0 then
          (
            gd (xin ((M22 12 (0 : Int32).toNatClampNeg) / 60) 10) <|
            bd (f3_gust M22 p1 (M22 11 ((M22 12 (0 : Int32).toNatClampNeg) / 60).toNatClampNeg)) fun v28 =>
            bd (f3_la M22 p1 2) fun v31 =>
            if (v31 + 4) < v28 then
            (
              bd (f3_setLamp M22 p1 5 0) fun M34 =>
              bd (f3_la M34 p1 7) fun v36 =>
              bd (f3_setLamp M34 p1 7 (v36 + 1)) fun M39 =>
              some M39
            )
            else
            (
              some M22
            )
          )
          else
          (
            some M22
          )
        )
      )
      ) fun J109 =>
      if v19 = 0 then
      (
        bd (f3_setLamp M18 p1 5 0) fun M47 =>
        J109 M47
      )
      else
      (
        if ((M18 12 (0 : Int32).toNatClampNeg) - (M18 12 (0 : Int32).toNatClampNeg) / 30 * 30) = 0 then
        (
          bd (f3_la M18 p1 4) fun v42 =>
          bd (f3_setLamp M18 p1 4 (if (v42 + 1) < (9 : Int32) then (v42 + 1) else (9 : Int32))) fun M45 =>
          J109 M45
        )
        else
        (
          J109 M18
        )
      )
    )
    ) fun J31 =>
    if v7 < 5 then
    (
      J31 1
    )
    else
    (
      J31 2
    )
  )
set_option maxHeartbeats 4000000 in
set_option maxRecDepth 100000 in
theorem c3_burn {l : Launch} {D : va_G} {y : Nat → ClassId} {aM : Nat → Nat} {M : St} {p1 : Int32} {M' : St} (hf : f3_burn M p1 = some M') : xMv l yX3_burn wsX3_burn 2 70 0 0 D (xT y) [.ref (aM 0), .int p1] (mC y aM M) (fun (_ : Unit) => True) (fun _ : Unit => mC y aM M') := by
  refine xMv_of (cc := cX3_burn) (nL := 3) (ret := none) [(0, .ref (aM 0)), (1, .int p1)] (by decide) rfl (Nat.le_of_ble_eq_true rfl) rfl ?_
  intro p e s m args below meth c A C hin
  have C : xC p s m args meth c D A cX3_burn RX3 3 wsX3_burn (xT y) none := C
  unfold f3_burn at hf
  refine x_aload_n (q := 1) C 0 dX3_burn_0 rfl rfl rfl ?_
  refine x_iload_n (q := 2) C 1 dX3_burn_1 rfl rfl rfl ?_
  refine x_iconst (q := 3) C dX3_burn_2 ki_5 rfl ?_
  obtain ⟨v1, hcal2, hf⟩ := bd_some hf
  refine x_callVi (q := 6) C (c3_la (l := l) (D := D) (y := y) (aM := aM) hcal2) yi_X3_la gX3_burn_X3_la rfl (oX3 y aM M) rfl ⟨(Nat.le_of_ble_eq_true rfl), (Nat.le_of_ble_eq_true rfl)⟩ dX3_burn_3 pm_nil rfl rfl (Nat.le_of_ble_eq_true rfl) ⟨Nat.le_of_ble_eq_true rfl, Nat.le_of_ble_eq_true rfl⟩ rfl ?_
  intro rr3 uu hrr
  have hrr : v1 = rr3 := Eq.symm hrr
  subst hrr
  refine x_world (ws' := mC y aM M) (List.append_nil _) ?_
  refine x_if_ne (t := 10) (q := 9) C dX3_burn_6 (by decide) rfl (fun hc => ?_) (fun hc => ?_)
  · have hf := (if_neg hc).symm.trans hf
    refine x_aload_n (q := 11) C 0 dX3_burn_10 rfl rfl rfl ?_
    refine x_iload_n (q := 12) C 1 dX3_burn_11 rfl rfl rfl ?_
    refine x_iconst (q := 13) C dX3_burn_12 ki_3 rfl ?_
    obtain ⟨v4, hcal5, hf⟩ := bd_some hf
    refine x_callVi (q := 16) C (c3_la (l := l) (D := D) (y := y) (aM := aM) hcal5) yi_X3_la gX3_burn_X3_la rfl (oX3 y aM M) rfl ⟨(Nat.le_of_ble_eq_true rfl), (Nat.le_of_ble_eq_true rfl)⟩ dX3_burn_13 pm_nil rfl rfl (Nat.le_of_ble_eq_true rfl) ⟨Nat.le_of_ble_eq_true rfl, Nat.le_of_ble_eq_true rfl⟩ rfl ?_
    intro rr6 uu hrr
    have hrr : v4 = rr6 := Eq.symm hrr
    subst hrr
    refine x_world (ws' := mC y aM M) (List.append_nil _) ?_
    refine x_aload_n (q := 17) C 0 dX3_burn_16 rfl rfl rfl ?_
    refine x_iload_n (q := 18) C 1 dX3_burn_17 rfl rfl rfl ?_
    refine x_iconst (q := 19) C dX3_burn_18 ki_4 rfl ?_
    obtain ⟨v7, hcal8, hf⟩ := bd_some hf
    refine x_callVi (q := 22) C (c3_la (l := l) (D := D) (y := y) (aM := aM) hcal8) yi_X3_la gX3_burn_X3_la rfl (oX3 y aM M) rfl ⟨(Nat.le_of_ble_eq_true rfl), (Nat.le_of_ble_eq_true rfl)⟩ dX3_burn_19 pm_nil rfl rfl (Nat.le_of_ble_eq_true rfl) ⟨Nat.le_of_ble_eq_true rfl, Nat.le_of_ble_eq_true rfl⟩ rfl ?_
    intro rr9 uu hrr
    have hrr : v7 = rr9 := Eq.symm hrr
    subst hrr
    refine x_world (ws' := mC y aM M) (List.append_nil _) ?_
    refine x_iconst (q := 23) C dX3_burn_22 ki_5 rfl ?_
    obtain ⟨J31, eJ31, hf⟩ := lt_elim hf
    have hJ31 : ∀ (v10 : Int32), J31 v10 = some M' → xV p l e { frames := 2, cells := 0, slots := 0, locals := 70 } s m args below meth c D A (xQv D (xT y) A (fun (_ : Unit) => True) (fun _ : Unit => mC y aM M') 0 0 below args s) 3 (mC y aM M) 0 0 [(0, .ref (aM 0)), (1, .int p1)] 31 [.int v10, .int v4] := by
      intro v10 hf
      subst eJ31
      refine x_mmin (q := 34) C dX3_burn_31 kmX3_burn_63 (Nat.le_of_ble_eq_true rfl) (Nat.le_of_ble_eq_true rfl) (Nat.le_of_ble_eq_true rfl) (Nat.le_of_ble_eq_true rfl) rfl ?_
      obtain ⟨v11, ev11, hf⟩ := lt_elim hf
      refine x_topi ev11 ?_
      refine x_istore_n (q := 35) C [1, 2, 0] [(0, .ref (aM 0)), (1, .int p1), (2, .int v11)] dX3_burn_34 rfl (by decide) rfl rfl ?_
      refine x_aload_n (q := 36) C 0 dX3_burn_35 rfl rfl rfl ?_
      refine x_iload_n (q := 37) C 1 dX3_burn_36 rfl rfl rfl ?_
      refine x_iconst (q := 38) C dX3_burn_37 ki_3 rfl ?_
      refine x_aload_n (q := 39) C 0 dX3_burn_38 rfl rfl rfl ?_
      refine x_iload_n (q := 40) C 1 dX3_burn_39 rfl rfl rfl ?_
      refine x_iconst (q := 41) C dX3_burn_40 ki_3 rfl ?_
      obtain ⟨v12, hcal13, hf⟩ := bd_some hf
      refine x_callVi (q := 44) C (c3_la (l := l) (D := D) (y := y) (aM := aM) hcal13) yi_X3_la gX3_burn_X3_la rfl (oX3 y aM M) rfl ⟨(Nat.le_of_ble_eq_true rfl), (Nat.le_of_ble_eq_true rfl)⟩ dX3_burn_41 pm_nil rfl rfl (Nat.le_of_ble_eq_true rfl) ⟨Nat.le_of_ble_eq_true rfl, Nat.le_of_ble_eq_true rfl⟩ rfl ?_
      intro rr14 uu hrr
      have hrr : v12 = rr14 := Eq.symm hrr
      subst hrr
      refine x_world (ws' := mC y aM M) (List.append_nil _) ?_
      refine x_iload_n (q := 45) C 2 dX3_burn_44 rfl rfl rfl ?_
      refine x_isub (q := 46) C dX3_burn_45 rfl ?_
      obtain ⟨M15, hcal16, hf⟩ := bd_some hf
      refine x_callVv (q := 49) C (c3_setLamp (l := l) (D := D) (y := y) (aM := aM) hcal16) yi_X3_setLamp gX3_burn_X3_setLamp rfl (oX3 y aM M) rfl ⟨(Nat.le_of_ble_eq_true rfl), (Nat.le_of_ble_eq_true rfl)⟩ dX3_burn_46 pm_nil rfl rfl (Nat.le_of_ble_eq_true rfl) ⟨Nat.le_of_ble_eq_true rfl, Nat.le_of_ble_eq_true rfl⟩ rfl ?_
      intro uu hrr
      refine x_world (ws' := mC y aM M15) (List.append_nil _) ?_
      refine x_aload_n (q := 50) C 0 dX3_burn_49 rfl rfl rfl ?_
      refine x_get (q := 53) C 12 dX3_burn_50 (oX3 y aM M15) rfl iuX3_burn_X3 flX3_burn_31 rfl (by decide) rfl rfl ?_
      refine x_iconst (q := 54) C dX3_burn_53 ki_2 rfl ?_
      refine x_dup2 (q := 55) C dX3_burn_54 rfl rfl rfl ?_
      have hb17 : xin 2 3 = true := by decide
      refine x_iald (q := 56) C 0 dX3_burn_55 (aX3_12 y aM M15) rfl hb17 rfl ?_
      refine x_iload_n (q := 57) C 2 dX3_burn_56 rfl rfl rfl ?_
      refine x_iadd (q := 58) C dX3_burn_57 rfl ?_
      obtain ⟨M18, eM18, hf⟩ := lt_elim hf
      refine x_iast (q := 59) (ws' := mC y aM M18) C 0 dX3_burn_58 (aX3_12 y aM M15) rfl hb17 (congrArg (fun z => mC y aM z) eM18.symm) rfl ?_
      refine x_aload_n (q := 60) C 0 dX3_burn_59 rfl rfl rfl ?_
      refine x_iload_n (q := 61) C 1 dX3_burn_60 rfl rfl rfl ?_
      refine x_iconst (q := 62) C dX3_burn_61 ki_3 rfl ?_
      obtain ⟨v19, hcal20, hf⟩ := bd_some hf
      refine x_callVi (q := 65) C (c3_la (l := l) (D := D) (y := y) (aM := aM) hcal20) yi_X3_la gX3_burn_X3_la rfl (oX3 y aM M18) rfl ⟨(Nat.le_of_ble_eq_true rfl), (Nat.le_of_ble_eq_true rfl)⟩ dX3_burn_62 pm_nil rfl rfl (Nat.le_of_ble_eq_true rfl) ⟨Nat.le_of_ble_eq_true rfl, Nat.le_of_ble_eq_true rfl⟩ rfl ?_
      intro rr21 uu hrr
      have hrr : v19 = rr21 := Eq.symm hrr
      subst hrr
      refine x_world (ws' := mC y aM M18) (List.append_nil _) ?_
      obtain ⟨J109, eJ109, hf⟩ := lt_elim hf
      have hJ109 : ∀ (M22 : St), J109 M22 = some M' → xV p l e { frames := 2, cells := 0, slots := 0, locals := 70 } s m args below meth c D A (xQv D (xT y) A (fun (_ : Unit) => True) (fun _ : Unit => mC y aM M') 0 0 below args s) 3 (mC y aM M22) 0 0 [(0, .ref (aM 0)), (1, .int p1)] 109 [] := by
        intro M22 hf
        subst eJ109
        refine x_aload_n (q := 110) C 0 dX3_burn_109 rfl rfl rfl ?_
        refine x_iload_n (q := 111) C 1 dX3_burn_110 rfl rfl rfl ?_
        refine x_iconst (q := 112) C dX3_burn_111 ki_5 rfl ?_
        obtain ⟨v23, hcal24, hf⟩ := bd_some hf
        refine x_callVi (q := 115) C (c3_la (l := l) (D := D) (y := y) (aM := aM) hcal24) yi_X3_la gX3_burn_X3_la rfl (oX3 y aM M22) rfl ⟨(Nat.le_of_ble_eq_true rfl), (Nat.le_of_ble_eq_true rfl)⟩ dX3_burn_112 pm_nil rfl rfl (Nat.le_of_ble_eq_true rfl) ⟨Nat.le_of_ble_eq_true rfl, Nat.le_of_ble_eq_true rfl⟩ rfl ?_
        intro rr25 uu hrr
        have hrr : v23 = rr25 := Eq.symm hrr
        subst hrr
        refine x_world (ws' := mC y aM M22) (List.append_nil _) ?_
        refine x_if_eq (t := 160) (q := 118) C dX3_burn_115 (by decide) rfl (fun hc => ?_) (fun hc => ?_)
        · have hf := (if_pos hc).symm.trans hf
          have hf := Option.some.inj hf
          exact x_vret () C dX3_burn_160 rfl trivial (congrArg (fun z => mC y aM z) hf) (Nat.le_of_ble_eq_true rfl) (Nat.le_of_ble_eq_true rfl)
        · have hf := (if_neg hc).symm.trans hf
          refine x_aload_n (q := 119) C 0 dX3_burn_118 rfl rfl rfl ?_
          refine x_get (q := 122) C 12 dX3_burn_119 (oX3 y aM M22) rfl iuX3_burn_X3 flX3_burn_31 rfl (by decide) rfl rfl ?_
          refine x_iconst (q := 123) C dX3_burn_122 ki_0 rfl ?_
          have hb26 : xin 0 3 = true := by decide
          refine x_iald (q := 124) C 0 dX3_burn_123 (aX3_12 y aM M22) rfl hb26 rfl ?_
          refine x_bipush (q := 126) C dX3_burn_124 kb_10 rfl ?_
          refine x_irem (q := 127) C dX3_burn_126 (by decide) rfl ?_
          refine x_if_ne (t := 160) (q := 130) C dX3_burn_127 (by decide) rfl (fun hc => ?_) (fun hc => ?_)
          · have hf := (if_neg hc).symm.trans hf
            have hf := Option.some.inj hf
            exact x_vret () C dX3_burn_160 rfl trivial (congrArg (fun z => mC y aM z) hf) (Nat.le_of_ble_eq_true rfl) (Nat.le_of_ble_eq_true rfl)
          · have hf := (if_pos hc).symm.trans hf
            refine x_aload_n (q := 131) C 0 dX3_burn_130 rfl rfl rfl ?_
            refine x_iload_n (q := 132) C 1 dX3_burn_131 rfl rfl rfl ?_
            refine x_aload_n (q := 133) C 0 dX3_burn_132 rfl rfl rfl ?_
            refine x_get (q := 136) C 11 dX3_burn_133 (oX3 y aM M22) rfl iuX3_burn_X3 flX3_burn_28 rfl (by decide) rfl rfl ?_
            refine x_aload_n (q := 137) C 0 dX3_burn_136 rfl rfl rfl ?_
            refine x_get (q := 140) C 12 dX3_burn_137 (oX3 y aM M22) rfl iuX3_burn_X3 flX3_burn_31 rfl (by decide) rfl rfl ?_
            refine x_iconst (q := 141) C dX3_burn_140 ki_0 rfl ?_
            refine x_iald (q := 142) C 0 dX3_burn_141 (aX3_12 y aM M22) rfl hb26 rfl ?_
            refine x_bipush (q := 144) C dX3_burn_142 kb_60 rfl ?_
            refine x_idiv (q := 145) C dX3_burn_144 (by decide) rfl ?_
            obtain ⟨hb27, hf⟩ := gd_some hf
            refine x_iald (q := 146) C 0 dX3_burn_145 (aX3_11 y aM M22) rfl hb27 rfl ?_
            obtain ⟨v28, hcal29, hf⟩ := bd_some hf
            refine x_callVi (q := 149) C (c3_gust (l := l) (D := D) (y := y) (aM := aM) hcal29) yi_X3_gust gX3_burn_X3_gust rfl (oX3 y aM M22) rfl ⟨(Nat.le_of_ble_eq_true rfl), (Nat.le_of_ble_eq_true rfl)⟩ dX3_burn_146 pm_nil rfl rfl (Nat.le_of_ble_eq_true rfl) ⟨Nat.le_of_ble_eq_true rfl, Nat.le_of_ble_eq_true rfl⟩ rfl ?_
            intro rr30 uu hrr
            have hrr : v28 = rr30 := Eq.symm hrr
            subst hrr
            refine x_world (ws' := mC y aM M22) (List.append_nil _) ?_
            refine x_aload_n (q := 150) C 0 dX3_burn_149 rfl rfl rfl ?_
            refine x_iload_n (q := 151) C 1 dX3_burn_150 rfl rfl rfl ?_
            refine x_iconst (q := 152) C dX3_burn_151 ki_2 rfl ?_
            obtain ⟨v31, hcal32, hf⟩ := bd_some hf
            refine x_callVi (q := 155) C (c3_la (l := l) (D := D) (y := y) (aM := aM) hcal32) yi_X3_la gX3_burn_X3_la rfl (oX3 y aM M22) rfl ⟨(Nat.le_of_ble_eq_true rfl), (Nat.le_of_ble_eq_true rfl)⟩ dX3_burn_152 pm_nil rfl rfl (Nat.le_of_ble_eq_true rfl) ⟨Nat.le_of_ble_eq_true rfl, Nat.le_of_ble_eq_true rfl⟩ rfl ?_
            intro rr33 uu hrr
            have hrr : v31 = rr33 := Eq.symm hrr
            subst hrr
            refine x_world (ws' := mC y aM M22) (List.append_nil _) ?_
            refine x_iconst (q := 156) C dX3_burn_155 ki_4 rfl ?_
            refine x_iadd (q := 157) C dX3_burn_156 rfl ?_
            refine x_icmp_gt (t := 161) (q := 160) C dX3_burn_157 (by decide) rfl (fun hc => ?_) (fun hc => ?_)
            · have hf := (if_pos hc).symm.trans hf
              refine x_aload_n (q := 162) C 0 dX3_burn_161 rfl rfl rfl ?_
              refine x_iload_n (q := 163) C 1 dX3_burn_162 rfl rfl rfl ?_
              refine x_iconst (q := 164) C dX3_burn_163 ki_5 rfl ?_
              refine x_iconst (q := 165) C dX3_burn_164 ki_0 rfl ?_
              obtain ⟨M34, hcal35, hf⟩ := bd_some hf
              refine x_callVv (q := 168) C (c3_setLamp (l := l) (D := D) (y := y) (aM := aM) hcal35) yi_X3_setLamp gX3_burn_X3_setLamp rfl (oX3 y aM M22) rfl ⟨(Nat.le_of_ble_eq_true rfl), (Nat.le_of_ble_eq_true rfl)⟩ dX3_burn_165 pm_nil rfl rfl (Nat.le_of_ble_eq_true rfl) ⟨Nat.le_of_ble_eq_true rfl, Nat.le_of_ble_eq_true rfl⟩ rfl ?_
              intro uu hrr
              refine x_world (ws' := mC y aM M34) (List.append_nil _) ?_
              refine x_aload_n (q := 169) C 0 dX3_burn_168 rfl rfl rfl ?_
              refine x_iload_n (q := 170) C 1 dX3_burn_169 rfl rfl rfl ?_
              refine x_bipush (q := 172) C dX3_burn_170 kb_7 rfl ?_
              refine x_aload_n (q := 173) C 0 dX3_burn_172 rfl rfl rfl ?_
              refine x_iload_n (q := 174) C 1 dX3_burn_173 rfl rfl rfl ?_
              refine x_bipush (q := 176) C dX3_burn_174 kb_7 rfl ?_
              obtain ⟨v36, hcal37, hf⟩ := bd_some hf
              refine x_callVi (q := 179) C (c3_la (l := l) (D := D) (y := y) (aM := aM) hcal37) yi_X3_la gX3_burn_X3_la rfl (oX3 y aM M34) rfl ⟨(Nat.le_of_ble_eq_true rfl), (Nat.le_of_ble_eq_true rfl)⟩ dX3_burn_176 pm_nil rfl rfl (Nat.le_of_ble_eq_true rfl) ⟨Nat.le_of_ble_eq_true rfl, Nat.le_of_ble_eq_true rfl⟩ rfl ?_
              intro rr38 uu hrr
              have hrr : v36 = rr38 := Eq.symm hrr
              subst hrr
              refine x_world (ws' := mC y aM M34) (List.append_nil _) ?_
              refine x_iconst (q := 180) C dX3_burn_179 ki_1 rfl ?_
              refine x_iadd (q := 181) C dX3_burn_180 rfl ?_
              obtain ⟨M39, hcal40, hf⟩ := bd_some hf
              refine x_callVv (q := 184) C (c3_setLamp (l := l) (D := D) (y := y) (aM := aM) hcal40) yi_X3_setLamp gX3_burn_X3_setLamp rfl (oX3 y aM M34) rfl ⟨(Nat.le_of_ble_eq_true rfl), (Nat.le_of_ble_eq_true rfl)⟩ dX3_burn_181 pm_nil rfl rfl (Nat.le_of_ble_eq_true rfl) ⟨Nat.le_of_ble_eq_true rfl, Nat.le_of_ble_eq_true rfl⟩ rfl ?_
              intro uu hrr
              refine x_world (ws' := mC y aM M39) (List.append_nil _) ?_
              have hf := Option.some.inj hf
              exact x_vret () C dX3_burn_184 rfl trivial (congrArg (fun z => mC y aM z) hf) (Nat.le_of_ble_eq_true rfl) (Nat.le_of_ble_eq_true rfl)
            · have hf := (if_neg hc).symm.trans hf
              have hf := Option.some.inj hf
              exact x_vret () C dX3_burn_160 rfl trivial (congrArg (fun z => mC y aM z) hf) (Nat.le_of_ble_eq_true rfl) (Nat.le_of_ble_eq_true rfl)
      refine x_if_ne (t := 78) (q := 68) C dX3_burn_65 (by decide) rfl (fun hc => ?_) (fun hc => ?_)
      · have hf := (if_neg hc).symm.trans hf
        refine x_aload_n (q := 79) C 0 dX3_burn_78 rfl rfl rfl ?_
        refine x_get (q := 82) C 12 dX3_burn_79 (oX3 y aM M18) rfl iuX3_burn_X3 flX3_burn_31 rfl (by decide) rfl rfl ?_
        refine x_iconst (q := 83) C dX3_burn_82 ki_0 rfl ?_
        have hb41 : xin 0 3 = true := by decide
        refine x_iald (q := 84) C 0 dX3_burn_83 (aX3_12 y aM M18) rfl hb41 rfl ?_
        refine x_bipush (q := 86) C dX3_burn_84 kb_30 rfl ?_
        refine x_irem (q := 87) C dX3_burn_86 (by decide) rfl ?_
        refine x_if_ne (t := 109) (q := 90) C dX3_burn_87 (by decide) rfl (fun hc => ?_) (fun hc => ?_)
        · have hf := (if_neg hc).symm.trans hf
          refine x_sub [0, 1] (L' := [(0, .ref (aM 0)), (1, .int p1)]) rfl ?_
          exact hJ109 M18 hf
        · have hf := (if_pos hc).symm.trans hf
          refine x_aload_n (q := 91) C 0 dX3_burn_90 rfl rfl rfl ?_
          refine x_iload_n (q := 92) C 1 dX3_burn_91 rfl rfl rfl ?_
          refine x_iconst (q := 93) C dX3_burn_92 ki_4 rfl ?_
          refine x_bipush (q := 95) C dX3_burn_93 kb_9 rfl ?_
          refine x_aload_n (q := 96) C 0 dX3_burn_95 rfl rfl rfl ?_
          refine x_iload_n (q := 97) C 1 dX3_burn_96 rfl rfl rfl ?_
          refine x_iconst (q := 98) C dX3_burn_97 ki_4 rfl ?_
          obtain ⟨v42, hcal43, hf⟩ := bd_some hf
          refine x_callVi (q := 101) C (c3_la (l := l) (D := D) (y := y) (aM := aM) hcal43) yi_X3_la gX3_burn_X3_la rfl (oX3 y aM M18) rfl ⟨(Nat.le_of_ble_eq_true rfl), (Nat.le_of_ble_eq_true rfl)⟩ dX3_burn_98 pm_nil rfl rfl (Nat.le_of_ble_eq_true rfl) ⟨Nat.le_of_ble_eq_true rfl, Nat.le_of_ble_eq_true rfl⟩ rfl ?_
          intro rr44 uu hrr
          have hrr : v42 = rr44 := Eq.symm hrr
          subst hrr
          refine x_world (ws' := mC y aM M18) (List.append_nil _) ?_
          refine x_iconst (q := 102) C dX3_burn_101 ki_1 rfl ?_
          refine x_iadd (q := 103) C dX3_burn_102 rfl ?_
          refine x_mmin (q := 106) C dX3_burn_103 kmX3_burn_63 (Nat.le_of_ble_eq_true rfl) (Nat.le_of_ble_eq_true rfl) (Nat.le_of_ble_eq_true rfl) (Nat.le_of_ble_eq_true rfl) rfl ?_
          obtain ⟨M45, hcal46, hf⟩ := bd_some hf
          refine x_callVv (q := 109) C (c3_setLamp (l := l) (D := D) (y := y) (aM := aM) hcal46) yi_X3_setLamp gX3_burn_X3_setLamp rfl (oX3 y aM M18) rfl ⟨(Nat.le_of_ble_eq_true rfl), (Nat.le_of_ble_eq_true rfl)⟩ dX3_burn_106 pm_nil rfl rfl (Nat.le_of_ble_eq_true rfl) ⟨Nat.le_of_ble_eq_true rfl, Nat.le_of_ble_eq_true rfl⟩ rfl ?_
          intro uu hrr
          refine x_world (ws' := mC y aM M45) (List.append_nil _) ?_
          refine x_sub [0, 1] (L' := [(0, .ref (aM 0)), (1, .int p1)]) rfl ?_
          exact hJ109 M45 hf
      · have hf := (if_pos hc).symm.trans hf
        refine x_aload_n (q := 69) C 0 dX3_burn_68 rfl rfl rfl ?_
        refine x_iload_n (q := 70) C 1 dX3_burn_69 rfl rfl rfl ?_
        refine x_iconst (q := 71) C dX3_burn_70 ki_5 rfl ?_
        refine x_iconst (q := 72) C dX3_burn_71 ki_0 rfl ?_
        obtain ⟨M47, hcal48, hf⟩ := bd_some hf
        refine x_callVv (q := 75) C (c3_setLamp (l := l) (D := D) (y := y) (aM := aM) hcal48) yi_X3_setLamp gX3_burn_X3_setLamp rfl (oX3 y aM M18) rfl ⟨(Nat.le_of_ble_eq_true rfl), (Nat.le_of_ble_eq_true rfl)⟩ dX3_burn_72 pm_nil rfl rfl (Nat.le_of_ble_eq_true rfl) ⟨Nat.le_of_ble_eq_true rfl, Nat.le_of_ble_eq_true rfl⟩ rfl ?_
        intro uu hrr
        refine x_world (ws' := mC y aM M47) (List.append_nil _) ?_
        refine x_goto (t := 109) C dX3_burn_75 (by decide) ?_
        refine x_sub [0, 1] (L' := [(0, .ref (aM 0)), (1, .int p1)]) rfl ?_
        exact hJ109 M47 hf
    refine x_icmp_lt (t := 30) (q := 26) C dX3_burn_23 (by decide) rfl (fun hc => ?_) (fun hc => ?_)
    · have hf := (if_pos hc).symm.trans hf
      refine x_iconst (q := 31) C dX3_burn_30 ki_1 rfl ?_
      exact hJ31 1 hf
    · have hf := (if_neg hc).symm.trans hf
      refine x_iconst (q := 27) C dX3_burn_26 ki_2 rfl ?_
      refine x_goto (t := 31) C dX3_burn_27 (by decide) ?_
      exact hJ31 2 hf
  · have hf := (if_pos hc).symm.trans hf
    have hf := Option.some.inj hf
    exact x_vret () C dX3_burn_9 rfl trivial (congrArg (fun z => mC y aM z) hf) (Nat.le_of_ble_eq_true rfl) (Nat.le_of_ble_eq_true rfl)

/-! LampHillsModel.isOver()Z -/
theorem flX3_isOver_31 : Cond.fieldLink RX3 31 "LampHillsModel" "numbers" "[I" ∈ wsX3_isOver := by decide +kernel
theorem iuX3_isOver_X3 : ∀ w ∈ u_ws RX3 TX3 13, w ∈ wsX3_isOver := fun _ h => List.mem_cons_of_mem _ (List.mem_append_right _ h)
def f3_isOver (M : St) : Option (Int32) :=
  if (M 12 (0 : Int32).toNatClampNeg) = 600 then
  (
    some 1
  )
  else
  (
    some 0
  )
set_option maxHeartbeats 4000000 in
set_option maxRecDepth 100000 in
theorem c3_isOver {l : Launch} {D : va_G} {y : Nat → ClassId} {aM : Nat → Nat} {M : St} {r : Int32} (hf : f3_isOver M = some r) : xMi l yX3_isOver wsX3_isOver 0 0 0 0 D (xT y) [.ref (aM 0)] (mC y aM M) (fun (r' : Int32) (_ : Unit) => r' = r) (fun _ : Unit => mC y aM M) := by
  refine xMi_of (cc := cX3_isOver) (nL := 1) (ret := (some .boolean)) [(0, .ref (aM 0))] (by decide) rfl (Nat.le_of_ble_eq_true rfl) rfl ?_
  intro p e s m args below meth c A C hin
  have C : xC p s m args meth c D A cX3_isOver RX3 1 wsX3_isOver (xT y) (some .boolean) := C
  unfold f3_isOver at hf
  refine x_aload_n (q := 1) C 0 dX3_isOver_0 rfl rfl rfl ?_
  refine x_get (q := 4) C 12 dX3_isOver_1 (oX3 y aM M) rfl iuX3_isOver_X3 flX3_isOver_31 rfl (by decide) rfl rfl ?_
  refine x_iconst (q := 5) C dX3_isOver_4 ki_0 rfl ?_
  have hb1 : xin 0 3 = true := by decide
  refine x_iald (q := 6) C 0 dX3_isOver_5 (aX3_12 y aM M) rfl hb1 rfl ?_
  refine x_sipush (q := 9) C dX3_isOver_6 ks_600 rfl ?_
  refine x_icmp_ne (t := 16) (q := 12) C dX3_isOver_9 (by decide) rfl (fun hc => ?_) (fun hc => ?_)
  · have hf := (if_neg hc).symm.trans hf
    refine x_iconst (q := 17) C dX3_isOver_16 ki_0 rfl ?_
    have hf := Option.some.inj hf
    exact x_zret () C dX3_isOver_17 rfl rfl hf rfl (Nat.le_of_ble_eq_true rfl) (Nat.le_of_ble_eq_true rfl)
  · have hf := (if_pos hc).symm.trans hf
    refine x_iconst (q := 13) C dX3_isOver_12 ki_1 rfl ?_
    refine x_goto (t := 17) C dX3_isOver_13 (by decide) ?_
    have hf := Option.some.inj hf
    exact x_zret () C dX3_isOver_17 rfl rfl hf rfl (Nat.le_of_ble_eq_true rfl) (Nat.le_of_ble_eq_true rfl)

/-! LampHillsModel.minuteOn()I -/
theorem flX3_minuteOn_31 : Cond.fieldLink RX3 31 "LampHillsModel" "numbers" "[I" ∈ wsX3_minuteOn := by decide +kernel
theorem flX3_minuteOn_48 : Cond.fieldLink RX3 48 "LampHillsModel" "lamps" "I" ∈ wsX3_minuteOn := by decide +kernel
theorem flX3_minuteOn_51 : Cond.fieldLink RX3 51 "LampHillsModel" "lighters" "I" ∈ wsX3_minuteOn := by decide +kernel
theorem iuX3_minuteOn_X3 : ∀ w ∈ u_ws RX3 TX3 13, w ∈ wsX3_minuteOn := fun _ h => List.mem_cons_of_mem _ (List.mem_append_right _ h)
theorem yi_X3_burn : xY yX3_burn wsX3_burn cX3_burn 3 none 1 := ⟨⟨_, rfl⟩, by decide +kernel, by decide +kernel, by decide +kernel⟩
theorem yi_X3_goOn : xY yX3_goOn wsX3_goOn cX3_goOn 4 (some .int) 1 := ⟨⟨_, rfl⟩, by decide +kernel, by decide +kernel, by decide +kernel⟩
def f3_minuteOn_L4 (K : Int32 → St → Option (Int32 × St)) : Nat → Int32 → Int32 → St → Option (Int32 × St)
  | 0, _, _, _ => none
  | fu + 1, v1, v2, M3 =>
  if (M3 4 0) ≤ v2 then
  (
    K v1 M3
  )
  else
  (
    bd2 (f3_goOn M3 v2) fun v6 M7 =>
    lt_ (fun (v10 : Int32) =>
    (
      lt_ (v1 ||| v10) fun v11 =>
      f3_minuteOn_L4 K fu v11 (v2 + 1) M7
    )
    ) fun J31 =>
    if v6 = (-1) then
    (
      J31 0
    )
    else
    (
      J31 (1 <<< (v6 &&& 31))
    )
  )
def f3_minuteOn_L41 (K : St → Option (Int32 × St)) : Nat → Int32 → St → Option (Int32 × St)
  | 0, _, _ => none
  | fu + 1, v12, M13 =>
  if (M13 3 0) ≤ v12 then
  (
    K M13
  )
  else
  (
    bd (f3_burn M13 v12) fun M15 =>
    f3_minuteOn_L41 K fu (v12 + 1) M15
  )
def f3_minuteOn (M : St) : Option (Int32 × St) :=
  f3_minuteOn_L4 (fun (v4 : Int32) (M5 : St) =>
  (
    f3_minuteOn_L41 (fun (M14 : St) =>
    (
      lt_ (up2 M14 12 (0 : Int32).toNatClampNeg ((M14 12 (0 : Int32).toNatClampNeg) + 1)) fun M18 =>
      some (v4, M18)
    )
    ) xF 0 M5
  )
  ) xF 0 0 M
set_option maxHeartbeats 4000000 in
set_option maxRecDepth 100000 in
theorem w3_minuteOn_L4 {p : Program} {l : Launch} {e : Env} {s : State} {m : MethodId} {args : Array Value} {below : List Frame} {meth : Method} {c : Code} {D : va_G} {A : Nat → Prop} {y : Nat → ClassId} {aM : Nat → Nat} {r : Int32} {M' : St} {K : Int32 → St → Option (Int32 × St)} (C : xC p s m args meth c D A cX3_minuteOn RX3 4 wsX3_minuteOn (xT y) (some .int)) (hK : ∀ (v4 : Int32) (M5 : St), K v4 M5 = some (r, M') → xV p l e { frames := 5, cells := 0, slots := 0, locals := 143 } s m args below meth c D A (xQi D (xT y) A (fun (r' : Int32) (_ : Unit) => r' = r) (fun _ : Unit => mC y aM M') 0 0 below args s) 4 (mC y aM M5) 0 0 [(0, .ref (aM 0)), (1, .int v4)] 39 []) : ∀ (fu : Nat) (v1 : Int32) (v2 : Int32) (M3 : St), f3_minuteOn_L4 K fu v1 v2 M3 = some (r, M') → xV p l e { frames := 5, cells := 0, slots := 0, locals := 143 } s m args below meth c D A (xQi D (xT y) A (fun (r' : Int32) (_ : Unit) => r' = r) (fun _ : Unit => mC y aM M') 0 0 below args s) 4 (mC y aM M3) 0 0 [(0, .ref (aM 0)), (1, .int v1), (2, .int v2)] 4 [] := by
  intro fu
  induction fu with
  | zero => intro v1 v2 M3 hf; rw [f3_minuteOn_L4] at hf; cases hf
  | succ fu ih =>
    intro v1 v2 M3 hf
    rw [f3_minuteOn_L4] at hf
    refine x_iload_n (q := 5) C 2 dX3_minuteOn_4 rfl rfl rfl ?_
    refine x_aload_n (q := 6) C 0 dX3_minuteOn_5 rfl rfl rfl ?_
    refine x_get (q := 9) C 4 dX3_minuteOn_6 (oX3 y aM M3) rfl iuX3_minuteOn_X3 flX3_minuteOn_51 rfl (by decide) rfl rfl ?_
    refine x_icmp_ge (t := 39) (q := 12) C dX3_minuteOn_9 (by decide) rfl (fun hc => ?_) (fun hc => ?_)
    · have hf := (if_pos hc).symm.trans hf
      refine x_sub [0, 1] (L' := [(0, .ref (aM 0)), (1, .int v1)]) rfl ?_
      exact hK v1 M3 hf
    · have hf := (if_neg hc).symm.trans hf
      refine x_aload_n (q := 13) C 0 dX3_minuteOn_12 rfl rfl rfl ?_
      refine x_iload_n (q := 14) C 2 dX3_minuteOn_13 rfl rfl rfl ?_
      obtain ⟨v6, M7, hcal8, hf⟩ := bd2_some hf
      refine x_callVi (q := 17) C (c3_goOn (l := l) (D := D) (y := y) (aM := aM) hcal8) yi_X3_goOn gX3_minuteOn_X3_goOn rfl (oX3 y aM M3) rfl ⟨(Nat.le_of_ble_eq_true rfl), (Nat.le_of_ble_eq_true rfl)⟩ dX3_minuteOn_14 pm_nil rfl rfl (Nat.le_of_ble_eq_true rfl) ⟨Nat.le_of_ble_eq_true rfl, Nat.le_of_ble_eq_true rfl⟩ rfl ?_
      intro rr9 uu hrr
      have hrr : v6 = rr9 := Eq.symm hrr
      subst hrr
      refine x_world (ws' := mC y aM M7) (List.append_nil _) ?_
      refine x_istore_n (q := 18) C [1, 2, 3, 0] [(0, .ref (aM 0)), (1, .int v1), (2, .int v2), (3, .int v6)] dX3_minuteOn_17 rfl (by decide) rfl rfl ?_
      refine x_iload_n (q := 19) C 1 dX3_minuteOn_18 rfl rfl rfl ?_
      refine x_iload_n (q := 20) C 3 dX3_minuteOn_19 rfl rfl rfl ?_
      refine x_iconst (q := 21) C dX3_minuteOn_20 ki_m1 rfl ?_
      obtain ⟨J31, eJ31, hf⟩ := lt_elim hf
      have hJ31 : ∀ (v10 : Int32), J31 v10 = some (r, M') → xV p l e { frames := 5, cells := 0, slots := 0, locals := 143 } s m args below meth c D A (xQi D (xT y) A (fun (r' : Int32) (_ : Unit) => r' = r) (fun _ : Unit => mC y aM M') 0 0 below args s) 4 (mC y aM M7) 0 0 [(0, .ref (aM 0)), (2, .int v2)] 31 [.int v10, .int v1] := by
        intro v10 hf
        subst eJ31
        refine x_ior (q := 32) C dX3_minuteOn_31 rfl ?_
        obtain ⟨v11, ev11, hf⟩ := lt_elim hf
        refine x_topi ev11 ?_
        refine x_istore_n (q := 33) C [1, 0, 2] [(0, .ref (aM 0)), (1, .int v11), (2, .int v2)] dX3_minuteOn_32 rfl (by decide) rfl rfl ?_
        refine x_iinc (q := 36) C 2 (v2 + 1) [1, 2, 0] [(0, .ref (aM 0)), (1, .int v11), (2, .int (v2 + 1))] dX3_minuteOn_33 rfl (congrArg (fun z => v2 + z) ki_1) (by decide) rfl rfl ?_
        refine x_goto (t := 4) C dX3_minuteOn_36 (by decide) ?_
        exact ih v11 (v2 + 1) M7 hf
      refine x_icmp_ne (t := 28) (q := 24) C dX3_minuteOn_21 (by decide) rfl (fun hc => ?_) (fun hc => ?_)
      · have hf := (if_neg hc).symm.trans hf
        refine x_iconst (q := 29) C dX3_minuteOn_28 ki_1 rfl ?_
        refine x_iload_n (q := 30) C 3 dX3_minuteOn_29 rfl rfl rfl ?_
        refine x_ishl (q := 31) C dX3_minuteOn_30 rfl ?_
        refine x_sub [0, 2] (L' := [(0, .ref (aM 0)), (2, .int v2)]) rfl ?_
        exact hJ31 (1 <<< (v6 &&& 31)) hf
      · have hf := (if_pos hc).symm.trans hf
        refine x_iconst (q := 25) C dX3_minuteOn_24 ki_0 rfl ?_
        refine x_goto (t := 31) C dX3_minuteOn_25 (by decide) ?_
        refine x_sub [0, 2] (L' := [(0, .ref (aM 0)), (2, .int v2)]) rfl ?_
        exact hJ31 0 hf
set_option maxHeartbeats 4000000 in
set_option maxRecDepth 100000 in
theorem w3_minuteOn_L41 {p : Program} {l : Launch} {e : Env} {s : State} {m : MethodId} {args : Array Value} {below : List Frame} {meth : Method} {c : Code} {D : va_G} {A : Nat → Prop} {y : Nat → ClassId} {aM : Nat → Nat} {v4 : Int32} {r : Int32} {M' : St} {K : St → Option (Int32 × St)} (C : xC p s m args meth c D A cX3_minuteOn RX3 4 wsX3_minuteOn (xT y) (some .int)) (hK : ∀ (M14 : St), K M14 = some (r, M') → xV p l e { frames := 5, cells := 0, slots := 0, locals := 143 } s m args below meth c D A (xQi D (xT y) A (fun (r' : Int32) (_ : Unit) => r' = r) (fun _ : Unit => mC y aM M') 0 0 below args s) 4 (mC y aM M14) 0 0 [(0, .ref (aM 0)), (1, .int v4)] 60 []) : ∀ (fu : Nat) (v12 : Int32) (M13 : St), f3_minuteOn_L41 K fu v12 M13 = some (r, M') → xV p l e { frames := 5, cells := 0, slots := 0, locals := 143 } s m args below meth c D A (xQi D (xT y) A (fun (r' : Int32) (_ : Unit) => r' = r) (fun _ : Unit => mC y aM M') 0 0 below args s) 4 (mC y aM M13) 0 0 [(0, .ref (aM 0)), (1, .int v4), (2, .int v12)] 41 [] := by
  intro fu
  induction fu with
  | zero => intro v12 M13 hf; rw [f3_minuteOn_L41] at hf; cases hf
  | succ fu ih =>
    intro v12 M13 hf
    rw [f3_minuteOn_L41] at hf
    refine x_iload_n (q := 42) C 2 dX3_minuteOn_41 rfl rfl rfl ?_
    refine x_aload_n (q := 43) C 0 dX3_minuteOn_42 rfl rfl rfl ?_
    refine x_get (q := 46) C 3 dX3_minuteOn_43 (oX3 y aM M13) rfl iuX3_minuteOn_X3 flX3_minuteOn_48 rfl (by decide) rfl rfl ?_
    refine x_icmp_ge (t := 60) (q := 49) C dX3_minuteOn_46 (by decide) rfl (fun hc => ?_) (fun hc => ?_)
    · have hf := (if_pos hc).symm.trans hf
      refine x_sub [0, 1] (L' := [(0, .ref (aM 0)), (1, .int v4)]) rfl ?_
      exact hK M13 hf
    · have hf := (if_neg hc).symm.trans hf
      refine x_aload_n (q := 50) C 0 dX3_minuteOn_49 rfl rfl rfl ?_
      refine x_iload_n (q := 51) C 2 dX3_minuteOn_50 rfl rfl rfl ?_
      obtain ⟨M15, hcal16, hf⟩ := bd_some hf
      refine x_callVv (q := 54) C (c3_burn (l := l) (D := D) (y := y) (aM := aM) hcal16) yi_X3_burn gX3_minuteOn_X3_burn rfl (oX3 y aM M13) rfl ⟨(Nat.le_of_ble_eq_true rfl), (Nat.le_of_ble_eq_true rfl)⟩ dX3_minuteOn_51 pm_nil rfl rfl (Nat.le_of_ble_eq_true rfl) ⟨Nat.le_of_ble_eq_true rfl, Nat.le_of_ble_eq_true rfl⟩ rfl ?_
      intro uu hrr
      refine x_world (ws' := mC y aM M15) (List.append_nil _) ?_
      refine x_iinc (q := 57) C 2 (v12 + 1) [1, 2, 0] [(0, .ref (aM 0)), (1, .int v4), (2, .int (v12 + 1))] dX3_minuteOn_54 rfl (congrArg (fun z => v12 + z) ki_1) (by decide) rfl rfl ?_
      refine x_goto (t := 41) C dX3_minuteOn_57 (by decide) ?_
      exact ih (v12 + 1) M15 hf
set_option maxHeartbeats 4000000 in
set_option maxRecDepth 100000 in
theorem c3_minuteOn {l : Launch} {D : va_G} {y : Nat → ClassId} {aM : Nat → Nat} {M : St} {r : Int32} {M' : St} (hf : f3_minuteOn M = some (r, M')) : xMi l yX3_minuteOn wsX3_minuteOn 5 143 0 0 D (xT y) [.ref (aM 0)] (mC y aM M) (fun (r' : Int32) (_ : Unit) => r' = r) (fun _ : Unit => mC y aM M') := by
  refine xMi_of (cc := cX3_minuteOn) (nL := 4) (ret := (some .int)) [(0, .ref (aM 0))] (by decide) rfl (Nat.le_of_ble_eq_true rfl) rfl ?_
  intro p e s m args below meth c A C hin
  have C : xC p s m args meth c D A cX3_minuteOn RX3 4 wsX3_minuteOn (xT y) (some .int) := C
  unfold f3_minuteOn at hf
  refine x_iconst (q := 1) C dX3_minuteOn_0 ki_0 rfl ?_
  refine x_istore_n (q := 2) C [1, 0] [(0, .ref (aM 0)), (1, .int 0)] dX3_minuteOn_1 rfl (by decide) rfl rfl ?_
  refine x_iconst (q := 3) C dX3_minuteOn_2 ki_0 rfl ?_
  refine x_istore_n (q := 4) C [1, 2, 0] [(0, .ref (aM 0)), (1, .int 0), (2, .int 0)] dX3_minuteOn_3 rfl (by decide) rfl rfl ?_
  refine w3_minuteOn_L4 C (fun v4 M5 hf => ?_) xF 0 0 M hf
  refine x_iconst (q := 40) C dX3_minuteOn_39 ki_0 rfl ?_
  refine x_istore_n (q := 41) C [1, 2, 0] [(0, .ref (aM 0)), (1, .int v4), (2, .int 0)] dX3_minuteOn_40 rfl (by decide) rfl rfl ?_
  refine w3_minuteOn_L41 C (fun M14 hf => ?_) xF 0 M5 hf
  refine x_aload_n (q := 61) C 0 dX3_minuteOn_60 rfl rfl rfl ?_
  refine x_get (q := 64) C 12 dX3_minuteOn_61 (oX3 y aM M14) rfl iuX3_minuteOn_X3 flX3_minuteOn_31 rfl (by decide) rfl rfl ?_
  refine x_iconst (q := 65) C dX3_minuteOn_64 ki_0 rfl ?_
  refine x_dup2 (q := 66) C dX3_minuteOn_65 rfl rfl rfl ?_
  have hb17 : xin 0 3 = true := by decide
  refine x_iald (q := 67) C 0 dX3_minuteOn_66 (aX3_12 y aM M14) rfl hb17 rfl ?_
  refine x_iconst (q := 68) C dX3_minuteOn_67 ki_1 rfl ?_
  refine x_iadd (q := 69) C dX3_minuteOn_68 rfl ?_
  obtain ⟨M18, eM18, hf⟩ := lt_elim hf
  refine x_iast (q := 70) (ws' := mC y aM M18) C 0 dX3_minuteOn_69 (aX3_12 y aM M14) rfl hb17 (congrArg (fun z => mC y aM z) eM18.symm) rfl ?_
  refine x_iload_n (q := 71) C 1 dX3_minuteOn_70 rfl rfl rfl ?_
  have hf := Option.some.inj hf
  obtain ⟨hr0, hr1⟩ := Prod.mk.inj hf
  exact x_iret () C dX3_minuteOn_71 rfl hr0 (congrArg (fun z => mC y aM z) hr1) (Nat.le_of_ble_eq_true rfl) (Nat.le_of_ble_eq_true rfl)

/-! LampHillsModel.minutesOn(I)V -/
theorem yi_X3_isOver : xY yX3_isOver wsX3_isOver cX3_isOver 1 (some .boolean) 0 := ⟨⟨_, rfl⟩, by decide +kernel, by decide +kernel, by decide +kernel⟩
theorem yi_X3_minuteOn : xY yX3_minuteOn wsX3_minuteOn cX3_minuteOn 4 (some .int) 0 := ⟨⟨_, rfl⟩, by decide +kernel, by decide +kernel, by decide +kernel⟩
def f3_minutesOn_L2 (p1 : Int32) : Nat → Int32 → St → Option (St)
  | 0, _, _ => none
  | fu + 1, v1, M2 =>
  if p1 ≤ v1 then
  (
    some M2
  )
  else
  (
    bd (f3_isOver M2) fun v3 =>
    if v3 = 0 then
    (
      bd2 (f3_minuteOn M2) fun v6 M7 =>
      f3_minutesOn_L2 p1 fu (v1 + 1) M7
    )
    else
    (
      some M2
    )
  )
def f3_minutesOn (M : St) (p1 : Int32) : Option (St) :=
  f3_minutesOn_L2 p1 xF 0 M
set_option maxHeartbeats 4000000 in
set_option maxRecDepth 100000 in
theorem w3_minutesOn_L2 {p : Program} {l : Launch} {e : Env} {s : State} {m : MethodId} {args : Array Value} {below : List Frame} {meth : Method} {c : Code} {D : va_G} {A : Nat → Prop} {y : Nat → ClassId} {aM : Nat → Nat} {p1 : Int32} {M' : St} (C : xC p s m args meth c D A cX3_minutesOn RX3 3 wsX3_minutesOn (xT y) none) : ∀ (fu : Nat) (v1 : Int32) (M2 : St), f3_minutesOn_L2 p1 fu v1 M2 = some M' → xV p l e { frames := 6, cells := 0, slots := 0, locals := 166 } s m args below meth c D A (xQv D (xT y) A (fun (_ : Unit) => True) (fun _ : Unit => mC y aM M') 0 0 below args s) 3 (mC y aM M2) 0 0 [(0, .ref (aM 0)), (1, .int p1), (2, .int v1)] 2 [] := by
  intro fu
  induction fu with
  | zero => intro v1 M2 hf; rw [f3_minutesOn_L2] at hf; cases hf
  | succ fu ih =>
    intro v1 M2 hf
    rw [f3_minutesOn_L2] at hf
    refine x_iload_n (q := 3) C 2 dX3_minutesOn_2 rfl rfl rfl ?_
    refine x_iload_n (q := 4) C 1 dX3_minutesOn_3 rfl rfl rfl ?_
    refine x_icmp_ge (t := 25) (q := 7) C dX3_minutesOn_4 (by decide) rfl (fun hc => ?_) (fun hc => ?_)
    · have hf := (if_pos hc).symm.trans hf
      have hf := Option.some.inj hf
      exact x_vret () C dX3_minutesOn_25 rfl trivial (congrArg (fun z => mC y aM z) hf) (Nat.le_of_ble_eq_true rfl) (Nat.le_of_ble_eq_true rfl)
    · have hf := (if_neg hc).symm.trans hf
      refine x_aload_n (q := 8) C 0 dX3_minutesOn_7 rfl rfl rfl ?_
      obtain ⟨v3, hcal4, hf⟩ := bd_some hf
      refine x_callVi (q := 11) C (c3_isOver (l := l) (D := D) (y := y) (aM := aM) hcal4) yi_X3_isOver gX3_minutesOn_X3_isOver rfl (oX3 y aM M2) rfl ⟨(Nat.le_of_ble_eq_true rfl), (Nat.le_of_ble_eq_true rfl)⟩ dX3_minutesOn_8 pm_nil rfl rfl (Nat.le_of_ble_eq_true rfl) ⟨Nat.le_of_ble_eq_true rfl, Nat.le_of_ble_eq_true rfl⟩ rfl ?_
      intro rr5 uu hrr
      have hrr : v3 = rr5 := Eq.symm hrr
      subst hrr
      refine x_world (ws' := mC y aM M2) (List.append_nil _) ?_
      refine x_if_ne (t := 25) (q := 14) C dX3_minutesOn_11 (by decide) rfl (fun hc => ?_) (fun hc => ?_)
      · have hf := (if_neg hc).symm.trans hf
        have hf := Option.some.inj hf
        exact x_vret () C dX3_minutesOn_25 rfl trivial (congrArg (fun z => mC y aM z) hf) (Nat.le_of_ble_eq_true rfl) (Nat.le_of_ble_eq_true rfl)
      · have hf := (if_pos hc).symm.trans hf
        refine x_aload_n (q := 15) C 0 dX3_minutesOn_14 rfl rfl rfl ?_
        obtain ⟨v6, M7, hcal8, hf⟩ := bd2_some hf
        refine x_callVi (q := 18) C (c3_minuteOn (l := l) (D := D) (y := y) (aM := aM) hcal8) yi_X3_minuteOn gX3_minutesOn_X3_minuteOn rfl (oX3 y aM M2) rfl ⟨(Nat.le_of_ble_eq_true rfl), (Nat.le_of_ble_eq_true rfl)⟩ dX3_minutesOn_15 pm_nil rfl rfl (Nat.le_of_ble_eq_true rfl) ⟨Nat.le_of_ble_eq_true rfl, Nat.le_of_ble_eq_true rfl⟩ rfl ?_
        intro rr9 uu hrr
        have hrr : v6 = rr9 := Eq.symm hrr
        subst hrr
        refine x_world (ws' := mC y aM M7) (List.append_nil _) ?_
        refine x_pop (q := 19) C dX3_minutesOn_18 rfl rfl ?_
        refine x_iinc (q := 22) C 2 (v1 + 1) [1, 2, 0] [(0, .ref (aM 0)), (1, .int p1), (2, .int (v1 + 1))] dX3_minutesOn_19 rfl (congrArg (fun z => v1 + z) ki_1) (by decide) rfl rfl ?_
        refine x_goto (t := 2) C dX3_minutesOn_22 (by decide) ?_
        exact ih (v1 + 1) M7 hf
set_option maxHeartbeats 4000000 in
set_option maxRecDepth 100000 in
theorem c3_minutesOn {l : Launch} {D : va_G} {y : Nat → ClassId} {aM : Nat → Nat} {M : St} {p1 : Int32} {M' : St} (hf : f3_minutesOn M p1 = some M') : xMv l yX3_minutesOn wsX3_minutesOn 6 166 0 0 D (xT y) [.ref (aM 0), .int p1] (mC y aM M) (fun (_ : Unit) => True) (fun _ : Unit => mC y aM M') := by
  refine xMv_of (cc := cX3_minutesOn) (nL := 3) (ret := none) [(0, .ref (aM 0)), (1, .int p1)] (by decide) rfl (Nat.le_of_ble_eq_true rfl) rfl ?_
  intro p e s m args below meth c A C hin
  have C : xC p s m args meth c D A cX3_minutesOn RX3 3 wsX3_minutesOn (xT y) none := C
  unfold f3_minutesOn at hf
  refine x_iconst (q := 1) C dX3_minutesOn_0 ki_0 rfl ?_
  refine x_istore_n (q := 2) C [1, 2, 0] [(0, .ref (aM 0)), (1, .int p1), (2, .int 0)] dX3_minutesOn_1 rfl (by decide) rfl rfl ?_
  exact w3_minutesOn_L2 C xF 0 M hf

/-! LampHillsModel.pass(I)I -/
theorem flX3_pass_34 : Cond.fieldLink RX3 34 "LampHillsModel" "thrown" "I" ∈ wsX3_pass := by decide +kernel
theorem iuX3_pass_X3 : ∀ w ∈ u_ws RX3 TX3 13, w ∈ wsX3_pass := fun _ h => List.mem_cons_of_mem _ (List.mem_append_right _ h)
theorem yi_X3_minutesOn : xY yX3_minutesOn wsX3_minutesOn cX3_minutesOn 3 none 1 := ⟨⟨_, rfl⟩, by decide +kernel, by decide +kernel, by decide +kernel⟩
def f3_pass (M : St) (p1 : Int32) : Option (Int32 × St) :=
  lt_ (up2 M 0 0 0) fun M1 =>
  bd (f3_isIn p1 1 600) fun v2 =>
  if v2 = 0 then
  (
    bd2 (f3_fail M1 1) fun v13 M14 =>
    some (v13, M14)
  )
  else
  (
    bd (f3_all M1 6) fun v5 =>
    bd (f3_minutesOn M1 p1) fun M8 =>
    bd (f3_all M8 6) fun v10 =>
    some ((v10 - v5), M8)
  )
set_option maxHeartbeats 4000000 in
set_option maxRecDepth 100000 in
theorem c3_pass {l : Launch} {D : va_G} {y : Nat → ClassId} {aM : Nat → Nat} {M : St} {p1 : Int32} {r : Int32} {M' : St} (hf : f3_pass M p1 = some (r, M')) : xMi l yX3_pass wsX3_pass 7 188 0 0 D (xT y) [.ref (aM 0), .int p1] (mC y aM M) (fun (r' : Int32) (_ : Unit) => r' = r) (fun _ : Unit => mC y aM M') := by
  refine xMi_of (cc := cX3_pass) (nL := 3) (ret := (some .int)) [(0, .ref (aM 0)), (1, .int p1)] (by decide) rfl (Nat.le_of_ble_eq_true rfl) rfl ?_
  intro p e s m args below meth c A C hin
  have C : xC p s m args meth c D A cX3_pass RX3 3 wsX3_pass (xT y) (some .int) := C
  unfold f3_pass at hf
  refine x_aload_n (q := 1) C 0 dX3_pass_0 rfl rfl rfl ?_
  refine x_iconst (q := 2) C dX3_pass_1 ki_0 rfl ?_
  obtain ⟨M1, eM1, hf⟩ := lt_elim hf
  refine x_puti (q := 5) (ws' := mC y aM M1) C tyX3 tyX3_ok nmX3 dX3_pass_2 (iX3_0 y aM M) rfl iuX3_pass_X3 flX3_pass_34 rfl (by decide) rfl rfl (congrArg (fun z => mC y aM z) eM1.symm) rfl ?_
  refine x_iload_n (q := 6) C 1 dX3_pass_5 rfl rfl rfl ?_
  refine x_iconst (q := 7) C dX3_pass_6 ki_1 rfl ?_
  refine x_sipush (q := 10) C dX3_pass_7 ks_600 rfl ?_
  obtain ⟨v2, hcal3, hf⟩ := bd_some hf
  refine x_callSi (q := 13) C (c3_isIn (l := l) (D := D) (y := y)  hcal3) yi_X3_isIn gX3_pass_X3_isIn ⟨(Nat.le_of_ble_eq_true rfl), (Nat.le_of_ble_eq_true rfl)⟩ dX3_pass_10 pm_emp rfl rfl (Nat.le_of_ble_eq_true rfl) ⟨Nat.le_of_ble_eq_true rfl, Nat.le_of_ble_eq_true rfl⟩ rfl ?_
  intro rr4 uu hrr
  have hrr : v2 = rr4 := Eq.symm hrr
  subst hrr
  refine x_world (ws' := mC y aM M1) rfl ?_
  refine x_if_ne (t := 22) (q := 16) C dX3_pass_13 (by decide) rfl (fun hc => ?_) (fun hc => ?_)
  · have hf := (if_neg hc).symm.trans hf
    refine x_aload_n (q := 23) C 0 dX3_pass_22 rfl rfl rfl ?_
    refine x_bipush (q := 25) C dX3_pass_23 kb_6 rfl ?_
    obtain ⟨v5, hcal6, hf⟩ := bd_some hf
    refine x_callVi (q := 28) C (c3_all (l := l) (D := D) (y := y) (aM := aM) hcal6) yi_X3_all gX3_pass_X3_all rfl (oX3 y aM M1) rfl ⟨(Nat.le_of_ble_eq_true rfl), (Nat.le_of_ble_eq_true rfl)⟩ dX3_pass_25 pm_nil rfl rfl (Nat.le_of_ble_eq_true rfl) ⟨Nat.le_of_ble_eq_true rfl, Nat.le_of_ble_eq_true rfl⟩ rfl ?_
    intro rr7 uu hrr
    have hrr : v5 = rr7 := Eq.symm hrr
    subst hrr
    refine x_world (ws' := mC y aM M1) (List.append_nil _) ?_
    refine x_istore_n (q := 29) C [1, 2, 0] [(0, .ref (aM 0)), (1, .int p1), (2, .int v5)] dX3_pass_28 rfl (by decide) rfl rfl ?_
    refine x_aload_n (q := 30) C 0 dX3_pass_29 rfl rfl rfl ?_
    refine x_iload_n (q := 31) C 1 dX3_pass_30 rfl rfl rfl ?_
    obtain ⟨M8, hcal9, hf⟩ := bd_some hf
    refine x_callVv (q := 34) C (c3_minutesOn (l := l) (D := D) (y := y) (aM := aM) hcal9) yi_X3_minutesOn gX3_pass_X3_minutesOn rfl (oX3 y aM M1) rfl ⟨(Nat.le_of_ble_eq_true rfl), (Nat.le_of_ble_eq_true rfl)⟩ dX3_pass_31 pm_nil rfl rfl (Nat.le_of_ble_eq_true rfl) ⟨Nat.le_of_ble_eq_true rfl, Nat.le_of_ble_eq_true rfl⟩ rfl ?_
    intro uu hrr
    refine x_world (ws' := mC y aM M8) (List.append_nil _) ?_
    refine x_aload_n (q := 35) C 0 dX3_pass_34 rfl rfl rfl ?_
    refine x_bipush (q := 37) C dX3_pass_35 kb_6 rfl ?_
    obtain ⟨v10, hcal11, hf⟩ := bd_some hf
    refine x_callVi (q := 40) C (c3_all (l := l) (D := D) (y := y) (aM := aM) hcal11) yi_X3_all gX3_pass_X3_all rfl (oX3 y aM M8) rfl ⟨(Nat.le_of_ble_eq_true rfl), (Nat.le_of_ble_eq_true rfl)⟩ dX3_pass_37 pm_nil rfl rfl (Nat.le_of_ble_eq_true rfl) ⟨Nat.le_of_ble_eq_true rfl, Nat.le_of_ble_eq_true rfl⟩ rfl ?_
    intro rr12 uu hrr
    have hrr : v10 = rr12 := Eq.symm hrr
    subst hrr
    refine x_world (ws' := mC y aM M8) (List.append_nil _) ?_
    refine x_iload_n (q := 41) C 2 dX3_pass_40 rfl rfl rfl ?_
    refine x_isub (q := 42) C dX3_pass_41 rfl ?_
    have hf := Option.some.inj hf
    obtain ⟨hr0, hr1⟩ := Prod.mk.inj hf
    exact x_iret () C dX3_pass_42 rfl hr0 (congrArg (fun z => mC y aM z) hr1) (Nat.le_of_ble_eq_true rfl) (Nat.le_of_ble_eq_true rfl)
  · have hf := (if_pos hc).symm.trans hf
    refine x_aload_n (q := 17) C 0 dX3_pass_16 rfl rfl rfl ?_
    refine x_iconst (q := 18) C dX3_pass_17 ki_1 rfl ?_
    obtain ⟨v13, M14, hcal15, hf⟩ := bd2_some hf
    refine x_callVi (q := 21) C (c3_fail (l := l) (D := D) (y := y) (aM := aM) hcal15) yi_X3_fail gX3_pass_X3_fail rfl (oX3 y aM M1) rfl ⟨(Nat.le_of_ble_eq_true rfl), (Nat.le_of_ble_eq_true rfl)⟩ dX3_pass_18 pm_nil rfl rfl (Nat.le_of_ble_eq_true rfl) ⟨Nat.le_of_ble_eq_true rfl, Nat.le_of_ble_eq_true rfl⟩ rfl ?_
    intro rr16 uu hrr
    have hrr : v13 = rr16 := Eq.symm hrr
    subst hrr
    refine x_world (ws' := mC y aM M14) (List.append_nil _) ?_
    have hf := Option.some.inj hf
    obtain ⟨hr0, hr1⟩ := Prod.mk.inj hf
    exact x_iret () C dX3_pass_21 rfl hr0 (congrArg (fun z => mC y aM z) hr1) (Nat.le_of_ble_eq_true rfl) (Nat.le_of_ble_eq_true rfl)

/-! LampHillsModel.dawn()I -/
theorem flX3_dawn_31 : Cond.fieldLink RX3 31 "LampHillsModel" "numbers" "[I" ∈ wsX3_dawn := by decide +kernel
theorem flX3_dawn_34 : Cond.fieldLink RX3 34 "LampHillsModel" "thrown" "I" ∈ wsX3_dawn := by decide +kernel
theorem flX3_dawn_48 : Cond.fieldLink RX3 48 "LampHillsModel" "lamps" "I" ∈ wsX3_dawn := by decide +kernel
theorem flX3_dawn_51 : Cond.fieldLink RX3 51 "LampHillsModel" "lighters" "I" ∈ wsX3_dawn := by decide +kernel
theorem iuX3_dawn_X3 : ∀ w ∈ u_ws RX3 TX3 13, w ∈ wsX3_dawn := fun _ h => List.mem_cons_of_mem _ (List.mem_append_right _ h)
def f3_dawn_L26 (K : St → Option (Int32 × St)) : Nat → Int32 → St → Option (Int32 × St)
  | 0, _, _ => none
  | fu + 1, v8, M9 =>
  if (M9 3 0) ≤ v8 then
  (
    K M9
  )
  else
  (
    bd (f3_setLamp M9 v8 5 0) fun M11 =>
    f3_dawn_L26 K fu (v8 + 1) M11
  )
def f3_dawn_L49 (K : St → Option (Int32 × St)) : Nat → Int32 → St → Option (Int32 × St)
  | 0, _, _ => none
  | fu + 1, v13, M14 =>
  if (M14 4 0) ≤ v13 then
  (
    K M14
  )
  else
  (
    bd (f3_pe M14 v13 0) fun v16 =>
    bd (f3_put M14 v13 1 v16) fun M19 =>
    bd (f3_put M19 v13 5 (-1)) fun M21 =>
    bd (f3_put M21 v13 6 0) fun M23 =>
    bd (f3_put M23 v13 8 (-1)) fun M25 =>
    f3_dawn_L49 K fu (v13 + 1) M25
  )
def f3_dawn (M : St) : Option (Int32 × St) :=
  lt_ (up2 M 0 0 0) fun M1 =>
  bd (f3_isOver M1) fun v2 =>
  if v2 = 0 then
  (
    bd2 (f3_fail M1 1) fun v31 M32 =>
    some (v31, M32)
  )
  else
  (
    bd (f3_all M1 5) fun v5 =>
    f3_dawn_L26 (fun (M10 : St) =>
    (
      f3_dawn_L49 (fun (M15 : St) =>
      (
        lt_ (up2 M15 12 (0 : Int32).toNatClampNeg 0) fun M28 =>
        lt_ (up2 M28 12 (1 : Int32).toNatClampNeg ((M28 12 (1 : Int32).toNatClampNeg) + 1)) fun M30 =>
        some (v5, M30)
      )
      ) xF 0 M10
    )
    ) xF 0 M1
  )
set_option maxHeartbeats 4000000 in
set_option maxRecDepth 100000 in
theorem w3_dawn_L26 {p : Program} {l : Launch} {e : Env} {s : State} {m : MethodId} {args : Array Value} {below : List Frame} {meth : Method} {c : Code} {D : va_G} {A : Nat → Prop} {y : Nat → ClassId} {aM : Nat → Nat} {v5 : Int32} {r : Int32} {M' : St} {K : St → Option (Int32 × St)} (C : xC p s m args meth c D A cX3_dawn RX3 3 wsX3_dawn (xT y) (some .int)) (hK : ∀ (M10 : St), K M10 = some (r, M') → xV p l e { frames := 2, cells := 0, slots := 0, locals := 45 } s m args below meth c D A (xQi D (xT y) A (fun (r' : Int32) (_ : Unit) => r' = r) (fun _ : Unit => mC y aM M') 0 0 below args s) 3 (mC y aM M10) 0 0 [(0, .ref (aM 0)), (1, .int v5)] 47 []) : ∀ (fu : Nat) (v8 : Int32) (M9 : St), f3_dawn_L26 K fu v8 M9 = some (r, M') → xV p l e { frames := 2, cells := 0, slots := 0, locals := 45 } s m args below meth c D A (xQi D (xT y) A (fun (r' : Int32) (_ : Unit) => r' = r) (fun _ : Unit => mC y aM M') 0 0 below args s) 3 (mC y aM M9) 0 0 [(0, .ref (aM 0)), (1, .int v5), (2, .int v8)] 26 [] := by
  intro fu
  induction fu with
  | zero => intro v8 M9 hf; rw [f3_dawn_L26] at hf; cases hf
  | succ fu ih =>
    intro v8 M9 hf
    rw [f3_dawn_L26] at hf
    refine x_iload_n (q := 27) C 2 dX3_dawn_26 rfl rfl rfl ?_
    refine x_aload_n (q := 28) C 0 dX3_dawn_27 rfl rfl rfl ?_
    refine x_get (q := 31) C 3 dX3_dawn_28 (oX3 y aM M9) rfl iuX3_dawn_X3 flX3_dawn_48 rfl (by decide) rfl rfl ?_
    refine x_icmp_ge (t := 47) (q := 34) C dX3_dawn_31 (by decide) rfl (fun hc => ?_) (fun hc => ?_)
    · have hf := (if_pos hc).symm.trans hf
      refine x_sub [0, 1] (L' := [(0, .ref (aM 0)), (1, .int v5)]) rfl ?_
      exact hK M9 hf
    · have hf := (if_neg hc).symm.trans hf
      refine x_aload_n (q := 35) C 0 dX3_dawn_34 rfl rfl rfl ?_
      refine x_iload_n (q := 36) C 2 dX3_dawn_35 rfl rfl rfl ?_
      refine x_iconst (q := 37) C dX3_dawn_36 ki_5 rfl ?_
      refine x_iconst (q := 38) C dX3_dawn_37 ki_0 rfl ?_
      obtain ⟨M11, hcal12, hf⟩ := bd_some hf
      refine x_callVv (q := 41) C (c3_setLamp (l := l) (D := D) (y := y) (aM := aM) hcal12) yi_X3_setLamp gX3_dawn_X3_setLamp rfl (oX3 y aM M9) rfl ⟨(Nat.le_of_ble_eq_true rfl), (Nat.le_of_ble_eq_true rfl)⟩ dX3_dawn_38 pm_nil rfl rfl (Nat.le_of_ble_eq_true rfl) ⟨Nat.le_of_ble_eq_true rfl, Nat.le_of_ble_eq_true rfl⟩ rfl ?_
      intro uu hrr
      refine x_world (ws' := mC y aM M11) (List.append_nil _) ?_
      refine x_iinc (q := 44) C 2 (v8 + 1) [1, 2, 0] [(0, .ref (aM 0)), (1, .int v5), (2, .int (v8 + 1))] dX3_dawn_41 rfl (congrArg (fun z => v8 + z) ki_1) (by decide) rfl rfl ?_
      refine x_goto (t := 26) C dX3_dawn_44 (by decide) ?_
      exact ih (v8 + 1) M11 hf
set_option maxHeartbeats 4000000 in
set_option maxRecDepth 100000 in
theorem w3_dawn_L49 {p : Program} {l : Launch} {e : Env} {s : State} {m : MethodId} {args : Array Value} {below : List Frame} {meth : Method} {c : Code} {D : va_G} {A : Nat → Prop} {y : Nat → ClassId} {aM : Nat → Nat} {v5 : Int32} {r : Int32} {M' : St} {K : St → Option (Int32 × St)} (C : xC p s m args meth c D A cX3_dawn RX3 3 wsX3_dawn (xT y) (some .int)) (hK : ∀ (M15 : St), K M15 = some (r, M') → xV p l e { frames := 2, cells := 0, slots := 0, locals := 45 } s m args below meth c D A (xQi D (xT y) A (fun (r' : Int32) (_ : Unit) => r' = r) (fun _ : Unit => mC y aM M') 0 0 below args s) 3 (mC y aM M15) 0 0 [(0, .ref (aM 0)), (1, .int v5)] 98 []) : ∀ (fu : Nat) (v13 : Int32) (M14 : St), f3_dawn_L49 K fu v13 M14 = some (r, M') → xV p l e { frames := 2, cells := 0, slots := 0, locals := 45 } s m args below meth c D A (xQi D (xT y) A (fun (r' : Int32) (_ : Unit) => r' = r) (fun _ : Unit => mC y aM M') 0 0 below args s) 3 (mC y aM M14) 0 0 [(0, .ref (aM 0)), (1, .int v5), (2, .int v13)] 49 [] := by
  intro fu
  induction fu with
  | zero => intro v13 M14 hf; rw [f3_dawn_L49] at hf; cases hf
  | succ fu ih =>
    intro v13 M14 hf
    rw [f3_dawn_L49] at hf
    refine x_iload_n (q := 50) C 2 dX3_dawn_49 rfl rfl rfl ?_
    refine x_aload_n (q := 51) C 0 dX3_dawn_50 rfl rfl rfl ?_
    refine x_get (q := 54) C 4 dX3_dawn_51 (oX3 y aM M14) rfl iuX3_dawn_X3 flX3_dawn_51 rfl (by decide) rfl rfl ?_
    refine x_icmp_ge (t := 98) (q := 57) C dX3_dawn_54 (by decide) rfl (fun hc => ?_) (fun hc => ?_)
    · have hf := (if_pos hc).symm.trans hf
      refine x_sub [0, 1] (L' := [(0, .ref (aM 0)), (1, .int v5)]) rfl ?_
      exact hK M14 hf
    · have hf := (if_neg hc).symm.trans hf
      refine x_aload_n (q := 58) C 0 dX3_dawn_57 rfl rfl rfl ?_
      refine x_iload_n (q := 59) C 2 dX3_dawn_58 rfl rfl rfl ?_
      refine x_iconst (q := 60) C dX3_dawn_59 ki_1 rfl ?_
      refine x_aload_n (q := 61) C 0 dX3_dawn_60 rfl rfl rfl ?_
      refine x_iload_n (q := 62) C 2 dX3_dawn_61 rfl rfl rfl ?_
      refine x_iconst (q := 63) C dX3_dawn_62 ki_0 rfl ?_
      obtain ⟨v16, hcal17, hf⟩ := bd_some hf
      refine x_callVi (q := 66) C (c3_pe (l := l) (D := D) (y := y) (aM := aM) hcal17) yi_X3_pe gX3_dawn_X3_pe rfl (oX3 y aM M14) rfl ⟨(Nat.le_of_ble_eq_true rfl), (Nat.le_of_ble_eq_true rfl)⟩ dX3_dawn_63 pm_nil rfl rfl (Nat.le_of_ble_eq_true rfl) ⟨Nat.le_of_ble_eq_true rfl, Nat.le_of_ble_eq_true rfl⟩ rfl ?_
      intro rr18 uu hrr
      have hrr : v16 = rr18 := Eq.symm hrr
      subst hrr
      refine x_world (ws' := mC y aM M14) (List.append_nil _) ?_
      obtain ⟨M19, hcal20, hf⟩ := bd_some hf
      refine x_callVv (q := 69) C (c3_put (l := l) (D := D) (y := y) (aM := aM) hcal20) yi_X3_put gX3_dawn_X3_put rfl (oX3 y aM M14) rfl ⟨(Nat.le_of_ble_eq_true rfl), (Nat.le_of_ble_eq_true rfl)⟩ dX3_dawn_66 pm_nil rfl rfl (Nat.le_of_ble_eq_true rfl) ⟨Nat.le_of_ble_eq_true rfl, Nat.le_of_ble_eq_true rfl⟩ rfl ?_
      intro uu hrr
      refine x_world (ws' := mC y aM M19) (List.append_nil _) ?_
      refine x_aload_n (q := 70) C 0 dX3_dawn_69 rfl rfl rfl ?_
      refine x_iload_n (q := 71) C 2 dX3_dawn_70 rfl rfl rfl ?_
      refine x_iconst (q := 72) C dX3_dawn_71 ki_5 rfl ?_
      refine x_iconst (q := 73) C dX3_dawn_72 ki_m1 rfl ?_
      obtain ⟨M21, hcal22, hf⟩ := bd_some hf
      refine x_callVv (q := 76) C (c3_put (l := l) (D := D) (y := y) (aM := aM) hcal22) yi_X3_put gX3_dawn_X3_put rfl (oX3 y aM M19) rfl ⟨(Nat.le_of_ble_eq_true rfl), (Nat.le_of_ble_eq_true rfl)⟩ dX3_dawn_73 pm_nil rfl rfl (Nat.le_of_ble_eq_true rfl) ⟨Nat.le_of_ble_eq_true rfl, Nat.le_of_ble_eq_true rfl⟩ rfl ?_
      intro uu hrr
      refine x_world (ws' := mC y aM M21) (List.append_nil _) ?_
      refine x_aload_n (q := 77) C 0 dX3_dawn_76 rfl rfl rfl ?_
      refine x_iload_n (q := 78) C 2 dX3_dawn_77 rfl rfl rfl ?_
      refine x_bipush (q := 80) C dX3_dawn_78 kb_6 rfl ?_
      refine x_iconst (q := 81) C dX3_dawn_80 ki_0 rfl ?_
      obtain ⟨M23, hcal24, hf⟩ := bd_some hf
      refine x_callVv (q := 84) C (c3_put (l := l) (D := D) (y := y) (aM := aM) hcal24) yi_X3_put gX3_dawn_X3_put rfl (oX3 y aM M21) rfl ⟨(Nat.le_of_ble_eq_true rfl), (Nat.le_of_ble_eq_true rfl)⟩ dX3_dawn_81 pm_nil rfl rfl (Nat.le_of_ble_eq_true rfl) ⟨Nat.le_of_ble_eq_true rfl, Nat.le_of_ble_eq_true rfl⟩ rfl ?_
      intro uu hrr
      refine x_world (ws' := mC y aM M23) (List.append_nil _) ?_
      refine x_aload_n (q := 85) C 0 dX3_dawn_84 rfl rfl rfl ?_
      refine x_iload_n (q := 86) C 2 dX3_dawn_85 rfl rfl rfl ?_
      refine x_bipush (q := 88) C dX3_dawn_86 kb_8 rfl ?_
      refine x_iconst (q := 89) C dX3_dawn_88 ki_m1 rfl ?_
      obtain ⟨M25, hcal26, hf⟩ := bd_some hf
      refine x_callVv (q := 92) C (c3_put (l := l) (D := D) (y := y) (aM := aM) hcal26) yi_X3_put gX3_dawn_X3_put rfl (oX3 y aM M23) rfl ⟨(Nat.le_of_ble_eq_true rfl), (Nat.le_of_ble_eq_true rfl)⟩ dX3_dawn_89 pm_nil rfl rfl (Nat.le_of_ble_eq_true rfl) ⟨Nat.le_of_ble_eq_true rfl, Nat.le_of_ble_eq_true rfl⟩ rfl ?_
      intro uu hrr
      refine x_world (ws' := mC y aM M25) (List.append_nil _) ?_
      refine x_iinc (q := 95) C 2 (v13 + 1) [1, 2, 0] [(0, .ref (aM 0)), (1, .int v5), (2, .int (v13 + 1))] dX3_dawn_92 rfl (congrArg (fun z => v13 + z) ki_1) (by decide) rfl rfl ?_
      refine x_goto (t := 49) C dX3_dawn_95 (by decide) ?_
      exact ih (v13 + 1) M25 hf
set_option maxHeartbeats 4000000 in
set_option maxRecDepth 100000 in
theorem c3_dawn {l : Launch} {D : va_G} {y : Nat → ClassId} {aM : Nat → Nat} {M : St} {r : Int32} {M' : St} (hf : f3_dawn M = some (r, M')) : xMi l yX3_dawn wsX3_dawn 2 45 0 0 D (xT y) [.ref (aM 0)] (mC y aM M) (fun (r' : Int32) (_ : Unit) => r' = r) (fun _ : Unit => mC y aM M') := by
  refine xMi_of (cc := cX3_dawn) (nL := 3) (ret := (some .int)) [(0, .ref (aM 0))] (by decide) rfl (Nat.le_of_ble_eq_true rfl) rfl ?_
  intro p e s m args below meth c A C hin
  have C : xC p s m args meth c D A cX3_dawn RX3 3 wsX3_dawn (xT y) (some .int) := C
  unfold f3_dawn at hf
  refine x_aload_n (q := 1) C 0 dX3_dawn_0 rfl rfl rfl ?_
  refine x_iconst (q := 2) C dX3_dawn_1 ki_0 rfl ?_
  obtain ⟨M1, eM1, hf⟩ := lt_elim hf
  refine x_puti (q := 5) (ws' := mC y aM M1) C tyX3 tyX3_ok nmX3 dX3_dawn_2 (iX3_0 y aM M) rfl iuX3_dawn_X3 flX3_dawn_34 rfl (by decide) rfl rfl (congrArg (fun z => mC y aM z) eM1.symm) rfl ?_
  refine x_aload_n (q := 6) C 0 dX3_dawn_5 rfl rfl rfl ?_
  obtain ⟨v2, hcal3, hf⟩ := bd_some hf
  refine x_callVi (q := 9) C (c3_isOver (l := l) (D := D) (y := y) (aM := aM) hcal3) yi_X3_isOver gX3_dawn_X3_isOver rfl (oX3 y aM M1) rfl ⟨(Nat.le_of_ble_eq_true rfl), (Nat.le_of_ble_eq_true rfl)⟩ dX3_dawn_6 pm_nil rfl rfl (Nat.le_of_ble_eq_true rfl) ⟨Nat.le_of_ble_eq_true rfl, Nat.le_of_ble_eq_true rfl⟩ rfl ?_
  intro rr4 uu hrr
  have hrr : v2 = rr4 := Eq.symm hrr
  subst hrr
  refine x_world (ws' := mC y aM M1) (List.append_nil _) ?_
  refine x_if_ne (t := 18) (q := 12) C dX3_dawn_9 (by decide) rfl (fun hc => ?_) (fun hc => ?_)
  · have hf := (if_neg hc).symm.trans hf
    refine x_aload_n (q := 19) C 0 dX3_dawn_18 rfl rfl rfl ?_
    refine x_iconst (q := 20) C dX3_dawn_19 ki_5 rfl ?_
    obtain ⟨v5, hcal6, hf⟩ := bd_some hf
    refine x_callVi (q := 23) C (c3_all (l := l) (D := D) (y := y) (aM := aM) hcal6) yi_X3_all gX3_dawn_X3_all rfl (oX3 y aM M1) rfl ⟨(Nat.le_of_ble_eq_true rfl), (Nat.le_of_ble_eq_true rfl)⟩ dX3_dawn_20 pm_nil rfl rfl (Nat.le_of_ble_eq_true rfl) ⟨Nat.le_of_ble_eq_true rfl, Nat.le_of_ble_eq_true rfl⟩ rfl ?_
    intro rr7 uu hrr
    have hrr : v5 = rr7 := Eq.symm hrr
    subst hrr
    refine x_world (ws' := mC y aM M1) (List.append_nil _) ?_
    refine x_istore_n (q := 24) C [1, 0] [(0, .ref (aM 0)), (1, .int v5)] dX3_dawn_23 rfl (by decide) rfl rfl ?_
    refine x_iconst (q := 25) C dX3_dawn_24 ki_0 rfl ?_
    refine x_istore_n (q := 26) C [1, 2, 0] [(0, .ref (aM 0)), (1, .int v5), (2, .int 0)] dX3_dawn_25 rfl (by decide) rfl rfl ?_
    refine w3_dawn_L26 C (fun M10 hf => ?_) xF 0 M1 hf
    refine x_iconst (q := 48) C dX3_dawn_47 ki_0 rfl ?_
    refine x_istore_n (q := 49) C [1, 2, 0] [(0, .ref (aM 0)), (1, .int v5), (2, .int 0)] dX3_dawn_48 rfl (by decide) rfl rfl ?_
    refine w3_dawn_L49 C (fun M15 hf => ?_) xF 0 M10 hf
    refine x_aload_n (q := 99) C 0 dX3_dawn_98 rfl rfl rfl ?_
    refine x_get (q := 102) C 12 dX3_dawn_99 (oX3 y aM M15) rfl iuX3_dawn_X3 flX3_dawn_31 rfl (by decide) rfl rfl ?_
    refine x_iconst (q := 103) C dX3_dawn_102 ki_0 rfl ?_
    refine x_iconst (q := 104) C dX3_dawn_103 ki_0 rfl ?_
    have hb27 : xin 0 3 = true := by decide
    obtain ⟨M28, eM28, hf⟩ := lt_elim hf
    refine x_iast (q := 105) (ws' := mC y aM M28) C 0 dX3_dawn_104 (aX3_12 y aM M15) rfl hb27 (congrArg (fun z => mC y aM z) eM28.symm) rfl ?_
    refine x_aload_n (q := 106) C 0 dX3_dawn_105 rfl rfl rfl ?_
    refine x_get (q := 109) C 12 dX3_dawn_106 (oX3 y aM M28) rfl iuX3_dawn_X3 flX3_dawn_31 rfl (by decide) rfl rfl ?_
    refine x_iconst (q := 110) C dX3_dawn_109 ki_1 rfl ?_
    refine x_dup2 (q := 111) C dX3_dawn_110 rfl rfl rfl ?_
    have hb29 : xin 1 3 = true := by decide
    refine x_iald (q := 112) C 0 dX3_dawn_111 (aX3_12 y aM M28) rfl hb29 rfl ?_
    refine x_iconst (q := 113) C dX3_dawn_112 ki_1 rfl ?_
    refine x_iadd (q := 114) C dX3_dawn_113 rfl ?_
    obtain ⟨M30, eM30, hf⟩ := lt_elim hf
    refine x_iast (q := 115) (ws' := mC y aM M30) C 0 dX3_dawn_114 (aX3_12 y aM M28) rfl hb29 (congrArg (fun z => mC y aM z) eM30.symm) rfl ?_
    refine x_iload_n (q := 116) C 1 dX3_dawn_115 rfl rfl rfl ?_
    have hf := Option.some.inj hf
    obtain ⟨hr0, hr1⟩ := Prod.mk.inj hf
    exact x_iret () C dX3_dawn_116 rfl hr0 (congrArg (fun z => mC y aM z) hr1) (Nat.le_of_ble_eq_true rfl) (Nat.le_of_ble_eq_true rfl)
  · have hf := (if_pos hc).symm.trans hf
    refine x_aload_n (q := 13) C 0 dX3_dawn_12 rfl rfl rfl ?_
    refine x_iconst (q := 14) C dX3_dawn_13 ki_1 rfl ?_
    obtain ⟨v31, M32, hcal33, hf⟩ := bd2_some hf
    refine x_callVi (q := 17) C (c3_fail (l := l) (D := D) (y := y) (aM := aM) hcal33) yi_X3_fail gX3_dawn_X3_fail rfl (oX3 y aM M1) rfl ⟨(Nat.le_of_ble_eq_true rfl), (Nat.le_of_ble_eq_true rfl)⟩ dX3_dawn_14 pm_nil rfl rfl (Nat.le_of_ble_eq_true rfl) ⟨Nat.le_of_ble_eq_true rfl, Nat.le_of_ble_eq_true rfl⟩ rfl ?_
    intro rr34 uu hrr
    have hrr : v31 = rr34 := Eq.symm hrr
    subst hrr
    refine x_world (ws' := mC y aM M32) (List.append_nil _) ?_
    have hf := Option.some.inj hf
    obtain ⟨hr0, hr1⟩ := Prod.mk.inj hf
    exact x_iret () C dX3_dawn_17 rfl hr0 (congrArg (fun z => mC y aM z) hr1) (Nat.le_of_ble_eq_true rfl) (Nat.le_of_ble_eq_true rfl)

/-! LampHillsModel.needs(I)I -/
theorem flX3_needs_28 : Cond.fieldLink RX3 28 "LampHillsModel" "winds" "[I" ∈ wsX3_needs := by decide +kernel
theorem flX3_needs_34 : Cond.fieldLink RX3 34 "LampHillsModel" "thrown" "I" ∈ wsX3_needs := by decide +kernel
theorem iuX3_needs_X3 : ∀ w ∈ u_ws RX3 TX3 13, w ∈ wsX3_needs := fun _ h => List.mem_cons_of_mem _ (List.mem_append_right _ h)
theorem kmX3_needs_58 : ∀ w ∈ ([.methodLink RX3 58 Lib.Math.max.name, .static Lib.Math.max.name, .initialized "java/lang/Math", .code Lib.Math.max.name Lib.Math.max.code 2 (some .int)] : List Cond), w ∈ wsX3_needs := by decide +kernel
def f3_needs_L33 (p1 : Int32) (M1 : St) (K : Int32 → Option (Int32 × St)) : Nat → Int32 → Int32 → Option (Int32 × St)
  | 0, _, _ => none
  | fu + 1, v5, v6 =>
  if 10 ≤ v6 then
  (
    K v5
  )
  else
  (
    gd (xin v6 10) <|
    lt_ (M1 11 v6.toNatClampNeg) fun v9 =>
    bd (f3_gust M1 p1 v9) fun v10 =>
    lt_ (if v5 < v10 then v10 else v5) fun v13 =>
    f3_needs_L33 p1 M1 K fu v13 (v6 + 1)
  )
def f3_needs (M : St) (p1 : Int32) : Option (Int32 × St) :=
  lt_ (up2 M 0 0 0) fun M1 =>
  bd (f3_isLamp M1 p1) fun v2 =>
  if v2 = 0 then
  (
    bd2 (f3_fail M1 1) fun v15 M16 =>
    some (v15, M16)
  )
  else
  (
    f3_needs_L33 p1 M1 (fun (v7 : Int32) =>
    (
      lt_ (if (0 : Int32) < (v7 - 4) then (v7 - 4) else (0 : Int32)) fun v14 =>
      if v14 ≤ 9 then
      (
        some (v14, M1)
      )
      else
      (
        some ((-1), M1)
      )
    )
    ) xF 0 0
  )
set_option maxHeartbeats 4000000 in
set_option maxRecDepth 100000 in
theorem w3_needs_L33 {p : Program} {l : Launch} {e : Env} {s : State} {m : MethodId} {args : Array Value} {below : List Frame} {meth : Method} {c : Code} {D : va_G} {A : Nat → Prop} {y : Nat → ClassId} {aM : Nat → Nat} {M1 : St} {p1 : Int32} {r : Int32} {M' : St} {K : Int32 → Option (Int32 × St)} (C : xC p s m args meth c D A cX3_needs RX3 7 wsX3_needs (xT y) (some .int)) (hK : ∀ (v7 : Int32), K v7 = some (r, M') → xV p l e { frames := 2, cells := 0, slots := 0, locals := 70 } s m args below meth c D A (xQi D (xT y) A (fun (r' : Int32) (_ : Unit) => r' = r) (fun _ : Unit => mC y aM M') 0 0 below args s) 7 (mC y aM M1) 0 0 [(2, .int v7)] 64 []) : ∀ (fu : Nat) (v5 : Int32) (v6 : Int32), f3_needs_L33 p1 M1 K fu v5 v6 = some (r, M') → xV p l e { frames := 2, cells := 0, slots := 0, locals := 70 } s m args below meth c D A (xQi D (xT y) A (fun (r' : Int32) (_ : Unit) => r' = r) (fun _ : Unit => mC y aM M') 0 0 below args s) 7 (mC y aM M1) 0 0 [(0, .ref (aM 0)), (1, .int p1), (2, .int v5), (3, .ref (aM 11)), (4, .int 10), (5, .int v6)] 33 [] := by
  intro fu
  induction fu with
  | zero => intro v5 v6 hf; rw [f3_needs_L33] at hf; cases hf
  | succ fu ih =>
    intro v5 v6 hf
    rw [f3_needs_L33] at hf
    refine x_iload (q := 35) C 5 dX3_needs_33 rfl rfl ?_
    refine x_iload (q := 37) C 4 dX3_needs_35 rfl rfl ?_
    refine x_icmp_ge (t := 64) (q := 40) C dX3_needs_37 (by decide) rfl (fun hc => ?_) (fun hc => ?_)
    · have hf := (if_pos hc).symm.trans hf
      refine x_sub [2] (L' := [(2, .int v5)]) rfl ?_
      exact hK v5 hf
    · have hf := (if_neg hc).symm.trans hf
      refine x_aload_n (q := 41) C 3 dX3_needs_40 rfl rfl rfl ?_
      refine x_iload (q := 43) C 5 dX3_needs_41 rfl rfl ?_
      obtain ⟨hb8, hf⟩ := gd_some hf
      refine x_iald (q := 44) C 0 dX3_needs_43 (aX3_11 y aM M1) rfl hb8 rfl ?_
      obtain ⟨v9, ev9, hf⟩ := lt_elim hf
      refine x_topi ev9 ?_
      refine x_istore (q := 46) C [1, 2, 3, 4, 5, 6, 0] [(0, .ref (aM 0)), (1, .int p1), (2, .int v5), (3, .ref (aM 11)), (4, .int 10), (5, .int v6), (6, .int v9)] dX3_needs_44 (by decide) rfl rfl ?_
      refine x_iload_n (q := 47) C 2 dX3_needs_46 rfl rfl rfl ?_
      refine x_aload_n (q := 48) C 0 dX3_needs_47 rfl rfl rfl ?_
      refine x_iload_n (q := 49) C 1 dX3_needs_48 rfl rfl rfl ?_
      refine x_iload (q := 51) C 6 dX3_needs_49 rfl rfl ?_
      obtain ⟨v10, hcal11, hf⟩ := bd_some hf
      refine x_callVi (q := 54) C (c3_gust (l := l) (D := D) (y := y) (aM := aM) hcal11) yi_X3_gust gX3_needs_X3_gust rfl (oX3 y aM M1) rfl ⟨(Nat.le_of_ble_eq_true rfl), (Nat.le_of_ble_eq_true rfl)⟩ dX3_needs_51 pm_nil rfl rfl (Nat.le_of_ble_eq_true rfl) ⟨Nat.le_of_ble_eq_true rfl, Nat.le_of_ble_eq_true rfl⟩ rfl ?_
      intro rr12 uu hrr
      have hrr : v10 = rr12 := Eq.symm hrr
      subst hrr
      refine x_world (ws' := mC y aM M1) (List.append_nil _) ?_
      refine x_mmax (q := 57) C dX3_needs_54 kmX3_needs_58 (Nat.le_of_ble_eq_true rfl) (Nat.le_of_ble_eq_true rfl) (Nat.le_of_ble_eq_true rfl) (Nat.le_of_ble_eq_true rfl) rfl ?_
      obtain ⟨v13, ev13, hf⟩ := lt_elim hf
      refine x_topi ev13 ?_
      refine x_istore_n (q := 58) C [1, 2, 0, 3, 4, 5] [(0, .ref (aM 0)), (1, .int p1), (2, .int v13), (3, .ref (aM 11)), (4, .int 10), (5, .int v6)] dX3_needs_57 rfl (by decide) rfl rfl ?_
      refine x_iinc (q := 61) C 5 (v6 + 1) [1, 2, 3, 4, 5, 0] [(0, .ref (aM 0)), (1, .int p1), (2, .int v13), (3, .ref (aM 11)), (4, .int 10), (5, .int (v6 + 1))] dX3_needs_58 rfl (congrArg (fun z => v6 + z) ki_1) (by decide) rfl rfl ?_
      refine x_goto (t := 33) C dX3_needs_61 (by decide) ?_
      exact ih v13 (v6 + 1) hf
set_option maxHeartbeats 4000000 in
set_option maxRecDepth 100000 in
theorem c3_needs {l : Launch} {D : va_G} {y : Nat → ClassId} {aM : Nat → Nat} {M : St} {p1 : Int32} {r : Int32} {M' : St} (hf : f3_needs M p1 = some (r, M')) : xMi l yX3_needs wsX3_needs 2 70 0 0 D (xT y) [.ref (aM 0), .int p1] (mC y aM M) (fun (r' : Int32) (_ : Unit) => r' = r) (fun _ : Unit => mC y aM M') := by
  refine xMi_of (cc := cX3_needs) (nL := 7) (ret := (some .int)) [(0, .ref (aM 0)), (1, .int p1)] (by decide) rfl (Nat.le_of_ble_eq_true rfl) rfl ?_
  intro p e s m args below meth c A C hin
  have C : xC p s m args meth c D A cX3_needs RX3 7 wsX3_needs (xT y) (some .int) := C
  unfold f3_needs at hf
  refine x_aload_n (q := 1) C 0 dX3_needs_0 rfl rfl rfl ?_
  refine x_iconst (q := 2) C dX3_needs_1 ki_0 rfl ?_
  obtain ⟨M1, eM1, hf⟩ := lt_elim hf
  refine x_puti (q := 5) (ws' := mC y aM M1) C tyX3 tyX3_ok nmX3 dX3_needs_2 (iX3_0 y aM M) rfl iuX3_needs_X3 flX3_needs_34 rfl (by decide) rfl rfl (congrArg (fun z => mC y aM z) eM1.symm) rfl ?_
  refine x_aload_n (q := 6) C 0 dX3_needs_5 rfl rfl rfl ?_
  refine x_iload_n (q := 7) C 1 dX3_needs_6 rfl rfl rfl ?_
  obtain ⟨v2, hcal3, hf⟩ := bd_some hf
  refine x_callVi (q := 10) C (c3_isLamp (l := l) (D := D) (y := y) (aM := aM) hcal3) yi_X3_isLamp gX3_needs_X3_isLamp rfl (oX3 y aM M1) rfl ⟨(Nat.le_of_ble_eq_true rfl), (Nat.le_of_ble_eq_true rfl)⟩ dX3_needs_7 pm_nil rfl rfl (Nat.le_of_ble_eq_true rfl) ⟨Nat.le_of_ble_eq_true rfl, Nat.le_of_ble_eq_true rfl⟩ rfl ?_
  intro rr4 uu hrr
  have hrr : v2 = rr4 := Eq.symm hrr
  subst hrr
  refine x_world (ws' := mC y aM M1) (List.append_nil _) ?_
  refine x_if_ne (t := 19) (q := 13) C dX3_needs_10 (by decide) rfl (fun hc => ?_) (fun hc => ?_)
  · have hf := (if_neg hc).symm.trans hf
    refine x_iconst (q := 20) C dX3_needs_19 ki_0 rfl ?_
    refine x_istore_n (q := 21) C [1, 2, 0] [(0, .ref (aM 0)), (1, .int p1), (2, .int 0)] dX3_needs_20 rfl (by decide) rfl rfl ?_
    refine x_aload_n (q := 22) C 0 dX3_needs_21 rfl rfl rfl ?_
    refine x_get (q := 25) C 11 dX3_needs_22 (oX3 y aM M1) rfl iuX3_needs_X3 flX3_needs_28 rfl (by decide) rfl rfl ?_
    refine x_astore_n (q := 26) C [1, 2, 3, 0] [(0, .ref (aM 0)), (1, .int p1), (2, .int 0), (3, .ref (aM 11))] dX3_needs_25 rfl (by decide) rfl rfl ?_
    refine x_aload_n (q := 27) C 3 dX3_needs_26 rfl rfl rfl ?_
    refine x_alen (q := 28) (v := 10) C 0 dX3_needs_27 (aX3_11 y aM M1) rfl (by decide) rfl ?_
    refine x_istore (q := 30) C [1, 2, 3, 4, 0] [(0, .ref (aM 0)), (1, .int p1), (2, .int 0), (3, .ref (aM 11)), (4, .int 10)] dX3_needs_28 (by decide) rfl rfl ?_
    refine x_iconst (q := 31) C dX3_needs_30 ki_0 rfl ?_
    refine x_istore (q := 33) C [1, 2, 3, 4, 5, 0] [(0, .ref (aM 0)), (1, .int p1), (2, .int 0), (3, .ref (aM 11)), (4, .int 10), (5, .int 0)] dX3_needs_31 (by decide) rfl rfl ?_
    refine w3_needs_L33 C (fun v7 hf => ?_) xF 0 0 hf
    refine x_iconst (q := 65) C dX3_needs_64 ki_0 rfl ?_
    refine x_iload_n (q := 66) C 0 dX3_needs_65 rfl rfl rfl ?_
    refine x_iconst (q := 67) C dX3_needs_66 ki_4 rfl ?_
    refine x_isub (q := 68) C dX3_needs_67 rfl ?_
    refine x_mmax (q := 71) C dX3_needs_68 kmX3_needs_58 (Nat.le_of_ble_eq_true rfl) (Nat.le_of_ble_eq_true rfl) (Nat.le_of_ble_eq_true rfl) (Nat.le_of_ble_eq_true rfl) rfl ?_
    obtain ⟨v14, ev14, hf⟩ := lt_elim hf
    refine x_topi ev14 ?_
    refine x_istore_n (q := 72) C [0] [(3, .int v14)] dX3_needs_71 rfl (by decide) rfl rfl ?_
    refine x_iload_n (q := 73) C 0 dX3_needs_72 rfl rfl rfl ?_
    refine x_bipush (q := 75) C dX3_needs_73 kb_9 rfl ?_
    refine x_icmp_le (t := 82) (q := 78) C dX3_needs_75 (by decide) rfl (fun hc => ?_) (fun hc => ?_)
    · have hf := (if_pos hc).symm.trans hf
      refine x_iload_n (q := 83) C 0 dX3_needs_82 rfl rfl rfl ?_
      have hf := Option.some.inj hf
      obtain ⟨hr0, hr1⟩ := Prod.mk.inj hf
      exact x_iret () C dX3_needs_83 rfl hr0 (congrArg (fun z => mC y aM z) hr1) (Nat.le_of_ble_eq_true rfl) (Nat.le_of_ble_eq_true rfl)
    · have hf := (if_neg hc).symm.trans hf
      refine x_iconst (q := 79) C dX3_needs_78 ki_m1 rfl ?_
      refine x_goto (t := 83) C dX3_needs_79 (by decide) ?_
      have hf := Option.some.inj hf
      obtain ⟨hr0, hr1⟩ := Prod.mk.inj hf
      exact x_iret () C dX3_needs_83 rfl hr0 (congrArg (fun z => mC y aM z) hr1) (Nat.le_of_ble_eq_true rfl) (Nat.le_of_ble_eq_true rfl)
  · have hf := (if_pos hc).symm.trans hf
    refine x_aload_n (q := 14) C 0 dX3_needs_13 rfl rfl rfl ?_
    refine x_iconst (q := 15) C dX3_needs_14 ki_1 rfl ?_
    obtain ⟨v15, M16, hcal17, hf⟩ := bd2_some hf
    refine x_callVi (q := 18) C (c3_fail (l := l) (D := D) (y := y) (aM := aM) hcal17) yi_X3_fail gX3_needs_X3_fail rfl (oX3 y aM M1) rfl ⟨(Nat.le_of_ble_eq_true rfl), (Nat.le_of_ble_eq_true rfl)⟩ dX3_needs_15 pm_nil rfl rfl (Nat.le_of_ble_eq_true rfl) ⟨Nat.le_of_ble_eq_true rfl, Nat.le_of_ble_eq_true rfl⟩ rfl ?_
    intro rr18 uu hrr
    have hrr : v15 = rr18 := Eq.symm hrr
    subst hrr
    refine x_world (ws' := mC y aM M16) (List.append_nil _) ?_
    have hf := Option.some.inj hf
    obtain ⟨hr0, hr1⟩ := Prod.mk.inj hf
    exact x_iret () C dX3_needs_18 rfl hr0 (congrArg (fun z => mC y aM z) hr1) (Nat.le_of_ble_eq_true rfl) (Nat.le_of_ble_eq_true rfl)
