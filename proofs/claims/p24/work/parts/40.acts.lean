/-! LampHillsLaw.adds(LLampHills;LLampHillsLaw$Sim;II)Z -/
theorem flL_adds_76 : Cond.fieldLink RL 76 "LampHillsLaw$Sim" "rounds" "[[I" ∈ wsL_adds := by decide +kernel
theorem iuL_adds_X3 : ∀ w ∈ u_ws RX3 TX3 10, w ∈ wsL_adds := fun _ h => List.mem_cons_of_mem _ (List.mem_append_left _ (List.mem_append_left _ (List.mem_append_left _ (List.mem_append_left _ (List.mem_append_right _ h)))))
theorem yi_X2_round : xY yX2_round wsX2_round cX2_round 3 (some .int) 2 := ⟨⟨_, rfl⟩, by decide +kernel, by decide +kernel, by decide +kernel⟩
def f6_adds_L16 (p3 : Int32) (p4 : Int32) (v2 : Int32) (T : St) (Y : (Nat → Nat)) (S : St) (K : Unit → Option (Int32 × St × (Nat → Nat) × St)) : Nat → Int32 → Option (Int32 × St × (Nat → Nat) × St)
  | 0, _ => none
  | fu + 1, v3 =>
  if v2 ≤ v3 then
  (
    K ()
  )
  else
  (
    gd (xin v3 (Y (rk 13 p3.toNatClampNeg))) <|
    lt_ (S (rk 13 p3.toNatClampNeg) v3.toNatClampNeg) fun v5 =>
    if v5 = p4 then
    (
      some ((1 : Int32), T, Y, S)
    )
    else
    (
      f6_adds_L16 p3 p4 v2 T Y S K fu (v3 + 1)
    )
  )
def f6_adds (G : St) (N : St) (F : St) (T : St) (Y : (Nat → Nat)) (S : St) (p3 : Int32) (p4 : Int32) : Option (Int32 × St × (Nat → Nat) × St) :=
  gd (xin p3 (Y 5)) <|
  lt_ (Int32.ofNat (Y (rk 13 p3.toNatClampNeg))) fun v2 =>
  f6_adds_L16 p3 p4 v2 T Y S (fun (u_ : Unit) =>
  (
    gd (xin p3 (Y 5)) <|
    if (Int32.ofNat (Y (rk 13 p3.toNatClampNeg))) = 10 then
    (
      some ((1 : Int32), T, Y, S)
    )
    else
    (
      gd (decide (Y (rk 13 p3.toNatClampNeg) < 32)) <|
      lt_ (upA Y (rk 13 p3.toNatClampNeg) (Y (rk 13 p3.toNatClampNeg) + 1)) fun Y7 =>
      lt_ (up1 S (rk 13 p3.toNatClampNeg) (grw (S (rk 13 p3.toNatClampNeg)) (Y (rk 13 p3.toNatClampNeg)) p4)) fun S8 =>
      br2 (f2_round G N F T p3 p4) fun v11 T12 =>
      gd (xin p3 (Y7 5)) <|
      if v11 = (Int32.ofNat (Y7 (rk 13 p3.toNatClampNeg))) then
      (
        some ((1 : Int32), T12, Y7, S8)
      )
      else
      (
        some ((0 : Int32), T12, Y7, S8)
      )
    )
  )
  ) xF 0
set_option maxHeartbeats 4000000 in
set_option maxRecDepth 100000 in
theorem w6_adds_L16 {p : Program} {l : Launch} {e : Env} {s : State} {m : MethodId} {args : Array Value} {below : List Frame} {meth : Method} {c : Code} {D : va_G} {A : Nat → Prop} {y : Nat → ClassId} {bS : Nat} {aH : Nat} {aG aN aF aT aS : Nat → Nat} {bX LX : Nat} {xs : Nat → Int32} {G : St} {N : St} {F : St} {T : St} {Y : (Nat → Nat)} {S : St} {p3 : Int32} {p4 : Int32} {v2 : Int32} {r : Int32} {T' : St} {Y' : (Nat → Nat)} {S' : St} {K : Unit → Option (Int32 × St × (Nat → Nat) × St)} (C : xC p s m args meth c D A cL_adds RL 8 wsL_adds (xT y) (some .boolean)) (hJ : xJ2 s) (hX : xS bX LX xs s A) (hb1 : xin p3 (Y 5) = true) (hK : ∀ (u_ : Unit), K u_ = some (r, T', Y', S') → xV p l e { frames := 8, cells := 1, slots := 33, locals := 133 } s m args below meth c D A (xQi D (xT y) A (fun (r' : Int32) (_ : Nat → Nat) => r' = r) (fun u_ : Nat → Nat => hC aH aN aF aT aG ++ (gC y aG G ++ (nC y aN N ++ (nC y aF F ++ (tC y aT T' ++ sC y bS u_ Y' S'))))) 1 33 below args s) 8 (hC aH aN aF aT aG ++ (gC y aG G ++ (nC y aN N ++ (nC y aF F ++ (tC y aT T ++ sC y bS aS Y S))))) 0 0 [(0, .ref aH), (1, .ref bS), (2, .int p3), (3, .int p4)] 44 []) : ∀ (fu : Nat) (v3 : Int32), f6_adds_L16 p3 p4 v2 T Y S K fu v3 = some (r, T', Y', S') → xV p l e { frames := 8, cells := 1, slots := 33, locals := 133 } s m args below meth c D A (xQi D (xT y) A (fun (r' : Int32) (_ : Nat → Nat) => r' = r) (fun u_ : Nat → Nat => hC aH aN aF aT aG ++ (gC y aG G ++ (nC y aN N ++ (nC y aF F ++ (tC y aT T' ++ sC y bS u_ Y' S'))))) 1 33 below args s) 8 (hC aH aN aF aT aG ++ (gC y aG G ++ (nC y aN N ++ (nC y aF F ++ (tC y aT T ++ sC y bS aS Y S))))) 0 0 [(0, .ref aH), (1, .ref bS), (2, .int p3), (3, .int p4), (4, .ref (aS (rk 13 p3.toNatClampNeg))), (5, .int v2), (6, .int v3)] 16 [] := by
  intro fu
  induction fu with
  | zero => intro v3 hf; rw [f6_adds_L16] at hf; cases hf
  | succ fu ih =>
    intro v3 hf
    rw [f6_adds_L16] at hf
    refine x_iload (q := 18) C 6 dL_adds_16 rfl rfl ?_
    refine x_iload (q := 20) C 5 dL_adds_18 rfl rfl ?_
    refine x_icmp_ge (t := 44) (q := 23) C dL_adds_20 (by decide) rfl (fun hc => ?_) (fun hc => ?_)
    · have hf := (if_pos hc).symm.trans hf
      refine x_sub [0, 1, 2, 3] (L' := [(0, .ref aH), (1, .ref bS), (2, .int p3), (3, .int p4)]) rfl ?_
      exact hK () hf
    · have hf := (if_neg hc).symm.trans hf
      refine x_aload (q := 25) C 4 dL_adds_23 rfl rfl ?_
      refine x_iload (q := 27) C 6 dL_adds_25 rfl rfl ?_
      obtain ⟨hb4, hf⟩ := gd_some hf
      refine x_iald (q := 28) C 0 dL_adds_27 ((((((aX3_r4 y bS aS Y S (xin_lt hb1)).R).R).R).R).R) rfl hb4 rfl ?_
      obtain ⟨v5, ev5, hf⟩ := lt_elim hf
      refine x_topi ev5 ?_
      refine x_istore (q := 30) C [1, 2, 3, 4, 5, 6, 7, 0] [(0, .ref aH), (1, .ref bS), (2, .int p3), (3, .int p4), (4, .ref (aS (rk 13 p3.toNatClampNeg))), (5, .int v2), (6, .int v3), (7, .int v5)] dL_adds_28 (by decide) rfl rfl ?_
      refine x_iload (q := 32) C 7 dL_adds_30 rfl rfl ?_
      refine x_iload_n (q := 33) C 3 dL_adds_32 rfl rfl rfl ?_
      refine x_icmp_ne (t := 38) (q := 36) C dL_adds_33 (by decide) rfl (fun hc => ?_) (fun hc => ?_)
      · have hf := (if_neg hc).symm.trans hf
        refine x_iinc (q := 41) C 6 (v3 + 1) [1, 2, 3, 4, 5, 6, 0] [(0, .ref aH), (1, .ref bS), (2, .int p3), (3, .int p4), (4, .ref (aS (rk 13 p3.toNatClampNeg))), (5, .int v2), (6, .int (v3 + 1))] dL_adds_38 rfl (congrArg (fun z => v3 + z) ki_1) (by decide) rfl rfl ?_
        refine x_goto (t := 16) C dL_adds_41 (by decide) ?_
        exact ih (v3 + 1) hf
      · have hf := (if_pos hc).symm.trans hf
        refine x_iconst (q := 37) C dL_adds_36 ki_1 rfl ?_
        have hf := Option.some.inj hf
        obtain ⟨hr0, hx0⟩ := Prod.mk.inj hf
        obtain ⟨hr1, hx1⟩ := Prod.mk.inj hx0
        obtain ⟨hr2, hr3⟩ := Prod.mk.inj hx1
        exact x_zret aS C dL_adds_37 rfl rfl hr0 (by rw [hr1, hr2, hr3]) (Nat.le_of_ble_eq_true rfl) (Nat.le_of_ble_eq_true rfl)
set_option maxHeartbeats 4000000 in
set_option maxRecDepth 100000 in
theorem c6_adds {l : Launch} {D : va_G} {y : Nat → ClassId} {bS : Nat} {aH : Nat} {aG aN aF aT aS : Nat → Nat} {bX LX : Nat} {xs : Nat → Int32} {G : St} {N : St} {F : St} {T : St} {Y : (Nat → Nat)} {S : St} {p3 : Int32} {p4 : Int32} {r : Int32} {T' : St} {Y' : (Nat → Nat)} {S' : St} (hf : f6_adds G N F T Y S p3 p4 = some (r, T', Y', S')) : xMXi l yL_adds wsL_adds 8 133 1 33 D (xT y) [.ref aH, .ref bS, .int p3, .int p4] (hC aH aN aF aT aG ++ (gC y aG G ++ (nC y aN N ++ (nC y aF F ++ (tC y aT T ++ sC y bS aS Y S))))) bX LX xs (fun (r' : Int32) (_ : Nat → Nat) => r' = r) (fun u_ : Nat → Nat => hC aH aN aF aT aG ++ (gC y aG G ++ (nC y aN N ++ (nC y aF F ++ (tC y aT T' ++ sC y bS u_ Y' S'))))) := by
  refine xMXi_of (cc := cL_adds) (nL := 8) (ret := (some .boolean)) [(0, .ref aH), (1, .ref bS), (2, .int p3), (3, .int p4)] (by decide) rfl (Nat.le_of_ble_eq_true rfl) rfl ?_
  intro p e s m args below meth c A C hJ hX
  have C : xC p s m args meth c D A cL_adds RL 8 wsL_adds (xT y) (some .boolean) := C
  unfold f6_adds at hf
  refine x_aload_n (q := 1) C 1 dL_adds_0 rfl rfl rfl ?_
  refine x_get (q := 4) C 4 dL_adds_1 ((((((oX3 y bS aS Y S).R).R).R).R).R) rfl iuL_adds_X3 flL_adds_76 rfl (by decide) rfl rfl ?_
  refine x_iload_n (q := 5) C 2 dL_adds_4 rfl rfl rfl ?_
  obtain ⟨hb1, hf⟩ := gd_some hf
  refine x_aald (q := 6) C 2 dL_adds_5 ((((((gX3_4 y bS aS Y S).R).R).R).R).R) rfl rfl hb1 (if_pos (xin_lt hb1)) rfl ?_
  refine x_astore (q := 8) C [1, 2, 3, 4, 0] [(0, .ref aH), (1, .ref bS), (2, .int p3), (3, .int p4), (4, .ref (aS (rk 13 p3.toNatClampNeg)))] dL_adds_6 (by decide) rfl rfl ?_
  refine x_aload (q := 10) C 4 dL_adds_8 rfl rfl ?_
  refine x_alen (q := 11) C 0 dL_adds_10 ((((((aX3_r4 y bS aS Y S (xin_lt hb1)).R).R).R).R).R) rfl rfl rfl ?_
  obtain ⟨v2, ev2, hf⟩ := lt_elim hf
  refine x_topi ev2 ?_
  refine x_istore (q := 13) C [1, 2, 3, 4, 5, 0] [(0, .ref aH), (1, .ref bS), (2, .int p3), (3, .int p4), (4, .ref (aS (rk 13 p3.toNatClampNeg))), (5, .int v2)] dL_adds_11 (by decide) rfl rfl ?_
  refine x_iconst (q := 14) C dL_adds_13 ki_0 rfl ?_
  refine x_istore (q := 16) C [1, 2, 3, 4, 5, 6, 0] [(0, .ref aH), (1, .ref bS), (2, .int p3), (3, .int p4), (4, .ref (aS (rk 13 p3.toNatClampNeg))), (5, .int v2), (6, .int 0)] dL_adds_14 (by decide) rfl rfl ?_
  refine w6_adds_L16 C hJ hX hb1 (fun u_ hf => ?_) xF 0 hf
  refine x_aload_n (q := 45) C 1 dL_adds_44 rfl rfl rfl ?_
  refine x_get (q := 48) C 4 dL_adds_45 ((((((oX3 y bS aS Y S).R).R).R).R).R) rfl iuL_adds_X3 flL_adds_76 rfl (by decide) rfl rfl ?_
  refine x_iload_n (q := 49) C 2 dL_adds_48 rfl rfl rfl ?_
  obtain ⟨hb6, hf⟩ := gd_some hf
  refine x_aald (q := 50) C 2 dL_adds_49 ((((((gX3_4 y bS aS Y S).R).R).R).R).R) rfl rfl hb6 (if_pos (xin_lt hb6)) rfl ?_
  refine x_alen (q := 51) C 0 dL_adds_50 ((((((aX3_r4 y bS aS Y S (xin_lt hb6)).R).R).R).R).R) rfl rfl rfl ?_
  refine x_bipush (q := 53) C dL_adds_51 kb_10 rfl ?_
  refine x_icmp_ne (t := 58) (q := 56) C dL_adds_53 (by decide) rfl (fun hc => ?_) (fun hc => ?_)
  · have hf := (if_neg hc).symm.trans hf
    refine x_aload_n (q := 59) C 1 dL_adds_58 rfl rfl rfl ?_
    refine x_get (q := 62) C 4 dL_adds_59 ((((((oX3 y bS aS Y S).R).R).R).R).R) rfl iuL_adds_X3 flL_adds_76 rfl (by decide) rfl rfl ?_
    refine x_iload_n (q := 63) C 2 dL_adds_62 rfl rfl rfl ?_
    refine x_aload_n (q := 64) C 1 dL_adds_63 rfl rfl rfl ?_
    refine x_get (q := 67) C 4 dL_adds_64 ((((((oX3 y bS aS Y S).R).R).R).R).R) rfl iuL_adds_X3 flL_adds_76 rfl (by decide) rfl rfl ?_
    refine x_iload_n (q := 68) C 2 dL_adds_67 rfl rfl rfl ?_
    refine x_aald (q := 69) C 2 dL_adds_68 ((((((gX3_4 y bS aS Y S).R).R).R).R).R) rfl rfl hb6 (if_pos (xin_lt hb6)) rfl ?_
    refine x_iload_n (q := 70) C 3 dL_adds_69 rfl rfl rfl ?_
    obtain ⟨hg10, hf⟩ := gd_some hf
    have hg10 := of_decide_eq_true hg10
    refine x_world (ws' := (hC aH aN aF aT aG ++ (gC y aG G ++ (nC y aN N ++ (nC y aF F ++ tC y aT T)))) ++ sC y bS aS Y S) (asr5 _ _ _ _ _ _) ?_
    refine x_growRow (q := 74) C hJ hb6 hg10 gL_adds_X3_more dL_adds_70 dL_adds_73 ⟨(Nat.le_of_ble_eq_true rfl), (Nat.le_of_ble_eq_true rfl)⟩ (Nat.le_of_ble_eq_true rfl) ⟨(Nat.le_of_ble_eq_true rfl), (Nat.le_of_ble_eq_true rfl)⟩ rfl (fun v_ => ?_)
    obtain ⟨Y7, eY7, hf⟩ := lt_elim hf
    obtain ⟨S8, eS8, hf⟩ := lt_elim hf
    obtain ⟨aS9, eaS9⟩ : ∃ z_ : Nat → Nat, z_ = upA aS (rk 13 p3.toNatClampNeg) v_ := ⟨_, rfl⟩
    refine x_world (ws' := hC aH aN aF aT aG ++ (gC y aG G ++ (nC y aN N ++ (nC y aF F ++ (tC y aT T ++ sC y bS aS9 Y7 S8))))) (by rw [eaS9, eY7, eS8]; exact (asr5 _ _ _ _ _ _).symm) ?_
    clear eaS9
    refine x_aload_n (q := 75) C 0 dL_adds_74 rfl rfl rfl ?_
    refine x_iload_n (q := 76) C 2 dL_adds_75 rfl rfl rfl ?_
    refine x_iload_n (q := 77) C 3 dL_adds_76 rfl rfl rfl ?_
    obtain ⟨v11, T12, hcal13, hf⟩ := br2_some hf
    refine x_callVi (q := 80) C (c2_round (l := l) (D := D) (y := y) (aH := aH) (aG := aG) (aN := aN) (aF := aF) (aT := aT) hcal13) yi_X2_round gL_adds_X2_round rfl ((oX2 aH aN aF aT aG).L) rfl ⟨(Nat.le_of_ble_eq_true rfl), (Nat.le_of_ble_eq_true rfl)⟩ dL_adds_77 (pm6_01234 _ _ _ _ _ _) rfl rfl (Nat.le_of_ble_eq_true rfl) ⟨Nat.le_of_ble_eq_true rfl, Nat.le_of_ble_eq_true rfl⟩ rfl ?_
    intro rr14 uu hrr
    have hrr : v11 = rr14 := Eq.symm hrr
    subst hrr
    refine x_perm (ws' := hC aH aN aF aT aG ++ (gC y aG G ++ (nC y aN N ++ (nC y aF F ++ (tC y aT T12 ++ sC y bS aS9 Y7 S8))))) (pm6_01234 _ _ _ _ _ _).symm ?_
    refine x_aload_n (q := 81) C 1 dL_adds_80 rfl rfl rfl ?_
    refine x_get (q := 84) C 4 dL_adds_81 ((((((oX3 y bS aS9 Y7 S8).R).R).R).R).R) rfl iuL_adds_X3 flL_adds_76 rfl (by decide) rfl rfl ?_
    refine x_iload_n (q := 85) C 2 dL_adds_84 rfl rfl rfl ?_
    obtain ⟨hb15, hf⟩ := gd_some hf
    refine x_aald (q := 86) C 2 dL_adds_85 ((((((gX3_4 y bS aS9 Y7 S8).R).R).R).R).R) rfl rfl hb15 (if_pos (xin_lt hb15)) rfl ?_
    refine x_alen (q := 87) C 0 dL_adds_86 ((((((aX3_r4 y bS aS9 Y7 S8 (xin_lt hb15)).R).R).R).R).R) rfl rfl rfl ?_
    refine x_icmp_ne (t := 94) (q := 90) C dL_adds_87 (by decide) rfl (fun hc => ?_) (fun hc => ?_)
    · have hf := (if_neg hc).symm.trans hf
      refine x_iconst (q := 95) C dL_adds_94 ki_0 rfl ?_
      have hf := Option.some.inj hf
      obtain ⟨hr0, hx0⟩ := Prod.mk.inj hf
      obtain ⟨hr1, hx1⟩ := Prod.mk.inj hx0
      obtain ⟨hr2, hr3⟩ := Prod.mk.inj hx1
      exact x_zret aS9 C dL_adds_95 rfl rfl hr0 (by rw [hr1, hr2, hr3]) (Nat.le_of_ble_eq_true rfl) (Nat.le_of_ble_eq_true rfl)
    · have hf := (if_pos hc).symm.trans hf
      refine x_iconst (q := 91) C dL_adds_90 ki_1 rfl ?_
      refine x_goto (t := 95) C dL_adds_91 (by decide) ?_
      have hf := Option.some.inj hf
      obtain ⟨hr0, hx0⟩ := Prod.mk.inj hf
      obtain ⟨hr1, hx1⟩ := Prod.mk.inj hx0
      obtain ⟨hr2, hr3⟩ := Prod.mk.inj hx1
      exact x_zret aS9 C dL_adds_95 rfl rfl hr0 (by rw [hr1, hr2, hr3]) (Nat.le_of_ble_eq_true rfl) (Nat.le_of_ble_eq_true rfl)
  · have hf := (if_pos hc).symm.trans hf
    refine x_iconst (q := 57) C dL_adds_56 ki_1 rfl ?_
    have hf := Option.some.inj hf
    obtain ⟨hr0, hx0⟩ := Prod.mk.inj hf
    obtain ⟨hr1, hx1⟩ := Prod.mk.inj hx0
    obtain ⟨hr2, hr3⟩ := Prod.mk.inj hx1
    exact x_zret aS C dL_adds_57 rfl rfl hr0 (by rw [hr1, hr2, hr3]) (Nat.le_of_ble_eq_true rfl) (Nat.le_of_ble_eq_true rfl)

/-! LampHillsLaw.act(LLampHills;LLampHillsLaw$Sim;I)Z -/
theorem kb_90 : (Int8.ofInt 90).toInt32 = 90 := by decide
theorem flL_act_58 : Cond.fieldLink RL 58 "LampHillsLaw$Sim" "lamps" "[[I" ∈ wsL_act := by decide +kernel
theorem flL_act_64 : Cond.fieldLink RL 64 "LampHillsLaw$Sim" "wind" "[I" ∈ wsL_act := by decide +kernel
theorem flL_act_73 : Cond.fieldLink RL 73 "LampHillsLaw$Sim" "lighters" "[[I" ∈ wsL_act := by decide +kernel
theorem flL_act_89 : Cond.fieldLink RL 89 "LampHillsLaw$Sim" "minute" "I" ∈ wsL_act := by decide +kernel
theorem iuL_act_X3 : ∀ w ∈ u_ws RX3 TX3 10, w ∈ wsL_act := fun _ h => List.mem_cons_of_mem _ (List.mem_append_left _ (List.mem_append_left _ (List.mem_append_left _ (List.mem_append_left _ (List.mem_append_left _ (List.mem_append_left _ (List.mem_append_right _ h)))))))
theorem kmL_act_36 : ∀ w ∈ ([.methodLink RL 36 Lib.Math.min.name, .static Lib.Math.min.name, .initialized "java/lang/Math", .code Lib.Math.min.name Lib.Math.min.code 2 (some .int)] : List Cond), w ∈ wsL_act := by decide +kernel
theorem yi_L_adds : xY yL_adds wsL_adds cL_adds 8 (some .boolean) 4 := ⟨⟨_, rfl⟩, by decide +kernel, by decide +kernel, by decide +kernel⟩
theorem yi_X2_dawn : xY yX2_dawn wsX2_dawn cX2_dawn 2 (some .int) 0 := ⟨⟨_, rfl⟩, by decide +kernel, by decide +kernel, by decide +kernel⟩
theorem yi_X2_fill : xY yX2_fill wsX2_fill cX2_fill 3 (some .int) 2 := ⟨⟨_, rfl⟩, by decide +kernel, by decide +kernel, by decide +kernel⟩
theorem yi_X2_lid : xY yX2_lid wsX2_lid cX2_lid 4 (some .int) 2 := ⟨⟨_, rfl⟩, by decide +kernel, by decide +kernel, by decide +kernel⟩
theorem yi_X2_setWind : xY yX2_setWind wsX2_setWind cX2_setWind 4 (some .int) 2 := ⟨⟨_, rfl⟩, by decide +kernel, by decide +kernel, by decide +kernel⟩
theorem yi_X3_dawn : xY yX3_dawn wsX3_dawn cX3_dawn 6 (some .int) 0 := ⟨⟨_, rfl⟩, by decide +kernel, by decide +kernel, by decide +kernel⟩
def f6_act (G : St) (N : St) (F : St) (T : St) (Y : (Nat → Nat)) (S : St) (p3 : Int32) : Option (Int32 × St × St × (Nat → Nat) × St) :=
  bd (lbelow p3 (Int32.ofNat (Y 3))) fun v1 =>
  lt_ (fun (v4 : Int32) =>
  (
    bd (lbelow (p3 >>> (8 &&& 31)) 5) fun v5 =>
    if v5 = 0 then
    (
      gd (xin v1 (Y 3)) <|
      lt_ (S (rk 11 v1.toNatClampNeg) (2 : Int32).toNatClampNeg) fun v10 =>
      bd (lbelow (p3 >>> (4 &&& 31)) 10) fun v11 =>
      lt_ (up2 S (rk 11 v1.toNatClampNeg) (2 : Int32).toNatClampNeg v11) fun S14 =>
      br2 (f2_lid G N F T v1 (S14 (rk 11 v1.toNatClampNeg) (2 : Int32).toNatClampNeg)) fun v15 T16 =>
      if v15 = v10 then
      (
        some ((1 : Int32), N, T16, Y, S14)
      )
      else
      (
        some ((0 : Int32), N, T16, Y, S14)
      )
    )
    else
    if v5 = 1 then
    (
      bd (lbelow (p3 >>> (3 &&& 31)) 10) fun v19 =>
      gd (xin v19 10) <|
      lt_ (S 6 v19.toNatClampNeg) fun v23 =>
      bd (lbelow (p3 >>> (5 &&& 31)) 10) fun v24 =>
      lt_ (up2 S 6 v19.toNatClampNeg v24) fun S27 =>
      br2 (f2_setWind G N F T v19 (S27 6 v19.toNatClampNeg)) fun v28 T29 =>
      if v28 = v23 then
      (
        some ((1 : Int32), N, T29, Y, S27)
      )
      else
      (
        some ((0 : Int32), N, T29, Y, S27)
      )
    )
    else
    if v5 = 2 then
    (
      if 0 ≤ v4 then
      (
        bd (lbelow (p3 >>> (6 &&& 31)) 2) fun v32 =>
        lt_ (fun (v35 : Int32) =>
        (
          bd (lbelow (p3 >>> (3 &&& 31)) v35) fun v36 =>
          lt_ (1 + v36) fun v39 =>
          gd (xin v4 (Y 4)) <|
          lt_ (up2 S (rk 12 v4.toNatClampNeg) (3 : Int32).toNatClampNeg (if ((S (rk 12 v4.toNatClampNeg) (3 : Int32).toNatClampNeg) + v39) < (999 : Int32) then ((S (rk 12 v4.toNatClampNeg) (3 : Int32).toNatClampNeg) + v39) else (999 : Int32))) fun S42 =>
          br2 (f2_fill G N F T v4 v39) fun v43 N44 =>
          if v43 = (S42 (rk 12 v4.toNatClampNeg) (3 : Int32).toNatClampNeg) then
          (
            some ((1 : Int32), N44, T, Y, S42)
          )
          else
          (
            some ((0 : Int32), N44, T, Y, S42)
          )
        )
        ) fun J210 =>
        if v32 = 0 then
        (
          J210 999
        )
        else
        (
          J210 90
        )
      )
      else
      (
        some ((1 : Int32), N, T, Y, S)
      )
    )
    else
    if v5 = 3 then
    (
      lt_ (fun (T48 : St) (Y49 : (Nat → Nat)) (S50 : St) =>
      (
        some ((1 : Int32), N, T48, Y49, S50)
      )
      ) fun J285 =>
      if v4 < 0 then
      (
        J285 T Y S
      )
      else
      (
        bd4 (f6_adds G N F T Y S v4 v1) fun v51 T52 Y53 S54 =>
        if v51 = 0 then
        (
          some ((0 : Int32), N, T52, Y53, S54)
        )
        else
        (
          J285 T52 Y53 S54
        )
      )
    )
    else
    (
      lt_ (fun (N58 : St) (S59 : St) =>
      (
        some ((1 : Int32), N58, T, Y, S59)
      )
      ) fun J312 =>
      if (S 7 0) < 600 then
      (
        J312 N S
      )
      else
      (
        br2 (f2_dawn G N F T) fun v60 N61 =>
        bd2 (f5_dawn Y S) fun v64 S65 =>
        if v60 = v64 then
        (
          J312 N61 S65
        )
        else
        (
          some ((0 : Int32), N61, T, Y, S65)
        )
      )
    )
  )
  ) fun J33 =>
  if (Int32.ofNat (Y 4)) = 0 then
  (
    J33 (-1)
  )
  else
  (
    bd (lbelow (p3 >>> (2 &&& 31)) (Int32.ofNat (Y 4))) fun v68 =>
    J33 v68
  )
set_option maxHeartbeats 4000000 in
set_option maxRecDepth 100000 in
theorem c6_act {l : Launch} {D : va_G} {y : Nat → ClassId} {bS : Nat} {aH : Nat} {aG aN aF aT aS : Nat → Nat} {bX LX : Nat} {xs : Nat → Int32} {G : St} {N : St} {F : St} {T : St} {Y : (Nat → Nat)} {S : St} {p3 : Int32} {r : Int32} {N' : St} {T' : St} {Y' : (Nat → Nat)} {S' : St} (hf : f6_act G N F T Y S p3 = some (r, N', T', Y', S')) : xMXi l yL_act wsL_act 9 160 1 33 D (xT y) [.ref aH, .ref bS, .int p3] (hC aH aN aF aT aG ++ (gC y aG G ++ (nC y aN N ++ (nC y aF F ++ (tC y aT T ++ sC y bS aS Y S))))) bX LX xs (fun (r' : Int32) (_ : Nat → Nat) => r' = r) (fun u_ : Nat → Nat => hC aH aN aF aT aG ++ (gC y aG G ++ (nC y aN N' ++ (nC y aF F ++ (tC y aT T' ++ sC y bS u_ Y' S'))))) := by
  refine xMXi_of (cc := cL_act) (nL := 9) (ret := (some .boolean)) [(0, .ref aH), (1, .ref bS), (2, .int p3)] (by decide) rfl (Nat.le_of_ble_eq_true rfl) rfl ?_
  intro p e s m args below meth c A C hJ hX
  have C : xC p s m args meth c D A cL_act RL 9 wsL_act (xT y) (some .boolean) := C
  unfold f6_act at hf
  refine x_iload_n (q := 1) C 2 dL_act_0 rfl rfl rfl ?_
  refine x_aload_n (q := 2) C 1 dL_act_1 rfl rfl rfl ?_
  refine x_get (q := 5) C 2 dL_act_2 ((((((oX3 y bS aS Y S).R).R).R).R).R) rfl iuL_act_X3 flL_act_58 rfl (by decide) rfl rfl ?_
  refine x_alenr (q := 6) C 2 dL_act_5 ((((((gX3_2 y bS aS Y S).R).R).R).R).R) rfl rfl ?_
  obtain ⟨v1, hcal2, hf⟩ := bd_some hf
  refine x_callSi (q := 9) (Wc := []) C (c6_below (l := l) (D := D) (y := y) hcal2) yi_L_below gL_act_L_below ⟨(Nat.le_of_ble_eq_true rfl), (Nat.le_of_ble_eq_true rfl)⟩ dL_act_6 pm_emp rfl rfl (Nat.le_of_ble_eq_true rfl) ⟨(Nat.le_of_ble_eq_true rfl), (Nat.le_of_ble_eq_true rfl)⟩ rfl ?_
  intro rr3 uu hrr
  have hrr : v1 = rr3 := Eq.symm hrr
  subst hrr
  refine x_world (ws' := hC aH aN aF aT aG ++ (gC y aG G ++ (nC y aN N ++ (nC y aF F ++ (tC y aT T ++ sC y bS aS Y S))))) rfl ?_
  refine x_istore_n (q := 10) C [1, 2, 3, 0] [(0, .ref aH), (1, .ref bS), (2, .int p3), (3, .int v1)] dL_act_9 rfl (by decide) rfl rfl ?_
  refine x_aload_n (q := 11) C 1 dL_act_10 rfl rfl rfl ?_
  refine x_get (q := 14) C 3 dL_act_11 ((((((oX3 y bS aS Y S).R).R).R).R).R) rfl iuL_act_X3 flL_act_73 rfl (by decide) rfl rfl ?_
  refine x_alenr (q := 15) C 2 dL_act_14 ((((((gX3_3 y bS aS Y S).R).R).R).R).R) rfl rfl ?_
  obtain ⟨J33, eJ33, hf⟩ := lt_elim hf
  have hJ33 : ∀ (v4 : Int32), J33 v4 = some (r, N', T', Y', S') → xV p l e { frames := 9, cells := 1, slots := 33, locals := 160 } s m args below meth c D A (xQi D (xT y) A (fun (r' : Int32) (_ : Nat → Nat) => r' = r) (fun u_ : Nat → Nat => hC aH aN aF aT aG ++ (gC y aG G ++ (nC y aN N' ++ (nC y aF F ++ (tC y aT T' ++ sC y bS u_ Y' S'))))) 1 33 below args s) 9 (hC aH aN aF aT aG ++ (gC y aG G ++ (nC y aN N ++ (nC y aF F ++ (tC y aT T ++ sC y bS aS Y S))))) 0 0 [(0, .ref aH), (1, .ref bS), (2, .int p3), (3, .int v1)] 33 [.int v4] := by
    intro v4 hf
    subst eJ33
    refine x_istore (q := 35) C [1, 2, 3, 4, 0] [(0, .ref aH), (1, .ref bS), (2, .int p3), (3, .int v1), (4, .int v4)] dL_act_33 (by decide) rfl rfl ?_
    refine x_iload_n (q := 36) C 2 dL_act_35 rfl rfl rfl ?_
    refine x_bipush (q := 38) C dL_act_36 kb_8 rfl ?_
    refine x_ishr (q := 39) C dL_act_38 rfl ?_
    refine x_iconst (q := 40) C dL_act_39 ki_5 rfl ?_
    obtain ⟨v5, hcal6, hf⟩ := bd_some hf
    refine x_callSi (q := 43) (Wc := []) C (c6_below (l := l) (D := D) (y := y) hcal6) yi_L_below gL_act_L_below ⟨(Nat.le_of_ble_eq_true rfl), (Nat.le_of_ble_eq_true rfl)⟩ dL_act_40 pm_emp rfl rfl (Nat.le_of_ble_eq_true rfl) ⟨(Nat.le_of_ble_eq_true rfl), (Nat.le_of_ble_eq_true rfl)⟩ rfl ?_
    intro rr7 uu hrr
    have hrr : v5 = rr7 := Eq.symm hrr
    subst hrr
    refine x_world (ws' := hC aH aN aF aT aG ++ (gC y aG G ++ (nC y aN N ++ (nC y aF F ++ (tC y aT T ++ sC y bS aS Y S))))) rfl ?_
    by_cases hw0 : v5 = 0
    · have hf := (if_pos hw0).symm.trans hf
      refine x_table (t := 72) (off := 29) 0 C dL_act_43 hw0 (by decide) (by decide) (by decide) (by decide) ?_
      refine x_aload_n (q := 73) C 1 dL_act_72 rfl rfl rfl ?_
      refine x_get (q := 76) C 2 dL_act_73 ((((((oX3 y bS aS Y S).R).R).R).R).R) rfl iuL_act_X3 flL_act_58 rfl (by decide) rfl rfl ?_
      refine x_iload_n (q := 77) C 3 dL_act_76 rfl rfl rfl ?_
      obtain ⟨hb8, hf⟩ := gd_some hf
      refine x_aald (q := 78) C 2 dL_act_77 ((((((gX3_2 y bS aS Y S).R).R).R).R).R) rfl rfl hb8 (if_pos (xin_lt hb8)) rfl ?_
      refine x_iconst (q := 79) C dL_act_78 ki_2 rfl ?_
      have hb9 : xin 2 8 = true := by decide
      refine x_iald (q := 80) C 0 dL_act_79 ((((((aX3_r2 y bS aS Y S (xin_lt hb8)).R).R).R).R).R) rfl hb9 rfl ?_
      obtain ⟨v10, ev10, hf⟩ := lt_elim hf
      refine x_topi ev10 ?_
      refine x_istore (q := 82) C [1, 2, 3, 4, 0] [(0, .ref aH), (1, .ref bS), (2, .int p3), (3, .int v1), (5, .int v10)] dL_act_80 (by decide) rfl rfl ?_
      refine x_aload_n (q := 83) C 1 dL_act_82 rfl rfl rfl ?_
      refine x_get (q := 86) C 2 dL_act_83 ((((((oX3 y bS aS Y S).R).R).R).R).R) rfl iuL_act_X3 flL_act_58 rfl (by decide) rfl rfl ?_
      refine x_iload_n (q := 87) C 3 dL_act_86 rfl rfl rfl ?_
      refine x_aald (q := 88) C 2 dL_act_87 ((((((gX3_2 y bS aS Y S).R).R).R).R).R) rfl rfl hb8 (if_pos (xin_lt hb8)) rfl ?_
      refine x_iconst (q := 89) C dL_act_88 ki_2 rfl ?_
      refine x_iload_n (q := 90) C 2 dL_act_89 rfl rfl rfl ?_
      refine x_iconst (q := 91) C dL_act_90 ki_4 rfl ?_
      refine x_ishr (q := 92) C dL_act_91 rfl ?_
      refine x_bipush (q := 94) C dL_act_92 kb_10 rfl ?_
      obtain ⟨v11, hcal12, hf⟩ := bd_some hf
      refine x_callSi (q := 97) (Wc := []) C (c6_below (l := l) (D := D) (y := y) hcal12) yi_L_below gL_act_L_below ⟨(Nat.le_of_ble_eq_true rfl), (Nat.le_of_ble_eq_true rfl)⟩ dL_act_94 pm_emp rfl rfl (Nat.le_of_ble_eq_true rfl) ⟨(Nat.le_of_ble_eq_true rfl), (Nat.le_of_ble_eq_true rfl)⟩ rfl ?_
      intro rr13 uu hrr
      have hrr : v11 = rr13 := Eq.symm hrr
      subst hrr
      refine x_world (ws' := hC aH aN aF aT aG ++ (gC y aG G ++ (nC y aN N ++ (nC y aF F ++ (tC y aT T ++ sC y bS aS Y S))))) rfl ?_
      obtain ⟨S14, eS14, hf⟩ := lt_elim hf
      refine x_iast (q := 98) (ws' := hC aH aN aF aT aG ++ (gC y aG G ++ (nC y aN N ++ (nC y aF F ++ (tC y aT T ++ sC y bS aS Y S14))))) C 0 dL_act_97 ((((((aX3_r2 y bS aS Y S (xin_lt hb8)).R).R).R).R).R) rfl hb9 (congrArg (fun z => hC aH aN aF aT aG ++ (gC y aG G ++ (nC y aN N ++ (nC y aF F ++ (tC y aT T ++ sC y bS aS Y z))))) eS14.symm) rfl ?_
      refine x_aload_n (q := 99) C 0 dL_act_98 rfl rfl rfl ?_
      refine x_iload_n (q := 100) C 3 dL_act_99 rfl rfl rfl ?_
      refine x_aload_n (q := 101) C 1 dL_act_100 rfl rfl rfl ?_
      refine x_get (q := 104) C 2 dL_act_101 ((((((oX3 y bS aS Y S14).R).R).R).R).R) rfl iuL_act_X3 flL_act_58 rfl (by decide) rfl rfl ?_
      refine x_iload_n (q := 105) C 3 dL_act_104 rfl rfl rfl ?_
      refine x_aald (q := 106) C 2 dL_act_105 ((((((gX3_2 y bS aS Y S14).R).R).R).R).R) rfl rfl hb8 (if_pos (xin_lt hb8)) rfl ?_
      refine x_iconst (q := 107) C dL_act_106 ki_2 rfl ?_
      refine x_iald (q := 108) C 0 dL_act_107 ((((((aX3_r2 y bS aS Y S14 (xin_lt hb8)).R).R).R).R).R) rfl hb9 rfl ?_
      obtain ⟨v15, T16, hcal17, hf⟩ := br2_some hf
      refine x_callVi (q := 111) C (c2_lid (l := l) (D := D) (y := y) (aH := aH) (aG := aG) (aN := aN) (aF := aF) (aT := aT) hcal17) yi_X2_lid gL_act_X2_lid rfl ((oX2 aH aN aF aT aG).L) rfl ⟨(Nat.le_of_ble_eq_true rfl), (Nat.le_of_ble_eq_true rfl)⟩ dL_act_108 (pm6_01234 _ _ _ _ _ _) rfl rfl (Nat.le_of_ble_eq_true rfl) ⟨Nat.le_of_ble_eq_true rfl, Nat.le_of_ble_eq_true rfl⟩ rfl ?_
      intro rr18 uu hrr
      have hrr : v15 = rr18 := Eq.symm hrr
      subst hrr
      refine x_perm (ws' := hC aH aN aF aT aG ++ (gC y aG G ++ (nC y aN N ++ (nC y aF F ++ (tC y aT T16 ++ sC y bS aS Y S14))))) (pm6_01234 _ _ _ _ _ _).symm ?_
      refine x_iload (q := 113) C 4 dL_act_111 rfl rfl ?_
      refine x_icmp_ne (t := 120) (q := 116) C dL_act_113 (by decide) rfl (fun hc => ?_) (fun hc => ?_)
      · have hf := (if_neg hc).symm.trans hf
        refine x_iconst (q := 121) C dL_act_120 ki_0 rfl ?_
        have hf := Option.some.inj hf
        obtain ⟨hr0, hx0⟩ := Prod.mk.inj hf
        obtain ⟨hr1, hx1⟩ := Prod.mk.inj hx0
        obtain ⟨hr2, hx2⟩ := Prod.mk.inj hx1
        obtain ⟨hr3, hr4⟩ := Prod.mk.inj hx2
        exact x_zret aS C dL_act_121 rfl rfl hr0 (by rw [hr1, hr2, hr3, hr4]) (Nat.le_of_ble_eq_true rfl) (Nat.le_of_ble_eq_true rfl)
      · have hf := (if_pos hc).symm.trans hf
        refine x_iconst (q := 117) C dL_act_116 ki_1 rfl ?_
        refine x_goto (t := 121) C dL_act_117 (by decide) ?_
        have hf := Option.some.inj hf
        obtain ⟨hr0, hx0⟩ := Prod.mk.inj hf
        obtain ⟨hr1, hx1⟩ := Prod.mk.inj hx0
        obtain ⟨hr2, hx2⟩ := Prod.mk.inj hx1
        obtain ⟨hr3, hr4⟩ := Prod.mk.inj hx2
        exact x_zret aS C dL_act_121 rfl rfl hr0 (by rw [hr1, hr2, hr3, hr4]) (Nat.le_of_ble_eq_true rfl) (Nat.le_of_ble_eq_true rfl)
    have hf := (if_neg hw0).symm.trans hf
    by_cases hw1 : v5 = 1
    · have hf := (if_pos hw1).symm.trans hf
      refine x_table (t := 122) (off := 79) 1 C dL_act_43 hw1 (by decide) (by decide) (by decide) (by decide) ?_
      refine x_iload_n (q := 123) C 2 dL_act_122 rfl rfl rfl ?_
      refine x_iconst (q := 124) C dL_act_123 ki_3 rfl ?_
      refine x_ishr (q := 125) C dL_act_124 rfl ?_
      refine x_bipush (q := 127) C dL_act_125 kb_10 rfl ?_
      obtain ⟨v19, hcal20, hf⟩ := bd_some hf
      refine x_callSi (q := 130) (Wc := []) C (c6_below (l := l) (D := D) (y := y) hcal20) yi_L_below gL_act_L_below ⟨(Nat.le_of_ble_eq_true rfl), (Nat.le_of_ble_eq_true rfl)⟩ dL_act_127 pm_emp rfl rfl (Nat.le_of_ble_eq_true rfl) ⟨(Nat.le_of_ble_eq_true rfl), (Nat.le_of_ble_eq_true rfl)⟩ rfl ?_
      intro rr21 uu hrr
      have hrr : v19 = rr21 := Eq.symm hrr
      subst hrr
      refine x_world (ws' := hC aH aN aF aT aG ++ (gC y aG G ++ (nC y aN N ++ (nC y aF F ++ (tC y aT T ++ sC y bS aS Y S))))) rfl ?_
      refine x_istore (q := 132) C [1, 2, 3, 0] [(0, .ref aH), (1, .ref bS), (2, .int p3), (6, .int v19)] dL_act_130 (by decide) rfl rfl ?_
      refine x_aload_n (q := 133) C 1 dL_act_132 rfl rfl rfl ?_
      refine x_get (q := 136) C 5 dL_act_133 ((((((oX3 y bS aS Y S).R).R).R).R).R) rfl iuL_act_X3 flL_act_64 rfl (by decide) rfl rfl ?_
      refine x_iload (q := 138) C 3 dL_act_136 rfl rfl ?_
      obtain ⟨hb22, hf⟩ := gd_some hf
      refine x_iald (q := 139) C 0 dL_act_138 ((((((aX3_5 y bS aS Y S).R).R).R).R).R) rfl hb22 rfl ?_
      obtain ⟨v23, ev23, hf⟩ := lt_elim hf
      refine x_topi ev23 ?_
      refine x_istore (q := 141) C [1, 2, 3, 4, 0] [(0, .ref aH), (1, .ref bS), (2, .int p3), (6, .int v19), (7, .int v23)] dL_act_139 (by decide) rfl rfl ?_
      refine x_aload_n (q := 142) C 1 dL_act_141 rfl rfl rfl ?_
      refine x_get (q := 145) C 5 dL_act_142 ((((((oX3 y bS aS Y S).R).R).R).R).R) rfl iuL_act_X3 flL_act_64 rfl (by decide) rfl rfl ?_
      refine x_iload (q := 147) C 3 dL_act_145 rfl rfl ?_
      refine x_iload_n (q := 148) C 2 dL_act_147 rfl rfl rfl ?_
      refine x_iconst (q := 149) C dL_act_148 ki_5 rfl ?_
      refine x_ishr (q := 150) C dL_act_149 rfl ?_
      refine x_bipush (q := 152) C dL_act_150 kb_10 rfl ?_
      obtain ⟨v24, hcal25, hf⟩ := bd_some hf
      refine x_callSi (q := 155) (Wc := []) C (c6_below (l := l) (D := D) (y := y) hcal25) yi_L_below gL_act_L_below ⟨(Nat.le_of_ble_eq_true rfl), (Nat.le_of_ble_eq_true rfl)⟩ dL_act_152 pm_emp rfl rfl (Nat.le_of_ble_eq_true rfl) ⟨(Nat.le_of_ble_eq_true rfl), (Nat.le_of_ble_eq_true rfl)⟩ rfl ?_
      intro rr26 uu hrr
      have hrr : v24 = rr26 := Eq.symm hrr
      subst hrr
      refine x_world (ws' := hC aH aN aF aT aG ++ (gC y aG G ++ (nC y aN N ++ (nC y aF F ++ (tC y aT T ++ sC y bS aS Y S))))) rfl ?_
      obtain ⟨S27, eS27, hf⟩ := lt_elim hf
      refine x_iast (q := 156) (ws' := hC aH aN aF aT aG ++ (gC y aG G ++ (nC y aN N ++ (nC y aF F ++ (tC y aT T ++ sC y bS aS Y S27))))) C 0 dL_act_155 ((((((aX3_5 y bS aS Y S).R).R).R).R).R) rfl hb22 (congrArg (fun z => hC aH aN aF aT aG ++ (gC y aG G ++ (nC y aN N ++ (nC y aF F ++ (tC y aT T ++ sC y bS aS Y z))))) eS27.symm) rfl ?_
      refine x_aload_n (q := 157) C 0 dL_act_156 rfl rfl rfl ?_
      refine x_iload (q := 159) C 3 dL_act_157 rfl rfl ?_
      refine x_aload_n (q := 160) C 1 dL_act_159 rfl rfl rfl ?_
      refine x_get (q := 163) C 5 dL_act_160 ((((((oX3 y bS aS Y S27).R).R).R).R).R) rfl iuL_act_X3 flL_act_64 rfl (by decide) rfl rfl ?_
      refine x_iload (q := 165) C 3 dL_act_163 rfl rfl ?_
      refine x_iald (q := 166) C 0 dL_act_165 ((((((aX3_5 y bS aS Y S27).R).R).R).R).R) rfl hb22 rfl ?_
      obtain ⟨v28, T29, hcal30, hf⟩ := br2_some hf
      refine x_callVi (q := 169) C (c2_setWind (l := l) (D := D) (y := y) (aH := aH) (aG := aG) (aN := aN) (aF := aF) (aT := aT) hcal30) yi_X2_setWind gL_act_X2_setWind rfl ((oX2 aH aN aF aT aG).L) rfl ⟨(Nat.le_of_ble_eq_true rfl), (Nat.le_of_ble_eq_true rfl)⟩ dL_act_166 (pm6_01234 _ _ _ _ _ _) rfl rfl (Nat.le_of_ble_eq_true rfl) ⟨Nat.le_of_ble_eq_true rfl, Nat.le_of_ble_eq_true rfl⟩ rfl ?_
      intro rr31 uu hrr
      have hrr : v28 = rr31 := Eq.symm hrr
      subst hrr
      refine x_perm (ws' := hC aH aN aF aT aG ++ (gC y aG G ++ (nC y aN N ++ (nC y aF F ++ (tC y aT T29 ++ sC y bS aS Y S27))))) (pm6_01234 _ _ _ _ _ _).symm ?_
      refine x_iload (q := 171) C 4 dL_act_169 rfl rfl ?_
      refine x_icmp_ne (t := 178) (q := 174) C dL_act_171 (by decide) rfl (fun hc => ?_) (fun hc => ?_)
      · have hf := (if_neg hc).symm.trans hf
        refine x_iconst (q := 179) C dL_act_178 ki_0 rfl ?_
        have hf := Option.some.inj hf
        obtain ⟨hr0, hx0⟩ := Prod.mk.inj hf
        obtain ⟨hr1, hx1⟩ := Prod.mk.inj hx0
        obtain ⟨hr2, hx2⟩ := Prod.mk.inj hx1
        obtain ⟨hr3, hr4⟩ := Prod.mk.inj hx2
        exact x_zret aS C dL_act_179 rfl rfl hr0 (by rw [hr1, hr2, hr3, hr4]) (Nat.le_of_ble_eq_true rfl) (Nat.le_of_ble_eq_true rfl)
      · have hf := (if_pos hc).symm.trans hf
        refine x_iconst (q := 175) C dL_act_174 ki_1 rfl ?_
        refine x_goto (t := 179) C dL_act_175 (by decide) ?_
        have hf := Option.some.inj hf
        obtain ⟨hr0, hx0⟩ := Prod.mk.inj hf
        obtain ⟨hr1, hx1⟩ := Prod.mk.inj hx0
        obtain ⟨hr2, hx2⟩ := Prod.mk.inj hx1
        obtain ⟨hr3, hr4⟩ := Prod.mk.inj hx2
        exact x_zret aS C dL_act_179 rfl rfl hr0 (by rw [hr1, hr2, hr3, hr4]) (Nat.le_of_ble_eq_true rfl) (Nat.le_of_ble_eq_true rfl)
    have hf := (if_neg hw1).symm.trans hf
    by_cases hw2 : v5 = 2
    · have hf := (if_pos hw2).symm.trans hf
      refine x_table (t := 180) (off := 137) 2 C dL_act_43 hw2 (by decide) (by decide) (by decide) (by decide) ?_
      refine x_iload (q := 182) C 4 dL_act_180 rfl rfl ?_
      refine x_if_ge (t := 187) (q := 185) C dL_act_182 (by decide) rfl (fun hc => ?_) (fun hc => ?_)
      · have hf := (if_pos hc).symm.trans hf
        refine x_iconst (q := 188) C dL_act_187 ki_1 rfl ?_
        refine x_iload_n (q := 189) C 2 dL_act_188 rfl rfl rfl ?_
        refine x_iconst (q := 190) C dL_act_189 ki_3 rfl ?_
        refine x_ishr (q := 191) C dL_act_190 rfl ?_
        refine x_iload_n (q := 192) C 2 dL_act_191 rfl rfl rfl ?_
        refine x_bipush (q := 194) C dL_act_192 kb_6 rfl ?_
        refine x_ishr (q := 195) C dL_act_194 rfl ?_
        refine x_iconst (q := 196) C dL_act_195 ki_2 rfl ?_
        obtain ⟨v32, hcal33, hf⟩ := bd_some hf
        refine x_callSi (q := 199) (Wc := []) C (c6_below (l := l) (D := D) (y := y) hcal33) yi_L_below gL_act_L_below ⟨(Nat.le_of_ble_eq_true rfl), (Nat.le_of_ble_eq_true rfl)⟩ dL_act_196 pm_emp rfl rfl (Nat.le_of_ble_eq_true rfl) ⟨(Nat.le_of_ble_eq_true rfl), (Nat.le_of_ble_eq_true rfl)⟩ rfl ?_
        intro rr34 uu hrr
        have hrr : v32 = rr34 := Eq.symm hrr
        subst hrr
        refine x_world (ws' := hC aH aN aF aT aG ++ (gC y aG G ++ (nC y aN N ++ (nC y aF F ++ (tC y aT T ++ sC y bS aS Y S))))) rfl ?_
        obtain ⟨J210, eJ210, hf⟩ := lt_elim hf
        have hJ210 : ∀ (v35 : Int32), J210 v35 = some (r, N', T', Y', S') → xV p l e { frames := 9, cells := 1, slots := 33, locals := 160 } s m args below meth c D A (xQi D (xT y) A (fun (r' : Int32) (_ : Nat → Nat) => r' = r) (fun u_ : Nat → Nat => hC aH aN aF aT aG ++ (gC y aG G ++ (nC y aN N' ++ (nC y aF F ++ (tC y aT T' ++ sC y bS u_ Y' S'))))) 1 33 below args s) 9 (hC aH aN aF aT aG ++ (gC y aG G ++ (nC y aN N ++ (nC y aF F ++ (tC y aT T ++ sC y bS aS Y S))))) 0 0 [(0, .ref aH), (1, .ref bS), (4, .int v4)] 210 [.int v35, .int (p3 >>> (3 &&& 31)), .int 1] := by
          intro v35 hf
          subst eJ210
          obtain ⟨v36, hcal37, hf⟩ := bd_some hf
          refine x_callSi (q := 213) (Wc := []) C (c6_below (l := l) (D := D) (y := y) hcal37) yi_L_below gL_act_L_below ⟨(Nat.le_of_ble_eq_true rfl), (Nat.le_of_ble_eq_true rfl)⟩ dL_act_210 pm_emp rfl rfl (Nat.le_of_ble_eq_true rfl) ⟨(Nat.le_of_ble_eq_true rfl), (Nat.le_of_ble_eq_true rfl)⟩ rfl ?_
          intro rr38 uu hrr
          have hrr : v36 = rr38 := Eq.symm hrr
          subst hrr
          refine x_world (ws' := hC aH aN aF aT aG ++ (gC y aG G ++ (nC y aN N ++ (nC y aF F ++ (tC y aT T ++ sC y bS aS Y S))))) rfl ?_
          refine x_iadd (q := 214) C dL_act_213 rfl ?_
          obtain ⟨v39, ev39, hf⟩ := lt_elim hf
          refine x_topi ev39 ?_
          refine x_istore (q := 216) C [1, 2, 3, 0] [(0, .ref aH), (1, .ref bS), (4, .int v4), (8, .int v39)] dL_act_214 (by decide) rfl rfl ?_
          refine x_aload_n (q := 217) C 1 dL_act_216 rfl rfl rfl ?_
          refine x_get (q := 220) C 3 dL_act_217 ((((((oX3 y bS aS Y S).R).R).R).R).R) rfl iuL_act_X3 flL_act_73 rfl (by decide) rfl rfl ?_
          refine x_iload (q := 222) C 2 dL_act_220 rfl rfl ?_
          obtain ⟨hb40, hf⟩ := gd_some hf
          refine x_aald (q := 223) C 2 dL_act_222 ((((((gX3_3 y bS aS Y S).R).R).R).R).R) rfl rfl hb40 (if_pos (xin_lt hb40)) rfl ?_
          refine x_iconst (q := 224) C dL_act_223 ki_3 rfl ?_
          refine x_sipush (q := 227) C dL_act_224 ks_999 rfl ?_
          refine x_aload_n (q := 228) C 1 dL_act_227 rfl rfl rfl ?_
          refine x_get (q := 231) C 3 dL_act_228 ((((((oX3 y bS aS Y S).R).R).R).R).R) rfl iuL_act_X3 flL_act_73 rfl (by decide) rfl rfl ?_
          refine x_iload (q := 233) C 2 dL_act_231 rfl rfl ?_
          refine x_aald (q := 234) C 2 dL_act_233 ((((((gX3_3 y bS aS Y S).R).R).R).R).R) rfl rfl hb40 (if_pos (xin_lt hb40)) rfl ?_
          refine x_iconst (q := 235) C dL_act_234 ki_3 rfl ?_
          have hb41 : xin 3 9 = true := by decide
          refine x_iald (q := 236) C 0 dL_act_235 ((((((aX3_r3 y bS aS Y S (xin_lt hb40)).R).R).R).R).R) rfl hb41 rfl ?_
          refine x_iload (q := 238) C 3 dL_act_236 rfl rfl ?_
          refine x_iadd (q := 239) C dL_act_238 rfl ?_
          refine x_mmin (q := 242) C dL_act_239 kmL_act_36 (Nat.le_of_ble_eq_true rfl) (Nat.le_of_ble_eq_true rfl) (Nat.le_of_ble_eq_true rfl) (Nat.le_of_ble_eq_true rfl) rfl ?_
          obtain ⟨S42, eS42, hf⟩ := lt_elim hf
          refine x_iast (q := 243) (ws' := hC aH aN aF aT aG ++ (gC y aG G ++ (nC y aN N ++ (nC y aF F ++ (tC y aT T ++ sC y bS aS Y S42))))) C 0 dL_act_242 ((((((aX3_r3 y bS aS Y S (xin_lt hb40)).R).R).R).R).R) rfl hb41 (congrArg (fun z => hC aH aN aF aT aG ++ (gC y aG G ++ (nC y aN N ++ (nC y aF F ++ (tC y aT T ++ sC y bS aS Y z))))) eS42.symm) rfl ?_
          refine x_aload_n (q := 244) C 0 dL_act_243 rfl rfl rfl ?_
          refine x_iload (q := 246) C 2 dL_act_244 rfl rfl ?_
          refine x_iload (q := 248) C 3 dL_act_246 rfl rfl ?_
          obtain ⟨v43, N44, hcal45, hf⟩ := br2_some hf
          refine x_callVi (q := 251) C (c2_fill (l := l) (D := D) (y := y) (aH := aH) (aG := aG) (aN := aN) (aF := aF) (aT := aT) hcal45) yi_X2_fill gL_act_X2_fill rfl ((oX2 aH aN aF aT aG).L) rfl ⟨(Nat.le_of_ble_eq_true rfl), (Nat.le_of_ble_eq_true rfl)⟩ dL_act_248 (pm6_01234 _ _ _ _ _ _) rfl rfl (Nat.le_of_ble_eq_true rfl) ⟨Nat.le_of_ble_eq_true rfl, Nat.le_of_ble_eq_true rfl⟩ rfl ?_
          intro rr46 uu hrr
          have hrr : v43 = rr46 := Eq.symm hrr
          subst hrr
          refine x_perm (ws' := hC aH aN aF aT aG ++ (gC y aG G ++ (nC y aN N44 ++ (nC y aF F ++ (tC y aT T ++ sC y bS aS Y S42))))) (pm6_01234 _ _ _ _ _ _).symm ?_
          refine x_aload_n (q := 252) C 1 dL_act_251 rfl rfl rfl ?_
          refine x_get (q := 255) C 3 dL_act_252 ((((((oX3 y bS aS Y S42).R).R).R).R).R) rfl iuL_act_X3 flL_act_73 rfl (by decide) rfl rfl ?_
          refine x_iload (q := 257) C 2 dL_act_255 rfl rfl ?_
          refine x_aald (q := 258) C 2 dL_act_257 ((((((gX3_3 y bS aS Y S42).R).R).R).R).R) rfl rfl hb40 (if_pos (xin_lt hb40)) rfl ?_
          refine x_iconst (q := 259) C dL_act_258 ki_3 rfl ?_
          refine x_iald (q := 260) C 0 dL_act_259 ((((((aX3_r3 y bS aS Y S42 (xin_lt hb40)).R).R).R).R).R) rfl hb41 rfl ?_
          refine x_icmp_ne (t := 267) (q := 263) C dL_act_260 (by decide) rfl (fun hc => ?_) (fun hc => ?_)
          · have hf := (if_neg hc).symm.trans hf
            refine x_iconst (q := 268) C dL_act_267 ki_0 rfl ?_
            have hf := Option.some.inj hf
            obtain ⟨hr0, hx0⟩ := Prod.mk.inj hf
            obtain ⟨hr1, hx1⟩ := Prod.mk.inj hx0
            obtain ⟨hr2, hx2⟩ := Prod.mk.inj hx1
            obtain ⟨hr3, hr4⟩ := Prod.mk.inj hx2
            exact x_zret aS C dL_act_268 rfl rfl hr0 (by rw [hr1, hr2, hr3, hr4]) (Nat.le_of_ble_eq_true rfl) (Nat.le_of_ble_eq_true rfl)
          · have hf := (if_pos hc).symm.trans hf
            refine x_iconst (q := 264) C dL_act_263 ki_1 rfl ?_
            refine x_goto (t := 268) C dL_act_264 (by decide) ?_
            have hf := Option.some.inj hf
            obtain ⟨hr0, hx0⟩ := Prod.mk.inj hf
            obtain ⟨hr1, hx1⟩ := Prod.mk.inj hx0
            obtain ⟨hr2, hx2⟩ := Prod.mk.inj hx1
            obtain ⟨hr3, hr4⟩ := Prod.mk.inj hx2
            exact x_zret aS C dL_act_268 rfl rfl hr0 (by rw [hr1, hr2, hr3, hr4]) (Nat.le_of_ble_eq_true rfl) (Nat.le_of_ble_eq_true rfl)
        refine x_if_ne (t := 208) (q := 202) C dL_act_199 (by decide) rfl (fun hc => ?_) (fun hc => ?_)
        · have hf := (if_neg hc).symm.trans hf
          refine x_bipush (q := 210) C dL_act_208 kb_90 rfl ?_
          refine x_sub [0, 1, 4] (L' := [(0, .ref aH), (1, .ref bS), (4, .int v4)]) rfl ?_
          exact hJ210 90 hf
        · have hf := (if_pos hc).symm.trans hf
          refine x_sipush (q := 205) C dL_act_202 ks_999 rfl ?_
          refine x_goto (t := 210) C dL_act_205 (by decide) ?_
          refine x_sub [0, 1, 4] (L' := [(0, .ref aH), (1, .ref bS), (4, .int v4)]) rfl ?_
          exact hJ210 999 hf
      · have hf := (if_neg hc).symm.trans hf
        refine x_iconst (q := 186) C dL_act_185 ki_1 rfl ?_
        have hf := Option.some.inj hf
        obtain ⟨hr0, hx0⟩ := Prod.mk.inj hf
        obtain ⟨hr1, hx1⟩ := Prod.mk.inj hx0
        obtain ⟨hr2, hx2⟩ := Prod.mk.inj hx1
        obtain ⟨hr3, hr4⟩ := Prod.mk.inj hx2
        exact x_zret aS C dL_act_186 rfl rfl hr0 (by rw [hr1, hr2, hr3, hr4]) (Nat.le_of_ble_eq_true rfl) (Nat.le_of_ble_eq_true rfl)
    have hf := (if_neg hw2).symm.trans hf
    by_cases hw3 : v5 = 3
    · have hf := (if_pos hw3).symm.trans hf
      refine x_table (t := 269) (off := 226) 3 C dL_act_43 hw3 (by decide) (by decide) (by decide) (by decide) ?_
      refine x_iload (q := 271) C 4 dL_act_269 rfl rfl ?_
      obtain ⟨J285, eJ285, hf⟩ := lt_elim hf
      have hJ285 : ∀ (aS47 : Nat → Nat) (T48 : St) (Y49 : (Nat → Nat)) (S50 : St), J285 T48 Y49 S50 = some (r, N', T', Y', S') → xV p l e { frames := 9, cells := 1, slots := 33, locals := 160 } s m args below meth c D A (xQi D (xT y) A (fun (r' : Int32) (_ : Nat → Nat) => r' = r) (fun u_ : Nat → Nat => hC aH aN aF aT aG ++ (gC y aG G ++ (nC y aN N' ++ (nC y aF F ++ (tC y aT T' ++ sC y bS u_ Y' S'))))) 1 33 below args s) 9 (hC aH aN aF aT aG ++ (gC y aG G ++ (nC y aN N ++ (nC y aF F ++ (tC y aT T48 ++ sC y bS aS47 Y49 S50))))) 1 33 [] 285 [] := by
        intro aS47 T48 Y49 S50 hf
        subst eJ285
        refine x_iconst (q := 286) C dL_act_285 ki_1 rfl ?_
        refine x_goto (t := 290) C dL_act_286 (by decide) ?_
        have hf := Option.some.inj hf
        obtain ⟨hr0, hx0⟩ := Prod.mk.inj hf
        obtain ⟨hr1, hx1⟩ := Prod.mk.inj hx0
        obtain ⟨hr2, hx2⟩ := Prod.mk.inj hx1
        obtain ⟨hr3, hr4⟩ := Prod.mk.inj hx2
        exact x_zret aS47 C dL_act_290 rfl rfl hr0 (by rw [hr1, hr2, hr3, hr4]) (Nat.le_of_ble_eq_true rfl) (Nat.le_of_ble_eq_true rfl)
      refine x_if_lt (t := 285) (q := 274) C dL_act_271 (by decide) rfl (fun hc => ?_) (fun hc => ?_)
      · have hf := (if_pos hc).symm.trans hf
        refine x_sub [] (L' := []) rfl ?_
        refine x_widen (k' := 1) (n' := 33) (by omega) (by omega) ?_
        exact hJ285 aS T Y S hf
      · have hf := (if_neg hc).symm.trans hf
        refine x_aload_n (q := 275) C 0 dL_act_274 rfl rfl rfl ?_
        refine x_aload_n (q := 276) C 1 dL_act_275 rfl rfl rfl ?_
        refine x_iload (q := 278) C 4 dL_act_276 rfl rfl ?_
        refine x_iload_n (q := 279) C 3 dL_act_278 rfl rfl rfl ?_
        obtain ⟨v51, T52, Y53, S54, hcal56, hf⟩ := bd4_some hf
        refine x_callXSi (q := 282) C hJ hX (c6_adds (l := l) (D := D) (y := y) (aH := aH) (aG := aG) (aN := aN) (aF := aF) (aT := aT) (bS := bS) (aS := aS) hcal56) yi_L_adds gL_act_L_adds ⟨(Nat.le_of_ble_eq_true rfl), (Nat.le_of_ble_eq_true rfl)⟩ dL_act_279 pm_nil rfl rfl (Nat.le_of_ble_eq_true rfl) ⟨Nat.le_of_ble_eq_true rfl, Nat.le_of_ble_eq_true rfl⟩ rfl ?_
        intro rr57 aS55 hrr
        have hrr : v51 = rr57 := Eq.symm hrr
        subst hrr
        refine x_widen (k' := 1) (n' := 33) (Nat.le_of_ble_eq_true rfl) (Nat.le_of_ble_eq_true rfl) ?_
        refine x_world (ws' := hC aH aN aF aT aG ++ (gC y aG G ++ (nC y aN N ++ (nC y aF F ++ (tC y aT T52 ++ sC y bS aS55 Y53 S54))))) (List.append_nil _) ?_
        refine x_if_eq (t := 289) (q := 285) C dL_act_282 (by decide) rfl (fun hc => ?_) (fun hc => ?_)
        · have hf := (if_pos hc).symm.trans hf
          refine x_iconst (q := 290) C dL_act_289 ki_0 rfl ?_
          have hf := Option.some.inj hf
          obtain ⟨hr0, hx0⟩ := Prod.mk.inj hf
          obtain ⟨hr1, hx1⟩ := Prod.mk.inj hx0
          obtain ⟨hr2, hx2⟩ := Prod.mk.inj hx1
          obtain ⟨hr3, hr4⟩ := Prod.mk.inj hx2
          exact x_zret aS55 C dL_act_290 rfl rfl hr0 (by rw [hr1, hr2, hr3, hr4]) (Nat.le_of_ble_eq_true rfl) (Nat.le_of_ble_eq_true rfl)
        · have hf := (if_neg hc).symm.trans hf
          refine x_sub [] (L' := []) rfl ?_
          exact hJ285 aS55 T52 Y53 S54 hf
    have hf := (if_neg hw3).symm.trans hf
    refine x_tableOut (t := 291) C dL_act_43 (xtab4 hw0 hw1 hw2 hw3) (by decide) ?_
    refine x_aload_n (q := 292) C 1 dL_act_291 rfl rfl rfl ?_
    refine x_get (q := 295) C 6 dL_act_292 ((((((oX3 y bS aS Y S).R).R).R).R).R) rfl iuL_act_X3 flL_act_89 rfl (by decide) rfl rfl ?_
    refine x_sipush (q := 298) C dL_act_295 ks_600 rfl ?_
    obtain ⟨J312, eJ312, hf⟩ := lt_elim hf
    have hJ312 : ∀ (N58 : St) (S59 : St), J312 N58 S59 = some (r, N', T', Y', S') → xV p l e { frames := 9, cells := 1, slots := 33, locals := 160 } s m args below meth c D A (xQi D (xT y) A (fun (r' : Int32) (_ : Nat → Nat) => r' = r) (fun u_ : Nat → Nat => hC aH aN aF aT aG ++ (gC y aG G ++ (nC y aN N' ++ (nC y aF F ++ (tC y aT T' ++ sC y bS u_ Y' S'))))) 1 33 below args s) 9 (hC aH aN aF aT aG ++ (gC y aG G ++ (nC y aN N58 ++ (nC y aF F ++ (tC y aT T ++ sC y bS aS Y S59))))) 0 0 [] 312 [] := by
      intro N58 S59 hf
      subst eJ312
      refine x_iconst (q := 313) C dL_act_312 ki_1 rfl ?_
      refine x_goto (t := 317) C dL_act_313 (by decide) ?_
      have hf := Option.some.inj hf
      obtain ⟨hr0, hx0⟩ := Prod.mk.inj hf
      obtain ⟨hr1, hx1⟩ := Prod.mk.inj hx0
      obtain ⟨hr2, hx2⟩ := Prod.mk.inj hx1
      obtain ⟨hr3, hr4⟩ := Prod.mk.inj hx2
      exact x_zret aS C dL_act_317 rfl rfl hr0 (by rw [hr1, hr2, hr3, hr4]) (Nat.le_of_ble_eq_true rfl) (Nat.le_of_ble_eq_true rfl)
    refine x_icmp_lt (t := 312) (q := 301) C dL_act_298 (by decide) rfl (fun hc => ?_) (fun hc => ?_)
    · have hf := (if_pos hc).symm.trans hf
      refine x_sub [] (L' := []) rfl ?_
      exact hJ312 N S hf
    · have hf := (if_neg hc).symm.trans hf
      refine x_aload_n (q := 302) C 0 dL_act_301 rfl rfl rfl ?_
      obtain ⟨v60, N61, hcal62, hf⟩ := br2_some hf
      refine x_callVi (q := 305) C (c2_dawn (l := l) (D := D) (y := y) (aH := aH) (aG := aG) (aN := aN) (aF := aF) (aT := aT) hcal62) yi_X2_dawn gL_act_X2_dawn rfl ((oX2 aH aN aF aT aG).L) rfl ⟨(Nat.le_of_ble_eq_true rfl), (Nat.le_of_ble_eq_true rfl)⟩ dL_act_302 (pm6_01234 _ _ _ _ _ _) rfl rfl (Nat.le_of_ble_eq_true rfl) ⟨Nat.le_of_ble_eq_true rfl, Nat.le_of_ble_eq_true rfl⟩ rfl ?_
      intro rr63 uu hrr
      have hrr : v60 = rr63 := Eq.symm hrr
      subst hrr
      refine x_perm (ws' := hC aH aN aF aT aG ++ (gC y aG G ++ (nC y aN N61 ++ (nC y aF F ++ (tC y aT T ++ sC y bS aS Y S))))) (pm6_01234 _ _ _ _ _ _).symm ?_
      refine x_aload_n (q := 306) C 1 dL_act_305 rfl rfl rfl ?_
      obtain ⟨v64, S65, hcal66, hf⟩ := bd2_some hf
      refine x_callVi (q := 309) C (c5_dawn (l := l) (D := D) (y := y) (bS := bS) (aS := aS) hcal66) yi_X3_dawn gL_act_X3_dawn rfl (oX3 y bS aS Y S) rfl ⟨(Nat.le_of_ble_eq_true rfl), (Nat.le_of_ble_eq_true rfl)⟩ dL_act_306 (pm6_5 _ _ _ _ _ _) rfl rfl (Nat.le_of_ble_eq_true rfl) ⟨Nat.le_of_ble_eq_true rfl, Nat.le_of_ble_eq_true rfl⟩ rfl ?_
      intro rr67 uu hrr
      have hrr : v64 = rr67 := Eq.symm hrr
      subst hrr
      refine x_perm (ws' := hC aH aN aF aT aG ++ (gC y aG G ++ (nC y aN N61 ++ (nC y aF F ++ (tC y aT T ++ sC y bS aS Y S65))))) (pm6_5 _ _ _ _ _ _).symm ?_
      refine x_icmp_ne (t := 316) (q := 312) C dL_act_309 (by decide) rfl (fun hc => ?_) (fun hc => ?_)
      · have hf := (if_neg hc).symm.trans hf
        refine x_iconst (q := 317) C dL_act_316 ki_0 rfl ?_
        have hf := Option.some.inj hf
        obtain ⟨hr0, hx0⟩ := Prod.mk.inj hf
        obtain ⟨hr1, hx1⟩ := Prod.mk.inj hx0
        obtain ⟨hr2, hx2⟩ := Prod.mk.inj hx1
        obtain ⟨hr3, hr4⟩ := Prod.mk.inj hx2
        exact x_zret aS C dL_act_317 rfl rfl hr0 (by rw [hr1, hr2, hr3, hr4]) (Nat.le_of_ble_eq_true rfl) (Nat.le_of_ble_eq_true rfl)
      · have hf := (if_pos hc).symm.trans hf
        refine x_sub [] (L' := []) rfl ?_
        exact hJ312 N61 S65 hf
  refine x_if_ne (t := 22) (q := 18) C dL_act_15 (by decide) rfl (fun hc => ?_) (fun hc => ?_)
  · have hf := (if_neg hc).symm.trans hf
    refine x_iload_n (q := 23) C 2 dL_act_22 rfl rfl rfl ?_
    refine x_iconst (q := 24) C dL_act_23 ki_2 rfl ?_
    refine x_ishr (q := 25) C dL_act_24 rfl ?_
    refine x_aload_n (q := 26) C 1 dL_act_25 rfl rfl rfl ?_
    refine x_get (q := 29) C 3 dL_act_26 ((((((oX3 y bS aS Y S).R).R).R).R).R) rfl iuL_act_X3 flL_act_73 rfl (by decide) rfl rfl ?_
    refine x_alenr (q := 30) C 2 dL_act_29 ((((((gX3_3 y bS aS Y S).R).R).R).R).R) rfl rfl ?_
    obtain ⟨v68, hcal69, hf⟩ := bd_some hf
    refine x_callSi (q := 33) (Wc := []) C (c6_below (l := l) (D := D) (y := y) hcal69) yi_L_below gL_act_L_below ⟨(Nat.le_of_ble_eq_true rfl), (Nat.le_of_ble_eq_true rfl)⟩ dL_act_30 pm_emp rfl rfl (Nat.le_of_ble_eq_true rfl) ⟨(Nat.le_of_ble_eq_true rfl), (Nat.le_of_ble_eq_true rfl)⟩ rfl ?_
    intro rr70 uu hrr
    have hrr : v68 = rr70 := Eq.symm hrr
    subst hrr
    refine x_world (ws' := hC aH aN aF aT aG ++ (gC y aG G ++ (nC y aN N ++ (nC y aF F ++ (tC y aT T ++ sC y bS aS Y S))))) rfl ?_
    exact hJ33 v68 hf
  · have hf := (if_pos hc).symm.trans hf
    refine x_iconst (q := 19) C dL_act_18 ki_m1 rfl ?_
    refine x_goto (t := 33) C dL_act_19 (by decide) ?_
    exact hJ33 (-1) hf
