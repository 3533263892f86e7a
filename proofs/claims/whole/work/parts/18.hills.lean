/-! LampHills.darkest()I -/
theorem flX2_darkest_12 : Cond.fieldLink RX2 12 "LampHills" "town" "LLampHills$Town;" ∈ wsX2_darkest := by decide +kernel
theorem flX2_darkest_158 : Cond.fieldLink RX2 158 "LampHills$Night" "minute" "I" ∈ wsX2_darkest := by decide +kernel
theorem flX2_darkest_19 : Cond.fieldLink RX2 19 "LampHills" "night" "LLampHills$Night;" ∈ wsX2_darkest := by decide +kernel
theorem flX2_darkest_23 : Cond.fieldLink RX2 23 "LampHills" "forecast" "LLampHills$Night;" ∈ wsX2_darkest := by decide +kernel
theorem iuX2_darkest_X0 : ∀ w ∈ u_ws RX0 TX0 16, w ∈ wsX2_darkest := fun _ h => List.mem_cons_of_mem _ (List.mem_append_left _ (List.mem_append_right _ h))
theorem iuX2_darkest_X2 : ∀ w ∈ u_ws RX2 TX2 4, w ∈ wsX2_darkest := fun _ h => List.mem_cons_of_mem _ (List.mem_append_left _ (List.mem_append_left _ (List.mem_append_right _ h)))
theorem yi_X2_addDarkMinute : xY yX2_addDarkMinute wsX2_addDarkMinute cX2_addDarkMinute 2 none 0 := ⟨⟨_, rfl⟩, by decide +kernel, by decide +kernel, by decide +kernel⟩
theorem yi_X2_clearDarkMinutes : xY yX2_clearDarkMinutes wsX2_clearDarkMinutes cX2_clearDarkMinutes 2 none 0 := ⟨⟨_, rfl⟩, by decide +kernel, by decide +kernel, by decide +kernel⟩
theorem yi_X2_streetOfMostDarkMinutes : xY yX2_streetOfMostDarkMinutes wsX2_streetOfMostDarkMinutes cX2_streetOfMostDarkMinutes 4 (some .int) 0 := ⟨⟨_, rfl⟩, by decide +kernel, by decide +kernel, by decide +kernel⟩
def f2_darkest_L29 (v5 : Int32) (N : St) (T : St) (K : St → St → Option (Int32 × St × St)) : Nat → Int32 → St → St → Option (Int32 × St × St)
  | 0, _, _, _ => none
  | fu + 1, v6, G7, F8 =>
  if v5 < v6 then
  (
    K G7 F8
  )
  else
  (
    bd2 (f0_goBy F8 T 1) fun v11 F12 =>
    bd (f2_addDarkMinute G7 N F12 T) fun G15 =>
    f2_darkest_L29 v5 N T K fu (v6 + 1) G15 F12
  )
def f2_darkest (G : St) (N : St) (F : St) (T : St) : Option (Int32 × St × St) :=
  bd (f2_clearDarkMinutes G N F T) fun G1 =>
  bd (f0_copy F N) fun F3 =>
  lt_ (600 - (N 0 0)) fun v5 =>
  f2_darkest_L29 v5 N T (fun (G9 : St) (F10 : St) =>
  (
    bd (f2_streetOfMostDarkMinutes G9 N F10 T) fun v17 =>
    some (v17, G9, F10)
  )
  ) xF 1 G1 F3
set_option maxHeartbeats 4000000 in
set_option maxRecDepth 100000 in
theorem w2_darkest_L29 {p : Program} {l : Launch} {e : Env} {s : State} {m : MethodId} {args : Array Value} {below : List Frame} {meth : Method} {c : Code} {D : va_G} {A : Nat → Prop} {y : Nat → ClassId} {aH : Nat} {aG aN aF aT : Nat → Nat} {N : St} {T : St} {v5 : Int32} {r : Int32} {G' : St} {F' : St} {K : St → St → Option (Int32 × St × St)} (C : xC p s m args meth c D A cX2_darkest RX2 3 wsX2_darkest (xT y) (some .int)) (hK : ∀ (G9 : St) (F10 : St), K G9 F10 = some (r, G', F') → xV p l e { frames := 6, cells := 0, slots := 0, locals := 145 } s m args below meth c D A (xQi D (xT y) A (fun (r' : Int32) (_ : Unit) => r' = r) (fun _ : Unit => hC aH aN aF aT aG ++ (gC y aG G' ++ (nC y aN N ++ (nC y aF F' ++ tC y aT T)))) 0 0 below args s) 3 (hC aH aN aF aT aG ++ (gC y aG G9 ++ (nC y aN N ++ (nC y aF F10 ++ tC y aT T)))) 0 0 [(0, .ref aH)] 57 []) : ∀ (fu : Nat) (v6 : Int32) (G7 : St) (F8 : St), f2_darkest_L29 v5 N T K fu v6 G7 F8 = some (r, G', F') → xV p l e { frames := 6, cells := 0, slots := 0, locals := 145 } s m args below meth c D A (xQi D (xT y) A (fun (r' : Int32) (_ : Unit) => r' = r) (fun _ : Unit => hC aH aN aF aT aG ++ (gC y aG G' ++ (nC y aN N ++ (nC y aF F' ++ tC y aT T)))) 0 0 below args s) 3 (hC aH aN aF aT aG ++ (gC y aG G7 ++ (nC y aN N ++ (nC y aF F8 ++ tC y aT T)))) 0 0 [(0, .ref aH), (1, .int v5), (2, .int v6)] 29 [] := by
  intro fu
  induction fu with
  | zero => intro v6 G7 F8 hf; rw [f2_darkest_L29] at hf; cases hf
  | succ fu ih =>
    intro v6 G7 F8 hf
    rw [f2_darkest_L29] at hf
    refine x_iload_n (q := 30) C 2 dX2_darkest_29 rfl rfl rfl ?_
    refine x_iload_n (q := 31) C 1 dX2_darkest_30 rfl rfl rfl ?_
    refine x_icmp_gt (t := 57) (q := 34) C dX2_darkest_31 (by decide) rfl (fun hc => ?_) (fun hc => ?_)
    · have hf := (if_pos hc).symm.trans hf
      refine x_sub [0] (L' := [(0, .ref aH)]) rfl ?_
      exact hK G7 F8 hf
    · have hf := (if_neg hc).symm.trans hf
      refine x_aload_n (q := 35) C 0 dX2_darkest_34 rfl rfl rfl ?_
      refine x_get (q := 38) C 2 dX2_darkest_35 ((oX2 aH aN aF aT aG).L) rfl iuX2_darkest_X2 flX2_darkest_23 rfl (by decide) rfl rfl ?_
      refine x_aload_n (q := 39) C 0 dX2_darkest_38 rfl rfl rfl ?_
      refine x_get (q := 42) C 0 dX2_darkest_39 ((oX2 aH aN aF aT aG).L) rfl iuX2_darkest_X2 flX2_darkest_12 rfl (by decide) rfl rfl ?_
      refine x_iconst (q := 43) C dX2_darkest_42 ki_1 rfl ?_
      obtain ⟨v11, F12, hcal13, hf⟩ := bd2_some hf
      refine x_callVi (q := 46) C (c0_goBy (l := l) (D := D) (y := y) (aN := aF) (aT := aT) hcal13) yi_X0_goBy gX2_darkest_X0_goBy rfl ((oX0 y aF F8).L) rfl ⟨(Nat.le_of_ble_eq_true rfl), (Nat.le_of_ble_eq_true rfl)⟩ dX2_darkest_43 (pm5_34 _ _ _ _ _) rfl rfl (Nat.le_of_ble_eq_true rfl) ⟨Nat.le_of_ble_eq_true rfl, Nat.le_of_ble_eq_true rfl⟩ rfl ?_
      intro rr14 uu hrr
      have hrr : v11 = rr14 := Eq.symm hrr
      subst hrr
      refine x_perm (ws' := hC aH aN aF aT aG ++ (gC y aG G7 ++ (nC y aN N ++ (nC y aF F12 ++ tC y aT T)))) (pm5_34 _ _ _ _ _).symm ?_
      refine x_pop (q := 47) C dX2_darkest_46 rfl rfl ?_
      refine x_aload_n (q := 48) C 0 dX2_darkest_47 rfl rfl rfl ?_
      obtain ⟨G15, hcal16, hf⟩ := bd_some hf
      refine x_callVv (q := 51) C (c2_addDarkMinute (l := l) (D := D) (y := y) (aH := aH) (aG := aG) (aN := aN) (aF := aF) (aT := aT) hcal16) yi_X2_addDarkMinute gX2_darkest_X2_addDarkMinute rfl ((oX2 aH aN aF aT aG).L) rfl ⟨(Nat.le_of_ble_eq_true rfl), (Nat.le_of_ble_eq_true rfl)⟩ dX2_darkest_48 pm_nil rfl rfl (Nat.le_of_ble_eq_true rfl) ⟨Nat.le_of_ble_eq_true rfl, Nat.le_of_ble_eq_true rfl⟩ rfl ?_
      intro uu hrr
      refine x_world (ws' := hC aH aN aF aT aG ++ (gC y aG G15 ++ (nC y aN N ++ (nC y aF F12 ++ tC y aT T)))) (List.append_nil _) ?_
      refine x_iinc (q := 54) C 2 (v6 + 1) [1, 2, 0] [(0, .ref aH), (1, .int v5), (2, .int (v6 + 1))] dX2_darkest_51 rfl (congrArg (fun z => v6 + z) ki_1) (by decide) rfl rfl ?_
      refine x_goto (t := 29) C dX2_darkest_54 (by decide) ?_
      exact ih (v6 + 1) G15 F12 hf
set_option maxHeartbeats 4000000 in
set_option maxRecDepth 100000 in
theorem c2_darkest {l : Launch} {D : va_G} {y : Nat → ClassId} {aH : Nat} {aG aN aF aT : Nat → Nat} {G : St} {N : St} {F : St} {T : St} {r : Int32} {G' : St} {F' : St} (hf : f2_darkest G N F T = some (r, G', F')) : xMi l yX2_darkest wsX2_darkest 6 145 0 0 D (xT y) [.ref aH] (hC aH aN aF aT aG ++ (gC y aG G ++ (nC y aN N ++ (nC y aF F ++ tC y aT T)))) (fun (r' : Int32) (_ : Unit) => r' = r) (fun _ : Unit => hC aH aN aF aT aG ++ (gC y aG G' ++ (nC y aN N ++ (nC y aF F' ++ tC y aT T)))) := by
  refine xMi_of (cc := cX2_darkest) (nL := 3) (ret := (some .int)) [(0, .ref aH)] (by decide) rfl (Nat.le_of_ble_eq_true rfl) rfl ?_
  intro p e s m args below meth c A C hin
  have C : xC p s m args meth c D A cX2_darkest RX2 3 wsX2_darkest (xT y) (some .int) := C
  unfold f2_darkest at hf
  refine x_aload_n (q := 1) C 0 dX2_darkest_0 rfl rfl rfl ?_
  obtain ⟨G1, hcal2, hf⟩ := bd_some hf
  refine x_callVv (q := 4) C (c2_clearDarkMinutes (l := l) (D := D) (y := y) (aH := aH) (aG := aG) (aN := aN) (aF := aF) (aT := aT) hcal2) yi_X2_clearDarkMinutes gX2_darkest_X2_clearDarkMinutes rfl ((oX2 aH aN aF aT aG).L) rfl ⟨(Nat.le_of_ble_eq_true rfl), (Nat.le_of_ble_eq_true rfl)⟩ dX2_darkest_1 pm_nil rfl rfl (Nat.le_of_ble_eq_true rfl) ⟨Nat.le_of_ble_eq_true rfl, Nat.le_of_ble_eq_true rfl⟩ rfl ?_
  intro uu hrr
  refine x_world (ws' := hC aH aN aF aT aG ++ (gC y aG G1 ++ (nC y aN N ++ (nC y aF F ++ tC y aT T)))) (List.append_nil _) ?_
  refine x_aload_n (q := 5) C 0 dX2_darkest_4 rfl rfl rfl ?_
  refine x_get (q := 8) C 2 dX2_darkest_5 ((oX2 aH aN aF aT aG).L) rfl iuX2_darkest_X2 flX2_darkest_23 rfl (by decide) rfl rfl ?_
  refine x_aload_n (q := 9) C 0 dX2_darkest_8 rfl rfl rfl ?_
  refine x_get (q := 12) C 1 dX2_darkest_9 ((oX2 aH aN aF aT aG).L) rfl iuX2_darkest_X2 flX2_darkest_19 rfl (by decide) rfl rfl ?_
  obtain ⟨F3, hcal4, hf⟩ := bd_some hf
  refine x_callVv (q := 15) C (c0_copy (l := l) (D := D) (y := y) (aN := aF) (aF := aN) hcal4) yi_X0_copy gX2_darkest_X0_copy rfl ((oX0 y aF F).L) rfl ⟨(Nat.le_of_ble_eq_true rfl), (Nat.le_of_ble_eq_true rfl)⟩ dX2_darkest_12 (pm5_32 _ _ _ _ _) rfl rfl (Nat.le_of_ble_eq_true rfl) ⟨Nat.le_of_ble_eq_true rfl, Nat.le_of_ble_eq_true rfl⟩ rfl ?_
  intro uu hrr
  refine x_perm (ws' := hC aH aN aF aT aG ++ (gC y aG G1 ++ (nC y aN N ++ (nC y aF F3 ++ tC y aT T)))) (pm5_32 _ _ _ _ _).symm ?_
  refine x_sipush (q := 18) C dX2_darkest_15 ks_600 rfl ?_
  refine x_aload_n (q := 19) C 0 dX2_darkest_18 rfl rfl rfl ?_
  refine x_get (q := 22) C 1 dX2_darkest_19 ((oX2 aH aN aF aT aG).L) rfl iuX2_darkest_X2 flX2_darkest_19 rfl (by decide) rfl rfl ?_
  refine x_get (q := 25) C 0 dX2_darkest_22 ((((oX0 y aN N).L).R).R) rfl iuX2_darkest_X0 flX2_darkest_158 rfl (by decide) rfl rfl ?_
  refine x_isub (q := 26) C dX2_darkest_25 rfl ?_
  obtain ⟨v5, ev5, hf⟩ := lt_elim hf
  refine x_topi ev5 ?_
  refine x_istore_n (q := 27) C [1, 0] [(0, .ref aH), (1, .int v5)] dX2_darkest_26 rfl (by decide) rfl rfl ?_
  refine x_iconst (q := 28) C dX2_darkest_27 ki_1 rfl ?_
  refine x_istore_n (q := 29) C [1, 2, 0] [(0, .ref aH), (1, .int v5), (2, .int 1)] dX2_darkest_28 rfl (by decide) rfl rfl ?_
  refine w2_darkest_L29 C (fun G9 F10 hf => ?_) xF 1 G1 F3 hf
  refine x_aload_n (q := 58) C 0 dX2_darkest_57 rfl rfl rfl ?_
  obtain ⟨v17, hcal18, hf⟩ := bd_some hf
  refine x_callVi (q := 61) C (c2_streetOfMostDarkMinutes (l := l) (D := D) (y := y) (aH := aH) (aG := aG) (aN := aN) (aF := aF) (aT := aT) hcal18) yi_X2_streetOfMostDarkMinutes gX2_darkest_X2_streetOfMostDarkMinutes rfl ((oX2 aH aN aF aT aG).L) rfl ⟨(Nat.le_of_ble_eq_true rfl), (Nat.le_of_ble_eq_true rfl)⟩ dX2_darkest_58 pm_nil rfl rfl (Nat.le_of_ble_eq_true rfl) ⟨Nat.le_of_ble_eq_true rfl, Nat.le_of_ble_eq_true rfl⟩ rfl ?_
  intro rr19 uu hrr
  have hrr : v17 = rr19 := Eq.symm hrr
  subst hrr
  refine x_world (ws' := hC aH aN aF aT aG ++ (gC y aG G9 ++ (nC y aN N ++ (nC y aF F10 ++ tC y aT T)))) (List.append_nil _) ?_
  have hf := Option.some.inj hf
  obtain ⟨hr0, hx0⟩ := Prod.mk.inj hf
  obtain ⟨hr1, hr2⟩ := Prod.mk.inj hx0
  exact x_iret () C dX2_darkest_61 rfl hr0 (by rw [hr1, hr2]) (Nat.le_of_ble_eq_true rfl) (Nat.le_of_ble_eq_true rfl)

/-! LampHills.needs(I)I -/
theorem flX2_needs_12 : Cond.fieldLink RX2 12 "LampHills" "town" "LLampHills$Town;" ∈ wsX2_needs := by decide +kernel
theorem flX2_needs_63 : Cond.fieldLink RX2 63 "LampHills$Town" "lamps" "I" ∈ wsX2_needs := by decide +kernel
theorem flX2_needs_73 : Cond.fieldLink RX2 73 "LampHills$Town" "wind" "[I" ∈ wsX2_needs := by decide +kernel
theorem iuX2_needs_X1 : ∀ w ∈ u_ws RX1 TX1 17, w ∈ wsX2_needs := fun _ h => List.mem_cons_of_mem _ (List.mem_append_left _ (List.mem_append_right _ h))
theorem iuX2_needs_X2 : ∀ w ∈ u_ws RX2 TX2 4, w ∈ wsX2_needs := fun _ h => List.mem_cons_of_mem _ (List.mem_append_left _ (List.mem_append_left _ (List.mem_append_right _ h)))
theorem kmX2_needs_200 : ∀ w ∈ ([.methodLink RX2 200 Lib.Math.max.name, .static Lib.Math.max.name, .initialized "java/lang/Math", .code Lib.Math.max.name Lib.Math.max.code 2 (some .int)] : List Cond), w ∈ wsX2_needs := by decide +kernel
def f2_needs_L15 (T : St) (K : Int32 → Option (Nat ⊕ (Int32))) : Nat → Int32 → Int32 → Option (Nat ⊕ (Int32))
  | 0, _, _ => none
  | fu + 1, v2, v3 =>
  if 10 ≤ v3 then
  (
    K v2
  )
  else
  (
    gd (xin v3 10) <|
    lt_ (if v2 < (T 11 v3.toNatClampNeg) then (T 11 v3.toNatClampNeg) else v2) fun v6 =>
    f2_needs_L15 T K fu v6 (v3 + 1)
  )
def f2_needs (G : St) (N : St) (F : St) (T : St) (p1 : Int32) : Option (Nat ⊕ (Int32)) :=
  bx0 (f2_requireIndex p1 (T 7 0)) <|
  f2_needs_L15 T (fun (v4 : Int32) =>
  (
    bd (f1_windAtLamp T p1 v4) fun v7 =>
    lt_ (if (0 : Int32) < (v7 - 4) then (v7 - 4) else (0 : Int32)) fun v10 =>
    if 9 < v10 then
    (
      some (.inr (-1))
    )
    else
    (
      some (.inr v10)
    )
  )
  ) xF 0 0
set_option maxHeartbeats 4000000 in
set_option maxRecDepth 100000 in
theorem w2_needs_L15 {p : Program} {l : Launch} {e : Env} {s : State} {m : MethodId} {args : Array Value} {below : List Frame} {meth : Method} {c : Code} {D : va_G} {A : Nat → Prop} {y : Nat → ClassId} {aH : Nat} {aG aN aF aT : Nat → Nat} {G : St} {N : St} {F : St} {T : St} {p1 : Int32} {o : Nat ⊕ (Int32)} {mc : Nat} {ms : Nat} {K : Int32 → Option (Nat ⊕ (Int32))} (C : xC p s m args meth c D A cX2_needs RX2 4 wsX2_needs (xT y) (some .int)) (hst : l.stackTraces = false) (hT : xT2 l s A) (hE : ∀ x ∈ c.exceptionTable.toList, False) (hmc : ∀ i, o = .inl i → 1 ≤ mc ∧ 6 ≤ ms) (hK : ∀ (v4 : Int32), K v4 = some o → xV p l e { frames := 7, cells := mc, slots := ms, locals := 111 } s m args below meth c D A (xQN D (xT y) A (va_Qi (fun (r : Int32) (u : Unit) => o = .inr ((fun (r : Int32) (u : Unit) => r) r u)) (fun u t => xE D (xT y) A ((fun u : Unit => hC aH aN aF aT aG ++ (gC y aG G ++ (nC y aN N ++ (nC y aF F ++ tC y aT T)))) u) t) A) o (hC aH aN aF aT aG ++ (gC y aG G ++ (nC y aN N ++ (nC y aF F ++ tC y aT T)))) mc ms below args s) 4 (hC aH aN aF aT aG ++ (gC y aG G ++ (nC y aN N ++ (nC y aF F ++ tC y aT T)))) 0 0 [(0, .ref aH), (1, .int p1), (2, .int v4)] 41 []) : ∀ (fu : Nat) (v2 : Int32) (v3 : Int32), f2_needs_L15 T K fu v2 v3 = some o → xV p l e { frames := 7, cells := mc, slots := ms, locals := 111 } s m args below meth c D A (xQN D (xT y) A (va_Qi (fun (r : Int32) (u : Unit) => o = .inr ((fun (r : Int32) (u : Unit) => r) r u)) (fun u t => xE D (xT y) A ((fun u : Unit => hC aH aN aF aT aG ++ (gC y aG G ++ (nC y aN N ++ (nC y aF F ++ tC y aT T)))) u) t) A) o (hC aH aN aF aT aG ++ (gC y aG G ++ (nC y aN N ++ (nC y aF F ++ tC y aT T)))) mc ms below args s) 4 (hC aH aN aF aT aG ++ (gC y aG G ++ (nC y aN N ++ (nC y aF F ++ tC y aT T)))) 0 0 [(0, .ref aH), (1, .int p1), (2, .int v2), (3, .int v3)] 15 [] := by
  intro fu
  induction fu with
  | zero => intro v2 v3 hf; rw [f2_needs_L15] at hf; cases hf
  | succ fu ih =>
    intro v2 v3 hf
    rw [f2_needs_L15] at hf
    refine x_iload_n (q := 16) C 3 dX2_needs_15 rfl rfl rfl ?_
    refine x_bipush (q := 18) C dX2_needs_16 kb_10 rfl ?_
    refine x_icmp_ge (t := 41) (q := 21) C dX2_needs_18 (by decide) rfl (fun hc => ?_) (fun hc => ?_)
    · have hf := (if_pos hc).symm.trans hf
      refine x_sub [0, 1, 2] (L' := [(0, .ref aH), (1, .int p1), (2, .int v2)]) rfl ?_
      exact hK v2 hf
    · have hf := (if_neg hc).symm.trans hf
      refine x_iload_n (q := 22) C 2 dX2_needs_21 rfl rfl rfl ?_
      refine x_aload_n (q := 23) C 0 dX2_needs_22 rfl rfl rfl ?_
      refine x_get (q := 26) C 0 dX2_needs_23 ((oX2 aH aN aF aT aG).L) rfl iuX2_needs_X2 flX2_needs_12 rfl (by decide) rfl rfl ?_
      refine x_get (q := 29) C 11 dX2_needs_26 (((((oX1 y aT T).R).R).R).R) rfl iuX2_needs_X1 flX2_needs_73 rfl (by decide) rfl rfl ?_
      refine x_iload_n (q := 30) C 3 dX2_needs_29 rfl rfl rfl ?_
      obtain ⟨hb5, hf⟩ := gd_some hf
      refine x_iald (q := 31) C 0 dX2_needs_30 (((((aX1_11 y aT T).R).R).R).R) rfl hb5 rfl ?_
      refine x_mmax (q := 34) C dX2_needs_31 kmX2_needs_200 (Nat.le_of_ble_eq_true rfl) (Nat.le_of_ble_eq_true rfl) (Nat.zero_le _) (Nat.zero_le _) rfl ?_
      obtain ⟨v6, ev6, hf⟩ := lt_elim hf
      refine x_topi ev6 ?_
      refine x_istore_n (q := 35) C [1, 2, 0, 3] [(0, .ref aH), (1, .int p1), (2, .int v6), (3, .int v3)] dX2_needs_34 rfl (by decide) rfl rfl ?_
      refine x_iinc (q := 38) C 3 (v3 + 1) [1, 2, 3, 0] [(0, .ref aH), (1, .int p1), (2, .int v6), (3, .int (v3 + 1))] dX2_needs_35 rfl (congrArg (fun z => v3 + z) ki_1) (by decide) rfl rfl ?_
      refine x_goto (t := 15) C dX2_needs_38 (by decide) ?_
      exact ih v6 (v3 + 1) hf
set_option maxHeartbeats 4000000 in
set_option maxRecDepth 100000 in
theorem c2_needs {l : Launch} {D : va_G} {y : Nat → ClassId} {aH : Nat} {aG aN aF aT : Nat → Nat} {G : St} {N : St} {F : St} {T : St} {p1 : Int32} {o : Nat ⊕ (Int32)} {mc ms : Nat} (hst : l.stackTraces = false) (hmc : ∀ i, o = .inl i → 1 ≤ mc ∧ 6 ≤ ms) (hf : f2_needs G N F T p1 = some o) : xNi l yX2_needs wsX2_needs 7 111 mc ms D (xT y) [.ref aH, .int p1] (hC aH aN aF aT aG ++ (gC y aG G ++ (nC y aN N ++ (nC y aF F ++ tC y aT T)))) o (fun (r : Int32) (u : Unit) => r) (fun u : Unit => hC aH aN aF aT aG ++ (gC y aG G ++ (nC y aN N ++ (nC y aF F ++ tC y aT T)))) := by
  refine xNi_of (cc := cX2_needs) (nL := 4) (ret := (some .int)) [(0, .ref aH), (1, .int p1)] hst (by decide) rfl (Nat.le_of_ble_eq_true rfl) rfl ?_
  intro p e s m args below meth c A C hT hE
  have C : xC p s m args meth c D A cX2_needs RX2 4 wsX2_needs (xT y) (some .int) := C
  unfold f2_needs at hf
  refine x_iload_n (q := 1) C 1 dX2_needs_0 rfl rfl rfl ?_
  refine x_aload_n (q := 2) C 0 dX2_needs_1 rfl rfl rfl ?_
  refine x_get (q := 5) C 0 dX2_needs_2 ((oX2 aH aN aF aT aG).L) rfl iuX2_needs_X2 flX2_needs_12 rfl (by decide) rfl rfl ?_
  refine x_get (q := 8) C 7 dX2_needs_5 (((((oX1 y aT T).R).R).R).R) rfl iuX2_needs_X1 flX2_needs_63 rfl (by decide) rfl rfl ?_
  rcases bx0_some hf with ⟨i, hcal1, ho⟩ | ⟨hcal1, hf⟩
  · obtain ⟨h1, h2⟩ := hmc i ho
    exact x_callTSv C hT (c2_requireIndex (l := l) (D := D) (y := y)  (mc := 1) (ms := 6) hst (fun _ _ => ⟨Nat.le_refl _, Nat.le_refl _⟩) hcal1) rfl ho rfl hE yi_X2_requireIndex gX2_needs_X2_requireIndex ⟨(Nat.le_of_ble_eq_true rfl), (Nat.le_of_ble_eq_true rfl)⟩ dX2_needs_8 pm_emp rfl rfl (Nat.le_of_ble_eq_true rfl) ⟨h1, h2⟩ h1 h2
  · refine x_callRSv (q := 11) C hT (c2_requireIndex (l := l) (D := D) (y := y)  (mc := 0) (ms := 0) hst (fun _ h => by cases h) hcal1) (fun _ h => by cases h) yi_X2_requireIndex gX2_needs_X2_requireIndex ⟨(Nat.le_of_ble_eq_true rfl), (Nat.le_of_ble_eq_true rfl)⟩ dX2_needs_8 pm_emp rfl rfl (Nat.le_of_ble_eq_true rfl) ⟨Nat.zero_le _, Nat.zero_le _⟩ rfl ?_
    intro uu hrr
    refine x_world (ws' := hC aH aN aF aT aG ++ (gC y aG G ++ (nC y aN N ++ (nC y aF F ++ tC y aT T)))) rfl ?_
    refine x_iconst (q := 12) C dX2_needs_11 ki_0 rfl ?_
    refine x_istore_n (q := 13) C [1, 2, 0] [(0, .ref aH), (1, .int p1), (2, .int 0)] dX2_needs_12 rfl (by decide) rfl rfl ?_
    refine x_iconst (q := 14) C dX2_needs_13 ki_0 rfl ?_
    refine x_istore_n (q := 15) C [1, 2, 3, 0] [(0, .ref aH), (1, .int p1), (2, .int 0), (3, .int 0)] dX2_needs_14 rfl (by decide) rfl rfl ?_
    refine w2_needs_L15 C hst hT hE hmc (fun v4 hf => ?_) xF 0 0 hf
    refine x_iconst (q := 42) C dX2_needs_41 ki_0 rfl ?_
    refine x_aload_n (q := 43) C 0 dX2_needs_42 rfl rfl rfl ?_
    refine x_get (q := 46) C 0 dX2_needs_43 ((oX2 aH aN aF aT aG).L) rfl iuX2_needs_X2 flX2_needs_12 rfl (by decide) rfl rfl ?_
    refine x_iload_n (q := 47) C 1 dX2_needs_46 rfl rfl rfl ?_
    refine x_iload_n (q := 48) C 2 dX2_needs_47 rfl rfl rfl ?_
    obtain ⟨v7, hcal8, hf⟩ := bd_some hf
    refine x_callVi (q := 51) C (c1_windAtLamp (l := l) (D := D) (y := y) (aT := aT) hcal8) yi_X1_windAtLamp gX2_needs_X1_windAtLamp rfl (oX1 y aT T) rfl ⟨(Nat.le_of_ble_eq_true rfl), (Nat.le_of_ble_eq_true rfl)⟩ dX2_needs_48 (pm5_4 _ _ _ _ _) rfl rfl (Nat.le_of_ble_eq_true rfl) ⟨Nat.zero_le _, Nat.zero_le _⟩ rfl ?_
    intro rr9 uu hrr
    have hrr : v7 = rr9 := Eq.symm hrr
    subst hrr
    refine x_perm (ws' := hC aH aN aF aT aG ++ (gC y aG G ++ (nC y aN N ++ (nC y aF F ++ tC y aT T)))) (pm5_4 _ _ _ _ _).symm ?_
    refine x_iconst (q := 52) C dX2_needs_51 ki_4 rfl ?_
    refine x_isub (q := 53) C dX2_needs_52 rfl ?_
    refine x_mmax (q := 56) C dX2_needs_53 kmX2_needs_200 (Nat.le_of_ble_eq_true rfl) (Nat.le_of_ble_eq_true rfl) (Nat.zero_le _) (Nat.zero_le _) rfl ?_
    obtain ⟨v10, ev10, hf⟩ := lt_elim hf
    refine x_topi ev10 ?_
    refine x_istore_n (q := 57) C [0] [(3, .int v10)] dX2_needs_56 rfl (by decide) rfl rfl ?_
    refine x_iload_n (q := 58) C 0 dX2_needs_57 rfl rfl rfl ?_
    refine x_bipush (q := 60) C dX2_needs_58 kb_9 rfl ?_
    refine x_icmp_gt (t := 67) (q := 63) C dX2_needs_60 (by decide) rfl (fun hc => ?_) (fun hc => ?_)
    · have hf := (if_pos hc).symm.trans hf
      refine x_iconst (q := 68) C dX2_needs_67 ki_m1 rfl ?_
      have hf := Option.some.inj hf
      exact xx_iret () C dX2_needs_68 rfl hf.symm rfl (Nat.zero_le _) (Nat.zero_le _)
    · have hf := (if_neg hc).symm.trans hf
      refine x_iload_n (q := 64) C 0 dX2_needs_63 rfl rfl rfl ?_
      refine x_goto (t := 68) C dX2_needs_64 (by decide) ?_
      have hf := Option.some.inj hf
      exact xx_iret () C dX2_needs_68 rfl hf.symm rfl (Nat.zero_le _) (Nat.zero_le _)

/-! LampHills.foresee(II)I -/
theorem flX2_foresee_12 : Cond.fieldLink RX2 12 "LampHills" "town" "LLampHills$Town;" ∈ wsX2_foresee := by decide +kernel
theorem flX2_foresee_174 : Cond.fieldLink RX2 174 "LampHills$Night" "oilUsed" "I" ∈ wsX2_foresee := by decide +kernel
theorem flX2_foresee_19 : Cond.fieldLink RX2 19 "LampHills" "night" "LLampHills$Night;" ∈ wsX2_foresee := by decide +kernel
theorem flX2_foresee_23 : Cond.fieldLink RX2 23 "LampHills" "forecast" "LLampHills$Night;" ∈ wsX2_foresee := by decide +kernel
theorem iuX2_foresee_X0 : ∀ w ∈ u_ws RX0 TX0 16, w ∈ wsX2_foresee := fun _ h => List.mem_cons_of_mem _ (List.mem_append_left _ (List.mem_append_left _ (List.mem_append_left _ (List.mem_append_right _ h))))
theorem iuX2_foresee_X2 : ∀ w ∈ u_ws RX2 TX2 4, w ∈ wsX2_foresee := fun _ h => List.mem_cons_of_mem _ (List.mem_append_left _ (List.mem_append_left _ (List.mem_append_left _ (List.mem_append_left _ (List.mem_append_right _ h)))))
def f2_foresee (G : St) (N : St) (F : St) (T : St) (p1 : Int32) (p2 : Int32) : Option (Nat ⊕ (Int32 × St)) :=
  bx0 (f2_requireRange p1 1 600) <|
  bx0 (f2_requireIndex p2 3) <|
  bd (f0_copy F N) fun F3 =>
  bd2 (f0_goBy F3 T p1) fun v5 F6 =>
  if p2 = 0 then
  (
    bd (f0_burningLamps F6 T) fun v9 =>
    some (.inr (v9, F6))
  )
  else
  if p2 = 1 then
  (
    bd (f0_darkStreets F6 T) fun v12 =>
    some (.inr (v12, F6))
  )
  else
  (
    some (.inr (((F6 2 0) - (N 2 0)), F6))
  )
set_option maxHeartbeats 4000000 in
set_option maxRecDepth 100000 in
theorem c2_foresee {l : Launch} {D : va_G} {y : Nat → ClassId} {aH : Nat} {aG aN aF aT : Nat → Nat} {G : St} {N : St} {F : St} {T : St} {p1 : Int32} {p2 : Int32} {o : Nat ⊕ (Int32 × St)} {mc ms : Nat} (hst : l.stackTraces = false) (hmc : ∀ i, o = .inl i → 1 ≤ mc ∧ 6 ≤ ms) (hf : f2_foresee G N F T p1 p2 = some o) : xNi l yX2_foresee wsX2_foresee 7 145 mc ms D (xT y) [.ref aH, .int p1, .int p2] (hC aH aN aF aT aG ++ (gC y aG G ++ (nC y aN N ++ (nC y aF F ++ tC y aT T)))) o (fun (r : Int32) (u : St) => (r, u)) (fun u : St => hC aH aN aF aT aG ++ (gC y aG G ++ (nC y aN N ++ (nC y aF u ++ tC y aT T)))) := by
  refine xNi_of (cc := cX2_foresee) (nL := 3) (ret := (some .int)) [(0, .ref aH), (1, .int p1), (2, .int p2)] hst (by decide) rfl (Nat.le_of_ble_eq_true rfl) rfl ?_
  intro p e s m args below meth c A C hT hE
  have C : xC p s m args meth c D A cX2_foresee RX2 3 wsX2_foresee (xT y) (some .int) := C
  unfold f2_foresee at hf
  refine x_iload_n (q := 1) C 1 dX2_foresee_0 rfl rfl rfl ?_
  refine x_iconst (q := 2) C dX2_foresee_1 ki_1 rfl ?_
  refine x_sipush (q := 5) C dX2_foresee_2 ks_600 rfl ?_
  rcases bx0_some hf with ⟨i, hcal1, ho⟩ | ⟨hcal1, hf⟩
  · obtain ⟨h1, h2⟩ := hmc i ho
    exact x_callTSv C hT (c2_requireRange (l := l) (D := D) (y := y)  (mc := 1) (ms := 6) hst (fun _ _ => ⟨Nat.le_refl _, Nat.le_refl _⟩) hcal1) rfl ho rfl hE yi_X2_requireRange gX2_foresee_X2_requireRange ⟨(Nat.le_of_ble_eq_true rfl), (Nat.le_of_ble_eq_true rfl)⟩ dX2_foresee_5 pm_emp rfl rfl (Nat.le_of_ble_eq_true rfl) ⟨h1, h2⟩ h1 h2
  · refine x_callRSv (q := 8) C hT (c2_requireRange (l := l) (D := D) (y := y)  (mc := 0) (ms := 0) hst (fun _ h => by cases h) hcal1) (fun _ h => by cases h) yi_X2_requireRange gX2_foresee_X2_requireRange ⟨(Nat.le_of_ble_eq_true rfl), (Nat.le_of_ble_eq_true rfl)⟩ dX2_foresee_5 pm_emp rfl rfl (Nat.le_of_ble_eq_true rfl) ⟨Nat.zero_le _, Nat.zero_le _⟩ rfl ?_
    intro uu hrr
    refine x_world (ws' := hC aH aN aF aT aG ++ (gC y aG G ++ (nC y aN N ++ (nC y aF F ++ tC y aT T)))) rfl ?_
    refine x_iload_n (q := 9) C 2 dX2_foresee_8 rfl rfl rfl ?_
    refine x_iconst (q := 10) C dX2_foresee_9 ki_3 rfl ?_
    rcases bx0_some hf with ⟨i, hcal2, ho⟩ | ⟨hcal2, hf⟩
    · obtain ⟨h1, h2⟩ := hmc i ho
      exact x_callTSv C hT (c2_requireIndex (l := l) (D := D) (y := y)  (mc := 1) (ms := 6) hst (fun _ _ => ⟨Nat.le_refl _, Nat.le_refl _⟩) hcal2) rfl ho rfl hE yi_X2_requireIndex gX2_foresee_X2_requireIndex ⟨(Nat.le_of_ble_eq_true rfl), (Nat.le_of_ble_eq_true rfl)⟩ dX2_foresee_10 pm_emp rfl rfl (Nat.le_of_ble_eq_true rfl) ⟨h1, h2⟩ h1 h2
    · refine x_callRSv (q := 13) C hT (c2_requireIndex (l := l) (D := D) (y := y)  (mc := 0) (ms := 0) hst (fun _ h => by cases h) hcal2) (fun _ h => by cases h) yi_X2_requireIndex gX2_foresee_X2_requireIndex ⟨(Nat.le_of_ble_eq_true rfl), (Nat.le_of_ble_eq_true rfl)⟩ dX2_foresee_10 pm_emp rfl rfl (Nat.le_of_ble_eq_true rfl) ⟨Nat.zero_le _, Nat.zero_le _⟩ rfl ?_
      intro uu hrr
      refine x_world (ws' := hC aH aN aF aT aG ++ (gC y aG G ++ (nC y aN N ++ (nC y aF F ++ tC y aT T)))) rfl ?_
      refine x_aload_n (q := 14) C 0 dX2_foresee_13 rfl rfl rfl ?_
      refine x_get (q := 17) C 2 dX2_foresee_14 ((oX2 aH aN aF aT aG).L) rfl iuX2_foresee_X2 flX2_foresee_23 rfl (by decide) rfl rfl ?_
      refine x_aload_n (q := 18) C 0 dX2_foresee_17 rfl rfl rfl ?_
      refine x_get (q := 21) C 1 dX2_foresee_18 ((oX2 aH aN aF aT aG).L) rfl iuX2_foresee_X2 flX2_foresee_19 rfl (by decide) rfl rfl ?_
      obtain ⟨F3, hcal4, hf⟩ := bd_some hf
      refine x_callVv (q := 24) C (c0_copy (l := l) (D := D) (y := y) (aN := aF) (aF := aN) hcal4) yi_X0_copy gX2_foresee_X0_copy rfl ((oX0 y aF F).L) rfl ⟨(Nat.le_of_ble_eq_true rfl), (Nat.le_of_ble_eq_true rfl)⟩ dX2_foresee_21 (pm5_32 _ _ _ _ _) rfl rfl (Nat.le_of_ble_eq_true rfl) ⟨Nat.zero_le _, Nat.zero_le _⟩ rfl ?_
      intro uu hrr
      refine x_perm (ws' := hC aH aN aF aT aG ++ (gC y aG G ++ (nC y aN N ++ (nC y aF F3 ++ tC y aT T)))) (pm5_32 _ _ _ _ _).symm ?_
      refine x_aload_n (q := 25) C 0 dX2_foresee_24 rfl rfl rfl ?_
      refine x_get (q := 28) C 2 dX2_foresee_25 ((oX2 aH aN aF aT aG).L) rfl iuX2_foresee_X2 flX2_foresee_23 rfl (by decide) rfl rfl ?_
      refine x_aload_n (q := 29) C 0 dX2_foresee_28 rfl rfl rfl ?_
      refine x_get (q := 32) C 0 dX2_foresee_29 ((oX2 aH aN aF aT aG).L) rfl iuX2_foresee_X2 flX2_foresee_12 rfl (by decide) rfl rfl ?_
      refine x_iload_n (q := 33) C 1 dX2_foresee_32 rfl rfl rfl ?_
      obtain ⟨v5, F6, hcal7, hf⟩ := bd2_some hf
      refine x_callVi (q := 36) C (c0_goBy (l := l) (D := D) (y := y) (aN := aF) (aT := aT) hcal7) yi_X0_goBy gX2_foresee_X0_goBy rfl ((oX0 y aF F3).L) rfl ⟨(Nat.le_of_ble_eq_true rfl), (Nat.le_of_ble_eq_true rfl)⟩ dX2_foresee_33 (pm5_34 _ _ _ _ _) rfl rfl (Nat.le_of_ble_eq_true rfl) ⟨Nat.zero_le _, Nat.zero_le _⟩ rfl ?_
      intro rr8 uu hrr
      have hrr : v5 = rr8 := Eq.symm hrr
      subst hrr
      refine x_perm (ws' := hC aH aN aF aT aG ++ (gC y aG G ++ (nC y aN N ++ (nC y aF F6 ++ tC y aT T)))) (pm5_34 _ _ _ _ _).symm ?_
      refine x_pop (q := 37) C dX2_foresee_36 rfl rfl ?_
      refine x_iload_n (q := 38) C 2 dX2_foresee_37 rfl rfl rfl ?_
      by_cases hw0 : p2 = 0
      · have hf := (if_pos hw0).symm.trans hf
        refine x_lookup (t := 64) C dX2_foresee_38 (by decide) (by rw [hw0]) (by decide) ?_
        refine x_aload_n (q := 65) C 0 dX2_foresee_64 rfl rfl rfl ?_
        refine x_get (q := 68) C 2 dX2_foresee_65 ((oX2 aH aN aF aT aG).L) rfl iuX2_foresee_X2 flX2_foresee_23 rfl (by decide) rfl rfl ?_
        refine x_aload_n (q := 69) C 0 dX2_foresee_68 rfl rfl rfl ?_
        refine x_get (q := 72) C 0 dX2_foresee_69 ((oX2 aH aN aF aT aG).L) rfl iuX2_foresee_X2 flX2_foresee_12 rfl (by decide) rfl rfl ?_
        obtain ⟨v9, hcal10, hf⟩ := bd_some hf
        refine x_callVi (q := 75) C (c0_burningLamps (l := l) (D := D) (y := y) (aN := aF) (aT := aT) hcal10) yi_X0_burningLamps gX2_foresee_X0_burningLamps rfl ((oX0 y aF F6).L) rfl ⟨(Nat.le_of_ble_eq_true rfl), (Nat.le_of_ble_eq_true rfl)⟩ dX2_foresee_72 (pm5_34 _ _ _ _ _) rfl rfl (Nat.le_of_ble_eq_true rfl) ⟨Nat.zero_le _, Nat.zero_le _⟩ rfl ?_
        intro rr11 uu hrr
        have hrr : v9 = rr11 := Eq.symm hrr
        subst hrr
        refine x_perm (ws' := hC aH aN aF aT aG ++ (gC y aG G ++ (nC y aN N ++ (nC y aF F6 ++ tC y aT T)))) (pm5_34 _ _ _ _ _).symm ?_
        have hf := Option.some.inj hf
        exact xx_iret F6 C dX2_foresee_75 rfl hf.symm rfl (Nat.zero_le _) (Nat.zero_le _)
      have hf := (if_neg hw0).symm.trans hf
      by_cases hw1 : p2 = 1
      · have hf := (if_pos hw1).symm.trans hf
        refine x_lookup (t := 76) C dX2_foresee_38 (by decide) (by rw [hw1]) (by decide) ?_
        refine x_aload_n (q := 77) C 0 dX2_foresee_76 rfl rfl rfl ?_
        refine x_get (q := 80) C 2 dX2_foresee_77 ((oX2 aH aN aF aT aG).L) rfl iuX2_foresee_X2 flX2_foresee_23 rfl (by decide) rfl rfl ?_
        refine x_aload_n (q := 81) C 0 dX2_foresee_80 rfl rfl rfl ?_
        refine x_get (q := 84) C 0 dX2_foresee_81 ((oX2 aH aN aF aT aG).L) rfl iuX2_foresee_X2 flX2_foresee_12 rfl (by decide) rfl rfl ?_
        obtain ⟨v12, hcal13, hf⟩ := bd_some hf
        refine x_callVi (q := 87) C (c0_darkStreets (l := l) (D := D) (y := y) (aN := aF) (aT := aT) hcal13) yi_X0_darkStreets gX2_foresee_X0_darkStreets rfl ((oX0 y aF F6).L) rfl ⟨(Nat.le_of_ble_eq_true rfl), (Nat.le_of_ble_eq_true rfl)⟩ dX2_foresee_84 (pm5_34 _ _ _ _ _) rfl rfl (Nat.le_of_ble_eq_true rfl) ⟨Nat.zero_le _, Nat.zero_le _⟩ rfl ?_
        intro rr14 uu hrr
        have hrr : v12 = rr14 := Eq.symm hrr
        subst hrr
        refine x_perm (ws' := hC aH aN aF aT aG ++ (gC y aG G ++ (nC y aN N ++ (nC y aF F6 ++ tC y aT T)))) (pm5_34 _ _ _ _ _).symm ?_
        have hf := Option.some.inj hf
        exact xx_iret F6 C dX2_foresee_87 rfl hf.symm rfl (Nat.zero_le _) (Nat.zero_le _)
      have hf := (if_neg hw1).symm.trans hf
      refine x_lookup (t := 88) C dX2_foresee_38 (by decide) (xlk2 hw0 hw1) (by decide) ?_
      refine x_aload_n (q := 89) C 0 dX2_foresee_88 rfl rfl rfl ?_
      refine x_get (q := 92) C 2 dX2_foresee_89 ((oX2 aH aN aF aT aG).L) rfl iuX2_foresee_X2 flX2_foresee_23 rfl (by decide) rfl rfl ?_
      refine x_get (q := 95) C 2 dX2_foresee_92 (((((oX0 y aF F6).L).R).R).R) rfl iuX2_foresee_X0 flX2_foresee_174 rfl (by decide) rfl rfl ?_
      refine x_aload_n (q := 96) C 0 dX2_foresee_95 rfl rfl rfl ?_
      refine x_get (q := 99) C 1 dX2_foresee_96 ((oX2 aH aN aF aT aG).L) rfl iuX2_foresee_X2 flX2_foresee_19 rfl (by decide) rfl rfl ?_
      refine x_get (q := 102) C 2 dX2_foresee_99 ((((oX0 y aN N).L).R).R) rfl iuX2_foresee_X0 flX2_foresee_174 rfl (by decide) rfl rfl ?_
      refine x_isub (q := 103) C dX2_foresee_102 rfl ?_
      have hf := Option.some.inj hf
      exact xx_iret F6 C dX2_foresee_103 rfl hf.symm rfl (Nat.zero_le _) (Nat.zero_le _)

/-! LampHills.digestStreets(J)J -/
theorem kX2_digestStreets_208 : Cond.constantLong RX2 208 (31) ∈ wsX2_digestStreets := by decide +kernel
theorem flX2_digestStreets_12 : Cond.fieldLink RX2 12 "LampHills" "town" "LLampHills$Town;" ∈ wsX2_digestStreets := by decide +kernel
theorem flX2_digestStreets_236 : Cond.fieldLink RX2 236 "LampHills$Town" "height" "[I" ∈ wsX2_digestStreets := by decide +kernel
theorem flX2_digestStreets_239 : Cond.fieldLink RX2 239 "LampHills$Town" "firstEnd" "[I" ∈ wsX2_digestStreets := by decide +kernel
theorem flX2_digestStreets_242 : Cond.fieldLink RX2 242 "LampHills$Town" "secondEnd" "[I" ∈ wsX2_digestStreets := by decide +kernel
theorem flX2_digestStreets_245 : Cond.fieldLink RX2 245 "LampHills$Town" "length" "[I" ∈ wsX2_digestStreets := by decide +kernel
theorem flX2_digestStreets_34 : Cond.fieldLink RX2 34 "LampHills$Town" "corners" "I" ∈ wsX2_digestStreets := by decide +kernel
theorem flX2_digestStreets_56 : Cond.fieldLink RX2 56 "LampHills$Town" "streets" "I" ∈ wsX2_digestStreets := by decide +kernel
theorem iuX2_digestStreets_X1 : ∀ w ∈ u_ws RX1 TX1 17, w ∈ wsX2_digestStreets := fun _ h => List.mem_cons_of_mem _ (List.mem_append_left _ (List.mem_append_left _ (List.mem_append_right _ h)))
theorem iuX2_digestStreets_X2 : ∀ w ∈ u_ws RX2 TX2 4, w ∈ wsX2_digestStreets := fun _ h => List.mem_cons_of_mem _ (List.mem_append_left _ (List.mem_append_left _ (List.mem_append_left _ (List.mem_append_right _ h))))
theorem yi_X2_burning : xY yX2_burning wsX2_burning cX2_burning 2 (some .int) 1 := ⟨⟨_, rfl⟩, by decide +kernel, by decide +kernel, by decide +kernel⟩
def f2_digestStreets_L5 (T : St) (K : Int64 → Option (Nat ⊕ (Int64))) : Nat → Int64 → Int32 → Option (Nat ⊕ (Int64))
  | 0, _, _ => none
  | fu + 1, v1, v2 =>
  if (T 0 0) ≤ v2 then
  (
    K v1
  )
  else
  (
    gd (xin v2 12) <|
    lt_ ((v1 * 31) + ((T 1 v2.toNatClampNeg).toInt64)) fun v5 =>
    f2_digestStreets_L5 T K fu v5 (v2 + 1)
  )
def f2_digestStreets_L44 (G : St) (N : St) (F : St) (T : St) : Nat → Int64 → Int32 → Option (Nat ⊕ (Int64))
  | 0, _, _ => none
  | fu + 1, v6, v7 =>
  if (T 3 0) ≤ v7 then
  (
    some (.inr v6)
  )
  else
  (
    gd (xin v7 18) <|
    lt_ ((v6 * 31) + ((T 4 v7.toNatClampNeg).toInt64)) fun v9 =>
    lt_ ((v9 * 31) + ((T 5 v7.toNatClampNeg).toInt64)) fun v10 =>
    lt_ ((v10 * 31) + ((T 6 v7.toNatClampNeg).toInt64)) fun v11 =>
    bx1 (f2_burning G N F T v7) fun v12 =>
    lt_ ((v11 * 31) + (v12.toInt64)) fun v15 =>
    f2_digestStreets_L44 G N F T fu v15 (v7 + 1)
  )
def f2_digestStreets (G : St) (N : St) (F : St) (T : St) (p1 : Int64) : Option (Nat ⊕ (Int64)) :=
  f2_digestStreets_L5 T (fun (v3 : Int64) =>
  (
    f2_digestStreets_L44 G N F T xF v3 0
  )
  ) xF p1 0
set_option maxHeartbeats 4000000 in
set_option maxRecDepth 100000 in
theorem w2_digestStreets_L5 {p : Program} {l : Launch} {e : Env} {s : State} {m : MethodId} {args : Array Value} {below : List Frame} {meth : Method} {c : Code} {D : va_G} {A : Nat → Prop} {y : Nat → ClassId} {aH : Nat} {aG aN aF aT : Nat → Nat} {G : St} {N : St} {F : St} {T : St} {o : Nat ⊕ (Int64)} {mc : Nat} {ms : Nat} {K : Int64 → Option (Nat ⊕ (Int64))} (C : xC p s m args meth c D A cX2_digestStreets RX2 6 wsX2_digestStreets (xT y) (some .long)) (hst : l.stackTraces = false) (hT : xT2 l s A) (hE : ∀ x ∈ c.exceptionTable.toList, False) (hmc : ∀ i, o = .inl i → 1 ≤ mc ∧ 6 ≤ ms) (hK : ∀ (v3 : Int64), K v3 = some o → xV p l e { frames := 8, cells := mc, slots := ms, locals := 132 } s m args below meth c D A (xQN D (xT y) A (va_Ql (fun (r : Int64) (u : Unit) => o = .inr ((fun (r : Int64) (u : Unit) => r) r u)) (fun u t => xE D (xT y) A ((fun u : Unit => hC aH aN aF aT aG ++ (gC y aG G ++ (nC y aN N ++ (nC y aF F ++ tC y aT T)))) u) t) A) o (hC aH aN aF aT aG ++ (gC y aG G ++ (nC y aN N ++ (nC y aF F ++ tC y aT T)))) mc ms below args s) 6 (hC aH aN aF aT aG ++ (gC y aG G ++ (nC y aN N ++ (nC y aF F ++ tC y aT T)))) 0 0 [(0, .ref aH), (3, .long v3)] 41 []) : ∀ (fu : Nat) (v1 : Int64) (v2 : Int32), f2_digestStreets_L5 T K fu v1 v2 = some o → xV p l e { frames := 8, cells := mc, slots := ms, locals := 132 } s m args below meth c D A (xQN D (xT y) A (va_Ql (fun (r : Int64) (u : Unit) => o = .inr ((fun (r : Int64) (u : Unit) => r) r u)) (fun u t => xE D (xT y) A ((fun u : Unit => hC aH aN aF aT aG ++ (gC y aG G ++ (nC y aN N ++ (nC y aF F ++ tC y aT T)))) u) t) A) o (hC aH aN aF aT aG ++ (gC y aG G ++ (nC y aN N ++ (nC y aF F ++ tC y aT T)))) mc ms below args s) 6 (hC aH aN aF aT aG ++ (gC y aG G ++ (nC y aN N ++ (nC y aF F ++ tC y aT T)))) 0 0 [(0, .ref aH), (3, .long v1), (5, .int v2)] 5 [] := by
  intro fu
  induction fu with
  | zero => intro v1 v2 hf; rw [f2_digestStreets_L5] at hf; cases hf
  | succ fu ih =>
    intro v1 v2 hf
    rw [f2_digestStreets_L5] at hf
    refine x_iload (q := 7) C 2 dX2_digestStreets_5 rfl rfl ?_
    refine x_aload_n (q := 8) C 0 dX2_digestStreets_7 rfl rfl rfl ?_
    refine x_get (q := 11) C 0 dX2_digestStreets_8 ((oX2 aH aN aF aT aG).L) rfl iuX2_digestStreets_X2 flX2_digestStreets_12 rfl (by decide) rfl rfl ?_
    refine x_get (q := 14) C 0 dX2_digestStreets_11 (((((oX1 y aT T).R).R).R).R) rfl iuX2_digestStreets_X1 flX2_digestStreets_34 rfl (by decide) rfl rfl ?_
    refine x_icmp_ge (t := 41) (q := 17) C dX2_digestStreets_14 (by decide) rfl (fun hc => ?_) (fun hc => ?_)
    · have hf := (if_pos hc).symm.trans hf
      refine x_sub [0, 1] (L' := [(0, .ref aH), (3, .long v1)]) rfl ?_
      exact hK v1 hf
    · have hf := (if_neg hc).symm.trans hf
      refine x_lload_n (q := 18) C 1 dX2_digestStreets_17 rfl rfl rfl ?_
      refine x_ldc2 (q := 21) C dX2_digestStreets_18 kX2_digestStreets_208 rfl ?_
      refine x_lmul (q := 22) C dX2_digestStreets_21 rfl ?_
      refine x_aload_n (q := 23) C 0 dX2_digestStreets_22 rfl rfl rfl ?_
      refine x_get (q := 26) C 0 dX2_digestStreets_23 ((oX2 aH aN aF aT aG).L) rfl iuX2_digestStreets_X2 flX2_digestStreets_12 rfl (by decide) rfl rfl ?_
      refine x_get (q := 29) C 1 dX2_digestStreets_26 (((((oX1 y aT T).R).R).R).R) rfl iuX2_digestStreets_X1 flX2_digestStreets_236 rfl (by decide) rfl rfl ?_
      refine x_iload (q := 31) C 2 dX2_digestStreets_29 rfl rfl ?_
      obtain ⟨hb4, hf⟩ := gd_some hf
      refine x_iald (q := 32) C 0 dX2_digestStreets_31 (((((aX1_1 y aT T).R).R).R).R) rfl hb4 rfl ?_
      refine x_i2l (q := 33) C dX2_digestStreets_32 rfl ?_
      refine x_ladd (q := 34) C dX2_digestStreets_33 rfl ?_
      obtain ⟨v5, ev5, hf⟩ := lt_elim hf
      refine x_topl ev5 ?_
      refine x_lstore_n (q := 35) C [1, 0, 2] [(0, .ref aH), (3, .long v5), (5, .int v2)] dX2_digestStreets_34 rfl (by decide) rfl rfl ?_
      refine x_iinc (q := 38) C 2 (v2 + 1) [1, 2, 0] [(0, .ref aH), (3, .long v5), (5, .int (v2 + 1))] dX2_digestStreets_35 rfl (congrArg (fun z => v2 + z) ki_1) (by decide) rfl rfl ?_
      refine x_goto (t := 5) C dX2_digestStreets_38 (by decide) ?_
      exact ih v5 (v2 + 1) hf
set_option maxHeartbeats 4000000 in
set_option maxRecDepth 100000 in
theorem w2_digestStreets_L44 {p : Program} {l : Launch} {e : Env} {s : State} {m : MethodId} {args : Array Value} {below : List Frame} {meth : Method} {c : Code} {D : va_G} {A : Nat → Prop} {y : Nat → ClassId} {aH : Nat} {aG aN aF aT : Nat → Nat} {G : St} {N : St} {F : St} {T : St} {o : Nat ⊕ (Int64)} {mc : Nat} {ms : Nat} (C : xC p s m args meth c D A cX2_digestStreets RX2 6 wsX2_digestStreets (xT y) (some .long)) (hst : l.stackTraces = false) (hT : xT2 l s A) (hE : ∀ x ∈ c.exceptionTable.toList, False) (hmc : ∀ i, o = .inl i → 1 ≤ mc ∧ 6 ≤ ms) : ∀ (fu : Nat) (v6 : Int64) (v7 : Int32), f2_digestStreets_L44 G N F T fu v6 v7 = some o → xV p l e { frames := 8, cells := mc, slots := ms, locals := 132 } s m args below meth c D A (xQN D (xT y) A (va_Ql (fun (r : Int64) (u : Unit) => o = .inr ((fun (r : Int64) (u : Unit) => r) r u)) (fun u t => xE D (xT y) A ((fun u : Unit => hC aH aN aF aT aG ++ (gC y aG G ++ (nC y aN N ++ (nC y aF F ++ tC y aT T)))) u) t) A) o (hC aH aN aF aT aG ++ (gC y aG G ++ (nC y aN N ++ (nC y aF F ++ tC y aT T)))) mc ms below args s) 6 (hC aH aN aF aT aG ++ (gC y aG G ++ (nC y aN N ++ (nC y aF F ++ tC y aT T)))) 0 0 [(0, .ref aH), (3, .long v6), (5, .int v7)] 44 [] := by
  intro fu
  induction fu with
  | zero => intro v6 v7 hf; rw [f2_digestStreets_L44] at hf; cases hf
  | succ fu ih =>
    intro v6 v7 hf
    rw [f2_digestStreets_L44] at hf
    refine x_iload (q := 46) C 2 dX2_digestStreets_44 rfl rfl ?_
    refine x_aload_n (q := 47) C 0 dX2_digestStreets_46 rfl rfl rfl ?_
    refine x_get (q := 50) C 0 dX2_digestStreets_47 ((oX2 aH aN aF aT aG).L) rfl iuX2_digestStreets_X2 flX2_digestStreets_12 rfl (by decide) rfl rfl ?_
    refine x_get (q := 53) C 3 dX2_digestStreets_50 (((((oX1 y aT T).R).R).R).R) rfl iuX2_digestStreets_X1 flX2_digestStreets_56 rfl (by decide) rfl rfl ?_
    refine x_icmp_ge (t := 130) (q := 56) C dX2_digestStreets_53 (by decide) rfl (fun hc => ?_) (fun hc => ?_)
    · have hf := (if_pos hc).symm.trans hf
      refine x_lload_n (q := 131) C 1 dX2_digestStreets_130 rfl rfl rfl ?_
      have hf := Option.some.inj hf
      exact xx_lret () C dX2_digestStreets_131 rfl hf.symm rfl (Nat.zero_le _) (Nat.zero_le _)
    · have hf := (if_neg hc).symm.trans hf
      refine x_lload_n (q := 57) C 1 dX2_digestStreets_56 rfl rfl rfl ?_
      refine x_ldc2 (q := 60) C dX2_digestStreets_57 kX2_digestStreets_208 rfl ?_
      refine x_lmul (q := 61) C dX2_digestStreets_60 rfl ?_
      refine x_aload_n (q := 62) C 0 dX2_digestStreets_61 rfl rfl rfl ?_
      refine x_get (q := 65) C 0 dX2_digestStreets_62 ((oX2 aH aN aF aT aG).L) rfl iuX2_digestStreets_X2 flX2_digestStreets_12 rfl (by decide) rfl rfl ?_
      refine x_get (q := 68) C 4 dX2_digestStreets_65 (((((oX1 y aT T).R).R).R).R) rfl iuX2_digestStreets_X1 flX2_digestStreets_239 rfl (by decide) rfl rfl ?_
      refine x_iload (q := 70) C 2 dX2_digestStreets_68 rfl rfl ?_
      obtain ⟨hb8, hf⟩ := gd_some hf
      refine x_iald (q := 71) C 0 dX2_digestStreets_70 (((((aX1_4 y aT T).R).R).R).R) rfl hb8 rfl ?_
      refine x_i2l (q := 72) C dX2_digestStreets_71 rfl ?_
      refine x_ladd (q := 73) C dX2_digestStreets_72 rfl ?_
      obtain ⟨v9, ev9, hf⟩ := lt_elim hf
      refine x_topl ev9 ?_
      refine x_lstore_n (q := 74) C [1, 0, 2] [(0, .ref aH), (3, .long v9), (5, .int v7)] dX2_digestStreets_73 rfl (by decide) rfl rfl ?_
      refine x_lload_n (q := 75) C 1 dX2_digestStreets_74 rfl rfl rfl ?_
      refine x_ldc2 (q := 78) C dX2_digestStreets_75 kX2_digestStreets_208 rfl ?_
      refine x_lmul (q := 79) C dX2_digestStreets_78 rfl ?_
      refine x_aload_n (q := 80) C 0 dX2_digestStreets_79 rfl rfl rfl ?_
      refine x_get (q := 83) C 0 dX2_digestStreets_80 ((oX2 aH aN aF aT aG).L) rfl iuX2_digestStreets_X2 flX2_digestStreets_12 rfl (by decide) rfl rfl ?_
      refine x_get (q := 86) C 5 dX2_digestStreets_83 (((((oX1 y aT T).R).R).R).R) rfl iuX2_digestStreets_X1 flX2_digestStreets_242 rfl (by decide) rfl rfl ?_
      refine x_iload (q := 88) C 2 dX2_digestStreets_86 rfl rfl ?_
      refine x_iald (q := 89) C 0 dX2_digestStreets_88 (((((aX1_5 y aT T).R).R).R).R) rfl hb8 rfl ?_
      refine x_i2l (q := 90) C dX2_digestStreets_89 rfl ?_
      refine x_ladd (q := 91) C dX2_digestStreets_90 rfl ?_
      obtain ⟨v10, ev10, hf⟩ := lt_elim hf
      refine x_topl ev10 ?_
      refine x_lstore_n (q := 92) C [1, 0, 2] [(0, .ref aH), (3, .long v10), (5, .int v7)] dX2_digestStreets_91 rfl (by decide) rfl rfl ?_
      refine x_lload_n (q := 93) C 1 dX2_digestStreets_92 rfl rfl rfl ?_
      refine x_ldc2 (q := 96) C dX2_digestStreets_93 kX2_digestStreets_208 rfl ?_
      refine x_lmul (q := 97) C dX2_digestStreets_96 rfl ?_
      refine x_aload_n (q := 98) C 0 dX2_digestStreets_97 rfl rfl rfl ?_
      refine x_get (q := 101) C 0 dX2_digestStreets_98 ((oX2 aH aN aF aT aG).L) rfl iuX2_digestStreets_X2 flX2_digestStreets_12 rfl (by decide) rfl rfl ?_
      refine x_get (q := 104) C 6 dX2_digestStreets_101 (((((oX1 y aT T).R).R).R).R) rfl iuX2_digestStreets_X1 flX2_digestStreets_245 rfl (by decide) rfl rfl ?_
      refine x_iload (q := 106) C 2 dX2_digestStreets_104 rfl rfl ?_
      refine x_iald (q := 107) C 0 dX2_digestStreets_106 (((((aX1_6 y aT T).R).R).R).R) rfl hb8 rfl ?_
      refine x_i2l (q := 108) C dX2_digestStreets_107 rfl ?_
      refine x_ladd (q := 109) C dX2_digestStreets_108 rfl ?_
      obtain ⟨v11, ev11, hf⟩ := lt_elim hf
      refine x_topl ev11 ?_
      refine x_lstore_n (q := 110) C [1, 0, 2] [(0, .ref aH), (3, .long v11), (5, .int v7)] dX2_digestStreets_109 rfl (by decide) rfl rfl ?_
      refine x_lload_n (q := 111) C 1 dX2_digestStreets_110 rfl rfl rfl ?_
      refine x_ldc2 (q := 114) C dX2_digestStreets_111 kX2_digestStreets_208 rfl ?_
      refine x_lmul (q := 115) C dX2_digestStreets_114 rfl ?_
      refine x_aload_n (q := 116) C 0 dX2_digestStreets_115 rfl rfl rfl ?_
      refine x_iload (q := 118) C 2 dX2_digestStreets_116 rfl rfl ?_
      rcases bx1_some hf with ⟨i, hcal13, ho⟩ | ⟨v12, hcal13, hf⟩
      · obtain ⟨h1, h2⟩ := hmc i ho
        exact x_callTVi C hT (c2_burning (l := l) (D := D) (y := y) (aH := aH) (aG := aG) (aN := aN) (aF := aF) (aT := aT) (mc := 1) (ms := 6) hst (fun _ _ => ⟨Nat.le_refl _, Nat.le_refl _⟩) hcal13) rfl ho rfl hE yi_X2_burning gX2_digestStreets_X2_burning rfl ((oX2 aH aN aF aT aG).L) rfl ⟨(Nat.le_of_ble_eq_true rfl), (Nat.le_of_ble_eq_true rfl)⟩ dX2_digestStreets_118 pm_nil rfl rfl (Nat.le_of_ble_eq_true rfl) ⟨h1, h2⟩ h1 h2
      · refine x_callRVi (q := 121) C hT (c2_burning (l := l) (D := D) (y := y) (aH := aH) (aG := aG) (aN := aN) (aF := aF) (aT := aT) (mc := 0) (ms := 0) hst (fun _ h => by cases h) hcal13) (fun _ h => by cases h) yi_X2_burning gX2_digestStreets_X2_burning rfl ((oX2 aH aN aF aT aG).L) rfl ⟨(Nat.le_of_ble_eq_true rfl), (Nat.le_of_ble_eq_true rfl)⟩ dX2_digestStreets_118 pm_nil rfl rfl (Nat.le_of_ble_eq_true rfl) ⟨Nat.zero_le _, Nat.zero_le _⟩ rfl ?_
        intro rr14 uu hrr
        have hrr : v12 = rr14 := Sum.inr.inj hrr
        subst hrr
        refine x_world (ws' := hC aH aN aF aT aG ++ (gC y aG G ++ (nC y aN N ++ (nC y aF F ++ tC y aT T)))) (List.append_nil _) ?_
        refine x_i2l (q := 122) C dX2_digestStreets_121 rfl ?_
        refine x_ladd (q := 123) C dX2_digestStreets_122 rfl ?_
        obtain ⟨v15, ev15, hf⟩ := lt_elim hf
        refine x_topl ev15 ?_
        refine x_lstore_n (q := 124) C [1, 0, 2] [(0, .ref aH), (3, .long v15), (5, .int v7)] dX2_digestStreets_123 rfl (by decide) rfl rfl ?_
        refine x_iinc (q := 127) C 2 (v7 + 1) [1, 2, 0] [(0, .ref aH), (3, .long v15), (5, .int (v7 + 1))] dX2_digestStreets_124 rfl (congrArg (fun z => v7 + z) ki_1) (by decide) rfl rfl ?_
        refine x_goto (t := 44) C dX2_digestStreets_127 (by decide) ?_
        exact ih v15 (v7 + 1) hf
set_option maxHeartbeats 4000000 in
set_option maxRecDepth 100000 in
theorem c2_digestStreets {l : Launch} {D : va_G} {y : Nat → ClassId} {aH : Nat} {aG aN aF aT : Nat → Nat} {G : St} {N : St} {F : St} {T : St} {p1 : Int64} {o : Nat ⊕ (Int64)} {mc ms : Nat} (hst : l.stackTraces = false) (hmc : ∀ i, o = .inl i → 1 ≤ mc ∧ 6 ≤ ms) (hf : f2_digestStreets G N F T p1 = some o) : xNl l yX2_digestStreets wsX2_digestStreets 8 132 mc ms D (xT y) [.ref aH, .long p1] (hC aH aN aF aT aG ++ (gC y aG G ++ (nC y aN N ++ (nC y aF F ++ tC y aT T)))) o (fun (r : Int64) (u : Unit) => r) (fun u : Unit => hC aH aN aF aT aG ++ (gC y aG G ++ (nC y aN N ++ (nC y aF F ++ tC y aT T)))) := by
  refine xNl_of (cc := cX2_digestStreets) (nL := 6) (ret := (some .long)) [(0, .ref aH), (1, .long p1)] hst (by decide) rfl (Nat.le_of_ble_eq_true rfl) rfl ?_
  intro p e s m args below meth c A C hT hE
  have C : xC p s m args meth c D A cX2_digestStreets RX2 6 wsX2_digestStreets (xT y) (some .long) := C
  unfold f2_digestStreets at hf
  refine x_lload_n (q := 1) C 1 dX2_digestStreets_0 rfl rfl rfl ?_
  refine x_lstore_n (q := 2) C [1, 0] [(0, .ref aH), (3, .long p1)] dX2_digestStreets_1 rfl (by decide) rfl rfl ?_
  refine x_iconst (q := 3) C dX2_digestStreets_2 ki_0 rfl ?_
  refine x_istore (q := 5) C [1, 2, 0] [(0, .ref aH), (3, .long p1), (5, .int 0)] dX2_digestStreets_3 (by decide) rfl rfl ?_
  refine w2_digestStreets_L5 C hst hT hE hmc (fun v3 hf => ?_) xF p1 0 hf
  refine x_iconst (q := 42) C dX2_digestStreets_41 ki_0 rfl ?_
  refine x_istore (q := 44) C [1, 2, 0] [(0, .ref aH), (3, .long v3), (5, .int 0)] dX2_digestStreets_42 (by decide) rfl rfl ?_
  exact w2_digestStreets_L44 C hst hT hE hmc xF v3 0 hf

/-! LampHills.digestLamps(J)J -/
theorem kX2_digestLamps_208 : Cond.constantLong RX2 208 (31) ∈ wsX2_digestLamps := by decide +kernel
theorem flX2_digestLamps_12 : Cond.fieldLink RX2 12 "LampHills" "town" "LLampHills$Town;" ∈ wsX2_digestLamps := by decide +kernel
theorem flX2_digestLamps_63 : Cond.fieldLink RX2 63 "LampHills$Town" "lamps" "I" ∈ wsX2_digestLamps := by decide +kernel
theorem iuX2_digestLamps_X1 : ∀ w ∈ u_ws RX1 TX1 17, w ∈ wsX2_digestLamps := fun _ h => List.mem_cons_of_mem _ (List.mem_append_left _ (List.mem_append_left _ (List.mem_append_right _ h)))
theorem iuX2_digestLamps_X2 : ∀ w ∈ u_ws RX2 TX2 4, w ∈ wsX2_digestLamps := fun _ h => List.mem_cons_of_mem _ (List.mem_append_left _ (List.mem_append_left _ (List.mem_append_left _ (List.mem_append_right _ h))))
theorem yi_X2_told : xY yX2_told wsX2_told cX2_told 3 (some .int) 2 := ⟨⟨_, rfl⟩, by decide +kernel, by decide +kernel, by decide +kernel⟩
def f2_digestLamps_L20 (v2 : Int32) (G : St) (N : St) (F : St) (T : St) (K : Int64 → Option (Nat ⊕ (Int64))) : Nat → Int64 → Int32 → Option (Nat ⊕ (Int64))
  | 0, _, _ => none
  | fu + 1, v3, v4 =>
  if 9 ≤ v4 then
  (
    K v3
  )
  else
  (
    bx1 (f2_told G N F T v2 v4) fun v6 =>
    lt_ ((v3 * 31) + (v6.toInt64)) fun v9 =>
    f2_digestLamps_L20 v2 G N F T K fu v9 (v4 + 1)
  )
def f2_digestLamps_L5 (G : St) (N : St) (F : St) (T : St) : Nat → Int64 → Int32 → Option (Nat ⊕ (Int64))
  | 0, _, _ => none
  | fu + 1, v1, v2 =>
  if (T 7 0) ≤ v2 then
  (
    some (.inr v1)
  )
  else
  (
    f2_digestLamps_L20 v2 G N F T (fun (v5 : Int64) =>
    (
      f2_digestLamps_L5 G N F T fu v5 (v2 + 1)
    )
    ) xF v1 0
  )
def f2_digestLamps (G : St) (N : St) (F : St) (T : St) (p1 : Int64) : Option (Nat ⊕ (Int64)) :=
  f2_digestLamps_L5 G N F T xF p1 0
set_option maxHeartbeats 4000000 in
set_option maxRecDepth 100000 in
theorem w2_digestLamps_L20 {p : Program} {l : Launch} {e : Env} {s : State} {m : MethodId} {args : Array Value} {below : List Frame} {meth : Method} {c : Code} {D : va_G} {A : Nat → Prop} {y : Nat → ClassId} {aH : Nat} {aG aN aF aT : Nat → Nat} {G : St} {N : St} {F : St} {T : St} {v2 : Int32} {o : Nat ⊕ (Int64)} {mc : Nat} {ms : Nat} {K : Int64 → Option (Nat ⊕ (Int64))} (C : xC p s m args meth c D A cX2_digestLamps RX2 7 wsX2_digestLamps (xT y) (some .long)) (hst : l.stackTraces = false) (hT : xT2 l s A) (hE : ∀ x ∈ c.exceptionTable.toList, False) (hmc : ∀ i, o = .inl i → 1 ≤ mc ∧ 6 ≤ ms) (hK : ∀ (v5 : Int64), K v5 = some o → xV p l e { frames := 8, cells := mc, slots := ms, locals := 133 } s m args below meth c D A (xQN D (xT y) A (va_Ql (fun (r : Int64) (u : Unit) => o = .inr ((fun (r : Int64) (u : Unit) => r) r u)) (fun u t => xE D (xT y) A ((fun u : Unit => hC aH aN aF aT aG ++ (gC y aG G ++ (nC y aN N ++ (nC y aF F ++ tC y aT T)))) u) t) A) o (hC aH aN aF aT aG ++ (gC y aG G ++ (nC y aN N ++ (nC y aF F ++ tC y aT T)))) mc ms below args s) 7 (hC aH aN aF aT aG ++ (gC y aG G ++ (nC y aN N ++ (nC y aF F ++ tC y aT T)))) 0 0 [(0, .ref aH), (3, .long v5), (5, .int v2)] 49 []) : ∀ (fu : Nat) (v3 : Int64) (v4 : Int32), f2_digestLamps_L20 v2 G N F T K fu v3 v4 = some o → xV p l e { frames := 8, cells := mc, slots := ms, locals := 133 } s m args below meth c D A (xQN D (xT y) A (va_Ql (fun (r : Int64) (u : Unit) => o = .inr ((fun (r : Int64) (u : Unit) => r) r u)) (fun u t => xE D (xT y) A ((fun u : Unit => hC aH aN aF aT aG ++ (gC y aG G ++ (nC y aN N ++ (nC y aF F ++ tC y aT T)))) u) t) A) o (hC aH aN aF aT aG ++ (gC y aG G ++ (nC y aN N ++ (nC y aF F ++ tC y aT T)))) mc ms below args s) 7 (hC aH aN aF aT aG ++ (gC y aG G ++ (nC y aN N ++ (nC y aF F ++ tC y aT T)))) 0 0 [(0, .ref aH), (3, .long v3), (5, .int v2), (6, .int v4)] 20 [] := by
  intro fu
  induction fu with
  | zero => intro v3 v4 hf; rw [f2_digestLamps_L20] at hf; cases hf
  | succ fu ih =>
    intro v3 v4 hf
    rw [f2_digestLamps_L20] at hf
    refine x_iload (q := 22) C 3 dX2_digestLamps_20 rfl rfl ?_
    refine x_bipush (q := 24) C dX2_digestLamps_22 kb_9 rfl ?_
    refine x_icmp_ge (t := 49) (q := 27) C dX2_digestLamps_24 (by decide) rfl (fun hc => ?_) (fun hc => ?_)
    · have hf := (if_pos hc).symm.trans hf
      refine x_sub [0, 1, 2] (L' := [(0, .ref aH), (3, .long v3), (5, .int v2)]) rfl ?_
      exact hK v3 hf
    · have hf := (if_neg hc).symm.trans hf
      refine x_lload_n (q := 28) C 1 dX2_digestLamps_27 rfl rfl rfl ?_
      refine x_ldc2 (q := 31) C dX2_digestLamps_28 kX2_digestLamps_208 rfl ?_
      refine x_lmul (q := 32) C dX2_digestLamps_31 rfl ?_
      refine x_aload_n (q := 33) C 0 dX2_digestLamps_32 rfl rfl rfl ?_
      refine x_iload (q := 35) C 2 dX2_digestLamps_33 rfl rfl ?_
      refine x_iload (q := 37) C 3 dX2_digestLamps_35 rfl rfl ?_
      rcases bx1_some hf with ⟨i, hcal7, ho⟩ | ⟨v6, hcal7, hf⟩
      · obtain ⟨h1, h2⟩ := hmc i ho
        exact x_callTVi C hT (c2_told (l := l) (D := D) (y := y) (aH := aH) (aG := aG) (aN := aN) (aF := aF) (aT := aT) (mc := 1) (ms := 6) hst (fun _ _ => ⟨Nat.le_refl _, Nat.le_refl _⟩) hcal7) rfl ho rfl hE yi_X2_told gX2_digestLamps_X2_told rfl ((oX2 aH aN aF aT aG).L) rfl ⟨(Nat.le_of_ble_eq_true rfl), (Nat.le_of_ble_eq_true rfl)⟩ dX2_digestLamps_37 pm_nil rfl rfl (Nat.le_of_ble_eq_true rfl) ⟨h1, h2⟩ h1 h2
      · refine x_callRVi (q := 40) C hT (c2_told (l := l) (D := D) (y := y) (aH := aH) (aG := aG) (aN := aN) (aF := aF) (aT := aT) (mc := 0) (ms := 0) hst (fun _ h => by cases h) hcal7) (fun _ h => by cases h) yi_X2_told gX2_digestLamps_X2_told rfl ((oX2 aH aN aF aT aG).L) rfl ⟨(Nat.le_of_ble_eq_true rfl), (Nat.le_of_ble_eq_true rfl)⟩ dX2_digestLamps_37 pm_nil rfl rfl (Nat.le_of_ble_eq_true rfl) ⟨Nat.zero_le _, Nat.zero_le _⟩ rfl ?_
        intro rr8 uu hrr
        have hrr : v6 = rr8 := Sum.inr.inj hrr
        subst hrr
        refine x_world (ws' := hC aH aN aF aT aG ++ (gC y aG G ++ (nC y aN N ++ (nC y aF F ++ tC y aT T)))) (List.append_nil _) ?_
        refine x_i2l (q := 41) C dX2_digestLamps_40 rfl ?_
        refine x_ladd (q := 42) C dX2_digestLamps_41 rfl ?_
        obtain ⟨v9, ev9, hf⟩ := lt_elim hf
        refine x_topl ev9 ?_
        refine x_lstore_n (q := 43) C [1, 0, 2, 3] [(0, .ref aH), (3, .long v9), (5, .int v2), (6, .int v4)] dX2_digestLamps_42 rfl (by decide) rfl rfl ?_
        refine x_iinc (q := 46) C 3 (v4 + 1) [1, 2, 3, 0] [(0, .ref aH), (3, .long v9), (5, .int v2), (6, .int (v4 + 1))] dX2_digestLamps_43 rfl (congrArg (fun z => v4 + z) ki_1) (by decide) rfl rfl ?_
        refine x_goto (t := 20) C dX2_digestLamps_46 (by decide) ?_
        exact ih v9 (v4 + 1) hf
set_option maxHeartbeats 4000000 in
set_option maxRecDepth 100000 in
theorem w2_digestLamps_L5 {p : Program} {l : Launch} {e : Env} {s : State} {m : MethodId} {args : Array Value} {below : List Frame} {meth : Method} {c : Code} {D : va_G} {A : Nat → Prop} {y : Nat → ClassId} {aH : Nat} {aG aN aF aT : Nat → Nat} {G : St} {N : St} {F : St} {T : St} {o : Nat ⊕ (Int64)} {mc : Nat} {ms : Nat} (C : xC p s m args meth c D A cX2_digestLamps RX2 7 wsX2_digestLamps (xT y) (some .long)) (hst : l.stackTraces = false) (hT : xT2 l s A) (hE : ∀ x ∈ c.exceptionTable.toList, False) (hmc : ∀ i, o = .inl i → 1 ≤ mc ∧ 6 ≤ ms) : ∀ (fu : Nat) (v1 : Int64) (v2 : Int32), f2_digestLamps_L5 G N F T fu v1 v2 = some o → xV p l e { frames := 8, cells := mc, slots := ms, locals := 133 } s m args below meth c D A (xQN D (xT y) A (va_Ql (fun (r : Int64) (u : Unit) => o = .inr ((fun (r : Int64) (u : Unit) => r) r u)) (fun u t => xE D (xT y) A ((fun u : Unit => hC aH aN aF aT aG ++ (gC y aG G ++ (nC y aN N ++ (nC y aF F ++ tC y aT T)))) u) t) A) o (hC aH aN aF aT aG ++ (gC y aG G ++ (nC y aN N ++ (nC y aF F ++ tC y aT T)))) mc ms below args s) 7 (hC aH aN aF aT aG ++ (gC y aG G ++ (nC y aN N ++ (nC y aF F ++ tC y aT T)))) 0 0 [(0, .ref aH), (3, .long v1), (5, .int v2)] 5 [] := by
  intro fu
  induction fu with
  | zero => intro v1 v2 hf; rw [f2_digestLamps_L5] at hf; cases hf
  | succ fu ih =>
    intro v1 v2 hf
    rw [f2_digestLamps_L5] at hf
    refine x_iload (q := 7) C 2 dX2_digestLamps_5 rfl rfl ?_
    refine x_aload_n (q := 8) C 0 dX2_digestLamps_7 rfl rfl rfl ?_
    refine x_get (q := 11) C 0 dX2_digestLamps_8 ((oX2 aH aN aF aT aG).L) rfl iuX2_digestLamps_X2 flX2_digestLamps_12 rfl (by decide) rfl rfl ?_
    refine x_get (q := 14) C 7 dX2_digestLamps_11 (((((oX1 y aT T).R).R).R).R) rfl iuX2_digestLamps_X1 flX2_digestLamps_63 rfl (by decide) rfl rfl ?_
    refine x_icmp_ge (t := 55) (q := 17) C dX2_digestLamps_14 (by decide) rfl (fun hc => ?_) (fun hc => ?_)
    · have hf := (if_pos hc).symm.trans hf
      refine x_lload_n (q := 56) C 1 dX2_digestLamps_55 rfl rfl rfl ?_
      have hf := Option.some.inj hf
      exact xx_lret () C dX2_digestLamps_56 rfl hf.symm rfl (Nat.zero_le _) (Nat.zero_le _)
    · have hf := (if_neg hc).symm.trans hf
      refine x_iconst (q := 18) C dX2_digestLamps_17 ki_0 rfl ?_
      refine x_istore (q := 20) C [1, 2, 3, 0] [(0, .ref aH), (3, .long v1), (5, .int v2), (6, .int 0)] dX2_digestLamps_18 (by decide) rfl rfl ?_
      refine w2_digestLamps_L20 C hst hT hE hmc (fun v5 hf => ?_) xF v1 0 hf
      refine x_iinc (q := 52) C 2 (v2 + 1) [1, 2, 0] [(0, .ref aH), (3, .long v5), (5, .int (v2 + 1))] dX2_digestLamps_49 rfl (congrArg (fun z => v2 + z) ki_1) (by decide) rfl rfl ?_
      refine x_goto (t := 5) C dX2_digestLamps_52 (by decide) ?_
      exact ih v5 (v2 + 1) hf
set_option maxHeartbeats 4000000 in
set_option maxRecDepth 100000 in
theorem c2_digestLamps {l : Launch} {D : va_G} {y : Nat → ClassId} {aH : Nat} {aG aN aF aT : Nat → Nat} {G : St} {N : St} {F : St} {T : St} {p1 : Int64} {o : Nat ⊕ (Int64)} {mc ms : Nat} (hst : l.stackTraces = false) (hmc : ∀ i, o = .inl i → 1 ≤ mc ∧ 6 ≤ ms) (hf : f2_digestLamps G N F T p1 = some o) : xNl l yX2_digestLamps wsX2_digestLamps 8 133 mc ms D (xT y) [.ref aH, .long p1] (hC aH aN aF aT aG ++ (gC y aG G ++ (nC y aN N ++ (nC y aF F ++ tC y aT T)))) o (fun (r : Int64) (u : Unit) => r) (fun u : Unit => hC aH aN aF aT aG ++ (gC y aG G ++ (nC y aN N ++ (nC y aF F ++ tC y aT T)))) := by
  refine xNl_of (cc := cX2_digestLamps) (nL := 7) (ret := (some .long)) [(0, .ref aH), (1, .long p1)] hst (by decide) rfl (Nat.le_of_ble_eq_true rfl) rfl ?_
  intro p e s m args below meth c A C hT hE
  have C : xC p s m args meth c D A cX2_digestLamps RX2 7 wsX2_digestLamps (xT y) (some .long) := C
  unfold f2_digestLamps at hf
  refine x_lload_n (q := 1) C 1 dX2_digestLamps_0 rfl rfl rfl ?_
  refine x_lstore_n (q := 2) C [1, 0] [(0, .ref aH), (3, .long p1)] dX2_digestLamps_1 rfl (by decide) rfl rfl ?_
  refine x_iconst (q := 3) C dX2_digestLamps_2 ki_0 rfl ?_
  refine x_istore (q := 5) C [1, 2, 0] [(0, .ref aH), (3, .long p1), (5, .int 0)] dX2_digestLamps_3 (by decide) rfl rfl ?_
  exact w2_digestLamps_L5 C hst hT hE hmc xF p1 0 hf

/-! LampHills.digestLighters(J)J -/
theorem kX2_digestLighters_208 : Cond.constantLong RX2 208 (31) ∈ wsX2_digestLighters := by decide +kernel
theorem flX2_digestLighters_12 : Cond.fieldLink RX2 12 "LampHills" "town" "LLampHills$Town;" ∈ wsX2_digestLighters := by decide +kernel
theorem flX2_digestLighters_257 : Cond.fieldLink RX2 257 "LampHills$Town" "rounds" "[[I" ∈ wsX2_digestLighters := by decide +kernel
theorem flX2_digestLighters_76 : Cond.fieldLink RX2 76 "LampHills$Town" "lighters" "I" ∈ wsX2_digestLighters := by decide +kernel
theorem flX2_digestLighters_98 : Cond.fieldLink RX2 98 "LampHills$Town" "roundSize" "[I" ∈ wsX2_digestLighters := by decide +kernel
theorem iuX2_digestLighters_X1 : ∀ w ∈ u_ws RX1 TX1 17, w ∈ wsX2_digestLighters := fun _ h => List.mem_cons_of_mem _ (List.mem_append_left _ (List.mem_append_left _ (List.mem_append_right _ h)))
theorem iuX2_digestLighters_X2 : ∀ w ∈ u_ws RX2 TX2 4, w ∈ wsX2_digestLighters := fun _ h => List.mem_cons_of_mem _ (List.mem_append_left _ (List.mem_append_left _ (List.mem_append_left _ (List.mem_append_right _ h))))
theorem yi_X2_lighter : xY yX2_lighter wsX2_lighter cX2_lighter 3 (some .int) 2 := ⟨⟨_, rfl⟩, by decide +kernel, by decide +kernel, by decide +kernel⟩
def f2_digestLighters_L20 (v2 : Int32) (G : St) (N : St) (F : St) (T : St) (K : Int64 → Option (Nat ⊕ (Int64))) : Nat → Int64 → Int32 → Option (Nat ⊕ (Int64))
  | 0, _, _ => none
  | fu + 1, v3, v4 =>
  if 7 ≤ v4 then
  (
    K v3
  )
  else
  (
    bx1 (f2_lighter G N F T v2 v4) fun v6 =>
    lt_ ((v3 * 31) + (v6.toInt64)) fun v9 =>
    f2_digestLighters_L20 v2 G N F T K fu v9 (v4 + 1)
  )
def f2_digestLighters_L52 (v2 : Int32) (T : St) (K : Int64 → Option (Nat ⊕ (Int64))) : Nat → Int64 → Int32 → Option (Nat ⊕ (Int64))
  | 0, _, _ => none
  | fu + 1, v10, v11 =>
  gd (xin v2 4) <|
  if (T 15 v2.toNatClampNeg) ≤ v11 then
  (
    K v10
  )
  else
  (
    gd (xin v11 10) <|
    lt_ ((v10 * 31) + ((T (200 + v2.toNatClampNeg) v11.toNatClampNeg).toInt64)) fun v15 =>
    f2_digestLighters_L52 v2 T K fu v15 (v11 + 1)
  )
def f2_digestLighters_L5 (G : St) (N : St) (F : St) (T : St) : Nat → Int64 → Int32 → Option (Nat ⊕ (Int64))
  | 0, _, _ => none
  | fu + 1, v1, v2 =>
  if (T 12 0) ≤ v2 then
  (
    some (.inr v1)
  )
  else
  (
    f2_digestLighters_L20 v2 G N F T (fun (v5 : Int64) =>
    (
      f2_digestLighters_L52 v2 T (fun (v12 : Int64) =>
      (
        f2_digestLighters_L5 G N F T fu v12 (v2 + 1)
      )
      ) xF v5 0
    )
    ) xF v1 0
  )
def f2_digestLighters (G : St) (N : St) (F : St) (T : St) (p1 : Int64) : Option (Nat ⊕ (Int64)) :=
  f2_digestLighters_L5 G N F T xF p1 0
set_option maxHeartbeats 4000000 in
set_option maxRecDepth 100000 in
theorem w2_digestLighters_L20 {p : Program} {l : Launch} {e : Env} {s : State} {m : MethodId} {args : Array Value} {below : List Frame} {meth : Method} {c : Code} {D : va_G} {A : Nat → Prop} {y : Nat → ClassId} {aH : Nat} {aG aN aF aT : Nat → Nat} {G : St} {N : St} {F : St} {T : St} {v2 : Int32} {o : Nat ⊕ (Int64)} {mc : Nat} {ms : Nat} {K : Int64 → Option (Nat ⊕ (Int64))} (C : xC p s m args meth c D A cX2_digestLighters RX2 7 wsX2_digestLighters (xT y) (some .long)) (hst : l.stackTraces = false) (hT : xT2 l s A) (hE : ∀ x ∈ c.exceptionTable.toList, False) (hmc : ∀ i, o = .inl i → 1 ≤ mc ∧ 6 ≤ ms) (hK : ∀ (v5 : Int64), K v5 = some o → xV p l e { frames := 8, cells := mc, slots := ms, locals := 133 } s m args below meth c D A (xQN D (xT y) A (va_Ql (fun (r : Int64) (u : Unit) => o = .inr ((fun (r : Int64) (u : Unit) => r) r u)) (fun u t => xE D (xT y) A ((fun u : Unit => hC aH aN aF aT aG ++ (gC y aG G ++ (nC y aN N ++ (nC y aF F ++ tC y aT T)))) u) t) A) o (hC aH aN aF aT aG ++ (gC y aG G ++ (nC y aN N ++ (nC y aF F ++ tC y aT T)))) mc ms below args s) 7 (hC aH aN aF aT aG ++ (gC y aG G ++ (nC y aN N ++ (nC y aF F ++ tC y aT T)))) 0 0 [(0, .ref aH), (3, .long v5), (5, .int v2)] 49 []) : ∀ (fu : Nat) (v3 : Int64) (v4 : Int32), f2_digestLighters_L20 v2 G N F T K fu v3 v4 = some o → xV p l e { frames := 8, cells := mc, slots := ms, locals := 133 } s m args below meth c D A (xQN D (xT y) A (va_Ql (fun (r : Int64) (u : Unit) => o = .inr ((fun (r : Int64) (u : Unit) => r) r u)) (fun u t => xE D (xT y) A ((fun u : Unit => hC aH aN aF aT aG ++ (gC y aG G ++ (nC y aN N ++ (nC y aF F ++ tC y aT T)))) u) t) A) o (hC aH aN aF aT aG ++ (gC y aG G ++ (nC y aN N ++ (nC y aF F ++ tC y aT T)))) mc ms below args s) 7 (hC aH aN aF aT aG ++ (gC y aG G ++ (nC y aN N ++ (nC y aF F ++ tC y aT T)))) 0 0 [(0, .ref aH), (3, .long v3), (5, .int v2), (6, .int v4)] 20 [] := by
  intro fu
  induction fu with
  | zero => intro v3 v4 hf; rw [f2_digestLighters_L20] at hf; cases hf
  | succ fu ih =>
    intro v3 v4 hf
    rw [f2_digestLighters_L20] at hf
    refine x_iload (q := 22) C 3 dX2_digestLighters_20 rfl rfl ?_
    refine x_bipush (q := 24) C dX2_digestLighters_22 kb_7 rfl ?_
    refine x_icmp_ge (t := 49) (q := 27) C dX2_digestLighters_24 (by decide) rfl (fun hc => ?_) (fun hc => ?_)
    · have hf := (if_pos hc).symm.trans hf
      refine x_sub [0, 1, 2] (L' := [(0, .ref aH), (3, .long v3), (5, .int v2)]) rfl ?_
      exact hK v3 hf
    · have hf := (if_neg hc).symm.trans hf
      refine x_lload_n (q := 28) C 1 dX2_digestLighters_27 rfl rfl rfl ?_
      refine x_ldc2 (q := 31) C dX2_digestLighters_28 kX2_digestLighters_208 rfl ?_
      refine x_lmul (q := 32) C dX2_digestLighters_31 rfl ?_
      refine x_aload_n (q := 33) C 0 dX2_digestLighters_32 rfl rfl rfl ?_
      refine x_iload (q := 35) C 2 dX2_digestLighters_33 rfl rfl ?_
      refine x_iload (q := 37) C 3 dX2_digestLighters_35 rfl rfl ?_
      rcases bx1_some hf with ⟨i, hcal7, ho⟩ | ⟨v6, hcal7, hf⟩
      · obtain ⟨h1, h2⟩ := hmc i ho
        exact x_callTVi C hT (c2_lighter (l := l) (D := D) (y := y) (aH := aH) (aG := aG) (aN := aN) (aF := aF) (aT := aT) (mc := 1) (ms := 6) hst (fun _ _ => ⟨Nat.le_refl _, Nat.le_refl _⟩) hcal7) rfl ho rfl hE yi_X2_lighter gX2_digestLighters_X2_lighter rfl ((oX2 aH aN aF aT aG).L) rfl ⟨(Nat.le_of_ble_eq_true rfl), (Nat.le_of_ble_eq_true rfl)⟩ dX2_digestLighters_37 pm_nil rfl rfl (Nat.le_of_ble_eq_true rfl) ⟨h1, h2⟩ h1 h2
      · refine x_callRVi (q := 40) C hT (c2_lighter (l := l) (D := D) (y := y) (aH := aH) (aG := aG) (aN := aN) (aF := aF) (aT := aT) (mc := 0) (ms := 0) hst (fun _ h => by cases h) hcal7) (fun _ h => by cases h) yi_X2_lighter gX2_digestLighters_X2_lighter rfl ((oX2 aH aN aF aT aG).L) rfl ⟨(Nat.le_of_ble_eq_true rfl), (Nat.le_of_ble_eq_true rfl)⟩ dX2_digestLighters_37 pm_nil rfl rfl (Nat.le_of_ble_eq_true rfl) ⟨Nat.zero_le _, Nat.zero_le _⟩ rfl ?_
        intro rr8 uu hrr
        have hrr : v6 = rr8 := Sum.inr.inj hrr
        subst hrr
        refine x_world (ws' := hC aH aN aF aT aG ++ (gC y aG G ++ (nC y aN N ++ (nC y aF F ++ tC y aT T)))) (List.append_nil _) ?_
        refine x_i2l (q := 41) C dX2_digestLighters_40 rfl ?_
        refine x_ladd (q := 42) C dX2_digestLighters_41 rfl ?_
        obtain ⟨v9, ev9, hf⟩ := lt_elim hf
        refine x_topl ev9 ?_
        refine x_lstore_n (q := 43) C [1, 0, 2, 3] [(0, .ref aH), (3, .long v9), (5, .int v2), (6, .int v4)] dX2_digestLighters_42 rfl (by decide) rfl rfl ?_
        refine x_iinc (q := 46) C 3 (v4 + 1) [1, 2, 3, 0] [(0, .ref aH), (3, .long v9), (5, .int v2), (6, .int (v4 + 1))] dX2_digestLighters_43 rfl (congrArg (fun z => v4 + z) ki_1) (by decide) rfl rfl ?_
        refine x_goto (t := 20) C dX2_digestLighters_46 (by decide) ?_
        exact ih v9 (v4 + 1) hf
set_option maxHeartbeats 4000000 in
set_option maxRecDepth 100000 in
theorem w2_digestLighters_L52 {p : Program} {l : Launch} {e : Env} {s : State} {m : MethodId} {args : Array Value} {below : List Frame} {meth : Method} {c : Code} {D : va_G} {A : Nat → Prop} {y : Nat → ClassId} {aH : Nat} {aG aN aF aT : Nat → Nat} {G : St} {N : St} {F : St} {T : St} {v2 : Int32} {o : Nat ⊕ (Int64)} {mc : Nat} {ms : Nat} {K : Int64 → Option (Nat ⊕ (Int64))} (C : xC p s m args meth c D A cX2_digestLighters RX2 7 wsX2_digestLighters (xT y) (some .long)) (hst : l.stackTraces = false) (hT : xT2 l s A) (hE : ∀ x ∈ c.exceptionTable.toList, False) (hmc : ∀ i, o = .inl i → 1 ≤ mc ∧ 6 ≤ ms) (hK : ∀ (v12 : Int64), K v12 = some o → xV p l e { frames := 8, cells := mc, slots := ms, locals := 133 } s m args below meth c D A (xQN D (xT y) A (va_Ql (fun (r : Int64) (u : Unit) => o = .inr ((fun (r : Int64) (u : Unit) => r) r u)) (fun u t => xE D (xT y) A ((fun u : Unit => hC aH aN aF aT aG ++ (gC y aG G ++ (nC y aN N ++ (nC y aF F ++ tC y aT T)))) u) t) A) o (hC aH aN aF aT aG ++ (gC y aG G ++ (nC y aN N ++ (nC y aF F ++ tC y aT T)))) mc ms below args s) 7 (hC aH aN aF aT aG ++ (gC y aG G ++ (nC y aN N ++ (nC y aF F ++ tC y aT T)))) 0 0 [(0, .ref aH), (3, .long v12), (5, .int v2)] 94 []) : ∀ (fu : Nat) (v10 : Int64) (v11 : Int32), f2_digestLighters_L52 v2 T K fu v10 v11 = some o → xV p l e { frames := 8, cells := mc, slots := ms, locals := 133 } s m args below meth c D A (xQN D (xT y) A (va_Ql (fun (r : Int64) (u : Unit) => o = .inr ((fun (r : Int64) (u : Unit) => r) r u)) (fun u t => xE D (xT y) A ((fun u : Unit => hC aH aN aF aT aG ++ (gC y aG G ++ (nC y aN N ++ (nC y aF F ++ tC y aT T)))) u) t) A) o (hC aH aN aF aT aG ++ (gC y aG G ++ (nC y aN N ++ (nC y aF F ++ tC y aT T)))) mc ms below args s) 7 (hC aH aN aF aT aG ++ (gC y aG G ++ (nC y aN N ++ (nC y aF F ++ tC y aT T)))) 0 0 [(0, .ref aH), (3, .long v10), (5, .int v2), (6, .int v11)] 52 [] := by
  intro fu
  induction fu with
  | zero => intro v10 v11 hf; rw [f2_digestLighters_L52] at hf; cases hf
  | succ fu ih =>
    intro v10 v11 hf
    rw [f2_digestLighters_L52] at hf
    refine x_iload (q := 54) C 3 dX2_digestLighters_52 rfl rfl ?_
    refine x_aload_n (q := 55) C 0 dX2_digestLighters_54 rfl rfl rfl ?_
    refine x_get (q := 58) C 0 dX2_digestLighters_55 ((oX2 aH aN aF aT aG).L) rfl iuX2_digestLighters_X2 flX2_digestLighters_12 rfl (by decide) rfl rfl ?_
    refine x_get (q := 61) C 15 dX2_digestLighters_58 (((((oX1 y aT T).R).R).R).R) rfl iuX2_digestLighters_X1 flX2_digestLighters_98 rfl (by decide) rfl rfl ?_
    refine x_iload (q := 63) C 2 dX2_digestLighters_61 rfl rfl ?_
    obtain ⟨hb13, hf⟩ := gd_some hf
    refine x_iald (q := 64) C 0 dX2_digestLighters_63 (((((aX1_15 y aT T).R).R).R).R) rfl hb13 rfl ?_
    refine x_icmp_ge (t := 94) (q := 67) C dX2_digestLighters_64 (by decide) rfl (fun hc => ?_) (fun hc => ?_)
    · have hf := (if_pos hc).symm.trans hf
      refine x_sub [0, 1, 2] (L' := [(0, .ref aH), (3, .long v10), (5, .int v2)]) rfl ?_
      exact hK v10 hf
    · have hf := (if_neg hc).symm.trans hf
      refine x_lload_n (q := 68) C 1 dX2_digestLighters_67 rfl rfl rfl ?_
      refine x_ldc2 (q := 71) C dX2_digestLighters_68 kX2_digestLighters_208 rfl ?_
      refine x_lmul (q := 72) C dX2_digestLighters_71 rfl ?_
      refine x_aload_n (q := 73) C 0 dX2_digestLighters_72 rfl rfl rfl ?_
      refine x_get (q := 76) C 0 dX2_digestLighters_73 ((oX2 aH aN aF aT aG).L) rfl iuX2_digestLighters_X2 flX2_digestLighters_12 rfl (by decide) rfl rfl ?_
      refine x_get (q := 79) C 16 dX2_digestLighters_76 (((((oX1 y aT T).R).R).R).R) rfl iuX2_digestLighters_X1 flX2_digestLighters_257 rfl (by decide) rfl rfl ?_
      refine x_iload (q := 81) C 2 dX2_digestLighters_79 rfl rfl ?_
      refine x_aald (q := 82) C 2 dX2_digestLighters_81 (((((gX1_16 y aT T).R).R).R).R) rfl rfl hb13 (if_pos (xin_lt hb13)) rfl ?_
      refine x_iload (q := 84) C 3 dX2_digestLighters_82 rfl rfl ?_
      obtain ⟨hb14, hf⟩ := gd_some hf
      refine x_iald (q := 85) C 0 dX2_digestLighters_84 (((((aX1_r16 y aT T (xin_lt hb13)).R).R).R).R) rfl hb14 rfl ?_
      refine x_i2l (q := 86) C dX2_digestLighters_85 rfl ?_
      refine x_ladd (q := 87) C dX2_digestLighters_86 rfl ?_
      obtain ⟨v15, ev15, hf⟩ := lt_elim hf
      refine x_topl ev15 ?_
      refine x_lstore_n (q := 88) C [1, 0, 2, 3] [(0, .ref aH), (3, .long v15), (5, .int v2), (6, .int v11)] dX2_digestLighters_87 rfl (by decide) rfl rfl ?_
      refine x_iinc (q := 91) C 3 (v11 + 1) [1, 2, 3, 0] [(0, .ref aH), (3, .long v15), (5, .int v2), (6, .int (v11 + 1))] dX2_digestLighters_88 rfl (congrArg (fun z => v11 + z) ki_1) (by decide) rfl rfl ?_
      refine x_goto (t := 52) C dX2_digestLighters_91 (by decide) ?_
      exact ih v15 (v11 + 1) hf
set_option maxHeartbeats 4000000 in
set_option maxRecDepth 100000 in
theorem w2_digestLighters_L5 {p : Program} {l : Launch} {e : Env} {s : State} {m : MethodId} {args : Array Value} {below : List Frame} {meth : Method} {c : Code} {D : va_G} {A : Nat → Prop} {y : Nat → ClassId} {aH : Nat} {aG aN aF aT : Nat → Nat} {G : St} {N : St} {F : St} {T : St} {o : Nat ⊕ (Int64)} {mc : Nat} {ms : Nat} (C : xC p s m args meth c D A cX2_digestLighters RX2 7 wsX2_digestLighters (xT y) (some .long)) (hst : l.stackTraces = false) (hT : xT2 l s A) (hE : ∀ x ∈ c.exceptionTable.toList, False) (hmc : ∀ i, o = .inl i → 1 ≤ mc ∧ 6 ≤ ms) : ∀ (fu : Nat) (v1 : Int64) (v2 : Int32), f2_digestLighters_L5 G N F T fu v1 v2 = some o → xV p l e { frames := 8, cells := mc, slots := ms, locals := 133 } s m args below meth c D A (xQN D (xT y) A (va_Ql (fun (r : Int64) (u : Unit) => o = .inr ((fun (r : Int64) (u : Unit) => r) r u)) (fun u t => xE D (xT y) A ((fun u : Unit => hC aH aN aF aT aG ++ (gC y aG G ++ (nC y aN N ++ (nC y aF F ++ tC y aT T)))) u) t) A) o (hC aH aN aF aT aG ++ (gC y aG G ++ (nC y aN N ++ (nC y aF F ++ tC y aT T)))) mc ms below args s) 7 (hC aH aN aF aT aG ++ (gC y aG G ++ (nC y aN N ++ (nC y aF F ++ tC y aT T)))) 0 0 [(0, .ref aH), (3, .long v1), (5, .int v2)] 5 [] := by
  intro fu
  induction fu with
  | zero => intro v1 v2 hf; rw [f2_digestLighters_L5] at hf; cases hf
  | succ fu ih =>
    intro v1 v2 hf
    rw [f2_digestLighters_L5] at hf
    refine x_iload (q := 7) C 2 dX2_digestLighters_5 rfl rfl ?_
    refine x_aload_n (q := 8) C 0 dX2_digestLighters_7 rfl rfl rfl ?_
    refine x_get (q := 11) C 0 dX2_digestLighters_8 ((oX2 aH aN aF aT aG).L) rfl iuX2_digestLighters_X2 flX2_digestLighters_12 rfl (by decide) rfl rfl ?_
    refine x_get (q := 14) C 12 dX2_digestLighters_11 (((((oX1 y aT T).R).R).R).R) rfl iuX2_digestLighters_X1 flX2_digestLighters_76 rfl (by decide) rfl rfl ?_
    refine x_icmp_ge (t := 100) (q := 17) C dX2_digestLighters_14 (by decide) rfl (fun hc => ?_) (fun hc => ?_)
    · have hf := (if_pos hc).symm.trans hf
      refine x_lload_n (q := 101) C 1 dX2_digestLighters_100 rfl rfl rfl ?_
      have hf := Option.some.inj hf
      exact xx_lret () C dX2_digestLighters_101 rfl hf.symm rfl (Nat.zero_le _) (Nat.zero_le _)
    · have hf := (if_neg hc).symm.trans hf
      refine x_iconst (q := 18) C dX2_digestLighters_17 ki_0 rfl ?_
      refine x_istore (q := 20) C [1, 2, 3, 0] [(0, .ref aH), (3, .long v1), (5, .int v2), (6, .int 0)] dX2_digestLighters_18 (by decide) rfl rfl ?_
      refine w2_digestLighters_L20 C hst hT hE hmc (fun v5 hf => ?_) xF v1 0 hf
      refine x_iconst (q := 50) C dX2_digestLighters_49 ki_0 rfl ?_
      refine x_istore (q := 52) C [1, 2, 3, 0] [(0, .ref aH), (3, .long v5), (5, .int v2), (6, .int 0)] dX2_digestLighters_50 (by decide) rfl rfl ?_
      refine w2_digestLighters_L52 C hst hT hE hmc (fun v12 hf => ?_) xF v5 0 hf
      refine x_iinc (q := 97) C 2 (v2 + 1) [1, 2, 0] [(0, .ref aH), (3, .long v12), (5, .int (v2 + 1))] dX2_digestLighters_94 rfl (congrArg (fun z => v2 + z) ki_1) (by decide) rfl rfl ?_
      refine x_goto (t := 5) C dX2_digestLighters_97 (by decide) ?_
      exact ih v12 (v2 + 1) hf
set_option maxHeartbeats 4000000 in
set_option maxRecDepth 100000 in
theorem c2_digestLighters {l : Launch} {D : va_G} {y : Nat → ClassId} {aH : Nat} {aG aN aF aT : Nat → Nat} {G : St} {N : St} {F : St} {T : St} {p1 : Int64} {o : Nat ⊕ (Int64)} {mc ms : Nat} (hst : l.stackTraces = false) (hmc : ∀ i, o = .inl i → 1 ≤ mc ∧ 6 ≤ ms) (hf : f2_digestLighters G N F T p1 = some o) : xNl l yX2_digestLighters wsX2_digestLighters 8 133 mc ms D (xT y) [.ref aH, .long p1] (hC aH aN aF aT aG ++ (gC y aG G ++ (nC y aN N ++ (nC y aF F ++ tC y aT T)))) o (fun (r : Int64) (u : Unit) => r) (fun u : Unit => hC aH aN aF aT aG ++ (gC y aG G ++ (nC y aN N ++ (nC y aF F ++ tC y aT T)))) := by
  refine xNl_of (cc := cX2_digestLighters) (nL := 7) (ret := (some .long)) [(0, .ref aH), (1, .long p1)] hst (by decide) rfl (Nat.le_of_ble_eq_true rfl) rfl ?_
  intro p e s m args below meth c A C hT hE
  have C : xC p s m args meth c D A cX2_digestLighters RX2 7 wsX2_digestLighters (xT y) (some .long) := C
  unfold f2_digestLighters at hf
  refine x_lload_n (q := 1) C 1 dX2_digestLighters_0 rfl rfl rfl ?_
  refine x_lstore_n (q := 2) C [1, 0] [(0, .ref aH), (3, .long p1)] dX2_digestLighters_1 rfl (by decide) rfl rfl ?_
  refine x_iconst (q := 3) C dX2_digestLighters_2 ki_0 rfl ?_
  refine x_istore (q := 5) C [1, 2, 0] [(0, .ref aH), (3, .long p1), (5, .int 0)] dX2_digestLighters_3 (by decide) rfl rfl ?_
  exact w2_digestLighters_L5 C hst hT hE hmc xF p1 0 hf

/-! LampHills.digest()J -/
theorem kX2_digest_206 : Cond.constantLong RX2 206 (941) ∈ wsX2_digest := by decide +kernel
theorem kX2_digest_208 : Cond.constantLong RX2 208 (31) ∈ wsX2_digest := by decide +kernel
theorem flX2_digest_12 : Cond.fieldLink RX2 12 "LampHills" "town" "LLampHills$Town;" ∈ wsX2_digest := by decide +kernel
theorem flX2_digest_73 : Cond.fieldLink RX2 73 "LampHills$Town" "wind" "[I" ∈ wsX2_digest := by decide +kernel
theorem iuX2_digest_X1 : ∀ w ∈ u_ws RX1 TX1 17, w ∈ wsX2_digest := fun _ h => List.mem_cons_of_mem _ (List.mem_append_left _ (List.mem_append_left _ (List.mem_append_right _ h)))
theorem iuX2_digest_X2 : ∀ w ∈ u_ws RX2 TX2 4, w ∈ wsX2_digest := fun _ h => List.mem_cons_of_mem _ (List.mem_append_left _ (List.mem_append_left _ (List.mem_append_left _ (List.mem_append_right _ h))))
theorem yi_X2_count : xY yX2_count wsX2_count cX2_count 2 (some .int) 1 := ⟨⟨_, rfl⟩, by decide +kernel, by decide +kernel, by decide +kernel⟩
theorem yi_X2_digestLamps : xY yX2_digestLamps wsX2_digestLamps cX2_digestLamps 7 (some .long) 1 := ⟨⟨_, rfl⟩, by decide +kernel, by decide +kernel, by decide +kernel⟩
theorem yi_X2_digestLighters : xY yX2_digestLighters wsX2_digestLighters cX2_digestLighters 7 (some .long) 1 := ⟨⟨_, rfl⟩, by decide +kernel, by decide +kernel, by decide +kernel⟩
theorem yi_X2_digestStreets : xY yX2_digestStreets wsX2_digestStreets cX2_digestStreets 6 (some .long) 1 := ⟨⟨_, rfl⟩, by decide +kernel, by decide +kernel, by decide +kernel⟩
def f2_digest_L6 (G : St) (N : St) (F : St) (T : St) (K : Int64 → Option (Nat ⊕ (Int64))) : Nat → Int64 → Int32 → Option (Nat ⊕ (Int64))
  | 0, _, _ => none
  | fu + 1, v1, v2 =>
  if 10 ≤ v2 then
  (
    K v1
  )
  else
  (
    bx1 (f2_count G N F T v2) fun v4 =>
    lt_ ((v1 * 31) + (v4.toInt64)) fun v7 =>
    f2_digest_L6 G N F T K fu v7 (v2 + 1)
  )
def f2_digest_L51 (T : St) : Nat → Int64 → Int32 → Option (Nat ⊕ (Int64))
  | 0, _, _ => none
  | fu + 1, v17, v18 =>
  if 10 ≤ v18 then
  (
    some (.inr v17)
  )
  else
  (
    gd (xin v18 10) <|
    lt_ ((v17 * 31) + ((T 11 v18.toNatClampNeg).toInt64)) fun v20 =>
    f2_digest_L51 T fu v20 (v18 + 1)
  )
def f2_digest (G : St) (N : St) (F : St) (T : St) : Option (Nat ⊕ (Int64)) :=
  f2_digest_L6 G N F T (fun (v3 : Int64) =>
  (
    bx1 (f2_digestStreets G N F T v3) fun v8 =>
    bx1 (f2_digestLamps G N F T v8) fun v11 =>
    bx1 (f2_digestLighters G N F T v11) fun v14 =>
    f2_digest_L51 T xF v14 0
  )
  ) xF 941 0
set_option maxHeartbeats 4000000 in
set_option maxRecDepth 100000 in
theorem w2_digest_L6 {p : Program} {l : Launch} {e : Env} {s : State} {m : MethodId} {args : Array Value} {below : List Frame} {meth : Method} {c : Code} {D : va_G} {A : Nat → Prop} {y : Nat → ClassId} {aH : Nat} {aG aN aF aT : Nat → Nat} {G : St} {N : St} {F : St} {T : St} {o : Nat ⊕ (Int64)} {mc : Nat} {ms : Nat} {K : Int64 → Option (Nat ⊕ (Int64))} (C : xC p s m args meth c D A cX2_digest RX2 4 wsX2_digest (xT y) (some .long)) (hst : l.stackTraces = false) (hT : xT2 l s A) (hE : ∀ x ∈ c.exceptionTable.toList, False) (hmc : ∀ i, o = .inl i → 1 ≤ mc ∧ 6 ≤ ms) (hK : ∀ (v3 : Int64), K v3 = some o → xV p l e { frames := 9, cells := mc, slots := ms, locals := 159 } s m args below meth c D A (xQN D (xT y) A (va_Ql (fun (r : Int64) (u : Unit) => o = .inr ((fun (r : Int64) (u : Unit) => r) r u)) (fun u t => xE D (xT y) A ((fun u : Unit => hC aH aN aF aT aG ++ (gC y aG G ++ (nC y aN N ++ (nC y aF F ++ tC y aT T)))) u) t) A) o (hC aH aN aF aT aG ++ (gC y aG G ++ (nC y aN N ++ (nC y aF F ++ tC y aT T)))) mc ms below args s) 4 (hC aH aN aF aT aG ++ (gC y aG G ++ (nC y aN N ++ (nC y aF F ++ tC y aT T)))) 0 0 [(0, .ref aH), (1, .long v3)] 31 []) : ∀ (fu : Nat) (v1 : Int64) (v2 : Int32), f2_digest_L6 G N F T K fu v1 v2 = some o → xV p l e { frames := 9, cells := mc, slots := ms, locals := 159 } s m args below meth c D A (xQN D (xT y) A (va_Ql (fun (r : Int64) (u : Unit) => o = .inr ((fun (r : Int64) (u : Unit) => r) r u)) (fun u t => xE D (xT y) A ((fun u : Unit => hC aH aN aF aT aG ++ (gC y aG G ++ (nC y aN N ++ (nC y aF F ++ tC y aT T)))) u) t) A) o (hC aH aN aF aT aG ++ (gC y aG G ++ (nC y aN N ++ (nC y aF F ++ tC y aT T)))) mc ms below args s) 4 (hC aH aN aF aT aG ++ (gC y aG G ++ (nC y aN N ++ (nC y aF F ++ tC y aT T)))) 0 0 [(0, .ref aH), (1, .long v1), (3, .int v2)] 6 [] := by
  intro fu
  induction fu with
  | zero => intro v1 v2 hf; rw [f2_digest_L6] at hf; cases hf
  | succ fu ih =>
    intro v1 v2 hf
    rw [f2_digest_L6] at hf
    refine x_iload_n (q := 7) C 2 dX2_digest_6 rfl rfl rfl ?_
    refine x_bipush (q := 9) C dX2_digest_7 kb_10 rfl ?_
    refine x_icmp_ge (t := 31) (q := 12) C dX2_digest_9 (by decide) rfl (fun hc => ?_) (fun hc => ?_)
    · have hf := (if_pos hc).symm.trans hf
      refine x_sub [0, 1] (L' := [(0, .ref aH), (1, .long v1)]) rfl ?_
      exact hK v1 hf
    · have hf := (if_neg hc).symm.trans hf
      refine x_lload_n (q := 13) C 1 dX2_digest_12 rfl rfl rfl ?_
      refine x_ldc2 (q := 16) C dX2_digest_13 kX2_digest_208 rfl ?_
      refine x_lmul (q := 17) C dX2_digest_16 rfl ?_
      refine x_aload_n (q := 18) C 0 dX2_digest_17 rfl rfl rfl ?_
      refine x_iload_n (q := 19) C 2 dX2_digest_18 rfl rfl rfl ?_
      rcases bx1_some hf with ⟨i, hcal5, ho⟩ | ⟨v4, hcal5, hf⟩
      · obtain ⟨h1, h2⟩ := hmc i ho
        exact x_callTVi C hT (c2_count (l := l) (D := D) (y := y) (aH := aH) (aG := aG) (aN := aN) (aF := aF) (aT := aT) (mc := 1) (ms := 6) hst (fun _ _ => ⟨Nat.le_refl _, Nat.le_refl _⟩) hcal5) rfl ho rfl hE yi_X2_count gX2_digest_X2_count rfl ((oX2 aH aN aF aT aG).L) rfl ⟨(Nat.le_of_ble_eq_true rfl), (Nat.le_of_ble_eq_true rfl)⟩ dX2_digest_19 pm_nil rfl rfl (Nat.le_of_ble_eq_true rfl) ⟨h1, h2⟩ h1 h2
      · refine x_callRVi (q := 22) C hT (c2_count (l := l) (D := D) (y := y) (aH := aH) (aG := aG) (aN := aN) (aF := aF) (aT := aT) (mc := 0) (ms := 0) hst (fun _ h => by cases h) hcal5) (fun _ h => by cases h) yi_X2_count gX2_digest_X2_count rfl ((oX2 aH aN aF aT aG).L) rfl ⟨(Nat.le_of_ble_eq_true rfl), (Nat.le_of_ble_eq_true rfl)⟩ dX2_digest_19 pm_nil rfl rfl (Nat.le_of_ble_eq_true rfl) ⟨Nat.zero_le _, Nat.zero_le _⟩ rfl ?_
        intro rr6 uu hrr
        have hrr : v4 = rr6 := Sum.inr.inj hrr
        subst hrr
        refine x_world (ws' := hC aH aN aF aT aG ++ (gC y aG G ++ (nC y aN N ++ (nC y aF F ++ tC y aT T)))) (List.append_nil _) ?_
        refine x_i2l (q := 23) C dX2_digest_22 rfl ?_
        refine x_ladd (q := 24) C dX2_digest_23 rfl ?_
        obtain ⟨v7, ev7, hf⟩ := lt_elim hf
        refine x_topl ev7 ?_
        refine x_lstore_n (q := 25) C [1, 0, 2] [(0, .ref aH), (1, .long v7), (3, .int v2)] dX2_digest_24 rfl (by decide) rfl rfl ?_
        refine x_iinc (q := 28) C 2 (v2 + 1) [1, 2, 0] [(0, .ref aH), (1, .long v7), (3, .int (v2 + 1))] dX2_digest_25 rfl (congrArg (fun z => v2 + z) ki_1) (by decide) rfl rfl ?_
        refine x_goto (t := 6) C dX2_digest_28 (by decide) ?_
        exact ih v7 (v2 + 1) hf
set_option maxHeartbeats 4000000 in
set_option maxRecDepth 100000 in
theorem w2_digest_L51 {p : Program} {l : Launch} {e : Env} {s : State} {m : MethodId} {args : Array Value} {below : List Frame} {meth : Method} {c : Code} {D : va_G} {A : Nat → Prop} {y : Nat → ClassId} {aH : Nat} {aG aN aF aT : Nat → Nat} {G : St} {N : St} {F : St} {T : St} {o : Nat ⊕ (Int64)} {mc : Nat} {ms : Nat} (C : xC p s m args meth c D A cX2_digest RX2 4 wsX2_digest (xT y) (some .long)) (hst : l.stackTraces = false) (hT : xT2 l s A) (hE : ∀ x ∈ c.exceptionTable.toList, False) (hmc : ∀ i, o = .inl i → 1 ≤ mc ∧ 6 ≤ ms) : ∀ (fu : Nat) (v17 : Int64) (v18 : Int32), f2_digest_L51 T fu v17 v18 = some o → xV p l e { frames := 9, cells := mc, slots := ms, locals := 159 } s m args below meth c D A (xQN D (xT y) A (va_Ql (fun (r : Int64) (u : Unit) => o = .inr ((fun (r : Int64) (u : Unit) => r) r u)) (fun u t => xE D (xT y) A ((fun u : Unit => hC aH aN aF aT aG ++ (gC y aG G ++ (nC y aN N ++ (nC y aF F ++ tC y aT T)))) u) t) A) o (hC aH aN aF aT aG ++ (gC y aG G ++ (nC y aN N ++ (nC y aF F ++ tC y aT T)))) mc ms below args s) 4 (hC aH aN aF aT aG ++ (gC y aG G ++ (nC y aN N ++ (nC y aF F ++ tC y aT T)))) 0 0 [(0, .ref aH), (1, .long v17), (3, .int v18)] 51 [] := by
  intro fu
  induction fu with
  | zero => intro v17 v18 hf; rw [f2_digest_L51] at hf; cases hf
  | succ fu ih =>
    intro v17 v18 hf
    rw [f2_digest_L51] at hf
    refine x_iload_n (q := 52) C 2 dX2_digest_51 rfl rfl rfl ?_
    refine x_bipush (q := 54) C dX2_digest_52 kb_10 rfl ?_
    refine x_icmp_ge (t := 80) (q := 57) C dX2_digest_54 (by decide) rfl (fun hc => ?_) (fun hc => ?_)
    · have hf := (if_pos hc).symm.trans hf
      refine x_lload_n (q := 81) C 1 dX2_digest_80 rfl rfl rfl ?_
      have hf := Option.some.inj hf
      exact xx_lret () C dX2_digest_81 rfl hf.symm rfl (Nat.zero_le _) (Nat.zero_le _)
    · have hf := (if_neg hc).symm.trans hf
      refine x_lload_n (q := 58) C 1 dX2_digest_57 rfl rfl rfl ?_
      refine x_ldc2 (q := 61) C dX2_digest_58 kX2_digest_208 rfl ?_
      refine x_lmul (q := 62) C dX2_digest_61 rfl ?_
      refine x_aload_n (q := 63) C 0 dX2_digest_62 rfl rfl rfl ?_
      refine x_get (q := 66) C 0 dX2_digest_63 ((oX2 aH aN aF aT aG).L) rfl iuX2_digest_X2 flX2_digest_12 rfl (by decide) rfl rfl ?_
      refine x_get (q := 69) C 11 dX2_digest_66 (((((oX1 y aT T).R).R).R).R) rfl iuX2_digest_X1 flX2_digest_73 rfl (by decide) rfl rfl ?_
      refine x_iload_n (q := 70) C 2 dX2_digest_69 rfl rfl rfl ?_
      obtain ⟨hb19, hf⟩ := gd_some hf
      refine x_iald (q := 71) C 0 dX2_digest_70 (((((aX1_11 y aT T).R).R).R).R) rfl hb19 rfl ?_
      refine x_i2l (q := 72) C dX2_digest_71 rfl ?_
      refine x_ladd (q := 73) C dX2_digest_72 rfl ?_
      obtain ⟨v20, ev20, hf⟩ := lt_elim hf
      refine x_topl ev20 ?_
      refine x_lstore_n (q := 74) C [1, 0, 2] [(0, .ref aH), (1, .long v20), (3, .int v18)] dX2_digest_73 rfl (by decide) rfl rfl ?_
      refine x_iinc (q := 77) C 2 (v18 + 1) [1, 2, 0] [(0, .ref aH), (1, .long v20), (3, .int (v18 + 1))] dX2_digest_74 rfl (congrArg (fun z => v18 + z) ki_1) (by decide) rfl rfl ?_
      refine x_goto (t := 51) C dX2_digest_77 (by decide) ?_
      exact ih v20 (v18 + 1) hf
set_option maxHeartbeats 4000000 in
set_option maxRecDepth 100000 in
theorem c2_digest {l : Launch} {D : va_G} {y : Nat → ClassId} {aH : Nat} {aG aN aF aT : Nat → Nat} {G : St} {N : St} {F : St} {T : St} {o : Nat ⊕ (Int64)} {mc ms : Nat} (hst : l.stackTraces = false) (hmc : ∀ i, o = .inl i → 1 ≤ mc ∧ 6 ≤ ms) (hf : f2_digest G N F T = some o) : xNl l yX2_digest wsX2_digest 9 159 mc ms D (xT y) [.ref aH] (hC aH aN aF aT aG ++ (gC y aG G ++ (nC y aN N ++ (nC y aF F ++ tC y aT T)))) o (fun (r : Int64) (u : Unit) => r) (fun u : Unit => hC aH aN aF aT aG ++ (gC y aG G ++ (nC y aN N ++ (nC y aF F ++ tC y aT T)))) := by
  refine xNl_of (cc := cX2_digest) (nL := 4) (ret := (some .long)) [(0, .ref aH)] hst (by decide) rfl (Nat.le_of_ble_eq_true rfl) rfl ?_
  intro p e s m args below meth c A C hT hE
  have C : xC p s m args meth c D A cX2_digest RX2 4 wsX2_digest (xT y) (some .long) := C
  unfold f2_digest at hf
  refine x_ldc2 (q := 3) C dX2_digest_0 kX2_digest_206 rfl ?_
  refine x_lstore_n (q := 4) C [1, 0] [(0, .ref aH), (1, .long 941)] dX2_digest_3 rfl (by decide) rfl rfl ?_
  refine x_iconst (q := 5) C dX2_digest_4 ki_0 rfl ?_
  refine x_istore_n (q := 6) C [1, 2, 0] [(0, .ref aH), (1, .long 941), (3, .int 0)] dX2_digest_5 rfl (by decide) rfl rfl ?_
  refine w2_digest_L6 C hst hT hE hmc (fun v3 hf => ?_) xF 941 0 hf
  refine x_aload_n (q := 32) C 0 dX2_digest_31 rfl rfl rfl ?_
  refine x_lload_n (q := 33) C 1 dX2_digest_32 rfl rfl rfl ?_
  rcases bx1_some hf with ⟨i, hcal9, ho⟩ | ⟨v8, hcal9, hf⟩
  · obtain ⟨h1, h2⟩ := hmc i ho
    exact x_callTVl C hT (c2_digestStreets (l := l) (D := D) (y := y) (aH := aH) (aG := aG) (aN := aN) (aF := aF) (aT := aT) (mc := 1) (ms := 6) hst (fun _ _ => ⟨Nat.le_refl _, Nat.le_refl _⟩) hcal9) rfl ho rfl hE yi_X2_digestStreets gX2_digest_X2_digestStreets rfl ((oX2 aH aN aF aT aG).L) rfl ⟨(Nat.le_of_ble_eq_true rfl), (Nat.le_of_ble_eq_true rfl)⟩ dX2_digest_33 pm_nil rfl rfl (Nat.le_of_ble_eq_true rfl) ⟨h1, h2⟩ h1 h2
  · refine x_callRVl (q := 36) C hT (c2_digestStreets (l := l) (D := D) (y := y) (aH := aH) (aG := aG) (aN := aN) (aF := aF) (aT := aT) (mc := 0) (ms := 0) hst (fun _ h => by cases h) hcal9) (fun _ h => by cases h) yi_X2_digestStreets gX2_digest_X2_digestStreets rfl ((oX2 aH aN aF aT aG).L) rfl ⟨(Nat.le_of_ble_eq_true rfl), (Nat.le_of_ble_eq_true rfl)⟩ dX2_digest_33 pm_nil rfl rfl (Nat.le_of_ble_eq_true rfl) ⟨Nat.zero_le _, Nat.zero_le _⟩ rfl ?_
    intro rr10 uu hrr
    have hrr : v8 = rr10 := Sum.inr.inj hrr
    subst hrr
    refine x_world (ws' := hC aH aN aF aT aG ++ (gC y aG G ++ (nC y aN N ++ (nC y aF F ++ tC y aT T)))) (List.append_nil _) ?_
    refine x_lstore_n (q := 37) C [1, 0] [(0, .ref aH), (1, .long v8)] dX2_digest_36 rfl (by decide) rfl rfl ?_
    refine x_aload_n (q := 38) C 0 dX2_digest_37 rfl rfl rfl ?_
    refine x_lload_n (q := 39) C 1 dX2_digest_38 rfl rfl rfl ?_
    rcases bx1_some hf with ⟨i, hcal12, ho⟩ | ⟨v11, hcal12, hf⟩
    · obtain ⟨h1, h2⟩ := hmc i ho
      exact x_callTVl C hT (c2_digestLamps (l := l) (D := D) (y := y) (aH := aH) (aG := aG) (aN := aN) (aF := aF) (aT := aT) (mc := 1) (ms := 6) hst (fun _ _ => ⟨Nat.le_refl _, Nat.le_refl _⟩) hcal12) rfl ho rfl hE yi_X2_digestLamps gX2_digest_X2_digestLamps rfl ((oX2 aH aN aF aT aG).L) rfl ⟨(Nat.le_of_ble_eq_true rfl), (Nat.le_of_ble_eq_true rfl)⟩ dX2_digest_39 pm_nil rfl rfl (Nat.le_of_ble_eq_true rfl) ⟨h1, h2⟩ h1 h2
    · refine x_callRVl (q := 42) C hT (c2_digestLamps (l := l) (D := D) (y := y) (aH := aH) (aG := aG) (aN := aN) (aF := aF) (aT := aT) (mc := 0) (ms := 0) hst (fun _ h => by cases h) hcal12) (fun _ h => by cases h) yi_X2_digestLamps gX2_digest_X2_digestLamps rfl ((oX2 aH aN aF aT aG).L) rfl ⟨(Nat.le_of_ble_eq_true rfl), (Nat.le_of_ble_eq_true rfl)⟩ dX2_digest_39 pm_nil rfl rfl (Nat.le_of_ble_eq_true rfl) ⟨Nat.zero_le _, Nat.zero_le _⟩ rfl ?_
      intro rr13 uu hrr
      have hrr : v11 = rr13 := Sum.inr.inj hrr
      subst hrr
      refine x_world (ws' := hC aH aN aF aT aG ++ (gC y aG G ++ (nC y aN N ++ (nC y aF F ++ tC y aT T)))) (List.append_nil _) ?_
      refine x_lstore_n (q := 43) C [1, 0] [(0, .ref aH), (1, .long v11)] dX2_digest_42 rfl (by decide) rfl rfl ?_
      refine x_aload_n (q := 44) C 0 dX2_digest_43 rfl rfl rfl ?_
      refine x_lload_n (q := 45) C 1 dX2_digest_44 rfl rfl rfl ?_
      rcases bx1_some hf with ⟨i, hcal15, ho⟩ | ⟨v14, hcal15, hf⟩
      · obtain ⟨h1, h2⟩ := hmc i ho
        exact x_callTVl C hT (c2_digestLighters (l := l) (D := D) (y := y) (aH := aH) (aG := aG) (aN := aN) (aF := aF) (aT := aT) (mc := 1) (ms := 6) hst (fun _ _ => ⟨Nat.le_refl _, Nat.le_refl _⟩) hcal15) rfl ho rfl hE yi_X2_digestLighters gX2_digest_X2_digestLighters rfl ((oX2 aH aN aF aT aG).L) rfl ⟨(Nat.le_of_ble_eq_true rfl), (Nat.le_of_ble_eq_true rfl)⟩ dX2_digest_45 pm_nil rfl rfl (Nat.le_of_ble_eq_true rfl) ⟨h1, h2⟩ h1 h2
      · refine x_callRVl (q := 48) C hT (c2_digestLighters (l := l) (D := D) (y := y) (aH := aH) (aG := aG) (aN := aN) (aF := aF) (aT := aT) (mc := 0) (ms := 0) hst (fun _ h => by cases h) hcal15) (fun _ h => by cases h) yi_X2_digestLighters gX2_digest_X2_digestLighters rfl ((oX2 aH aN aF aT aG).L) rfl ⟨(Nat.le_of_ble_eq_true rfl), (Nat.le_of_ble_eq_true rfl)⟩ dX2_digest_45 pm_nil rfl rfl (Nat.le_of_ble_eq_true rfl) ⟨Nat.zero_le _, Nat.zero_le _⟩ rfl ?_
        intro rr16 uu hrr
        have hrr : v14 = rr16 := Sum.inr.inj hrr
        subst hrr
        refine x_world (ws' := hC aH aN aF aT aG ++ (gC y aG G ++ (nC y aN N ++ (nC y aF F ++ tC y aT T)))) (List.append_nil _) ?_
        refine x_lstore_n (q := 49) C [1, 0] [(0, .ref aH), (1, .long v14)] dX2_digest_48 rfl (by decide) rfl rfl ?_
        refine x_iconst (q := 50) C dX2_digest_49 ki_0 rfl ?_
        refine x_istore_n (q := 51) C [1, 2, 0] [(0, .ref aH), (1, .long v14), (3, .int 0)] dX2_digest_50 rfl (by decide) rfl rfl ?_
        exact w2_digest_L51 C hst hT hE hmc xF v14 0 hf
