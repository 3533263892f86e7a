/-! LampHills.requireIndex(II)V -/
def f2_requireIndex (p1 : Int32) (p2 : Int32) : Option (Nat ⊕ (Unit)) :=
  lt_ (fun (u_ : Unit) =>
  (
    some (.inl 3)
  )
  ) fun J9 =>
  if p1 < 0 then
  (
    J9 ()
  )
  else
  (
    if p1 < p2 then
    (
      some (.inr ())
    )
    else
    (
      J9 ()
    )
  )
set_option maxHeartbeats 4000000 in
set_option maxRecDepth 100000 in
theorem c2_requireIndex {l : Launch} {D : va_G} {y : Nat → ClassId} {p1 : Int32} {p2 : Int32} (hf : f2_requireIndex p1 p2 = some (.inr ())) : xMv l yX2_requireIndex wsX2_requireIndex 6 90 0 0 D (xT y) [.int p1, .int p2] ([]) (fun (_ : Unit) => True) (fun _ : Unit => []) := by
  refine xMv_of (cc := cX2_requireIndex) (nL := 2) (ret := none) [(0, .int p1), (1, .int p2)] (by decide) rfl (Nat.le_of_ble_eq_true rfl) rfl ?_
  intro p e s m args below meth c A C hin
  have C : xC p s m args meth c D A cX2_requireIndex RX2 2 wsX2_requireIndex (xT y) none := C
  unfold f2_requireIndex at hf
  refine x_iload_n (q := 1) C 0 dX2_requireIndex_0 rfl rfl rfl ?_
  obtain ⟨J9, eJ9, hf⟩ := lt_elim hf
  have hJ9 : ∀ (u_ : Unit), J9 u_ = some (.inr ()) → xV p l e { frames := 6, cells := 0, slots := 0, locals := 90 } s m args below meth c D A (xQv D (xT y) A (fun (_ : Unit) => True) (fun _ : Unit => []) 0 0 below args s) 2 ([]) 0 0 [] 9 [] := by
    intro u_ hf
    subst eJ9
    cases hf
  refine x_if_lt (t := 9) (q := 4) C dX2_requireIndex_1 (by decide) rfl (fun hc => ?_) (fun hc => ?_)
  · have hf := (if_pos hc).symm.trans hf
    refine x_sub [] (L' := []) rfl ?_
    exact hJ9 () hf
  · have hf := (if_neg hc).symm.trans hf
    refine x_iload_n (q := 5) C 0 dX2_requireIndex_4 rfl rfl rfl ?_
    refine x_iload_n (q := 6) C 1 dX2_requireIndex_5 rfl rfl rfl ?_
    refine x_icmp_lt (t := 19) (q := 9) C dX2_requireIndex_6 (by decide) rfl (fun hc => ?_) (fun hc => ?_)
    · have hf := (if_pos hc).symm.trans hf
      have hf := Sum.inr.inj (Option.some.inj hf)
      exact x_vret () C dX2_requireIndex_19 rfl trivial rfl (Nat.le_of_ble_eq_true rfl) (Nat.le_of_ble_eq_true rfl)
    · have hf := (if_neg hc).symm.trans hf
      refine x_sub [] (L' := []) rfl ?_
      exact hJ9 () hf

/-! LampHills.requireRange(III)V -/
def f2_requireRange (p1 : Int32) (p2 : Int32) (p3 : Int32) : Option (Nat ⊕ (Unit)) :=
  lt_ (fun (u_ : Unit) =>
  (
    some (.inl 1)
  )
  ) fun J10 =>
  if p1 < p2 then
  (
    J10 ()
  )
  else
  (
    if p1 ≤ p3 then
    (
      some (.inr ())
    )
    else
    (
      J10 ()
    )
  )
set_option maxHeartbeats 4000000 in
set_option maxRecDepth 100000 in
theorem c2_requireRange {l : Launch} {D : va_G} {y : Nat → ClassId} {p1 : Int32} {p2 : Int32} {p3 : Int32} (hf : f2_requireRange p1 p2 p3 = some (.inr ())) : xMv l yX2_requireRange wsX2_requireRange 6 90 0 0 D (xT y) [.int p1, .int p2, .int p3] ([]) (fun (_ : Unit) => True) (fun _ : Unit => []) := by
  refine xMv_of (cc := cX2_requireRange) (nL := 3) (ret := none) [(0, .int p1), (1, .int p2), (2, .int p3)] (by decide) rfl (Nat.le_of_ble_eq_true rfl) rfl ?_
  intro p e s m args below meth c A C hin
  have C : xC p s m args meth c D A cX2_requireRange RX2 3 wsX2_requireRange (xT y) none := C
  unfold f2_requireRange at hf
  refine x_iload_n (q := 1) C 0 dX2_requireRange_0 rfl rfl rfl ?_
  refine x_iload_n (q := 2) C 1 dX2_requireRange_1 rfl rfl rfl ?_
  obtain ⟨J10, eJ10, hf⟩ := lt_elim hf
  have hJ10 : ∀ (u_ : Unit), J10 u_ = some (.inr ()) → xV p l e { frames := 6, cells := 0, slots := 0, locals := 90 } s m args below meth c D A (xQv D (xT y) A (fun (_ : Unit) => True) (fun _ : Unit => []) 0 0 below args s) 3 ([]) 0 0 [] 10 [] := by
    intro u_ hf
    subst eJ10
    cases hf
  refine x_icmp_lt (t := 10) (q := 5) C dX2_requireRange_2 (by decide) rfl (fun hc => ?_) (fun hc => ?_)
  · have hf := (if_pos hc).symm.trans hf
    refine x_sub [] (L' := []) rfl ?_
    exact hJ10 () hf
  · have hf := (if_neg hc).symm.trans hf
    refine x_iload_n (q := 6) C 0 dX2_requireRange_5 rfl rfl rfl ?_
    refine x_iload_n (q := 7) C 2 dX2_requireRange_6 rfl rfl rfl ?_
    refine x_icmp_le (t := 20) (q := 10) C dX2_requireRange_7 (by decide) rfl (fun hc => ?_) (fun hc => ?_)
    · have hf := (if_pos hc).symm.trans hf
      have hf := Sum.inr.inj (Option.some.inj hf)
      exact x_vret () C dX2_requireRange_20 rfl trivial rfl (Nat.le_of_ble_eq_true rfl) (Nat.le_of_ble_eq_true rfl)
    · have hf := (if_neg hc).symm.trans hf
      refine x_sub [] (L' := []) rfl ?_
      exact hJ10 () hf

/-! LampHills.requireRoom(II)V -/
def f2_requireRoom (p1 : Int32) (p2 : Int32) : Option (Nat ⊕ (Unit)) :=
  if p1 < p2 then
  (
    some (.inr ())
  )
  else
  (
    some (.inl 2)
  )
set_option maxHeartbeats 4000000 in
set_option maxRecDepth 100000 in
theorem c2_requireRoom {l : Launch} {D : va_G} {y : Nat → ClassId} {p1 : Int32} {p2 : Int32} (hf : f2_requireRoom p1 p2 = some (.inr ())) : xMv l yX2_requireRoom wsX2_requireRoom 6 90 0 0 D (xT y) [.int p1, .int p2] ([]) (fun (_ : Unit) => True) (fun _ : Unit => []) := by
  refine xMv_of (cc := cX2_requireRoom) (nL := 2) (ret := none) [(0, .int p1), (1, .int p2)] (by decide) rfl (Nat.le_of_ble_eq_true rfl) rfl ?_
  intro p e s m args below meth c A C hin
  have C : xC p s m args meth c D A cX2_requireRoom RX2 2 wsX2_requireRoom (xT y) none := C
  unfold f2_requireRoom at hf
  refine x_iload_n (q := 1) C 0 dX2_requireRoom_0 rfl rfl rfl ?_
  refine x_iload_n (q := 2) C 1 dX2_requireRoom_1 rfl rfl rfl ?_
  refine x_icmp_lt (t := 15) (q := 5) C dX2_requireRoom_2 (by decide) rfl (fun hc => ?_) (fun hc => ?_)
  · have hf := (if_pos hc).symm.trans hf
    have hf := Sum.inr.inj (Option.some.inj hf)
    exact x_vret () C dX2_requireRoom_15 rfl trivial rfl (Nat.le_of_ble_eq_true rfl) (Nat.le_of_ble_eq_true rfl)
  · have hf := (if_neg hc).symm.trans hf
    cases hf

/-! LampHills.corner(I)I -/
theorem kb_12 : (Int8.ofInt 12).toInt32 = 12 := by decide
theorem flX2_corner_12 : Cond.fieldLink RX2 12 "LampHills" "town" "LLampHills$Town;" ∈ wsX2_corner := by decide +kernel
theorem flX2_corner_34 : Cond.fieldLink RX2 34 "LampHills$Town" "corners" "I" ∈ wsX2_corner := by decide +kernel
theorem iuX2_corner_X1 : ∀ w ∈ u_ws RX1 TX1 17, w ∈ wsX2_corner := fun _ h => List.mem_cons_of_mem _ (List.mem_append_left _ (List.mem_append_left _ (List.mem_append_right _ h)))
theorem iuX2_corner_X2 : ∀ w ∈ u_ws RX2 TX2 4, w ∈ wsX2_corner := fun _ h => List.mem_cons_of_mem _ (List.mem_append_left _ (List.mem_append_left _ (List.mem_append_left _ (List.mem_append_right _ h))))
theorem yi_X1_addCorner : xY yX1_addCorner wsX1_addCorner cX1_addCorner 4 (some .int) 1 := ⟨⟨_, rfl⟩, by decide +kernel, by decide +kernel, by decide +kernel⟩
theorem yi_X2_requireRange : xY yX2_requireRange wsX2_requireRange cX2_requireRange 3 none 3 := ⟨⟨_, rfl⟩, by decide +kernel, by decide +kernel, by decide +kernel⟩
theorem yi_X2_requireRoom : xY yX2_requireRoom wsX2_requireRoom cX2_requireRoom 2 none 2 := ⟨⟨_, rfl⟩, by decide +kernel, by decide +kernel, by decide +kernel⟩
def f2_corner (G : St) (N : St) (F : St) (T : St) (p1 : Int32) : Option (Nat ⊕ (Int32 × St)) :=
  bx0 (f2_requireRange p1 0 30) <|
  bx0 (f2_requireRoom (T 0 0) 12) <|
  bd2 (f1_addCorner T p1) fun v3 T4 =>
  some (.inr (v3, T4))
set_option maxHeartbeats 4000000 in
set_option maxRecDepth 100000 in
theorem c2_corner {l : Launch} {D : va_G} {y : Nat → ClassId} {aH : Nat} {aG aN aF aT : Nat → Nat} {G : St} {N : St} {F : St} {T : St} {p1 : Int32} {r : Int32} {T' : St} (hf : f2_corner G N F T p1 = some (.inr (r, T'))) : xMi l yX2_corner wsX2_corner 7 112 0 0 D (xT y) [.ref aH, .int p1] (hC aH aN aF aT aG ++ (gC y aG G ++ (nC y aN N ++ (nC y aF F ++ tC y aT T)))) (fun (r' : Int32) (_ : Unit) => r' = r) (fun _ : Unit => hC aH aN aF aT aG ++ (gC y aG G ++ (nC y aN N ++ (nC y aF F ++ tC y aT T')))) := by
  refine xMi_of (cc := cX2_corner) (nL := 2) (ret := (some .int)) [(0, .ref aH), (1, .int p1)] (by decide) rfl (Nat.le_of_ble_eq_true rfl) rfl ?_
  intro p e s m args below meth c A C hin
  have C : xC p s m args meth c D A cX2_corner RX2 2 wsX2_corner (xT y) (some .int) := C
  unfold f2_corner at hf
  refine x_iload_n (q := 1) C 1 dX2_corner_0 rfl rfl rfl ?_
  refine x_iconst (q := 2) C dX2_corner_1 ki_0 rfl ?_
  refine x_bipush (q := 4) C dX2_corner_2 kb_30 rfl ?_
  obtain ⟨hcal1, hf⟩ := bx0_inr hf
  refine x_callSv (q := 7) C (c2_requireRange (l := l) (D := D) (y := y)  hcal1) yi_X2_requireRange gX2_corner_X2_requireRange ⟨(Nat.le_of_ble_eq_true rfl), (Nat.le_of_ble_eq_true rfl)⟩ dX2_corner_4 pm_emp rfl rfl (Nat.le_of_ble_eq_true rfl) ⟨Nat.le_of_ble_eq_true rfl, Nat.le_of_ble_eq_true rfl⟩ rfl ?_
  intro uu hrr
  refine x_world (ws' := hC aH aN aF aT aG ++ (gC y aG G ++ (nC y aN N ++ (nC y aF F ++ tC y aT T)))) rfl ?_
  refine x_aload_n (q := 8) C 0 dX2_corner_7 rfl rfl rfl ?_
  refine x_get (q := 11) C 0 dX2_corner_8 ((oX2 aH aN aF aT aG).L) rfl iuX2_corner_X2 flX2_corner_12 rfl (by decide) rfl rfl ?_
  refine x_get (q := 14) C 0 dX2_corner_11 (((((oX1 y aT T).R).R).R).R) rfl iuX2_corner_X1 flX2_corner_34 rfl (by decide) rfl rfl ?_
  refine x_bipush (q := 16) C dX2_corner_14 kb_12 rfl ?_
  obtain ⟨hcal2, hf⟩ := bx0_inr hf
  refine x_callSv (q := 19) C (c2_requireRoom (l := l) (D := D) (y := y)  hcal2) yi_X2_requireRoom gX2_corner_X2_requireRoom ⟨(Nat.le_of_ble_eq_true rfl), (Nat.le_of_ble_eq_true rfl)⟩ dX2_corner_16 pm_emp rfl rfl (Nat.le_of_ble_eq_true rfl) ⟨Nat.le_of_ble_eq_true rfl, Nat.le_of_ble_eq_true rfl⟩ rfl ?_
  intro uu hrr
  refine x_world (ws' := hC aH aN aF aT aG ++ (gC y aG G ++ (nC y aN N ++ (nC y aF F ++ tC y aT T)))) rfl ?_
  refine x_aload_n (q := 20) C 0 dX2_corner_19 rfl rfl rfl ?_
  refine x_get (q := 23) C 0 dX2_corner_20 ((oX2 aH aN aF aT aG).L) rfl iuX2_corner_X2 flX2_corner_12 rfl (by decide) rfl rfl ?_
  refine x_iload_n (q := 24) C 1 dX2_corner_23 rfl rfl rfl ?_
  obtain ⟨v3, T4, hcal5, hf⟩ := bd2_some hf
  refine x_callVi (q := 27) C (c1_addCorner (l := l) (D := D) (y := y) (aT := aT) hcal5) yi_X1_addCorner gX2_corner_X1_addCorner rfl (oX1 y aT T) rfl ⟨(Nat.le_of_ble_eq_true rfl), (Nat.le_of_ble_eq_true rfl)⟩ dX2_corner_24 (pm5_4 _ _ _ _ _) rfl rfl (Nat.le_of_ble_eq_true rfl) ⟨Nat.le_of_ble_eq_true rfl, Nat.le_of_ble_eq_true rfl⟩ rfl ?_
  intro rr6 uu hrr
  have hrr : v3 = rr6 := Eq.symm hrr
  subst hrr
  refine x_perm (ws' := hC aH aN aF aT aG ++ (gC y aG G ++ (nC y aN N ++ (nC y aF F ++ tC y aT T4)))) (pm5_4 _ _ _ _ _).symm ?_
  have hf := Sum.inr.inj (Option.some.inj hf)
  obtain ⟨hr0, hr1⟩ := Prod.mk.inj hf
  exact x_iret () C dX2_corner_27 rfl hr0 (congrArg (fun z => hC aH aN aF aT aG ++ (gC y aG G ++ (nC y aN N ++ (nC y aF F ++ tC y aT z)))) hr1) (Nat.le_of_ble_eq_true rfl) (Nat.le_of_ble_eq_true rfl)

/-! LampHills.street(III)I -/
theorem flX2_street_12 : Cond.fieldLink RX2 12 "LampHills" "town" "LLampHills$Town;" ∈ wsX2_street := by decide +kernel
theorem flX2_street_34 : Cond.fieldLink RX2 34 "LampHills$Town" "corners" "I" ∈ wsX2_street := by decide +kernel
theorem flX2_street_56 : Cond.fieldLink RX2 56 "LampHills$Town" "streets" "I" ∈ wsX2_street := by decide +kernel
theorem iuX2_street_X1 : ∀ w ∈ u_ws RX1 TX1 17, w ∈ wsX2_street := fun _ h => List.mem_cons_of_mem _ (List.mem_append_left _ (List.mem_append_left _ (List.mem_append_left _ (List.mem_append_right _ h))))
theorem iuX2_street_X2 : ∀ w ∈ u_ws RX2 TX2 4, w ∈ wsX2_street := fun _ h => List.mem_cons_of_mem _ (List.mem_append_left _ (List.mem_append_left _ (List.mem_append_left _ (List.mem_append_left _ (List.mem_append_right _ h)))))
theorem yi_X1_addStreet : xY yX1_addStreet wsX1_addStreet cX1_addStreet 5 (some .int) 3 := ⟨⟨_, rfl⟩, by decide +kernel, by decide +kernel, by decide +kernel⟩
theorem yi_X2_requireIndex : xY yX2_requireIndex wsX2_requireIndex cX2_requireIndex 2 none 2 := ⟨⟨_, rfl⟩, by decide +kernel, by decide +kernel, by decide +kernel⟩
def f2_street (G : St) (N : St) (F : St) (T : St) (p1 : Int32) (p2 : Int32) (p3 : Int32) : Option (Nat ⊕ (Int32 × St)) :=
  bx0 (f2_requireIndex p1 (T 0 0)) <|
  bx0 (f2_requireIndex p2 (T 0 0)) <|
  if p1 = p2 then
  (
    some (.inl 1)
  )
  else
  (
    bx0 (f2_requireRange p3 1 9) <|
    bx0 (f2_requireRoom (T 3 0) 18) <|
    bd2 (f1_addStreet T p1 p2 p3) fun v5 T6 =>
    some (.inr (v5, T6))
  )
set_option maxHeartbeats 4000000 in
set_option maxRecDepth 100000 in
theorem c2_street {l : Launch} {D : va_G} {y : Nat → ClassId} {aH : Nat} {aG aN aF aT : Nat → Nat} {G : St} {N : St} {F : St} {T : St} {p1 : Int32} {p2 : Int32} {p3 : Int32} {r : Int32} {T' : St} (hf : f2_street G N F T p1 p2 p3 = some (.inr (r, T'))) : xMi l yX2_street wsX2_street 7 112 0 0 D (xT y) [.ref aH, .int p1, .int p2, .int p3] (hC aH aN aF aT aG ++ (gC y aG G ++ (nC y aN N ++ (nC y aF F ++ tC y aT T)))) (fun (r' : Int32) (_ : Unit) => r' = r) (fun _ : Unit => hC aH aN aF aT aG ++ (gC y aG G ++ (nC y aN N ++ (nC y aF F ++ tC y aT T')))) := by
  refine xMi_of (cc := cX2_street) (nL := 4) (ret := (some .int)) [(0, .ref aH), (1, .int p1), (2, .int p2), (3, .int p3)] (by decide) rfl (Nat.le_of_ble_eq_true rfl) rfl ?_
  intro p e s m args below meth c A C hin
  have C : xC p s m args meth c D A cX2_street RX2 4 wsX2_street (xT y) (some .int) := C
  unfold f2_street at hf
  refine x_iload_n (q := 1) C 1 dX2_street_0 rfl rfl rfl ?_
  refine x_aload_n (q := 2) C 0 dX2_street_1 rfl rfl rfl ?_
  refine x_get (q := 5) C 0 dX2_street_2 ((oX2 aH aN aF aT aG).L) rfl iuX2_street_X2 flX2_street_12 rfl (by decide) rfl rfl ?_
  refine x_get (q := 8) C 0 dX2_street_5 (((((oX1 y aT T).R).R).R).R) rfl iuX2_street_X1 flX2_street_34 rfl (by decide) rfl rfl ?_
  obtain ⟨hcal1, hf⟩ := bx0_inr hf
  refine x_callSv (q := 11) C (c2_requireIndex (l := l) (D := D) (y := y)  hcal1) yi_X2_requireIndex gX2_street_X2_requireIndex ⟨(Nat.le_of_ble_eq_true rfl), (Nat.le_of_ble_eq_true rfl)⟩ dX2_street_8 pm_emp rfl rfl (Nat.le_of_ble_eq_true rfl) ⟨Nat.le_of_ble_eq_true rfl, Nat.le_of_ble_eq_true rfl⟩ rfl ?_
  intro uu hrr
  refine x_world (ws' := hC aH aN aF aT aG ++ (gC y aG G ++ (nC y aN N ++ (nC y aF F ++ tC y aT T)))) rfl ?_
  refine x_iload_n (q := 12) C 2 dX2_street_11 rfl rfl rfl ?_
  refine x_aload_n (q := 13) C 0 dX2_street_12 rfl rfl rfl ?_
  refine x_get (q := 16) C 0 dX2_street_13 ((oX2 aH aN aF aT aG).L) rfl iuX2_street_X2 flX2_street_12 rfl (by decide) rfl rfl ?_
  refine x_get (q := 19) C 0 dX2_street_16 (((((oX1 y aT T).R).R).R).R) rfl iuX2_street_X1 flX2_street_34 rfl (by decide) rfl rfl ?_
  obtain ⟨hcal2, hf⟩ := bx0_inr hf
  refine x_callSv (q := 22) C (c2_requireIndex (l := l) (D := D) (y := y)  hcal2) yi_X2_requireIndex gX2_street_X2_requireIndex ⟨(Nat.le_of_ble_eq_true rfl), (Nat.le_of_ble_eq_true rfl)⟩ dX2_street_19 pm_emp rfl rfl (Nat.le_of_ble_eq_true rfl) ⟨Nat.le_of_ble_eq_true rfl, Nat.le_of_ble_eq_true rfl⟩ rfl ?_
  intro uu hrr
  refine x_world (ws' := hC aH aN aF aT aG ++ (gC y aG G ++ (nC y aN N ++ (nC y aF F ++ tC y aT T)))) rfl ?_
  refine x_iload_n (q := 23) C 1 dX2_street_22 rfl rfl rfl ?_
  refine x_iload_n (q := 24) C 2 dX2_street_23 rfl rfl rfl ?_
  refine x_icmp_ne (t := 37) (q := 27) C dX2_street_24 (by decide) rfl (fun hc => ?_) (fun hc => ?_)
  · have hf := (if_neg hc).symm.trans hf
    refine x_iload_n (q := 38) C 3 dX2_street_37 rfl rfl rfl ?_
    refine x_iconst (q := 39) C dX2_street_38 ki_1 rfl ?_
    refine x_bipush (q := 41) C dX2_street_39 kb_9 rfl ?_
    obtain ⟨hcal3, hf⟩ := bx0_inr hf
    refine x_callSv (q := 44) C (c2_requireRange (l := l) (D := D) (y := y)  hcal3) yi_X2_requireRange gX2_street_X2_requireRange ⟨(Nat.le_of_ble_eq_true rfl), (Nat.le_of_ble_eq_true rfl)⟩ dX2_street_41 pm_emp rfl rfl (Nat.le_of_ble_eq_true rfl) ⟨Nat.le_of_ble_eq_true rfl, Nat.le_of_ble_eq_true rfl⟩ rfl ?_
    intro uu hrr
    refine x_world (ws' := hC aH aN aF aT aG ++ (gC y aG G ++ (nC y aN N ++ (nC y aF F ++ tC y aT T)))) rfl ?_
    refine x_aload_n (q := 45) C 0 dX2_street_44 rfl rfl rfl ?_
    refine x_get (q := 48) C 0 dX2_street_45 ((oX2 aH aN aF aT aG).L) rfl iuX2_street_X2 flX2_street_12 rfl (by decide) rfl rfl ?_
    refine x_get (q := 51) C 3 dX2_street_48 (((((oX1 y aT T).R).R).R).R) rfl iuX2_street_X1 flX2_street_56 rfl (by decide) rfl rfl ?_
    refine x_bipush (q := 53) C dX2_street_51 kb_18 rfl ?_
    obtain ⟨hcal4, hf⟩ := bx0_inr hf
    refine x_callSv (q := 56) C (c2_requireRoom (l := l) (D := D) (y := y)  hcal4) yi_X2_requireRoom gX2_street_X2_requireRoom ⟨(Nat.le_of_ble_eq_true rfl), (Nat.le_of_ble_eq_true rfl)⟩ dX2_street_53 pm_emp rfl rfl (Nat.le_of_ble_eq_true rfl) ⟨Nat.le_of_ble_eq_true rfl, Nat.le_of_ble_eq_true rfl⟩ rfl ?_
    intro uu hrr
    refine x_world (ws' := hC aH aN aF aT aG ++ (gC y aG G ++ (nC y aN N ++ (nC y aF F ++ tC y aT T)))) rfl ?_
    refine x_aload_n (q := 57) C 0 dX2_street_56 rfl rfl rfl ?_
    refine x_get (q := 60) C 0 dX2_street_57 ((oX2 aH aN aF aT aG).L) rfl iuX2_street_X2 flX2_street_12 rfl (by decide) rfl rfl ?_
    refine x_iload_n (q := 61) C 1 dX2_street_60 rfl rfl rfl ?_
    refine x_iload_n (q := 62) C 2 dX2_street_61 rfl rfl rfl ?_
    refine x_iload_n (q := 63) C 3 dX2_street_62 rfl rfl rfl ?_
    obtain ⟨v5, T6, hcal7, hf⟩ := bd2_some hf
    refine x_callVi (q := 66) C (c1_addStreet (l := l) (D := D) (y := y) (aT := aT) hcal7) yi_X1_addStreet gX2_street_X1_addStreet rfl (oX1 y aT T) rfl ⟨(Nat.le_of_ble_eq_true rfl), (Nat.le_of_ble_eq_true rfl)⟩ dX2_street_63 (pm5_4 _ _ _ _ _) rfl rfl (Nat.le_of_ble_eq_true rfl) ⟨Nat.le_of_ble_eq_true rfl, Nat.le_of_ble_eq_true rfl⟩ rfl ?_
    intro rr8 uu hrr
    have hrr : v5 = rr8 := Eq.symm hrr
    subst hrr
    refine x_perm (ws' := hC aH aN aF aT aG ++ (gC y aG G ++ (nC y aN N ++ (nC y aF F ++ tC y aT T6)))) (pm5_4 _ _ _ _ _).symm ?_
    have hf := Sum.inr.inj (Option.some.inj hf)
    obtain ⟨hr0, hr1⟩ := Prod.mk.inj hf
    exact x_iret () C dX2_street_66 rfl hr0 (congrArg (fun z => hC aH aN aF aT aG ++ (gC y aG G ++ (nC y aN N ++ (nC y aF F ++ tC y aT z)))) hr1) (Nat.le_of_ble_eq_true rfl) (Nat.le_of_ble_eq_true rfl)
  · have hf := (if_pos hc).symm.trans hf
    cases hf

/-! LampHills.lamp(II)I -/
theorem flX2_lamp_12 : Cond.fieldLink RX2 12 "LampHills" "town" "LLampHills$Town;" ∈ wsX2_lamp := by decide +kernel
theorem flX2_lamp_56 : Cond.fieldLink RX2 56 "LampHills$Town" "streets" "I" ∈ wsX2_lamp := by decide +kernel
theorem flX2_lamp_63 : Cond.fieldLink RX2 63 "LampHills$Town" "lamps" "I" ∈ wsX2_lamp := by decide +kernel
theorem iuX2_lamp_X1 : ∀ w ∈ u_ws RX1 TX1 17, w ∈ wsX2_lamp := fun _ h => List.mem_cons_of_mem _ (List.mem_append_left _ (List.mem_append_left _ (List.mem_append_left _ (List.mem_append_right _ h))))
theorem iuX2_lamp_X2 : ∀ w ∈ u_ws RX2 TX2 4, w ∈ wsX2_lamp := fun _ h => List.mem_cons_of_mem _ (List.mem_append_left _ (List.mem_append_left _ (List.mem_append_left _ (List.mem_append_left _ (List.mem_append_right _ h)))))
theorem yi_X1_addLamp : xY yX1_addLamp wsX1_addLamp cX1_addLamp 4 (some .int) 2 := ⟨⟨_, rfl⟩, by decide +kernel, by decide +kernel, by decide +kernel⟩
def f2_lamp (G : St) (N : St) (F : St) (T : St) (p1 : Int32) (p2 : Int32) : Option (Nat ⊕ (Int32 × St)) :=
  bx0 (f2_requireIndex p1 (T 3 0)) <|
  bx0 (f2_requireRange p2 2 9) <|
  bx0 (f2_requireRoom (T 7 0) 20) <|
  bd2 (f1_addLamp T p1 p2) fun v4 T5 =>
  some (.inr (v4, T5))
set_option maxHeartbeats 4000000 in
set_option maxRecDepth 100000 in
theorem c2_lamp {l : Launch} {D : va_G} {y : Nat → ClassId} {aH : Nat} {aG aN aF aT : Nat → Nat} {G : St} {N : St} {F : St} {T : St} {p1 : Int32} {p2 : Int32} {r : Int32} {T' : St} (hf : f2_lamp G N F T p1 p2 = some (.inr (r, T'))) : xMi l yX2_lamp wsX2_lamp 7 112 0 0 D (xT y) [.ref aH, .int p1, .int p2] (hC aH aN aF aT aG ++ (gC y aG G ++ (nC y aN N ++ (nC y aF F ++ tC y aT T)))) (fun (r' : Int32) (_ : Unit) => r' = r) (fun _ : Unit => hC aH aN aF aT aG ++ (gC y aG G ++ (nC y aN N ++ (nC y aF F ++ tC y aT T')))) := by
  refine xMi_of (cc := cX2_lamp) (nL := 3) (ret := (some .int)) [(0, .ref aH), (1, .int p1), (2, .int p2)] (by decide) rfl (Nat.le_of_ble_eq_true rfl) rfl ?_
  intro p e s m args below meth c A C hin
  have C : xC p s m args meth c D A cX2_lamp RX2 3 wsX2_lamp (xT y) (some .int) := C
  unfold f2_lamp at hf
  refine x_iload_n (q := 1) C 1 dX2_lamp_0 rfl rfl rfl ?_
  refine x_aload_n (q := 2) C 0 dX2_lamp_1 rfl rfl rfl ?_
  refine x_get (q := 5) C 0 dX2_lamp_2 ((oX2 aH aN aF aT aG).L) rfl iuX2_lamp_X2 flX2_lamp_12 rfl (by decide) rfl rfl ?_
  refine x_get (q := 8) C 3 dX2_lamp_5 (((((oX1 y aT T).R).R).R).R) rfl iuX2_lamp_X1 flX2_lamp_56 rfl (by decide) rfl rfl ?_
  obtain ⟨hcal1, hf⟩ := bx0_inr hf
  refine x_callSv (q := 11) C (c2_requireIndex (l := l) (D := D) (y := y)  hcal1) yi_X2_requireIndex gX2_lamp_X2_requireIndex ⟨(Nat.le_of_ble_eq_true rfl), (Nat.le_of_ble_eq_true rfl)⟩ dX2_lamp_8 pm_emp rfl rfl (Nat.le_of_ble_eq_true rfl) ⟨Nat.le_of_ble_eq_true rfl, Nat.le_of_ble_eq_true rfl⟩ rfl ?_
  intro uu hrr
  refine x_world (ws' := hC aH aN aF aT aG ++ (gC y aG G ++ (nC y aN N ++ (nC y aF F ++ tC y aT T)))) rfl ?_
  refine x_iload_n (q := 12) C 2 dX2_lamp_11 rfl rfl rfl ?_
  refine x_iconst (q := 13) C dX2_lamp_12 ki_2 rfl ?_
  refine x_bipush (q := 15) C dX2_lamp_13 kb_9 rfl ?_
  obtain ⟨hcal2, hf⟩ := bx0_inr hf
  refine x_callSv (q := 18) C (c2_requireRange (l := l) (D := D) (y := y)  hcal2) yi_X2_requireRange gX2_lamp_X2_requireRange ⟨(Nat.le_of_ble_eq_true rfl), (Nat.le_of_ble_eq_true rfl)⟩ dX2_lamp_15 pm_emp rfl rfl (Nat.le_of_ble_eq_true rfl) ⟨Nat.le_of_ble_eq_true rfl, Nat.le_of_ble_eq_true rfl⟩ rfl ?_
  intro uu hrr
  refine x_world (ws' := hC aH aN aF aT aG ++ (gC y aG G ++ (nC y aN N ++ (nC y aF F ++ tC y aT T)))) rfl ?_
  refine x_aload_n (q := 19) C 0 dX2_lamp_18 rfl rfl rfl ?_
  refine x_get (q := 22) C 0 dX2_lamp_19 ((oX2 aH aN aF aT aG).L) rfl iuX2_lamp_X2 flX2_lamp_12 rfl (by decide) rfl rfl ?_
  refine x_get (q := 25) C 7 dX2_lamp_22 (((((oX1 y aT T).R).R).R).R) rfl iuX2_lamp_X1 flX2_lamp_63 rfl (by decide) rfl rfl ?_
  refine x_bipush (q := 27) C dX2_lamp_25 kb_20 rfl ?_
  obtain ⟨hcal3, hf⟩ := bx0_inr hf
  refine x_callSv (q := 30) C (c2_requireRoom (l := l) (D := D) (y := y)  hcal3) yi_X2_requireRoom gX2_lamp_X2_requireRoom ⟨(Nat.le_of_ble_eq_true rfl), (Nat.le_of_ble_eq_true rfl)⟩ dX2_lamp_27 pm_emp rfl rfl (Nat.le_of_ble_eq_true rfl) ⟨Nat.le_of_ble_eq_true rfl, Nat.le_of_ble_eq_true rfl⟩ rfl ?_
  intro uu hrr
  refine x_world (ws' := hC aH aN aF aT aG ++ (gC y aG G ++ (nC y aN N ++ (nC y aF F ++ tC y aT T)))) rfl ?_
  refine x_aload_n (q := 31) C 0 dX2_lamp_30 rfl rfl rfl ?_
  refine x_get (q := 34) C 0 dX2_lamp_31 ((oX2 aH aN aF aT aG).L) rfl iuX2_lamp_X2 flX2_lamp_12 rfl (by decide) rfl rfl ?_
  refine x_iload_n (q := 35) C 1 dX2_lamp_34 rfl rfl rfl ?_
  refine x_iload_n (q := 36) C 2 dX2_lamp_35 rfl rfl rfl ?_
  obtain ⟨v4, T5, hcal6, hf⟩ := bd2_some hf
  refine x_callVi (q := 39) C (c1_addLamp (l := l) (D := D) (y := y) (aT := aT) hcal6) yi_X1_addLamp gX2_lamp_X1_addLamp rfl (oX1 y aT T) rfl ⟨(Nat.le_of_ble_eq_true rfl), (Nat.le_of_ble_eq_true rfl)⟩ dX2_lamp_36 (pm5_4 _ _ _ _ _) rfl rfl (Nat.le_of_ble_eq_true rfl) ⟨Nat.le_of_ble_eq_true rfl, Nat.le_of_ble_eq_true rfl⟩ rfl ?_
  intro rr7 uu hrr
  have hrr : v4 = rr7 := Eq.symm hrr
  subst hrr
  refine x_perm (ws' := hC aH aN aF aT aG ++ (gC y aG G ++ (nC y aN N ++ (nC y aF F ++ tC y aT T5)))) (pm5_4 _ _ _ _ _).symm ?_
  have hf := Sum.inr.inj (Option.some.inj hf)
  obtain ⟨hr0, hr1⟩ := Prod.mk.inj hf
  exact x_iret () C dX2_lamp_39 rfl hr0 (congrArg (fun z => hC aH aN aF aT aG ++ (gC y aG G ++ (nC y aN N ++ (nC y aF F ++ tC y aT z)))) hr1) (Nat.le_of_ble_eq_true rfl) (Nat.le_of_ble_eq_true rfl)

/-! LampHills.lid(II)I -/
theorem flX2_lid_12 : Cond.fieldLink RX2 12 "LampHills" "town" "LLampHills$Town;" ∈ wsX2_lid := by decide +kernel
theorem flX2_lid_63 : Cond.fieldLink RX2 63 "LampHills$Town" "lamps" "I" ∈ wsX2_lid := by decide +kernel
theorem flX2_lid_70 : Cond.fieldLink RX2 70 "LampHills$Town" "lid" "[I" ∈ wsX2_lid := by decide +kernel
theorem iuX2_lid_X1 : ∀ w ∈ u_ws RX1 TX1 17, w ∈ wsX2_lid := fun _ h => List.mem_cons_of_mem _ (List.mem_append_left _ (List.mem_append_left _ (List.mem_append_right _ h)))
theorem iuX2_lid_X2 : ∀ w ∈ u_ws RX2 TX2 4, w ∈ wsX2_lid := fun _ h => List.mem_cons_of_mem _ (List.mem_append_left _ (List.mem_append_left _ (List.mem_append_left _ (List.mem_append_right _ h))))
def f2_lid (G : St) (N : St) (F : St) (T : St) (p1 : Int32) (p2 : Int32) : Option (Nat ⊕ (Int32 × St)) :=
  bx0 (f2_requireIndex p1 (T 7 0)) <|
  bx0 (f2_requireRange p2 0 9) <|
  gd (xin p1 20) <|
  lt_ (T 10 p1.toNatClampNeg) fun v4 =>
  lt_ (up2 T 10 p1.toNatClampNeg p2) fun T5 =>
  some (.inr (v4, T5))
set_option maxHeartbeats 4000000 in
set_option maxRecDepth 100000 in
theorem c2_lid {l : Launch} {D : va_G} {y : Nat → ClassId} {aH : Nat} {aG aN aF aT : Nat → Nat} {G : St} {N : St} {F : St} {T : St} {p1 : Int32} {p2 : Int32} {r : Int32} {T' : St} (hf : f2_lid G N F T p1 p2 = some (.inr (r, T'))) : xMi l yX2_lid wsX2_lid 7 112 0 0 D (xT y) [.ref aH, .int p1, .int p2] (hC aH aN aF aT aG ++ (gC y aG G ++ (nC y aN N ++ (nC y aF F ++ tC y aT T)))) (fun (r' : Int32) (_ : Unit) => r' = r) (fun _ : Unit => hC aH aN aF aT aG ++ (gC y aG G ++ (nC y aN N ++ (nC y aF F ++ tC y aT T')))) := by
  refine xMi_of (cc := cX2_lid) (nL := 4) (ret := (some .int)) [(0, .ref aH), (1, .int p1), (2, .int p2)] (by decide) rfl (Nat.le_of_ble_eq_true rfl) rfl ?_
  intro p e s m args below meth c A C hin
  have C : xC p s m args meth c D A cX2_lid RX2 4 wsX2_lid (xT y) (some .int) := C
  unfold f2_lid at hf
  refine x_iload_n (q := 1) C 1 dX2_lid_0 rfl rfl rfl ?_
  refine x_aload_n (q := 2) C 0 dX2_lid_1 rfl rfl rfl ?_
  refine x_get (q := 5) C 0 dX2_lid_2 ((oX2 aH aN aF aT aG).L) rfl iuX2_lid_X2 flX2_lid_12 rfl (by decide) rfl rfl ?_
  refine x_get (q := 8) C 7 dX2_lid_5 (((((oX1 y aT T).R).R).R).R) rfl iuX2_lid_X1 flX2_lid_63 rfl (by decide) rfl rfl ?_
  obtain ⟨hcal1, hf⟩ := bx0_inr hf
  refine x_callSv (q := 11) C (c2_requireIndex (l := l) (D := D) (y := y)  hcal1) yi_X2_requireIndex gX2_lid_X2_requireIndex ⟨(Nat.le_of_ble_eq_true rfl), (Nat.le_of_ble_eq_true rfl)⟩ dX2_lid_8 pm_emp rfl rfl (Nat.le_of_ble_eq_true rfl) ⟨Nat.le_of_ble_eq_true rfl, Nat.le_of_ble_eq_true rfl⟩ rfl ?_
  intro uu hrr
  refine x_world (ws' := hC aH aN aF aT aG ++ (gC y aG G ++ (nC y aN N ++ (nC y aF F ++ tC y aT T)))) rfl ?_
  refine x_iload_n (q := 12) C 2 dX2_lid_11 rfl rfl rfl ?_
  refine x_iconst (q := 13) C dX2_lid_12 ki_0 rfl ?_
  refine x_bipush (q := 15) C dX2_lid_13 kb_9 rfl ?_
  obtain ⟨hcal2, hf⟩ := bx0_inr hf
  refine x_callSv (q := 18) C (c2_requireRange (l := l) (D := D) (y := y)  hcal2) yi_X2_requireRange gX2_lid_X2_requireRange ⟨(Nat.le_of_ble_eq_true rfl), (Nat.le_of_ble_eq_true rfl)⟩ dX2_lid_15 pm_emp rfl rfl (Nat.le_of_ble_eq_true rfl) ⟨Nat.le_of_ble_eq_true rfl, Nat.le_of_ble_eq_true rfl⟩ rfl ?_
  intro uu hrr
  refine x_world (ws' := hC aH aN aF aT aG ++ (gC y aG G ++ (nC y aN N ++ (nC y aF F ++ tC y aT T)))) rfl ?_
  refine x_aload_n (q := 19) C 0 dX2_lid_18 rfl rfl rfl ?_
  refine x_get (q := 22) C 0 dX2_lid_19 ((oX2 aH aN aF aT aG).L) rfl iuX2_lid_X2 flX2_lid_12 rfl (by decide) rfl rfl ?_
  refine x_get (q := 25) C 10 dX2_lid_22 (((((oX1 y aT T).R).R).R).R) rfl iuX2_lid_X1 flX2_lid_70 rfl (by decide) rfl rfl ?_
  refine x_iload_n (q := 26) C 1 dX2_lid_25 rfl rfl rfl ?_
  obtain ⟨hb3, hf⟩ := gd_some hf
  refine x_iald (q := 27) C 0 dX2_lid_26 (((((aX1_10 y aT T).R).R).R).R) rfl hb3 rfl ?_
  obtain ⟨v4, ev4, hf⟩ := lt_elim hf
  refine x_topi ev4 ?_
  refine x_istore_n (q := 28) C [1, 2, 3, 0] [(0, .ref aH), (1, .int p1), (2, .int p2), (3, .int v4)] dX2_lid_27 rfl (by decide) rfl rfl ?_
  refine x_aload_n (q := 29) C 0 dX2_lid_28 rfl rfl rfl ?_
  refine x_get (q := 32) C 0 dX2_lid_29 ((oX2 aH aN aF aT aG).L) rfl iuX2_lid_X2 flX2_lid_12 rfl (by decide) rfl rfl ?_
  refine x_get (q := 35) C 10 dX2_lid_32 (((((oX1 y aT T).R).R).R).R) rfl iuX2_lid_X1 flX2_lid_70 rfl (by decide) rfl rfl ?_
  refine x_iload_n (q := 36) C 1 dX2_lid_35 rfl rfl rfl ?_
  refine x_iload_n (q := 37) C 2 dX2_lid_36 rfl rfl rfl ?_
  obtain ⟨T5, eT5, hf⟩ := lt_elim hf
  refine x_iast (q := 38) (ws' := hC aH aN aF aT aG ++ (gC y aG G ++ (nC y aN N ++ (nC y aF F ++ tC y aT T5)))) C 0 dX2_lid_37 (((((aX1_10 y aT T).R).R).R).R) rfl hb3 (congrArg (fun z => hC aH aN aF aT aG ++ (gC y aG G ++ (nC y aN N ++ (nC y aF F ++ tC y aT z)))) eT5.symm) rfl ?_
  refine x_iload_n (q := 39) C 3 dX2_lid_38 rfl rfl rfl ?_
  have hf := Sum.inr.inj (Option.some.inj hf)
  obtain ⟨hr0, hr1⟩ := Prod.mk.inj hf
  exact x_iret () C dX2_lid_39 rfl hr0 (congrArg (fun z => hC aH aN aF aT aG ++ (gC y aG G ++ (nC y aN N ++ (nC y aF F ++ tC y aT z)))) hr1) (Nat.le_of_ble_eq_true rfl) (Nat.le_of_ble_eq_true rfl)

/-! LampHills.setWind(II)I -/
theorem flX2_setWind_12 : Cond.fieldLink RX2 12 "LampHills" "town" "LLampHills$Town;" ∈ wsX2_setWind := by decide +kernel
theorem flX2_setWind_73 : Cond.fieldLink RX2 73 "LampHills$Town" "wind" "[I" ∈ wsX2_setWind := by decide +kernel
theorem iuX2_setWind_X1 : ∀ w ∈ u_ws RX1 TX1 17, w ∈ wsX2_setWind := fun _ h => List.mem_cons_of_mem _ (List.mem_append_left _ (List.mem_append_left _ (List.mem_append_right _ h)))
theorem iuX2_setWind_X2 : ∀ w ∈ u_ws RX2 TX2 4, w ∈ wsX2_setWind := fun _ h => List.mem_cons_of_mem _ (List.mem_append_left _ (List.mem_append_left _ (List.mem_append_left _ (List.mem_append_right _ h))))
def f2_setWind (G : St) (N : St) (F : St) (T : St) (p1 : Int32) (p2 : Int32) : Option (Nat ⊕ (Int32 × St)) :=
  bx0 (f2_requireIndex p1 10) <|
  bx0 (f2_requireRange p2 0 9) <|
  gd (xin p1 10) <|
  lt_ (T 11 p1.toNatClampNeg) fun v4 =>
  lt_ (up2 T 11 p1.toNatClampNeg p2) fun T5 =>
  some (.inr (v4, T5))
set_option maxHeartbeats 4000000 in
set_option maxRecDepth 100000 in
theorem c2_setWind {l : Launch} {D : va_G} {y : Nat → ClassId} {aH : Nat} {aG aN aF aT : Nat → Nat} {G : St} {N : St} {F : St} {T : St} {p1 : Int32} {p2 : Int32} {r : Int32} {T' : St} (hf : f2_setWind G N F T p1 p2 = some (.inr (r, T'))) : xMi l yX2_setWind wsX2_setWind 7 112 0 0 D (xT y) [.ref aH, .int p1, .int p2] (hC aH aN aF aT aG ++ (gC y aG G ++ (nC y aN N ++ (nC y aF F ++ tC y aT T)))) (fun (r' : Int32) (_ : Unit) => r' = r) (fun _ : Unit => hC aH aN aF aT aG ++ (gC y aG G ++ (nC y aN N ++ (nC y aF F ++ tC y aT T')))) := by
  refine xMi_of (cc := cX2_setWind) (nL := 4) (ret := (some .int)) [(0, .ref aH), (1, .int p1), (2, .int p2)] (by decide) rfl (Nat.le_of_ble_eq_true rfl) rfl ?_
  intro p e s m args below meth c A C hin
  have C : xC p s m args meth c D A cX2_setWind RX2 4 wsX2_setWind (xT y) (some .int) := C
  unfold f2_setWind at hf
  refine x_iload_n (q := 1) C 1 dX2_setWind_0 rfl rfl rfl ?_
  refine x_bipush (q := 3) C dX2_setWind_1 kb_10 rfl ?_
  obtain ⟨hcal1, hf⟩ := bx0_inr hf
  refine x_callSv (q := 6) C (c2_requireIndex (l := l) (D := D) (y := y)  hcal1) yi_X2_requireIndex gX2_setWind_X2_requireIndex ⟨(Nat.le_of_ble_eq_true rfl), (Nat.le_of_ble_eq_true rfl)⟩ dX2_setWind_3 pm_emp rfl rfl (Nat.le_of_ble_eq_true rfl) ⟨Nat.le_of_ble_eq_true rfl, Nat.le_of_ble_eq_true rfl⟩ rfl ?_
  intro uu hrr
  refine x_world (ws' := hC aH aN aF aT aG ++ (gC y aG G ++ (nC y aN N ++ (nC y aF F ++ tC y aT T)))) rfl ?_
  refine x_iload_n (q := 7) C 2 dX2_setWind_6 rfl rfl rfl ?_
  refine x_iconst (q := 8) C dX2_setWind_7 ki_0 rfl ?_
  refine x_bipush (q := 10) C dX2_setWind_8 kb_9 rfl ?_
  obtain ⟨hcal2, hf⟩ := bx0_inr hf
  refine x_callSv (q := 13) C (c2_requireRange (l := l) (D := D) (y := y)  hcal2) yi_X2_requireRange gX2_setWind_X2_requireRange ⟨(Nat.le_of_ble_eq_true rfl), (Nat.le_of_ble_eq_true rfl)⟩ dX2_setWind_10 pm_emp rfl rfl (Nat.le_of_ble_eq_true rfl) ⟨Nat.le_of_ble_eq_true rfl, Nat.le_of_ble_eq_true rfl⟩ rfl ?_
  intro uu hrr
  refine x_world (ws' := hC aH aN aF aT aG ++ (gC y aG G ++ (nC y aN N ++ (nC y aF F ++ tC y aT T)))) rfl ?_
  refine x_aload_n (q := 14) C 0 dX2_setWind_13 rfl rfl rfl ?_
  refine x_get (q := 17) C 0 dX2_setWind_14 ((oX2 aH aN aF aT aG).L) rfl iuX2_setWind_X2 flX2_setWind_12 rfl (by decide) rfl rfl ?_
  refine x_get (q := 20) C 11 dX2_setWind_17 (((((oX1 y aT T).R).R).R).R) rfl iuX2_setWind_X1 flX2_setWind_73 rfl (by decide) rfl rfl ?_
  refine x_iload_n (q := 21) C 1 dX2_setWind_20 rfl rfl rfl ?_
  obtain ⟨hb3, hf⟩ := gd_some hf
  refine x_iald (q := 22) C 0 dX2_setWind_21 (((((aX1_11 y aT T).R).R).R).R) rfl hb3 rfl ?_
  obtain ⟨v4, ev4, hf⟩ := lt_elim hf
  refine x_topi ev4 ?_
  refine x_istore_n (q := 23) C [1, 2, 3, 0] [(0, .ref aH), (1, .int p1), (2, .int p2), (3, .int v4)] dX2_setWind_22 rfl (by decide) rfl rfl ?_
  refine x_aload_n (q := 24) C 0 dX2_setWind_23 rfl rfl rfl ?_
  refine x_get (q := 27) C 0 dX2_setWind_24 ((oX2 aH aN aF aT aG).L) rfl iuX2_setWind_X2 flX2_setWind_12 rfl (by decide) rfl rfl ?_
  refine x_get (q := 30) C 11 dX2_setWind_27 (((((oX1 y aT T).R).R).R).R) rfl iuX2_setWind_X1 flX2_setWind_73 rfl (by decide) rfl rfl ?_
  refine x_iload_n (q := 31) C 1 dX2_setWind_30 rfl rfl rfl ?_
  refine x_iload_n (q := 32) C 2 dX2_setWind_31 rfl rfl rfl ?_
  obtain ⟨T5, eT5, hf⟩ := lt_elim hf
  refine x_iast (q := 33) (ws' := hC aH aN aF aT aG ++ (gC y aG G ++ (nC y aN N ++ (nC y aF F ++ tC y aT T5)))) C 0 dX2_setWind_32 (((((aX1_11 y aT T).R).R).R).R) rfl hb3 (congrArg (fun z => hC aH aN aF aT aG ++ (gC y aG G ++ (nC y aN N ++ (nC y aF F ++ tC y aT z)))) eT5.symm) rfl ?_
  refine x_iload_n (q := 34) C 3 dX2_setWind_33 rfl rfl rfl ?_
  have hf := Sum.inr.inj (Option.some.inj hf)
  obtain ⟨hr0, hr1⟩ := Prod.mk.inj hf
  exact x_iret () C dX2_setWind_34 rfl hr0 (congrArg (fun z => hC aH aN aF aT aG ++ (gC y aG G ++ (nC y aN N ++ (nC y aF F ++ tC y aT z)))) hr1) (Nat.le_of_ble_eq_true rfl) (Nat.le_of_ble_eq_true rfl)

/-! LampHills.hire(III)I -/
theorem ks_999 : (Int16.ofInt 999).toInt32 = 999 := by decide
theorem flX2_hire_12 : Cond.fieldLink RX2 12 "LampHills" "town" "LLampHills$Town;" ∈ wsX2_hire := by decide +kernel
theorem flX2_hire_19 : Cond.fieldLink RX2 19 "LampHills" "night" "LLampHills$Night;" ∈ wsX2_hire := by decide +kernel
theorem flX2_hire_34 : Cond.fieldLink RX2 34 "LampHills$Town" "corners" "I" ∈ wsX2_hire := by decide +kernel
theorem flX2_hire_76 : Cond.fieldLink RX2 76 "LampHills$Town" "lighters" "I" ∈ wsX2_hire := by decide +kernel
theorem flX2_hire_82 : Cond.fieldLink RX2 82 "LampHills$Night" "can" "[I" ∈ wsX2_hire := by decide +kernel
theorem iuX2_hire_X0 : ∀ w ∈ u_ws RX0 TX0 16, w ∈ wsX2_hire := fun _ h => List.mem_cons_of_mem _ (List.mem_append_left _ (List.mem_append_left _ (List.mem_append_left _ (List.mem_append_right _ h))))
theorem iuX2_hire_X1 : ∀ w ∈ u_ws RX1 TX1 17, w ∈ wsX2_hire := fun _ h => List.mem_cons_of_mem _ (List.mem_append_left _ (List.mem_append_left _ (List.mem_append_left _ (List.mem_append_left _ (List.mem_append_right _ h)))))
theorem iuX2_hire_X2 : ∀ w ∈ u_ws RX2 TX2 4, w ∈ wsX2_hire := fun _ h => List.mem_cons_of_mem _ (List.mem_append_left _ (List.mem_append_left _ (List.mem_append_left _ (List.mem_append_left _ (List.mem_append_left _ (List.mem_append_right _ h))))))
theorem yi_X1_addLighter : xY yX1_addLighter wsX1_addLighter cX1_addLighter 4 (some .int) 2 := ⟨⟨_, rfl⟩, by decide +kernel, by decide +kernel, by decide +kernel⟩
def f2_hire (G : St) (N : St) (F : St) (T : St) (p1 : Int32) (p2 : Int32) (p3 : Int32) : Option (Nat ⊕ (Int32 × St × St)) :=
  bx0 (f2_requireIndex p1 (T 0 0)) <|
  bx0 (f2_requireRange p2 1 9) <|
  bx0 (f2_requireRange p3 0 999) <|
  bx0 (f2_requireRoom (T 12 0) 4) <|
  bd2 (f1_addLighter T p1 p2) fun v5 T6 =>
  gd (xin v5 4) <|
  lt_ (up2 N 10 v5.toNatClampNeg p3) fun N10 =>
  bd (f0_sendHome N10 T6 v5) fun N11 =>
  some (.inr (v5, N11, T6))
set_option maxHeartbeats 4000000 in
set_option maxRecDepth 100000 in
theorem c2_hire {l : Launch} {D : va_G} {y : Nat → ClassId} {aH : Nat} {aG aN aF aT : Nat → Nat} {G : St} {N : St} {F : St} {T : St} {p1 : Int32} {p2 : Int32} {p3 : Int32} {r : Int32} {N' : St} {T' : St} (hf : f2_hire G N F T p1 p2 p3 = some (.inr (r, N', T'))) : xMi l yX2_hire wsX2_hire 7 112 0 0 D (xT y) [.ref aH, .int p1, .int p2, .int p3] (hC aH aN aF aT aG ++ (gC y aG G ++ (nC y aN N ++ (nC y aF F ++ tC y aT T)))) (fun (r' : Int32) (_ : Unit) => r' = r) (fun _ : Unit => hC aH aN aF aT aG ++ (gC y aG G ++ (nC y aN N' ++ (nC y aF F ++ tC y aT T')))) := by
  refine xMi_of (cc := cX2_hire) (nL := 5) (ret := (some .int)) [(0, .ref aH), (1, .int p1), (2, .int p2), (3, .int p3)] (by decide) rfl (Nat.le_of_ble_eq_true rfl) rfl ?_
  intro p e s m args below meth c A C hin
  have C : xC p s m args meth c D A cX2_hire RX2 5 wsX2_hire (xT y) (some .int) := C
  unfold f2_hire at hf
  refine x_iload_n (q := 1) C 1 dX2_hire_0 rfl rfl rfl ?_
  refine x_aload_n (q := 2) C 0 dX2_hire_1 rfl rfl rfl ?_
  refine x_get (q := 5) C 0 dX2_hire_2 ((oX2 aH aN aF aT aG).L) rfl iuX2_hire_X2 flX2_hire_12 rfl (by decide) rfl rfl ?_
  refine x_get (q := 8) C 0 dX2_hire_5 (((((oX1 y aT T).R).R).R).R) rfl iuX2_hire_X1 flX2_hire_34 rfl (by decide) rfl rfl ?_
  obtain ⟨hcal1, hf⟩ := bx0_inr hf
  refine x_callSv (q := 11) C (c2_requireIndex (l := l) (D := D) (y := y)  hcal1) yi_X2_requireIndex gX2_hire_X2_requireIndex ⟨(Nat.le_of_ble_eq_true rfl), (Nat.le_of_ble_eq_true rfl)⟩ dX2_hire_8 pm_emp rfl rfl (Nat.le_of_ble_eq_true rfl) ⟨Nat.le_of_ble_eq_true rfl, Nat.le_of_ble_eq_true rfl⟩ rfl ?_
  intro uu hrr
  refine x_world (ws' := hC aH aN aF aT aG ++ (gC y aG G ++ (nC y aN N ++ (nC y aF F ++ tC y aT T)))) rfl ?_
  refine x_iload_n (q := 12) C 2 dX2_hire_11 rfl rfl rfl ?_
  refine x_iconst (q := 13) C dX2_hire_12 ki_1 rfl ?_
  refine x_bipush (q := 15) C dX2_hire_13 kb_9 rfl ?_
  obtain ⟨hcal2, hf⟩ := bx0_inr hf
  refine x_callSv (q := 18) C (c2_requireRange (l := l) (D := D) (y := y)  hcal2) yi_X2_requireRange gX2_hire_X2_requireRange ⟨(Nat.le_of_ble_eq_true rfl), (Nat.le_of_ble_eq_true rfl)⟩ dX2_hire_15 pm_emp rfl rfl (Nat.le_of_ble_eq_true rfl) ⟨Nat.le_of_ble_eq_true rfl, Nat.le_of_ble_eq_true rfl⟩ rfl ?_
  intro uu hrr
  refine x_world (ws' := hC aH aN aF aT aG ++ (gC y aG G ++ (nC y aN N ++ (nC y aF F ++ tC y aT T)))) rfl ?_
  refine x_iload_n (q := 19) C 3 dX2_hire_18 rfl rfl rfl ?_
  refine x_iconst (q := 20) C dX2_hire_19 ki_0 rfl ?_
  refine x_sipush (q := 23) C dX2_hire_20 ks_999 rfl ?_
  obtain ⟨hcal3, hf⟩ := bx0_inr hf
  refine x_callSv (q := 26) C (c2_requireRange (l := l) (D := D) (y := y)  hcal3) yi_X2_requireRange gX2_hire_X2_requireRange ⟨(Nat.le_of_ble_eq_true rfl), (Nat.le_of_ble_eq_true rfl)⟩ dX2_hire_23 pm_emp rfl rfl (Nat.le_of_ble_eq_true rfl) ⟨Nat.le_of_ble_eq_true rfl, Nat.le_of_ble_eq_true rfl⟩ rfl ?_
  intro uu hrr
  refine x_world (ws' := hC aH aN aF aT aG ++ (gC y aG G ++ (nC y aN N ++ (nC y aF F ++ tC y aT T)))) rfl ?_
  refine x_aload_n (q := 27) C 0 dX2_hire_26 rfl rfl rfl ?_
  refine x_get (q := 30) C 0 dX2_hire_27 ((oX2 aH aN aF aT aG).L) rfl iuX2_hire_X2 flX2_hire_12 rfl (by decide) rfl rfl ?_
  refine x_get (q := 33) C 12 dX2_hire_30 (((((oX1 y aT T).R).R).R).R) rfl iuX2_hire_X1 flX2_hire_76 rfl (by decide) rfl rfl ?_
  refine x_iconst (q := 34) C dX2_hire_33 ki_4 rfl ?_
  obtain ⟨hcal4, hf⟩ := bx0_inr hf
  refine x_callSv (q := 37) C (c2_requireRoom (l := l) (D := D) (y := y)  hcal4) yi_X2_requireRoom gX2_hire_X2_requireRoom ⟨(Nat.le_of_ble_eq_true rfl), (Nat.le_of_ble_eq_true rfl)⟩ dX2_hire_34 pm_emp rfl rfl (Nat.le_of_ble_eq_true rfl) ⟨Nat.le_of_ble_eq_true rfl, Nat.le_of_ble_eq_true rfl⟩ rfl ?_
  intro uu hrr
  refine x_world (ws' := hC aH aN aF aT aG ++ (gC y aG G ++ (nC y aN N ++ (nC y aF F ++ tC y aT T)))) rfl ?_
  refine x_aload_n (q := 38) C 0 dX2_hire_37 rfl rfl rfl ?_
  refine x_get (q := 41) C 0 dX2_hire_38 ((oX2 aH aN aF aT aG).L) rfl iuX2_hire_X2 flX2_hire_12 rfl (by decide) rfl rfl ?_
  refine x_iload_n (q := 42) C 1 dX2_hire_41 rfl rfl rfl ?_
  refine x_iload_n (q := 43) C 2 dX2_hire_42 rfl rfl rfl ?_
  obtain ⟨v5, T6, hcal7, hf⟩ := bd2_some hf
  refine x_callVi (q := 46) C (c1_addLighter (l := l) (D := D) (y := y) (aT := aT) hcal7) yi_X1_addLighter gX2_hire_X1_addLighter rfl (oX1 y aT T) rfl ⟨(Nat.le_of_ble_eq_true rfl), (Nat.le_of_ble_eq_true rfl)⟩ dX2_hire_43 (pm5_4 _ _ _ _ _) rfl rfl (Nat.le_of_ble_eq_true rfl) ⟨Nat.le_of_ble_eq_true rfl, Nat.le_of_ble_eq_true rfl⟩ rfl ?_
  intro rr8 uu hrr
  have hrr : v5 = rr8 := Eq.symm hrr
  subst hrr
  refine x_perm (ws' := hC aH aN aF aT aG ++ (gC y aG G ++ (nC y aN N ++ (nC y aF F ++ tC y aT T6)))) (pm5_4 _ _ _ _ _).symm ?_
  refine x_istore (q := 48) C [1, 4, 0] [(0, .ref aH), (3, .int p3), (4, .int v5)] dX2_hire_46 (by decide) rfl rfl ?_
  refine x_aload_n (q := 49) C 0 dX2_hire_48 rfl rfl rfl ?_
  refine x_get (q := 52) C 1 dX2_hire_49 ((oX2 aH aN aF aT aG).L) rfl iuX2_hire_X2 flX2_hire_19 rfl (by decide) rfl rfl ?_
  refine x_get (q := 55) C 10 dX2_hire_52 ((((oX0 y aN N).L).R).R) rfl iuX2_hire_X0 flX2_hire_82 rfl (by decide) rfl rfl ?_
  refine x_iload (q := 57) C 2 dX2_hire_55 rfl rfl ?_
  refine x_iload_n (q := 58) C 1 dX2_hire_57 rfl rfl rfl ?_
  obtain ⟨hb9, hf⟩ := gd_some hf
  obtain ⟨N10, eN10, hf⟩ := lt_elim hf
  refine x_iast (q := 59) (ws' := hC aH aN aF aT aG ++ (gC y aG G ++ (nC y aN N10 ++ (nC y aF F ++ tC y aT T6)))) C 0 dX2_hire_58 ((((aX0_10 y aN N).L).R).R) rfl hb9 (congrArg (fun z => hC aH aN aF aT aG ++ (gC y aG G ++ (nC y aN z ++ (nC y aF F ++ tC y aT T6)))) eN10.symm) rfl ?_
  refine x_aload_n (q := 60) C 0 dX2_hire_59 rfl rfl rfl ?_
  refine x_get (q := 63) C 1 dX2_hire_60 ((oX2 aH aN aF aT aG).L) rfl iuX2_hire_X2 flX2_hire_19 rfl (by decide) rfl rfl ?_
  refine x_aload_n (q := 64) C 0 dX2_hire_63 rfl rfl rfl ?_
  refine x_get (q := 67) C 0 dX2_hire_64 ((oX2 aH aN aF aT aG).L) rfl iuX2_hire_X2 flX2_hire_12 rfl (by decide) rfl rfl ?_
  refine x_iload (q := 69) C 2 dX2_hire_67 rfl rfl ?_
  obtain ⟨N11, hcal12, hf⟩ := bd_some hf
  refine x_callVv (q := 72) C (c0_sendHome (l := l) (D := D) (y := y) (aN := aN) (aT := aT) hcal12) yi_X0_sendHome gX2_hire_X0_sendHome rfl ((oX0 y aN N10).L) rfl ⟨(Nat.le_of_ble_eq_true rfl), (Nat.le_of_ble_eq_true rfl)⟩ dX2_hire_69 (pm5_24 _ _ _ _ _) rfl rfl (Nat.le_of_ble_eq_true rfl) ⟨Nat.le_of_ble_eq_true rfl, Nat.le_of_ble_eq_true rfl⟩ rfl ?_
  intro uu hrr
  refine x_perm (ws' := hC aH aN aF aT aG ++ (gC y aG G ++ (nC y aN N11 ++ (nC y aF F ++ tC y aT T6)))) (pm5_24 _ _ _ _ _).symm ?_
  refine x_iload (q := 74) C 2 dX2_hire_72 rfl rfl ?_
  have hf := Sum.inr.inj (Option.some.inj hf)
  obtain ⟨hr0, hx0⟩ := Prod.mk.inj hf
  obtain ⟨hr1, hr2⟩ := Prod.mk.inj hx0
  exact x_iret () C dX2_hire_74 rfl hr0 (by rw [hr1, hr2]) (Nat.le_of_ble_eq_true rfl) (Nat.le_of_ble_eq_true rfl)

/-! LampHills.round(II)I -/
theorem flX2_round_12 : Cond.fieldLink RX2 12 "LampHills" "town" "LLampHills$Town;" ∈ wsX2_round := by decide +kernel
theorem flX2_round_63 : Cond.fieldLink RX2 63 "LampHills$Town" "lamps" "I" ∈ wsX2_round := by decide +kernel
theorem flX2_round_76 : Cond.fieldLink RX2 76 "LampHills$Town" "lighters" "I" ∈ wsX2_round := by decide +kernel
theorem flX2_round_98 : Cond.fieldLink RX2 98 "LampHills$Town" "roundSize" "[I" ∈ wsX2_round := by decide +kernel
theorem iuX2_round_X1 : ∀ w ∈ u_ws RX1 TX1 17, w ∈ wsX2_round := fun _ h => List.mem_cons_of_mem _ (List.mem_append_left _ (List.mem_append_left _ (List.mem_append_right _ h)))
theorem iuX2_round_X2 : ∀ w ∈ u_ws RX2 TX2 4, w ∈ wsX2_round := fun _ h => List.mem_cons_of_mem _ (List.mem_append_left _ (List.mem_append_left _ (List.mem_append_left _ (List.mem_append_right _ h))))
theorem yi_X1_addToRound : xY yX1_addToRound wsX1_addToRound cX1_addToRound 3 (some .int) 2 := ⟨⟨_, rfl⟩, by decide +kernel, by decide +kernel, by decide +kernel⟩
theorem yi_X1_isInRound : xY yX1_isInRound wsX1_isInRound cX1_isInRound 4 (some .boolean) 2 := ⟨⟨_, rfl⟩, by decide +kernel, by decide +kernel, by decide +kernel⟩
def f2_round (G : St) (N : St) (F : St) (T : St) (p1 : Int32) (p2 : Int32) : Option (Nat ⊕ (Int32 × St)) :=
  bx0 (f2_requireIndex p1 (T 12 0)) <|
  bx0 (f2_requireIndex p2 (T 7 0)) <|
  bd (f1_isInRound T p1 p2) fun v3 =>
  if v3 = 0 then
  (
    gd (xin p1 4) <|
    bx0 (f2_requireRoom (T 15 p1.toNatClampNeg) 10) <|
    bd2 (f1_addToRound T p1 p2) fun v8 T9 =>
    some (.inr (v8, T9))
  )
  else
  (
    some (.inl 2)
  )
set_option maxHeartbeats 4000000 in
set_option maxRecDepth 100000 in
theorem c2_round {l : Launch} {D : va_G} {y : Nat → ClassId} {aH : Nat} {aG aN aF aT : Nat → Nat} {G : St} {N : St} {F : St} {T : St} {p1 : Int32} {p2 : Int32} {r : Int32} {T' : St} (hf : f2_round G N F T p1 p2 = some (.inr (r, T'))) : xMi l yX2_round wsX2_round 7 111 0 0 D (xT y) [.ref aH, .int p1, .int p2] (hC aH aN aF aT aG ++ (gC y aG G ++ (nC y aN N ++ (nC y aF F ++ tC y aT T)))) (fun (r' : Int32) (_ : Unit) => r' = r) (fun _ : Unit => hC aH aN aF aT aG ++ (gC y aG G ++ (nC y aN N ++ (nC y aF F ++ tC y aT T')))) := by
  refine xMi_of (cc := cX2_round) (nL := 3) (ret := (some .int)) [(0, .ref aH), (1, .int p1), (2, .int p2)] (by decide) rfl (Nat.le_of_ble_eq_true rfl) rfl ?_
  intro p e s m args below meth c A C hin
  have C : xC p s m args meth c D A cX2_round RX2 3 wsX2_round (xT y) (some .int) := C
  unfold f2_round at hf
  refine x_iload_n (q := 1) C 1 dX2_round_0 rfl rfl rfl ?_
  refine x_aload_n (q := 2) C 0 dX2_round_1 rfl rfl rfl ?_
  refine x_get (q := 5) C 0 dX2_round_2 ((oX2 aH aN aF aT aG).L) rfl iuX2_round_X2 flX2_round_12 rfl (by decide) rfl rfl ?_
  refine x_get (q := 8) C 12 dX2_round_5 (((((oX1 y aT T).R).R).R).R) rfl iuX2_round_X1 flX2_round_76 rfl (by decide) rfl rfl ?_
  obtain ⟨hcal1, hf⟩ := bx0_inr hf
  refine x_callSv (q := 11) C (c2_requireIndex (l := l) (D := D) (y := y)  hcal1) yi_X2_requireIndex gX2_round_X2_requireIndex ⟨(Nat.le_of_ble_eq_true rfl), (Nat.le_of_ble_eq_true rfl)⟩ dX2_round_8 pm_emp rfl rfl (Nat.le_of_ble_eq_true rfl) ⟨Nat.le_of_ble_eq_true rfl, Nat.le_of_ble_eq_true rfl⟩ rfl ?_
  intro uu hrr
  refine x_world (ws' := hC aH aN aF aT aG ++ (gC y aG G ++ (nC y aN N ++ (nC y aF F ++ tC y aT T)))) rfl ?_
  refine x_iload_n (q := 12) C 2 dX2_round_11 rfl rfl rfl ?_
  refine x_aload_n (q := 13) C 0 dX2_round_12 rfl rfl rfl ?_
  refine x_get (q := 16) C 0 dX2_round_13 ((oX2 aH aN aF aT aG).L) rfl iuX2_round_X2 flX2_round_12 rfl (by decide) rfl rfl ?_
  refine x_get (q := 19) C 7 dX2_round_16 (((((oX1 y aT T).R).R).R).R) rfl iuX2_round_X1 flX2_round_63 rfl (by decide) rfl rfl ?_
  obtain ⟨hcal2, hf⟩ := bx0_inr hf
  refine x_callSv (q := 22) C (c2_requireIndex (l := l) (D := D) (y := y)  hcal2) yi_X2_requireIndex gX2_round_X2_requireIndex ⟨(Nat.le_of_ble_eq_true rfl), (Nat.le_of_ble_eq_true rfl)⟩ dX2_round_19 pm_emp rfl rfl (Nat.le_of_ble_eq_true rfl) ⟨Nat.le_of_ble_eq_true rfl, Nat.le_of_ble_eq_true rfl⟩ rfl ?_
  intro uu hrr
  refine x_world (ws' := hC aH aN aF aT aG ++ (gC y aG G ++ (nC y aN N ++ (nC y aF F ++ tC y aT T)))) rfl ?_
  refine x_aload_n (q := 23) C 0 dX2_round_22 rfl rfl rfl ?_
  refine x_get (q := 26) C 0 dX2_round_23 ((oX2 aH aN aF aT aG).L) rfl iuX2_round_X2 flX2_round_12 rfl (by decide) rfl rfl ?_
  refine x_iload_n (q := 27) C 1 dX2_round_26 rfl rfl rfl ?_
  refine x_iload_n (q := 28) C 2 dX2_round_27 rfl rfl rfl ?_
  obtain ⟨v3, hcal4, hf⟩ := bd_some hf
  refine x_callVi (q := 31) C (c1_isInRound (l := l) (D := D) (y := y) (aT := aT) hcal4) yi_X1_isInRound gX2_round_X1_isInRound rfl (oX1 y aT T) rfl ⟨(Nat.le_of_ble_eq_true rfl), (Nat.le_of_ble_eq_true rfl)⟩ dX2_round_28 (pm5_4 _ _ _ _ _) rfl rfl (Nat.le_of_ble_eq_true rfl) ⟨Nat.le_of_ble_eq_true rfl, Nat.le_of_ble_eq_true rfl⟩ rfl ?_
  intro rr5 uu hrr
  have hrr : v3 = rr5 := Eq.symm hrr
  subst hrr
  refine x_perm (ws' := hC aH aN aF aT aG ++ (gC y aG G ++ (nC y aN N ++ (nC y aF F ++ tC y aT T)))) (pm5_4 _ _ _ _ _).symm ?_
  refine x_if_eq (t := 44) (q := 34) C dX2_round_31 (by decide) rfl (fun hc => ?_) (fun hc => ?_)
  · have hf := (if_pos hc).symm.trans hf
    refine x_aload_n (q := 45) C 0 dX2_round_44 rfl rfl rfl ?_
    refine x_get (q := 48) C 0 dX2_round_45 ((oX2 aH aN aF aT aG).L) rfl iuX2_round_X2 flX2_round_12 rfl (by decide) rfl rfl ?_
    refine x_get (q := 51) C 15 dX2_round_48 (((((oX1 y aT T).R).R).R).R) rfl iuX2_round_X1 flX2_round_98 rfl (by decide) rfl rfl ?_
    refine x_iload_n (q := 52) C 1 dX2_round_51 rfl rfl rfl ?_
    obtain ⟨hb6, hf⟩ := gd_some hf
    refine x_iald (q := 53) C 0 dX2_round_52 (((((aX1_15 y aT T).R).R).R).R) rfl hb6 rfl ?_
    refine x_bipush (q := 55) C dX2_round_53 kb_10 rfl ?_
    obtain ⟨hcal7, hf⟩ := bx0_inr hf
    refine x_callSv (q := 58) C (c2_requireRoom (l := l) (D := D) (y := y)  hcal7) yi_X2_requireRoom gX2_round_X2_requireRoom ⟨(Nat.le_of_ble_eq_true rfl), (Nat.le_of_ble_eq_true rfl)⟩ dX2_round_55 pm_emp rfl rfl (Nat.le_of_ble_eq_true rfl) ⟨Nat.le_of_ble_eq_true rfl, Nat.le_of_ble_eq_true rfl⟩ rfl ?_
    intro uu hrr
    refine x_world (ws' := hC aH aN aF aT aG ++ (gC y aG G ++ (nC y aN N ++ (nC y aF F ++ tC y aT T)))) rfl ?_
    refine x_aload_n (q := 59) C 0 dX2_round_58 rfl rfl rfl ?_
    refine x_get (q := 62) C 0 dX2_round_59 ((oX2 aH aN aF aT aG).L) rfl iuX2_round_X2 flX2_round_12 rfl (by decide) rfl rfl ?_
    refine x_iload_n (q := 63) C 1 dX2_round_62 rfl rfl rfl ?_
    refine x_iload_n (q := 64) C 2 dX2_round_63 rfl rfl rfl ?_
    obtain ⟨v8, T9, hcal10, hf⟩ := bd2_some hf
    refine x_callVi (q := 67) C (c1_addToRound (l := l) (D := D) (y := y) (aT := aT) hcal10) yi_X1_addToRound gX2_round_X1_addToRound rfl (oX1 y aT T) rfl ⟨(Nat.le_of_ble_eq_true rfl), (Nat.le_of_ble_eq_true rfl)⟩ dX2_round_64 (pm5_4 _ _ _ _ _) rfl rfl (Nat.le_of_ble_eq_true rfl) ⟨Nat.le_of_ble_eq_true rfl, Nat.le_of_ble_eq_true rfl⟩ rfl ?_
    intro rr11 uu hrr
    have hrr : v8 = rr11 := Eq.symm hrr
    subst hrr
    refine x_perm (ws' := hC aH aN aF aT aG ++ (gC y aG G ++ (nC y aN N ++ (nC y aF F ++ tC y aT T9)))) (pm5_4 _ _ _ _ _).symm ?_
    have hf := Sum.inr.inj (Option.some.inj hf)
    obtain ⟨hr0, hr1⟩ := Prod.mk.inj hf
    exact x_iret () C dX2_round_67 rfl hr0 (congrArg (fun z => hC aH aN aF aT aG ++ (gC y aG G ++ (nC y aN N ++ (nC y aF F ++ tC y aT z)))) hr1) (Nat.le_of_ble_eq_true rfl) (Nat.le_of_ble_eq_true rfl)
  · have hf := (if_neg hc).symm.trans hf
    cases hf

/-! LampHills.fill(II)I -/
theorem flX2_fill_12 : Cond.fieldLink RX2 12 "LampHills" "town" "LLampHills$Town;" ∈ wsX2_fill := by decide +kernel
theorem flX2_fill_19 : Cond.fieldLink RX2 19 "LampHills" "night" "LLampHills$Night;" ∈ wsX2_fill := by decide +kernel
theorem flX2_fill_76 : Cond.fieldLink RX2 76 "LampHills$Town" "lighters" "I" ∈ wsX2_fill := by decide +kernel
theorem flX2_fill_82 : Cond.fieldLink RX2 82 "LampHills$Night" "can" "[I" ∈ wsX2_fill := by decide +kernel
theorem iuX2_fill_X0 : ∀ w ∈ u_ws RX0 TX0 16, w ∈ wsX2_fill := fun _ h => List.mem_cons_of_mem _ (List.mem_append_left _ (List.mem_append_left _ (List.mem_append_right _ h)))
theorem iuX2_fill_X1 : ∀ w ∈ u_ws RX1 TX1 17, w ∈ wsX2_fill := fun _ h => List.mem_cons_of_mem _ (List.mem_append_left _ (List.mem_append_left _ (List.mem_append_left _ (List.mem_append_right _ h))))
theorem iuX2_fill_X2 : ∀ w ∈ u_ws RX2 TX2 4, w ∈ wsX2_fill := fun _ h => List.mem_cons_of_mem _ (List.mem_append_left _ (List.mem_append_left _ (List.mem_append_left _ (List.mem_append_left _ (List.mem_append_right _ h)))))
theorem kmX2_fill_104 : ∀ w ∈ ([.methodLink RX2 104 Lib.Math.min.name, .static Lib.Math.min.name, .initialized "java/lang/Math", .code Lib.Math.min.name Lib.Math.min.code 2 (some .int)] : List Cond), w ∈ wsX2_fill := by decide +kernel
def f2_fill (G : St) (N : St) (F : St) (T : St) (p1 : Int32) (p2 : Int32) : Option (Nat ⊕ (Int32 × St)) :=
  bx0 (f2_requireIndex p1 (T 12 0)) <|
  bx0 (f2_requireRange p2 1 999) <|
  gd (xin p1 4) <|
  lt_ (up2 N 10 p1.toNatClampNeg (if ((N 10 p1.toNatClampNeg) + p2) < (999 : Int32) then ((N 10 p1.toNatClampNeg) + p2) else (999 : Int32))) fun N4 =>
  some (.inr ((N4 10 p1.toNatClampNeg), N4))
set_option maxHeartbeats 4000000 in
set_option maxRecDepth 100000 in
theorem c2_fill {l : Launch} {D : va_G} {y : Nat → ClassId} {aH : Nat} {aG aN aF aT : Nat → Nat} {G : St} {N : St} {F : St} {T : St} {p1 : Int32} {p2 : Int32} {r : Int32} {N' : St} (hf : f2_fill G N F T p1 p2 = some (.inr (r, N'))) : xMi l yX2_fill wsX2_fill 7 112 0 0 D (xT y) [.ref aH, .int p1, .int p2] (hC aH aN aF aT aG ++ (gC y aG G ++ (nC y aN N ++ (nC y aF F ++ tC y aT T)))) (fun (r' : Int32) (_ : Unit) => r' = r) (fun _ : Unit => hC aH aN aF aT aG ++ (gC y aG G ++ (nC y aN N' ++ (nC y aF F ++ tC y aT T)))) := by
  refine xMi_of (cc := cX2_fill) (nL := 3) (ret := (some .int)) [(0, .ref aH), (1, .int p1), (2, .int p2)] (by decide) rfl (Nat.le_of_ble_eq_true rfl) rfl ?_
  intro p e s m args below meth c A C hin
  have C : xC p s m args meth c D A cX2_fill RX2 3 wsX2_fill (xT y) (some .int) := C
  unfold f2_fill at hf
  refine x_iload_n (q := 1) C 1 dX2_fill_0 rfl rfl rfl ?_
  refine x_aload_n (q := 2) C 0 dX2_fill_1 rfl rfl rfl ?_
  refine x_get (q := 5) C 0 dX2_fill_2 ((oX2 aH aN aF aT aG).L) rfl iuX2_fill_X2 flX2_fill_12 rfl (by decide) rfl rfl ?_
  refine x_get (q := 8) C 12 dX2_fill_5 (((((oX1 y aT T).R).R).R).R) rfl iuX2_fill_X1 flX2_fill_76 rfl (by decide) rfl rfl ?_
  obtain ⟨hcal1, hf⟩ := bx0_inr hf
  refine x_callSv (q := 11) C (c2_requireIndex (l := l) (D := D) (y := y)  hcal1) yi_X2_requireIndex gX2_fill_X2_requireIndex ⟨(Nat.le_of_ble_eq_true rfl), (Nat.le_of_ble_eq_true rfl)⟩ dX2_fill_8 pm_emp rfl rfl (Nat.le_of_ble_eq_true rfl) ⟨Nat.le_of_ble_eq_true rfl, Nat.le_of_ble_eq_true rfl⟩ rfl ?_
  intro uu hrr
  refine x_world (ws' := hC aH aN aF aT aG ++ (gC y aG G ++ (nC y aN N ++ (nC y aF F ++ tC y aT T)))) rfl ?_
  refine x_iload_n (q := 12) C 2 dX2_fill_11 rfl rfl rfl ?_
  refine x_iconst (q := 13) C dX2_fill_12 ki_1 rfl ?_
  refine x_sipush (q := 16) C dX2_fill_13 ks_999 rfl ?_
  obtain ⟨hcal2, hf⟩ := bx0_inr hf
  refine x_callSv (q := 19) C (c2_requireRange (l := l) (D := D) (y := y)  hcal2) yi_X2_requireRange gX2_fill_X2_requireRange ⟨(Nat.le_of_ble_eq_true rfl), (Nat.le_of_ble_eq_true rfl)⟩ dX2_fill_16 pm_emp rfl rfl (Nat.le_of_ble_eq_true rfl) ⟨Nat.le_of_ble_eq_true rfl, Nat.le_of_ble_eq_true rfl⟩ rfl ?_
  intro uu hrr
  refine x_world (ws' := hC aH aN aF aT aG ++ (gC y aG G ++ (nC y aN N ++ (nC y aF F ++ tC y aT T)))) rfl ?_
  refine x_aload_n (q := 20) C 0 dX2_fill_19 rfl rfl rfl ?_
  refine x_get (q := 23) C 1 dX2_fill_20 ((oX2 aH aN aF aT aG).L) rfl iuX2_fill_X2 flX2_fill_19 rfl (by decide) rfl rfl ?_
  refine x_get (q := 26) C 10 dX2_fill_23 ((((oX0 y aN N).L).R).R) rfl iuX2_fill_X0 flX2_fill_82 rfl (by decide) rfl rfl ?_
  refine x_iload_n (q := 27) C 1 dX2_fill_26 rfl rfl rfl ?_
  refine x_sipush (q := 30) C dX2_fill_27 ks_999 rfl ?_
  refine x_aload_n (q := 31) C 0 dX2_fill_30 rfl rfl rfl ?_
  refine x_get (q := 34) C 1 dX2_fill_31 ((oX2 aH aN aF aT aG).L) rfl iuX2_fill_X2 flX2_fill_19 rfl (by decide) rfl rfl ?_
  refine x_get (q := 37) C 10 dX2_fill_34 ((((oX0 y aN N).L).R).R) rfl iuX2_fill_X0 flX2_fill_82 rfl (by decide) rfl rfl ?_
  refine x_iload_n (q := 38) C 1 dX2_fill_37 rfl rfl rfl ?_
  obtain ⟨hb3, hf⟩ := gd_some hf
  refine x_iald (q := 39) C 0 dX2_fill_38 ((((aX0_10 y aN N).L).R).R) rfl hb3 rfl ?_
  refine x_iload_n (q := 40) C 2 dX2_fill_39 rfl rfl rfl ?_
  refine x_iadd (q := 41) C dX2_fill_40 rfl ?_
  refine x_mmin (q := 44) C dX2_fill_41 kmX2_fill_104 (Nat.le_of_ble_eq_true rfl) (Nat.le_of_ble_eq_true rfl) (Nat.le_of_ble_eq_true rfl) (Nat.le_of_ble_eq_true rfl) rfl ?_
  obtain ⟨N4, eN4, hf⟩ := lt_elim hf
  refine x_iast (q := 45) (ws' := hC aH aN aF aT aG ++ (gC y aG G ++ (nC y aN N4 ++ (nC y aF F ++ tC y aT T)))) C 0 dX2_fill_44 ((((aX0_10 y aN N).L).R).R) rfl hb3 (congrArg (fun z => hC aH aN aF aT aG ++ (gC y aG G ++ (nC y aN z ++ (nC y aF F ++ tC y aT T)))) eN4.symm) rfl ?_
  refine x_aload_n (q := 46) C 0 dX2_fill_45 rfl rfl rfl ?_
  refine x_get (q := 49) C 1 dX2_fill_46 ((oX2 aH aN aF aT aG).L) rfl iuX2_fill_X2 flX2_fill_19 rfl (by decide) rfl rfl ?_
  refine x_get (q := 52) C 10 dX2_fill_49 ((((oX0 y aN N4).L).R).R) rfl iuX2_fill_X0 flX2_fill_82 rfl (by decide) rfl rfl ?_
  refine x_iload_n (q := 53) C 1 dX2_fill_52 rfl rfl rfl ?_
  refine x_iald (q := 54) C 0 dX2_fill_53 ((((aX0_10 y aN N4).L).R).R) rfl hb3 rfl ?_
  have hf := Sum.inr.inj (Option.some.inj hf)
  obtain ⟨hr0, hr1⟩ := Prod.mk.inj hf
  exact x_iret () C dX2_fill_54 rfl hr0 (congrArg (fun z => hC aH aN aF aT aG ++ (gC y aG G ++ (nC y aN z ++ (nC y aF F ++ tC y aT T)))) hr1) (Nat.le_of_ble_eq_true rfl) (Nat.le_of_ble_eq_true rfl)

/-! LampHills.told(II)I -/
theorem flX2_told_114 : Cond.fieldLink RX2 114 "LampHills$Town" "lampStreet" "[I" ∈ wsX2_told := by decide +kernel
theorem flX2_told_117 : Cond.fieldLink RX2 117 "LampHills$Town" "lampHeight" "[I" ∈ wsX2_told := by decide +kernel
theorem flX2_told_12 : Cond.fieldLink RX2 12 "LampHills" "town" "LLampHills$Town;" ∈ wsX2_told := by decide +kernel
theorem flX2_told_120 : Cond.fieldLink RX2 120 "LampHills$Night" "oil" "[I" ∈ wsX2_told := by decide +kernel
theorem flX2_told_123 : Cond.fieldLink RX2 123 "LampHills$Night" "soot" "[I" ∈ wsX2_told := by decide +kernel
theorem flX2_told_126 : Cond.fieldLink RX2 126 "LampHills$Night" "burns" "[Z" ∈ wsX2_told := by decide +kernel
theorem flX2_told_134 : Cond.fieldLink RX2 134 "LampHills$Night" "timesLit" "[I" ∈ wsX2_told := by decide +kernel
theorem flX2_told_137 : Cond.fieldLink RX2 137 "LampHills$Night" "timesBlownOut" "[I" ∈ wsX2_told := by decide +kernel
theorem flX2_told_19 : Cond.fieldLink RX2 19 "LampHills" "night" "LLampHills$Night;" ∈ wsX2_told := by decide +kernel
theorem flX2_told_63 : Cond.fieldLink RX2 63 "LampHills$Town" "lamps" "I" ∈ wsX2_told := by decide +kernel
theorem flX2_told_70 : Cond.fieldLink RX2 70 "LampHills$Town" "lid" "[I" ∈ wsX2_told := by decide +kernel
theorem iuX2_told_X0 : ∀ w ∈ u_ws RX0 TX0 16, w ∈ wsX2_told := fun _ h => List.mem_cons_of_mem _ (List.mem_append_left _ (List.mem_append_right _ h))
theorem iuX2_told_X1 : ∀ w ∈ u_ws RX1 TX1 17, w ∈ wsX2_told := fun _ h => List.mem_cons_of_mem _ (List.mem_append_left _ (List.mem_append_left _ (List.mem_append_right _ h)))
theorem iuX2_told_X2 : ∀ w ∈ u_ws RX2 TX2 4, w ∈ wsX2_told := fun _ h => List.mem_cons_of_mem _ (List.mem_append_left _ (List.mem_append_left _ (List.mem_append_left _ (List.mem_append_right _ h))))
def f2_told (G : St) (N : St) (F : St) (T : St) (p1 : Int32) (p2 : Int32) : Option (Nat ⊕ (Int32)) :=
  bx0 (f2_requireIndex p1 (T 7 0)) <|
  bx0 (f2_requireIndex p2 9) <|
  if p2 = 0 then
  (
    gd (xin p1 20) <|
    some (.inr (T 8 p1.toNatClampNeg))
  )
  else
  if p2 = 1 then
  (
    gd (xin p1 20) <|
    some (.inr (T 9 p1.toNatClampNeg))
  )
  else
  if p2 = 2 then
  (
    gd (xin p1 20) <|
    some (.inr (T 10 p1.toNatClampNeg))
  )
  else
  if p2 = 3 then
  (
    gd (xin p1 20) <|
    some (.inr (N 4 p1.toNatClampNeg))
  )
  else
  if p2 = 4 then
  (
    gd (xin p1 20) <|
    some (.inr (N 5 p1.toNatClampNeg))
  )
  else
  if p2 = 5 then
  (
    gd (xin p1 20) <|
    if (N 6 p1.toNatClampNeg) = 0 then
    (
      some (.inr 0)
    )
    else
    (
      some (.inr 1)
    )
  )
  else
  if p2 = 6 then
  (
    bd (f0_whoGoesTo N T p1) fun v9 =>
    some (.inr v9)
  )
  else
  if p2 = 7 then
  (
    gd (xin p1 20) <|
    some (.inr (N 7 p1.toNatClampNeg))
  )
  else
  (
    gd (xin p1 20) <|
    some (.inr (N 8 p1.toNatClampNeg))
  )
set_option maxHeartbeats 4000000 in
set_option maxRecDepth 100000 in
theorem c2_told {l : Launch} {D : va_G} {y : Nat → ClassId} {aH : Nat} {aG aN aF aT : Nat → Nat} {G : St} {N : St} {F : St} {T : St} {p1 : Int32} {p2 : Int32} {r : Int32} (hf : f2_told G N F T p1 p2 = some (.inr r)) : xMi l yX2_told wsX2_told 7 111 0 0 D (xT y) [.ref aH, .int p1, .int p2] (hC aH aN aF aT aG ++ (gC y aG G ++ (nC y aN N ++ (nC y aF F ++ tC y aT T)))) (fun (r' : Int32) (_ : Unit) => r' = r) (fun _ : Unit => hC aH aN aF aT aG ++ (gC y aG G ++ (nC y aN N ++ (nC y aF F ++ tC y aT T)))) := by
  refine xMi_of (cc := cX2_told) (nL := 3) (ret := (some .int)) [(0, .ref aH), (1, .int p1), (2, .int p2)] (by decide) rfl (Nat.le_of_ble_eq_true rfl) rfl ?_
  intro p e s m args below meth c A C hin
  have C : xC p s m args meth c D A cX2_told RX2 3 wsX2_told (xT y) (some .int) := C
  unfold f2_told at hf
  refine x_iload_n (q := 1) C 1 dX2_told_0 rfl rfl rfl ?_
  refine x_aload_n (q := 2) C 0 dX2_told_1 rfl rfl rfl ?_
  refine x_get (q := 5) C 0 dX2_told_2 ((oX2 aH aN aF aT aG).L) rfl iuX2_told_X2 flX2_told_12 rfl (by decide) rfl rfl ?_
  refine x_get (q := 8) C 7 dX2_told_5 (((((oX1 y aT T).R).R).R).R) rfl iuX2_told_X1 flX2_told_63 rfl (by decide) rfl rfl ?_
  obtain ⟨hcal1, hf⟩ := bx0_inr hf
  refine x_callSv (q := 11) C (c2_requireIndex (l := l) (D := D) (y := y)  hcal1) yi_X2_requireIndex gX2_told_X2_requireIndex ⟨(Nat.le_of_ble_eq_true rfl), (Nat.le_of_ble_eq_true rfl)⟩ dX2_told_8 pm_emp rfl rfl (Nat.le_of_ble_eq_true rfl) ⟨Nat.le_of_ble_eq_true rfl, Nat.le_of_ble_eq_true rfl⟩ rfl ?_
  intro uu hrr
  refine x_world (ws' := hC aH aN aF aT aG ++ (gC y aG G ++ (nC y aN N ++ (nC y aF F ++ tC y aT T)))) rfl ?_
  refine x_iload_n (q := 12) C 2 dX2_told_11 rfl rfl rfl ?_
  refine x_bipush (q := 14) C dX2_told_12 kb_9 rfl ?_
  obtain ⟨hcal2, hf⟩ := bx0_inr hf
  refine x_callSv (q := 17) C (c2_requireIndex (l := l) (D := D) (y := y)  hcal2) yi_X2_requireIndex gX2_told_X2_requireIndex ⟨(Nat.le_of_ble_eq_true rfl), (Nat.le_of_ble_eq_true rfl)⟩ dX2_told_14 pm_emp rfl rfl (Nat.le_of_ble_eq_true rfl) ⟨Nat.le_of_ble_eq_true rfl, Nat.le_of_ble_eq_true rfl⟩ rfl ?_
  intro uu hrr
  refine x_world (ws' := hC aH aN aF aT aG ++ (gC y aG G ++ (nC y aN N ++ (nC y aF F ++ tC y aT T)))) rfl ?_
  refine x_iload_n (q := 18) C 2 dX2_told_17 rfl rfl rfl ?_
  by_cases hw0 : p2 = 0
  · have hf := (if_pos hw0).symm.trans hf
    refine x_table (t := 64) (off := 46) 0 C dX2_told_18 hw0 (by decide) (by decide) (by decide) (by decide) ?_
    refine x_aload_n (q := 65) C 0 dX2_told_64 rfl rfl rfl ?_
    refine x_get (q := 68) C 0 dX2_told_65 ((oX2 aH aN aF aT aG).L) rfl iuX2_told_X2 flX2_told_12 rfl (by decide) rfl rfl ?_
    refine x_get (q := 71) C 8 dX2_told_68 (((((oX1 y aT T).R).R).R).R) rfl iuX2_told_X1 flX2_told_114 rfl (by decide) rfl rfl ?_
    refine x_iload_n (q := 72) C 1 dX2_told_71 rfl rfl rfl ?_
    obtain ⟨hb3, hf⟩ := gd_some hf
    refine x_iald (q := 73) C 0 dX2_told_72 (((((aX1_8 y aT T).R).R).R).R) rfl hb3 rfl ?_
    have hf := Sum.inr.inj (Option.some.inj hf)
    exact x_iret () C dX2_told_73 rfl hf rfl (Nat.le_of_ble_eq_true rfl) (Nat.le_of_ble_eq_true rfl)
  have hf := (if_neg hw0).symm.trans hf
  by_cases hw1 : p2 = 1
  · have hf := (if_pos hw1).symm.trans hf
    refine x_table (t := 74) (off := 56) 1 C dX2_told_18 hw1 (by decide) (by decide) (by decide) (by decide) ?_
    refine x_aload_n (q := 75) C 0 dX2_told_74 rfl rfl rfl ?_
    refine x_get (q := 78) C 0 dX2_told_75 ((oX2 aH aN aF aT aG).L) rfl iuX2_told_X2 flX2_told_12 rfl (by decide) rfl rfl ?_
    refine x_get (q := 81) C 9 dX2_told_78 (((((oX1 y aT T).R).R).R).R) rfl iuX2_told_X1 flX2_told_117 rfl (by decide) rfl rfl ?_
    refine x_iload_n (q := 82) C 1 dX2_told_81 rfl rfl rfl ?_
    obtain ⟨hb4, hf⟩ := gd_some hf
    refine x_iald (q := 83) C 0 dX2_told_82 (((((aX1_9 y aT T).R).R).R).R) rfl hb4 rfl ?_
    have hf := Sum.inr.inj (Option.some.inj hf)
    exact x_iret () C dX2_told_83 rfl hf rfl (Nat.le_of_ble_eq_true rfl) (Nat.le_of_ble_eq_true rfl)
  have hf := (if_neg hw1).symm.trans hf
  by_cases hw2 : p2 = 2
  · have hf := (if_pos hw2).symm.trans hf
    refine x_table (t := 84) (off := 66) 2 C dX2_told_18 hw2 (by decide) (by decide) (by decide) (by decide) ?_
    refine x_aload_n (q := 85) C 0 dX2_told_84 rfl rfl rfl ?_
    refine x_get (q := 88) C 0 dX2_told_85 ((oX2 aH aN aF aT aG).L) rfl iuX2_told_X2 flX2_told_12 rfl (by decide) rfl rfl ?_
    refine x_get (q := 91) C 10 dX2_told_88 (((((oX1 y aT T).R).R).R).R) rfl iuX2_told_X1 flX2_told_70 rfl (by decide) rfl rfl ?_
    refine x_iload_n (q := 92) C 1 dX2_told_91 rfl rfl rfl ?_
    obtain ⟨hb5, hf⟩ := gd_some hf
    refine x_iald (q := 93) C 0 dX2_told_92 (((((aX1_10 y aT T).R).R).R).R) rfl hb5 rfl ?_
    have hf := Sum.inr.inj (Option.some.inj hf)
    exact x_iret () C dX2_told_93 rfl hf rfl (Nat.le_of_ble_eq_true rfl) (Nat.le_of_ble_eq_true rfl)
  have hf := (if_neg hw2).symm.trans hf
  by_cases hw3 : p2 = 3
  · have hf := (if_pos hw3).symm.trans hf
    refine x_table (t := 94) (off := 76) 3 C dX2_told_18 hw3 (by decide) (by decide) (by decide) (by decide) ?_
    refine x_aload_n (q := 95) C 0 dX2_told_94 rfl rfl rfl ?_
    refine x_get (q := 98) C 1 dX2_told_95 ((oX2 aH aN aF aT aG).L) rfl iuX2_told_X2 flX2_told_19 rfl (by decide) rfl rfl ?_
    refine x_get (q := 101) C 4 dX2_told_98 ((((oX0 y aN N).L).R).R) rfl iuX2_told_X0 flX2_told_120 rfl (by decide) rfl rfl ?_
    refine x_iload_n (q := 102) C 1 dX2_told_101 rfl rfl rfl ?_
    obtain ⟨hb6, hf⟩ := gd_some hf
    refine x_iald (q := 103) C 0 dX2_told_102 ((((aX0_4 y aN N).L).R).R) rfl hb6 rfl ?_
    have hf := Sum.inr.inj (Option.some.inj hf)
    exact x_iret () C dX2_told_103 rfl hf rfl (Nat.le_of_ble_eq_true rfl) (Nat.le_of_ble_eq_true rfl)
  have hf := (if_neg hw3).symm.trans hf
  by_cases hw4 : p2 = 4
  · have hf := (if_pos hw4).symm.trans hf
    refine x_table (t := 104) (off := 86) 4 C dX2_told_18 hw4 (by decide) (by decide) (by decide) (by decide) ?_
    refine x_aload_n (q := 105) C 0 dX2_told_104 rfl rfl rfl ?_
    refine x_get (q := 108) C 1 dX2_told_105 ((oX2 aH aN aF aT aG).L) rfl iuX2_told_X2 flX2_told_19 rfl (by decide) rfl rfl ?_
    refine x_get (q := 111) C 5 dX2_told_108 ((((oX0 y aN N).L).R).R) rfl iuX2_told_X0 flX2_told_123 rfl (by decide) rfl rfl ?_
    refine x_iload_n (q := 112) C 1 dX2_told_111 rfl rfl rfl ?_
    obtain ⟨hb7, hf⟩ := gd_some hf
    refine x_iald (q := 113) C 0 dX2_told_112 ((((aX0_5 y aN N).L).R).R) rfl hb7 rfl ?_
    have hf := Sum.inr.inj (Option.some.inj hf)
    exact x_iret () C dX2_told_113 rfl hf rfl (Nat.le_of_ble_eq_true rfl) (Nat.le_of_ble_eq_true rfl)
  have hf := (if_neg hw4).symm.trans hf
  by_cases hw5 : p2 = 5
  · have hf := (if_pos hw5).symm.trans hf
    refine x_table (t := 114) (off := 96) 5 C dX2_told_18 hw5 (by decide) (by decide) (by decide) (by decide) ?_
    refine x_aload_n (q := 115) C 0 dX2_told_114 rfl rfl rfl ?_
    refine x_get (q := 118) C 1 dX2_told_115 ((oX2 aH aN aF aT aG).L) rfl iuX2_told_X2 flX2_told_19 rfl (by decide) rfl rfl ?_
    refine x_get (q := 121) C 6 dX2_told_118 ((((oX0 y aN N).L).R).R) rfl iuX2_told_X0 flX2_told_126 rfl (by decide) rfl rfl ?_
    refine x_iload_n (q := 122) C 1 dX2_told_121 rfl rfl rfl ?_
    obtain ⟨hb8, hf⟩ := gd_some hf
    refine x_zald (q := 123) C 1 dX2_told_122 ((((aX0_6 y aN N).L).R).R) rfl hb8 rfl ?_
    refine x_if_eq (t := 130) (q := 126) C dX2_told_123 (by decide) rfl (fun hc => ?_) (fun hc => ?_)
    · have hf := (if_pos hc).symm.trans hf
      refine x_iconst (q := 131) C dX2_told_130 ki_0 rfl ?_
      have hf := Sum.inr.inj (Option.some.inj hf)
      exact x_iret () C dX2_told_131 rfl hf rfl (Nat.le_of_ble_eq_true rfl) (Nat.le_of_ble_eq_true rfl)
    · have hf := (if_neg hc).symm.trans hf
      refine x_iconst (q := 127) C dX2_told_126 ki_1 rfl ?_
      refine x_goto (t := 131) C dX2_told_127 (by decide) ?_
      have hf := Sum.inr.inj (Option.some.inj hf)
      exact x_iret () C dX2_told_131 rfl hf rfl (Nat.le_of_ble_eq_true rfl) (Nat.le_of_ble_eq_true rfl)
  have hf := (if_neg hw5).symm.trans hf
  by_cases hw6 : p2 = 6
  · have hf := (if_pos hw6).symm.trans hf
    refine x_table (t := 132) (off := 114) 6 C dX2_told_18 hw6 (by decide) (by decide) (by decide) (by decide) ?_
    refine x_aload_n (q := 133) C 0 dX2_told_132 rfl rfl rfl ?_
    refine x_get (q := 136) C 1 dX2_told_133 ((oX2 aH aN aF aT aG).L) rfl iuX2_told_X2 flX2_told_19 rfl (by decide) rfl rfl ?_
    refine x_aload_n (q := 137) C 0 dX2_told_136 rfl rfl rfl ?_
    refine x_get (q := 140) C 0 dX2_told_137 ((oX2 aH aN aF aT aG).L) rfl iuX2_told_X2 flX2_told_12 rfl (by decide) rfl rfl ?_
    refine x_iload_n (q := 141) C 1 dX2_told_140 rfl rfl rfl ?_
    obtain ⟨v9, hcal10, hf⟩ := bd_some hf
    refine x_callVi (q := 144) C (c0_whoGoesTo (l := l) (D := D) (y := y) (aN := aN) (aT := aT) hcal10) yi_X0_whoGoesTo gX2_told_X0_whoGoesTo rfl ((oX0 y aN N).L) rfl ⟨(Nat.le_of_ble_eq_true rfl), (Nat.le_of_ble_eq_true rfl)⟩ dX2_told_141 (pm5_24 _ _ _ _ _) rfl rfl (Nat.le_of_ble_eq_true rfl) ⟨Nat.le_of_ble_eq_true rfl, Nat.le_of_ble_eq_true rfl⟩ rfl ?_
    intro rr11 uu hrr
    have hrr : v9 = rr11 := Eq.symm hrr
    subst hrr
    refine x_perm (ws' := hC aH aN aF aT aG ++ (gC y aG G ++ (nC y aN N ++ (nC y aF F ++ tC y aT T)))) (pm5_24 _ _ _ _ _).symm ?_
    have hf := Sum.inr.inj (Option.some.inj hf)
    exact x_iret () C dX2_told_144 rfl hf rfl (Nat.le_of_ble_eq_true rfl) (Nat.le_of_ble_eq_true rfl)
  have hf := (if_neg hw6).symm.trans hf
  by_cases hw7 : p2 = 7
  · have hf := (if_pos hw7).symm.trans hf
    refine x_table (t := 145) (off := 127) 7 C dX2_told_18 hw7 (by decide) (by decide) (by decide) (by decide) ?_
    refine x_aload_n (q := 146) C 0 dX2_told_145 rfl rfl rfl ?_
    refine x_get (q := 149) C 1 dX2_told_146 ((oX2 aH aN aF aT aG).L) rfl iuX2_told_X2 flX2_told_19 rfl (by decide) rfl rfl ?_
    refine x_get (q := 152) C 7 dX2_told_149 ((((oX0 y aN N).L).R).R) rfl iuX2_told_X0 flX2_told_134 rfl (by decide) rfl rfl ?_
    refine x_iload_n (q := 153) C 1 dX2_told_152 rfl rfl rfl ?_
    obtain ⟨hb12, hf⟩ := gd_some hf
    refine x_iald (q := 154) C 0 dX2_told_153 ((((aX0_7 y aN N).L).R).R) rfl hb12 rfl ?_
    have hf := Sum.inr.inj (Option.some.inj hf)
    exact x_iret () C dX2_told_154 rfl hf rfl (Nat.le_of_ble_eq_true rfl) (Nat.le_of_ble_eq_true rfl)
  have hf := (if_neg hw7).symm.trans hf
  refine x_tableOut (t := 155) C dX2_told_18 (xtab8 hw0 hw1 hw2 hw3 hw4 hw5 hw6 hw7) (by decide) ?_
  refine x_aload_n (q := 156) C 0 dX2_told_155 rfl rfl rfl ?_
  refine x_get (q := 159) C 1 dX2_told_156 ((oX2 aH aN aF aT aG).L) rfl iuX2_told_X2 flX2_told_19 rfl (by decide) rfl rfl ?_
  refine x_get (q := 162) C 8 dX2_told_159 ((((oX0 y aN N).L).R).R) rfl iuX2_told_X0 flX2_told_137 rfl (by decide) rfl rfl ?_
  refine x_iload_n (q := 163) C 1 dX2_told_162 rfl rfl rfl ?_
  obtain ⟨hb13, hf⟩ := gd_some hf
  refine x_iald (q := 164) C 0 dX2_told_163 ((((aX0_8 y aN N).L).R).R) rfl hb13 rfl ?_
  have hf := Sum.inr.inj (Option.some.inj hf)
  exact x_iret () C dX2_told_164 rfl hf rfl (Nat.le_of_ble_eq_true rfl) (Nat.le_of_ble_eq_true rfl)

/-! LampHills.lighter(II)I -/
theorem kb_7 : (Int8.ofInt 7).toInt32 = 7 := by decide
theorem flX2_lighter_12 : Cond.fieldLink RX2 12 "LampHills" "town" "LLampHills$Town;" ∈ wsX2_lighter := by decide +kernel
theorem flX2_lighter_140 : Cond.fieldLink RX2 140 "LampHills$Night" "at" "[I" ∈ wsX2_lighter := by decide +kernel
theorem flX2_lighter_143 : Cond.fieldLink RX2 143 "LampHills$Town" "ladder" "[I" ∈ wsX2_lighter := by decide +kernel
theorem flX2_lighter_146 : Cond.fieldLink RX2 146 "LampHills$Night" "goesTo" "[I" ∈ wsX2_lighter := by decide +kernel
theorem flX2_lighter_149 : Cond.fieldLink RX2 149 "LampHills$Night" "minutesLeft" "[I" ∈ wsX2_lighter := by decide +kernel
theorem flX2_lighter_152 : Cond.fieldLink RX2 152 "LampHills$Night" "litBy" "[I" ∈ wsX2_lighter := by decide +kernel
theorem flX2_lighter_19 : Cond.fieldLink RX2 19 "LampHills" "night" "LLampHills$Night;" ∈ wsX2_lighter := by decide +kernel
theorem flX2_lighter_76 : Cond.fieldLink RX2 76 "LampHills$Town" "lighters" "I" ∈ wsX2_lighter := by decide +kernel
theorem flX2_lighter_82 : Cond.fieldLink RX2 82 "LampHills$Night" "can" "[I" ∈ wsX2_lighter := by decide +kernel
theorem flX2_lighter_98 : Cond.fieldLink RX2 98 "LampHills$Town" "roundSize" "[I" ∈ wsX2_lighter := by decide +kernel
theorem iuX2_lighter_X0 : ∀ w ∈ u_ws RX0 TX0 16, w ∈ wsX2_lighter := fun _ h => List.mem_cons_of_mem _ (List.mem_append_left _ (List.mem_append_right _ h))
theorem iuX2_lighter_X1 : ∀ w ∈ u_ws RX1 TX1 17, w ∈ wsX2_lighter := fun _ h => List.mem_cons_of_mem _ (List.mem_append_left _ (List.mem_append_left _ (List.mem_append_right _ h)))
theorem iuX2_lighter_X2 : ∀ w ∈ u_ws RX2 TX2 4, w ∈ wsX2_lighter := fun _ h => List.mem_cons_of_mem _ (List.mem_append_left _ (List.mem_append_left _ (List.mem_append_left _ (List.mem_append_right _ h))))
def f2_lighter (G : St) (N : St) (F : St) (T : St) (p1 : Int32) (p2 : Int32) : Option (Nat ⊕ (Int32)) :=
  bx0 (f2_requireIndex p1 (T 12 0)) <|
  bx0 (f2_requireIndex p2 7) <|
  if p2 = 0 then
  (
    gd (xin p1 4) <|
    some (.inr (N 9 p1.toNatClampNeg))
  )
  else
  if p2 = 1 then
  (
    gd (xin p1 4) <|
    some (.inr (T 14 p1.toNatClampNeg))
  )
  else
  if p2 = 2 then
  (
    gd (xin p1 4) <|
    some (.inr (N 10 p1.toNatClampNeg))
  )
  else
  if p2 = 3 then
  (
    gd (xin p1 4) <|
    some (.inr (T 15 p1.toNatClampNeg))
  )
  else
  if p2 = 4 then
  (
    gd (xin p1 4) <|
    some (.inr (N 11 p1.toNatClampNeg))
  )
  else
  if p2 = 5 then
  (
    gd (xin p1 4) <|
    some (.inr (N 13 p1.toNatClampNeg))
  )
  else
  (
    gd (xin p1 4) <|
    some (.inr (N 15 p1.toNatClampNeg))
  )
set_option maxHeartbeats 4000000 in
set_option maxRecDepth 100000 in
theorem c2_lighter {l : Launch} {D : va_G} {y : Nat → ClassId} {aH : Nat} {aG aN aF aT : Nat → Nat} {G : St} {N : St} {F : St} {T : St} {p1 : Int32} {p2 : Int32} {r : Int32} (hf : f2_lighter G N F T p1 p2 = some (.inr r)) : xMi l yX2_lighter wsX2_lighter 7 111 0 0 D (xT y) [.ref aH, .int p1, .int p2] (hC aH aN aF aT aG ++ (gC y aG G ++ (nC y aN N ++ (nC y aF F ++ tC y aT T)))) (fun (r' : Int32) (_ : Unit) => r' = r) (fun _ : Unit => hC aH aN aF aT aG ++ (gC y aG G ++ (nC y aN N ++ (nC y aF F ++ tC y aT T)))) := by
  refine xMi_of (cc := cX2_lighter) (nL := 3) (ret := (some .int)) [(0, .ref aH), (1, .int p1), (2, .int p2)] (by decide) rfl (Nat.le_of_ble_eq_true rfl) rfl ?_
  intro p e s m args below meth c A C hin
  have C : xC p s m args meth c D A cX2_lighter RX2 3 wsX2_lighter (xT y) (some .int) := C
  unfold f2_lighter at hf
  refine x_iload_n (q := 1) C 1 dX2_lighter_0 rfl rfl rfl ?_
  refine x_aload_n (q := 2) C 0 dX2_lighter_1 rfl rfl rfl ?_
  refine x_get (q := 5) C 0 dX2_lighter_2 ((oX2 aH aN aF aT aG).L) rfl iuX2_lighter_X2 flX2_lighter_12 rfl (by decide) rfl rfl ?_
  refine x_get (q := 8) C 12 dX2_lighter_5 (((((oX1 y aT T).R).R).R).R) rfl iuX2_lighter_X1 flX2_lighter_76 rfl (by decide) rfl rfl ?_
  obtain ⟨hcal1, hf⟩ := bx0_inr hf
  refine x_callSv (q := 11) C (c2_requireIndex (l := l) (D := D) (y := y)  hcal1) yi_X2_requireIndex gX2_lighter_X2_requireIndex ⟨(Nat.le_of_ble_eq_true rfl), (Nat.le_of_ble_eq_true rfl)⟩ dX2_lighter_8 pm_emp rfl rfl (Nat.le_of_ble_eq_true rfl) ⟨Nat.le_of_ble_eq_true rfl, Nat.le_of_ble_eq_true rfl⟩ rfl ?_
  intro uu hrr
  refine x_world (ws' := hC aH aN aF aT aG ++ (gC y aG G ++ (nC y aN N ++ (nC y aF F ++ tC y aT T)))) rfl ?_
  refine x_iload_n (q := 12) C 2 dX2_lighter_11 rfl rfl rfl ?_
  refine x_bipush (q := 14) C dX2_lighter_12 kb_7 rfl ?_
  obtain ⟨hcal2, hf⟩ := bx0_inr hf
  refine x_callSv (q := 17) C (c2_requireIndex (l := l) (D := D) (y := y)  hcal2) yi_X2_requireIndex gX2_lighter_X2_requireIndex ⟨(Nat.le_of_ble_eq_true rfl), (Nat.le_of_ble_eq_true rfl)⟩ dX2_lighter_14 pm_emp rfl rfl (Nat.le_of_ble_eq_true rfl) ⟨Nat.le_of_ble_eq_true rfl, Nat.le_of_ble_eq_true rfl⟩ rfl ?_
  intro uu hrr
  refine x_world (ws' := hC aH aN aF aT aG ++ (gC y aG G ++ (nC y aN N ++ (nC y aF F ++ tC y aT T)))) rfl ?_
  refine x_iload_n (q := 18) C 2 dX2_lighter_17 rfl rfl rfl ?_
  by_cases hw0 : p2 = 0
  · have hf := (if_pos hw0).symm.trans hf
    refine x_table (t := 56) (off := 38) 0 C dX2_lighter_18 hw0 (by decide) (by decide) (by decide) (by decide) ?_
    refine x_aload_n (q := 57) C 0 dX2_lighter_56 rfl rfl rfl ?_
    refine x_get (q := 60) C 1 dX2_lighter_57 ((oX2 aH aN aF aT aG).L) rfl iuX2_lighter_X2 flX2_lighter_19 rfl (by decide) rfl rfl ?_
    refine x_get (q := 63) C 9 dX2_lighter_60 ((((oX0 y aN N).L).R).R) rfl iuX2_lighter_X0 flX2_lighter_140 rfl (by decide) rfl rfl ?_
    refine x_iload_n (q := 64) C 1 dX2_lighter_63 rfl rfl rfl ?_
    obtain ⟨hb3, hf⟩ := gd_some hf
    refine x_iald (q := 65) C 0 dX2_lighter_64 ((((aX0_9 y aN N).L).R).R) rfl hb3 rfl ?_
    have hf := Sum.inr.inj (Option.some.inj hf)
    exact x_iret () C dX2_lighter_65 rfl hf rfl (Nat.le_of_ble_eq_true rfl) (Nat.le_of_ble_eq_true rfl)
  have hf := (if_neg hw0).symm.trans hf
  by_cases hw1 : p2 = 1
  · have hf := (if_pos hw1).symm.trans hf
    refine x_table (t := 66) (off := 48) 1 C dX2_lighter_18 hw1 (by decide) (by decide) (by decide) (by decide) ?_
    refine x_aload_n (q := 67) C 0 dX2_lighter_66 rfl rfl rfl ?_
    refine x_get (q := 70) C 0 dX2_lighter_67 ((oX2 aH aN aF aT aG).L) rfl iuX2_lighter_X2 flX2_lighter_12 rfl (by decide) rfl rfl ?_
    refine x_get (q := 73) C 14 dX2_lighter_70 (((((oX1 y aT T).R).R).R).R) rfl iuX2_lighter_X1 flX2_lighter_143 rfl (by decide) rfl rfl ?_
    refine x_iload_n (q := 74) C 1 dX2_lighter_73 rfl rfl rfl ?_
    obtain ⟨hb4, hf⟩ := gd_some hf
    refine x_iald (q := 75) C 0 dX2_lighter_74 (((((aX1_14 y aT T).R).R).R).R) rfl hb4 rfl ?_
    have hf := Sum.inr.inj (Option.some.inj hf)
    exact x_iret () C dX2_lighter_75 rfl hf rfl (Nat.le_of_ble_eq_true rfl) (Nat.le_of_ble_eq_true rfl)
  have hf := (if_neg hw1).symm.trans hf
  by_cases hw2 : p2 = 2
  · have hf := (if_pos hw2).symm.trans hf
    refine x_table (t := 76) (off := 58) 2 C dX2_lighter_18 hw2 (by decide) (by decide) (by decide) (by decide) ?_
    refine x_aload_n (q := 77) C 0 dX2_lighter_76 rfl rfl rfl ?_
    refine x_get (q := 80) C 1 dX2_lighter_77 ((oX2 aH aN aF aT aG).L) rfl iuX2_lighter_X2 flX2_lighter_19 rfl (by decide) rfl rfl ?_
    refine x_get (q := 83) C 10 dX2_lighter_80 ((((oX0 y aN N).L).R).R) rfl iuX2_lighter_X0 flX2_lighter_82 rfl (by decide) rfl rfl ?_
    refine x_iload_n (q := 84) C 1 dX2_lighter_83 rfl rfl rfl ?_
    obtain ⟨hb5, hf⟩ := gd_some hf
    refine x_iald (q := 85) C 0 dX2_lighter_84 ((((aX0_10 y aN N).L).R).R) rfl hb5 rfl ?_
    have hf := Sum.inr.inj (Option.some.inj hf)
    exact x_iret () C dX2_lighter_85 rfl hf rfl (Nat.le_of_ble_eq_true rfl) (Nat.le_of_ble_eq_true rfl)
  have hf := (if_neg hw2).symm.trans hf
  by_cases hw3 : p2 = 3
  · have hf := (if_pos hw3).symm.trans hf
    refine x_table (t := 86) (off := 68) 3 C dX2_lighter_18 hw3 (by decide) (by decide) (by decide) (by decide) ?_
    refine x_aload_n (q := 87) C 0 dX2_lighter_86 rfl rfl rfl ?_
    refine x_get (q := 90) C 0 dX2_lighter_87 ((oX2 aH aN aF aT aG).L) rfl iuX2_lighter_X2 flX2_lighter_12 rfl (by decide) rfl rfl ?_
    refine x_get (q := 93) C 15 dX2_lighter_90 (((((oX1 y aT T).R).R).R).R) rfl iuX2_lighter_X1 flX2_lighter_98 rfl (by decide) rfl rfl ?_
    refine x_iload_n (q := 94) C 1 dX2_lighter_93 rfl rfl rfl ?_
    obtain ⟨hb6, hf⟩ := gd_some hf
    refine x_iald (q := 95) C 0 dX2_lighter_94 (((((aX1_15 y aT T).R).R).R).R) rfl hb6 rfl ?_
    have hf := Sum.inr.inj (Option.some.inj hf)
    exact x_iret () C dX2_lighter_95 rfl hf rfl (Nat.le_of_ble_eq_true rfl) (Nat.le_of_ble_eq_true rfl)
  have hf := (if_neg hw3).symm.trans hf
  by_cases hw4 : p2 = 4
  · have hf := (if_pos hw4).symm.trans hf
    refine x_table (t := 96) (off := 78) 4 C dX2_lighter_18 hw4 (by decide) (by decide) (by decide) (by decide) ?_
    refine x_aload_n (q := 97) C 0 dX2_lighter_96 rfl rfl rfl ?_
    refine x_get (q := 100) C 1 dX2_lighter_97 ((oX2 aH aN aF aT aG).L) rfl iuX2_lighter_X2 flX2_lighter_19 rfl (by decide) rfl rfl ?_
    refine x_get (q := 103) C 11 dX2_lighter_100 ((((oX0 y aN N).L).R).R) rfl iuX2_lighter_X0 flX2_lighter_146 rfl (by decide) rfl rfl ?_
    refine x_iload_n (q := 104) C 1 dX2_lighter_103 rfl rfl rfl ?_
    obtain ⟨hb7, hf⟩ := gd_some hf
    refine x_iald (q := 105) C 0 dX2_lighter_104 ((((aX0_11 y aN N).L).R).R) rfl hb7 rfl ?_
    have hf := Sum.inr.inj (Option.some.inj hf)
    exact x_iret () C dX2_lighter_105 rfl hf rfl (Nat.le_of_ble_eq_true rfl) (Nat.le_of_ble_eq_true rfl)
  have hf := (if_neg hw4).symm.trans hf
  by_cases hw5 : p2 = 5
  · have hf := (if_pos hw5).symm.trans hf
    refine x_table (t := 106) (off := 88) 5 C dX2_lighter_18 hw5 (by decide) (by decide) (by decide) (by decide) ?_
    refine x_aload_n (q := 107) C 0 dX2_lighter_106 rfl rfl rfl ?_
    refine x_get (q := 110) C 1 dX2_lighter_107 ((oX2 aH aN aF aT aG).L) rfl iuX2_lighter_X2 flX2_lighter_19 rfl (by decide) rfl rfl ?_
    refine x_get (q := 113) C 13 dX2_lighter_110 ((((oX0 y aN N).L).R).R) rfl iuX2_lighter_X0 flX2_lighter_149 rfl (by decide) rfl rfl ?_
    refine x_iload_n (q := 114) C 1 dX2_lighter_113 rfl rfl rfl ?_
    obtain ⟨hb8, hf⟩ := gd_some hf
    refine x_iald (q := 115) C 0 dX2_lighter_114 ((((aX0_13 y aN N).L).R).R) rfl hb8 rfl ?_
    have hf := Sum.inr.inj (Option.some.inj hf)
    exact x_iret () C dX2_lighter_115 rfl hf rfl (Nat.le_of_ble_eq_true rfl) (Nat.le_of_ble_eq_true rfl)
  have hf := (if_neg hw5).symm.trans hf
  refine x_tableOut (t := 116) C dX2_lighter_18 (xtab6 hw0 hw1 hw2 hw3 hw4 hw5) (by decide) ?_
  refine x_aload_n (q := 117) C 0 dX2_lighter_116 rfl rfl rfl ?_
  refine x_get (q := 120) C 1 dX2_lighter_117 ((oX2 aH aN aF aT aG).L) rfl iuX2_lighter_X2 flX2_lighter_19 rfl (by decide) rfl rfl ?_
  refine x_get (q := 123) C 15 dX2_lighter_120 ((((oX0 y aN N).L).R).R) rfl iuX2_lighter_X0 flX2_lighter_152 rfl (by decide) rfl rfl ?_
  refine x_iload_n (q := 124) C 1 dX2_lighter_123 rfl rfl rfl ?_
  obtain ⟨hb9, hf⟩ := gd_some hf
  refine x_iald (q := 125) C 0 dX2_lighter_124 ((((aX0_15 y aN N).L).R).R) rfl hb9 rfl ?_
  have hf := Sum.inr.inj (Option.some.inj hf)
  exact x_iret () C dX2_lighter_125 rfl hf rfl (Nat.le_of_ble_eq_true rfl) (Nat.le_of_ble_eq_true rfl)

/-! LampHills.burning(I)I -/
theorem flX2_burning_12 : Cond.fieldLink RX2 12 "LampHills" "town" "LLampHills$Town;" ∈ wsX2_burning := by decide +kernel
theorem flX2_burning_155 : Cond.fieldLink RX2 155 "LampHills$Night" "burningIn" "[I" ∈ wsX2_burning := by decide +kernel
theorem flX2_burning_19 : Cond.fieldLink RX2 19 "LampHills" "night" "LLampHills$Night;" ∈ wsX2_burning := by decide +kernel
theorem flX2_burning_56 : Cond.fieldLink RX2 56 "LampHills$Town" "streets" "I" ∈ wsX2_burning := by decide +kernel
theorem iuX2_burning_X0 : ∀ w ∈ u_ws RX0 TX0 16, w ∈ wsX2_burning := fun _ h => List.mem_cons_of_mem _ (List.mem_append_left _ (List.mem_append_right _ h))
theorem iuX2_burning_X1 : ∀ w ∈ u_ws RX1 TX1 17, w ∈ wsX2_burning := fun _ h => List.mem_cons_of_mem _ (List.mem_append_left _ (List.mem_append_left _ (List.mem_append_right _ h)))
theorem iuX2_burning_X2 : ∀ w ∈ u_ws RX2 TX2 4, w ∈ wsX2_burning := fun _ h => List.mem_cons_of_mem _ (List.mem_append_left _ (List.mem_append_left _ (List.mem_append_left _ (List.mem_append_right _ h))))
def f2_burning (G : St) (N : St) (F : St) (T : St) (p1 : Int32) : Option (Nat ⊕ (Int32)) :=
  bx0 (f2_requireIndex p1 (T 3 0)) <|
  gd (xin p1 18) <|
  some (.inr (N 3 p1.toNatClampNeg))
set_option maxHeartbeats 4000000 in
set_option maxRecDepth 100000 in
theorem c2_burning {l : Launch} {D : va_G} {y : Nat → ClassId} {aH : Nat} {aG aN aF aT : Nat → Nat} {G : St} {N : St} {F : St} {T : St} {p1 : Int32} {r : Int32} (hf : f2_burning G N F T p1 = some (.inr r)) : xMi l yX2_burning wsX2_burning 7 111 0 0 D (xT y) [.ref aH, .int p1] (hC aH aN aF aT aG ++ (gC y aG G ++ (nC y aN N ++ (nC y aF F ++ tC y aT T)))) (fun (r' : Int32) (_ : Unit) => r' = r) (fun _ : Unit => hC aH aN aF aT aG ++ (gC y aG G ++ (nC y aN N ++ (nC y aF F ++ tC y aT T)))) := by
  refine xMi_of (cc := cX2_burning) (nL := 2) (ret := (some .int)) [(0, .ref aH), (1, .int p1)] (by decide) rfl (Nat.le_of_ble_eq_true rfl) rfl ?_
  intro p e s m args below meth c A C hin
  have C : xC p s m args meth c D A cX2_burning RX2 2 wsX2_burning (xT y) (some .int) := C
  unfold f2_burning at hf
  refine x_iload_n (q := 1) C 1 dX2_burning_0 rfl rfl rfl ?_
  refine x_aload_n (q := 2) C 0 dX2_burning_1 rfl rfl rfl ?_
  refine x_get (q := 5) C 0 dX2_burning_2 ((oX2 aH aN aF aT aG).L) rfl iuX2_burning_X2 flX2_burning_12 rfl (by decide) rfl rfl ?_
  refine x_get (q := 8) C 3 dX2_burning_5 (((((oX1 y aT T).R).R).R).R) rfl iuX2_burning_X1 flX2_burning_56 rfl (by decide) rfl rfl ?_
  obtain ⟨hcal1, hf⟩ := bx0_inr hf
  refine x_callSv (q := 11) C (c2_requireIndex (l := l) (D := D) (y := y)  hcal1) yi_X2_requireIndex gX2_burning_X2_requireIndex ⟨(Nat.le_of_ble_eq_true rfl), (Nat.le_of_ble_eq_true rfl)⟩ dX2_burning_8 pm_emp rfl rfl (Nat.le_of_ble_eq_true rfl) ⟨Nat.le_of_ble_eq_true rfl, Nat.le_of_ble_eq_true rfl⟩ rfl ?_
  intro uu hrr
  refine x_world (ws' := hC aH aN aF aT aG ++ (gC y aG G ++ (nC y aN N ++ (nC y aF F ++ tC y aT T)))) rfl ?_
  refine x_aload_n (q := 12) C 0 dX2_burning_11 rfl rfl rfl ?_
  refine x_get (q := 15) C 1 dX2_burning_12 ((oX2 aH aN aF aT aG).L) rfl iuX2_burning_X2 flX2_burning_19 rfl (by decide) rfl rfl ?_
  refine x_get (q := 18) C 3 dX2_burning_15 ((((oX0 y aN N).L).R).R) rfl iuX2_burning_X0 flX2_burning_155 rfl (by decide) rfl rfl ?_
  refine x_iload_n (q := 19) C 1 dX2_burning_18 rfl rfl rfl ?_
  obtain ⟨hb2, hf⟩ := gd_some hf
  refine x_iald (q := 20) C 0 dX2_burning_19 ((((aX0_3 y aN N).L).R).R) rfl hb2 rfl ?_
  have hf := Sum.inr.inj (Option.some.inj hf)
  exact x_iret () C dX2_burning_20 rfl hf rfl (Nat.le_of_ble_eq_true rfl) (Nat.le_of_ble_eq_true rfl)

/-! LampHills.count(I)I -/
theorem flX2_count_12 : Cond.fieldLink RX2 12 "LampHills" "town" "LLampHills$Town;" ∈ wsX2_count := by decide +kernel
theorem flX2_count_158 : Cond.fieldLink RX2 158 "LampHills$Night" "minute" "I" ∈ wsX2_count := by decide +kernel
theorem flX2_count_161 : Cond.fieldLink RX2 161 "LampHills$Night" "number" "I" ∈ wsX2_count := by decide +kernel
theorem flX2_count_174 : Cond.fieldLink RX2 174 "LampHills$Night" "oilUsed" "I" ∈ wsX2_count := by decide +kernel
theorem flX2_count_19 : Cond.fieldLink RX2 19 "LampHills" "night" "LLampHills$Night;" ∈ wsX2_count := by decide +kernel
theorem flX2_count_34 : Cond.fieldLink RX2 34 "LampHills$Town" "corners" "I" ∈ wsX2_count := by decide +kernel
theorem flX2_count_56 : Cond.fieldLink RX2 56 "LampHills$Town" "streets" "I" ∈ wsX2_count := by decide +kernel
theorem flX2_count_63 : Cond.fieldLink RX2 63 "LampHills$Town" "lamps" "I" ∈ wsX2_count := by decide +kernel
theorem flX2_count_76 : Cond.fieldLink RX2 76 "LampHills$Town" "lighters" "I" ∈ wsX2_count := by decide +kernel
theorem iuX2_count_X0 : ∀ w ∈ u_ws RX0 TX0 16, w ∈ wsX2_count := fun _ h => List.mem_cons_of_mem _ (List.mem_append_left _ (List.mem_append_left _ (List.mem_append_right _ h)))
theorem iuX2_count_X1 : ∀ w ∈ u_ws RX1 TX1 17, w ∈ wsX2_count := fun _ h => List.mem_cons_of_mem _ (List.mem_append_left _ (List.mem_append_right _ h))
theorem iuX2_count_X2 : ∀ w ∈ u_ws RX2 TX2 4, w ∈ wsX2_count := fun _ h => List.mem_cons_of_mem _ (List.mem_append_left _ (List.mem_append_left _ (List.mem_append_left _ (List.mem_append_right _ h))))
theorem yi_X0_burningLamps : xY yX0_burningLamps wsX0_burningLamps cX0_burningLamps 4 (some .int) 1 := ⟨⟨_, rfl⟩, by decide +kernel, by decide +kernel, by decide +kernel⟩
theorem yi_X0_darkStreets : xY yX0_darkStreets wsX0_darkStreets cX0_darkStreets 4 (some .int) 1 := ⟨⟨_, rfl⟩, by decide +kernel, by decide +kernel, by decide +kernel⟩
theorem yi_X0_oilOfLamps : xY yX0_oilOfLamps wsX0_oilOfLamps cX0_oilOfLamps 4 (some .int) 1 := ⟨⟨_, rfl⟩, by decide +kernel, by decide +kernel, by decide +kernel⟩
def f2_count (G : St) (N : St) (F : St) (T : St) (p1 : Int32) : Option (Nat ⊕ (Int32)) :=
  bx0 (f2_requireIndex p1 10) <|
  if p1 = 0 then
  (
    some (.inr (N 0 0))
  )
  else
  if p1 = 1 then
  (
    some (.inr (N 1 0))
  )
  else
  if p1 = 2 then
  (
    some (.inr (T 0 0))
  )
  else
  if p1 = 3 then
  (
    some (.inr (T 3 0))
  )
  else
  if p1 = 4 then
  (
    some (.inr (T 7 0))
  )
  else
  if p1 = 5 then
  (
    bd (f0_burningLamps N T) fun v2 =>
    some (.inr v2)
  )
  else
  if p1 = 6 then
  (
    bd (f0_darkStreets N T) fun v5 =>
    some (.inr v5)
  )
  else
  if p1 = 7 then
  (
    some (.inr (T 12 0))
  )
  else
  if p1 = 8 then
  (
    bd (f0_oilOfLamps N T) fun v8 =>
    some (.inr v8)
  )
  else
  (
    some (.inr (N 2 0))
  )
set_option maxHeartbeats 4000000 in
set_option maxRecDepth 100000 in
theorem c2_count {l : Launch} {D : va_G} {y : Nat → ClassId} {aH : Nat} {aG aN aF aT : Nat → Nat} {G : St} {N : St} {F : St} {T : St} {p1 : Int32} {r : Int32} (hf : f2_count G N F T p1 = some (.inr r)) : xMi l yX2_count wsX2_count 7 111 0 0 D (xT y) [.ref aH, .int p1] (hC aH aN aF aT aG ++ (gC y aG G ++ (nC y aN N ++ (nC y aF F ++ tC y aT T)))) (fun (r' : Int32) (_ : Unit) => r' = r) (fun _ : Unit => hC aH aN aF aT aG ++ (gC y aG G ++ (nC y aN N ++ (nC y aF F ++ tC y aT T)))) := by
  refine xMi_of (cc := cX2_count) (nL := 2) (ret := (some .int)) [(0, .ref aH), (1, .int p1)] (by decide) rfl (Nat.le_of_ble_eq_true rfl) rfl ?_
  intro p e s m args below meth c A C hin
  have C : xC p s m args meth c D A cX2_count RX2 2 wsX2_count (xT y) (some .int) := C
  unfold f2_count at hf
  refine x_iload_n (q := 1) C 1 dX2_count_0 rfl rfl rfl ?_
  refine x_bipush (q := 3) C dX2_count_1 kb_10 rfl ?_
  obtain ⟨hcal1, hf⟩ := bx0_inr hf
  refine x_callSv (q := 6) C (c2_requireIndex (l := l) (D := D) (y := y)  hcal1) yi_X2_requireIndex gX2_count_X2_requireIndex ⟨(Nat.le_of_ble_eq_true rfl), (Nat.le_of_ble_eq_true rfl)⟩ dX2_count_3 pm_emp rfl rfl (Nat.le_of_ble_eq_true rfl) ⟨Nat.le_of_ble_eq_true rfl, Nat.le_of_ble_eq_true rfl⟩ rfl ?_
  intro uu hrr
  refine x_world (ws' := hC aH aN aF aT aG ++ (gC y aG G ++ (nC y aN N ++ (nC y aF F ++ tC y aT T)))) rfl ?_
  refine x_iload_n (q := 7) C 1 dX2_count_6 rfl rfl rfl ?_
  by_cases hw0 : p1 = 0
  · have hf := (if_pos hw0).symm.trans hf
    refine x_table (t := 56) (off := 49) 0 C dX2_count_7 hw0 (by decide) (by decide) (by decide) (by decide) ?_
    refine x_aload_n (q := 57) C 0 dX2_count_56 rfl rfl rfl ?_
    refine x_get (q := 60) C 1 dX2_count_57 ((oX2 aH aN aF aT aG).L) rfl iuX2_count_X2 flX2_count_19 rfl (by decide) rfl rfl ?_
    refine x_get (q := 63) C 0 dX2_count_60 ((((oX0 y aN N).L).R).R) rfl iuX2_count_X0 flX2_count_158 rfl (by decide) rfl rfl ?_
    have hf := Sum.inr.inj (Option.some.inj hf)
    exact x_iret () C dX2_count_63 rfl hf rfl (Nat.le_of_ble_eq_true rfl) (Nat.le_of_ble_eq_true rfl)
  have hf := (if_neg hw0).symm.trans hf
  by_cases hw1 : p1 = 1
  · have hf := (if_pos hw1).symm.trans hf
    refine x_table (t := 64) (off := 57) 1 C dX2_count_7 hw1 (by decide) (by decide) (by decide) (by decide) ?_
    refine x_aload_n (q := 65) C 0 dX2_count_64 rfl rfl rfl ?_
    refine x_get (q := 68) C 1 dX2_count_65 ((oX2 aH aN aF aT aG).L) rfl iuX2_count_X2 flX2_count_19 rfl (by decide) rfl rfl ?_
    refine x_get (q := 71) C 1 dX2_count_68 ((((oX0 y aN N).L).R).R) rfl iuX2_count_X0 flX2_count_161 rfl (by decide) rfl rfl ?_
    have hf := Sum.inr.inj (Option.some.inj hf)
    exact x_iret () C dX2_count_71 rfl hf rfl (Nat.le_of_ble_eq_true rfl) (Nat.le_of_ble_eq_true rfl)
  have hf := (if_neg hw1).symm.trans hf
  by_cases hw2 : p1 = 2
  · have hf := (if_pos hw2).symm.trans hf
    refine x_table (t := 72) (off := 65) 2 C dX2_count_7 hw2 (by decide) (by decide) (by decide) (by decide) ?_
    refine x_aload_n (q := 73) C 0 dX2_count_72 rfl rfl rfl ?_
    refine x_get (q := 76) C 0 dX2_count_73 ((oX2 aH aN aF aT aG).L) rfl iuX2_count_X2 flX2_count_12 rfl (by decide) rfl rfl ?_
    refine x_get (q := 79) C 0 dX2_count_76 (((((oX1 y aT T).R).R).R).R) rfl iuX2_count_X1 flX2_count_34 rfl (by decide) rfl rfl ?_
    have hf := Sum.inr.inj (Option.some.inj hf)
    exact x_iret () C dX2_count_79 rfl hf rfl (Nat.le_of_ble_eq_true rfl) (Nat.le_of_ble_eq_true rfl)
  have hf := (if_neg hw2).symm.trans hf
  by_cases hw3 : p1 = 3
  · have hf := (if_pos hw3).symm.trans hf
    refine x_table (t := 80) (off := 73) 3 C dX2_count_7 hw3 (by decide) (by decide) (by decide) (by decide) ?_
    refine x_aload_n (q := 81) C 0 dX2_count_80 rfl rfl rfl ?_
    refine x_get (q := 84) C 0 dX2_count_81 ((oX2 aH aN aF aT aG).L) rfl iuX2_count_X2 flX2_count_12 rfl (by decide) rfl rfl ?_
    refine x_get (q := 87) C 3 dX2_count_84 (((((oX1 y aT T).R).R).R).R) rfl iuX2_count_X1 flX2_count_56 rfl (by decide) rfl rfl ?_
    have hf := Sum.inr.inj (Option.some.inj hf)
    exact x_iret () C dX2_count_87 rfl hf rfl (Nat.le_of_ble_eq_true rfl) (Nat.le_of_ble_eq_true rfl)
  have hf := (if_neg hw3).symm.trans hf
  by_cases hw4 : p1 = 4
  · have hf := (if_pos hw4).symm.trans hf
    refine x_table (t := 88) (off := 81) 4 C dX2_count_7 hw4 (by decide) (by decide) (by decide) (by decide) ?_
    refine x_aload_n (q := 89) C 0 dX2_count_88 rfl rfl rfl ?_
    refine x_get (q := 92) C 0 dX2_count_89 ((oX2 aH aN aF aT aG).L) rfl iuX2_count_X2 flX2_count_12 rfl (by decide) rfl rfl ?_
    refine x_get (q := 95) C 7 dX2_count_92 (((((oX1 y aT T).R).R).R).R) rfl iuX2_count_X1 flX2_count_63 rfl (by decide) rfl rfl ?_
    have hf := Sum.inr.inj (Option.some.inj hf)
    exact x_iret () C dX2_count_95 rfl hf rfl (Nat.le_of_ble_eq_true rfl) (Nat.le_of_ble_eq_true rfl)
  have hf := (if_neg hw4).symm.trans hf
  by_cases hw5 : p1 = 5
  · have hf := (if_pos hw5).symm.trans hf
    refine x_table (t := 96) (off := 89) 5 C dX2_count_7 hw5 (by decide) (by decide) (by decide) (by decide) ?_
    refine x_aload_n (q := 97) C 0 dX2_count_96 rfl rfl rfl ?_
    refine x_get (q := 100) C 1 dX2_count_97 ((oX2 aH aN aF aT aG).L) rfl iuX2_count_X2 flX2_count_19 rfl (by decide) rfl rfl ?_
    refine x_aload_n (q := 101) C 0 dX2_count_100 rfl rfl rfl ?_
    refine x_get (q := 104) C 0 dX2_count_101 ((oX2 aH aN aF aT aG).L) rfl iuX2_count_X2 flX2_count_12 rfl (by decide) rfl rfl ?_
    obtain ⟨v2, hcal3, hf⟩ := bd_some hf
    refine x_callVi (q := 107) C (c0_burningLamps (l := l) (D := D) (y := y) (aN := aN) (aT := aT) hcal3) yi_X0_burningLamps gX2_count_X0_burningLamps rfl ((oX0 y aN N).L) rfl ⟨(Nat.le_of_ble_eq_true rfl), (Nat.le_of_ble_eq_true rfl)⟩ dX2_count_104 (pm5_24 _ _ _ _ _) rfl rfl (Nat.le_of_ble_eq_true rfl) ⟨Nat.le_of_ble_eq_true rfl, Nat.le_of_ble_eq_true rfl⟩ rfl ?_
    intro rr4 uu hrr
    have hrr : v2 = rr4 := Eq.symm hrr
    subst hrr
    refine x_perm (ws' := hC aH aN aF aT aG ++ (gC y aG G ++ (nC y aN N ++ (nC y aF F ++ tC y aT T)))) (pm5_24 _ _ _ _ _).symm ?_
    have hf := Sum.inr.inj (Option.some.inj hf)
    exact x_iret () C dX2_count_107 rfl hf rfl (Nat.le_of_ble_eq_true rfl) (Nat.le_of_ble_eq_true rfl)
  have hf := (if_neg hw5).symm.trans hf
  by_cases hw6 : p1 = 6
  · have hf := (if_pos hw6).symm.trans hf
    refine x_table (t := 108) (off := 101) 6 C dX2_count_7 hw6 (by decide) (by decide) (by decide) (by decide) ?_
    refine x_aload_n (q := 109) C 0 dX2_count_108 rfl rfl rfl ?_
    refine x_get (q := 112) C 1 dX2_count_109 ((oX2 aH aN aF aT aG).L) rfl iuX2_count_X2 flX2_count_19 rfl (by decide) rfl rfl ?_
    refine x_aload_n (q := 113) C 0 dX2_count_112 rfl rfl rfl ?_
    refine x_get (q := 116) C 0 dX2_count_113 ((oX2 aH aN aF aT aG).L) rfl iuX2_count_X2 flX2_count_12 rfl (by decide) rfl rfl ?_
    obtain ⟨v5, hcal6, hf⟩ := bd_some hf
    refine x_callVi (q := 119) C (c0_darkStreets (l := l) (D := D) (y := y) (aN := aN) (aT := aT) hcal6) yi_X0_darkStreets gX2_count_X0_darkStreets rfl ((oX0 y aN N).L) rfl ⟨(Nat.le_of_ble_eq_true rfl), (Nat.le_of_ble_eq_true rfl)⟩ dX2_count_116 (pm5_24 _ _ _ _ _) rfl rfl (Nat.le_of_ble_eq_true rfl) ⟨Nat.le_of_ble_eq_true rfl, Nat.le_of_ble_eq_true rfl⟩ rfl ?_
    intro rr7 uu hrr
    have hrr : v5 = rr7 := Eq.symm hrr
    subst hrr
    refine x_perm (ws' := hC aH aN aF aT aG ++ (gC y aG G ++ (nC y aN N ++ (nC y aF F ++ tC y aT T)))) (pm5_24 _ _ _ _ _).symm ?_
    have hf := Sum.inr.inj (Option.some.inj hf)
    exact x_iret () C dX2_count_119 rfl hf rfl (Nat.le_of_ble_eq_true rfl) (Nat.le_of_ble_eq_true rfl)
  have hf := (if_neg hw6).symm.trans hf
  by_cases hw7 : p1 = 7
  · have hf := (if_pos hw7).symm.trans hf
    refine x_table (t := 120) (off := 113) 7 C dX2_count_7 hw7 (by decide) (by decide) (by decide) (by decide) ?_
    refine x_aload_n (q := 121) C 0 dX2_count_120 rfl rfl rfl ?_
    refine x_get (q := 124) C 0 dX2_count_121 ((oX2 aH aN aF aT aG).L) rfl iuX2_count_X2 flX2_count_12 rfl (by decide) rfl rfl ?_
    refine x_get (q := 127) C 12 dX2_count_124 (((((oX1 y aT T).R).R).R).R) rfl iuX2_count_X1 flX2_count_76 rfl (by decide) rfl rfl ?_
    have hf := Sum.inr.inj (Option.some.inj hf)
    exact x_iret () C dX2_count_127 rfl hf rfl (Nat.le_of_ble_eq_true rfl) (Nat.le_of_ble_eq_true rfl)
  have hf := (if_neg hw7).symm.trans hf
  by_cases hw8 : p1 = 8
  · have hf := (if_pos hw8).symm.trans hf
    refine x_table (t := 128) (off := 121) 8 C dX2_count_7 hw8 (by decide) (by decide) (by decide) (by decide) ?_
    refine x_aload_n (q := 129) C 0 dX2_count_128 rfl rfl rfl ?_
    refine x_get (q := 132) C 1 dX2_count_129 ((oX2 aH aN aF aT aG).L) rfl iuX2_count_X2 flX2_count_19 rfl (by decide) rfl rfl ?_
    refine x_aload_n (q := 133) C 0 dX2_count_132 rfl rfl rfl ?_
    refine x_get (q := 136) C 0 dX2_count_133 ((oX2 aH aN aF aT aG).L) rfl iuX2_count_X2 flX2_count_12 rfl (by decide) rfl rfl ?_
    obtain ⟨v8, hcal9, hf⟩ := bd_some hf
    refine x_callVi (q := 139) C (c0_oilOfLamps (l := l) (D := D) (y := y) (aN := aN) (aT := aT) hcal9) yi_X0_oilOfLamps gX2_count_X0_oilOfLamps rfl ((oX0 y aN N).L) rfl ⟨(Nat.le_of_ble_eq_true rfl), (Nat.le_of_ble_eq_true rfl)⟩ dX2_count_136 (pm5_24 _ _ _ _ _) rfl rfl (Nat.le_of_ble_eq_true rfl) ⟨Nat.le_of_ble_eq_true rfl, Nat.le_of_ble_eq_true rfl⟩ rfl ?_
    intro rr10 uu hrr
    have hrr : v8 = rr10 := Eq.symm hrr
    subst hrr
    refine x_perm (ws' := hC aH aN aF aT aG ++ (gC y aG G ++ (nC y aN N ++ (nC y aF F ++ tC y aT T)))) (pm5_24 _ _ _ _ _).symm ?_
    have hf := Sum.inr.inj (Option.some.inj hf)
    exact x_iret () C dX2_count_139 rfl hf rfl (Nat.le_of_ble_eq_true rfl) (Nat.le_of_ble_eq_true rfl)
  have hf := (if_neg hw8).symm.trans hf
  refine x_tableOut (t := 140) C dX2_count_7 (xtab9 hw0 hw1 hw2 hw3 hw4 hw5 hw6 hw7 hw8) (by decide) ?_
  refine x_aload_n (q := 141) C 0 dX2_count_140 rfl rfl rfl ?_
  refine x_get (q := 144) C 1 dX2_count_141 ((oX2 aH aN aF aT aG).L) rfl iuX2_count_X2 flX2_count_19 rfl (by decide) rfl rfl ?_
  refine x_get (q := 147) C 2 dX2_count_144 ((((oX0 y aN N).L).R).R) rfl iuX2_count_X0 flX2_count_174 rfl (by decide) rfl rfl ?_
  have hf := Sum.inr.inj (Option.some.inj hf)
  exact x_iret () C dX2_count_147 rfl hf rfl (Nat.le_of_ble_eq_true rfl) (Nat.le_of_ble_eq_true rfl)

/-! LampHills.pass(I)I -/
theorem flX2_pass_12 : Cond.fieldLink RX2 12 "LampHills" "town" "LLampHills$Town;" ∈ wsX2_pass := by decide +kernel
theorem flX2_pass_19 : Cond.fieldLink RX2 19 "LampHills" "night" "LLampHills$Night;" ∈ wsX2_pass := by decide +kernel
theorem iuX2_pass_X2 : ∀ w ∈ u_ws RX2 TX2 4, w ∈ wsX2_pass := fun _ h => List.mem_cons_of_mem _ (List.mem_append_left _ (List.mem_append_left _ (List.mem_append_left _ (List.mem_append_right _ h))))
theorem yi_X0_goBy : xY yX0_goBy wsX0_goBy cX0_goBy 5 (some .int) 2 := ⟨⟨_, rfl⟩, by decide +kernel, by decide +kernel, by decide +kernel⟩
def f2_pass (G : St) (N : St) (F : St) (T : St) (p1 : Int32) : Option (Nat ⊕ (Int32 × St)) :=
  bx0 (f2_requireRange p1 1 600) <|
  bd2 (f0_goBy N T p1) fun v2 N3 =>
  some (.inr (v2, N3))
set_option maxHeartbeats 4000000 in
set_option maxRecDepth 100000 in
theorem c2_pass {l : Launch} {D : va_G} {y : Nat → ClassId} {aH : Nat} {aG aN aF aT : Nat → Nat} {G : St} {N : St} {F : St} {T : St} {p1 : Int32} {r : Int32} {N' : St} (hf : f2_pass G N F T p1 = some (.inr (r, N'))) : xMi l yX2_pass wsX2_pass 7 145 0 0 D (xT y) [.ref aH, .int p1] (hC aH aN aF aT aG ++ (gC y aG G ++ (nC y aN N ++ (nC y aF F ++ tC y aT T)))) (fun (r' : Int32) (_ : Unit) => r' = r) (fun _ : Unit => hC aH aN aF aT aG ++ (gC y aG G ++ (nC y aN N' ++ (nC y aF F ++ tC y aT T)))) := by
  refine xMi_of (cc := cX2_pass) (nL := 2) (ret := (some .int)) [(0, .ref aH), (1, .int p1)] (by decide) rfl (Nat.le_of_ble_eq_true rfl) rfl ?_
  intro p e s m args below meth c A C hin
  have C : xC p s m args meth c D A cX2_pass RX2 2 wsX2_pass (xT y) (some .int) := C
  unfold f2_pass at hf
  refine x_iload_n (q := 1) C 1 dX2_pass_0 rfl rfl rfl ?_
  refine x_iconst (q := 2) C dX2_pass_1 ki_1 rfl ?_
  refine x_sipush (q := 5) C dX2_pass_2 ks_600 rfl ?_
  obtain ⟨hcal1, hf⟩ := bx0_inr hf
  refine x_callSv (q := 8) C (c2_requireRange (l := l) (D := D) (y := y)  hcal1) yi_X2_requireRange gX2_pass_X2_requireRange ⟨(Nat.le_of_ble_eq_true rfl), (Nat.le_of_ble_eq_true rfl)⟩ dX2_pass_5 pm_emp rfl rfl (Nat.le_of_ble_eq_true rfl) ⟨Nat.le_of_ble_eq_true rfl, Nat.le_of_ble_eq_true rfl⟩ rfl ?_
  intro uu hrr
  refine x_world (ws' := hC aH aN aF aT aG ++ (gC y aG G ++ (nC y aN N ++ (nC y aF F ++ tC y aT T)))) rfl ?_
  refine x_aload_n (q := 9) C 0 dX2_pass_8 rfl rfl rfl ?_
  refine x_get (q := 12) C 1 dX2_pass_9 ((oX2 aH aN aF aT aG).L) rfl iuX2_pass_X2 flX2_pass_19 rfl (by decide) rfl rfl ?_
  refine x_aload_n (q := 13) C 0 dX2_pass_12 rfl rfl rfl ?_
  refine x_get (q := 16) C 0 dX2_pass_13 ((oX2 aH aN aF aT aG).L) rfl iuX2_pass_X2 flX2_pass_12 rfl (by decide) rfl rfl ?_
  refine x_iload_n (q := 17) C 1 dX2_pass_16 rfl rfl rfl ?_
  obtain ⟨v2, N3, hcal4, hf⟩ := bd2_some hf
  refine x_callVi (q := 20) C (c0_goBy (l := l) (D := D) (y := y) (aN := aN) (aT := aT) hcal4) yi_X0_goBy gX2_pass_X0_goBy rfl ((oX0 y aN N).L) rfl ⟨(Nat.le_of_ble_eq_true rfl), (Nat.le_of_ble_eq_true rfl)⟩ dX2_pass_17 (pm5_24 _ _ _ _ _) rfl rfl (Nat.le_of_ble_eq_true rfl) ⟨Nat.le_of_ble_eq_true rfl, Nat.le_of_ble_eq_true rfl⟩ rfl ?_
  intro rr5 uu hrr
  have hrr : v2 = rr5 := Eq.symm hrr
  subst hrr
  refine x_perm (ws' := hC aH aN aF aT aG ++ (gC y aG G ++ (nC y aN N3 ++ (nC y aF F ++ tC y aT T)))) (pm5_24 _ _ _ _ _).symm ?_
  have hf := Sum.inr.inj (Option.some.inj hf)
  obtain ⟨hr0, hr1⟩ := Prod.mk.inj hf
  exact x_iret () C dX2_pass_20 rfl hr0 (congrArg (fun z => hC aH aN aF aT aG ++ (gC y aG G ++ (nC y aN z ++ (nC y aF F ++ tC y aT T)))) hr1) (Nat.le_of_ble_eq_true rfl) (Nat.le_of_ble_eq_true rfl)

/-! LampHills.dawn()I -/
theorem flX2_dawn_12 : Cond.fieldLink RX2 12 "LampHills" "town" "LLampHills$Town;" ∈ wsX2_dawn := by decide +kernel
theorem flX2_dawn_158 : Cond.fieldLink RX2 158 "LampHills$Night" "minute" "I" ∈ wsX2_dawn := by decide +kernel
theorem flX2_dawn_19 : Cond.fieldLink RX2 19 "LampHills" "night" "LLampHills$Night;" ∈ wsX2_dawn := by decide +kernel
theorem iuX2_dawn_X0 : ∀ w ∈ u_ws RX0 TX0 16, w ∈ wsX2_dawn := fun _ h => List.mem_cons_of_mem _ (List.mem_append_left _ (List.mem_append_left _ (List.mem_append_right _ h)))
theorem iuX2_dawn_X2 : ∀ w ∈ u_ws RX2 TX2 4, w ∈ wsX2_dawn := fun _ h => List.mem_cons_of_mem _ (List.mem_append_left _ (List.mem_append_left _ (List.mem_append_left _ (List.mem_append_right _ h))))
theorem yi_X0_beginNext : xY yX0_beginNext wsX0_beginNext cX0_beginNext 3 none 1 := ⟨⟨_, rfl⟩, by decide +kernel, by decide +kernel, by decide +kernel⟩
def f2_dawn (G : St) (N : St) (F : St) (T : St) : Option (Nat ⊕ (Int32 × St)) :=
  if 600 ≤ (N 0 0) then
  (
    bd (f0_burningLamps N T) fun v1 =>
    bd (f0_beginNext N T) fun N4 =>
    some (.inr (v1, N4))
  )
  else
  (
    some (.inl 2)
  )
set_option maxHeartbeats 4000000 in
set_option maxRecDepth 100000 in
theorem c2_dawn {l : Launch} {D : va_G} {y : Nat → ClassId} {aH : Nat} {aG aN aF aT : Nat → Nat} {G : St} {N : St} {F : St} {T : St} {r : Int32} {N' : St} (hf : f2_dawn G N F T = some (.inr (r, N'))) : xMi l yX2_dawn wsX2_dawn 6 90 0 0 D (xT y) [.ref aH] (hC aH aN aF aT aG ++ (gC y aG G ++ (nC y aN N ++ (nC y aF F ++ tC y aT T)))) (fun (r' : Int32) (_ : Unit) => r' = r) (fun _ : Unit => hC aH aN aF aT aG ++ (gC y aG G ++ (nC y aN N' ++ (nC y aF F ++ tC y aT T)))) := by
  refine xMi_of (cc := cX2_dawn) (nL := 2) (ret := (some .int)) [(0, .ref aH)] (by decide) rfl (Nat.le_of_ble_eq_true rfl) rfl ?_
  intro p e s m args below meth c A C hin
  have C : xC p s m args meth c D A cX2_dawn RX2 2 wsX2_dawn (xT y) (some .int) := C
  unfold f2_dawn at hf
  refine x_aload_n (q := 1) C 0 dX2_dawn_0 rfl rfl rfl ?_
  refine x_get (q := 4) C 1 dX2_dawn_1 ((oX2 aH aN aF aT aG).L) rfl iuX2_dawn_X2 flX2_dawn_19 rfl (by decide) rfl rfl ?_
  refine x_get (q := 7) C 0 dX2_dawn_4 ((((oX0 y aN N).L).R).R) rfl iuX2_dawn_X0 flX2_dawn_158 rfl (by decide) rfl rfl ?_
  refine x_sipush (q := 10) C dX2_dawn_7 ks_600 rfl ?_
  refine x_icmp_ge (t := 23) (q := 13) C dX2_dawn_10 (by decide) rfl (fun hc => ?_) (fun hc => ?_)
  · have hf := (if_pos hc).symm.trans hf
    refine x_aload_n (q := 24) C 0 dX2_dawn_23 rfl rfl rfl ?_
    refine x_get (q := 27) C 1 dX2_dawn_24 ((oX2 aH aN aF aT aG).L) rfl iuX2_dawn_X2 flX2_dawn_19 rfl (by decide) rfl rfl ?_
    refine x_aload_n (q := 28) C 0 dX2_dawn_27 rfl rfl rfl ?_
    refine x_get (q := 31) C 0 dX2_dawn_28 ((oX2 aH aN aF aT aG).L) rfl iuX2_dawn_X2 flX2_dawn_12 rfl (by decide) rfl rfl ?_
    obtain ⟨v1, hcal2, hf⟩ := bd_some hf
    refine x_callVi (q := 34) C (c0_burningLamps (l := l) (D := D) (y := y) (aN := aN) (aT := aT) hcal2) yi_X0_burningLamps gX2_dawn_X0_burningLamps rfl ((oX0 y aN N).L) rfl ⟨(Nat.le_of_ble_eq_true rfl), (Nat.le_of_ble_eq_true rfl)⟩ dX2_dawn_31 (pm5_24 _ _ _ _ _) rfl rfl (Nat.le_of_ble_eq_true rfl) ⟨Nat.le_of_ble_eq_true rfl, Nat.le_of_ble_eq_true rfl⟩ rfl ?_
    intro rr3 uu hrr
    have hrr : v1 = rr3 := Eq.symm hrr
    subst hrr
    refine x_perm (ws' := hC aH aN aF aT aG ++ (gC y aG G ++ (nC y aN N ++ (nC y aF F ++ tC y aT T)))) (pm5_24 _ _ _ _ _).symm ?_
    refine x_istore_n (q := 35) C [1, 0] [(0, .ref aH), (1, .int v1)] dX2_dawn_34 rfl (by decide) rfl rfl ?_
    refine x_aload_n (q := 36) C 0 dX2_dawn_35 rfl rfl rfl ?_
    refine x_get (q := 39) C 1 dX2_dawn_36 ((oX2 aH aN aF aT aG).L) rfl iuX2_dawn_X2 flX2_dawn_19 rfl (by decide) rfl rfl ?_
    refine x_aload_n (q := 40) C 0 dX2_dawn_39 rfl rfl rfl ?_
    refine x_get (q := 43) C 0 dX2_dawn_40 ((oX2 aH aN aF aT aG).L) rfl iuX2_dawn_X2 flX2_dawn_12 rfl (by decide) rfl rfl ?_
    obtain ⟨N4, hcal5, hf⟩ := bd_some hf
    refine x_callVv (q := 46) C (c0_beginNext (l := l) (D := D) (y := y) (aN := aN) (aT := aT) hcal5) yi_X0_beginNext gX2_dawn_X0_beginNext rfl ((oX0 y aN N).L) rfl ⟨(Nat.le_of_ble_eq_true rfl), (Nat.le_of_ble_eq_true rfl)⟩ dX2_dawn_43 (pm5_24 _ _ _ _ _) rfl rfl (Nat.le_of_ble_eq_true rfl) ⟨Nat.le_of_ble_eq_true rfl, Nat.le_of_ble_eq_true rfl⟩ rfl ?_
    intro uu hrr
    refine x_perm (ws' := hC aH aN aF aT aG ++ (gC y aG G ++ (nC y aN N4 ++ (nC y aF F ++ tC y aT T)))) (pm5_24 _ _ _ _ _).symm ?_
    refine x_iload_n (q := 47) C 1 dX2_dawn_46 rfl rfl rfl ?_
    have hf := Sum.inr.inj (Option.some.inj hf)
    obtain ⟨hr0, hr1⟩ := Prod.mk.inj hf
    exact x_iret () C dX2_dawn_47 rfl hr0 (congrArg (fun z => hC aH aN aF aT aG ++ (gC y aG G ++ (nC y aN z ++ (nC y aF F ++ tC y aT T)))) hr1) (Nat.le_of_ble_eq_true rfl) (Nat.le_of_ble_eq_true rfl)
  · have hf := (if_neg hc).symm.trans hf
    cases hf

/-! LampHills.comes(I)I -/
theorem flX2_comes_12 : Cond.fieldLink RX2 12 "LampHills" "town" "LLampHills$Town;" ∈ wsX2_comes := by decide +kernel
theorem flX2_comes_134 : Cond.fieldLink RX2 134 "LampHills$Night" "timesLit" "[I" ∈ wsX2_comes := by decide +kernel
theorem flX2_comes_158 : Cond.fieldLink RX2 158 "LampHills$Night" "minute" "I" ∈ wsX2_comes := by decide +kernel
theorem flX2_comes_19 : Cond.fieldLink RX2 19 "LampHills" "night" "LLampHills$Night;" ∈ wsX2_comes := by decide +kernel
theorem flX2_comes_23 : Cond.fieldLink RX2 23 "LampHills" "forecast" "LLampHills$Night;" ∈ wsX2_comes := by decide +kernel
theorem flX2_comes_63 : Cond.fieldLink RX2 63 "LampHills$Town" "lamps" "I" ∈ wsX2_comes := by decide +kernel
theorem iuX2_comes_X0 : ∀ w ∈ u_ws RX0 TX0 16, w ∈ wsX2_comes := fun _ h => List.mem_cons_of_mem _ (List.mem_append_left _ (List.mem_append_right _ h))
theorem iuX2_comes_X1 : ∀ w ∈ u_ws RX1 TX1 17, w ∈ wsX2_comes := fun _ h => List.mem_cons_of_mem _ (List.mem_append_left _ (List.mem_append_left _ (List.mem_append_right _ h)))
theorem iuX2_comes_X2 : ∀ w ∈ u_ws RX2 TX2 4, w ∈ wsX2_comes := fun _ h => List.mem_cons_of_mem _ (List.mem_append_left _ (List.mem_append_left _ (List.mem_append_left _ (List.mem_append_right _ h))))
theorem yi_X0_copy : xY yX0_copy wsX0_copy cX0_copy 3 none 1 := ⟨⟨_, rfl⟩, by decide +kernel, by decide +kernel, by decide +kernel⟩
def f2_comes_L36 (p1 : Int32) (v4 : Int32) (N : St) (T : St) : Nat → Int32 → St → Option (Nat ⊕ (Int32 × St))
  | 0, _, _ => none
  | fu + 1, v5, F6 =>
  if v4 < v5 then
  (
    some (.inr ((-1), F6))
  )
  else
  (
    bd2 (f0_goBy F6 T 1) fun v7 F8 =>
    gd (xin p1 20) <|
    if (F8 7 p1.toNatClampNeg) = (N 7 p1.toNatClampNeg) then
    (
      f2_comes_L36 p1 v4 N T fu (v5 + 1) F8
    )
    else
    (
      some (.inr (v5, F8))
    )
  )
def f2_comes (G : St) (N : St) (F : St) (T : St) (p1 : Int32) : Option (Nat ⊕ (Int32 × St)) :=
  bx0 (f2_requireIndex p1 (T 7 0)) <|
  bd (f0_copy F N) fun F2 =>
  lt_ (600 - (N 0 0)) fun v4 =>
  f2_comes_L36 p1 v4 N T xF 1 F2
set_option maxHeartbeats 4000000 in
set_option maxRecDepth 100000 in
theorem w2_comes_L36 {p : Program} {l : Launch} {e : Env} {s : State} {m : MethodId} {args : Array Value} {below : List Frame} {meth : Method} {c : Code} {D : va_G} {A : Nat → Prop} {y : Nat → ClassId} {aH : Nat} {aG aN aF aT : Nat → Nat} {G : St} {N : St} {T : St} {p1 : Int32} {v4 : Int32} {r : Int32} {F' : St} (C : xC p s m args meth c D A cX2_comes RX2 4 wsX2_comes (xT y) (some .int)) : ∀ (fu : Nat) (v5 : Int32) (F6 : St), f2_comes_L36 p1 v4 N T fu v5 F6 = some (.inr (r, F')) → xV p l e { frames := 7, cells := 0, slots := 0, locals := 145 } s m args below meth c D A (xQi D (xT y) A (fun (r' : Int32) (_ : Unit) => r' = r) (fun _ : Unit => hC aH aN aF aT aG ++ (gC y aG G ++ (nC y aN N ++ (nC y aF F' ++ tC y aT T)))) 0 0 below args s) 4 (hC aH aN aF aT aG ++ (gC y aG G ++ (nC y aN N ++ (nC y aF F6 ++ tC y aT T)))) 0 0 [(0, .ref aH), (1, .int p1), (2, .int v4), (3, .int v5)] 36 [] := by
  intro fu
  induction fu with
  | zero => intro v5 F6 hf; rw [f2_comes_L36] at hf; cases hf
  | succ fu ih =>
    intro v5 F6 hf
    rw [f2_comes_L36] at hf
    refine x_iload_n (q := 37) C 3 dX2_comes_36 rfl rfl rfl ?_
    refine x_iload_n (q := 38) C 2 dX2_comes_37 rfl rfl rfl ?_
    refine x_icmp_gt (t := 83) (q := 41) C dX2_comes_38 (by decide) rfl (fun hc => ?_) (fun hc => ?_)
    · have hf := (if_pos hc).symm.trans hf
      refine x_iconst (q := 84) C dX2_comes_83 ki_m1 rfl ?_
      have hf := Sum.inr.inj (Option.some.inj hf)
      obtain ⟨hr0, hr1⟩ := Prod.mk.inj hf
      exact x_iret () C dX2_comes_84 rfl hr0 (congrArg (fun z => hC aH aN aF aT aG ++ (gC y aG G ++ (nC y aN N ++ (nC y aF z ++ tC y aT T)))) hr1) (Nat.le_of_ble_eq_true rfl) (Nat.le_of_ble_eq_true rfl)
    · have hf := (if_neg hc).symm.trans hf
      refine x_aload_n (q := 42) C 0 dX2_comes_41 rfl rfl rfl ?_
      refine x_get (q := 45) C 2 dX2_comes_42 ((oX2 aH aN aF aT aG).L) rfl iuX2_comes_X2 flX2_comes_23 rfl (by decide) rfl rfl ?_
      refine x_aload_n (q := 46) C 0 dX2_comes_45 rfl rfl rfl ?_
      refine x_get (q := 49) C 0 dX2_comes_46 ((oX2 aH aN aF aT aG).L) rfl iuX2_comes_X2 flX2_comes_12 rfl (by decide) rfl rfl ?_
      refine x_iconst (q := 50) C dX2_comes_49 ki_1 rfl ?_
      obtain ⟨v7, F8, hcal9, hf⟩ := bd2_some hf
      refine x_callVi (q := 53) C (c0_goBy (l := l) (D := D) (y := y) (aN := aF) (aT := aT) hcal9) yi_X0_goBy gX2_comes_X0_goBy rfl ((oX0 y aF F6).L) rfl ⟨(Nat.le_of_ble_eq_true rfl), (Nat.le_of_ble_eq_true rfl)⟩ dX2_comes_50 (pm5_34 _ _ _ _ _) rfl rfl (Nat.le_of_ble_eq_true rfl) ⟨Nat.le_of_ble_eq_true rfl, Nat.le_of_ble_eq_true rfl⟩ rfl ?_
      intro rr10 uu hrr
      have hrr : v7 = rr10 := Eq.symm hrr
      subst hrr
      refine x_perm (ws' := hC aH aN aF aT aG ++ (gC y aG G ++ (nC y aN N ++ (nC y aF F8 ++ tC y aT T)))) (pm5_34 _ _ _ _ _).symm ?_
      refine x_pop (q := 54) C dX2_comes_53 rfl rfl ?_
      refine x_aload_n (q := 55) C 0 dX2_comes_54 rfl rfl rfl ?_
      refine x_get (q := 58) C 2 dX2_comes_55 ((oX2 aH aN aF aT aG).L) rfl iuX2_comes_X2 flX2_comes_23 rfl (by decide) rfl rfl ?_
      refine x_get (q := 61) C 7 dX2_comes_58 (((((oX0 y aF F8).L).R).R).R) rfl iuX2_comes_X0 flX2_comes_134 rfl (by decide) rfl rfl ?_
      refine x_iload_n (q := 62) C 1 dX2_comes_61 rfl rfl rfl ?_
      obtain ⟨hb11, hf⟩ := gd_some hf
      refine x_iald (q := 63) C 0 dX2_comes_62 (((((aX0_7 y aF F8).L).R).R).R) rfl hb11 rfl ?_
      refine x_aload_n (q := 64) C 0 dX2_comes_63 rfl rfl rfl ?_
      refine x_get (q := 67) C 1 dX2_comes_64 ((oX2 aH aN aF aT aG).L) rfl iuX2_comes_X2 flX2_comes_19 rfl (by decide) rfl rfl ?_
      refine x_get (q := 70) C 7 dX2_comes_67 ((((oX0 y aN N).L).R).R) rfl iuX2_comes_X0 flX2_comes_134 rfl (by decide) rfl rfl ?_
      refine x_iload_n (q := 71) C 1 dX2_comes_70 rfl rfl rfl ?_
      refine x_iald (q := 72) C 0 dX2_comes_71 ((((aX0_7 y aN N).L).R).R) rfl hb11 rfl ?_
      refine x_icmp_eq (t := 77) (q := 75) C dX2_comes_72 (by decide) rfl (fun hc => ?_) (fun hc => ?_)
      · have hf := (if_pos hc).symm.trans hf
        refine x_iinc (q := 80) C 3 (v5 + 1) [1, 2, 3, 0] [(0, .ref aH), (1, .int p1), (2, .int v4), (3, .int (v5 + 1))] dX2_comes_77 rfl (congrArg (fun z => v5 + z) ki_1) (by decide) rfl rfl ?_
        refine x_goto (t := 36) C dX2_comes_80 (by decide) ?_
        exact ih (v5 + 1) F8 hf
      · have hf := (if_neg hc).symm.trans hf
        refine x_iload_n (q := 76) C 3 dX2_comes_75 rfl rfl rfl ?_
        have hf := Sum.inr.inj (Option.some.inj hf)
        obtain ⟨hr0, hr1⟩ := Prod.mk.inj hf
        exact x_iret () C dX2_comes_76 rfl hr0 (congrArg (fun z => hC aH aN aF aT aG ++ (gC y aG G ++ (nC y aN N ++ (nC y aF z ++ tC y aT T)))) hr1) (Nat.le_of_ble_eq_true rfl) (Nat.le_of_ble_eq_true rfl)
set_option maxHeartbeats 4000000 in
set_option maxRecDepth 100000 in
theorem c2_comes {l : Launch} {D : va_G} {y : Nat → ClassId} {aH : Nat} {aG aN aF aT : Nat → Nat} {G : St} {N : St} {F : St} {T : St} {p1 : Int32} {r : Int32} {F' : St} (hf : f2_comes G N F T p1 = some (.inr (r, F'))) : xMi l yX2_comes wsX2_comes 7 145 0 0 D (xT y) [.ref aH, .int p1] (hC aH aN aF aT aG ++ (gC y aG G ++ (nC y aN N ++ (nC y aF F ++ tC y aT T)))) (fun (r' : Int32) (_ : Unit) => r' = r) (fun _ : Unit => hC aH aN aF aT aG ++ (gC y aG G ++ (nC y aN N ++ (nC y aF F' ++ tC y aT T)))) := by
  refine xMi_of (cc := cX2_comes) (nL := 4) (ret := (some .int)) [(0, .ref aH), (1, .int p1)] (by decide) rfl (Nat.le_of_ble_eq_true rfl) rfl ?_
  intro p e s m args below meth c A C hin
  have C : xC p s m args meth c D A cX2_comes RX2 4 wsX2_comes (xT y) (some .int) := C
  unfold f2_comes at hf
  refine x_iload_n (q := 1) C 1 dX2_comes_0 rfl rfl rfl ?_
  refine x_aload_n (q := 2) C 0 dX2_comes_1 rfl rfl rfl ?_
  refine x_get (q := 5) C 0 dX2_comes_2 ((oX2 aH aN aF aT aG).L) rfl iuX2_comes_X2 flX2_comes_12 rfl (by decide) rfl rfl ?_
  refine x_get (q := 8) C 7 dX2_comes_5 (((((oX1 y aT T).R).R).R).R) rfl iuX2_comes_X1 flX2_comes_63 rfl (by decide) rfl rfl ?_
  obtain ⟨hcal1, hf⟩ := bx0_inr hf
  refine x_callSv (q := 11) C (c2_requireIndex (l := l) (D := D) (y := y)  hcal1) yi_X2_requireIndex gX2_comes_X2_requireIndex ⟨(Nat.le_of_ble_eq_true rfl), (Nat.le_of_ble_eq_true rfl)⟩ dX2_comes_8 pm_emp rfl rfl (Nat.le_of_ble_eq_true rfl) ⟨Nat.le_of_ble_eq_true rfl, Nat.le_of_ble_eq_true rfl⟩ rfl ?_
  intro uu hrr
  refine x_world (ws' := hC aH aN aF aT aG ++ (gC y aG G ++ (nC y aN N ++ (nC y aF F ++ tC y aT T)))) rfl ?_
  refine x_aload_n (q := 12) C 0 dX2_comes_11 rfl rfl rfl ?_
  refine x_get (q := 15) C 2 dX2_comes_12 ((oX2 aH aN aF aT aG).L) rfl iuX2_comes_X2 flX2_comes_23 rfl (by decide) rfl rfl ?_
  refine x_aload_n (q := 16) C 0 dX2_comes_15 rfl rfl rfl ?_
  refine x_get (q := 19) C 1 dX2_comes_16 ((oX2 aH aN aF aT aG).L) rfl iuX2_comes_X2 flX2_comes_19 rfl (by decide) rfl rfl ?_
  obtain ⟨F2, hcal3, hf⟩ := bd_some hf
  refine x_callVv (q := 22) C (c0_copy (l := l) (D := D) (y := y) (aN := aF) (aF := aN) hcal3) yi_X0_copy gX2_comes_X0_copy rfl ((oX0 y aF F).L) rfl ⟨(Nat.le_of_ble_eq_true rfl), (Nat.le_of_ble_eq_true rfl)⟩ dX2_comes_19 (pm5_32 _ _ _ _ _) rfl rfl (Nat.le_of_ble_eq_true rfl) ⟨Nat.le_of_ble_eq_true rfl, Nat.le_of_ble_eq_true rfl⟩ rfl ?_
  intro uu hrr
  refine x_perm (ws' := hC aH aN aF aT aG ++ (gC y aG G ++ (nC y aN N ++ (nC y aF F2 ++ tC y aT T)))) (pm5_32 _ _ _ _ _).symm ?_
  refine x_sipush (q := 25) C dX2_comes_22 ks_600 rfl ?_
  refine x_aload_n (q := 26) C 0 dX2_comes_25 rfl rfl rfl ?_
  refine x_get (q := 29) C 1 dX2_comes_26 ((oX2 aH aN aF aT aG).L) rfl iuX2_comes_X2 flX2_comes_19 rfl (by decide) rfl rfl ?_
  refine x_get (q := 32) C 0 dX2_comes_29 ((((oX0 y aN N).L).R).R) rfl iuX2_comes_X0 flX2_comes_158 rfl (by decide) rfl rfl ?_
  refine x_isub (q := 33) C dX2_comes_32 rfl ?_
  obtain ⟨v4, ev4, hf⟩ := lt_elim hf
  refine x_topi ev4 ?_
  refine x_istore_n (q := 34) C [1, 2, 0] [(0, .ref aH), (1, .int p1), (2, .int v4)] dX2_comes_33 rfl (by decide) rfl rfl ?_
  refine x_iconst (q := 35) C dX2_comes_34 ki_1 rfl ?_
  refine x_istore_n (q := 36) C [1, 2, 3, 0] [(0, .ref aH), (1, .int p1), (2, .int v4), (3, .int 1)] dX2_comes_35 rfl (by decide) rfl rfl ?_
  exact w2_comes_L36 C xF 1 F2 hf

/-! LampHills.foresee(II)I -/
theorem flX2_foresee_12 : Cond.fieldLink RX2 12 "LampHills" "town" "LLampHills$Town;" ∈ wsX2_foresee := by decide +kernel
theorem flX2_foresee_174 : Cond.fieldLink RX2 174 "LampHills$Night" "oilUsed" "I" ∈ wsX2_foresee := by decide +kernel
theorem flX2_foresee_19 : Cond.fieldLink RX2 19 "LampHills" "night" "LLampHills$Night;" ∈ wsX2_foresee := by decide +kernel
theorem flX2_foresee_23 : Cond.fieldLink RX2 23 "LampHills" "forecast" "LLampHills$Night;" ∈ wsX2_foresee := by decide +kernel
theorem iuX2_foresee_X0 : ∀ w ∈ u_ws RX0 TX0 16, w ∈ wsX2_foresee := fun _ h => List.mem_cons_of_mem _ (List.mem_append_left _ (List.mem_append_left _ (List.mem_append_left _ (List.mem_append_right _ h))))
theorem iuX2_foresee_X2 : ∀ w ∈ u_ws RX2 TX2 4, w ∈ wsX2_foresee := fun _ h => List.mem_cons_of_mem _ (List.mem_append_left _ (List.mem_append_left _ (List.mem_append_left _ (List.mem_append_left _ (List.mem_append_right _ h)))))
def f2_foresee (G : St) (N : St) (F : St) (T : St) (p1 : Int32) (p2 : Int32) : Option (Nat ⊕ (Int32 × St)) :=
  bx0 (f2_requireRange p1 1 600) <|
  bx0 (f2_requireIndex p2 3) <|
  bd (f0_copy F N) fun F3 =>
  bd2 (f0_goBy F3 T p1) fun v5 F6 =>
  if p2 = 0 then
  (
    bd (f0_burningLamps F6 T) fun v9 =>
    some (.inr (v9, F6))
  )
  else
  if p2 = 1 then
  (
    bd (f0_darkStreets F6 T) fun v12 =>
    some (.inr (v12, F6))
  )
  else
  (
    some (.inr (((F6 2 0) - (N 2 0)), F6))
  )
set_option maxHeartbeats 4000000 in
set_option maxRecDepth 100000 in
theorem c2_foresee {l : Launch} {D : va_G} {y : Nat → ClassId} {aH : Nat} {aG aN aF aT : Nat → Nat} {G : St} {N : St} {F : St} {T : St} {p1 : Int32} {p2 : Int32} {r : Int32} {F' : St} (hf : f2_foresee G N F T p1 p2 = some (.inr (r, F'))) : xMi l yX2_foresee wsX2_foresee 7 145 0 0 D (xT y) [.ref aH, .int p1, .int p2] (hC aH aN aF aT aG ++ (gC y aG G ++ (nC y aN N ++ (nC y aF F ++ tC y aT T)))) (fun (r' : Int32) (_ : Unit) => r' = r) (fun _ : Unit => hC aH aN aF aT aG ++ (gC y aG G ++ (nC y aN N ++ (nC y aF F' ++ tC y aT T)))) := by
  refine xMi_of (cc := cX2_foresee) (nL := 3) (ret := (some .int)) [(0, .ref aH), (1, .int p1), (2, .int p2)] (by decide) rfl (Nat.le_of_ble_eq_true rfl) rfl ?_
  intro p e s m args below meth c A C hin
  have C : xC p s m args meth c D A cX2_foresee RX2 3 wsX2_foresee (xT y) (some .int) := C
  unfold f2_foresee at hf
  refine x_iload_n (q := 1) C 1 dX2_foresee_0 rfl rfl rfl ?_
  refine x_iconst (q := 2) C dX2_foresee_1 ki_1 rfl ?_
  refine x_sipush (q := 5) C dX2_foresee_2 ks_600 rfl ?_
  obtain ⟨hcal1, hf⟩ := bx0_inr hf
  refine x_callSv (q := 8) C (c2_requireRange (l := l) (D := D) (y := y)  hcal1) yi_X2_requireRange gX2_foresee_X2_requireRange ⟨(Nat.le_of_ble_eq_true rfl), (Nat.le_of_ble_eq_true rfl)⟩ dX2_foresee_5 pm_emp rfl rfl (Nat.le_of_ble_eq_true rfl) ⟨Nat.le_of_ble_eq_true rfl, Nat.le_of_ble_eq_true rfl⟩ rfl ?_
  intro uu hrr
  refine x_world (ws' := hC aH aN aF aT aG ++ (gC y aG G ++ (nC y aN N ++ (nC y aF F ++ tC y aT T)))) rfl ?_
  refine x_iload_n (q := 9) C 2 dX2_foresee_8 rfl rfl rfl ?_
  refine x_iconst (q := 10) C dX2_foresee_9 ki_3 rfl ?_
  obtain ⟨hcal2, hf⟩ := bx0_inr hf
  refine x_callSv (q := 13) C (c2_requireIndex (l := l) (D := D) (y := y)  hcal2) yi_X2_requireIndex gX2_foresee_X2_requireIndex ⟨(Nat.le_of_ble_eq_true rfl), (Nat.le_of_ble_eq_true rfl)⟩ dX2_foresee_10 pm_emp rfl rfl (Nat.le_of_ble_eq_true rfl) ⟨Nat.le_of_ble_eq_true rfl, Nat.le_of_ble_eq_true rfl⟩ rfl ?_
  intro uu hrr
  refine x_world (ws' := hC aH aN aF aT aG ++ (gC y aG G ++ (nC y aN N ++ (nC y aF F ++ tC y aT T)))) rfl ?_
  refine x_aload_n (q := 14) C 0 dX2_foresee_13 rfl rfl rfl ?_
  refine x_get (q := 17) C 2 dX2_foresee_14 ((oX2 aH aN aF aT aG).L) rfl iuX2_foresee_X2 flX2_foresee_23 rfl (by decide) rfl rfl ?_
  refine x_aload_n (q := 18) C 0 dX2_foresee_17 rfl rfl rfl ?_
  refine x_get (q := 21) C 1 dX2_foresee_18 ((oX2 aH aN aF aT aG).L) rfl iuX2_foresee_X2 flX2_foresee_19 rfl (by decide) rfl rfl ?_
  obtain ⟨F3, hcal4, hf⟩ := bd_some hf
  refine x_callVv (q := 24) C (c0_copy (l := l) (D := D) (y := y) (aN := aF) (aF := aN) hcal4) yi_X0_copy gX2_foresee_X0_copy rfl ((oX0 y aF F).L) rfl ⟨(Nat.le_of_ble_eq_true rfl), (Nat.le_of_ble_eq_true rfl)⟩ dX2_foresee_21 (pm5_32 _ _ _ _ _) rfl rfl (Nat.le_of_ble_eq_true rfl) ⟨Nat.le_of_ble_eq_true rfl, Nat.le_of_ble_eq_true rfl⟩ rfl ?_
  intro uu hrr
  refine x_perm (ws' := hC aH aN aF aT aG ++ (gC y aG G ++ (nC y aN N ++ (nC y aF F3 ++ tC y aT T)))) (pm5_32 _ _ _ _ _).symm ?_
  refine x_aload_n (q := 25) C 0 dX2_foresee_24 rfl rfl rfl ?_
  refine x_get (q := 28) C 2 dX2_foresee_25 ((oX2 aH aN aF aT aG).L) rfl iuX2_foresee_X2 flX2_foresee_23 rfl (by decide) rfl rfl ?_
  refine x_aload_n (q := 29) C 0 dX2_foresee_28 rfl rfl rfl ?_
  refine x_get (q := 32) C 0 dX2_foresee_29 ((oX2 aH aN aF aT aG).L) rfl iuX2_foresee_X2 flX2_foresee_12 rfl (by decide) rfl rfl ?_
  refine x_iload_n (q := 33) C 1 dX2_foresee_32 rfl rfl rfl ?_
  obtain ⟨v5, F6, hcal7, hf⟩ := bd2_some hf
  refine x_callVi (q := 36) C (c0_goBy (l := l) (D := D) (y := y) (aN := aF) (aT := aT) hcal7) yi_X0_goBy gX2_foresee_X0_goBy rfl ((oX0 y aF F3).L) rfl ⟨(Nat.le_of_ble_eq_true rfl), (Nat.le_of_ble_eq_true rfl)⟩ dX2_foresee_33 (pm5_34 _ _ _ _ _) rfl rfl (Nat.le_of_ble_eq_true rfl) ⟨Nat.le_of_ble_eq_true rfl, Nat.le_of_ble_eq_true rfl⟩ rfl ?_
  intro rr8 uu hrr
  have hrr : v5 = rr8 := Eq.symm hrr
  subst hrr
  refine x_perm (ws' := hC aH aN aF aT aG ++ (gC y aG G ++ (nC y aN N ++ (nC y aF F6 ++ tC y aT T)))) (pm5_34 _ _ _ _ _).symm ?_
  refine x_pop (q := 37) C dX2_foresee_36 rfl rfl ?_
  refine x_iload_n (q := 38) C 2 dX2_foresee_37 rfl rfl rfl ?_
  by_cases hw0 : p2 = 0
  · have hf := (if_pos hw0).symm.trans hf
    refine x_lookup (t := 64) C dX2_foresee_38 (by decide) (by rw [hw0]) (by decide) ?_
    refine x_aload_n (q := 65) C 0 dX2_foresee_64 rfl rfl rfl ?_
    refine x_get (q := 68) C 2 dX2_foresee_65 ((oX2 aH aN aF aT aG).L) rfl iuX2_foresee_X2 flX2_foresee_23 rfl (by decide) rfl rfl ?_
    refine x_aload_n (q := 69) C 0 dX2_foresee_68 rfl rfl rfl ?_
    refine x_get (q := 72) C 0 dX2_foresee_69 ((oX2 aH aN aF aT aG).L) rfl iuX2_foresee_X2 flX2_foresee_12 rfl (by decide) rfl rfl ?_
    obtain ⟨v9, hcal10, hf⟩ := bd_some hf
    refine x_callVi (q := 75) C (c0_burningLamps (l := l) (D := D) (y := y) (aN := aF) (aT := aT) hcal10) yi_X0_burningLamps gX2_foresee_X0_burningLamps rfl ((oX0 y aF F6).L) rfl ⟨(Nat.le_of_ble_eq_true rfl), (Nat.le_of_ble_eq_true rfl)⟩ dX2_foresee_72 (pm5_34 _ _ _ _ _) rfl rfl (Nat.le_of_ble_eq_true rfl) ⟨Nat.le_of_ble_eq_true rfl, Nat.le_of_ble_eq_true rfl⟩ rfl ?_
    intro rr11 uu hrr
    have hrr : v9 = rr11 := Eq.symm hrr
    subst hrr
    refine x_perm (ws' := hC aH aN aF aT aG ++ (gC y aG G ++ (nC y aN N ++ (nC y aF F6 ++ tC y aT T)))) (pm5_34 _ _ _ _ _).symm ?_
    have hf := Sum.inr.inj (Option.some.inj hf)
    obtain ⟨hr0, hr1⟩ := Prod.mk.inj hf
    exact x_iret () C dX2_foresee_75 rfl hr0 (congrArg (fun z => hC aH aN aF aT aG ++ (gC y aG G ++ (nC y aN N ++ (nC y aF z ++ tC y aT T)))) hr1) (Nat.le_of_ble_eq_true rfl) (Nat.le_of_ble_eq_true rfl)
  have hf := (if_neg hw0).symm.trans hf
  by_cases hw1 : p2 = 1
  · have hf := (if_pos hw1).symm.trans hf
    refine x_lookup (t := 76) C dX2_foresee_38 (by decide) (by rw [hw1]) (by decide) ?_
    refine x_aload_n (q := 77) C 0 dX2_foresee_76 rfl rfl rfl ?_
    refine x_get (q := 80) C 2 dX2_foresee_77 ((oX2 aH aN aF aT aG).L) rfl iuX2_foresee_X2 flX2_foresee_23 rfl (by decide) rfl rfl ?_
    refine x_aload_n (q := 81) C 0 dX2_foresee_80 rfl rfl rfl ?_
    refine x_get (q := 84) C 0 dX2_foresee_81 ((oX2 aH aN aF aT aG).L) rfl iuX2_foresee_X2 flX2_foresee_12 rfl (by decide) rfl rfl ?_
    obtain ⟨v12, hcal13, hf⟩ := bd_some hf
    refine x_callVi (q := 87) C (c0_darkStreets (l := l) (D := D) (y := y) (aN := aF) (aT := aT) hcal13) yi_X0_darkStreets gX2_foresee_X0_darkStreets rfl ((oX0 y aF F6).L) rfl ⟨(Nat.le_of_ble_eq_true rfl), (Nat.le_of_ble_eq_true rfl)⟩ dX2_foresee_84 (pm5_34 _ _ _ _ _) rfl rfl (Nat.le_of_ble_eq_true rfl) ⟨Nat.le_of_ble_eq_true rfl, Nat.le_of_ble_eq_true rfl⟩ rfl ?_
    intro rr14 uu hrr
    have hrr : v12 = rr14 := Eq.symm hrr
    subst hrr
    refine x_perm (ws' := hC aH aN aF aT aG ++ (gC y aG G ++ (nC y aN N ++ (nC y aF F6 ++ tC y aT T)))) (pm5_34 _ _ _ _ _).symm ?_
    have hf := Sum.inr.inj (Option.some.inj hf)
    obtain ⟨hr0, hr1⟩ := Prod.mk.inj hf
    exact x_iret () C dX2_foresee_87 rfl hr0 (congrArg (fun z => hC aH aN aF aT aG ++ (gC y aG G ++ (nC y aN N ++ (nC y aF z ++ tC y aT T)))) hr1) (Nat.le_of_ble_eq_true rfl) (Nat.le_of_ble_eq_true rfl)
  have hf := (if_neg hw1).symm.trans hf
  refine x_lookup (t := 88) C dX2_foresee_38 (by decide) (xlk2 hw0 hw1) (by decide) ?_
  refine x_aload_n (q := 89) C 0 dX2_foresee_88 rfl rfl rfl ?_
  refine x_get (q := 92) C 2 dX2_foresee_89 ((oX2 aH aN aF aT aG).L) rfl iuX2_foresee_X2 flX2_foresee_23 rfl (by decide) rfl rfl ?_
  refine x_get (q := 95) C 2 dX2_foresee_92 (((((oX0 y aF F6).L).R).R).R) rfl iuX2_foresee_X0 flX2_foresee_174 rfl (by decide) rfl rfl ?_
  refine x_aload_n (q := 96) C 0 dX2_foresee_95 rfl rfl rfl ?_
  refine x_get (q := 99) C 1 dX2_foresee_96 ((oX2 aH aN aF aT aG).L) rfl iuX2_foresee_X2 flX2_foresee_19 rfl (by decide) rfl rfl ?_
  refine x_get (q := 102) C 2 dX2_foresee_99 ((((oX0 y aN N).L).R).R) rfl iuX2_foresee_X0 flX2_foresee_174 rfl (by decide) rfl rfl ?_
  refine x_isub (q := 103) C dX2_foresee_102 rfl ?_
  have hf := Sum.inr.inj (Option.some.inj hf)
  obtain ⟨hr0, hr1⟩ := Prod.mk.inj hf
  exact x_iret () C dX2_foresee_103 rfl hr0 (congrArg (fun z => hC aH aN aF aT aG ++ (gC y aG G ++ (nC y aN N ++ (nC y aF z ++ tC y aT T)))) hr1) (Nat.le_of_ble_eq_true rfl) (Nat.le_of_ble_eq_true rfl)
