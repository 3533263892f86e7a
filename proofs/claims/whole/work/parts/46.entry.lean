/-! THE LAW, FROM ITS ENTRY: both objects and the row of one long are made -/
theorem mL_0 : Cond.classLink RL 8 RX2 ∈ wsL_law := List.mem_of_getElem? (i := 0) (by decide +kernel)
theorem mL_1 : Cond.instantiable RX2 4 ∈ wsL_law := List.mem_of_getElem? (i := 1) (by decide +kernel)
theorem mL_2 : Cond.initialized RX2 ∈ wsL_law := List.mem_of_getElem? (i := 2) (by decide +kernel)
theorem mL_3 : Cond.classLink RL 74 RX3 ∈ wsL_law := List.mem_of_getElem? (i := 3) (by decide +kernel)
theorem mL_4 : Cond.instantiable RX3 13 ∈ wsL_law := List.mem_of_getElem? (i := 4) (by decide +kernel)
theorem mL_5 : Cond.initialized RX3 ∈ wsL_law := List.mem_of_getElem? (i := 5) (by decide +kernel)
theorem mL_6 : Cond.arrayClass .long ∈ wsL_law := List.mem_of_getElem? (i := 6) (by decide +kernel)
theorem mL_7 : Cond.methodLink RL 73 yX2_init ∈ wsL_law := List.mem_of_getElem? (i := 7) (by decide +kernel)
theorem mL_8 : Cond.instanceMethod yX2_init ∈ wsL_law := List.mem_of_getElem? (i := 8) (by decide +kernel)
theorem mL_58 : Cond.methodLink RL 76 yX3_init ∈ wsL_law := List.mem_of_getElem? (i := 58) (by decide +kernel)
theorem mL_59 : Cond.instanceMethod yX3_init ∈ wsL_law := List.mem_of_getElem? (i := 59) (by decide +kernel)
theorem koL_2 : ∀ w ∈ ([.classLink RL 8 RX2, .instantiable RX2 4, .initialized RX2] : List Cond), w ∈ wsL_law := by
  intro w hw
  simp only [List.mem_cons, List.not_mem_nil, or_false] at hw
  rcases hw with rfl | rfl | rfl
  · exact mL_0
  · exact mL_1
  · exact mL_2
theorem koL_3 : ∀ w ∈ ([.classLink RL 74 RX3, .instantiable RX3 13, .initialized RX3] : List Cond), w ∈ wsL_law := by
  intro w hw
  simp only [List.mem_cons, List.not_mem_nil, or_false] at hw
  rcases hw with rfl | rfl | rfl
  · exact mL_3
  · exact mL_4
  · exact mL_5
theorem pl_2 {α : Type} (h m : List α) : (h ++ m).Perm (m ++ h) := by
  classical
  exact List.perm_iff_count.mpr fun a => by simp only [List.count_append]; omega
theorem pl_e {α : Type} (h m o : List α) : ((m ++ h) ++ o).Perm (h ++ (m ++ o)) := by
  classical
  exact List.perm_iff_count.mpr fun a => by simp only [List.count_append]; omega
set_option maxHeartbeats 4000000 in
set_option maxRecDepth 100000 in
theorem law_entry {p : Program} {l : Launch} {e : Env} {s : State} {m : MethodId} {below : List Frame} {meth : Method} {c : Code} {D : va_G} {A : Nat → Prop} {b Ln : Nat} {xs : Nat → Int32} {y : Nat → ClassId} (hT0 : xT2 l s A) (hJ0 : xJ2 s) (hX0 : xS b Ln xs s A) (hLn : Ln ≤ 2048) (hA : ∀ q, A q → s.heap.size ≤ q) (C : xCL p (s.setDrawn s.drawn) m b meth c D A y) : xV p l e room_1 (s.setDrawn s.drawn) m #[Value.ref b] below meth c D A (lw_Z below #[Value.ref b] s) 9 [] 0 0 [(0, .ref b)] 0 [] := by
  have hd0 := Drawn.sameBut.refl s.drawn lw_cs
  have hJ := xJ2_d hJ0 s.drawn
  refine x_newo (q := 3) (ci := 2) (fs := [.null, .null, .null, .null]) C tyX2 tyX2_ok dL_law_0 inlX2 koL_2 rfl (fun j hj => by match j, hj with | 0, _ => exact rfl | 1, _ => exact rfl | 2, _ => exact rfl | 3, _ => exact rfl | n + 4, hj => exact absurd hj (by omega)) (Nat.le_of_ble_eq_true rfl) (Nat.le_of_ble_eq_true rfl) rfl (fun aH => ?_)
  refine x_world (ws' := [(aH, .inr (2, [.null, .null, .null, .null]))]) rfl ?_
  refine x_dup (q := 4) C dL_law_3 rfl rfl ?_
  refine x_callJIv (q := 7) (As := []) (rest := [.ref aH]) (Wr := []) C hJ (c2_init (l := l) (D := D) (y := y) (h := aH)) yi_X2_init gL_law_X2_init mL_2 mL_7 mL_8 rfl ⟨Nat.le_of_ble_eq_true rfl, Nat.le_of_ble_eq_true rfl⟩ dL_law_4 pm_nil rfl rfl (Nat.le_of_ble_eq_true rfl) ⟨Nat.le_of_ble_eq_true rfl, Nat.le_of_ble_eq_true rfl⟩ rfl ?_
  intro u hu
  obtain ⟨aN, aF, aT, aG⟩ := u
  refine x_world (ws' := hW y aH aG aN aF aT S0 S0 S0 S0) (List.append_nil _) ?_
  refine x_widen (k' := 60) (n' := 711) (Nat.le_of_ble_eq_true rfl) (Nat.le_of_ble_eq_true rfl) ?_
  refine x_astore_n (q := 8) C [1, 0] [(0, .ref b), (1, .ref aH)] dL_law_7 rfl (by decide) rfl rfl ?_
  refine x_newo (q := 11) (ci := 3) (fs := [.int 0, .int 0, .int 0, .int 0, .int 0, .null, .null, .null, .null, .null, .null, .null, .null]) C tyX3 tyX3_ok dL_law_8 inlX3 koL_3 rfl (fun j hj => by match j, hj with | 0, _ => exact rfl | 1, _ => exact rfl | 2, _ => exact rfl | 3, _ => exact rfl | 4, _ => exact rfl | 5, _ => exact rfl | 6, _ => exact rfl | 7, _ => exact rfl | 8, _ => exact rfl | 9, _ => exact rfl | 10, _ => exact rfl | 11, _ => exact rfl | 12, _ => exact rfl | n + 13, hj => exact absurd hj (by omega)) (Nat.le_of_ble_eq_true rfl) (Nat.le_of_ble_eq_true rfl) rfl (fun qM => ?_)
  refine x_widen (k' := 61) (n' := 724) (Nat.le_of_ble_eq_true rfl) (Nat.le_of_ble_eq_true rfl) ?_
  refine x_dup (q := 12) C dL_law_11 rfl rfl ?_
  refine x_callIv (q := 15) (As := []) (rest := [.ref qM]) C (c3_init (l := l) (D := D) (y := y) (h := qM)) yi_X3_init gL_law_X3_init mL_5 mL_58 mL_59 rfl ⟨Nat.le_of_ble_eq_true rfl, Nat.le_of_ble_eq_true rfl⟩ dL_law_12 (pl_2 _ _) rfl rfl (Nat.le_of_ble_eq_true rfl) ⟨Nat.le_of_ble_eq_true rfl, Nat.le_of_ble_eq_true rfl⟩ rfl ?_
  intro aM haM
  refine x_widen (k' := 69) (n' := 1187) (Nat.le_of_ble_eq_true rfl) (Nat.le_of_ble_eq_true rfl) ?_
  refine x_topr (v := aM 0) haM ?_
  refine x_astore_n (q := 16) C [1, 2, 0] [(0, .ref b), (1, .ref aH), (2, .ref (aM 0))] dL_law_15 rfl (by decide) rfl rfl ?_
  refine x_iconst (v := 1) (q := 17) C dL_law_16 rfl rfl ?_
  refine x_newal (q := 19) C 1 dL_law_17 mL_6 rfl (by decide) (by decide) (by decide) (Nat.le_of_ble_eq_true rfl) (Nat.le_of_ble_eq_true rfl) rfl (fun qO => ?_)
  obtain ⟨aO, haO⟩ : ∃ z : Nat → Nat, z 0 = qO := ⟨fun _ => qO, rfl⟩
  subst haO
  refine x_perm (ws' := xLw y aH aG aN aF aT aM aO S0 S0 S0 S0 S0 (fun _ => 0)) (pl_e (hW y aH aG aN aF aT S0 S0 S0 S0) (mC y aM S0) (oC y aO (fun _ => 0))) ?_
  refine x_widen (k' := 100 + 100 * 0) (n' := 2000 + 1000 * 0) (Nat.le_of_ble_eq_true rfl) (Nat.le_of_ble_eq_true rfl) ?_
  refine x_astore_n (q := 20) C [1, 2, 3, 0] [(0, .ref b), (1, .ref aH), (2, .ref (aM 0)), (3, .ref (aO 0))] dL_law_19 rfl (by decide) rfl rfl ?_
  refine x_iconst (v := 0) (q := 21) C dL_law_20 rfl rfl ?_
  refine x_istore (q := 23) C [1, 2, 3, 4, 0] (xLL b aH aM aO (nI (4 * 0))) dL_law_21 (by decide) rfl rfl ?_
  exact law_loop hT0 hJ0 hX0 hLn hA (Ln + 1) 0 s.drawn hd0 C (by omega) (by omega) S0 S0 S0 S0 S0 (fun _ => 0) z_init
