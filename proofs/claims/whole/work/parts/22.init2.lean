theorem iuX2_init_X0 : ∀ w ∈ u_ws RX0 TX0 16, w ∈ wsX2_init := fun _ h => List.mem_cons_of_mem _ (List.mem_append_right _ h)
theorem iuX2_init_X1 : ∀ w ∈ u_ws RX1 TX1 17, w ∈ wsX2_init := fun _ h => List.mem_cons_of_mem _ (List.mem_append_left _ (List.mem_append_left _ (List.mem_append_right _ h)))
theorem iuX2_init_X2 : ∀ w ∈ u_ws RX2 TX2 4, w ∈ wsX2_init := fun _ h => List.mem_cons_of_mem _ (List.mem_append_left _ (List.mem_append_right _ h))
theorem kmX2_obj : ∀ w ∈ ([.methodLink RX2 3 objectInit, .instanceMethod objectInit, .code objectInit ⟨#[0xb1]⟩ 1 none] : List Cond), w ∈ wsX2_init := by decide +kernel
theorem knX2_init : Cond.arrayClass .int ∈ wsX2_init := by decide +kernel
theorem koX1_init : ∀ w ∈ ([.classLink RX2 9 RX1, .instantiable RX1 17, .initialized RX1] : List Cond), w ∈ wsX2_init := by decide +kernel
theorem koX0_init : ∀ w ∈ ([.classLink RX2 16 RX0, .instantiable RX0 16, .initialized RX0] : List Cond), w ∈ wsX2_init := by decide +kernel
theorem klX1_init : Cond.initialized yX1_init.cls ∈ wsX2_init ∧ Cond.instanceMethod yX1_init ∈ wsX2_init := ⟨by decide +kernel, by decide +kernel⟩
theorem klX0_init : Cond.initialized yX0_init.cls ∈ wsX2_init ∧ Cond.instanceMethod yX0_init ∈ wsX2_init := ⟨by decide +kernel, by decide +kernel⟩
theorem flX2_init_12 : Cond.fieldLink RX2 12 "LampHills" "town" "LLampHills$Town;" ∈ wsX2_init := by decide +kernel
theorem flX2_init_19 : Cond.fieldLink RX2 19 "LampHills" "night" "LLampHills$Night;" ∈ wsX2_init := by decide +kernel
theorem flX2_init_23 : Cond.fieldLink RX2 23 "LampHills" "forecast" "LLampHills$Night;" ∈ wsX2_init := by decide +kernel
theorem flX2_init_26 : Cond.fieldLink RX2 26 "LampHills" "darkMinutes" "[I" ∈ wsX2_init := by decide +kernel
def oH (h : Nat) (fs : List Value) : va_W := [(h, .inr (2, fs))]
def oX (h ci : Nat) (fs : List Value) : va_W := [(h, .inr (ci, fs))]
theorem pmH {α : Type} (a t n f g : List α) : (a ++ (t ++ (n ++ (f ++ g)))).Perm (a ++ (g ++ (n ++ (f ++ t)))) := by
  classical
  exact List.perm_iff_count.mpr fun x => by simp only [List.count_append]; omega
theorem pmI2 {α : Type} (b0 b1 : List α) : (b0 ++ b1).Perm (b1 ++ (b0)) := by
  classical
  exact List.perm_iff_count.mpr fun x => by simp only [List.count_append] <;> omega
theorem pmI3 {α : Type} (b0 b1 b2 : List α) : (b0 ++ (b1 ++ b2)).Perm (b2 ++ (b0 ++ b1)) := by
  classical
  exact List.perm_iff_count.mpr fun x => by simp only [List.count_append] <;> omega
theorem pmI4 {α : Type} (b0 b1 b2 b3 : List α) : (b0 ++ (b1 ++ (b2 ++ b3))).Perm (b3 ++ (b0 ++ (b1 ++ b2))) := by
  classical
  exact List.perm_iff_count.mpr fun x => by simp only [List.count_append] <;> omega
set_option maxHeartbeats 4000000 in
set_option maxRecDepth 100000 in
theorem c2_init {l : Launch} {D : va_G} {y : Nat → ClassId} {h : Nat} : xMJv l yX2_init wsX2_init 6 90 59 707 D (xT y) [.ref h] [(h, .inr (2, [.null, .null, .null, .null]))] (fun (_ : (Nat → Nat) × (Nat → Nat) × (Nat → Nat) × (Nat → Nat)) => True) (fun u => hC h u.1 u.2.1 u.2.2.1 u.2.2.2 ++ (gC y u.2.2.2 S0 ++ (nC y u.1 S0 ++ (nC y u.2.1 S0 ++ tC y u.2.2.1 S0)))) := by
  refine xMJv_of (cc := cX2_init) (nL := 1) (ret := none) [(0, .ref h)] (by decide) rfl (Nat.le_of_ble_eq_true rfl) rfl ?_
  intro p e s m args below meth c A C hin hJ
  have C : xC p s m args meth c D A cX2_init RX2 1 wsX2_init (xT y) none := C
  refine x_aload_n (q := 1) C 0 dX2_init_0 rfl rfl rfl ?_
  refine x_objInit (q := 4) C dX2_init_1 kmX2_obj (Nat.le_of_ble_eq_true rfl) (Nat.le_of_ble_eq_true rfl) rfl ?_
  refine x_world (ws' := oH h [.null, .null, .null, .null]) rfl ?_
  refine x_aload_n (q := 5) C 0 dX2_init_4 rfl rfl rfl ?_
  refine x_newo (q := 8) (ci := 1) (fs := [.int 0, .null, .null, .int 0, .null, .null, .null, .int 0, .null, .null, .null, .null, .int 0, .null, .null, .null, .null]) C tyX1 tyX1_ok dX2_init_5 iuX2_init_X1 koX1_init rfl (fun j hj => by match j, hj with | 0, _ => exact rfl | 1, _ => exact rfl | 2, _ => exact rfl | 3, _ => exact rfl | 4, _ => exact rfl | 5, _ => exact rfl | 6, _ => exact rfl | 7, _ => exact rfl | 8, _ => exact rfl | 9, _ => exact rfl | 10, _ => exact rfl | 11, _ => exact rfl | 12, _ => exact rfl | 13, _ => exact rfl | 14, _ => exact rfl | 15, _ => exact rfl | 16, _ => exact rfl | n + 17, hj => exact absurd hj (by omega)) (Nat.le_of_ble_eq_true rfl) (Nat.le_of_ble_eq_true rfl) rfl (fun qaT => ?_)
  refine x_world (ws' := oH h [.null, .null, .null, .null] ++ oX qaT 1 [.int 0, .null, .null, .int 0, .null, .null, .null, .int 0, .null, .null, .null, .null, .int 0, .null, .null, .null, .null]) rfl ?_
  refine x_widen (k' := 1) (n' := 17) (Nat.le_of_ble_eq_true rfl) (Nat.le_of_ble_eq_true rfl) ?_
  refine x_dup (q := 9) C dX2_init_8 rfl rfl ?_
  refine x_callJNIv (q := 12) C hJ (c1_init (l := l) (D := D) (y := y) (h := qaT)) yi_X1_init gX2_init_X1_init_n11 klX1_init.1 hJ.2.2.1 klX1_init.2 rfl ⟨(Nat.le_of_ble_eq_true rfl), (Nat.le_of_ble_eq_true rfl)⟩ dX2_init_9 (pmI2 _ _) rfl rfl (Nat.le_of_ble_eq_true rfl) ⟨(Nat.le_of_ble_eq_true rfl), (Nat.le_of_ble_eq_true rfl)⟩ rfl ?_
  intro aT haT
  refine x_widen (k' := 30) (n' := 365) (Nat.le_of_ble_eq_true rfl) (Nat.le_of_ble_eq_true rfl) ?_
  refine x_perm (ws' := oH h [.null, .null, .null, .null] ++ tC y aT S0) (pmI2 _ _).symm ?_
  refine x_topr (v := aT 0) haT ?_
  refine x_putr (q := 15) (ws' := oH h [.ref (aT 0), .null, .null, .null] ++ tC y aT S0) C 0 tyX2 tyX2_ok nmX2 dX2_init_12 (hin rfl) 0 rfl rfl iuX2_init_X2 flX2_init_12 rfl (by decide) rfl rfl (tyX2_ok 0 (by decide)) rfl rfl (Nat.le_of_ble_eq_true rfl) rfl rfl ?_
  refine x_aload_n (q := 16) C 0 dX2_init_15 rfl rfl rfl ?_
  refine x_newo (q := 19) (ci := 0) (fs := [.int 0, .int 0, .int 0, .null, .null, .null, .null, .null, .null, .null, .null, .null, .null, .null, .null, .null]) C tyX0 tyX0_ok dX2_init_16 iuX2_init_X0 koX0_init rfl (fun j hj => by match j, hj with | 0, _ => exact rfl | 1, _ => exact rfl | 2, _ => exact rfl | 3, _ => exact rfl | 4, _ => exact rfl | 5, _ => exact rfl | 6, _ => exact rfl | 7, _ => exact rfl | 8, _ => exact rfl | 9, _ => exact rfl | 10, _ => exact rfl | 11, _ => exact rfl | 12, _ => exact rfl | 13, _ => exact rfl | 14, _ => exact rfl | 15, _ => exact rfl | n + 16, hj => exact absurd hj (by omega)) (Nat.le_of_ble_eq_true rfl) (Nat.le_of_ble_eq_true rfl) rfl (fun qaN => ?_)
  refine x_world (ws' := oH h [.ref (aT 0), .null, .null, .null] ++ (tC y aT S0 ++ oX qaN 0 [.int 0, .int 0, .int 0, .null, .null, .null, .null, .null, .null, .null, .null, .null, .null, .null, .null, .null])) as2 ?_
  refine x_widen (k' := 31) (n' := 381) (Nat.le_of_ble_eq_true rfl) (Nat.le_of_ble_eq_true rfl) ?_
  refine x_dup (q := 20) C dX2_init_19 rfl rfl ?_
  refine x_callNIv (q := 23) C (c0_init (l := l) (D := D) (y := y) (h := qaN)) yi_X0_init gX2_init_X0_init_n18 klX0_init.1 hJ.2.2.2 klX0_init.2 rfl ⟨(Nat.le_of_ble_eq_true rfl), (Nat.le_of_ble_eq_true rfl)⟩ dX2_init_20 (pmI3 _ _ _) rfl rfl (Nat.le_of_ble_eq_true rfl) ⟨(Nat.le_of_ble_eq_true rfl), (Nat.le_of_ble_eq_true rfl)⟩ rfl ?_
  intro aN haN
  refine x_widen (k' := 44) (n' := 527) (Nat.le_of_ble_eq_true rfl) (Nat.le_of_ble_eq_true rfl) ?_
  refine x_perm (ws' := oH h [.ref (aT 0), .null, .null, .null] ++ (tC y aT S0 ++ nC y aN S0)) (pmI3 _ _ _).symm ?_
  refine x_topr (v := aN 0) haN ?_
  refine x_putr (q := 26) (ws' := oH h [.ref (aT 0), .ref (aN 0), .null, .null] ++ (tC y aT S0 ++ nC y aN S0)) C 1 tyX2 tyX2_ok nmX2 dX2_init_23 (hin rfl) 0 rfl rfl iuX2_init_X2 flX2_init_19 rfl (by decide) rfl rfl (tyX2_ok 1 (by decide)) rfl rfl (Nat.le_of_ble_eq_true rfl) rfl rfl ?_
  refine x_aload_n (q := 27) C 0 dX2_init_26 rfl rfl rfl ?_
  refine x_newo (q := 30) (ci := 0) (fs := [.int 0, .int 0, .int 0, .null, .null, .null, .null, .null, .null, .null, .null, .null, .null, .null, .null, .null]) C tyX0 tyX0_ok dX2_init_27 iuX2_init_X0 koX0_init rfl (fun j hj => by match j, hj with | 0, _ => exact rfl | 1, _ => exact rfl | 2, _ => exact rfl | 3, _ => exact rfl | 4, _ => exact rfl | 5, _ => exact rfl | 6, _ => exact rfl | 7, _ => exact rfl | 8, _ => exact rfl | 9, _ => exact rfl | 10, _ => exact rfl | 11, _ => exact rfl | 12, _ => exact rfl | 13, _ => exact rfl | 14, _ => exact rfl | 15, _ => exact rfl | n + 16, hj => exact absurd hj (by omega)) (Nat.le_of_ble_eq_true rfl) (Nat.le_of_ble_eq_true rfl) rfl (fun qaF => ?_)
  refine x_world (ws' := oH h [.ref (aT 0), .ref (aN 0), .null, .null] ++ (tC y aT S0 ++ (nC y aN S0 ++ oX qaF 0 [.int 0, .int 0, .int 0, .null, .null, .null, .null, .null, .null, .null, .null, .null, .null, .null, .null, .null]))) as3 ?_
  refine x_widen (k' := 45) (n' := 543) (Nat.le_of_ble_eq_true rfl) (Nat.le_of_ble_eq_true rfl) ?_
  refine x_dup (q := 31) C dX2_init_30 rfl rfl ?_
  refine x_callNIv (q := 34) C (c0_init (l := l) (D := D) (y := y) (h := qaF)) yi_X0_init gX2_init_X0_init_n18 klX0_init.1 hJ.2.2.2 klX0_init.2 rfl ⟨(Nat.le_of_ble_eq_true rfl), (Nat.le_of_ble_eq_true rfl)⟩ dX2_init_31 (pmI4 _ _ _ _) rfl rfl (Nat.le_of_ble_eq_true rfl) ⟨(Nat.le_of_ble_eq_true rfl), (Nat.le_of_ble_eq_true rfl)⟩ rfl ?_
  intro aF haF
  refine x_widen (k' := 58) (n' := 689) (Nat.le_of_ble_eq_true rfl) (Nat.le_of_ble_eq_true rfl) ?_
  refine x_perm (ws' := oH h [.ref (aT 0), .ref (aN 0), .null, .null] ++ (tC y aT S0 ++ (nC y aN S0 ++ nC y aF S0))) (pmI4 _ _ _ _).symm ?_
  refine x_topr (v := aF 0) haF ?_
  refine x_putr (q := 37) (ws' := oH h [.ref (aT 0), .ref (aN 0), .ref (aF 0), .null] ++ (tC y aT S0 ++ (nC y aN S0 ++ nC y aF S0))) C 2 tyX2 tyX2_ok nmX2 dX2_init_34 (hin rfl) 0 rfl rfl iuX2_init_X2 flX2_init_23 rfl (by decide) rfl rfl (tyX2_ok 2 (by decide)) rfl rfl (Nat.le_of_ble_eq_true rfl) rfl rfl ?_
  refine x_aload_n (q := 38) C 0 dX2_init_37 rfl rfl rfl ?_
  refine x_bipush (q := 40) C dX2_init_38 kb_18 rfl ?_
  refine x_newa (q := 42) C 18 dX2_init_40 knX2_init rfl (by decide) (by decide) (by decide) (Nat.le_of_ble_eq_true rfl) (Nat.le_of_ble_eq_true rfl) rfl (fun qG => ?_)
  obtain ⟨aG, haG⟩ : ∃ z : Nat → Nat, z 0 = qG := ⟨fun _ => qG, rfl⟩
  subst haG
  refine x_world (ws' := oH h [.ref (aT 0), .ref (aN 0), .ref (aF 0), .null] ++ (tC y aT S0 ++ (nC y aN S0 ++ (nC y aF S0 ++ gC y aG S0)))) as4 ?_
  refine x_widen (k' := 59) (n' := 707) (Nat.le_of_ble_eq_true rfl) (Nat.le_of_ble_eq_true rfl) ?_
  refine x_putr (q := 45) (ws' := oH h [.ref (aT 0), .ref (aN 0), .ref (aF 0), .ref (aG 0)] ++ (tC y aT S0 ++ (nC y aN S0 ++ (nC y aF S0 ++ gC y aG S0)))) C 3 tyX2 tyX2_ok nmX2 dX2_init_42 (hin rfl) 0 rfl rfl iuX2_init_X2 flX2_init_26 rfl (by decide) rfl rfl (tyX2_ok 3 (by decide)) rfl rfl (Nat.le_of_ble_eq_true rfl) rfl rfl ?_
  refine x_perm (ws' := hC h aN aF aT aG ++ (gC y aG S0 ++ (nC y aN S0 ++ (nC y aF S0 ++ tC y aT S0)))) (pmH _ _ _ _ _) ?_
  exact x_vret (aN, aF, aT, aG) C dX2_init_45 rfl trivial rfl (Nat.le_of_ble_eq_true rfl) (Nat.le_of_ble_eq_true rfl)
theorem yi_X2_init : xY yX2_init wsX2_init cX2_init 1 none 0 := ⟨⟨_, rfl⟩, by decide +kernel, by decide +kernel, by decide +kernel⟩
