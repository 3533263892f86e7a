/-! THE SIM'S CONSTRUCTOR -/
def Y0 : Nat → Nat := fun _ => 0
theorem kmX3_obj : ∀ w ∈ ([.methodLink RX3 1 objectInit, .instanceMethod objectInit, .code objectInit ⟨#[0xb1]⟩ 1 none] : List Cond), w ∈ wsX3_init := by decide +kernel
theorem knX3_init : Cond.arrayClass .int ∈ wsX3_init := by decide +kernel
theorem clX3_init : Cond.classLink RX3 13 "[I" ∈ wsX3_init := by decide +kernel
theorem kmmX3_init : Cond.classLink RX3 30 "[[I" ∈ wsX3_init := by decide +kernel
theorem iuX3_init_X3 : ∀ w ∈ u_ws RX3 TX3 10, w ∈ wsX3_init := fun _ h => List.mem_cons_of_mem _ (List.mem_append_right _ h)
theorem yi_X3_init : xY yX3_init wsX3_init cX3_init 1 none 0 := ⟨⟨_, rfl⟩, by decide +kernel, by decide +kernel, by decide +kernel⟩
theorem pmI {α : Type} (o h a b c d w e : α) (r : List α) : ([o, h, a, b, c, d, w, e] ++ r).Perm ([o, h, w, a, b, c, d, e] ++ ([] ++ ([] ++ ([] ++ ([] ++ r))))) := by
  classical
  exact List.perm_iff_count.mpr fun z => by simp only [List.count_append, List.count_cons, List.count_nil, List.nil_append]; omega
theorem flX3_init_7 : Cond.fieldLink RX3 7 "LampHillsLaw$Sim" "height" "[I" ∈ wsX3_init := by decide +kernel
theorem flX3_init_14 : Cond.fieldLink RX3 14 "LampHillsLaw$Sim" "streets" "[[I" ∈ wsX3_init := by decide +kernel
theorem flX3_init_18 : Cond.fieldLink RX3 18 "LampHillsLaw$Sim" "lamps" "[[I" ∈ wsX3_init := by decide +kernel
theorem flX3_init_21 : Cond.fieldLink RX3 21 "LampHillsLaw$Sim" "lighters" "[[I" ∈ wsX3_init := by decide +kernel
theorem flX3_init_24 : Cond.fieldLink RX3 24 "LampHillsLaw$Sim" "rounds" "[[I" ∈ wsX3_init := by decide +kernel
theorem flX3_init_27 : Cond.fieldLink RX3 27 "LampHillsLaw$Sim" "wind" "[I" ∈ wsX3_init := by decide +kernel
theorem flX3_init_31 : Cond.fieldLink RX3 31 "LampHillsLaw$Sim" "ways" "[[I" ∈ wsX3_init := by decide +kernel
set_option maxHeartbeats 4000000 in
set_option maxRecDepth 100000 in
theorem c5_init {l : Launch} {D : va_G} {y : Nat → ClassId} {h : Nat} : xMJv l yX3_init wsX3_init 1 48 19 166 D (xT y) [.ref h] [(h, .inr (3, [.null, .null, .null, .null, .null, .null, .int 0, .int 0, .int 0, .null]))] (fun (_ : Nat → Nat) => True) (fun u => sC y h u Y0 S0) := by
  refine xMJv_of (cc := cX3_init) (nL := 1) (ret := none) [(0, .ref h)] (by decide) rfl (Nat.le_of_ble_eq_true rfl) rfl ?_
  intro p e s m args below meth c A C hin hJ
  have C : xC p s m args meth c D A cX3_init RX3 1 wsX3_init (xT y) none := C
  refine x_aload_n (q := 1) C 0 dX3_init_0 rfl rfl rfl ?_
  refine x_objInit (q := 4) C dX3_init_1 kmX3_obj (Nat.le_of_ble_eq_true rfl) (Nat.le_of_ble_eq_true rfl) rfl ?_
  refine x_aload_n (q := 5) C 0 dX3_init_4 rfl rfl rfl ?_
  refine x_iconst (q := 6) C dX3_init_5 ki_0 rfl ?_
  refine x_newa (q := 8) C 0 dX3_init_6 knX3_init rfl (by decide) (by decide) (by decide) (Nat.le_of_ble_eq_true rfl) (Nat.le_of_ble_eq_true rfl) rfl (fun q1 => ?_)
  refine x_world (ws' := [(h, .inr (3, [.null, .null, .null, .null, .null, .null, .int 0, .int 0, .int 0, .null])), (q1, .inl (y 0, 0, .inl (fun _ => 0)))]) rfl ?_
  refine x_putf (q := 11) (ws' := [(h, .inr (3, [.ref q1, .null, .null, .null, .null, .null, .int 0, .int 0, .int 0, .null])), (q1, .inl (y 0, 0, .inl (fun _ => 0)))]) C 0 (ty := .array .int) dX3_init_8 0 rfl iuX3_init_X3 flX3_init_7 rfl (by decide) rfl (by decide +kernel) rfl rfl (Nat.le_of_ble_eq_true rfl) rfl rfl ?_
  refine x_aload_n (q := 12) C 0 dX3_init_11 rfl rfl rfl ?_
  refine x_iconst (q := 13) C dX3_init_12 ki_0 rfl ?_
  refine x_anewr (q := 16) C hJ 0 dX3_init_13 clX3_init rfl (by decide) (by decide) (by decide) (Nat.le_of_ble_eq_true rfl) (Nat.le_of_ble_eq_true rfl) rfl (fun q2 => ?_)
  refine x_world (ws' := [(h, .inr (3, [.ref q1, .null, .null, .null, .null, .null, .int 0, .int 0, .int 0, .null])), (q1, .inl (y 0, 0, .inl (fun _ => 0))), (q2, .inl (y 2, 0, .inr (.inr (.inr (.inr (fun _ => none))))))]) rfl ?_
  refine x_putf (q := 19) (ws' := [(h, .inr (3, [.ref q1, .ref q2, .null, .null, .null, .null, .int 0, .int 0, .int 0, .null])), (q1, .inl (y 0, 0, .inl (fun _ => 0))), (q2, .inl (y 2, 0, .inr (.inr (.inr (.inr (fun _ => none))))))]) C 1 (ty := .array (.array .int)) dX3_init_16 0 rfl iuX3_init_X3 flX3_init_14 rfl (by decide) rfl (by decide +kernel) rfl rfl (Nat.le_of_ble_eq_true rfl) rfl rfl ?_
  refine x_aload_n (q := 20) C 0 dX3_init_19 rfl rfl rfl ?_
  refine x_iconst (q := 21) C dX3_init_20 ki_0 rfl ?_
  refine x_anewr (q := 24) C hJ 0 dX3_init_21 clX3_init rfl (by decide) (by decide) (by decide) (Nat.le_of_ble_eq_true rfl) (Nat.le_of_ble_eq_true rfl) rfl (fun q3 => ?_)
  refine x_world (ws' := [(h, .inr (3, [.ref q1, .ref q2, .null, .null, .null, .null, .int 0, .int 0, .int 0, .null])), (q1, .inl (y 0, 0, .inl (fun _ => 0))), (q2, .inl (y 2, 0, .inr (.inr (.inr (.inr (fun _ => none)))))), (q3, .inl (y 2, 0, .inr (.inr (.inr (.inr (fun _ => none))))))]) rfl ?_
  refine x_putf (q := 27) (ws' := [(h, .inr (3, [.ref q1, .ref q2, .ref q3, .null, .null, .null, .int 0, .int 0, .int 0, .null])), (q1, .inl (y 0, 0, .inl (fun _ => 0))), (q2, .inl (y 2, 0, .inr (.inr (.inr (.inr (fun _ => none)))))), (q3, .inl (y 2, 0, .inr (.inr (.inr (.inr (fun _ => none))))))]) C 2 (ty := .array (.array .int)) dX3_init_24 0 rfl iuX3_init_X3 flX3_init_18 rfl (by decide) rfl (by decide +kernel) rfl rfl (Nat.le_of_ble_eq_true rfl) rfl rfl ?_
  refine x_aload_n (q := 28) C 0 dX3_init_27 rfl rfl rfl ?_
  refine x_iconst (q := 29) C dX3_init_28 ki_0 rfl ?_
  refine x_anewr (q := 32) C hJ 0 dX3_init_29 clX3_init rfl (by decide) (by decide) (by decide) (Nat.le_of_ble_eq_true rfl) (Nat.le_of_ble_eq_true rfl) rfl (fun q4 => ?_)
  refine x_world (ws' := [(h, .inr (3, [.ref q1, .ref q2, .ref q3, .null, .null, .null, .int 0, .int 0, .int 0, .null])), (q1, .inl (y 0, 0, .inl (fun _ => 0))), (q2, .inl (y 2, 0, .inr (.inr (.inr (.inr (fun _ => none)))))), (q3, .inl (y 2, 0, .inr (.inr (.inr (.inr (fun _ => none)))))), (q4, .inl (y 2, 0, .inr (.inr (.inr (.inr (fun _ => none))))))]) rfl ?_
  refine x_putf (q := 35) (ws' := [(h, .inr (3, [.ref q1, .ref q2, .ref q3, .ref q4, .null, .null, .int 0, .int 0, .int 0, .null])), (q1, .inl (y 0, 0, .inl (fun _ => 0))), (q2, .inl (y 2, 0, .inr (.inr (.inr (.inr (fun _ => none)))))), (q3, .inl (y 2, 0, .inr (.inr (.inr (.inr (fun _ => none)))))), (q4, .inl (y 2, 0, .inr (.inr (.inr (.inr (fun _ => none))))))]) C 3 (ty := .array (.array .int)) dX3_init_32 0 rfl iuX3_init_X3 flX3_init_21 rfl (by decide) rfl (by decide +kernel) rfl rfl (Nat.le_of_ble_eq_true rfl) rfl rfl ?_
  refine x_aload_n (q := 36) C 0 dX3_init_35 rfl rfl rfl ?_
  refine x_iconst (q := 37) C dX3_init_36 ki_0 rfl ?_
  refine x_anewr (q := 40) C hJ 0 dX3_init_37 clX3_init rfl (by decide) (by decide) (by decide) (Nat.le_of_ble_eq_true rfl) (Nat.le_of_ble_eq_true rfl) rfl (fun q5 => ?_)
  refine x_world (ws' := [(h, .inr (3, [.ref q1, .ref q2, .ref q3, .ref q4, .null, .null, .int 0, .int 0, .int 0, .null])), (q1, .inl (y 0, 0, .inl (fun _ => 0))), (q2, .inl (y 2, 0, .inr (.inr (.inr (.inr (fun _ => none)))))), (q3, .inl (y 2, 0, .inr (.inr (.inr (.inr (fun _ => none)))))), (q4, .inl (y 2, 0, .inr (.inr (.inr (.inr (fun _ => none)))))), (q5, .inl (y 2, 0, .inr (.inr (.inr (.inr (fun _ => none))))))]) rfl ?_
  refine x_putf (q := 43) (ws' := [(h, .inr (3, [.ref q1, .ref q2, .ref q3, .ref q4, .ref q5, .null, .int 0, .int 0, .int 0, .null])), (q1, .inl (y 0, 0, .inl (fun _ => 0))), (q2, .inl (y 2, 0, .inr (.inr (.inr (.inr (fun _ => none)))))), (q3, .inl (y 2, 0, .inr (.inr (.inr (.inr (fun _ => none)))))), (q4, .inl (y 2, 0, .inr (.inr (.inr (.inr (fun _ => none)))))), (q5, .inl (y 2, 0, .inr (.inr (.inr (.inr (fun _ => none))))))]) C 4 (ty := .array (.array .int)) dX3_init_40 0 rfl iuX3_init_X3 flX3_init_24 rfl (by decide) rfl (by decide +kernel) rfl rfl (Nat.le_of_ble_eq_true rfl) rfl rfl ?_
  refine x_aload_n (q := 44) C 0 dX3_init_43 rfl rfl rfl ?_
  refine x_bipush (q := 46) C dX3_init_44 kb_10 rfl ?_
  refine x_newa (q := 48) C 10 dX3_init_46 knX3_init rfl (by decide) (by decide) (by decide) (Nat.le_of_ble_eq_true rfl) (Nat.le_of_ble_eq_true rfl) rfl (fun q6 => ?_)
  refine x_world (ws' := [(h, .inr (3, [.ref q1, .ref q2, .ref q3, .ref q4, .ref q5, .null, .int 0, .int 0, .int 0, .null])), (q1, .inl (y 0, 0, .inl (fun _ => 0))), (q2, .inl (y 2, 0, .inr (.inr (.inr (.inr (fun _ => none)))))), (q3, .inl (y 2, 0, .inr (.inr (.inr (.inr (fun _ => none)))))), (q4, .inl (y 2, 0, .inr (.inr (.inr (.inr (fun _ => none)))))), (q5, .inl (y 2, 0, .inr (.inr (.inr (.inr (fun _ => none)))))), (q6, .inl (y 0, 10, .inl (fun _ => 0)))]) rfl ?_
  refine x_putf (q := 51) (ws' := [(h, .inr (3, [.ref q1, .ref q2, .ref q3, .ref q4, .ref q5, .ref q6, .int 0, .int 0, .int 0, .null])), (q1, .inl (y 0, 0, .inl (fun _ => 0))), (q2, .inl (y 2, 0, .inr (.inr (.inr (.inr (fun _ => none)))))), (q3, .inl (y 2, 0, .inr (.inr (.inr (.inr (fun _ => none)))))), (q4, .inl (y 2, 0, .inr (.inr (.inr (.inr (fun _ => none)))))), (q5, .inl (y 2, 0, .inr (.inr (.inr (.inr (fun _ => none)))))), (q6, .inl (y 0, 10, .inl (fun _ => 0)))]) C 5 (ty := .array .int) dX3_init_48 0 rfl iuX3_init_X3 flX3_init_27 rfl (by decide) rfl (by decide +kernel) rfl rfl (Nat.le_of_ble_eq_true rfl) rfl rfl ?_
  refine x_aload_n (q := 52) C 0 dX3_init_51 rfl rfl rfl ?_
  refine x_bipush (q := 54) C dX3_init_52 kb_12 rfl ?_
  refine x_bipush (q := 56) C dX3_init_54 kb_12 rfl ?_
  refine x_mna (q := 60) C hJ 12 12 dX3_init_56 kmmX3_init knX3_init rfl rfl (by decide) (by decide) (by decide) (by decide) (by decide) (by decide) (by decide) (Nat.le_of_ble_eq_true rfl) (Nat.le_of_ble_eq_true rfl) rfl (fun q7 r7 => ?_)
  refine x_world (ws' := [(h, .inr (3, [.ref q1, .ref q2, .ref q3, .ref q4, .ref q5, .ref q6, .int 0, .int 0, .int 0, .null])), (q1, .inl (y 0, 0, .inl (fun _ => 0))), (q2, .inl (y 2, 0, .inr (.inr (.inr (.inr (fun _ => none)))))), (q3, .inl (y 2, 0, .inr (.inr (.inr (.inr (fun _ => none)))))), (q4, .inl (y 2, 0, .inr (.inr (.inr (.inr (fun _ => none)))))), (q5, .inl (y 2, 0, .inr (.inr (.inr (.inr (fun _ => none)))))), (q6, .inl (y 0, 10, .inl (fun _ => 0))), (q7, .inl (y 2, 12, .inr (.inr (.inr (.inr (fun i => if i < 12 then some (r7 i) else none))))))] ++ (List.range 12).map (fun i => (r7 i, .inl (y 0, 12, .inl (fun _ => 0))))) rfl ?_
  refine x_putf (q := 63) (ws' := [(h, .inr (3, [.ref q1, .ref q2, .ref q3, .ref q4, .ref q5, .ref q6, .int 0, .int 0, .int 0, .ref q7])), (q1, .inl (y 0, 0, .inl (fun _ => 0))), (q2, .inl (y 2, 0, .inr (.inr (.inr (.inr (fun _ => none)))))), (q3, .inl (y 2, 0, .inr (.inr (.inr (.inr (fun _ => none)))))), (q4, .inl (y 2, 0, .inr (.inr (.inr (.inr (fun _ => none)))))), (q5, .inl (y 2, 0, .inr (.inr (.inr (.inr (fun _ => none)))))), (q6, .inl (y 0, 10, .inl (fun _ => 0))), (q7, .inl (y 2, 12, .inr (.inr (.inr (.inr (fun i => if i < 12 then some (r7 i) else none))))))] ++ (List.range 12).map (fun i => (r7 i, .inl (y 0, 12, .inl (fun _ => 0))))) C 9 (ty := .array (.array .int)) dX3_init_60 0 rfl iuX3_init_X3 flX3_init_31 rfl (by decide) rfl (by decide +kernel) rfl rfl (Nat.le_of_ble_eq_true rfl) rfl rfl ?_
  obtain ⟨u, eu⟩ : ∃ z : Nat → Nat, z = (fun k => if k % 16 = 14 then r7 (k / 16) else match k with | 1 => q1 | 2 => q2 | 3 => q3 | 4 => q4 | 5 => q5 | 6 => q6 | 15 => q7 | _ => 0) := ⟨_, rfl⟩
  have er : ∀ i, u (rk 14 i) = r7 i := fun i => by rw [eu]; dsimp only; rw [if_pos (by unfold rk; omega), show rk 14 i / 16 = i by unfold rk; omega]
  have ev : u 1 = q1 ∧ u 2 = q2 ∧ u 3 = q3 ∧ u 4 = q4 ∧ u 5 = q5 ∧ u 6 = q6 ∧ u 15 = q7 := by subst eu; exact ⟨rfl, rfl, rfl, rfl, rfl, rfl, rfl⟩
  obtain ⟨v1, v2, v3, v4, v5, v6, v7⟩ := ev
  clear eu
  refine x_perm (ws' := sC y h u Y0 S0) ?_ ?_
  · have f0 : ∀ b (r : Nat → Nat), refC y b 0 r = (b, .inl (y 2, 0, .inr (.inr (.inr (.inr (fun _ => none)))))) := fun b r => by
      unfold refC
      have : (fun i => if i < 0 then some (r i) else none) = (fun _ : Nat => (none : Option Nat)) := by funext i; rw [if_neg (by omega)]
      rw [this]
    have z0 : ∀ g w, rowsC y u g 0 w S0 = [] := fun g w => rfl
    unfold sC sHd sF
    show List.Perm _ (([_, _, _, refC y (u 2) 0 _, refC y (u 3) 0 _, refC y (u 4) 0 _, refC y (u 5) 0 _, _] : va_W) ++ (rowsC y u 10 0 _ S0 ++ (rowsC y u 11 0 _ S0 ++ (rowsC y u 12 0 _ S0 ++ (rowsC y u 13 0 _ S0 ++ rowsC y u 14 12 _ S0)))))
    rw [z0, z0, z0, z0, f0, f0, f0, f0]
    have e2 : refC y (u 15) 12 (fun i => u (rk 14 i)) = (u 15, .inl (y 2, 12, .inr (.inr (.inr (.inr (fun i => if i < 12 then some (r7 i) else none)))))) := by
      unfold refC
      have : (fun i => if i < 12 then some (u (rk 14 i)) else none) = (fun i => if i < 12 then some (r7 i) else none) := by funext i; rw [er]
      rw [this]
    have e3 : rowsC y u 14 12 (fun _ => 12) S0 = (List.range 12).map (fun i => (r7 i, .inl (y 0, 12, .inl (fun _ => 0)))) := by
      unfold rowsC
      apply List.map_congr_left
      intro i _
      rw [er]
      rfl
    rw [e2, e3, v1, v2, v3, v4, v5, v6, v7]
    exact pmI _ _ _ _ _ _ _ _ _
  exact x_vret u C dX3_init_63 rfl trivial rfl (Nat.le_of_ble_eq_true rfl) (Nat.le_of_ble_eq_true rfl)
