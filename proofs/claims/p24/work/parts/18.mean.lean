/-! LampHills.mean()D -/
theorem flX2_mean_12 : Cond.fieldLink RX2 12 "LampHills" "town" "LLampHills$Town;" ∈ wsX2_mean := by decide +kernel
theorem flX2_mean_19 : Cond.fieldLink RX2 19 "LampHills" "night" "LLampHills$Night;" ∈ wsX2_mean := by decide +kernel
theorem flX2_mean_63 : Cond.fieldLink RX2 63 "LampHills$Town" "lamps" "I" ∈ wsX2_mean := by decide +kernel
theorem iuX2_mean_X1 : ∀ w ∈ u_ws RX1 TX1 17, w ∈ wsX2_mean := fun _ h => List.mem_cons_of_mem _ (List.mem_append_left _ (List.mem_append_right _ h))
theorem iuX2_mean_X2 : ∀ w ∈ u_ws RX2 TX2 4, w ∈ wsX2_mean := fun _ h => List.mem_cons_of_mem _ (List.mem_append_left _ (List.mem_append_left _ (List.mem_append_right _ h)))
def f2_mean (G : St) (N : St) (F : St) (T : St) : Option ((Option (Int32 × Int32))) :=
  if (T 7 0) = 0 then
  (
    some (none)
  )
  else
  (
    bd (f0_oilOfLamps N T) fun v1 =>
    some (some (v1, T 7 0))
  )
set_option maxHeartbeats 4000000 in
set_option maxRecDepth 100000 in
theorem c2_mean {l : Launch} {D : va_G} {y : Nat → ClassId} {aH : Nat} {aG aN aF aT : Nat → Nat} {G : St} {N : St} {F : St} {T : St} {r : (Option (Int32 × Int32))} (hf : f2_mean G N F T = some r) : xMd l yX2_mean wsX2_mean 1 23 0 0 D (xT y) [.ref aH] (hC aH aN aF aT aG ++ (gC y aG G ++ (nC y aN N ++ (nC y aF F ++ tC y aT T)))) (fun (r' : UInt64) (_ : Unit) => mval r r') (fun _ : Unit => hC aH aN aF aT aG ++ (gC y aG G ++ (nC y aN N ++ (nC y aF F ++ tC y aT T)))) := by
  refine xMd_of (cc := cX2_mean) (nL := 1) (ret := (some .double)) [(0, .ref aH)] (by decide) rfl (Nat.le_of_ble_eq_true rfl) rfl ?_
  intro p e s m args below meth c A C hd0
  have C : xC p (s.setDrawn s.drawn) m args meth c D A cX2_mean RX2 1 wsX2_mean (xT y) (some .double) := C
  unfold f2_mean at hf
  refine x_aload_n (q := 1) C 0 dX2_mean_0 rfl rfl rfl ?_
  refine x_get (q := 4) C 0 dX2_mean_1 ((oX2 aH aN aF aT aG).L) rfl iuX2_mean_X2 flX2_mean_12 rfl (by decide) rfl rfl ?_
  refine x_get (q := 7) C 7 dX2_mean_4 (((((oX1 y aT T).R).R).R).R) rfl iuX2_mean_X1 flX2_mean_63 rfl (by decide) rfl rfl ?_
  refine x_if_ne (t := 12) (q := 10) C dX2_mean_7 (by decide) rfl (fun hc => ?_) (fun hc => ?_)
  · have hf := (if_neg hc).symm.trans hf
    refine x_aload_n (q := 13) C 0 dX2_mean_12 rfl rfl rfl ?_
    refine x_get (q := 16) C 1 dX2_mean_13 ((oX2 aH aN aF aT aG).L) rfl iuX2_mean_X2 flX2_mean_19 rfl (by decide) rfl rfl ?_
    refine x_aload_n (q := 17) C 0 dX2_mean_16 rfl rfl rfl ?_
    refine x_get (q := 20) C 0 dX2_mean_17 ((oX2 aH aN aF aT aG).L) rfl iuX2_mean_X2 flX2_mean_12 rfl (by decide) rfl rfl ?_
    obtain ⟨v1, hcal2, hf⟩ := bd_some hf
    refine x_callVi (q := 23) C (c0_oilOfLamps (l := l) (D := D) (y := y) (aN := aN) (aT := aT) hcal2) yi_X0_oilOfLamps gX2_mean_X0_oilOfLamps rfl ((oX0 y aN N).L) rfl ⟨(Nat.le_of_ble_eq_true rfl), (Nat.le_of_ble_eq_true rfl)⟩ dX2_mean_20 (pm5_24 _ _ _ _ _) rfl rfl (Nat.le_of_ble_eq_true rfl) ⟨Nat.le_of_ble_eq_true rfl, Nat.le_of_ble_eq_true rfl⟩ rfl ?_
    intro rr3 uu hrr
    have hrr : v1 = rr3 := Eq.symm hrr
    subst hrr
    refine x_perm (ws' := hC aH aN aF aT aG ++ (gC y aG G ++ (nC y aN N ++ (nC y aF F ++ tC y aT T)))) (pm5_24 _ _ _ _ _).symm ?_
    refine x_i2d (q := 24) C dX2_mean_23 rfl ?_
    refine x_aload_n (q := 25) C 0 dX2_mean_24 rfl rfl rfl ?_
    refine x_get (q := 28) C 0 dX2_mean_25 ((oX2 aH aN aF aT aG).L) rfl iuX2_mean_X2 flX2_mean_12 rfl (by decide) rfl rfl ?_
    refine x_get (q := 31) C 7 dX2_mean_28 (((((oX1 y aT T).R).R).R).R) rfl iuX2_mean_X1 flX2_mean_63 rfl (by decide) rfl rfl ?_
    refine x_i2d (q := 32) C dX2_mean_31 rfl ?_
    refine x_ddiv (q := 33) hd0 C dX2_mean_32 rfl (fun rd d1 hal hd0 C => ?_)
    have hf := Option.some.inj hf
    exact x_dret () hd0 C dX2_mean_33 rfl (by rw [← hf]; exact hal) rfl (Nat.le_of_ble_eq_true rfl) (Nat.le_of_ble_eq_true rfl)
  · have hf := (if_pos hc).symm.trans hf
    refine x_dconst0 (q := 11) C dX2_mean_10 rfl ?_
    have hf := Option.some.inj hf
    exact x_dret () hd0 C dX2_mean_11 rfl (by rw [← hf]; exact rfl) rfl (Nat.le_of_ble_eq_true rfl) (Nat.le_of_ble_eq_true rfl)
