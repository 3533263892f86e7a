/-! ROWS THAT GROW: the sim's 'more', for ints and for rows -/
def grw (f : Nat → Int32) (n : Nat) (x : Int32) : Nat → Int32 := upd (fun j => if j < n then f j else 0) n x
def upA (a : Nat → Nat) (k v : Nat) : Nat → Nat := fun k' => if k' = k then v else a k'
theorem upA_eq {a : Nat → Nat} {k v : Nat} : upA a k v k = v := if_pos rfl
theorem upA_ne {a : Nat → Nat} {k v k' : Nat} (h : k' ≠ k) : upA a k v k' = a k' := if_neg h
theorem grw_step {f : Nat → Int32} {i : Nat} : upd (fun j => if j < i then f j else 0) i (f i) = (fun j => if j < i + 1 then f j else 0) := by
  funext j
  unfold upd
  by_cases h : j = i
  · subst h; simp
  · dsimp only
    by_cases h2 : j < i
    · rw [if_neg h, if_pos h2, if_pos (by omega)]
    · rw [if_neg h, if_neg h2, if_neg (by omega)]
theorem vup_step {f : Nat → Option Nat} {i : Nat} {r : Nat} (hr : f i = some r) : va_up (fun j => if j < i then f j else none) i (some r) = (fun j => if j < i + 1 then f j else none) := by
  funext j
  unfold va_up
  by_cases h : j = i
  · subst h; simp [hr]
  · dsimp only
    by_cases h2 : j < i
    · rw [if_neg h, if_pos h2, if_pos (by omega)]
    · rw [if_neg h, if_neg h2, if_neg (by omega)]
theorem knX3_more : Cond.arrayClass .int ∈ wsX3_more := by decide +kernel
theorem clX3_more_ : Cond.classLink RX3 13 "[I" ∈ wsX3_more_ := by decide +kernel
theorem yi_X3_more : xY yX3_more wsX3_more cX3_more 4 (some (.array .int)) 2 := ⟨⟨_, rfl⟩, by decide +kernel, by decide +kernel, by decide +kernel⟩
theorem yi_X3_more_ : xY yX3_more_ wsX3_more_ cX3_more_ 4 (some (.array (.array .int))) 2 := ⟨⟨_, rfl⟩, by decide +kernel, by decide +kernel, by decide +kernel⟩
set_option maxHeartbeats 4000000 in
theorem w5_more_L9 {p : Program} {l : Launch} {e : Env} {s : State} {m : MethodId} {args : Array Value} {below : List Frame} {meth : Method} {c : Code} {D : va_G} {A : Nat → Prop} {y : Nat → ClassId} {W : va_W} {a b n : Nat} {f : Nat → Int32} {G : (Nat → Int32) → va_W} {x : Int32} (C : xC p s m args meth c D A cX3_more RX3 4 wsX3_more (xT y) (some (.array .int))) (hA : xA W a (y 0) n f G) (hn : n < 32) : ∀ (fu i : Nat), i ≤ n → n - i < fu → xV p l e { frames := 0, cells := 1, slots := 33, locals := 0 } s m args below meth c D A (xQr D (xT y) A (fun (_ : Unit) => True) (fun _ r => W ++ zC y r (n + 1) (grw f n x)) 1 33 below args s) 4 (W ++ zC y b (n + 1) (fun j => if j < i then f j else 0)) 1 33 [(0, .ref a), (1, .int x), (2, .ref b), (3, .int (Int32.ofNat i))] 9 [] := by
  intro fu
  induction fu with
  | zero => intro i _ h; omega
  | succ fu ih =>
    intro i hi hf
    refine x_iload_n (q := 10) C 3 dX3_more_9 rfl rfl rfl ?_
    refine x_aload_n (q := 11) C 0 dX3_more_10 rfl rfl rfl ?_
    refine x_alen (q := 12) (v := Int32.ofNat n) C 0 dX3_more_11 hA.L rfl rfl rfl ?_
    refine x_icmp_ge (t := 27) (q := 15) C dX3_more_12 (by decide) rfl (fun hc => ?_) (fun hc => ?_)
    · rw [z_le (by omega) (by omega)] at hc
      have e : i = n := by omega
      subst e
      refine x_aload_n (q := 28) C 2 dX3_more_27 rfl rfl rfl ?_
      refine x_aload_n (q := 29) C 0 dX3_more_28 rfl rfl rfl ?_
      refine x_alen (q := 30) (v := Int32.ofNat i) C 0 dX3_more_29 hA.L rfl rfl rfl ?_
      refine x_iload_n (q := 31) C 1 dX3_more_30 rfl rfl rfl ?_
      refine x_iast (q := 32) (ws' := W ++ zC y b (i + 1) (grw f i x)) C 0 dX3_more_31 (zA y b (i + 1) (fun j => if j < i then f j else 0)).R rfl (z_xin (by omega) (by omega)) (by rw [z_clamp (by omega)]; rfl) rfl ?_
      refine x_aload_n (q := 33) C 2 dX3_more_32 rfl rfl rfl ?_
      exact x_aret () C dX3_more_33 rfl (Or.inr ⟨_, rfl⟩) trivial rfl (Nat.le_of_ble_eq_true rfl) (Nat.le_of_ble_eq_true rfl)
    · rw [z_le (by omega) (by omega)] at hc
      have hil : i < n := by omega
      refine x_aload_n (q := 16) C 2 dX3_more_15 rfl rfl rfl ?_
      refine x_iload_n (q := 17) C 3 dX3_more_16 rfl rfl rfl ?_
      refine x_aload_n (q := 18) C 0 dX3_more_17 rfl rfl rfl ?_
      refine x_iload_n (q := 19) C 3 dX3_more_18 rfl rfl rfl ?_
      refine x_iald (q := 20) C 0 dX3_more_19 hA.L rfl (z_xin (by omega) hil) rfl ?_
      refine x_iast (q := 21) (ws' := W ++ zC y b (n + 1) (fun j => if j < i + 1 then f j else 0)) C 0 dX3_more_20 (zA y b (n + 1) (fun j => if j < i then f j else 0)).R rfl (z_xin (by omega) (by omega)) (by rw [z_clamp (by omega), grw_step]) rfl ?_
      refine x_iinc (q := 24) C 3 (Int32.ofNat (i + 1)) [1, 2, 3, 0] [(0, .ref a), (1, .int x), (2, .ref b), (3, .int (Int32.ofNat (i + 1)))] dX3_more_21 rfl z_s1 (by decide) rfl rfl ?_
      refine x_goto (t := 9) C dX3_more_24 (by decide) ?_
      exact ih (i + 1) (by omega) (by omega)
set_option maxHeartbeats 4000000 in
theorem c5_more {l : Launch} {D : va_G} {y : Nat → ClassId} {W : va_W} {a n : Nat} {f : Nat → Int32} {G : (Nat → Int32) → va_W} {x : Int32} (hA : xA W a (y 0) n f G) (hn : n < 32) : xMr l yX3_more wsX3_more 0 0 1 33 D (xT y) [.ref a, .int x] W (fun (_ : Unit) => True) (fun _ r => W ++ zC y r (n + 1) (grw f n x)) := by
  refine xMr_of (cc := cX3_more) (nL := 4) (ret := (some (.array .int))) [(0, .ref a), (1, .int x)] (by decide) rfl (Nat.le_of_ble_eq_true rfl) rfl ?_
  intro p e s m args below meth c A C hin
  have C : xC p s m args meth c D A cX3_more RX3 4 wsX3_more (xT y) (some (.array .int)) := C
  refine x_aload_n (q := 1) C 0 dX3_more_0 rfl rfl rfl ?_
  refine x_alen (q := 2) (v := Int32.ofNat n) C 0 dX3_more_1 hA rfl rfl rfl ?_
  refine x_iconst (v := 1) (q := 3) C dX3_more_2 rfl rfl ?_
  refine x_iadd (q := 4) C dX3_more_3 rfl ?_
  refine x_topi (v := Int32.ofNat (n + 1)) z_s1.symm ?_
  refine x_newa (q := 6) C (n + 1) dX3_more_4 knX3_more rfl (z_nneg (by omega)) (z_clamp (by omega)) (by omega) (Nat.le_of_ble_eq_true rfl) (by show 0 + (n + 1) ≤ 33; omega) rfl (fun b => ?_)
  refine x_widen (k' := 1) (n' := 33) (Nat.le_of_ble_eq_true rfl) (by omega) ?_
  refine x_astore_n (q := 7) C [1, 2, 0] [(0, .ref a), (1, .int x), (2, .ref b)] dX3_more_6 rfl (by decide) rfl rfl ?_
  refine x_iconst (v := Int32.ofNat 0) (q := 8) C dX3_more_7 rfl rfl ?_
  refine x_istore_n (q := 9) C [1, 2, 3, 0] [(0, .ref a), (1, .int x), (2, .ref b), (3, .int (Int32.ofNat 0))] dX3_more_8 rfl (by decide) rfl rfl ?_
  refine x_world (ws' := W ++ zC y b (n + 1) (fun j => if j < 0 then f j else 0)) (by unfold zC; simp) ?_
  exact w5_more_L9 C hA hn (n + 1) 0 (by omega) (by omega)
def isI (y : Nat → ClassId) (W : va_W) (r : Nat) : Prop := ∃ (n : Nat) (f : Nat → Int32) (G : (Nat → Int32) → va_W), xA W r (y 0) n f G
theorem isI.L {y : Nat → ClassId} {W V : va_W} {r : Nat} (h : isI y W r) : isI y (W ++ V) r := by
  obtain ⟨n, f, G, h⟩ := h
  exact ⟨n, f, _, h.L⟩
theorem isI.R {y : Nat → ClassId} {W V : va_W} {r : Nat} (h : isI y W r) : isI y (V ++ W) r := by
  obtain ⟨n, f, G, h⟩ := h
  exact ⟨n, f, _, h.R⟩
def rfC (y : Nat → ClassId) (b n : Nat) (f : Nat → Option Nat) : va_W := [(b, .inl (y 2, n, .inr (.inr (.inr (.inr f)))))]
theorem rfC_s (y : Nat → ClassId) (b n : Nat) (f : Nat → Option Nat) : xRs (rfC y b n f) b (y 2) n f (fun f' => rfC y b n f') := ⟨0, rfl, fun _ => rfl⟩
set_option maxHeartbeats 4000000 in
theorem w5_more__L10 {p : Program} {l : Launch} {e : Env} {s : State} {m : MethodId} {args : Array Value} {below : List Frame} {meth : Method} {c : Code} {D : va_G} {A : Nat → Prop} {y : Nat → ClassId} {W : va_W} {a b v n : Nat} {f : Nat → Option Nat} (C : xC p s m args meth c D A cX3_more_ RX3 4 wsX3_more_ (xT y) (some (.array (.array .int)))) (hJ : xJ2 s) (hA : xR W a (y 2) n f) (hf : ∀ i, i < n → ∃ r, f i = some r ∧ isI y W r) (hv : isI y W v) (hn : n < 32) : ∀ (fu i : Nat), i ≤ n → n - i < fu → xV p l e { frames := 0, cells := 1, slots := 33, locals := 0 } s m args below meth c D A (xQr D (xT y) A (fun (_ : Unit) => True) (fun _ r => W ++ rfC y r (n + 1) (va_up (fun j => if j < n then f j else none) n (some v))) 1 33 below args s) 4 (W ++ rfC y b (n + 1) (fun j => if j < i then f j else none)) 1 33 [(0, .ref a), (1, .ref v), (2, .ref b), (3, .int (Int32.ofNat i))] 10 [] := by
  intro fu
  induction fu with
  | zero => intro i _ h; omega
  | succ fu ih =>
    intro i hi hfu
    refine x_iload_n (q := 11) C 3 dX3_more__10 rfl rfl rfl ?_
    refine x_aload_n (q := 12) C 0 dX3_more__11 rfl rfl rfl ?_
    refine x_alenr (q := 13) C 2 dX3_more__12 hA.L rfl rfl ?_
    refine x_icmp_ge (t := 28) (q := 16) C dX3_more__13 (by decide) rfl (fun hc => ?_) (fun hc => ?_)
    · rw [z_le (by omega) (by omega)] at hc
      have e : i = n := by omega
      subst e
      refine x_aload_n (q := 29) C 2 dX3_more__28 rfl rfl rfl ?_
      refine x_aload_n (q := 30) C 0 dX3_more__29 rfl rfl rfl ?_
      refine x_alenr (q := 31) C 2 dX3_more__30 hA.L rfl rfl ?_
      refine x_aload_n (q := 32) C 1 dX3_more__31 rfl rfl rfl ?_
      obtain ⟨n1, f1, G1, hv1⟩ := hv
      refine x_aast (q := 33) (ws' := W ++ rfC y b (i + 1) (va_up (fun j => if j < i then f j else none) i (some v))) C hJ dX3_more__32 (rfC_s y b (i + 1) (fun j => if j < i then f j else none)).R hv1.L rfl rfl (z_xin (by omega) (by omega)) (by rw [z_clamp (by omega)]) rfl ?_
      refine x_aload_n (q := 34) C 2 dX3_more__33 rfl rfl rfl ?_
      exact x_aret () C dX3_more__34 rfl (Or.inr ⟨_, rfl⟩) trivial rfl (Nat.le_of_ble_eq_true rfl) (Nat.le_of_ble_eq_true rfl)
    · rw [z_le (by omega) (by omega)] at hc
      have hil : i < n := by omega
      obtain ⟨r, hr, n1, f1, G1, hr1⟩ := hf i hil
      refine x_aload_n (q := 17) C 2 dX3_more__16 rfl rfl rfl ?_
      refine x_iload_n (q := 18) C 3 dX3_more__17 rfl rfl rfl ?_
      refine x_aload_n (q := 19) C 0 dX3_more__18 rfl rfl rfl ?_
      refine x_iload_n (q := 20) C 3 dX3_more__19 rfl rfl rfl ?_
      refine x_aald (q := 21) (b := r) C 2 dX3_more__20 hA.L rfl rfl (z_xin (by omega) hil) (by rw [z_clamp (by omega)]; exact hr) rfl ?_
      refine x_aast (q := 22) (ws' := W ++ rfC y b (n + 1) (fun j => if j < i + 1 then f j else none)) C hJ dX3_more__21 (rfC_s y b (n + 1) (fun j => if j < i then f j else none)).R hr1.L rfl rfl (z_xin (by omega) (by omega)) (by rw [z_clamp (by omega), vup_step hr]) rfl ?_
      refine x_iinc (q := 25) C 3 (Int32.ofNat (i + 1)) [1, 2, 3, 0] [(0, .ref a), (1, .ref v), (2, .ref b), (3, .int (Int32.ofNat (i + 1)))] dX3_more__22 rfl z_s1 (by decide) rfl rfl ?_
      refine x_goto (t := 10) C dX3_more__25 (by decide) ?_
      exact ih (i + 1) (by omega) (by omega)
set_option maxHeartbeats 4000000 in
theorem c5_more_ {l : Launch} {D : va_G} {y : Nat → ClassId} {W : va_W} {a v n : Nat} {f : Nat → Option Nat} (hA : xR W a (y 2) n f) (hf : ∀ i, i < n → ∃ r, f i = some r ∧ isI y W r) (hv : isI y W v) (hn : n < 32) : xMJr l yX3_more_ wsX3_more_ 0 0 1 33 D (xT y) [.ref a, .ref v] W (fun (_ : Unit) => True) (fun _ r => W ++ rfC y r (n + 1) (va_up (fun j => if j < n then f j else none) n (some v))) := by
  refine xMJr_of (cc := cX3_more_) (nL := 4) (ret := (some (.array (.array .int)))) [(0, .ref a), (1, .ref v)] (by decide) rfl (Nat.le_of_ble_eq_true rfl) rfl ?_
  intro p e s m args below meth c A C hin hJ
  have C : xC p s m args meth c D A cX3_more_ RX3 4 wsX3_more_ (xT y) (some (.array (.array .int))) := C
  refine x_aload_n (q := 1) C 0 dX3_more__0 rfl rfl rfl ?_
  refine x_alenr (q := 2) C 2 dX3_more__1 hA rfl rfl ?_
  refine x_iconst (v := 1) (q := 3) C dX3_more__2 rfl rfl ?_
  refine x_iadd (q := 4) C dX3_more__3 rfl ?_
  refine x_topi (v := Int32.ofNat (n + 1)) z_s1.symm ?_
  refine x_anewr (q := 7) C hJ (n + 1) dX3_more__4 clX3_more_ rfl (z_nneg (by omega)) (z_clamp (by omega)) (by omega) (Nat.le_of_ble_eq_true rfl) (by show 0 + (n + 1) ≤ 33; omega) rfl (fun b => ?_)
  refine x_widen (k' := 1) (n' := 33) (Nat.le_of_ble_eq_true rfl) (by omega) ?_
  refine x_astore_n (q := 8) C [1, 2, 0] [(0, .ref a), (1, .ref v), (2, .ref b)] dX3_more__7 rfl (by decide) rfl rfl ?_
  refine x_iconst (v := Int32.ofNat 0) (q := 9) C dX3_more__8 rfl rfl ?_
  refine x_istore_n (q := 10) C [1, 2, 3, 0] [(0, .ref a), (1, .ref v), (2, .ref b), (3, .int (Int32.ofNat 0))] dX3_more__9 rfl (by decide) rfl rfl ?_
  refine x_world (ws' := W ++ rfC y b (n + 1) (fun j => if j < 0 then f j else none)) (by unfold rfC; simp) ?_
  exact w5_more__L10 C hJ hA hf hv hn (n + 1) 0 (by omega) (by omega)
