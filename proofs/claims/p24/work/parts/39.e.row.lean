/-! A ROUND GROWS; a cell of the script -/
theorem pm_set {α : Type} : ∀ (l : List α) (i : Nat) (old new : α), l[i]? = some old → (l ++ [new]).Perm (l.set i new ++ [old]) := by
  intro l
  induction l with
  | nil => intro i old new h; simp at h
  | cons z l ih =>
    intro i old new h
    match i, h with
    | 0, h =>
      simp only [List.getElem?_cons_zero, Option.some.injEq] at h
      subst h
      simp only [List.set_cons_zero, List.cons_append]
      classical
      exact List.perm_iff_count.mpr fun q => by simp only [List.count_append, List.count_cons, List.count_nil]; omega
    | i + 1, h =>
      simp only [List.getElem?_cons_succ] at h
      simp only [List.set_cons_succ, List.cons_append]
      exact (ih i old new h).cons z
theorem pmG6 {α : Type} (X R10 R11 R12 R13 R13' R14 : List α) (o h w a b c d d' e n z : α) (hp : (R13 ++ [n]).Perm (R13' ++ [z])) : ((X ++ (o :: h :: w :: a :: b :: c :: d :: e :: (R10 ++ (R11 ++ (R12 ++ (R13 ++ R14)))))) ++ [n]).Perm ((X ++ (o :: h :: w :: a :: b :: c :: d :: e :: (R10 ++ (R11 ++ (R12 ++ (R13' ++ R14)))))) ++ [z]) := by
  classical
  refine List.perm_iff_count.mpr fun q => ?_
  have := List.perm_iff_count.mp hp q
  simp only [List.count_append, List.count_cons, List.count_nil] at this ⊢
  omega
section XGROW
variable {p : Program} {l : Launch} {e : Env} {R : Room} {s : State} {m : MethodId} {args : Array Value} {below : List Frame} {meth : Method} {c : Code} {Q : State → Prop}
variable {D : va_G} {A : Nat → Prop} {cc : ByteArray} {own : String} {nL : Nat} {Ts : List Cond} {y : Nat → ClassId} {ret : Option FieldType}
variable {ws ws' X : va_W} {k n pc q : Nat} {L L' : List (Nat × Value)} {st : List Value} {bS : Nat} {aS Y : Nat → Nat} {S : St}
theorem sC_growRow {i v : Nat} {g : Nat → Int32} (hi : i < Y 5) : ((X ++ sC y bS aS Y S).set (X.length + 6) (aS 5, .inl (y 2, Y 5, .inr (.inr (.inr (.inr (va_up (fun j => if j < Y 5 then some (aS (rk 13 j)) else none) i (some v))))))) ++ zC y v (Y (rk 13 i) + 1) g).Perm ((X ++ sC y bS (upA aS (rk 13 i) v) (upA Y (rk 13 i) (Y (rk 13 i) + 1)) (up1 S (rk 13 i) g)) ++ zC y (aS (rk 13 i)) (Y (rk 13 i)) (S (rk 13 i))) := by
  have e1 : ∀ k, k ≠ rk 13 i → upA aS (rk 13 i) v k = aS k := fun k h => upA_ne h
  have e2 : ∀ k, k ≠ rk 13 i → upA Y (rk 13 i) (Y (rk 13 i) + 1) k = Y k := fun k h => upA_ne h
  have e3 : ∀ k, k ≠ rk 13 i → up1 S (rk 13 i) g k = S k := fun k h => up1_ne h
  have r1 : ∀ g2 n (w w' : Nat → Nat), g2 < 16 → g2 ≠ 13 → (∀ i, w' i = w i) → rowsC y (upA aS (rk 13 i) v) g2 n w' (up1 S (rk 13 i) g) = rowsC y aS g2 n w S := fun g2 n w w' hg2 hg3 hw => rowsC_cg (fun j _ => e1 _ (fun h => hg3 (rk_inj hg2 (by omega) h).1)) (fun j _ => hw j) (fun j _ => e3 _ (fun h => hg3 (rk_inj hg2 (by omega) h).1))
  have f1 : ∀ b n g2, g2 < 16 → g2 ≠ 13 → refC y b n (fun j => upA aS (rk 13 i) v (rk g2 j)) = refC y b n (fun j => aS (rk g2 j)) := fun b n g2 hg2 hg3 => refC_cg fun j => e1 _ (fun h => hg3 (rk_inj hg2 (by omega) h).1)
  have r2 : rowsC y (upA aS (rk 13 i) v) 13 (Y 5) (fun j => upA Y (rk 13 i) (Y (rk 13 i) + 1) (rk 13 j)) (up1 S (rk 13 i) g) = (rowsC y aS 13 (Y 5) (fun j => Y (rk 13 j)) S).set i (v, .inl (y 0, Y (rk 13 i) + 1, .inl g)) := by
    apply List.ext_getElem
    · simp [rowsC]
    · intro j h1 h2
      simp only [rowsC, List.getElem_set, List.getElem_map, List.getElem_range]
      by_cases hj : i = j
      · subst hj
        rw [if_pos rfl, up1_eq, upA_eq, upA_eq]
      · have hne : rk 13 j ≠ rk 13 i := fun h => hj (rk_inj (by omega) (by omega) h).2.symm
        rw [if_neg hj, e1 _ hne, e2 _ hne, e3 _ hne]
  have f2 : ((aS 5, .inl (y 2, Y 5, .inr (.inr (.inr (.inr (va_up (fun j => if j < Y 5 then some (aS (rk 13 j)) else none) i (some v))))))) : Nat × va_E) = refC y (aS 5) (Y 5) (fun j => upA aS (rk 13 i) v (rk 13 j)) := by
    unfold refC
    have : (va_up (fun j => if j < Y 5 then some (aS (rk 13 j)) else none) i (some v)) = (fun j => if j < Y 5 then some (upA aS (rk 13 i) v (rk 13 j)) else none) := by
      funext j
      unfold va_up
      by_cases h : j = i
      · subst h; rw [if_pos rfl, if_pos hi, upA_eq]
      · have hne : rk 13 j ≠ rk 13 i := fun h2 => h (rk_inj (by omega) (by omega) h2).2
        rw [if_neg h]
        dsimp only
        rw [e1 _ hne]
    rw [this]
  rw [f2]
  unfold sC sHd sF
  rw [e1 1 (by unfold rk; omega), e1 2 (by unfold rk; omega), e1 3 (by unfold rk; omega), e1 4 (by unfold rk; omega), e1 5 (by unfold rk; omega), e1 6 (by unfold rk; omega), e1 15 (by unfold rk; omega), e2 1 (by unfold rk; omega), e2 2 (by unfold rk; omega), e2 3 (by unfold rk; omega), e2 4 (by unfold rk; omega), e2 5 (by unfold rk; omega), e3 1 (by unfold rk; omega), e3 6 (by unfold rk; omega), e3 7 (by unfold rk; omega), e3 8 (by unfold rk; omega), e3 9 (by unfold rk; omega)]
  rw [r2, r1 10 _ _ _ (by omega) (by omega) (fun _ => rfl), r1 11 _ _ _ (by omega) (by omega) (fun _ => rfl), r1 12 _ _ _ (by omega) (by omega) (fun _ => rfl), r1 14 _ _ _ (by omega) (by omega) (fun _ => rfl), f1 _ _ 10 (by omega) (by omega), f1 _ _ 11 (by omega) (by omega), f1 _ _ 12 (by omega) (by omega), f1 _ _ 14 (by omega) (by omega)]
  rw [List.set_append_right _ _ (Nat.le_add_right _ _), Nat.add_sub_cancel_left]
  simp only [List.cons_append, List.nil_append, List.set_cons_zero, List.set_cons_succ, zC]
  have hold : (rowsC y aS 13 (Y 5) (fun j => Y (rk 13 j)) S)[i]? = some (aS (rk 13 i), .inl (y 0, Y (rk 13 i), .inl (S (rk 13 i)))) := by simp [rowsC, hi]
  have hp := pm_set _ i _ (v, .inl (y 0, Y (rk 13 i) + 1, .inl g)) hold
  generalize rowsC y aS 13 (Y 5) (fun j => Y (rk 13 j)) S = R13 at hp ⊢
  generalize R13.set i (v, .inl (y 0, Y (rk 13 i) + 1, .inl g)) = R13' at hp ⊢
  exact pmG6 X _ _ _ R13 R13' _ _ _ _ _ _ _ _ (aS 5, .inr (0, [])) _ _ _ hp
set_option maxHeartbeats 4000000 in
theorem x_growRow (C : xC p s m args meth c D A cc own nL Ts (xT y) ret) (hJ : xJ2 s) {x i : Int32} {idx : Nat} (hi : xin i (Y 5) = true) (hn : Y (rk 13 i.toNatClampNeg) < 32) (hG : GoodIn Ts (va_wsS own idx yX3_more wsX3_more)) (d1 : decode cc pc = .ok (.invokestatic idx, 3)) (d2 : decode cc (pc + 3) = .ok (.aastore, 1)) (hR : 1 ≤ R.frames ∧ 23 ≤ R.locals) (hW : (st.map fun v => v.category).sum ≤ 6) (hf : k + 1 ≤ R.cells ∧ n + 33 ≤ R.slots) (hq : pc + 4 = q) (kk : ∀ v, xV p l e R s m args below meth c D A Q nL (X ++ sC y bS (upA aS (rk 13 i.toNatClampNeg) v) (upA Y (rk 13 i.toNatClampNeg) (Y (rk 13 i.toNatClampNeg) + 1)) (up1 S (rk 13 i.toNatClampNeg) (grw (S (rk 13 i.toNatClampNeg)) (Y (rk 13 i.toNatClampNeg)) x))) (k + 1) (n + 33) L q st) : xV p l e R s m args below meth c D A Q nL (X ++ sC y bS aS Y S) k n L pc (.int x :: .ref (aS (rk 13 i.toNatClampNeg)) :: .int i :: .ref (aS 5) :: st) := by
  refine x_callSr (q := pc + 3) (As := [.ref (aS (rk 13 i.toNatClampNeg)), .int x]) (rest := .int i :: .ref (aS 5) :: st) (Wr := []) C (c5_more (l := l) (D := D) (y := y) (W := X ++ sC y bS aS Y S) (x := x) (aX3_r4 y bS aS Y S (xin_lt hi)).R hn) yi_X3_more hG ⟨by have := hR.1; omega, by have := hR.2; omega⟩ d1 pm_nil rfl rfl (by simp only [List.map_cons, List.sum_cons]; show 1 + (1 + _) ≤ 8; omega) hf rfl ?_
  intro u v _
  refine x_aast (q := q) C hJ d2 (a := aS 5) (v := v) (n0 := Y 5) (f := fun j => if j < Y 5 then some (aS (rk 13 j)) else none) (G := fun f' => (X ++ sC y bS aS Y S).set (X.length + 6) (aS 5, .inl (y 2, Y 5, .inr (.inr (.inr (.inr f'))))) ++ zC y v (Y (rk 13 i.toNatClampNeg) + 1) (grw (S (rk 13 i.toNatClampNeg)) (Y (rk 13 i.toNatClampNeg)) x)) ⟨X.length + 6, ?_, fun f' => ?_⟩ ((zA y v (Y (rk 13 i.toNatClampNeg) + 1) (grw (S (rk 13 i.toNatClampNeg)) (Y (rk 13 i.toNatClampNeg)) x)).R.L) rfl rfl hi rfl (by omega) ?_
  · rw [List.append_nil, List.append_assoc, List.getElem?_append_right (Nat.le_add_right _ _), Nat.add_sub_cancel_left]; rfl
  · rw [List.append_nil, List.set_append_left _ _ (by simp [sC, sHd])]
  · exact x_perm (sC_growRow (xin_lt hi)) (x_drop (kk v))
end XGROW
/-! below, and a cell -/
def lcell (xs : Nat → Int32) (Ln : Nat) (k : Int32) : Option Int32 := if Int32.ofNat Ln ≤ k then some (790386105 * (k + 3)) else gd (xin k Ln) (some (xs k.toNatClampNeg))
theorem yi_L_cell : xY yL_cell wsL_cell cL_cell 2 (some .int) 2 := ⟨⟨_, rfl⟩, by decide +kernel, by decide +kernel, by decide +kernel⟩
theorem kL_cell_8 : Cond.constant RL 8 (790386105) ∈ wsL_cell := by decide +kernel
set_option maxHeartbeats 4000000 in
theorem c6_cell {l : Launch} {D : va_G} {y : Nat → ClassId} {b Ln : Nat} {xs : Nat → Int32} {k r : Int32} (hf : lcell xs Ln k = some r) : xMXi l yL_cell wsL_cell 0 0 0 0 D (xT y) [.ref b, .int k] [] b Ln xs (fun (r' : Int32) (_ : Unit) => r' = r) (fun _ : Unit => []) := by
  refine xMXi_of (cc := cL_cell) (nL := 2) (ret := (some .int)) [(0, .ref b), (1, .int k)] (by decide) rfl (Nat.le_of_ble_eq_true rfl) rfl ?_
  intro p e s m args below meth c A C hJ hX
  have C : xC p s m args meth c D A cL_cell RL 2 wsL_cell (xT y) (some .int) := C
  unfold lcell at hf
  refine x_iload_n (q := 1) C 1 dL_cell_0 rfl rfl rfl ?_
  refine x_aload_n (q := 2) C 0 dL_cell_1 rfl rfl rfl ?_
  refine x_slen (q := 3) C hX dL_cell_2 rfl ?_
  refine x_icmp_ge (t := 12) (q := 6) C dL_cell_3 (by decide) rfl (fun hc => ?_) (fun hc => ?_)
  · have hf := (if_pos hc).symm.trans hf
    have hf := Option.some.inj hf
    refine x_ldc (q := 14) C dL_cell_12 kL_cell_8 rfl ?_
    refine x_iload_n (q := 15) C 1 dL_cell_14 rfl rfl rfl ?_
    refine x_iconst (v := 3) (q := 16) C dL_cell_15 rfl rfl ?_
    refine x_iadd (q := 17) C dL_cell_16 rfl ?_
    refine x_imul (q := 18) C dL_cell_17 rfl ?_
    exact x_iret () C dL_cell_18 rfl hf rfl (Nat.le_of_ble_eq_true rfl) (Nat.le_of_ble_eq_true rfl)
  · have hf := (if_neg hc).symm.trans hf
    obtain ⟨hb, hf⟩ := gd_some hf
    have hf := Option.some.inj hf
    refine x_aload_n (q := 7) C 0 dL_cell_6 rfl rfl rfl ?_
    refine x_iload_n (q := 8) C 1 dL_cell_7 rfl rfl rfl ?_
    refine x_sld (q := 9) C hX (xin_of hb) dL_cell_8 rfl ?_
    refine x_goto (t := 18) C dL_cell_9 (by decide) ?_
    exact x_iret () C dL_cell_18 rfl hf rfl (Nat.le_of_ble_eq_true rfl) (Nat.le_of_ble_eq_true rfl)
def lbelow (v n : Int32) : Option Int32 := gd (decide (¬ n = 0)) (some ((v &&& 2147483647) - (v &&& 2147483647) / n * n))
theorem kL_below_7 : Cond.constant RL 7 (2147483647) ∈ wsL_below := by decide +kernel
theorem yi_L_below : xY yL_below wsL_below cL_below 2 (some .int) 2 := ⟨⟨_, rfl⟩, by decide +kernel, by decide +kernel, by decide +kernel⟩
set_option maxHeartbeats 4000000 in
theorem c6_below {l : Launch} {D : va_G} {y : Nat → ClassId} {v n r : Int32} (hf : lbelow v n = some r) : xMi l yL_below wsL_below 0 0 0 0 D (xT y) [.int v, .int n] [] (fun (r' : Int32) (_ : Unit) => r' = r) (fun _ : Unit => []) := by
  refine xMi_of (cc := cL_below) (nL := 2) (ret := (some .int)) [(0, .int v), (1, .int n)] (by decide) rfl (Nat.le_of_ble_eq_true rfl) rfl ?_
  intro p e s m args below meth c A C hin
  have C : xC p s m args meth c D A cL_below RL 2 wsL_below (xT y) (some .int) := C
  unfold lbelow at hf
  obtain ⟨hb, hf⟩ := gd_some hf
  have hf := Option.some.inj hf
  refine x_iload_n (q := 1) C 0 dL_below_0 rfl rfl rfl ?_
  refine x_ldc (q := 3) C dL_below_1 kL_below_7 rfl ?_
  refine x_iand (q := 4) C dL_below_3 rfl ?_
  refine x_iload_n (q := 5) C 1 dL_below_4 rfl rfl rfl ?_
  refine x_irem (q := 6) C dL_below_5 (of_decide_eq_true hb) rfl ?_
  exact x_iret () C dL_below_6 rfl hf rfl (Nat.le_of_ble_eq_true rfl) (Nat.le_of_ble_eq_true rfl)
