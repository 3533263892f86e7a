/-! THE SIM GROWS: sim.f = more(sim.f, ..) over the sim's world -/
theorem rowsC_cg {y : Nat → ClassId} {a a' : Nat → Nat} {g n : Nat} {w w' : Nat → Nat} {S S' : St} (ha : ∀ i, i < n → a' (rk g i) = a (rk g i)) (hw : ∀ i, i < n → w' i = w i) (hS : ∀ i, i < n → S' (rk g i) = S (rk g i)) : rowsC y a' g n w' S' = rowsC y a g n w S := by
  unfold rowsC
  apply List.map_congr_left
  intro i hi
  have hi := List.mem_range.mp hi
  rw [ha i hi, hw i hi, hS i hi]
theorem rowsC_succ {y : Nat → ClassId} {a : Nat → Nat} {g n : Nat} {w : Nat → Nat} {S : St} : rowsC y a g (n + 1) w S = rowsC y a g n w S ++ zC y (a (rk g n)) (w n) (S (rk g n)) := by
  unfold rowsC zC
  rw [List.range_succ, List.map_append]; rfl
theorem refC_up {y : Nat → ClassId} {b n v : Nat} {r r' : Nat → Nat} (h1 : r' n = v) (h2 : ∀ i, i < n → r' i = r i) : rfC y b (n + 1) (va_up (fun j => if j < n then (if j < n then some (r j) else none) else none) n (some v)) = [refC y b (n + 1) r'] := by
  unfold rfC refC
  have : (va_up (fun j => if j < n then (if j < n then some (r j) else none) else none) n (some v)) = (fun i => if i < n + 1 then some (r' i) else none) := by
    funext j
    unfold va_up
    by_cases h : j = n
    · subst h; rw [if_pos rfl, if_pos (by omega), h1]
    · rw [if_neg h]
      dsimp only
      by_cases h3 : j < n
      · rw [if_pos h3, if_pos h3, if_pos (by omega), h2 j h3]
      · rw [if_neg h3, if_neg (by omega)]
  rw [this]
theorem refC_cg {y : Nat → ClassId} {b n : Nat} {r r' : Nat → Nat} (h : ∀ i, r' i = r i) : refC y b n r' = refC y b n r := by
  rw [show r' = r from funext h]
theorem sC_isI {y : Nat → ClassId} {b : Nat} {a Y : Nat → Nat} {S : St} {g n : Nat} (hg : g = 10 ∧ n = Y 2 ∨ g = 11 ∧ n = Y 3 ∨ g = 12 ∧ n = Y 4 ∨ g = 13 ∧ n = Y 5) {i : Nat} (hi : i < n) : isI y (sC y b a Y S) (a (rk g i)) := by
  rcases hg with ⟨rfl, rfl⟩ | ⟨rfl, rfl⟩ | ⟨rfl, rfl⟩ | ⟨rfl, rfl⟩
  · exact ⟨_, _, _, aX3_r1 y b a Y S hi⟩
  · exact ⟨_, _, _, aX3_r2 y b a Y S hi⟩
  · exact ⟨_, _, _, aX3_r3 y b a Y S hi⟩
  · exact ⟨_, _, _, aX3_r4 y b a Y S hi⟩
theorem pmGh {α : Type} (X rows : List α) (o h w a b c d e n : α) : ((X ++ (o :: h :: w :: a :: b :: c :: d :: e :: rows)) ++ [n]).Perm ((X ++ (o :: n :: w :: a :: b :: c :: d :: e :: rows)) ++ [h]) := by
  classical
  exact List.perm_iff_count.mpr fun z => by simp only [List.count_append, List.count_cons, List.count_nil]; omega
theorem pmG2 {α : Type} (X R10 R11 R12 R13 R14 : List α) (o h w a b c d e n z : α) : ((X ++ (o :: h :: w :: a :: b :: c :: d :: e :: (R10 ++ (R11 ++ (R12 ++ (R13 ++ R14)))))) ++ (z :: [n])).Perm ((X ++ (o :: h :: w :: n :: b :: c :: d :: e :: ((R10 ++ [z]) ++ (R11 ++ (R12 ++ (R13 ++ R14)))))) ++ [a]) := by
  classical
  exact List.perm_iff_count.mpr fun z => by simp only [List.count_append, List.count_cons, List.count_nil]; omega
theorem pmG3 {α : Type} (X R10 R11 R12 R13 R14 : List α) (o h w a b c d e n z : α) : ((X ++ (o :: h :: w :: a :: b :: c :: d :: e :: (R10 ++ (R11 ++ (R12 ++ (R13 ++ R14)))))) ++ (z :: [n])).Perm ((X ++ (o :: h :: w :: a :: n :: c :: d :: e :: (R10 ++ ((R11 ++ [z]) ++ (R12 ++ (R13 ++ R14)))))) ++ [b]) := by
  classical
  exact List.perm_iff_count.mpr fun z => by simp only [List.count_append, List.count_cons, List.count_nil]; omega
theorem pmG4 {α : Type} (X R10 R11 R12 R13 R14 : List α) (o h w a b c d e n z : α) : ((X ++ (o :: h :: w :: a :: b :: c :: d :: e :: (R10 ++ (R11 ++ (R12 ++ (R13 ++ R14)))))) ++ (z :: [n])).Perm ((X ++ (o :: h :: w :: a :: b :: n :: d :: e :: (R10 ++ (R11 ++ ((R12 ++ [z]) ++ (R13 ++ R14)))))) ++ [c]) := by
  classical
  exact List.perm_iff_count.mpr fun z => by simp only [List.count_append, List.count_cons, List.count_nil]; omega
theorem pmG5 {α : Type} (X R10 R11 R12 R13 R14 : List α) (o h w a b c d e n z : α) : ((X ++ (o :: h :: w :: a :: b :: c :: d :: e :: (R10 ++ (R11 ++ (R12 ++ (R13 ++ R14)))))) ++ (z :: [n])).Perm ((X ++ (o :: h :: w :: a :: b :: c :: n :: e :: (R10 ++ (R11 ++ (R12 ++ ((R13 ++ [z]) ++ R14)))))) ++ [d]) := by
  classical
  exact List.perm_iff_count.mpr fun z => by simp only [List.count_append, List.count_cons, List.count_nil]; omega
section XGROW
variable {p : Program} {l : Launch} {e : Env} {R : Room} {s : State} {m : MethodId} {args : Array Value} {below : List Frame} {meth : Method} {c : Code} {Q : State → Prop}
variable {D : va_G} {A : Nat → Prop} {cc : ByteArray} {own : String} {nL : Nat} {Ts : List Cond} {y : Nat → ClassId} {ret : Option FieldType}
variable {ws ws' X : va_W} {k n pc q : Nat} {L L' : List (Nat × Value)} {st : List Value} {bS : Nat} {aS Y : Nat → Nat} {S : St}
theorem x_putf (C : xC p s m args meth c D A cc own nL Ts (xT y) ret) {a v index : Nat} {fs : List Value} (f : Nat) {ty : FieldType} (d : decode cc pc = .ok (.putfield index, 3)) (q0 : Nat) (h0 : ws[q0]? = some (a, .inr (3, fs))) (hin : ∀ w ∈ u_ws RX3 TX3 10, w ∈ Ts) (hm : Cond.fieldLink own index RX3 (TX3 f).2.1 (TX3 f).2.2.1 ∈ Ts) (href : (TX3 f).1 = RX3) (hf : f < 10) (hfin : (TX3 f).2.2.2 = false) (hd : parseFieldDescriptor (TX3 f).2.2.1 = some ty) (hn : narrow ty (.ref v) = .ref v) (hfit : fits ty (.ref v) = true) (hl0 : f < fs.length) (hw : ws.set q0 (a, .inr (3, fs.set f (.ref v))) = ws') (hq : pc + 3 = q) (kk : xV p l e R s m args below meth c D A Q nL ws' k n L q st) : xV p l e R s m args below meth c D A Q nL ws k n L pc (.ref v :: .ref a :: st) := by
  intro H locs ls hP hD hS hl
  obtain ⟨hx, hb, -, hown, hts, hK, -⟩ := C
  refine va_put hx hb hts hin tyX3 tyX3_ok nmX3 hown hK hP hD hS q0 h0 rfl f hf (hts _ hm) (fun x h => by rw [← href]; exact h) hfin hd hn hfit hl0 d (fun H1 locs1 hP1 hD1 hS1 => ?_)
  rw [hw] at hP1 hD1
  exact hq ▸ kk H1 locs1 ls hP1 hD1 hS1 hl

theorem sC_growH {v : Nat} {x : Int32} : ((X ++ sC y bS aS Y S).set X.length (bS, .inr (3, (sF aS S).set 0 (.ref v))) ++ zC y v (Y 1 + 1) (grw (S 1) (Y 1) x)).Perm ((X ++ sC y bS (upA aS 1 v) (upA Y 1 (Y 1 + 1)) (up1 S 1 (grw (S 1) (Y 1) x))) ++ zC y (aS 1) (Y 1) (S 1)) := by
  have e1 : ∀ k, k ≠ 1 → upA aS 1 v k = aS k := fun k h => upA_ne h
  have e2 : ∀ k, k ≠ 1 → upA Y 1 (Y 1 + 1) k = Y k := fun k h => upA_ne h
  have e3 : ∀ k, k ≠ 1 → up1 S 1 (grw (S 1) (Y 1) x) k = S k := fun k h => up1_ne h
  have r1 : ∀ g n (w w' : Nat → Nat), 10 ≤ g → (∀ i, w' i = w i) → rowsC y (upA aS 1 v) g n w' (up1 S 1 (grw (S 1) (Y 1) x)) = rowsC y aS g n w S := fun g n w w' hg hw => rowsC_cg (fun i _ => e1 _ (by unfold rk; omega)) (fun i _ => hw i) (fun i _ => e3 _ (by unfold rk; omega))
  have f1 : ∀ b n g, 10 ≤ g → refC y b n (fun i => upA aS 1 v (rk g i)) = refC y b n (fun i => aS (rk g i)) := fun b n g hg => refC_cg fun i => e1 _ (by unfold rk; omega)
  unfold sC sHd sF
  rw [r1 10 _ _ _ (by omega) (fun _ => rfl), r1 11 _ _ _ (by omega) (fun _ => rfl), r1 12 _ _ _ (by omega) (fun _ => rfl), r1 13 _ (fun i => Y (rk 13 i)) _ (by omega) (fun i => e2 _ (by unfold rk; omega)), r1 14 _ _ _ (by omega) (fun _ => rfl), f1 _ _ 10 (by omega), f1 _ _ 11 (by omega), f1 _ _ 12 (by omega), f1 _ _ 13 (by omega), f1 _ _ 14 (by omega)]
  rw [upA_eq, upA_eq, up1_eq, e1 2 (by omega), e1 3 (by omega), e1 4 (by omega), e1 5 (by omega), e1 6 (by omega), e1 15 (by omega), e2 2 (by omega), e2 3 (by omega), e2 4 (by omega), e2 5 (by omega), e3 6 (by omega), e3 7 (by omega), e3 8 (by omega), e3 9 (by omega)]
  rw [List.set_append_right _ _ (Nat.le_refl _), Nat.sub_self]
  simp only [List.cons_append, List.nil_append, List.set_cons_zero, List.set_cons_succ, zC]
  generalize rowsC y aS 10 (Y 2) (fun _ => 3) S ++ (rowsC y aS 11 (Y 3) (fun _ => 8) S ++ (rowsC y aS 12 (Y 4) (fun _ => 9) S ++ (rowsC y aS 13 (Y 5) (fun i => Y (rk 13 i)) S ++ rowsC y aS 14 12 (fun _ => 12) S))) = rows
  exact pmGh X rows _ _ _ _ _ _ _ _ _
set_option maxHeartbeats 4000000 in
theorem x_growH (C : xC p s m args meth c D A cc own nL Ts (xT y) ret) {x : Int32} {idx i2 : Nat} (hn : Y 1 < 32) (hG : GoodIn Ts (va_wsS own idx yX3_more wsX3_more)) (d1 : decode cc pc = .ok (.invokestatic idx, 3)) (d2 : decode cc (pc + 3) = .ok (.putfield i2, 3)) (hin : ∀ w ∈ u_ws RX3 TX3 10, w ∈ Ts) (hm : Cond.fieldLink own i2 RX3 "height" "[I" ∈ Ts) (hR : 1 ≤ R.frames ∧ 23 ≤ R.locals) (hW : (st.map fun v => v.category).sum ≤ 7) (hf : k + 1 ≤ R.cells ∧ n + 33 ≤ R.slots) (hq : pc + 6 = q) (kk : ∀ v, xV p l e R s m args below meth c D A Q nL (X ++ sC y bS (upA aS 1 v) (upA Y 1 (Y 1 + 1)) (up1 S 1 (grw (S 1) (Y 1) x))) (k + 1) (n + 33) L q st) : xV p l e R s m args below meth c D A Q nL (X ++ sC y bS aS Y S) k n L pc (.int x :: .ref (aS 1) :: .ref bS :: st) := by
  refine x_callSr (q := pc + 3) (As := [.ref (aS 1), .int x]) (rest := .ref bS :: st) (Wr := []) C (c5_more (l := l) (D := D) (y := y) (W := X ++ sC y bS aS Y S) (x := x) (aX3_0 y bS aS Y S).R hn) yi_X3_more hG ⟨by have := hR.1; omega, by have := hR.2; omega⟩ d1 pm_nil rfl rfl (by simp only [List.map_cons, List.sum_cons]; show 1 + _ ≤ 8; omega) hf rfl ?_
  intro u v _
  refine x_putf (q := q) C 0 (fs := sF aS S) (ty := .array .int) d2 X.length ((by rw [List.append_nil, List.append_assoc, List.getElem?_append_right (Nat.le_refl _), Nat.sub_self]; rfl)) hin hm rfl (by decide) rfl (by decide +kernel) rfl rfl (by show 0 < 10; omega) rfl (by omega) ?_
  refine x_perm (ws' := (X ++ sC y bS (upA aS 1 v) (upA Y 1 (Y 1 + 1)) (up1 S 1 (grw (S 1) (Y 1) x))) ++ zC y (aS 1) (Y 1) (S 1)) ?_ (x_drop (kk v))
  rw [List.append_nil, List.set_append_left _ _ (by simp [sC, sHd])]
  exact sC_growH

set_option maxHeartbeats 4000000 in
theorem sC_grow2 {v r : Nat} {f : Nat → Int32} : ((X ++ sC y bS aS Y S).set X.length (bS, .inr (3, (sF aS S).set 1 (.ref v))) ++ (zC y r 3 f ++ rfC y v (Y 2 + 1) (va_up (fun j => if j < Y 2 then (if j < Y 2 then some (aS (rk 10 j)) else none) else none) (Y 2) (some r)))).Perm ((X ++ sC y bS (upA (upA aS 2 v) (rk 10 (Y 2)) r) (upA Y 2 (Y 2 + 1)) (up1 S (rk 10 (Y 2)) f)) ++ [refC y (aS 2) (Y 2) (fun i => aS (rk 10 i))]) := by
  have e1 : ∀ k, k ≠ 2 → k ≠ rk 10 (Y 2) → (upA (upA aS 2 v) (rk 10 (Y 2)) r) k = aS k := fun k h h2 => (upA_ne h2).trans (upA_ne h)
  have e2 : ∀ k, k ≠ 2 → (upA Y 2 (Y 2 + 1)) k = Y k := fun k h => upA_ne h
  have e3 : ∀ k, k ≠ rk 10 (Y 2) → (up1 S (rk 10 (Y 2)) f) k = S k := fun k h => up1_ne h
  have r1 : ∀ g n (w w' : Nat → Nat), 10 ≤ g → g < 16 → g ≠ 10 → (∀ i, w' i = w i) → rowsC y (upA (upA aS 2 v) (rk 10 (Y 2)) r) g n w' (up1 S (rk 10 (Y 2)) f) = rowsC y aS g n w S := fun g n w w' hg hg2 hg3 hw => rowsC_cg (fun i _ => e1 _ (by unfold rk; omega) (fun h => hg3 (rk_inj hg2 (by omega) h).1)) (fun i _ => hw i) (fun i _ => e3 _ (fun h => hg3 (rk_inj hg2 (by omega) h).1))
  have f1 : ∀ b n g, 10 ≤ g → g < 16 → g ≠ 10 → refC y b n (fun i => (upA (upA aS 2 v) (rk 10 (Y 2)) r) (rk g i)) = refC y b n (fun i => aS (rk g i)) := fun b n g hg hg2 hg3 => refC_cg fun i => e1 _ (by unfold rk; omega) (fun h => hg3 (rk_inj hg2 (by omega) h).1)
  have r2 : rowsC y (upA (upA aS 2 v) (rk 10 (Y 2)) r) 10 (Y 2 + 1) (fun _ => 3) (up1 S (rk 10 (Y 2)) f) = rowsC y aS 10 (Y 2) (fun _ => 3) S ++ zC y r 3 f := by
    rw [rowsC_succ, upA_eq, up1_eq]
    congr 1
    · exact rowsC_cg (fun i hi => e1 _ (by unfold rk; omega) (fun h => absurd (rk_inj (by omega) (by omega) h).2 (by omega))) (fun i hi => rfl) (fun i hi => e3 _ (fun h => absurd (rk_inj (by omega) (by omega) h).2 (by omega)))

  have f2 : rfC y v (Y 2 + 1) (va_up (fun j => if j < Y 2 then (if j < Y 2 then some (aS (rk 10 j)) else none) else none) (Y 2) (some r)) = [refC y v (Y 2 + 1) (fun i => (upA (upA aS 2 v) (rk 10 (Y 2)) r) (rk 10 i))] := refC_up (r := fun i => aS (rk 10 i)) upA_eq (fun i hi => e1 _ (by unfold rk; omega) (fun h => absurd (rk_inj (by omega) (by omega) h).2 (by omega)))
  have ek : (upA (upA aS 2 v) (rk 10 (Y 2)) r) 2 = v := (upA_ne (by unfold rk; omega)).trans upA_eq
  rw [f2]
  unfold sC sHd sF
  rw [(show (upA Y 2 (Y 2 + 1)) 2 = Y 2 + 1 from upA_eq), r2, r1 11 _ _ _ (by omega) (by omega) (by omega) (fun _ => rfl), r1 12 _ _ _ (by omega) (by omega) (by omega) (fun _ => rfl), r1 13 _ (fun i => Y (rk 13 i)) _ (by omega) (by omega) (by omega) (fun i => e2 _ (by unfold rk; omega)), r1 14 _ _ _ (by omega) (by omega) (by omega) (fun _ => rfl), f1 _ _ 11 (by omega) (by omega) (by omega), f1 _ _ 12 (by omega) (by omega) (by omega), f1 _ _ 13 (by omega) (by omega) (by omega), f1 _ _ 14 (by omega) (by omega) (by omega)]
  rw [ek, e1 1 (by omega) (by unfold rk; omega), e1 3 (by omega) (by unfold rk; omega), e1 4 (by omega) (by unfold rk; omega), e1 5 (by omega) (by unfold rk; omega), e1 6 (by omega) (by unfold rk; omega), e1 15 (by omega) (by unfold rk; omega), e2 1 (by omega), e2 3 (by omega), e2 4 (by omega), e2 5 (by omega), e3 1 (by unfold rk; omega), e3 6 (by unfold rk; omega), e3 7 (by unfold rk; omega), e3 8 (by unfold rk; omega), e3 9 (by unfold rk; omega)]
  rw [List.set_append_right _ _ (Nat.le_refl _), Nat.sub_self]
  simp only [List.cons_append, List.nil_append, List.set_cons_zero, List.set_cons_succ, zC]
  generalize rowsC y aS 10 (Y 2) (fun _ => 3) S = R10
  generalize rowsC y aS 11 (Y 3) (fun _ => 8) S = R11
  generalize rowsC y aS 12 (Y 4) (fun _ => 9) S = R12
  generalize rowsC y aS 13 (Y 5) (fun i => Y (rk 13 i)) S = R13
  generalize rowsC y aS 14 12 (fun _ => 12) S = R14
  exact pmG2 X R10 R11 R12 R13 R14 _ _ _ _ _ _ _ _ _ _
set_option maxHeartbeats 4000000 in
theorem x_grow2 (C : xC p s m args meth c D A cc own nL Ts (xT y) ret) (hJ : xJ2 s) {r : Nat} {f : Nat → Int32} {idx i2 : Nat} (hn : Y 2 < 32) (hG : GoodIn Ts (va_wsS own idx yX3_more_ wsX3_more_)) (d1 : decode cc pc = .ok (.invokestatic idx, 3)) (d2 : decode cc (pc + 3) = .ok (.putfield i2, 3)) (hin : ∀ w ∈ u_ws RX3 TX3 10, w ∈ Ts) (hm : Cond.fieldLink own i2 RX3 "streets" "[[I" ∈ Ts) (hR : 1 ≤ R.frames ∧ 23 ≤ R.locals) (hW : (st.map fun v => v.category).sum ≤ 7) (hf : k + 1 ≤ R.cells ∧ n + 33 ≤ R.slots) (hq : pc + 6 = q) (kk : ∀ v, xV p l e R s m args below meth c D A Q nL (X ++ sC y bS (upA (upA aS 2 v) (rk 10 (Y 2)) r) (upA Y 2 (Y 2 + 1)) (up1 S (rk 10 (Y 2)) f)) (k + 1) (n + 33) L q st) : xV p l e R s m args below meth c D A Q nL ((X ++ sC y bS aS Y S) ++ zC y r 3 f) k n L pc (.ref r :: .ref (aS 2) :: .ref bS :: st) := by
  refine x_callJSr (q := pc + 3) (As := [.ref (aS 2), .ref r]) (rest := .ref bS :: st) (Wr := []) C hJ (c5_more_ (l := l) (D := D) (y := y) (W := (X ++ sC y bS aS Y S) ++ zC y r 3 f) (v := r) (gX3_1 y bS aS Y S).R.L (fun i hi => ⟨aS (rk 10 i), if_pos hi, ((sC_isI (by omega) hi).R).L⟩) ⟨_, _, _, (zA y r 3 f).R⟩ hn) yi_X3_more_ hG ⟨by have := hR.1; omega, by have := hR.2; omega⟩ d1 pm_nil rfl rfl (by simp only [List.map_cons, List.sum_cons]; show 1 + _ ≤ 8; omega) hf rfl ?_
  intro u v _
  refine x_putf (q := q) C 1 (fs := sF aS S) (ty := .array (.array .int)) d2 X.length ((by rw [List.append_nil, List.append_assoc, List.append_assoc, List.getElem?_append_right (Nat.le_refl _), Nat.sub_self]; rfl)) hin hm rfl (by decide) rfl (by decide +kernel) rfl rfl (by show 1 < 10; omega) rfl (by omega) ?_
  refine x_perm (ws' := (X ++ sC y bS (upA (upA aS 2 v) (rk 10 (Y 2)) r) (upA Y 2 (Y 2 + 1)) (up1 S (rk 10 (Y 2)) f)) ++ [refC y (aS 2) (Y 2) (fun i => aS (rk 10 i))]) ?_ (x_drop (kk v))
  rw [List.append_nil, List.append_assoc, List.set_append_left _ _ (by simp [sC, sHd])]
  exact sC_grow2

set_option maxHeartbeats 4000000 in
theorem sC_grow3 {v r : Nat} {f : Nat → Int32} : ((X ++ sC y bS aS Y S).set X.length (bS, .inr (3, (sF aS S).set 2 (.ref v))) ++ (zC y r 8 f ++ rfC y v (Y 3 + 1) (va_up (fun j => if j < Y 3 then (if j < Y 3 then some (aS (rk 11 j)) else none) else none) (Y 3) (some r)))).Perm ((X ++ sC y bS (upA (upA aS 3 v) (rk 11 (Y 3)) r) (upA Y 3 (Y 3 + 1)) (up1 S (rk 11 (Y 3)) f)) ++ [refC y (aS 3) (Y 3) (fun i => aS (rk 11 i))]) := by
  have e1 : ∀ k, k ≠ 3 → k ≠ rk 11 (Y 3) → (upA (upA aS 3 v) (rk 11 (Y 3)) r) k = aS k := fun k h h2 => (upA_ne h2).trans (upA_ne h)
  have e2 : ∀ k, k ≠ 3 → (upA Y 3 (Y 3 + 1)) k = Y k := fun k h => upA_ne h
  have e3 : ∀ k, k ≠ rk 11 (Y 3) → (up1 S (rk 11 (Y 3)) f) k = S k := fun k h => up1_ne h
  have r1 : ∀ g n (w w' : Nat → Nat), 10 ≤ g → g < 16 → g ≠ 11 → (∀ i, w' i = w i) → rowsC y (upA (upA aS 3 v) (rk 11 (Y 3)) r) g n w' (up1 S (rk 11 (Y 3)) f) = rowsC y aS g n w S := fun g n w w' hg hg2 hg3 hw => rowsC_cg (fun i _ => e1 _ (by unfold rk; omega) (fun h => hg3 (rk_inj hg2 (by omega) h).1)) (fun i _ => hw i) (fun i _ => e3 _ (fun h => hg3 (rk_inj hg2 (by omega) h).1))
  have f1 : ∀ b n g, 10 ≤ g → g < 16 → g ≠ 11 → refC y b n (fun i => (upA (upA aS 3 v) (rk 11 (Y 3)) r) (rk g i)) = refC y b n (fun i => aS (rk g i)) := fun b n g hg hg2 hg3 => refC_cg fun i => e1 _ (by unfold rk; omega) (fun h => hg3 (rk_inj hg2 (by omega) h).1)
  have r2 : rowsC y (upA (upA aS 3 v) (rk 11 (Y 3)) r) 11 (Y 3 + 1) (fun _ => 8) (up1 S (rk 11 (Y 3)) f) = rowsC y aS 11 (Y 3) (fun _ => 8) S ++ zC y r 8 f := by
    rw [rowsC_succ, upA_eq, up1_eq]
    congr 1
    · exact rowsC_cg (fun i hi => e1 _ (by unfold rk; omega) (fun h => absurd (rk_inj (by omega) (by omega) h).2 (by omega))) (fun i hi => rfl) (fun i hi => e3 _ (fun h => absurd (rk_inj (by omega) (by omega) h).2 (by omega)))

  have f2 : rfC y v (Y 3 + 1) (va_up (fun j => if j < Y 3 then (if j < Y 3 then some (aS (rk 11 j)) else none) else none) (Y 3) (some r)) = [refC y v (Y 3 + 1) (fun i => (upA (upA aS 3 v) (rk 11 (Y 3)) r) (rk 11 i))] := refC_up (r := fun i => aS (rk 11 i)) upA_eq (fun i hi => e1 _ (by unfold rk; omega) (fun h => absurd (rk_inj (by omega) (by omega) h).2 (by omega)))
  have ek : (upA (upA aS 3 v) (rk 11 (Y 3)) r) 3 = v := (upA_ne (by unfold rk; omega)).trans upA_eq
  rw [f2]
  unfold sC sHd sF
  rw [(show (upA Y 3 (Y 3 + 1)) 3 = Y 3 + 1 from upA_eq), r2, r1 10 _ _ _ (by omega) (by omega) (by omega) (fun _ => rfl), r1 12 _ _ _ (by omega) (by omega) (by omega) (fun _ => rfl), r1 13 _ (fun i => Y (rk 13 i)) _ (by omega) (by omega) (by omega) (fun i => e2 _ (by unfold rk; omega)), r1 14 _ _ _ (by omega) (by omega) (by omega) (fun _ => rfl), f1 _ _ 10 (by omega) (by omega) (by omega), f1 _ _ 12 (by omega) (by omega) (by omega), f1 _ _ 13 (by omega) (by omega) (by omega), f1 _ _ 14 (by omega) (by omega) (by omega)]
  rw [ek, e1 1 (by omega) (by unfold rk; omega), e1 2 (by omega) (by unfold rk; omega), e1 4 (by omega) (by unfold rk; omega), e1 5 (by omega) (by unfold rk; omega), e1 6 (by omega) (by unfold rk; omega), e1 15 (by omega) (by unfold rk; omega), e2 1 (by omega), e2 2 (by omega), e2 4 (by omega), e2 5 (by omega), e3 1 (by unfold rk; omega), e3 6 (by unfold rk; omega), e3 7 (by unfold rk; omega), e3 8 (by unfold rk; omega), e3 9 (by unfold rk; omega)]
  rw [List.set_append_right _ _ (Nat.le_refl _), Nat.sub_self]
  simp only [List.cons_append, List.nil_append, List.set_cons_zero, List.set_cons_succ, zC]
  generalize rowsC y aS 10 (Y 2) (fun _ => 3) S = R10
  generalize rowsC y aS 11 (Y 3) (fun _ => 8) S = R11
  generalize rowsC y aS 12 (Y 4) (fun _ => 9) S = R12
  generalize rowsC y aS 13 (Y 5) (fun i => Y (rk 13 i)) S = R13
  generalize rowsC y aS 14 12 (fun _ => 12) S = R14
  exact pmG3 X R10 R11 R12 R13 R14 _ _ _ _ _ _ _ _ _ _
set_option maxHeartbeats 4000000 in
theorem x_grow3 (C : xC p s m args meth c D A cc own nL Ts (xT y) ret) (hJ : xJ2 s) {r : Nat} {f : Nat → Int32} {idx i2 : Nat} (hn : Y 3 < 32) (hG : GoodIn Ts (va_wsS own idx yX3_more_ wsX3_more_)) (d1 : decode cc pc = .ok (.invokestatic idx, 3)) (d2 : decode cc (pc + 3) = .ok (.putfield i2, 3)) (hin : ∀ w ∈ u_ws RX3 TX3 10, w ∈ Ts) (hm : Cond.fieldLink own i2 RX3 "lamps" "[[I" ∈ Ts) (hR : 1 ≤ R.frames ∧ 23 ≤ R.locals) (hW : (st.map fun v => v.category).sum ≤ 7) (hf : k + 1 ≤ R.cells ∧ n + 33 ≤ R.slots) (hq : pc + 6 = q) (kk : ∀ v, xV p l e R s m args below meth c D A Q nL (X ++ sC y bS (upA (upA aS 3 v) (rk 11 (Y 3)) r) (upA Y 3 (Y 3 + 1)) (up1 S (rk 11 (Y 3)) f)) (k + 1) (n + 33) L q st) : xV p l e R s m args below meth c D A Q nL ((X ++ sC y bS aS Y S) ++ zC y r 8 f) k n L pc (.ref r :: .ref (aS 3) :: .ref bS :: st) := by
  refine x_callJSr (q := pc + 3) (As := [.ref (aS 3), .ref r]) (rest := .ref bS :: st) (Wr := []) C hJ (c5_more_ (l := l) (D := D) (y := y) (W := (X ++ sC y bS aS Y S) ++ zC y r 8 f) (v := r) (gX3_2 y bS aS Y S).R.L (fun i hi => ⟨aS (rk 11 i), if_pos hi, ((sC_isI (by omega) hi).R).L⟩) ⟨_, _, _, (zA y r 8 f).R⟩ hn) yi_X3_more_ hG ⟨by have := hR.1; omega, by have := hR.2; omega⟩ d1 pm_nil rfl rfl (by simp only [List.map_cons, List.sum_cons]; show 1 + _ ≤ 8; omega) hf rfl ?_
  intro u v _
  refine x_putf (q := q) C 2 (fs := sF aS S) (ty := .array (.array .int)) d2 X.length ((by rw [List.append_nil, List.append_assoc, List.append_assoc, List.getElem?_append_right (Nat.le_refl _), Nat.sub_self]; rfl)) hin hm rfl (by decide) rfl (by decide +kernel) rfl rfl (by show 2 < 10; omega) rfl (by omega) ?_
  refine x_perm (ws' := (X ++ sC y bS (upA (upA aS 3 v) (rk 11 (Y 3)) r) (upA Y 3 (Y 3 + 1)) (up1 S (rk 11 (Y 3)) f)) ++ [refC y (aS 3) (Y 3) (fun i => aS (rk 11 i))]) ?_ (x_drop (kk v))
  rw [List.append_nil, List.append_assoc, List.set_append_left _ _ (by simp [sC, sHd])]
  exact sC_grow3

set_option maxHeartbeats 4000000 in
theorem sC_grow4 {v r : Nat} {f : Nat → Int32} : ((X ++ sC y bS aS Y S).set X.length (bS, .inr (3, (sF aS S).set 3 (.ref v))) ++ (zC y r 9 f ++ rfC y v (Y 4 + 1) (va_up (fun j => if j < Y 4 then (if j < Y 4 then some (aS (rk 12 j)) else none) else none) (Y 4) (some r)))).Perm ((X ++ sC y bS (upA (upA aS 4 v) (rk 12 (Y 4)) r) (upA Y 4 (Y 4 + 1)) (up1 S (rk 12 (Y 4)) f)) ++ [refC y (aS 4) (Y 4) (fun i => aS (rk 12 i))]) := by
  have e1 : ∀ k, k ≠ 4 → k ≠ rk 12 (Y 4) → (upA (upA aS 4 v) (rk 12 (Y 4)) r) k = aS k := fun k h h2 => (upA_ne h2).trans (upA_ne h)
  have e2 : ∀ k, k ≠ 4 → (upA Y 4 (Y 4 + 1)) k = Y k := fun k h => upA_ne h
  have e3 : ∀ k, k ≠ rk 12 (Y 4) → (up1 S (rk 12 (Y 4)) f) k = S k := fun k h => up1_ne h
  have r1 : ∀ g n (w w' : Nat → Nat), 10 ≤ g → g < 16 → g ≠ 12 → (∀ i, w' i = w i) → rowsC y (upA (upA aS 4 v) (rk 12 (Y 4)) r) g n w' (up1 S (rk 12 (Y 4)) f) = rowsC y aS g n w S := fun g n w w' hg hg2 hg3 hw => rowsC_cg (fun i _ => e1 _ (by unfold rk; omega) (fun h => hg3 (rk_inj hg2 (by omega) h).1)) (fun i _ => hw i) (fun i _ => e3 _ (fun h => hg3 (rk_inj hg2 (by omega) h).1))
  have f1 : ∀ b n g, 10 ≤ g → g < 16 → g ≠ 12 → refC y b n (fun i => (upA (upA aS 4 v) (rk 12 (Y 4)) r) (rk g i)) = refC y b n (fun i => aS (rk g i)) := fun b n g hg hg2 hg3 => refC_cg fun i => e1 _ (by unfold rk; omega) (fun h => hg3 (rk_inj hg2 (by omega) h).1)
  have r2 : rowsC y (upA (upA aS 4 v) (rk 12 (Y 4)) r) 12 (Y 4 + 1) (fun _ => 9) (up1 S (rk 12 (Y 4)) f) = rowsC y aS 12 (Y 4) (fun _ => 9) S ++ zC y r 9 f := by
    rw [rowsC_succ, upA_eq, up1_eq]
    congr 1
    · exact rowsC_cg (fun i hi => e1 _ (by unfold rk; omega) (fun h => absurd (rk_inj (by omega) (by omega) h).2 (by omega))) (fun i hi => rfl) (fun i hi => e3 _ (fun h => absurd (rk_inj (by omega) (by omega) h).2 (by omega)))

  have f2 : rfC y v (Y 4 + 1) (va_up (fun j => if j < Y 4 then (if j < Y 4 then some (aS (rk 12 j)) else none) else none) (Y 4) (some r)) = [refC y v (Y 4 + 1) (fun i => (upA (upA aS 4 v) (rk 12 (Y 4)) r) (rk 12 i))] := refC_up (r := fun i => aS (rk 12 i)) upA_eq (fun i hi => e1 _ (by unfold rk; omega) (fun h => absurd (rk_inj (by omega) (by omega) h).2 (by omega)))
  have ek : (upA (upA aS 4 v) (rk 12 (Y 4)) r) 4 = v := (upA_ne (by unfold rk; omega)).trans upA_eq
  rw [f2]
  unfold sC sHd sF
  rw [(show (upA Y 4 (Y 4 + 1)) 4 = Y 4 + 1 from upA_eq), r2, r1 10 _ _ _ (by omega) (by omega) (by omega) (fun _ => rfl), r1 11 _ _ _ (by omega) (by omega) (by omega) (fun _ => rfl), r1 13 _ (fun i => Y (rk 13 i)) _ (by omega) (by omega) (by omega) (fun i => e2 _ (by unfold rk; omega)), r1 14 _ _ _ (by omega) (by omega) (by omega) (fun _ => rfl), f1 _ _ 10 (by omega) (by omega) (by omega), f1 _ _ 11 (by omega) (by omega) (by omega), f1 _ _ 13 (by omega) (by omega) (by omega), f1 _ _ 14 (by omega) (by omega) (by omega)]
  rw [ek, e1 1 (by omega) (by unfold rk; omega), e1 2 (by omega) (by unfold rk; omega), e1 3 (by omega) (by unfold rk; omega), e1 5 (by omega) (by unfold rk; omega), e1 6 (by omega) (by unfold rk; omega), e1 15 (by omega) (by unfold rk; omega), e2 1 (by omega), e2 2 (by omega), e2 3 (by omega), e2 5 (by omega), e3 1 (by unfold rk; omega), e3 6 (by unfold rk; omega), e3 7 (by unfold rk; omega), e3 8 (by unfold rk; omega), e3 9 (by unfold rk; omega)]
  rw [List.set_append_right _ _ (Nat.le_refl _), Nat.sub_self]
  simp only [List.cons_append, List.nil_append, List.set_cons_zero, List.set_cons_succ, zC]
  generalize rowsC y aS 10 (Y 2) (fun _ => 3) S = R10
  generalize rowsC y aS 11 (Y 3) (fun _ => 8) S = R11
  generalize rowsC y aS 12 (Y 4) (fun _ => 9) S = R12
  generalize rowsC y aS 13 (Y 5) (fun i => Y (rk 13 i)) S = R13
  generalize rowsC y aS 14 12 (fun _ => 12) S = R14
  exact pmG4 X R10 R11 R12 R13 R14 _ _ _ _ _ _ _ _ _ _
set_option maxHeartbeats 4000000 in
theorem x_grow4 (C : xC p s m args meth c D A cc own nL Ts (xT y) ret) (hJ : xJ2 s) {r : Nat} {f : Nat → Int32} {idx i2 : Nat} (hn : Y 4 < 32) (hG : GoodIn Ts (va_wsS own idx yX3_more_ wsX3_more_)) (d1 : decode cc pc = .ok (.invokestatic idx, 3)) (d2 : decode cc (pc + 3) = .ok (.putfield i2, 3)) (hin : ∀ w ∈ u_ws RX3 TX3 10, w ∈ Ts) (hm : Cond.fieldLink own i2 RX3 "lighters" "[[I" ∈ Ts) (hR : 1 ≤ R.frames ∧ 23 ≤ R.locals) (hW : (st.map fun v => v.category).sum ≤ 7) (hf : k + 1 ≤ R.cells ∧ n + 33 ≤ R.slots) (hq : pc + 6 = q) (kk : ∀ v, xV p l e R s m args below meth c D A Q nL (X ++ sC y bS (upA (upA aS 4 v) (rk 12 (Y 4)) r) (upA Y 4 (Y 4 + 1)) (up1 S (rk 12 (Y 4)) f)) (k + 1) (n + 33) L q st) : xV p l e R s m args below meth c D A Q nL ((X ++ sC y bS aS Y S) ++ zC y r 9 f) k n L pc (.ref r :: .ref (aS 4) :: .ref bS :: st) := by
  refine x_callJSr (q := pc + 3) (As := [.ref (aS 4), .ref r]) (rest := .ref bS :: st) (Wr := []) C hJ (c5_more_ (l := l) (D := D) (y := y) (W := (X ++ sC y bS aS Y S) ++ zC y r 9 f) (v := r) (gX3_3 y bS aS Y S).R.L (fun i hi => ⟨aS (rk 12 i), if_pos hi, ((sC_isI (by omega) hi).R).L⟩) ⟨_, _, _, (zA y r 9 f).R⟩ hn) yi_X3_more_ hG ⟨by have := hR.1; omega, by have := hR.2; omega⟩ d1 pm_nil rfl rfl (by simp only [List.map_cons, List.sum_cons]; show 1 + _ ≤ 8; omega) hf rfl ?_
  intro u v _
  refine x_putf (q := q) C 3 (fs := sF aS S) (ty := .array (.array .int)) d2 X.length ((by rw [List.append_nil, List.append_assoc, List.append_assoc, List.getElem?_append_right (Nat.le_refl _), Nat.sub_self]; rfl)) hin hm rfl (by decide) rfl (by decide +kernel) rfl rfl (by show 3 < 10; omega) rfl (by omega) ?_
  refine x_perm (ws' := (X ++ sC y bS (upA (upA aS 4 v) (rk 12 (Y 4)) r) (upA Y 4 (Y 4 + 1)) (up1 S (rk 12 (Y 4)) f)) ++ [refC y (aS 4) (Y 4) (fun i => aS (rk 12 i))]) ?_ (x_drop (kk v))
  rw [List.append_nil, List.append_assoc, List.set_append_left _ _ (by simp [sC, sHd])]
  exact sC_grow4

set_option maxHeartbeats 4000000 in
theorem sC_grow5 {w : Nat} {v r : Nat} {f : Nat → Int32} : ((X ++ sC y bS aS Y S).set X.length (bS, .inr (3, (sF aS S).set 4 (.ref v))) ++ (zC y r w f ++ rfC y v (Y 5 + 1) (va_up (fun j => if j < Y 5 then (if j < Y 5 then some (aS (rk 13 j)) else none) else none) (Y 5) (some r)))).Perm ((X ++ sC y bS (upA (upA aS 5 v) (rk 13 (Y 5)) r) (upA (upA Y 5 (Y 5 + 1)) (rk 13 (Y 5)) w) (up1 S (rk 13 (Y 5)) f)) ++ [refC y (aS 5) (Y 5) (fun i => aS (rk 13 i))]) := by
  have e1 : ∀ k, k ≠ 5 → k ≠ rk 13 (Y 5) → (upA (upA aS 5 v) (rk 13 (Y 5)) r) k = aS k := fun k h h2 => (upA_ne h2).trans (upA_ne h)
  have e2 : ∀ k, k ≠ 5 ∧ k ≠ rk 13 (Y 5) → (upA (upA Y 5 (Y 5 + 1)) (rk 13 (Y 5)) w) k = Y k := fun k h => (upA_ne h.2).trans (upA_ne h.1)
  have e3 : ∀ k, k ≠ rk 13 (Y 5) → (up1 S (rk 13 (Y 5)) f) k = S k := fun k h => up1_ne h
  have r1 : ∀ g n (w w' : Nat → Nat), 10 ≤ g → g < 16 → g ≠ 13 → (∀ i, w' i = w i) → rowsC y (upA (upA aS 5 v) (rk 13 (Y 5)) r) g n w' (up1 S (rk 13 (Y 5)) f) = rowsC y aS g n w S := fun g n w w' hg hg2 hg3 hw => rowsC_cg (fun i _ => e1 _ (by unfold rk; omega) (fun h => hg3 (rk_inj hg2 (by omega) h).1)) (fun i _ => hw i) (fun i _ => e3 _ (fun h => hg3 (rk_inj hg2 (by omega) h).1))
  have f1 : ∀ b n g, 10 ≤ g → g < 16 → g ≠ 13 → refC y b n (fun i => (upA (upA aS 5 v) (rk 13 (Y 5)) r) (rk g i)) = refC y b n (fun i => aS (rk g i)) := fun b n g hg hg2 hg3 => refC_cg fun i => e1 _ (by unfold rk; omega) (fun h => hg3 (rk_inj hg2 (by omega) h).1)
  have r2 : rowsC y (upA (upA aS 5 v) (rk 13 (Y 5)) r) 13 (Y 5 + 1) (fun i => (upA (upA Y 5 (Y 5 + 1)) (rk 13 (Y 5)) w) (rk 13 i)) (up1 S (rk 13 (Y 5)) f) = rowsC y aS 13 (Y 5) (fun i => Y (rk 13 i)) S ++ zC y r w f := by
    rw [rowsC_succ, upA_eq, up1_eq]
    congr 1
    · exact rowsC_cg (fun i hi => e1 _ (by unfold rk; omega) (fun h => absurd (rk_inj (by omega) (by omega) h).2 (by omega))) (fun i hi => e2 _ ⟨by unfold rk; omega, by unfold rk; omega⟩) (fun i hi => e3 _ (fun h => absurd (rk_inj (by omega) (by omega) h).2 (by omega)))
    · rw [upA_eq]
  have f2 : rfC y v (Y 5 + 1) (va_up (fun j => if j < Y 5 then (if j < Y 5 then some (aS (rk 13 j)) else none) else none) (Y 5) (some r)) = [refC y v (Y 5 + 1) (fun i => (upA (upA aS 5 v) (rk 13 (Y 5)) r) (rk 13 i))] := refC_up (r := fun i => aS (rk 13 i)) upA_eq (fun i hi => e1 _ (by unfold rk; omega) (fun h => absurd (rk_inj (by omega) (by omega) h).2 (by omega)))
  have ek : (upA (upA aS 5 v) (rk 13 (Y 5)) r) 5 = v := (upA_ne (by unfold rk; omega)).trans upA_eq
  rw [f2]
  unfold sC sHd sF
  rw [(show (upA (upA Y 5 (Y 5 + 1)) (rk 13 (Y 5)) w) 5 = Y 5 + 1 from (upA_ne (by unfold rk; omega)).trans upA_eq), r2, r1 10 _ _ _ (by omega) (by omega) (by omega) (fun _ => rfl), r1 11 _ _ _ (by omega) (by omega) (by omega) (fun _ => rfl), r1 12 _ _ _ (by omega) (by omega) (by omega) (fun _ => rfl), r1 14 _ _ _ (by omega) (by omega) (by omega) (fun _ => rfl), f1 _ _ 10 (by omega) (by omega) (by omega), f1 _ _ 11 (by omega) (by omega) (by omega), f1 _ _ 12 (by omega) (by omega) (by omega), f1 _ _ 14 (by omega) (by omega) (by omega)]
  rw [ek, e1 1 (by omega) (by unfold rk; omega), e1 2 (by omega) (by unfold rk; omega), e1 3 (by omega) (by unfold rk; omega), e1 4 (by omega) (by unfold rk; omega), e1 6 (by omega) (by unfold rk; omega), e1 15 (by omega) (by unfold rk; omega), e2 1 ⟨by omega, by unfold rk; omega⟩, e2 2 ⟨by omega, by unfold rk; omega⟩, e2 3 ⟨by omega, by unfold rk; omega⟩, e2 4 ⟨by omega, by unfold rk; omega⟩, e3 1 (by unfold rk; omega), e3 6 (by unfold rk; omega), e3 7 (by unfold rk; omega), e3 8 (by unfold rk; omega), e3 9 (by unfold rk; omega)]
  rw [List.set_append_right _ _ (Nat.le_refl _), Nat.sub_self]
  simp only [List.cons_append, List.nil_append, List.set_cons_zero, List.set_cons_succ, zC]
  generalize rowsC y aS 10 (Y 2) (fun _ => 3) S = R10
  generalize rowsC y aS 11 (Y 3) (fun _ => 8) S = R11
  generalize rowsC y aS 12 (Y 4) (fun _ => 9) S = R12
  generalize rowsC y aS 13 (Y 5) (fun i => Y (rk 13 i)) S = R13
  generalize rowsC y aS 14 12 (fun _ => 12) S = R14
  exact pmG5 X R10 R11 R12 R13 R14 _ _ _ _ _ _ _ _ _ _
set_option maxHeartbeats 4000000 in
theorem x_grow5 (C : xC p s m args meth c D A cc own nL Ts (xT y) ret) (hJ : xJ2 s) {w : Nat} {r : Nat} {f : Nat → Int32} {idx i2 : Nat} (hn : Y 5 < 32) (hG : GoodIn Ts (va_wsS own idx yX3_more_ wsX3_more_)) (d1 : decode cc pc = .ok (.invokestatic idx, 3)) (d2 : decode cc (pc + 3) = .ok (.putfield i2, 3)) (hin : ∀ w ∈ u_ws RX3 TX3 10, w ∈ Ts) (hm : Cond.fieldLink own i2 RX3 "rounds" "[[I" ∈ Ts) (hR : 1 ≤ R.frames ∧ 23 ≤ R.locals) (hW : (st.map fun v => v.category).sum ≤ 7) (hf : k + 1 ≤ R.cells ∧ n + 33 ≤ R.slots) (hq : pc + 6 = q) (kk : ∀ v, xV p l e R s m args below meth c D A Q nL (X ++ sC y bS (upA (upA aS 5 v) (rk 13 (Y 5)) r) (upA (upA Y 5 (Y 5 + 1)) (rk 13 (Y 5)) w) (up1 S (rk 13 (Y 5)) f)) (k + 1) (n + 33) L q st) : xV p l e R s m args below meth c D A Q nL ((X ++ sC y bS aS Y S) ++ zC y r w f) k n L pc (.ref r :: .ref (aS 5) :: .ref bS :: st) := by
  refine x_callJSr (q := pc + 3) (As := [.ref (aS 5), .ref r]) (rest := .ref bS :: st) (Wr := []) C hJ (c5_more_ (l := l) (D := D) (y := y) (W := (X ++ sC y bS aS Y S) ++ zC y r w f) (v := r) (gX3_4 y bS aS Y S).R.L (fun i hi => ⟨aS (rk 13 i), if_pos hi, ((sC_isI (by omega) hi).R).L⟩) ⟨_, _, _, (zA y r w f).R⟩ hn) yi_X3_more_ hG ⟨by have := hR.1; omega, by have := hR.2; omega⟩ d1 pm_nil rfl rfl (by simp only [List.map_cons, List.sum_cons]; show 1 + _ ≤ 8; omega) hf rfl ?_
  intro u v _
  refine x_putf (q := q) C 4 (fs := sF aS S) (ty := .array (.array .int)) d2 X.length ((by rw [List.append_nil, List.append_assoc, List.append_assoc, List.getElem?_append_right (Nat.le_refl _), Nat.sub_self]; rfl)) hin hm rfl (by decide) rfl (by decide +kernel) rfl rfl (by show 4 < 10; omega) rfl (by omega) ?_
  refine x_perm (ws' := (X ++ sC y bS (upA (upA aS 5 v) (rk 13 (Y 5)) r) (upA (upA Y 5 (Y 5 + 1)) (rk 13 (Y 5)) w) (up1 S (rk 13 (Y 5)) f)) ++ [refC y (aS 5) (Y 5) (fun i => aS (rk 13 i))]) ?_ (x_drop (kk v))
  rw [List.append_nil, List.append_assoc, List.set_append_left _ _ (by simp [sC, sHd])]
  exact sC_grow5

end XGROW
