/-! SWITCHES, THROWN CALLS (said by a number): rows out of the proof of whole -/
theorem xtab6 {x : Int32} (h0 : ¬ x = 0) (h1 : ¬ x = 1) (h2 : ¬ x = 2) (h3 : ¬ x = 3) (h4 : ¬ x = 4) (h5 : ¬ x = 5) : x.toInt < (0 : Int) ∨ (5 : Int) < x.toInt := by
  rcases Int.lt_or_le x.toInt 0 with h | h
  · exact Or.inl h
  · rcases Int.lt_or_le (5 : Int) x.toInt with q | q
    · exact Or.inr q
    · exfalso
      have h2 : x.toInt = 0 ∨ x.toInt = 1 ∨ x.toInt = 2 ∨ x.toInt = 3 ∨ x.toInt = 4 ∨ x.toInt = 5 := by omega
      rcases h2 with e | e | e | e | e | e
      · exact h0 (Int32.toInt_inj.mp e)
      · exact h1 (Int32.toInt_inj.mp e)
      · exact h2 (Int32.toInt_inj.mp e)
      · exact h3 (Int32.toInt_inj.mp e)
      · exact h4 (Int32.toInt_inj.mp e)
      · exact h5 (Int32.toInt_inj.mp e)
theorem xlk2 {x : Int32} {a b d : Int} (h0 : ¬ x = 0) (h1 : ¬ x = 1) : Op.lookupswitch.offset (#[((0 : Int), a), (1, b)] : Array (Int × Int)).toList d x.toInt = d := by
  show (if (0 : Int) = x.toInt then a else if (1 : Int) = x.toInt then b else d) = d
  rw [if_neg (fun e => h0 (Int32.toInt_inj.mp e.symm)), if_neg (fun e => h1 (Int32.toInt_inj.mp e.symm))]
def bx0 {β : Type} (a : Option (Nat ⊕ Unit)) (k : Option (Nat ⊕ β)) : Option (Nat ⊕ β) := match a with
  | some (.inl e) => some (.inl e)
  | some (.inr _) => k
  | none => none
theorem bx0_some {β : Type} {a : Option (Nat ⊕ Unit)} {k : Option (Nat ⊕ β)} {o : Nat ⊕ β} (h : bx0 a k = some o) : (∃ i, a = some (.inl i) ∧ o = .inl i) ∨ (a = some (.inr ()) ∧ k = some o) := by
  match a, h with
  | some (.inl e), h => exact Or.inl ⟨e, rfl, (Option.some.inj h).symm⟩
  | some (.inr _), h => exact Or.inr ⟨rfl, h⟩
def bx1 {α β : Type} (a : Option (Nat ⊕ α)) (k : α → Option (Nat ⊕ β)) : Option (Nat ⊕ β) := match a with
  | some (.inl e) => some (.inl e)
  | some (.inr x) => k x
  | none => none
theorem bx1_some {α β : Type} {a : Option (Nat ⊕ α)} {k : α → Option (Nat ⊕ β)} {o : Nat ⊕ β} (h : bx1 a k = some o) : (∃ i, a = some (.inl i) ∧ o = .inl i) ∨ (∃ x, a = some (.inr x) ∧ k x = some o) := by
  match a, h with
  | some (.inl e), h => exact Or.inl ⟨e, rfl, (Option.some.inj h).symm⟩
  | some (.inr x), h => exact Or.inr ⟨x, rfl, h⟩

/-! THE SIM'S WORLD: the object at bS, its arrays at aS, how long each is: Y; what they hold: S (row i of the kind g at rk g i) -/
def xF9 : Nat := 200000
def rk (g i : Nat) : Nat := 16 * i + g
theorem rk_inj {g g' i i' : Nat} (hg : g < 16) (hg' : g' < 16) (h : rk g i = rk g' i') : g = g' ∧ i = i' := by
  unfold rk at h; omega
theorem bx0_inr {β : Type} {a : Option (Nat ⊕ Unit)} {k : Option (Nat ⊕ β)} {o : β} (h : bx0 a k = some (.inr o)) : a = some (.inr ()) ∧ k = some (.inr o) := by
  match a, h with
  | some (.inr _), h => exact ⟨rfl, h⟩
theorem bx1_inr {α β : Type} {a : Option (Nat ⊕ α)} {k : α → Option (Nat ⊕ β)} {o : β} (h : bx1 a k = some (.inr o)) : ∃ x, a = some (.inr x) ∧ k x = some (.inr o) := by
  match a, h with
  | some (.inr x), h => exact ⟨x, rfl, h⟩
theorem up1_ne {S : St} {k k' : Nat} {f : Nat → Int32} (h : k' ≠ k) : up1 S k f k' = S k' := if_neg h
theorem up1_eq {S : St} {k : Nat} {f : Nat → Int32} : up1 S k f k = f := if_pos rfl
def rowsC (y : Nat → ClassId) (a : Nat → Nat) (g n : Nat) (w : Nat → Nat) (S : St) : va_W := (List.range n).map fun i => (a (rk g i), .inl (y 0, w i, .inl (S (rk g i))))
def refC (y : Nat → ClassId) (b n : Nat) (r : Nat → Nat) : Nat × va_E := (b, .inl (y 2, n, .inr (.inr (.inr (.inr (fun i => if i < n then some (r i) else none))))))
def sF (a : Nat → Nat) (S : St) : List Value := [.ref (a 1), .ref (a 2), .ref (a 3), .ref (a 4), .ref (a 5), .ref (a 6), .int (S 7 0), .int (S 8 0), .int (S 9 0), .ref (a 15)]
def sHd (y : Nat → ClassId) (b : Nat) (a Y : Nat → Nat) (S : St) : va_W := [(b, .inr (3, sF a S)), (a 1, .inl (y 0, Y 1, .inl (S 1))), (a 6, .inl (y 0, 10, .inl (S 6))), refC y (a 2) (Y 2) (fun i => a (rk 10 i)), refC y (a 3) (Y 3) (fun i => a (rk 11 i)), refC y (a 4) (Y 4) (fun i => a (rk 12 i)), refC y (a 5) (Y 5) (fun i => a (rk 13 i)), refC y (a 15) 12 (fun i => a (rk 14 i))]
def sC (y : Nat → ClassId) (b : Nat) (a Y : Nat → Nat) (S : St) : va_W := sHd y b a Y S ++ (rowsC y a 10 (Y 2) (fun _ => 3) S ++ (rowsC y a 11 (Y 3) (fun _ => 8) S ++ (rowsC y a 12 (Y 4) (fun _ => 9) S ++ (rowsC y a 13 (Y 5) (fun i => Y (rk 13 i)) S ++ rowsC y a 14 12 (fun _ => 12) S))))
theorem rowsC_ne {y : Nat → ClassId} {a : Nat → Nat} {g n : Nat} {w : Nat → Nat} {S S' : St} (h : ∀ i, S' (rk g i) = S (rk g i)) : rowsC y a g n w S' = rowsC y a g n w S := by
  unfold rowsC
  apply List.map_congr_left
  intro i _
  rw [h]
theorem rowsC_xA {y : Nat → ClassId} {a : Nat → Nat} {g n : Nat} {w : Nat → Nat} {S : St} {i : Nat} (hi : i < n) : xA (rowsC y a g n w S) (a (rk g i)) (y 0) (w i) (S (rk g i)) (fun f => rowsC y a g n w (up1 S (rk g i) f)) := by
  refine ⟨i, by simp [rowsC, hi], fun f => ?_⟩
  apply List.ext_getElem
  · simp [rowsC]
  · intro j h1 h2
    simp only [rowsC, List.getElem_set, List.getElem_map, List.getElem_range]
    by_cases hj : i = j
    · subst hj
      rw [if_pos rfl, up1_eq]
    · rw [if_neg hj, up1_ne (fun e => hj (by unfold rk at e; omega))]
theorem xA.cg {ws : va_W} {a : Nat} {cA : ClassId} {n : Nat} {f : Nat → Int32} {G G' : (Nat → Int32) → va_W} (h : xA ws a cA n f G) (e : ∀ f', G f' = G' f') : xA ws a cA n f G' := by
  obtain ⟨q0, h1, h2⟩ := h
  exact ⟨q0, h1, fun f' => (h2 f').trans (e f')⟩
theorem sHd_ne {y : Nat → ClassId} {b : Nat} {a Y : Nat → Nat} {S : St} {g i : Nat} {f : Nat → Int32} (hg : 10 ≤ g) : sHd y b a Y (up1 S (rk g i) f) = sHd y b a Y S := by
  have e : ∀ k, k < 10 → up1 S (rk g i) f k = S k := fun k hk => up1_ne (by unfold rk; omega)
  unfold sHd sF
  rw [e 1 (by omega), e 6 (by omega), e 7 (by omega), e 8 (by omega), e 9 (by omega)]
theorem rows_up {y : Nat → ClassId} {a : Nat → Nat} {g g' n i : Nat} {w : Nat → Nat} {S : St} {f : Nat → Int32} (hg : g < 16) (hg' : g' < 16) (h : g' ≠ g) : rowsC y a g' n w (up1 S (rk g i) f) = rowsC y a g' n w S :=
  rowsC_ne fun _ => up1_ne fun e => h (rk_inj hg' hg e).1
theorem rows_lo {y : Nat → ClassId} {a : Nat → Nat} {g n k : Nat} {w : Nat → Nat} {S : St} {f : Nat → Int32} (hg : 10 ≤ g) (hk : k < 10) : rowsC y a g n w (up1 S k f) = rowsC y a g n w S :=
  rowsC_ne fun _ => up1_ne (by unfold rk; omega)
theorem oX3 (y : Nat → ClassId) (b : Nat) (a Y : Nat → Nat) (S : St) : xO (sC y b a Y S) b 3 (sF a S) := ⟨0, rfl⟩
theorem iX3_g (y : Nat → ClassId) (b : Nat) (a Y : Nat → Nat) (S : St) (k : Nat) (h1 : 6 ≤ k) (h2 : k ≤ 8) : xI (sC y b a Y S) b 3 (sF a S) k (fun x => sC y b a Y (up2 S (k + 1) 0 x)) := by
  refine ⟨0, rfl, by show k < 10; omega, fun x => ?_⟩
  have e : ∀ j, j ≠ k + 1 → up2 S (k + 1) 0 x j = S j := fun j hj => up1_ne hj
  have e2 : up2 S (k + 1) 0 x (k + 1) 0 = x := by simp [up2, up1, upd]
  unfold sC
  dsimp only
  rw [show rowsC y a 10 _ _ (up2 S (k + 1) 0 x) = rowsC y a 10 _ _ S from rows_lo (by omega) (by omega), show rowsC y a 11 _ _ (up2 S (k + 1) 0 x) = rowsC y a 11 _ _ S from rows_lo (by omega) (by omega), show rowsC y a 12 _ _ (up2 S (k + 1) 0 x) = rowsC y a 12 _ _ S from rows_lo (by omega) (by omega), show rowsC y a 13 _ _ (up2 S (k + 1) 0 x) = rowsC y a 13 _ _ S from rows_lo (by omega) (by omega), show rowsC y a 14 _ _ (up2 S (k + 1) 0 x) = rowsC y a 14 _ _ S from rows_lo (by omega) (by omega)]
  rw [List.set_append_left _ _ (by show 0 < 8; omega)]
  congr 1
  rcases (by omega : k = 6 ∨ k = 7 ∨ k = 8) with rfl | rfl | rfl
  · simp only [sHd, sF, List.set_cons_zero]; rw [e 1 (by omega), e 6 (by omega), e 8 (by omega), e 9 (by omega), e2]; rfl
  · simp only [sHd, sF, List.set_cons_zero]; rw [e 1 (by omega), e 6 (by omega), e 7 (by omega), e 9 (by omega), e2]; rfl
  · simp only [sHd, sF, List.set_cons_zero]; rw [e 1 (by omega), e 6 (by omega), e 7 (by omega), e 8 (by omega), e2]; rfl
theorem iX3_6 (y : Nat → ClassId) (b : Nat) (a Y : Nat → Nat) (S : St) : xI (sC y b a Y S) b 3 (sF a S) 6 (fun x => sC y b a Y (up2 S 7 0 x)) := iX3_g y b a Y S 6 (by omega) (by omega)
theorem iX3_7 (y : Nat → ClassId) (b : Nat) (a Y : Nat → Nat) (S : St) : xI (sC y b a Y S) b 3 (sF a S) 7 (fun x => sC y b a Y (up2 S 8 0 x)) := iX3_g y b a Y S 7 (by omega) (by omega)
theorem iX3_8 (y : Nat → ClassId) (b : Nat) (a Y : Nat → Nat) (S : St) : xI (sC y b a Y S) b 3 (sF a S) 8 (fun x => sC y b a Y (up2 S 9 0 x)) := iX3_g y b a Y S 8 (by omega) (by omega)
theorem aX3_g (y : Nat → ClassId) (b : Nat) (a Y : Nat → Nat) (S : St) (k q n : Nat) (hk : k = 1 ∧ q = 1 ∧ n = Y 1 ∨ k = 6 ∧ q = 2 ∧ n = 10) : xA (sC y b a Y S) (a k) (y 0) n (S k) (fun f => sC y b a Y (up1 S k f)) := by
  have hk2 : k < 10 := by omega
  rcases hk with ⟨rfl, rfl, rfl⟩ | ⟨rfl, rfl, rfl⟩
  · refine ⟨1, rfl, fun f => ?_⟩
    unfold sC
    dsimp only
    rw [rows_lo (g := 10) (by omega) hk2, rows_lo (g := 11) (by omega) hk2, rows_lo (g := 12) (by omega) hk2, rows_lo (g := 13) (by omega) hk2, rows_lo (g := 14) (by omega) hk2]
    rfl
  · refine ⟨2, rfl, fun f => ?_⟩
    unfold sC
    dsimp only
    rw [rows_lo (g := 10) (by omega) hk2, rows_lo (g := 11) (by omega) hk2, rows_lo (g := 12) (by omega) hk2, rows_lo (g := 13) (by omega) hk2, rows_lo (g := 14) (by omega) hk2]
    rfl
theorem aX3_0 (y : Nat → ClassId) (b : Nat) (a Y : Nat → Nat) (S : St) : xA (sC y b a Y S) (a 1) (y 0) (Y 1) (S 1) (fun f => sC y b a Y (up1 S 1 f)) := aX3_g y b a Y S 1 1 (Y 1) (.inl ⟨rfl, rfl, rfl⟩)
theorem aX3_5 (y : Nat → ClassId) (b : Nat) (a Y : Nat → Nat) (S : St) : xA (sC y b a Y S) (a 6) (y 0) 10 (S 6) (fun f => sC y b a Y (up1 S 6 f)) := aX3_g y b a Y S 6 2 10 (.inr ⟨rfl, rfl, rfl⟩)
theorem gX3_1 (y : Nat → ClassId) (b : Nat) (a Y : Nat → Nat) (S : St) : xR (sC y b a Y S) (a 2) (y 2) (Y 2) (fun i => if i < Y 2 then some (a (rk 10 i)) else none) := ⟨3, rfl⟩
theorem gX3_2 (y : Nat → ClassId) (b : Nat) (a Y : Nat → Nat) (S : St) : xR (sC y b a Y S) (a 3) (y 2) (Y 3) (fun i => if i < Y 3 then some (a (rk 11 i)) else none) := ⟨4, rfl⟩
theorem gX3_3 (y : Nat → ClassId) (b : Nat) (a Y : Nat → Nat) (S : St) : xR (sC y b a Y S) (a 4) (y 2) (Y 4) (fun i => if i < Y 4 then some (a (rk 12 i)) else none) := ⟨5, rfl⟩
theorem gX3_4 (y : Nat → ClassId) (b : Nat) (a Y : Nat → Nat) (S : St) : xR (sC y b a Y S) (a 5) (y 2) (Y 5) (fun i => if i < Y 5 then some (a (rk 13 i)) else none) := ⟨6, rfl⟩
theorem gX3_9 (y : Nat → ClassId) (b : Nat) (a Y : Nat → Nat) (S : St) : xR (sC y b a Y S) (a 15) (y 2) 12 (fun i => if i < 12 then some (a (rk 14 i)) else none) := ⟨7, rfl⟩
theorem aX3_r1 (y : Nat → ClassId) (b : Nat) (a Y : Nat → Nat) (S : St) {i : Nat} (h : i < Y 2) : xA (sC y b a Y S) (a (rk 10 i)) (y 0) 3 (S (rk 10 i)) (fun f => sC y b a Y (up1 S (rk 10 i) f)) :=
  (((rowsC_xA h).L).R).cg fun f => by
    unfold sC
    rw [sHd_ne (by omega), rows_up (g := 10) (g' := 11) (by omega) (by omega) (by omega), rows_up (g := 10) (g' := 12) (by omega) (by omega) (by omega), rows_up (g := 10) (g' := 13) (by omega) (by omega) (by omega), rows_up (g := 10) (g' := 14) (by omega) (by omega) (by omega)]
theorem aX3_r2 (y : Nat → ClassId) (b : Nat) (a Y : Nat → Nat) (S : St) {i : Nat} (h : i < Y 3) : xA (sC y b a Y S) (a (rk 11 i)) (y 0) 8 (S (rk 11 i)) (fun f => sC y b a Y (up1 S (rk 11 i) f)) :=
  ((((rowsC_xA h).L).R).R).cg fun f => by
    unfold sC
    rw [sHd_ne (by omega), rows_up (g := 11) (g' := 10) (by omega) (by omega) (by omega), rows_up (g := 11) (g' := 12) (by omega) (by omega) (by omega), rows_up (g := 11) (g' := 13) (by omega) (by omega) (by omega), rows_up (g := 11) (g' := 14) (by omega) (by omega) (by omega)]
theorem aX3_r3 (y : Nat → ClassId) (b : Nat) (a Y : Nat → Nat) (S : St) {i : Nat} (h : i < Y 4) : xA (sC y b a Y S) (a (rk 12 i)) (y 0) 9 (S (rk 12 i)) (fun f => sC y b a Y (up1 S (rk 12 i) f)) :=
  (((((rowsC_xA h).L).R).R).R).cg fun f => by
    unfold sC
    rw [sHd_ne (by omega), rows_up (g := 12) (g' := 10) (by omega) (by omega) (by omega), rows_up (g := 12) (g' := 11) (by omega) (by omega) (by omega), rows_up (g := 12) (g' := 13) (by omega) (by omega) (by omega), rows_up (g := 12) (g' := 14) (by omega) (by omega) (by omega)]
theorem aX3_r4 (y : Nat → ClassId) (b : Nat) (a Y : Nat → Nat) (S : St) {i : Nat} (h : i < Y 5) : xA (sC y b a Y S) (a (rk 13 i)) (y 0) (Y (rk 13 i)) (S (rk 13 i)) (fun f => sC y b a Y (up1 S (rk 13 i) f)) :=
  ((((((rowsC_xA (w := fun i => Y (rk 13 i)) h).L).R).R).R).R).cg fun f => by
    unfold sC
    rw [sHd_ne (by omega), rows_up (g := 13) (g' := 10) (by omega) (by omega) (by omega), rows_up (g := 13) (g' := 11) (by omega) (by omega) (by omega), rows_up (g := 13) (g' := 12) (by omega) (by omega) (by omega), rows_up (g := 13) (g' := 14) (by omega) (by omega) (by omega)]
theorem aX3_r9 (y : Nat → ClassId) (b : Nat) (a Y : Nat → Nat) (S : St) {i : Nat} (h : i < 12) : xA (sC y b a Y S) (a (rk 14 i)) (y 0) 12 (S (rk 14 i)) (fun f => sC y b a Y (up1 S (rk 14 i) f)) :=
  ((((((rowsC_xA h).R).R).R).R).R).cg fun f => by
    unfold sC
    rw [sHd_ne (by omega), rows_up (g := 14) (g' := 10) (by omega) (by omega) (by omega), rows_up (g := 14) (g' := 11) (by omega) (by omega) (by omega), rows_up (g := 14) (g' := 12) (by omega) (by omega) (by omega), rows_up (g := 14) (g' := 13) (by omega) (by omega) (by omega)]
section XA2
variable {p : Program} {l : Launch} {e : Env} {R : Room} {s : State} {m : MethodId} {args : Array Value} {below : List Frame} {meth : Method} {c : Code} {Q : State → Prop}
variable {D : va_G} {A : Nat → Prop} {cc : ByteArray} {own : String} {nL : Nat} {Ts : List Cond} {tys : List (ClassId × FieldType)} {ret : Option FieldType}
variable {ws ws' : va_W} {k n pc q : Nat} {L L' : List (Nat × Value)} {st : List Value}
theorem x_alenr (C : xC p s m args meth c D A cc own nL Ts tys ret) {a n0 : Nat} {cA : ClassId} {f : Nat → Option Nat} {ty : FieldType} (t0 : Nat) (d : decode cc pc = .ok (.arraylength, 1)) (ho : xR ws a cA n0 f) (ht : tys[t0]? = some (cA, ty)) (hq : pc + 1 = q) (kk : xV p l e R s m args below meth c D A Q nL ws k n L q (.int (Int32.ofNat n0) :: st)) : xV p l e R s m args below meth c D A Q nL ws k n L pc (.ref a :: st) := by
  intro H locs ls hP hD hS hl
  obtain ⟨q0, h0⟩ := ho
  exact va_alen C.1 C.2.1 C.2.2.2.2.2.1 hP q0 t0 h0 ht rfl d (hq ▸ kk H locs ls hP hD hS hl)
end XA2
