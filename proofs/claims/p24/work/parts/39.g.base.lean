/-! BINDERS, ASSOCIATIVITY, PERMUTATIONS for the law's own walks -/
def xF32 : Nat := 32
def xF64 : Nat := 64
def bd4 {α β γ δ ω : Type} (a : Option (α × β × γ × δ)) (k : α → β → γ → δ → Option ω) : Option ω := match a with
  | some (x, y, z, w) => k x y z w
  | none => none
theorem bd4_some {α β γ δ ω : Type} {a : Option (α × β × γ × δ)} {k : α → β → γ → δ → Option ω} {o : ω} (h : bd4 a k = some o) : ∃ x y z w, a = some (x, y, z, w) ∧ k x y z w = some o := by
  match a, h with
  | some (x, y, z, w), h => exact ⟨x, y, z, w, rfl, h⟩
theorem bd4_e {α β γ δ ω : Type} (x : α) (y : β) (z : γ) (w : δ) (k : α → β → γ → δ → Option ω) : bd4 (some (x, y, z, w)) k = k x y z w := rfl
def bd5 {α β γ δ ε ω : Type} (a : Option (α × β × γ × δ × ε)) (k : α → β → γ → δ → ε → Option ω) : Option ω := match a with
  | some (x, y, z, w, v) => k x y z w v
  | none => none
theorem bd5_some {α β γ δ ε ω : Type} {a : Option (α × β × γ × δ × ε)} {k : α → β → γ → δ → ε → Option ω} {o : ω} (h : bd5 a k = some o) : ∃ x y z w v, a = some (x, y, z, w, v) ∧ k x y z w v = some o := by
  match a, h with
  | some (x, y, z, w, v), h => exact ⟨x, y, z, w, v, rfl, h⟩
theorem bd5_e {α β γ δ ε ω : Type} (x : α) (y : β) (z : γ) (w : δ) (v : ε) (k : α → β → γ → δ → ε → Option ω) : bd5 (some (x, y, z, w, v)) k = k x y z w v := rfl
def br {α ω : Type} (a : Option (Nat ⊕ (α))) (k : α → Option ω) : Option ω := match a with
  | some (.inr x) => k x
  | _ => none
theorem br_some {α ω : Type} {a : Option (Nat ⊕ (α))} {k : α → Option ω} {o : ω} (h : br a k = some o) : ∃ x, a = some (.inr x) ∧ k x = some o := by
  match a, h with
  | some (.inr x), h => exact ⟨x, rfl, h⟩
theorem br_e {α ω : Type} (x : α) (k : α → Option ω) : br (some (.inr x)) k = k x := rfl
def br2 {α β ω : Type} (a : Option (Nat ⊕ (α × β))) (k : α → β → Option ω) : Option ω := match a with
  | some (.inr (x, y)) => k x y
  | _ => none
theorem br2_some {α β ω : Type} {a : Option (Nat ⊕ (α × β))} {k : α → β → Option ω} {o : ω} (h : br2 a k = some o) : ∃ x y, a = some (.inr (x, y)) ∧ k x y = some o := by
  match a, h with
  | some (.inr (x, y)), h => exact ⟨x, y, rfl, h⟩
theorem br2_e {α β ω : Type} (x : α) (y : β) (k : α → β → Option ω) : br2 (some (.inr (x, y))) k = k x y := rfl
def br3 {α β γ ω : Type} (a : Option (Nat ⊕ (α × β × γ))) (k : α → β → γ → Option ω) : Option ω := match a with
  | some (.inr (x, y, z)) => k x y z
  | _ => none
theorem br3_some {α β γ ω : Type} {a : Option (Nat ⊕ (α × β × γ))} {k : α → β → γ → Option ω} {o : ω} (h : br3 a k = some o) : ∃ x y z, a = some (.inr (x, y, z)) ∧ k x y z = some o := by
  match a, h with
  | some (.inr (x, y, z)), h => exact ⟨x, y, z, rfl, h⟩
theorem br3_e {α β γ ω : Type} (x : α) (y : β) (z : γ) (k : α → β → γ → Option ω) : br3 (some (.inr (x, y, z))) k = k x y z := rfl
theorem asr1 {α : Type} (b0 b1 : List α) : b0 ++ (b1) = (b0) ++ b1 := rfl
theorem asr2 {α : Type} (b0 b1 b2 : List α) : b0 ++ (b1 ++ (b2)) = (b0 ++ (b1)) ++ b2 := by simp only [List.append_assoc]
theorem asr3 {α : Type} (b0 b1 b2 b3 : List α) : b0 ++ (b1 ++ (b2 ++ (b3))) = (b0 ++ (b1 ++ (b2))) ++ b3 := by simp only [List.append_assoc]
theorem asr4 {α : Type} (b0 b1 b2 b3 b4 : List α) : b0 ++ (b1 ++ (b2 ++ (b3 ++ (b4)))) = (b0 ++ (b1 ++ (b2 ++ (b3)))) ++ b4 := by simp only [List.append_assoc]
theorem asr5 {α : Type} (b0 b1 b2 b3 b4 b5 : List α) : b0 ++ (b1 ++ (b2 ++ (b3 ++ (b4 ++ (b5))))) = (b0 ++ (b1 ++ (b2 ++ (b3 ++ (b4))))) ++ b5 := by simp only [List.append_assoc]
theorem asr6 {α : Type} (b0 b1 b2 b3 b4 b5 b6 : List α) : b0 ++ (b1 ++ (b2 ++ (b3 ++ (b4 ++ (b5 ++ (b6)))))) = (b0 ++ (b1 ++ (b2 ++ (b3 ++ (b4 ++ (b5)))))) ++ b6 := by simp only [List.append_assoc]
theorem asr7 {α : Type} (b0 b1 b2 b3 b4 b5 b6 b7 : List α) : b0 ++ (b1 ++ (b2 ++ (b3 ++ (b4 ++ (b5 ++ (b6 ++ (b7))))))) = (b0 ++ (b1 ++ (b2 ++ (b3 ++ (b4 ++ (b5 ++ (b6))))))) ++ b7 := by simp only [List.append_assoc]
theorem asr8 {α : Type} (b0 b1 b2 b3 b4 b5 b6 b7 b8 : List α) : b0 ++ (b1 ++ (b2 ++ (b3 ++ (b4 ++ (b5 ++ (b6 ++ (b7 ++ (b8)))))))) = (b0 ++ (b1 ++ (b2 ++ (b3 ++ (b4 ++ (b5 ++ (b6 ++ (b7)))))))) ++ b8 := by simp only [List.append_assoc]
def ggC (y : Nat → ClassId) (a : Nat) (r : Nat → Nat) (N K : Nat) (W : St) : va_W := refC y a N r :: (List.range N).map (fun i => (r i, .inl (y 0, K, .inl (W i))))
def W0 : St := fun _ _ => 0
theorem ggasc {α : Type} (ws : List α) (c : α) (rows : List α) : (ws ++ [c]) ++ rows = ws ++ (c :: rows) := by simp
theorem ggR (y : Nat → ClassId) (a : Nat) (r : Nat → Nat) (N K : Nat) (W : St) : xR (ggC y a r N K W) a (y 2) N (fun i => if i < N then some (r i) else none) := ⟨0, rfl⟩
theorem ggA (y : Nat → ClassId) (a : Nat) (r : Nat → Nat) (N K : Nat) (W : St) {i : Nat} (h : i < N) : xA (ggC y a r N K W) (r i) (y 0) K (W i) (fun f => ggC y a r N K (up1 W i f)) := by
  refine ⟨i + 1, by simp [ggC, h], fun f => ?_⟩
  unfold ggC
  rw [List.set_cons_succ]
  congr 1
  apply List.ext_getElem
  · simp
  · intro j h1 h2
    simp only [List.getElem_set, List.getElem_map, List.getElem_range]
    by_cases hj : i = j
    · subst hj
      rw [if_pos rfl, up1_eq]
    · rw [if_neg hj, up1_ne (fun e => hj e.symm)]
theorem pm6_01234 {α : Type} (b0 b1 b2 b3 b4 b5 : List α) : (b0 ++ (b1 ++ (b2 ++ (b3 ++ (b4 ++ (b5)))))).Perm ((b0 ++ (b1 ++ (b2 ++ (b3 ++ (b4))))) ++ (b5)) := by
  classical
  exact List.perm_iff_count.mpr fun a => by simp only [List.count_append] <;> omega
theorem pm6_5 {α : Type} (b0 b1 b2 b3 b4 b5 : List α) : (b0 ++ (b1 ++ (b2 ++ (b3 ++ (b4 ++ (b5)))))).Perm ((b5) ++ (b0 ++ (b1 ++ (b2 ++ (b3 ++ (b4)))))) := by
  classical
  exact List.perm_iff_count.mpr fun a => by simp only [List.count_append] <;> omega
theorem pm7_5 {α : Type} (b0 b1 b2 b3 b4 b5 b6 : List α) : (b0 ++ (b1 ++ (b2 ++ (b3 ++ (b4 ++ (b5 ++ (b6))))))).Perm ((b5) ++ (b0 ++ (b1 ++ (b2 ++ (b3 ++ (b4 ++ (b6))))))) := by
  classical
  exact List.perm_iff_count.mpr fun a => by simp only [List.count_append] <;> omega
theorem pm7_01234 {α : Type} (b0 b1 b2 b3 b4 b5 b6 : List α) : (b0 ++ (b1 ++ (b2 ++ (b3 ++ (b4 ++ (b5 ++ (b6))))))).Perm ((b0 ++ (b1 ++ (b2 ++ (b3 ++ (b4))))) ++ (b5 ++ (b6))) := by
  classical
  exact List.perm_iff_count.mpr fun a => by simp only [List.count_append] <;> omega
theorem pm8_01234 {α : Type} (b0 b1 b2 b3 b4 b5 b6 b7 : List α) : (b0 ++ (b1 ++ (b2 ++ (b3 ++ (b4 ++ (b5 ++ (b6 ++ (b7)))))))).Perm ((b0 ++ (b1 ++ (b2 ++ (b3 ++ (b4))))) ++ (b5 ++ (b6 ++ (b7)))) := by
  classical
  exact List.perm_iff_count.mpr fun a => by simp only [List.count_append] <;> omega
theorem pm8_5 {α : Type} (b0 b1 b2 b3 b4 b5 b6 b7 : List α) : (b0 ++ (b1 ++ (b2 ++ (b3 ++ (b4 ++ (b5 ++ (b6 ++ (b7)))))))).Perm ((b5) ++ (b0 ++ (b1 ++ (b2 ++ (b3 ++ (b4 ++ (b6 ++ (b7)))))))) := by
  classical
  exact List.perm_iff_count.mpr fun a => by simp only [List.count_append] <;> omega
