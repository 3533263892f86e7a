/-! THE WORLDS: an object's state is a function: field, place -> number; the cells that hold it, at the addresses a -/
abbrev St : Type := Nat → Nat → Int32
def xF : Nat := 1000
def xT (y : Nat → ClassId) : List (ClassId × FieldType) := [(y 0, .int), (y 1, .boolean), (y 2, .array .int)]
theorem xin_lt {i : Int32} {n : Nat} (h : xin i n = true) : i.toNatClampNeg < n := by
  have h1 := xin_of h
  rcases Nat.lt_or_ge i.toNatClampNeg n with q | q
  · exact q
  · exact absurd (Or.inr q) h1
def xcp (sp dp nn : Int32) (n0 n1 : Nat) : Bool := decide (¬ sp < 0 ∧ ¬ dp < 0 ∧ ¬ nn < 0 ∧ sp.toNatClampNeg + nn.toNatClampNeg ≤ n0 ∧ dp.toNatClampNeg + nn.toNatClampNeg ≤ n1)
def zC (y : Nat → ClassId) (a n : Nat) (f : Nat → Int32) : va_W := [(a, .inl (y 0, n, .inl f))]
theorem zA (y : Nat → ClassId) (a n : Nat) (f : Nat → Int32) : xA (zC y a n f) a (y 0) n f (fun f' => zC y a n f') := ⟨0, rfl, fun _ => rfl⟩
def bd2 {α β γ : Type} (a : Option (α × β)) (k : α → β → Option γ) : Option γ := match a with
  | some (x, y) => k x y
  | none => none
theorem bd2_some {α β γ : Type} {a : Option (α × β)} {k : α → β → Option γ} {o : γ} (h : bd2 a k = some o) : ∃ x y, a = some (x, y) ∧ k x y = some o := by
  match a, h with
  | some (x, y), h => exact ⟨x, y, rfl, h⟩
def bd3 {α β γ δ : Type} (a : Option (α × β × γ)) (k : α → β → γ → Option δ) : Option δ := match a with
  | some (x, y, z) => k x y z
  | none => none
theorem bd3_some {α β γ δ : Type} {a : Option (α × β × γ)} {k : α → β → γ → Option δ} {o : δ} (h : bd3 a k = some o) : ∃ x y z, a = some (x, y, z) ∧ k x y z = some o := by
  match a, h with
  | some (x, y, z), h => exact ⟨x, y, z, rfl, h⟩
theorem pm_nil {α : Type} {w : List α} : w.Perm (w ++ []) := by rw [List.append_nil]
theorem pm_emp {α : Type} {w : List α} : w.Perm ([] ++ w) := List.Perm.refl _
def nF (a : Nat → Nat) (S : St) : List Value := [.int (S 0 0), .int (S 1 0), .int (S 2 0), .ref (a 3), .ref (a 4), .ref (a 5), .ref (a 6), .ref (a 7), .ref (a 8), .ref (a 9), .ref (a 10), .ref (a 11), .ref (a 12), .ref (a 13), .ref (a 14), .ref (a 15)]
def nC (y : Nat → ClassId) (a : Nat → Nat) (S : St) : va_W := [(a 0, .inr (0, nF a S)), (a 3, .inl (y 0, 18, .inl (S 3))), (a 4, .inl (y 0, 20, .inl (S 4))), (a 5, .inl (y 0, 20, .inl (S 5))), (a 6, .inl (y 1, 20, .inl (S 6))), (a 7, .inl (y 0, 20, .inl (S 7))), (a 8, .inl (y 0, 20, .inl (S 8))), (a 9, .inl (y 0, 4, .inl (S 9))), (a 10, .inl (y 0, 4, .inl (S 10))), (a 11, .inl (y 0, 4, .inl (S 11))), (a 12, .inl (y 0, 4, .inl (S 12))), (a 13, .inl (y 0, 4, .inl (S 13))), (a 14, .inl (y 0, 4, .inl (S 14))), (a 15, .inl (y 0, 4, .inl (S 15)))]
theorem oX0 (y : Nat → ClassId) (a : Nat → Nat) (S : St) : xO (nC y a S) (a 0) 0 (nF a S) := ⟨0, rfl⟩
theorem iX0_0 (y : Nat → ClassId) (a : Nat → Nat) (S : St) : xI (nC y a S) (a 0) 0 (nF a S) 0 (fun x => nC y a (up2 S 0 0 x)) := ⟨0, rfl, Nat.le_of_ble_eq_true rfl, fun _ => rfl⟩
theorem iX0_1 (y : Nat → ClassId) (a : Nat → Nat) (S : St) : xI (nC y a S) (a 0) 0 (nF a S) 1 (fun x => nC y a (up2 S 1 0 x)) := ⟨0, rfl, Nat.le_of_ble_eq_true rfl, fun _ => rfl⟩
theorem iX0_2 (y : Nat → ClassId) (a : Nat → Nat) (S : St) : xI (nC y a S) (a 0) 0 (nF a S) 2 (fun x => nC y a (up2 S 2 0 x)) := ⟨0, rfl, Nat.le_of_ble_eq_true rfl, fun _ => rfl⟩
theorem aX0_3 (y : Nat → ClassId) (a : Nat → Nat) (S : St) : xA (nC y a S) (a 3) (y 0) 18 (S 3) (fun f => nC y a (up1 S 3 f)) := ⟨1, rfl, fun _ => rfl⟩
theorem aX0_4 (y : Nat → ClassId) (a : Nat → Nat) (S : St) : xA (nC y a S) (a 4) (y 0) 20 (S 4) (fun f => nC y a (up1 S 4 f)) := ⟨2, rfl, fun _ => rfl⟩
theorem aX0_5 (y : Nat → ClassId) (a : Nat → Nat) (S : St) : xA (nC y a S) (a 5) (y 0) 20 (S 5) (fun f => nC y a (up1 S 5 f)) := ⟨3, rfl, fun _ => rfl⟩
theorem aX0_6 (y : Nat → ClassId) (a : Nat → Nat) (S : St) : xA (nC y a S) (a 6) (y 1) 20 (S 6) (fun f => nC y a (up1 S 6 f)) := ⟨4, rfl, fun _ => rfl⟩
theorem aX0_7 (y : Nat → ClassId) (a : Nat → Nat) (S : St) : xA (nC y a S) (a 7) (y 0) 20 (S 7) (fun f => nC y a (up1 S 7 f)) := ⟨5, rfl, fun _ => rfl⟩
theorem aX0_8 (y : Nat → ClassId) (a : Nat → Nat) (S : St) : xA (nC y a S) (a 8) (y 0) 20 (S 8) (fun f => nC y a (up1 S 8 f)) := ⟨6, rfl, fun _ => rfl⟩
theorem aX0_9 (y : Nat → ClassId) (a : Nat → Nat) (S : St) : xA (nC y a S) (a 9) (y 0) 4 (S 9) (fun f => nC y a (up1 S 9 f)) := ⟨7, rfl, fun _ => rfl⟩
theorem aX0_10 (y : Nat → ClassId) (a : Nat → Nat) (S : St) : xA (nC y a S) (a 10) (y 0) 4 (S 10) (fun f => nC y a (up1 S 10 f)) := ⟨8, rfl, fun _ => rfl⟩
theorem aX0_11 (y : Nat → ClassId) (a : Nat → Nat) (S : St) : xA (nC y a S) (a 11) (y 0) 4 (S 11) (fun f => nC y a (up1 S 11 f)) := ⟨9, rfl, fun _ => rfl⟩
theorem aX0_12 (y : Nat → ClassId) (a : Nat → Nat) (S : St) : xA (nC y a S) (a 12) (y 0) 4 (S 12) (fun f => nC y a (up1 S 12 f)) := ⟨10, rfl, fun _ => rfl⟩
theorem aX0_13 (y : Nat → ClassId) (a : Nat → Nat) (S : St) : xA (nC y a S) (a 13) (y 0) 4 (S 13) (fun f => nC y a (up1 S 13 f)) := ⟨11, rfl, fun _ => rfl⟩
theorem aX0_14 (y : Nat → ClassId) (a : Nat → Nat) (S : St) : xA (nC y a S) (a 14) (y 0) 4 (S 14) (fun f => nC y a (up1 S 14 f)) := ⟨12, rfl, fun _ => rfl⟩
theorem aX0_15 (y : Nat → ClassId) (a : Nat → Nat) (S : St) : xA (nC y a S) (a 15) (y 0) 4 (S 15) (fun f => nC y a (up1 S 15 f)) := ⟨13, rfl, fun _ => rfl⟩
def tF (a : Nat → Nat) (S : St) : List Value := [.int (S 0 0), .ref (a 1), .ref (a 2), .int (S 3 0), .ref (a 4), .ref (a 5), .ref (a 6), .int (S 7 0), .ref (a 8), .ref (a 9), .ref (a 10), .ref (a 11), .int (S 12 0), .ref (a 13), .ref (a 14), .ref (a 15), .ref (a 16)]
def tC (y : Nat → ClassId) (a : Nat → Nat) (S : St) : va_W := [(a 0, .inr (1, tF a S)), (a 1, .inl (y 0, 12, .inl (S 1))), (a 2, .inl (y 2, 12, .inr (.inr (.inr (.inr (fun i => if i < 12 then some (a (100 + i)) else none)))))), (a 4, .inl (y 0, 18, .inl (S 4))), (a 5, .inl (y 0, 18, .inl (S 5))), (a 6, .inl (y 0, 18, .inl (S 6))), (a 8, .inl (y 0, 20, .inl (S 8))), (a 9, .inl (y 0, 20, .inl (S 9))), (a 10, .inl (y 0, 20, .inl (S 10))), (a 11, .inl (y 0, 10, .inl (S 11))), (a 13, .inl (y 0, 4, .inl (S 13))), (a 14, .inl (y 0, 4, .inl (S 14))), (a 15, .inl (y 0, 4, .inl (S 15))), (a 16, .inl (y 2, 4, .inr (.inr (.inr (.inr (fun i => if i < 4 then some (a (200 + i)) else none)))))), (a 100, .inl (y 0, 12, .inl (S 100))), (a 101, .inl (y 0, 12, .inl (S 101))), (a 102, .inl (y 0, 12, .inl (S 102))), (a 103, .inl (y 0, 12, .inl (S 103))), (a 104, .inl (y 0, 12, .inl (S 104))), (a 105, .inl (y 0, 12, .inl (S 105))), (a 106, .inl (y 0, 12, .inl (S 106))), (a 107, .inl (y 0, 12, .inl (S 107))), (a 108, .inl (y 0, 12, .inl (S 108))), (a 109, .inl (y 0, 12, .inl (S 109))), (a 110, .inl (y 0, 12, .inl (S 110))), (a 111, .inl (y 0, 12, .inl (S 111))), (a 200, .inl (y 0, 10, .inl (S 200))), (a 201, .inl (y 0, 10, .inl (S 201))), (a 202, .inl (y 0, 10, .inl (S 202))), (a 203, .inl (y 0, 10, .inl (S 203)))]
theorem oX1 (y : Nat → ClassId) (a : Nat → Nat) (S : St) : xO (tC y a S) (a 0) 1 (tF a S) := ⟨0, rfl⟩
theorem iX1_0 (y : Nat → ClassId) (a : Nat → Nat) (S : St) : xI (tC y a S) (a 0) 1 (tF a S) 0 (fun x => tC y a (up2 S 0 0 x)) := ⟨0, rfl, Nat.le_of_ble_eq_true rfl, fun _ => rfl⟩
theorem iX1_3 (y : Nat → ClassId) (a : Nat → Nat) (S : St) : xI (tC y a S) (a 0) 1 (tF a S) 3 (fun x => tC y a (up2 S 3 0 x)) := ⟨0, rfl, Nat.le_of_ble_eq_true rfl, fun _ => rfl⟩
theorem iX1_7 (y : Nat → ClassId) (a : Nat → Nat) (S : St) : xI (tC y a S) (a 0) 1 (tF a S) 7 (fun x => tC y a (up2 S 7 0 x)) := ⟨0, rfl, Nat.le_of_ble_eq_true rfl, fun _ => rfl⟩
theorem iX1_12 (y : Nat → ClassId) (a : Nat → Nat) (S : St) : xI (tC y a S) (a 0) 1 (tF a S) 12 (fun x => tC y a (up2 S 12 0 x)) := ⟨0, rfl, Nat.le_of_ble_eq_true rfl, fun _ => rfl⟩
theorem aX1_1 (y : Nat → ClassId) (a : Nat → Nat) (S : St) : xA (tC y a S) (a 1) (y 0) 12 (S 1) (fun f => tC y a (up1 S 1 f)) := ⟨1, rfl, fun _ => rfl⟩
theorem gX1_2 (y : Nat → ClassId) (a : Nat → Nat) (S : St) : xR (tC y a S) (a 2) (y 2) 12 (fun i => if i < 12 then some (a (100 + i)) else none) := ⟨2, rfl⟩
theorem aX1_4 (y : Nat → ClassId) (a : Nat → Nat) (S : St) : xA (tC y a S) (a 4) (y 0) 18 (S 4) (fun f => tC y a (up1 S 4 f)) := ⟨3, rfl, fun _ => rfl⟩
theorem aX1_5 (y : Nat → ClassId) (a : Nat → Nat) (S : St) : xA (tC y a S) (a 5) (y 0) 18 (S 5) (fun f => tC y a (up1 S 5 f)) := ⟨4, rfl, fun _ => rfl⟩
theorem aX1_6 (y : Nat → ClassId) (a : Nat → Nat) (S : St) : xA (tC y a S) (a 6) (y 0) 18 (S 6) (fun f => tC y a (up1 S 6 f)) := ⟨5, rfl, fun _ => rfl⟩
theorem aX1_8 (y : Nat → ClassId) (a : Nat → Nat) (S : St) : xA (tC y a S) (a 8) (y 0) 20 (S 8) (fun f => tC y a (up1 S 8 f)) := ⟨6, rfl, fun _ => rfl⟩
theorem aX1_9 (y : Nat → ClassId) (a : Nat → Nat) (S : St) : xA (tC y a S) (a 9) (y 0) 20 (S 9) (fun f => tC y a (up1 S 9 f)) := ⟨7, rfl, fun _ => rfl⟩
theorem aX1_10 (y : Nat → ClassId) (a : Nat → Nat) (S : St) : xA (tC y a S) (a 10) (y 0) 20 (S 10) (fun f => tC y a (up1 S 10 f)) := ⟨8, rfl, fun _ => rfl⟩
theorem aX1_11 (y : Nat → ClassId) (a : Nat → Nat) (S : St) : xA (tC y a S) (a 11) (y 0) 10 (S 11) (fun f => tC y a (up1 S 11 f)) := ⟨9, rfl, fun _ => rfl⟩
theorem aX1_13 (y : Nat → ClassId) (a : Nat → Nat) (S : St) : xA (tC y a S) (a 13) (y 0) 4 (S 13) (fun f => tC y a (up1 S 13 f)) := ⟨10, rfl, fun _ => rfl⟩
theorem aX1_14 (y : Nat → ClassId) (a : Nat → Nat) (S : St) : xA (tC y a S) (a 14) (y 0) 4 (S 14) (fun f => tC y a (up1 S 14 f)) := ⟨11, rfl, fun _ => rfl⟩
theorem aX1_15 (y : Nat → ClassId) (a : Nat → Nat) (S : St) : xA (tC y a S) (a 15) (y 0) 4 (S 15) (fun f => tC y a (up1 S 15 f)) := ⟨12, rfl, fun _ => rfl⟩
theorem gX1_16 (y : Nat → ClassId) (a : Nat → Nat) (S : St) : xR (tC y a S) (a 16) (y 2) 4 (fun i => if i < 4 then some (a (200 + i)) else none) := ⟨13, rfl⟩
theorem aX1_r2 (y : Nat → ClassId) (a : Nat → Nat) (S : St) {i : Nat} (h : i < 12) : xA (tC y a S) (a (100 + i)) (y 0) 12 (S (100 + i)) (fun f => tC y a (up1 S (100 + i) f)) := by
  match i, h with
  | 0, _ => exact ⟨14, rfl, fun _ => rfl⟩
  | 1, _ => exact ⟨15, rfl, fun _ => rfl⟩
  | 2, _ => exact ⟨16, rfl, fun _ => rfl⟩
  | 3, _ => exact ⟨17, rfl, fun _ => rfl⟩
  | 4, _ => exact ⟨18, rfl, fun _ => rfl⟩
  | 5, _ => exact ⟨19, rfl, fun _ => rfl⟩
  | 6, _ => exact ⟨20, rfl, fun _ => rfl⟩
  | 7, _ => exact ⟨21, rfl, fun _ => rfl⟩
  | 8, _ => exact ⟨22, rfl, fun _ => rfl⟩
  | 9, _ => exact ⟨23, rfl, fun _ => rfl⟩
  | 10, _ => exact ⟨24, rfl, fun _ => rfl⟩
  | 11, _ => exact ⟨25, rfl, fun _ => rfl⟩
theorem aX1_r16 (y : Nat → ClassId) (a : Nat → Nat) (S : St) {i : Nat} (h : i < 4) : xA (tC y a S) (a (200 + i)) (y 0) 10 (S (200 + i)) (fun f => tC y a (up1 S (200 + i) f)) := by
  match i, h with
  | 0, _ => exact ⟨26, rfl, fun _ => rfl⟩
  | 1, _ => exact ⟨27, rfl, fun _ => rfl⟩
  | 2, _ => exact ⟨28, rfl, fun _ => rfl⟩
  | 3, _ => exact ⟨29, rfl, fun _ => rfl⟩
def xF11 : Nat := 11
def xF5 : Nat := 5
def xF8 : Nat := 8
theorem as2 {α : Type} {a b z : List α} : (a ++ b) ++ z = a ++ (b ++ z) := List.append_assoc a b z
theorem as3 {α : Type} {a b c z : List α} : (a ++ (b ++ c)) ++ z = a ++ (b ++ (c ++ z)) := by rw [List.append_assoc, List.append_assoc]
theorem as4 {α : Type} {a b c d z : List α} : (a ++ (b ++ (c ++ d))) ++ z = a ++ (b ++ (c ++ (d ++ z))) := by rw [List.append_assoc, List.append_assoc, List.append_assoc]
def hF (aN aF aT aG : Nat → Nat) : List Value := [.ref (aT 0), .ref (aN 0), .ref (aF 0), .ref (aG 0)]
def hC (aH : Nat) (aN aF aT aG : Nat → Nat) : va_W := [(aH, .inr (2, hF aN aF aT aG))]
theorem oX2 (aH : Nat) (aN aF aT aG : Nat → Nat) : xO (hC aH aN aF aT aG) aH 2 (hF aN aF aT aG) := ⟨0, rfl⟩
def gC (y : Nat → ClassId) (a : Nat → Nat) (S : St) : va_W := [(a 0, .inl (y 0, 18, .inl (S 0)))]
theorem aG_0 (y : Nat → ClassId) (a : Nat → Nat) (S : St) : xA (gC y a S) (a 0) (y 0) 18 (S 0) (fun f => gC y a (up1 S 0 f)) := ⟨0, rfl, fun _ => rfl⟩
theorem pm3_0 {α : Type} (b0 b1 b2 : List α) : (b0 ++ (b1 ++ b2)).Perm ((b0) ++ (b1 ++ b2)) := by
  classical
  exact List.perm_iff_count.mpr fun a => by simp only [List.count_append] <;> omega
theorem pm3_01 {α : Type} (b0 b1 b2 : List α) : (b0 ++ (b1 ++ b2)).Perm ((b0 ++ b1) ++ (b2)) := by
  classical
  exact List.perm_iff_count.mpr fun a => by simp only [List.count_append] <;> omega
theorem pm2_1 {α : Type} (b0 b1 : List α) : (b0 ++ b1).Perm ((b1) ++ (b0)) := by
  classical
  exact List.perm_iff_count.mpr fun a => by simp only [List.count_append] <;> omega
theorem pm2_0 {α : Type} (b0 b1 : List α) : (b0 ++ b1).Perm ((b0) ++ (b1)) := by
  classical
  exact List.perm_iff_count.mpr fun a => by simp only [List.count_append] <;> omega
theorem pm5_4 {α : Type} (b0 b1 b2 b3 b4 : List α) : (b0 ++ (b1 ++ (b2 ++ (b3 ++ b4)))).Perm ((b4) ++ (b0 ++ (b1 ++ (b2 ++ b3)))) := by
  classical
  exact List.perm_iff_count.mpr fun a => by simp only [List.count_append] <;> omega
theorem pm5_24 {α : Type} (b0 b1 b2 b3 b4 : List α) : (b0 ++ (b1 ++ (b2 ++ (b3 ++ b4)))).Perm ((b2 ++ b4) ++ (b0 ++ (b1 ++ b3))) := by
  classical
  exact List.perm_iff_count.mpr fun a => by simp only [List.count_append] <;> omega
theorem pm5_34 {α : Type} (b0 b1 b2 b3 b4 : List α) : (b0 ++ (b1 ++ (b2 ++ (b3 ++ b4)))).Perm ((b3 ++ b4) ++ (b0 ++ (b1 ++ b2))) := by
  classical
  exact List.perm_iff_count.mpr fun a => by simp only [List.count_append] <;> omega
theorem pm5_2 {α : Type} (b0 b1 b2 b3 b4 : List α) : (b0 ++ (b1 ++ (b2 ++ (b3 ++ b4)))).Perm ((b2) ++ (b0 ++ (b1 ++ (b3 ++ b4)))) := by
  classical
  exact List.perm_iff_count.mpr fun a => by simp only [List.count_append] <;> omega
theorem pm5_3 {α : Type} (b0 b1 b2 b3 b4 : List α) : (b0 ++ (b1 ++ (b2 ++ (b3 ++ b4)))).Perm ((b3) ++ (b0 ++ (b1 ++ (b2 ++ b4)))) := by
  classical
  exact List.perm_iff_count.mpr fun a => by simp only [List.count_append] <;> omega
theorem pm5_32 {α : Type} (b0 b1 b2 b3 b4 : List α) : (b0 ++ (b1 ++ (b2 ++ (b3 ++ b4)))).Perm ((b3 ++ b2) ++ (b0 ++ (b1 ++ b4))) := by
  classical
  exact List.perm_iff_count.mpr fun a => by simp only [List.count_append] <;> omega
theorem pm5_1 {α : Type} (b0 b1 b2 b3 b4 : List α) : (b0 ++ (b1 ++ (b2 ++ (b3 ++ b4)))).Perm ((b1) ++ (b0 ++ (b2 ++ (b3 ++ b4)))) := by
  classical
  exact List.perm_iff_count.mpr fun a => by simp only [List.count_append] <;> omega
/-- what a mean is: 0, or a quotient, or a NaN where that is one -/
def mval (d : Option (Int32 × Int32)) (r : UInt64) : Prop := match d with
  | none => r = FP.dconst0
  | some (a, n) => alike64 r (FP.ddiv (FP.i2d a) (FP.i2d n)) = true
def xMd (l : Launch) (y : MethodName) (wsM : List Cond) (rf rl mc ms : Nat) (D : va_G) (tys : List (ClassId × FieldType)) (av : List Value) (Wc : va_W) {S : Type} (post : UInt64 → S → Prop) (W' : S → va_W) : Prop :=
  ∀ sz : Nat, MetD lw_cs l y wsM { frames := rf, cells := mc, slots := ms, locals := rl } (xPc D tys av sz Wc) (va_Qd post (fun u t => xE D tys (va_A Wc sz) (W' u) t) (va_A Wc sz)) mc ms (va_A Wc sz)
def xQd (D : va_G) (tys : List (ClassId × FieldType)) (A : Nat → Prop) {S : Type} (post : UInt64 → S → Prop) (W' : S → va_W) (mc ms : Nat) (below : List Frame) (args : Array Value) (s : State) : State → Prop := MQD lw_cs below (va_Qd post (fun u t => xE D tys A (W' u) t) A) args s mc ms A
theorem xMd_of {l : Launch} {y : MethodName} {wsM ws' : List Cond} {cc : ByteArray} {nL rf rl mc ms : Nat} {ret : Option FieldType} {D : va_G} {tys : List (ClassId × FieldType)} {av : List Value} {Wc : va_W} {S : Type} {post : UInt64 → S → Prop} {W' : S → va_W} (L : List (Nat × Value)) (hy : plainName y.cls = true) (hw : wsM = Cond.code y cc nL ret :: ws') (hn : (lg_sl av).length ≤ nL) (hL : lv_args 0 av = L)
    (body : ∀ (p : Program) (e : Env) (s : State) (m : MethodId) (args : Array Value) (below : List Frame) (meth : Method) (c : Code) (A : Nat → Prop), xC p (s.setDrawn s.drawn) m args meth c D A cc y.cls nL wsM tys ret → s.drawn.sameBut s.drawn lw_cs → xV p l e { frames := rf, cells := mc, slots := ms, locals := rl } (s.setDrawn s.drawn) m args below meth c D A (xQd D tys A post W' mc ms below args s) nL Wc 0 0 L 0 []) : xMd l y wsM rf rl mc ms D tys av Wc post W' := by
  intro sz
  refine MetD.ofW (cc := cc) (maxL := nL) (ret := ret) hy hw ?_
  intro p e s m args below meth c s₁ B hml hv hd0
  obtain ⟨rfl, hsz, hP, hK, hD0⟩ := hv
  subst hsz
  have hD := hD0.self (sz := s.heap.size)
  have hl := lv_entry av hn
  rw [hL] at hl
  have key := body p e s m av.toArray below meth c (va_A Wc s.heap.size) ⟨B.exec, B.bytes, hml, findClass_of_methodNamed B.named, dr_words (atoms_spec (ws := wsM) B.pre) s.drawn, hK, B.returns, B.notSynchronized, fun q h => Or.inr h⟩ hd0 s.heap [] _ hP hD va_S.rf hl
  rw [← lg_entry_eq] at key
  exact key
theorem xC_d {p : Program} {s : State} {m : MethodId} {args : Array Value} {meth : Method} {c : Code} {D : va_G} {A : Nat → Prop} {cc : ByteArray} {own : String} {nL : Nat} {Ts : List Cond} {tys : List (ClassId × FieldType)} {ret : Option FieldType} {d0 : Drawn} (C : xC p (s.setDrawn d0) m args meth c D A cc own nL Ts tys ret) (d1 : Drawn) : xC p (s.setDrawn d1) m args meth c D A cc own nL Ts tys ret :=
  ⟨C.1, C.2.1, C.2.2.1, C.2.2.2.1, dr_words (s := s.setDrawn d0) C.2.2.2.2.1 d1, C.2.2.2.2.2.1, C.2.2.2.2.2.2.1, C.2.2.2.2.2.2.2.1, C.2.2.2.2.2.2.2.2⟩
section XD
variable {p : Program} {l : Launch} {e : Env} {R : Room} {s : State} {m : MethodId} {args : Array Value} {below : List Frame} {meth : Method} {c : Code} {Q : State → Prop}
variable {D : va_G} {A : Nat → Prop} {cc : ByteArray} {own : String} {nL : Nat} {Ts : List Cond} {tys : List (ClassId × FieldType)} {ret : Option FieldType}
variable {ws ws' : va_W} {k n pc q mc ms : Nat} {L L' : List (Nat × Value)} {st : List Value}
theorem x_dconst0 (C : xC p s m args meth c D A cc own nL Ts tys ret) (d : decode cc pc = .ok (.dconst 0, 1)) (hq : pc + 1 = q) (kk : xV p l e R s m args below meth c D A Q nL ws k n L q (.double FP.dconst0 :: st)) : xV p l e R s m args below meth c D A Q nL ws k n L pc st :=
  fun H locs ls hP hD hS hl => lv_dconst0 C.1 C.2.1 d (hq ▸ kk H locs ls hP hD hS hl)
theorem x_i2d (C : xC p s m args meth c D A cc own nL Ts tys ret) {x : Int32} (d : decode cc pc = .ok (.i2d, 1)) (hq : pc + 1 = q) (kk : xV p l e R s m args below meth c D A Q nL ws k n L q (.double (FP.i2d x) :: st)) : xV p l e R s m args below meth c D A Q nL ws k n L pc (.int x :: st) :=
  fun H locs ls hP hD hS hl => lv_i2d C.1 C.2.1 d (hq ▸ kk H locs ls hP hD hS hl)
theorem x_ddiv {d0 : Drawn} (hd0 : s.drawn.sameBut d0 lw_cs) (C : xC p (s.setDrawn d0) m args meth c D A cc own nL Ts tys ret) {x y : UInt64} (d : decode cc pc = .ok (.ddiv, 1)) (hq : pc + 1 = q) (kk : ∀ (r : UInt64) (d1 : Drawn), alike64 r (FP.ddiv x y) = true → s.drawn.sameBut d1 lw_cs → xC p (s.setDrawn d1) m args meth c D A cc own nL Ts tys ret → xV p l e R (s.setDrawn d1) m args below meth c D A Q nL ws k n L q (.double r :: st)) : xV p l e R (s.setDrawn d0) m args below meth c D A Q nL ws k n L pc (.double y :: .double x :: st) :=
  fun H locs ls hP hD hS hl => lv_ddiv_any hd0 lw_bits C.1 C.2.1 d (fun r d1 h1 h2 => hq ▸ kk r d1 h1 h2 (xC_d C d1) H locs ls hP hD hS hl)
theorem x_dret {S : Type} {post : UInt64 → S → Prop} {W' : S → va_W} {v : UInt64} (u : S) {d0 : Drawn} (hd0 : s.drawn.sameBut d0 lw_cs) (C : xC p (s.setDrawn d0) m args meth c D A cc own nL Ts tys ret) (d : decode cc pc = .ok (.dreturn, 1)) (hr : ret = some .double) (hp : post v u) (hw : ws = W' u) (h1 : k ≤ mc) (h2 : n ≤ ms) : xV p l e R (s.setDrawn d0) m args below meth c D A (xQd D tys A post W' mc ms below args s) nL ws k n L pc [.double v] := by
  intro H locs ls hP hD hS hl
  subst hw
  obtain ⟨hx, hb, -, hown, hts, hK, hret, hlk, hA⟩ := C
  refine W.endD hd0 (W.widen h1 h2 ?_)
  exact W.dret (v := v) hx hb (hret.trans hr) (fun t ht hW => ⟨⟨v, u, rfl, hp, by rw [ht]; exact hP, va_K.moved hW.alike hK, hD⟩, hS.F ht⟩) hS.2.2 d hlk
end XD
section XK2
variable {p : Program} {l : Launch} {e : Env} {R : Room} {s : State} {m : MethodId} {args : Array Value} {below : List Frame} {meth : Method} {c : Code} {Q : State → Prop}
variable {D : va_G} {A : Nat → Prop} {cc : ByteArray} {own : String} {nL : Nat} {Ts : List Cond} {tys : List (ClassId × FieldType)} {ret : Option FieldType}
variable {ws ws' : va_W} {k n pc q : Nat} {L L' : List (Nat × Value)} {st : List Value}
theorem x_topi {v x : Int32} (h : v = x) (kk : xV p l e R s m args below meth c D A Q nL ws k n L pc (.int v :: st)) : xV p l e R s m args below meth c D A Q nL ws k n L pc (.int x :: st) := h ▸ kk
theorem x_topl {v x : Int64} (h : v = x) (kk : xV p l e R s m args below meth c D A Q nL ws k n L pc (.long v :: st)) : xV p l e R s m args below meth c D A Q nL ws k n L pc (.long x :: st) := h ▸ kk
theorem x_topr {v x : Nat} (h : v = x) (kk : xV p l e R s m args below meth c D A Q nL ws k n L pc (.ref v :: st)) : xV p l e R s m args below meth c D A Q nL ws k n L pc (.ref x :: st) := h ▸ kk
theorem x_table (v : Int32) (C : xC p s m args meth c D A cc own nL Ts tys ret) {dflt lo hi : Int} {offs : Array Int} {len : Nat} {x : Int32} {off : Int} {t : Nat} (d : decode cc pc = .ok (.tableswitch dflt lo hi offs, len)) (hx : x = v) (h1 : ¬ v.toInt < lo) (h2 : ¬ hi < v.toInt) (ho : offs[(v.toInt - lo).toNat]? = some off) (ht : (pc : Int) + off = (t : Int)) (kk : xV p l e R s m args below meth c D A Q nL ws k n L t st) : xV p l e R s m args below meth c D A Q nL ws k n L pc (.int x :: st) := by
  subst hx
  exact x_tableIn C d h1 h2 ho ht kk
theorem x_lload (C : xC p s m args meth c D A cc own nL Ts tys ret) {i : Nat} (j : Nat) {v : Int64} (d : decode cc pc = .ok (.lload i, 2)) (hL : L[j]? = some (i, .long v)) (hq : pc + 2 = q) (kk : xV p l e R s m args below meth c D A Q nL ws k n L q (.long v :: st)) : xV p l e R s m args below meth c D A Q nL ws k n L pc st :=
  fun H locs ls hP hD hS hl => lv_lload C.1 C.2.1 d (lv_at hl j hL) (hq ▸ kk H locs ls hP hD hS hl)
theorem x_lstore (C : xC p s m args meth c D A cc own nL Ts tys ret) {i : Nat} {v : Int64} (ks : List Nat) (L' : List (Nat × Value)) (d : decode cc pc = .ok (.lstore i, 2)) (hn : i + 1 < nL) (hL : lv_pick ((i, Value.long v) :: L.filter (fun q => !(q.1 == i) && (!(q.1 == i + 1) && !(q.1 + 1 == i && q.2.category == 2)))) ks = L') (hq : pc + 2 = q) (kk : xV p l e R s m args below meth c D A Q nL ws k n L' q st) : xV p l e R s m args below meth c D A Q nL ws k n L pc (.long v :: st) :=
  fun H locs ls hP hD hS hl => lv_lstore C.1 C.2.1 d hl hn rfl (fun ls' hl' => hq ▸ kk H locs ls' hP hD hS (lv_sub hl' ks hL))
theorem x_copy (C : xC p s m args meth c D A cc own nL Ts tys ret) {index a a0 n0 n1 : Nat} {c0 c1 : ClassId} {f g : Nat → Int32} {G0 G1 : (Nat → Int32) → va_W} {sp dp nn : Int32} (t0 t1 : Nat) (d : decode cc pc = .ok (.invokestatic index, 3)) (hm : ∀ w ∈ ([.methodLink own index arraycopyName, .native arraycopyName, .static arraycopyName, .initialized "java/lang/System"] : List Cond), w ∈ Ts) (ho0 : xA ws a0 c0 n0 f G0) (ho1 : xA ws a c1 n1 g G1) (ht0 : tys[t0]? = some (c0, .int)) (ht1 : tys[t1]? = some (c1, .int)) (hi : xcp sp dp nn n0 n1 = true) (hfr : 1 ≤ R.frames) (hlo : (st.map fun v => v.category).sum + 18 ≤ R.locals) (hw : G1 (va_cpy f g sp.toNatClampNeg dp.toNatClampNeg nn.toNatClampNeg) = ws') (hq : pc + 3 = q) (kk : xV p l e R s m args below meth c D A Q nL ws' k n L q st) : xV p l e R s m args below meth c D A Q nL ws k n L pc (.int nn :: .int dp :: .ref a :: .int sp :: .ref a0 :: st) := by
  intro H locs ls hP hD hS hl
  obtain ⟨q0, h0, -⟩ := ho0
  obtain ⟨q1, h1, h2⟩ := ho1
  obtain ⟨hx, hb, hml, hown, hts, hK, -⟩ := C
  have hi2 : ¬ sp < 0 ∧ ¬ dp < 0 ∧ ¬ nn < 0 ∧ sp.toNatClampNeg + nn.toNatClampNeg ≤ n0 ∧ dp.toNatClampNeg + nn.toNatClampNeg ≤ n1 := of_decide_eq_true hi
  refine va_copyi hx hb (hml.trans hl.1.symm) hown (hts _ (hm _ (by simp))) (hts _ (hm _ (by simp))) (hts _ (hm _ (by simp))) (hts _ (hm _ (by simp))) hK hP hD hS q0 q1 t0 t1 h0 h1 ht0 ht1 rfl hi2.1 hi2.2.1 hi2.2.2.1 hi2.2.2.2.1 hi2.2.2.2.2 (fun _ _ => rfl) hfr hlo d (fun H1 locs1 hP1 hD1 hS1 => ?_)
  rw [h2, hw] at hP1 hD1
  exact hq ▸ kk H1 locs1 ls hP1 hD1 hS1 hl
theorem x_newa (C : xC p s m args meth c D A cc own nL Ts tys ret) {c0 : ClassId} {nn : Int32} (N : Nat) (d : decode cc pc = .ok (.newarray .int, 2)) (hm : Cond.arrayClass .int ∈ Ts) (ht : tys[0]? = some (c0, .int)) (hn : ¬ nn < 0) (hN : nn.toNatClampNeg = N) (hby : N * 4 ≤ 536870912) (hc : k + 1 ≤ R.cells) (hs : n + N ≤ R.slots) (hq : pc + 2 = q) (kk : ∀ a : Nat, xV p l e R s m args below meth c D A Q nL (ws ++ [(a, .inl (c0, N, .inl (fun _ => 0)))]) (k + 1) (n + N) L q (.ref a :: st)) : xV p l e R s m args below meth c D A Q nL ws k n L pc (.int nn :: st) := by
  intro H locs ls hP hD hS hl
  obtain ⟨hx, hb, hml, hown, hts, hK, hret, hlk, hA⟩ := C
  refine va_newa (atype := .int) (ty := .int) (a0 := (N, .inl (fun _ => 0))) hx hb (hts _ hm) rfl hK hP hD hS hA (fun cA => rfl) hn hN hby hc hs d (fun a cA H1 hK1 hP1 hD1 hS1 => ?_)
  have e1 := (hK.2 0 _ ht).2
  have e2 := (hK1.2 tys.length (cA, .int) (by simp)).2
  have e3 : cA = c0 := Option.some.inj (e2.symm.trans e1)
  subst e3
  exact hq ▸ kk a H1 locs ls hP1 hD1 hS1 hl
end XK2
theorem xtab4 {x : Int32} (h0 : ¬ x = 0) (h1 : ¬ x = 1) (h2 : ¬ x = 2) (h3 : ¬ x = 3) : x.toInt < (0 : Int) ∨ (3 : Int) < x.toInt := by
  rcases Int.lt_or_le x.toInt 0 with h | h
  · exact Or.inl h
  · rcases Int.lt_or_le (3 : Int) x.toInt with q | q
    · exact Or.inr q
    · exfalso
      have h2 : x.toInt = 0 ∨ x.toInt = 1 ∨ x.toInt = 2 ∨ x.toInt = 3 := by omega
      rcases h2 with e | e | e | e
      · exact h0 (Int32.toInt_inj.mp e)
      · exact h1 (Int32.toInt_inj.mp e)
      · exact h2 (Int32.toInt_inj.mp e)
      · exact h3 (Int32.toInt_inj.mp e)
theorem xtab7 {x : Int32} (h0 : ¬ x = 0) (h1 : ¬ x = 1) (h2 : ¬ x = 2) (h3 : ¬ x = 3) (h4 : ¬ x = 4) (h5 : ¬ x = 5) (h6 : ¬ x = 6) : x.toInt < (0 : Int) ∨ (6 : Int) < x.toInt := by
  rcases Int.lt_or_le x.toInt 0 with h | h
  · exact Or.inl h
  · rcases Int.lt_or_le (6 : Int) x.toInt with q | q
    · exact Or.inr q
    · exfalso
      have h2 : x.toInt = 0 ∨ x.toInt = 1 ∨ x.toInt = 2 ∨ x.toInt = 3 ∨ x.toInt = 4 ∨ x.toInt = 5 ∨ x.toInt = 6 := by omega
      rcases h2 with e | e | e | e | e | e | e
      · exact h0 (Int32.toInt_inj.mp e)
      · exact h1 (Int32.toInt_inj.mp e)
      · exact h2 (Int32.toInt_inj.mp e)
      · exact h3 (Int32.toInt_inj.mp e)
      · exact h4 (Int32.toInt_inj.mp e)
      · exact h5 (Int32.toInt_inj.mp e)
      · exact h6 (Int32.toInt_inj.mp e)
theorem xtab8 {x : Int32} (h0 : ¬ x = 0) (h1 : ¬ x = 1) (h2 : ¬ x = 2) (h3 : ¬ x = 3) (h4 : ¬ x = 4) (h5 : ¬ x = 5) (h6 : ¬ x = 6) (h7 : ¬ x = 7) : x.toInt < (0 : Int) ∨ (7 : Int) < x.toInt := by
  rcases Int.lt_or_le x.toInt 0 with h | h
  · exact Or.inl h
  · rcases Int.lt_or_le (7 : Int) x.toInt with q | q
    · exact Or.inr q
    · exfalso
      have h2 : x.toInt = 0 ∨ x.toInt = 1 ∨ x.toInt = 2 ∨ x.toInt = 3 ∨ x.toInt = 4 ∨ x.toInt = 5 ∨ x.toInt = 6 ∨ x.toInt = 7 := by omega
      rcases h2 with e | e | e | e | e | e | e | e
      · exact h0 (Int32.toInt_inj.mp e)
      · exact h1 (Int32.toInt_inj.mp e)
      · exact h2 (Int32.toInt_inj.mp e)
      · exact h3 (Int32.toInt_inj.mp e)
      · exact h4 (Int32.toInt_inj.mp e)
      · exact h5 (Int32.toInt_inj.mp e)
      · exact h6 (Int32.toInt_inj.mp e)
      · exact h7 (Int32.toInt_inj.mp e)
theorem xtab9 {x : Int32} (h0 : ¬ x = 0) (h1 : ¬ x = 1) (h2 : ¬ x = 2) (h3 : ¬ x = 3) (h4 : ¬ x = 4) (h5 : ¬ x = 5) (h6 : ¬ x = 6) (h7 : ¬ x = 7) (h8 : ¬ x = 8) : x.toInt < (0 : Int) ∨ (8 : Int) < x.toInt := by
  rcases Int.lt_or_le x.toInt 0 with h | h
  · exact Or.inl h
  · rcases Int.lt_or_le (8 : Int) x.toInt with q | q
    · exact Or.inr q
    · exfalso
      have h2 : x.toInt = 0 ∨ x.toInt = 1 ∨ x.toInt = 2 ∨ x.toInt = 3 ∨ x.toInt = 4 ∨ x.toInt = 5 ∨ x.toInt = 6 ∨ x.toInt = 7 ∨ x.toInt = 8 := by omega
      rcases h2 with e | e | e | e | e | e | e | e | e
      · exact h0 (Int32.toInt_inj.mp e)
      · exact h1 (Int32.toInt_inj.mp e)
      · exact h2 (Int32.toInt_inj.mp e)
      · exact h3 (Int32.toInt_inj.mp e)
      · exact h4 (Int32.toInt_inj.mp e)
      · exact h5 (Int32.toInt_inj.mp e)
      · exact h6 (Int32.toInt_inj.mp e)
      · exact h7 (Int32.toInt_inj.mp e)
      · exact h8 (Int32.toInt_inj.mp e)
theorem xtab10 {x : Int32} (h0 : ¬ x = 0) (h1 : ¬ x = 1) (h2 : ¬ x = 2) (h3 : ¬ x = 3) (h4 : ¬ x = 4) (h5 : ¬ x = 5) (h6 : ¬ x = 6) (h7 : ¬ x = 7) (h8 : ¬ x = 8) (h9 : ¬ x = 9) : x.toInt < (0 : Int) ∨ (9 : Int) < x.toInt := by
  rcases Int.lt_or_le x.toInt 0 with h | h
  · exact Or.inl h
  · rcases Int.lt_or_le (9 : Int) x.toInt with q | q
    · exact Or.inr q
    · exfalso
      have h2 : x.toInt = 0 ∨ x.toInt = 1 ∨ x.toInt = 2 ∨ x.toInt = 3 ∨ x.toInt = 4 ∨ x.toInt = 5 ∨ x.toInt = 6 ∨ x.toInt = 7 ∨ x.toInt = 8 ∨ x.toInt = 9 := by omega
      rcases h2 with e | e | e | e | e | e | e | e | e | e
      · exact h0 (Int32.toInt_inj.mp e)
      · exact h1 (Int32.toInt_inj.mp e)
      · exact h2 (Int32.toInt_inj.mp e)
      · exact h3 (Int32.toInt_inj.mp e)
      · exact h4 (Int32.toInt_inj.mp e)
      · exact h5 (Int32.toInt_inj.mp e)
      · exact h6 (Int32.toInt_inj.mp e)
      · exact h7 (Int32.toInt_inj.mp e)
      · exact h8 (Int32.toInt_inj.mp e)
      · exact h9 (Int32.toInt_inj.mp e)
theorem xtab11 {x : Int32} (h0 : ¬ x = 0) (h1 : ¬ x = 1) (h2 : ¬ x = 2) (h3 : ¬ x = 3) (h4 : ¬ x = 4) (h5 : ¬ x = 5) (h6 : ¬ x = 6) (h7 : ¬ x = 7) (h8 : ¬ x = 8) (h9 : ¬ x = 9) (h10 : ¬ x = 10) : x.toInt < (0 : Int) ∨ (10 : Int) < x.toInt := by
  rcases Int.lt_or_le x.toInt 0 with h | h
  · exact Or.inl h
  · rcases Int.lt_or_le (10 : Int) x.toInt with q | q
    · exact Or.inr q
    · exfalso
      have h2 : x.toInt = 0 ∨ x.toInt = 1 ∨ x.toInt = 2 ∨ x.toInt = 3 ∨ x.toInt = 4 ∨ x.toInt = 5 ∨ x.toInt = 6 ∨ x.toInt = 7 ∨ x.toInt = 8 ∨ x.toInt = 9 ∨ x.toInt = 10 := by omega
      rcases h2 with e | e | e | e | e | e | e | e | e | e | e
      · exact h0 (Int32.toInt_inj.mp e)
      · exact h1 (Int32.toInt_inj.mp e)
      · exact h2 (Int32.toInt_inj.mp e)
      · exact h3 (Int32.toInt_inj.mp e)
      · exact h4 (Int32.toInt_inj.mp e)
      · exact h5 (Int32.toInt_inj.mp e)
      · exact h6 (Int32.toInt_inj.mp e)
      · exact h7 (Int32.toInt_inj.mp e)
      · exact h8 (Int32.toInt_inj.mp e)
      · exact h9 (Int32.toInt_inj.mp e)
      · exact h10 (Int32.toInt_inj.mp e)
theorem xtab21 {x : Int32} (h0 : ¬ x = 0) (h1 : ¬ x = 1) (h2 : ¬ x = 2) (h3 : ¬ x = 3) (h4 : ¬ x = 4) (h5 : ¬ x = 5) (h6 : ¬ x = 6) (h7 : ¬ x = 7) (h8 : ¬ x = 8) (h9 : ¬ x = 9) (h10 : ¬ x = 10) (h11 : ¬ x = 11) (h12 : ¬ x = 12) (h13 : ¬ x = 13) (h14 : ¬ x = 14) (h15 : ¬ x = 15) (h16 : ¬ x = 16) (h17 : ¬ x = 17) (h18 : ¬ x = 18) (h19 : ¬ x = 19) (h20 : ¬ x = 20) : x.toInt < (0 : Int) ∨ (20 : Int) < x.toInt := by
  rcases Int.lt_or_le x.toInt 0 with h | h
  · exact Or.inl h
  · rcases Int.lt_or_le (20 : Int) x.toInt with q | q
    · exact Or.inr q
    · exfalso
      have h2 : x.toInt = 0 ∨ x.toInt = 1 ∨ x.toInt = 2 ∨ x.toInt = 3 ∨ x.toInt = 4 ∨ x.toInt = 5 ∨ x.toInt = 6 ∨ x.toInt = 7 ∨ x.toInt = 8 ∨ x.toInt = 9 ∨ x.toInt = 10 ∨ x.toInt = 11 ∨ x.toInt = 12 ∨ x.toInt = 13 ∨ x.toInt = 14 ∨ x.toInt = 15 ∨ x.toInt = 16 ∨ x.toInt = 17 ∨ x.toInt = 18 ∨ x.toInt = 19 ∨ x.toInt = 20 := by omega
      rcases h2 with e | e | e | e | e | e | e | e | e | e | e | e | e | e | e | e | e | e | e | e | e
      · exact h0 (Int32.toInt_inj.mp e)
      · exact h1 (Int32.toInt_inj.mp e)
      · exact h2 (Int32.toInt_inj.mp e)
      · exact h3 (Int32.toInt_inj.mp e)
      · exact h4 (Int32.toInt_inj.mp e)
      · exact h5 (Int32.toInt_inj.mp e)
      · exact h6 (Int32.toInt_inj.mp e)
      · exact h7 (Int32.toInt_inj.mp e)
      · exact h8 (Int32.toInt_inj.mp e)
      · exact h9 (Int32.toInt_inj.mp e)
      · exact h10 (Int32.toInt_inj.mp e)
      · exact h11 (Int32.toInt_inj.mp e)
      · exact h12 (Int32.toInt_inj.mp e)
      · exact h13 (Int32.toInt_inj.mp e)
      · exact h14 (Int32.toInt_inj.mp e)
      · exact h15 (Int32.toInt_inj.mp e)
      · exact h16 (Int32.toInt_inj.mp e)
      · exact h17 (Int32.toInt_inj.mp e)
      · exact h18 (Int32.toInt_inj.mp e)
      · exact h19 (Int32.toInt_inj.mp e)
      · exact h20 (Int32.toInt_inj.mp e)
