/-! THE LAW'S LOOPS: the rows it keeps, the lighters, the lamps -/
theorem zsum_sub {f g : Nat → Int32} : ∀ n, zsum (fun q => f q - g q) n + zsum g n = zsum f n := by
  intro n
  induction n with
  | zero => rfl
  | succ n ih =>
    show (zsum (fun q => f q - g q) n + (f n - g n)) + (zsum g n + g n) = zsum f n + f n
    rw [← ih]
    have : f n - g n + g n = f n := Int32.sub_add_cancel _ _
    calc _ = (zsum (fun q => f q - g q) n + zsum g n) + (f n - g n + g n) := by ac_rfl
      _ = _ := by rw [this]
theorem y_rinj {a b c : Int32} (h : a + c = b + c) : a = b := by
  have := congrArg (fun z => z - c) h
  simpa only [Int32.add_sub_cancel] using this
def ytd (M : St) (l : Nat) : Nat → Int32 := fun i => if i < 6 then M 8 (ix8 l i) else if i = 6 then (f3_goer M (Int32.ofNat l)).getD 0 else M 8 (ix8 l (i - 1))
theorem y_tdA {nc ns nl np : Nat} {T N M : St} (E : ZE nc nl T N M) (B : ZB nc ns nl np M) (G F : St) {l i : Nat} (hl : l < nl) (hi : i < 9) : f2_told G N F T (Int32.ofNat l) (Int32.ofNat i) = some (.inr (ytd M l i)) := by
  unfold ytd
  by_cases h : i < 6
  · rw [if_pos h]; exact y_told E B G F hl h
  · rw [if_neg h]
    by_cases h6 : i = 6
    · obtain ⟨g, g1, g2, -⟩ := y_told6 E B G F hl
      rw [if_pos h6, g2, h6]; exact g1
    · obtain ⟨j, rfl⟩ : ∃ j, i = j + 1 := ⟨i - 1, by omega⟩
      rw [if_neg h6, show j + 1 - 1 = j by omega]; exact y_told7 E B G F hl (by omega)
section
variable {G N F T : St}
theorem y_141 {nl l : Nat} {t : Nat → Int32} (hl : l < nl) (hn : nl ≤ 20) (h : ∀ i, i < 9 → f2_told G N F T (Int32.ofNat l) (Int32.ofNat i) = some (.inr (t i))) : ∀ n i fu (W : St), i + n = 9 → n < fu → ∃ W', (∀ K, f6_law_L141 (Int32.ofNat nl) (Int32.ofNat l) G N F T K fu (Int32.ofNat i) W = K W') ∧ (∀ j, i ≤ j → j < 9 → W' l j = t j) ∧ (∀ j, j < i → W' l j = W l j) ∧ ∀ l', l' ≠ l → W' l' = W l' := by
  intro n
  induction n with
  | zero =>
    intro i fu W hi hf
    obtain ⟨fu, rfl⟩ : ∃ k, fu = k + 1 := ⟨fu - 1, by omega⟩
    refine ⟨W, ?_, fun j h1 h2 => by omega, fun j _ => rfl, fun _ _ => rfl⟩
    intro K; rw [f6_law_L141, show (9 : Int32) = Int32.ofNat 9 from rfl, z_ile (by omega) (by omega), if_pos (by omega)]
  | succ n ih =>
    intro i fu W hi hf
    obtain ⟨fu, rfl⟩ : ∃ k, fu = k + 1 := ⟨fu - 1, by omega⟩
    obtain ⟨W', a1, a2, a3, a4⟩ := ih (i + 1) fu (up2 W l i (t i)) (by omega) (by omega)
    refine ⟨W', ?_, fun j h1 h2 => ?_, fun j hj => ?_, fun l' hl' => ?_⟩
    · intro K; rw [f6_law_L141, show (9 : Int32) = Int32.ofNat 9 from rfl, z_ile (by omega) (by omega), if_neg (by omega), z_clamp (n := nl) (by omega), z_xin (n := l) (by omega) (by omega), gd_t, h i (by omega), br_e, z_xin (n := i) (by omega) (by omega), gd_t, z_clamp (n := l) (by omega), z_clamp (n := i) (by omega), lt_e, z_s1]
      exact a1 K
    · by_cases e : j = i
      · rw [e, a3 i (by omega), up2_at]
      · exact a2 j (by omega) h2
    · rw [a3 j (by omega), up2_n2 (by omega)]
    · rw [a4 l' hl']; funext z; exact up2_n1 hl'
theorem y_131 {nl : Nat} {t : Nat → Nat → Int32} (hn : nl ≤ 20) (h : ∀ l i, l < nl → i < 9 → f2_told G N F T (Int32.ofNat l) (Int32.ofNat i) = some (.inr (t l i))) : ∀ n l fu (W : St), l + n = nl → n < fu → (∀ l' j, l' < l → j < 9 → W l' j = t l' j) → ∃ W', (∀ K, f6_law_L131 (Int32.ofNat nl) G N F T K fu (Int32.ofNat l) W = K W') ∧ ∀ l' j, l' < nl → j < 9 → W' l' j = t l' j := by
  intro n
  induction n with
  | zero =>
    intro i fu W hi hf hw
    obtain ⟨fu, rfl⟩ : ∃ k, fu = k + 1 := ⟨fu - 1, by omega⟩
    refine ⟨W, ?_, fun l' j h1 h2 => hw l' j (by omega) h2⟩
    intro K; rw [f6_law_L131, z_ile (by omega) (by omega), if_pos (by omega)]
  | succ n ih =>
    intro l fu W hi hf hw
    obtain ⟨fu, rfl⟩ : ∃ k, fu = k + 1 := ⟨fu - 1, by omega⟩
    obtain ⟨W1, a1, a2, a3, a4⟩ := y_141 (show l < nl by omega) hn (fun i hi => h l i (by omega) hi) 9 0 xF W (by omega) (by unfold xF; omega)
    obtain ⟨W', b1, b2⟩ := ih (l + 1) fu W1 (by omega) (by omega) (fun l' j h1 h2 => by
      by_cases e : l' = l
      · rw [e]; exact a2 j (by omega) h2
      · rw [a4 l' e]; exact hw l' j (by omega) h2)
    refine ⟨W', ?_, b2⟩
    intro K; rw [f6_law_L131, z_ile (by omega) (by omega), if_neg (by omega)]
    refine Eq.trans (a1 _) ?_
    rw [z_s1]; exact b1 K
theorem y_214 {nl l : Nat} {t : Nat → Int32} (hl : l < nl) (hn : nl ≤ 20) (h : ∀ i, i < 7 → f2_lighter G N F T (Int32.ofNat l) (Int32.ofNat i) = some (.inr (t i))) : ∀ n i fu (W : St), i + n = 7 → n < fu → ∃ W', (∀ K, f6_law_L214 (Int32.ofNat nl) (Int32.ofNat l) G N F T K fu (Int32.ofNat i) W = K W') ∧ (∀ j, i ≤ j → j < 7 → W' l j = t j) ∧ (∀ j, j < i → W' l j = W l j) ∧ ∀ l', l' ≠ l → W' l' = W l' := by
  intro n
  induction n with
  | zero =>
    intro i fu W hi hf
    obtain ⟨fu, rfl⟩ : ∃ k, fu = k + 1 := ⟨fu - 1, by omega⟩
    refine ⟨W, ?_, fun j h1 h2 => by omega, fun j _ => rfl, fun _ _ => rfl⟩
    intro K; rw [f6_law_L214, show (7 : Int32) = Int32.ofNat 7 from rfl, z_ile (by omega) (by omega), if_pos (by omega)]
  | succ n ih =>
    intro i fu W hi hf
    obtain ⟨fu, rfl⟩ : ∃ k, fu = k + 1 := ⟨fu - 1, by omega⟩
    obtain ⟨W', a1, a2, a3, a4⟩ := ih (i + 1) fu (up2 W l i (t i)) (by omega) (by omega)
    refine ⟨W', ?_, fun j h1 h2 => ?_, fun j hj => ?_, fun l' hl' => ?_⟩
    · intro K; rw [f6_law_L214, show (7 : Int32) = Int32.ofNat 7 from rfl, z_ile (by omega) (by omega), if_neg (by omega), z_clamp (n := nl) (by omega), z_xin (n := l) (by omega) (by omega), gd_t, h i (by omega), br_e, z_xin (n := i) (by omega) (by omega), gd_t, z_clamp (n := l) (by omega), z_clamp (n := i) (by omega), lt_e, z_s1]
      exact a1 K
    · by_cases e : j = i
      · rw [e, a3 i (by omega), up2_at]
      · exact a2 j (by omega) h2
    · rw [a3 j (by omega), up2_n2 (by omega)]
    · rw [a4 l' hl']; funext z; exact up2_n1 hl'
theorem y_204 {nl : Nat} {t : Nat → Nat → Int32} {A0 : Int32} (hn : nl ≤ 20) (h : ∀ l i, l < nl → i < 7 → f2_lighter G N F T (Int32.ofNat l) (Int32.ofNat i) = some (.inr (t l i))) : ∀ n l fu (W : St), l + n = nl → n < fu → (∀ l' j, l' < l → j < 7 → W l' j = t l' j) → ∃ W', (∀ K, f6_law_L204 (Int32.ofNat nl) G N F T K fu (A0 + zsum (fun q => t q 2) l) (Int32.ofNat l) W = K (A0 + zsum (fun q => t q 2) nl) W') ∧ ∀ l' j, l' < nl → j < 7 → W' l' j = t l' j := by
  intro n
  induction n with
  | zero =>
    intro i fu W hi hf hw
    obtain ⟨fu, rfl⟩ : ∃ k, fu = k + 1 := ⟨fu - 1, by omega⟩
    obtain rfl : i = nl := by omega
    refine ⟨W, ?_, fun l' j h1 h2 => hw l' j (by omega) h2⟩
    intro K; rw [f6_law_L204, z_ile (by omega) (by omega), if_pos (by omega)]
  | succ n ih =>
    intro l fu W hi hf hw
    obtain ⟨fu, rfl⟩ : ∃ k, fu = k + 1 := ⟨fu - 1, by omega⟩
    obtain ⟨W1, a1, a2, a3, a4⟩ := y_214 (show l < nl by omega) hn (fun i hi => h l i (by omega) hi) 7 0 xF W (by omega) (by unfold xF; omega)
    obtain ⟨W', b1, b2⟩ := ih (l + 1) fu W1 (by omega) (by omega) (fun l' j h1 h2 => by
      by_cases e : l' = l
      · rw [e]; exact a2 j (by omega) h2
      · rw [a4 l' e]; exact hw l' j (by omega) h2)
    refine ⟨W', ?_, b2⟩
    intro K; rw [f6_law_L204, z_ile (by omega) (by omega), if_neg (by omega)]
    refine Eq.trans (a1 _) ?_
    rw [z_clamp (n := nl) (by omega), z_xin (n := l) (by omega) (by omega), gd_t, lt_e, z_clamp (n := l) (by omega), kc2, a2 2 (by omega) (by omega), z_s1, Int32.add_assoc]
    exact b1 K
end
