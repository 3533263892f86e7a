section
variable {nc ns nl np m : Nat} {T N M N' M' : St} {Y : Nat → Nat} {S' W : St} {G F : St}
theorem y_433 (X : ZX nl np M) (I : YI nc ns nl np T N' M' Y S') (hW : ∀ p w, p < np → w < 7 → W p w = M 9 (ix10 p (lgw w))) {K : Int32 → Int32 → Option (St × St × St × (Nat → Nat) × St)} (L : ∀ p, p < np → yLQ nl M M' p) (A0 : Int32) : ∀ n p fu, p + n = np → n < fu →
    f6_law_L433 (Int32.ofNat np) G N' F T Y S' W K fu (A0 + zsum (fun q => M' 9 (ix10 q 3)) p) (zsum (fun q => M' 9 (ix10 q 9) - M 9 (ix10 q 9)) p) (Int32.ofNat p) = K (A0 + zcan M' np) (zsum (fun q => M' 9 (ix10 q 9) - M 9 (ix10 q 9)) np) := by
  have l4 := I.2.1.l4
  intro n
  induction n with
  | zero =>
    intro p fu hi hf
    obtain ⟨fu, rfl⟩ : ∃ k, fu = k + 1 := ⟨fu - 1, by omega⟩
    obtain rfl : p = np := by omega
    rw [f6_law_L433, z_ile (by omega) (by omega), if_pos (by omega)]; rfl
  | succ n ih =>
    intro p fu hi hf
    obtain ⟨fu, rfl⟩ : ∃ k, fu = k + 1 := ⟨fu - 1, by omega⟩
    rw [y_433s X I hW (show p < np by omega) (L p (by omega)), Int32.add_assoc]
    exact ih (p + 1) fu (by omega) (by omega)
theorem y_lm2 {o o' : Nat} (h : o ≤ 300) (h' : o' ≤ 300) (ho : o ≤ o' + 2) : ¬ Int32.ofNat o' < Int32.ofNat o - 2 := by
  by_cases h2 : 2 ≤ o
  · rw [show (2 : Int32) = Int32.ofNat 2 from rfl, z_sub h2, z_lt (by omega) (by omega)]; omega
  · have c : o = 0 ∨ o = 1 := by omega
    have : Int32.ofNat o - 2 < 0 := by rcases c with e | e <;> subst e <;> decide
    intro hl
    have hl := Int32.lt_iff_toInt_lt.mp hl
    have h3 := Int32.lt_iff_toInt_lt.mp this
    rw [z_int (by omega)] at hl
    have : (0 : Int32).toInt = 0 := rfl
    omega
theorem y_jn {x : Int32} {j : Nat} : x + Int32.ofNat j - x = Int32.ofNat j := by rw [Int32.add_comm, Int32.add_sub_cancel]
theorem y_790s (I : YI nc ns nl np T N' M' Y S') (hm : m ≤ 600) (hW : ∀ l w, l < nl → w < 9 → W l w = ytd M l w) {K : Int32 → Int32 → Option (St × St × St × (Nat → Nat) × St)} {l fu : Nat} (hl : l < nl) (L : yLm m M M' l) (a b : Int32) :
    f6_law_L790 (Int32.ofNat nl) (Int32.ofNat m) G N' F T W K (fu + 1) a b (Int32.ofNat l) = f6_law_L790 (Int32.ofNat nl) (Int32.ofNat m) G N' F T W K fu (a + M' 8 (ix8 l 5)) (b + M' 8 (ix8 l 3)) (Int32.ofNat (l + 1)) := by
  have l3 := I.2.1.l3
  obtain ⟨E, B, X, R, V⟩ := I
  have t0 : f2_told G N' F T (Int32.ofNat l) 0 = some (.inr (M' 8 (ix8 l 0))) := y_told E B G F (w := 0) hl (by omega)
  have t1 : f2_told G N' F T (Int32.ofNat l) 1 = some (.inr (M' 8 (ix8 l 1))) := y_told E B G F (w := 1) hl (by omega)
  have t2 : f2_told G N' F T (Int32.ofNat l) 2 = some (.inr (M' 8 (ix8 l 2))) := y_told E B G F (w := 2) hl (by omega)
  have t3 : f2_told G N' F T (Int32.ofNat l) 3 = some (.inr (M' 8 (ix8 l 3))) := y_told E B G F (w := 3) hl (by omega)
  have t4 : f2_told G N' F T (Int32.ofNat l) 4 = some (.inr (M' 8 (ix8 l 4))) := y_told E B G F (w := 4) hl (by omega)
  have t5 : f2_told G N' F T (Int32.ofNat l) 5 = some (.inr (M' 8 (ix8 l 5))) := y_told E B G F (w := 5) hl (by omega)
  have t7 : f2_told G N' F T (Int32.ofNat l) 7 = some (.inr (M' 8 (ix8 l 6))) := y_told7 E B G F (w := 6) hl (by omega)
  have t8 : f2_told G N' F T (Int32.ofNat l) 8 = some (.inr (M' 8 (ix8 l 7))) := y_told7 E B G F (w := 7) hl (by omega)
  have w0 : W l 0 = M 8 (ix8 l 0) := hW l 0 hl (by omega)
  have w1 : W l 1 = M 8 (ix8 l 1) := hW l 1 hl (by omega)
  have w2 : W l 2 = M 8 (ix8 l 2) := hW l 2 hl (by omega)
  have w3 : W l 3 = M 8 (ix8 l 3) := hW l 3 hl (by omega)
  have w5 : W l 5 = M 8 (ix8 l 5) := hW l 5 hl (by omega)
  have w7 : W l 7 = M 8 (ix8 l 6) := hW l 7 hl (by omega)
  have w8 : W l 8 = M 8 (ix8 l 7) := hW l 8 hl (by omega)
  obtain ⟨⟨a0, a1, a2⟩, j, b', hj, hb, ej, eb, j1, b1, lj, jo⟩ := L
  obtain ⟨o', ho', eo'⟩ := B.lo l
  obtain ⟨k, hk, ek⟩ := X.so l hl
  have kc7' : (7 : Int32).toNatClampNeg = 7 := rfl
  have kc8' : (8 : Int32).toNatClampNeg = 8 := rfl
  have p1 : ¬ (M' 8 (ix8 l 3) < 0) := by rw [eo', z_l0, z_lt (by omega) (by omega)]; omega
  have p2 : ¬ (300 < M' 8 (ix8 l 3)) := by rw [eo', show (300 : Int32) = Int32.ofNat 300 from rfl, z_lt (by omega) (by omega)]; omega
  have p3 : ¬ (M' 8 (ix8 l 4) < 0) := by rw [ek, z_l0, z_lt (by omega) (by omega)]; omega
  have p4 : M' 8 (ix8 l 4) ≤ 9 := by rw [ek, show (9 : Int32) = Int32.ofNat 9 from rfl, z_le (by omega) (by omega)]; omega
  have p5 : M' 8 (ix8 l 6) - W l 7 = Int32.ofNat j := by rw [w7, ej]; exact y_jn
  have p6 : M' 8 (ix8 l 7) - W l 8 = Int32.ofNat b' := by rw [w8, eb]; exact y_jn
  have p7 : ¬ (Int32.ofNat j < 0) := by rw [z_l0, z_lt (by omega) (by omega)]; omega
  have p8 : ¬ (1 < Int32.ofNat j) := by rw [z_l1, z_lt (by omega) (by omega)]; omega
  have p9 : ¬ (Int32.ofNat b' < 0) := by rw [z_l0, z_lt (by omega) (by omega)]; omega
  have p10 : ¬ (1 < Int32.ofNat b') := by rw [z_l1, z_lt (by omega) (by omega)]; omega
  have n1 : ∀ x : Nat, x ≤ 1 → (Int32.ofNat x = 1) = (x = 1) := fun x hx => by rw [z_l1, z_inj (by omega) (by omega)]
  have n0 : ∀ x : Nat, x ≤ 1 → (Int32.ofNat x = 0) = (x = 0) := fun x hx => by rw [z_l0, z_inj (by omega) (by omega)]
  have c0 : (0 : Int32) ≠ 1 := by decide
  have c1 : (1 : Int32) ≠ 0 := by decide
  have tail : ∀ (x : Int32), x = M' 8 (ix8 l 5) → (f6_law_L790 (Int32.ofNat nl) (Int32.ofNat m) G N' F T W K fu (a + x) (b + M' 8 (ix8 l 3)) (Int32.ofNat l + 1)) = f6_law_L790 (Int32.ofNat nl) (Int32.ofNat m) G N' F T W K fu (a + M' 8 (ix8 l 5)) (b + M' 8 (ix8 l 3)) (Int32.ofNat (l + 1)) := by
    intro x hx; rw [hx, z_s1]
  have J1133 : ∀ (Z : Option (St × St × St × (Nat → Nat) × St)), (if W l 5 = 0 then if Int32.ofNat j = 0 then if W l 3 ≤ M' 8 (ix8 l 3) then Z else none else Z else Z) = Z := by
    intro Z
    by_cases q : W l 5 = 0
    · rw [if_pos q]
      by_cases q2 : j = 0
      · obtain ⟨o, o2, e1, e2, h1, h2, h3, h4⟩ := jo q2
        rw [if_pos (by rw [n0 j hj]; exact q2), if_pos (by rw [w3, e1, e2, z_le (by omega) (by omega)]; exact h4 (w5.symm.trans q))]
      · rw [if_neg (by rw [n0 j hj]; exact q2)]
    · rw [if_neg q]
  have J1099 : ∀ (Z : Option (St × St × St × (Nat → Nat) × St)), (if Int32.ofNat j = 0 then if M' 8 (ix8 l 3) < W l 3 - 2 then none else Z else Z) = Z := by
    intro Z
    by_cases q2 : j = 0
    · obtain ⟨o, o2, e1, e2, h1, h2, h3, h4⟩ := jo q2
      rw [if_pos (by rw [n0 j hj]; exact q2), if_neg (by rw [w3, e1, e2]; exact y_lm2 h1 h2 h3)]
    · rw [if_neg (by rw [n0 j hj]; exact q2)]
  have J1034 : ∀ (Z : Option (St × St × St × (Nat → Nat) × St)), (if Int32.ofNat j = 1 then if W l 5 = 1 then none else Z else Z) = Z := by
    intro Z
    by_cases q : j = 1
    · rw [if_pos (by rw [n1 j hj]; exact q), if_neg (by rw [w5, j1 q]; decide)]
    · rw [if_neg (by rw [n1 j hj]; exact q)]
  rcases B.lb l with q5 | q5
  · have J1053 : ∀ (Z : Option (St × St × St × (Nat → Nat) × St)), (if Int32.ofNat b' = 1 then if (0 : Int32) = 0 then if Int32.ofNat m - Int32.ofNat m / 10 * 10 = 0 then Z else none else none else Z) = Z := by
      intro Z
      by_cases q : b' = 1
      · have hmm := (b1 q).2
        rw [if_pos (by rw [n1 b' hb]; exact q), if_pos rfl, if_pos (by rw [show (10 : Int32) = Int32.ofNat 10 from rfl, z_mod (by omega) (by omega), hmm]; rfl)]
      · rw [if_neg (by rw [n1 b' hb]; exact q)]
    rw [f6_law_L790, z_ile (by omega) (by omega), if_neg (by omega), t5, br_e, lt_e, q5, if_neg c0]
    dsimp only
    rw [lt_e, if_pos rfl]
    dsimp only
    rw [lt_e, t3, br_e, lt_e, lt_e, if_pos rfl]
    dsimp only
    rw [br_e, if_neg p1, br_e, if_neg p2, t4, br_e, if_neg p3, br_e, if_pos p4, t0, br_e, z_clamp (n := nl) (by omega), z_xin (n := l) (by omega) (by omega), gd_t, z_clamp (n := l) (by omega), kc0, kc1, kc2, kc3, kc5, kc7', kc8', if_pos (a0.trans w0.symm), t1, br_e, if_pos (a1.trans w1.symm), t2, br_e, if_pos (a2.trans w2.symm), t7, br_e, lt_e, p5, t8, br_e, lt_e, p6, if_neg p7, if_neg p8, if_neg p9, if_neg p10, lt_e, J1034]
    rw [lt_e, J1053, lt_e, if_pos rfl, lt_e, br_e, J1099, lt_e, br_e, J1133]
    rw [z_s1]
  · have hb0 : b' = 0 := by
      by_cases q : b' = 1
      · have := (b1 q).1; rw [q5] at this; exact absurd this (by decide)
      · omega
    have J1075 : ∀ (Z : Option (St × St × St × (Nat → Nat) × St)), (if (1 : Int32) = 0 then Z else if W l 5 = 0 then if Int32.ofNat j = 0 then none else Z else Z) = Z := by
      intro Z
      rw [if_neg c1]
      by_cases q : W l 5 = 0
      · have := lj q5 (w5.symm.trans q)
        rw [if_pos q, if_neg (by rw [n0 j hj]; omega)]
      · rw [if_neg q]
    have ho0 : M' 8 (ix8 l 3) ≠ 0 := X.bo l hl q5
    rw [f6_law_L790, z_ile (by omega) (by omega), if_neg (by omega), t5, br_e, lt_e, q5, if_pos rfl]
    dsimp only
    rw [lt_e, if_neg c1]
    dsimp only
    rw [lt_e, t3, br_e, lt_e, lt_e, if_neg c1, br_e, if_neg ho0]
    dsimp only
    rw [br_e, if_neg p1, br_e, if_neg p2, t4, br_e, if_neg p3, br_e, if_pos p4, t0, br_e, z_clamp (n := nl) (by omega), z_xin (n := l) (by omega) (by omega), gd_t, z_clamp (n := l) (by omega), kc0, kc1, kc2, kc3, kc5, kc7', kc8', if_pos (a0.trans w0.symm), t1, br_e, if_pos (a1.trans w1.symm), t2, br_e, if_pos (a2.trans w2.symm), t7, br_e, lt_e, p5, t8, br_e, lt_e, p6, if_neg p7, if_neg p8, if_neg p9, if_neg p10, lt_e, J1034]
    rw [lt_e, if_neg (by rw [n1 b' hb]; omega), lt_e, J1075, lt_e, br_e, J1099, lt_e, br_e, J1133]
    rw [z_s1]
theorem y_790 (I : YI nc ns nl np T N' M' Y S') (hm : m ≤ 600) (hW : ∀ l w, l < nl → w < 9 → W l w = ytd M l w) {K : Int32 → Int32 → Option (St × St × St × (Nat → Nat) × St)} (L : ∀ l, l < nl → yLm m M M' l) : ∀ n l fu, l + n = nl → n < fu →
    f6_law_L790 (Int32.ofNat nl) (Int32.ofNat m) G N' F T W K fu (zsum (fun l => M' 8 (ix8 l 5)) l) (zsum (fun l => M' 8 (ix8 l 3)) l) (Int32.ofNat l) = K (zsum (fun l => M' 8 (ix8 l 5)) nl) (zoil M' nl) := by
  have l3 := I.2.1.l3
  intro n
  induction n with
  | zero =>
    intro p fu hi hf
    obtain ⟨fu, rfl⟩ : ∃ k, fu = k + 1 := ⟨fu - 1, by omega⟩
    obtain rfl : p = nl := by omega
    rw [f6_law_L790, z_ile (by omega) (by omega), if_pos (by omega)]; rfl
  | succ n ih =>
    intro p fu hi hf
    obtain ⟨fu, rfl⟩ : ∃ k, fu = k + 1 := ⟨fu - 1, by omega⟩
    rw [y_790s I hm hW (show p < nl by omega) (L p (by omega))]
    exact ih (p + 1) fu (by omega) (by omega)
end
