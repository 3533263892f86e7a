/-! THE LAST LOOK: everything that the class tells is what the sim holds -/
theorem y_s88 {v1 : Int32} {G N F T : St} {f : Nat → Int32} {K : Unit → Option Unit} (h : ∀ i, i < 9 → f2_told G N F T v1 (Int32.ofNat i) = some (.inr (f i))) : ∀ n i fu, i + n = 9 → n < fu → f6_same_L88 v1 G N F T f K fu (Int32.ofNat i) = K () := by
  intro n
  induction n with
  | zero =>
    intro i fu hi hf
    obtain ⟨fu, rfl⟩ : ∃ k, fu = k + 1 := ⟨fu - 1, by omega⟩
    rw [f6_same_L88, show (9 : Int32) = Int32.ofNat 9 from rfl, z_ile (by omega) (by omega), if_pos (by omega)]
  | succ n ih =>
    intro i fu hi hf
    obtain ⟨fu, rfl⟩ : ∃ k, fu = k + 1 := ⟨fu - 1, by omega⟩
    rw [f6_same_L88, show (9 : Int32) = Int32.ofNat 9 from rfl, z_ile (by omega) (by omega), if_neg (by omega), h i (by omega), br_e, z_xin (n := i) (by omega) (by omega), gd_t, z_clamp (n := i) (by omega), if_pos rfl, z_s1]
    exact ih (i + 1) fu (by omega) (by omega)
theorem y_s209 {v1 : Int32} {G N F T : St} {f : Nat → Int32} {K : Unit → Option Unit} (h : ∀ i, i < 7 → f2_lighter G N F T v1 (Int32.ofNat i) = some (.inr (f i))) : ∀ n i fu, i + n = 7 → n < fu → f6_same_L209 v1 G N F T f K fu (Int32.ofNat i) = K () := by
  intro n
  induction n with
  | zero =>
    intro i fu hi hf
    obtain ⟨fu, rfl⟩ : ∃ k, fu = k + 1 := ⟨fu - 1, by omega⟩
    rw [f6_same_L209, show (7 : Int32) = Int32.ofNat 7 from rfl, z_ile (by omega) (by omega), if_pos (by omega)]
  | succ n ih =>
    intro i fu hi hf
    obtain ⟨fu, rfl⟩ : ∃ k, fu = k + 1 := ⟨fu - 1, by omega⟩
    rw [f6_same_L209, show (7 : Int32) = Int32.ofNat 7 from rfl, z_ile (by omega) (by omega), if_neg (by omega), h i (by omega), br_e, z_xin (n := i) (by omega) (by omega), gd_t, z_clamp (n := i) (by omega), if_pos rfl, z_s1]
    exact ih (i + 1) fu (by omega) (by omega)
theorem y_s364 {G N F T : St} {f : Nat → Int32} {K : Unit → Option Unit} (h : ∀ i, i < 10 → f2_count G N F T (Int32.ofNat i) = some (.inr (f i))) : ∀ n i fu, i + n = 10 → n < fu → f6_same_L364 G N F T f K fu (Int32.ofNat i) = K () := by
  intro n
  induction n with
  | zero =>
    intro i fu hi hf
    obtain ⟨fu, rfl⟩ : ∃ k, fu = k + 1 := ⟨fu - 1, by omega⟩
    rw [f6_same_L364, show (10 : Int32) = Int32.ofNat 10 from rfl, z_ile (by omega) (by omega), if_pos (by omega)]
  | succ n ih =>
    intro i fu hi hf
    obtain ⟨fu, rfl⟩ : ∃ k, fu = k + 1 := ⟨fu - 1, by omega⟩
    rw [f6_same_L364, show (10 : Int32) = Int32.ofNat 10 from rfl, z_ile (by omega) (by omega), if_neg (by omega), h i (by omega), br_e, z_xin (n := i) (by omega) (by omega), gd_t, z_clamp (n := i) (by omega), if_pos rfl, z_s1]
    exact ih (i + 1) fu (by omega) (by omega)
theorem sir {x y : Int32} (h : x = y) : (some (Sum.inr x) : Option (Nat ⊕ Int32)) = some (Sum.inr y) := by rw [h]
section
variable {nc ns nl np : Nat} {Y : Nat → Nat} {T N M S : St}
theorem y_s2 (I : YI nc ns nl np T N M Y S) (G F : St) {K : Unit → Option Unit} : ∀ n l fu, l + n = nl → n < fu → f6_same_L2 G N F T Y S K fu (Int32.ofNat l) = K () := by
  have l3 := I.2.1.l3
  obtain ⟨E, B, X, R, V⟩ := I
  intro n
  induction n with
  | zero =>
    intro i fu hi hf
    obtain ⟨fu, rfl⟩ : ∃ k, fu = k + 1 := ⟨fu - 1, by omega⟩
    rw [f6_same_L2, R.y3, z_ile (by omega) (by omega), if_pos (by omega)]
  | succ n ih =>
    intro l fu hi hf
    obtain ⟨fu, rfl⟩ : ∃ k, fu = k + 1 := ⟨fu - 1, by omega⟩
    obtain ⟨g, g1, g2, -⟩ := y_told6 E B G F (show l < nl by omega)
    rw [f6_same_L2, R.y3, z_ile (by omega) (by omega), if_neg (by omega), z_xin (n := l) (by omega) (by omega), gd_t, z_clamp (n := l) (by omega)]
    rw [lt_e, lt_e, lt_e, lt_e, lt_e, lt_e, y_goer R B, g2, bd_e, lt_e, lt_e, lt_e, z_s1]
    have hh := ih (l + 1) fu (by omega) (by omega)
    refine (y_s88 (f := _) (fun i hi => ?_) 9 0 xF (by omega) (by unfold xF; omega)).trans hh
    have c : i = 0 ∨ i = 1 ∨ i = 2 ∨ i = 3 ∨ i = 4 ∨ i = 5 ∨ i = 6 ∨ i = 7 ∨ i = 8 := by omega
    rcases c with e | e | e | e | e | e | e | e | e <;> subst e
    · exact (y_told E B G F (w := 0) (by omega) (by omega)).trans (sir (R.la l 0 (by omega) (by omega)).symm)
    · exact (y_told E B G F (w := 1) (by omega) (by omega)).trans (sir (R.la l 1 (by omega) (by omega)).symm)
    · exact (y_told E B G F (w := 2) (by omega) (by omega)).trans (sir (R.la l 2 (by omega) (by omega)).symm)
    · exact (y_told E B G F (w := 3) (by omega) (by omega)).trans (sir (R.la l 3 (by omega) (by omega)).symm)
    · exact (y_told E B G F (w := 4) (by omega) (by omega)).trans (sir (R.la l 4 (by omega) (by omega)).symm)
    · exact (y_told E B G F (w := 5) (by omega) (by omega)).trans (sir (R.la l 5 (by omega) (by omega)).symm)
    · exact g1
    · exact (y_told7 E B G F (w := 6) (by omega) (by omega)).trans (sir (R.la l 6 (by omega) (by omega)).symm)
    · exact (y_told7 E B G F (w := 7) (by omega) (by omega)).trans (sir (R.la l 7 (by omega) (by omega)).symm)
theorem y_s126 (I : YI nc ns nl np T N M Y S) (G F : St) {K : Unit → Option Unit} : ∀ n l fu, l + n = np → n < fu → f6_same_L126 G N F T Y S K fu (Int32.ofNat l) = K () := by
  have l4 := I.2.1.l4
  have l3 := I.2.1.l3
  obtain ⟨E, B, X, R, V⟩ := I
  intro n
  induction n with
  | zero =>
    intro i fu hi hf
    obtain ⟨fu, rfl⟩ : ∃ k, fu = k + 1 := ⟨fu - 1, by omega⟩
    rw [f6_same_L126, R.y4, z_ile (by omega) (by omega), if_pos (by omega)]
  | succ n ih =>
    intro l fu hi hf
    obtain ⟨fu, rfl⟩ : ∃ k, fu = k + 1 := ⟨fu - 1, by omega⟩
    have hh := ih (l + 1) fu (by omega) (by omega)
    have hl : l < np := by omega
    rw [f6_same_L126, R.y4, R.y5, z_ile (by omega) (by omega), if_neg (by omega), z_xin (n := l) (by omega) (by omega), gd_t, z_clamp (n := l) (by omega)]
    rw [lt_e, lt_e, lt_e, gd_t, lt_e, lt_e, lt_e, z_s1]
    have key : ∀ x, x = M 9 (ix10 l 6) → (lt_ (upd (upd (upd (upd (upd (upd (fun _ => 0) (0 : Int32).toNatClampNeg (S (rk 12 l) (1 : Int32).toNatClampNeg)) (1 : Int32).toNatClampNeg (S (rk 12 l) (2 : Int32).toNatClampNeg)) (2 : Int32).toNatClampNeg (S (rk 12 l) (3 : Int32).toNatClampNeg)) (3 : Int32).toNatClampNeg (Int32.ofNat (Y (rk 13 l)))) (4 : Int32).toNatClampNeg (S (rk 12 l) (4 : Int32).toNatClampNeg)) (5 : Int32).toNatClampNeg x) fun f58 => lt_ (upd f58 (6 : Int32).toNatClampNeg (S (rk 12 l) (8 : Int32).toNatClampNeg)) fun f61 => f6_same_L209 (Int32.ofNat l) G N F T f61 (fun _ => f6_same_L126 G N F T Y S K fu (Int32.ofNat (l + 1))) xF 0) = K () := by
      intro x hx
      rw [lt_e, lt_e]
      refine (y_s209 (f := _) (fun i hi => ?_) 7 0 xF (by omega) (by unfold xF; omega)).trans hh
      have c : i = 0 ∨ i = 1 ∨ i = 2 ∨ i = 3 ∨ i = 4 ∨ i = 5 ∨ i = 6 := by omega
      rcases c with e | e | e | e | e | e | e <;> subst e
      · exact (y_lighter E B G F (w := 0) hl (by omega)).trans (sir (R.l1 hl).symm)
      · exact (y_lighter E B G F (w := 1) hl (by omega)).trans (sir (R.l2 hl).symm)
      · exact (y_lighter E B G F (w := 2) hl (by omega)).trans (sir (R.l3 hl).symm)
      · exact (y_lighter E B G F (w := 3) hl (by omega)).trans (sir (R.rn l hl).1)
      · exact (y_lighter E B G F (w := 4) hl (by omega)).trans (sir (R.l4 hl).symm)
      · exact (y_lighter E B G F (w := 5) hl (by omega)).trans (sir hx.symm)
      · exact (y_lighter E B G F (w := 6) hl (by omega)).trans (sir (R.l8 hl).symm)
    rcases B.pg l hl with h | ⟨j, hj, h, -⟩
    · rw [if_neg (by rw [kc4, R.l4 hl, h]; decide)]
      exact key 0 (X.z6 l hl h).symm
    · rw [if_pos (by rw [kc4, R.l4 hl, h, z_l0, z_le (by omega) (by omega)]; omega)]
      exact key _ (R.l5 hl)
theorem y_s247 (I : YI nc ns nl np T N M Y S) (G F : St) {K : Unit → Option Unit} : ∀ n l fu, l + n = ns → n < fu → f6_same_L247 G N F T Y S K fu (Int32.ofNat l) = K () := by
  have l2 := I.2.1.l2
  obtain ⟨E, B, X, R, V⟩ := I
  intro n
  induction n with
  | zero =>
    intro i fu hi hf
    obtain ⟨fu, rfl⟩ : ∃ k, fu = k + 1 := ⟨fu - 1, by omega⟩
    rw [f6_same_L247, R.y2, z_ile (by omega) (by omega), if_pos (by omega)]
  | succ n ih =>
    intro l fu hi hf
    obtain ⟨fu, rfl⟩ : ∃ k, fu = k + 1 := ⟨fu - 1, by omega⟩
    rw [f6_same_L247, R.y2, z_ile (by omega) (by omega), if_neg (by omega), z_burningV E B G F (by omega), br_e, y_burning R B, bd_e, if_pos rfl, z_s1]
    exact ih (l + 1) fu (by omega) (by omega)
theorem y_same (I : YI nc ns nl np T N M Y S) (G F : St) : f6_same G N F T Y S = some () := by
  have hI := I
  have l2 := I.2.1.l2
  have l3 := I.2.1.l3
  have l4 := I.2.1.l4
  obtain ⟨E, B, X, R, V⟩ := I
  unfold f6_same
  refine (y_s2 hI G F nl 0 xF32 (by omega) (by unfold xF32; omega)).trans ?_
  refine (y_s126 hI G F np 0 xF32 (by omega) (by unfold xF32; omega)).trans ?_
  refine (y_s247 hI G F ns 0 _ (by omega) ?_).trans ?_
  · first | (unfold xF; omega) | (unfold xF32; omega)
  rw [lt_e, lt_e, lt_e, lt_e, lt_e, show (5 : Int32) = Int32.ofNat 5 from rfl, y_sum R B (w := 5) (by omega), bd_e, lt_e, y_dark R B, bd_e, lt_e, lt_e, show (3 : Int32) = Int32.ofNat 3 from rfl, y_sum R B (w := 3) (by omega), bd_e, lt_e, lt_e]
  refine (y_s364 (f := _) (fun i hi => ?_) 10 0 xF (by omega) (by unfold xF; omega))
  have c : i = 0 ∨ i = 1 ∨ i = 2 ∨ i = 3 ∨ i = 4 ∨ i = 5 ∨ i = 6 ∨ i = 7 ∨ i = 8 ∨ i = 9 := by omega
  rcases c with e | e | e | e | e | e | e | e | e | e <;> subst e
  · exact (y_count E B G F (i := 0) (by omega)).trans (sir R.mi.symm)
  · exact (y_count E B G F (i := 1) (by omega)).trans (sir R.ni.symm)
  · exact (y_count E B G F (i := 2) (by omega)).trans (sir (congrArg Int32.ofNat R.y1.symm))
  · exact (y_count E B G F (i := 3) (by omega)).trans (sir (congrArg Int32.ofNat R.y2.symm))
  · exact (y_count E B G F (i := 4) (by omega)).trans (sir (congrArg Int32.ofNat R.y3.symm))
  · exact (y_count E B G F (i := 5) (by omega))
  · exact (y_count E B G F (i := 6) (by omega))
  · exact (y_count E B G F (i := 7) (by omega)).trans (sir (congrArg Int32.ofNat R.y4.symm))
  · exact (y_count E B G F (i := 8) (by omega))
  · exact (y_count E B G F (i := 9) (by omega)).trans (sir R.us.symm)
end
