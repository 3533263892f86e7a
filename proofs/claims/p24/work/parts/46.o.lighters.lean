/-! THE LAW'S LIGHTERS AND LAMPS -/
section
variable {nc ns nl np m : Nat} {T N M N' M' : St} {Y : Nat → Nat} {S' W : St} {G F : St}
theorem y_653 {p k i : Nat} {x : Int32} {K : Int32 → Option (St × St × St × (Nat → Nat) × St)} (hp : p < 4) (hk : k ≤ 10) (hi : i < k) (hY : Y (rk 13 p) = k) (hS : S' (rk 13 p) i = x) : ∀ n t fu (f : Int32), t + n = k → n < fu → (f = 1 ∨ f = 0 ∧ t ≤ i) → f6_law_L653 (Int32.ofNat p) x (Int32.ofNat k) Y S' K fu f (Int32.ofNat t) = K 1 := by
  intro n
  induction n with
  | zero =>
    intro t fu f ht hf h
    obtain ⟨fu, rfl⟩ : ∃ k, fu = k + 1 := ⟨fu - 1, by omega⟩
    rw [f6_law_L653, z_ile (by omega) (by omega), if_pos (by omega)]
    rcases h with h | ⟨h, h2⟩
    · rw [h]
    · omega
  | succ n ih =>
    intro t fu f ht hf h
    obtain ⟨fu, rfl⟩ : ∃ k, fu = k + 1 := ⟨fu - 1, by omega⟩
    rw [f6_law_L653, z_ile (by omega) (by omega), if_neg (by omega), z_clamp (n := p) (by omega), hY, z_xin (n := t) (by omega) (by omega), gd_t, lt_e, lt_e, lt_e, z_s1, z_clamp (n := t) (by omega)]
    rcases h with h | ⟨h, h2⟩
    · rw [if_neg (by rw [h]; decide)]
      exact ih (t + 1) fu 1 (by omega) (by omega) (.inl rfl)
    · rw [if_pos h]
      by_cases e : S' (rk 13 p) t = x
      · rw [if_pos e]; exact ih (t + 1) fu 1 (by omega) (by omega) (.inl rfl)
      · rw [if_neg e]
        have : t ≠ i := fun h => e (by rw [h]; exact hS)
        exact ih (t + 1) fu 0 (by omega) (by omega) (.inr ⟨rfl, by omega⟩)
def y4B (v28 v120 v123 v126 : Int32) (G N95 F110 T20 : St) (Y21 : Nat → Nat) (S98 W60 : St) (J : Unit → Option (St × St × St × (Nat → Nat) × St)) : Option (St × St × St × (Nat → Nat) × St) :=
  gd (xin v120 (Y21 5)) <|
  lt_ (Int32.ofNat (Y21 (rk 13 v120.toNatClampNeg))) fun v151 =>
  f6_law_L653 v120 v123 v151 Y21 S98 (fun (v154 : Int32) =>
    if v154 = 0 then none else
      br (f2_told G N95 F110 T20 v123 6) fun v158 =>
      if v158 = v120 then
        br (f2_told G N95 F110 T20 v123 5) fun v161 =>
        if v161 = 0 then
          br (f2_told G N95 F110 T20 v123 1) fun v164 =>
          br (f2_lighter G N95 F110 T20 v120 1) fun v167 =>
          if v164 ≤ (v167 + 2) then
            gd (xin v120 v28.toNatClampNeg) <|
            if 0 ≤ (W60 v120.toNatClampNeg (4 : Int32).toNatClampNeg) then J () else if 2 ≤ v126 then J () else none
          else none
        else none
      else none) xF 0 0
theorem y4B_ok (I : YI nc ns nl np T N' M' Y S') {p l : Nat} {v126 : Int32} {J : Unit → Option (St × St × St × (Nat → Nat) × St)} (hp : p < np) (hl : l < nl) (hg : M' 9 (ix10 p 5) = Int32.ofNat l) (hw : 0 ≤ W p 4 ∨ 2 ≤ v126) :
    y4B (Int32.ofNat np) (Int32.ofNat p) (Int32.ofNat l) v126 G N' F T Y S' W J = J () := by
  have l3 := I.2.1.l3
  have l4 := I.2.1.l4
  obtain ⟨E, B, X, R, V⟩ := I
  obtain ⟨⟨i, k, ek, hi, hk, ei⟩, h, g, eh, eg, h9, g9, hg2⟩ := X.go p l hp hl hg
  obtain ⟨r1, r2⟩ := R.rn p hp
  have hY : Y (rk 13 p) = k := by
    rw [r1, z_inj (by omega) (by omega)] at ek; exact ek
  have hS : S' (rk 13 p) i = Int32.ofNat l := by rw [R.ro p i hp (by omega)]; exact ei
  have b5 : M' 8 (ix8 l 5) = 0 := by
    rcases B.pg p hp with h | ⟨j, hj, h, h5, -⟩
    · rw [hg, z_ne1 (by omega)] at h; exact h.elim
    · rw [hg, z_inj (by omega) (by omega)] at h; rw [h]; exact h5
  obtain ⟨w, w1, w2, w3⟩ := y_told6 E B G F hl
  have ew : w = Int32.ofNat p := by
    rcases w3 with ⟨-, h⟩ | ⟨q, hq, e, h⟩
    · exact absurd hg (h p hp)
    · by_cases eq : q = p
      · rw [e, eq]
      · exact absurd (hg.trans h.symm) (B.pd p q hp hq (fun e => eq e.symm) (by rw [hg, Ne, z_ne1 (by omega)]; exact id))
  have t5 : f2_told G N' F T (Int32.ofNat l) 5 = some (.inr (M' 8 (ix8 l 5))) := y_told E B G F (w := 5) hl (by omega)
  have t1 : f2_told G N' F T (Int32.ofNat l) 1 = some (.inr (M' 8 (ix8 l 1))) := y_told E B G F (w := 1) hl (by omega)
  have g1 : f2_lighter G N' F T (Int32.ofNat p) 1 = some (.inr (M' 9 (ix10 p 2))) := y_lighter E B G F (w := 1) hp (by omega)
  unfold y4B
  rw [R.y5, z_xin (n := p) (by omega) (by omega), gd_t, lt_e, z_clamp (n := p) (by omega), hY]
  refine (y_653 (by omega) hk hi hY hS k 0 xF 0 (by omega) (by unfold xF; omega) (.inr ⟨rfl, by omega⟩)).trans ?_
  rw [if_neg (by decide), w1, br_e, if_pos ew, t5, br_e, if_pos b5, t1, br_e, g1, br_e, eh, eg, show (2 : Int32) = Int32.ofNat 2 from rfl, z_add, z_ile (by omega) (by omega), if_pos hg2, z_clamp (n := np) (by omega), z_xin (n := p) (by omega) (by omega), gd_t, kc4]
  by_cases h0 : 0 ≤ W p 4
  · rw [if_pos h0]
  · rw [if_neg h0]
    exact if_pos (hw.resolve_left h0)
theorem y_433s (X : ZX nl np M) (I : YI nc ns nl np T N' M' Y S') (hW : ∀ p w, p < np → w < 7 → W p w = M 9 (ix10 p (lgw w))) {K : Int32 → Int32 → Option (St × St × St × (Nat → Nat) × St)} {p fu : Nat} (hp : p < np) (L : yLQ nl M M' p) (a b : Int32) :
    f6_law_L433 (Int32.ofNat np) G N' F T Y S' W K (fu + 1) a b (Int32.ofNat p) = f6_law_L433 (Int32.ofNat np) G N' F T Y S' W K fu (a + M' 9 (ix10 p 3)) (b + (M' 9 (ix10 p 9) - M 9 (ix10 p 9))) (Int32.ofNat (p + 1)) := by
  have hI := I
  have l3 := I.2.1.l3
  have l4 := I.2.1.l4
  obtain ⟨E, B, X', R, V⟩ := I
  have e4 : f2_lighter G N' F T (Int32.ofNat p) 4 = some (.inr (M' 9 (ix10 p 5))) := y_lighter E B G F (w := 4) hp (by omega)
  have e5 : f2_lighter G N' F T (Int32.ofNat p) 5 = some (.inr (M' 9 (ix10 p 6))) := y_lighter E B G F (w := 5) hp (by omega)
  have e2 : f2_lighter G N' F T (Int32.ofNat p) 2 = some (.inr (M' 9 (ix10 p 3))) := y_lighter E B G F (w := 2) hp (by omega)
  have e6 : f2_lighter G N' F T (Int32.ofNat p) 6 = some (.inr (M' 9 (ix10 p 9))) := y_lighter E B G F (w := 6) hp (by omega)
  have e1 : f2_lighter G N' F T (Int32.ofNat p) 1 = some (.inr (M' 9 (ix10 p 2))) := y_lighter E B G F (w := 1) hp (by omega)
  have e0 : f2_lighter G N' F T (Int32.ofNat p) 0 = some (.inr (M' 9 (ix10 p 1))) := y_lighter E B G F (w := 0) hp (by omega)
  have w0 : W p 0 = M 9 (ix10 p 1) := hW p 0 hp (by omega)
  have w1 : W p 1 = M 9 (ix10 p 2) := hW p 1 hp (by omega)
  have w2 : W p 2 = M 9 (ix10 p 3) := hW p 2 hp (by omega)
  have w4 : W p 4 = M 9 (ix10 p 5) := hW p 4 hp (by omega)
  have w5 : W p 5 = M 9 (ix10 p 6) := hW p 5 hp (by omega)
  have w6 : W p 6 = M 9 (ix10 p 9) := hW p 6 hp (by omega)
  obtain ⟨⟨-, q2, -⟩, ⟨c, c', ec, ec', hc1, hc2⟩, C⟩ := L
  have blk : ∀ (l : Nat) (v126 : Int32) (J : Unit → Option (St × St × St × (Nat → Nat) × St)), l < nl → M' 9 (ix10 p 5) = Int32.ofNat l → (0 ≤ W p 4 ∨ 2 ≤ v126) → y4B (Int32.ofNat np) (Int32.ofNat p) (Int32.ofNat l) v126 G N' F T Y S' W J = J () := fun l v126 J hl hg hw => y4B_ok hI hp hl hg hw
  rw [f6_law_L433, z_ile (by omega) (by omega), if_neg (by omega), e4, br_e, e5, br_e, e2, br_e, lt_e, e6, br_e, z_clamp (n := np) (by omega), z_xin (n := p) (by omega) (by omega), gd_t, lt_e, z_clamp (n := p) (by omega), kc6, kc2, kc1, kc5, kc4, kc0, w6, w2, w1, w5, lt_e, lt_e, z_s1]
  rcases C with ⟨g0, g1, m1, -, -⟩ | ⟨g0, ⟨l, d, hl, hd, g1, m1⟩, -, -⟩ | ⟨⟨l, e, hl, g0, g1, he, he2, m0, m1⟩, a1, -⟩ | ⟨l, hl, g0, m0, g1, m1, -⟩
  · have z6 := X.z6 p hp g0
    rw [g1, m1, z6, if_neg (by decide)]
    dsimp only
    rw [lt_e, if_pos rfl]
    dsimp only
    rw [if_pos rfl, ec, ec', br_e, z_ilt (by omega) (by omega), if_neg (by omega), e1, br_e, if_pos q2, lt_e, if_pos (by decide)]
    dsimp only
    rw [lt_e, if_neg (by decide)]
    dsimp only
    rw [lt_e, if_neg (by decide)]
  · have z6 := X.z6 p hp g0
    have hb := blk l (Int32.ofNat (d + 2)) (fun _ => f6_law_L433 (Int32.ofNat np) G N' F T Y S' W K fu (a + M' 9 (ix10 p 3)) (b + (M' 9 (ix10 p 9) - M 9 (ix10 p 9))) (Int32.ofNat (p + 1))) hl g1 (.inr (by rw [show (2 : Int32) = Int32.ofNat 2 from rfl, z_le (by omega) (by omega)]; omega))
    rw [g1, m1, z6, if_pos (by rw [z_l0, z_le (by omega) (by omega)]; omega)]
    dsimp only
    rw [lt_e, if_neg (by rw [z_l0, z_inj (by omega) (by omega)]; omega)]
    dsimp only
    rw [if_pos rfl, ec, ec', br_e, z_ilt (by omega) (by omega), if_neg (by omega), e1, br_e, if_pos q2, lt_e, if_pos (by decide)]
    dsimp only
    rw [lt_e, if_neg (by decide)]
    dsimp only
    rw [lt_e, if_pos (by rw [z_l0, z_le (by omega) (by omega)]; omega)]
    unfold y4B at hb
    rw [ec', e1, z_clamp (n := np) (by omega), z_xin (n := p) (m := np) (by omega) (by omega), z_clamp (n := p) (by omega), kc4] at hb
    exact hb
  · have hb := blk l (Int32.ofNat (e - 1)) (fun _ => f6_law_L433 (Int32.ofNat np) G N' F T Y S' W K fu (a + M' 9 (ix10 p 3)) (b + (M' 9 (ix10 p 9) - M 9 (ix10 p 9))) (Int32.ofNat (p + 1))) hl g1 (.inl (by rw [w4, g0, z_l0, z_le (by omega) (by omega)]; omega))
    rw [g1, m1, m0, if_pos (by rw [z_l0, z_le (by omega) (by omega)]; omega)]
    dsimp only
    rw [lt_e, if_neg (by rw [z_l0, z_inj (by omega) (by omega)]; omega)]
    dsimp only
    rw [if_pos rfl, ec, ec', br_e, z_ilt (by omega) (by omega), if_neg (by omega), e1, br_e, if_pos q2, lt_e, if_neg (show ¬ Int32.ofNat e ≤ 1 by rw [z_l1, z_le (by omega) (by omega)]; omega), if_pos (w4.trans g0).symm, if_pos (show Int32.ofNat (e - 1) = Int32.ofNat e - 1 by rw [z_l1, z_sub (by omega)]), e0, br_e, w0, if_pos a1]
    dsimp only
    rw [lt_e, if_neg (show ¬ Int32.ofNat e = 1 by rw [z_l1, z_inj (by omega) (by omega)]; omega)]
    dsimp only
    rw [lt_e, if_pos (by rw [z_l0, z_le (by omega) (by omega)]; omega)]
    unfold y4B at hb
    rw [ec', e1, z_clamp (n := np) (by omega), z_xin (n := p) (m := np) (by omega) (by omega), z_clamp (n := p) (by omega), kc4] at hb
    exact hb
  · rw [g1, m1, m0, if_neg (by decide)]
    dsimp only
    rw [lt_e, if_pos rfl]
    dsimp only
    rw [if_pos rfl, ec, ec', br_e, z_ilt (by omega) (by omega), if_neg (by omega), e1, br_e, if_pos q2, lt_e, if_pos (by decide)]
    dsimp only
    rw [lt_e, if_pos (show Int32.ofNat 1 = 1 from rfl), if_pos (by decide)]
    dsimp only
    rw [lt_e, if_neg (by decide)]
end
