/-! THE LAW'S SIXTY ROUNDS -/
def yJ68 (xs : Nat → Int32) (LX : Nat) (G : St) (K : St → St → St → (Nat → Nat) → St → Option (St × St × St × (Nat → Nat) × St)) (fu : Nat) (v2 v17 : Int32) (F4 N19 T20 : St) (Y21 : Nat → Nat) (S22 : St) : Option (St × St × St × (Nat → Nat) × St) :=
  lt_ (fun (N23 : St) (S24 : St) => yJ103 xs LX G K fu v2 v17 F4 T20 Y21 N23 S24) fun J103 =>
  if (v2 - v2 / 9 * 9) = 8 then
    bd (lbelow (v17 >>> (4 &&& 31)) 90) fun v254 =>
    lt_ (1 + v254) fun v257 =>
    br2 (f2_pass G N19 F4 T20 v257) fun v258 N259 =>
    bd (f5_pass_ Y21 S22 v257) fun S262 =>
    J103 N259 S262
  else
    J103 N19 S22
section
variable {nc ns nl np : Nat} {Y : Nat → Nat} {T N M S : St} {G : St} {xs : Nat → Int32} {LX : Nat} {K : St → St → St → (Nat → Nat) → St → Option (St × St × St × (Nat → Nat) × St)}
theorem y_j68 (J : YJ nc ns nl np T N M Y S) (hn : 1 ≤ nl) (fu k : Nat) (hk : k < 60) (v17 : Int32) (F4 : St) : ∃ N' F' S' M', YJ nc ns nl np T N' M' Y S' ∧ yJ68 xs LX G K fu (Int32.ofNat k) v17 F4 N T Y S = f6_law_L22 xs LX G K fu (Int32.ofNat (k + 1)) N' F' T Y S' := by
  unfold yJ68
  rw [lt_e]
  by_cases h : (Int32.ofNat k - Int32.ofNat k / 9 * 9) = 8
  · obtain ⟨d, hd, ed⟩ := y_below (v17 >>> (4 &&& 31)) (n := 90) (by omega) (by omega)
    have ed' : lbelow (v17 >>> (4 &&& 31)) 90 = some (Int32.ofNat d) := ed
    obtain ⟨N1, M1, S1, w, a1, a2, I1⟩ := y_passV J.1 G F4 (show 1 ≤ 1 + d by omega) (show 1 + d ≤ 600 by omega)
    obtain ⟨N2, F2, S2, M2, I2, b⟩ := y_chk (xs := xs) (LX := LX) (K := K) (G := G) I1 hn fu (Int32.ofNat k) v17 F4
    refine ⟨N2, F2, S2, M2, ⟨I2, J.2⟩, ?_⟩
    rw [if_pos h, ed', bd_e, lt_e, show (1 : Int32) = Int32.ofNat 1 from rfl, z_add, a1, br2_e, a2, bd_e]
    rw [z_s1] at b
    exact b
  · obtain ⟨N2, F2, S2, M2, I2, b⟩ := y_chk (xs := xs) (LX := LX) (K := K) (G := G) J.1 hn fu (Int32.ofNat k) v17 F4
    refine ⟨N2, F2, S2, M2, ⟨I2, J.2⟩, ?_⟩
    rw [if_neg h]
    rw [z_s1] at b
    exact b
end
theorem y_law {nc ns nl np : Nat} {G : St} {xs : Nat → Int32} {LX : Nat} (hL : LX ≤ 260) (hn : 1 ≤ nl) : ∀ (n k fu : Nat) (N F T : St) (Y : Nat → Nat) (S M : St), YJ nc ns nl np T N M Y S → k + n = 60 → n < fu →
    ∃ N' F' T' Y' S' M', f6_law_L22 xs LX G (fun N9 F10 T11 Y12 S13 => some (N9, F10, T11, Y12, S13)) fu (Int32.ofNat k) N F T Y S = some (N', F', T', Y', S') ∧ YJ nc ns nl np T' N' M' Y' S' := by
  intro n
  induction n with
  | zero =>
    intro k fu N F T Y S M J hk hf
    obtain ⟨fu, rfl⟩ : ∃ k, fu = k + 1 := ⟨fu - 1, by omega⟩
    refine ⟨N, F, T, Y, S, M, ?_, J⟩
    rw [f6_law_L22, show (60 : Int32) = Int32.ofNat 60 from rfl, z_ile (by omega) (by omega), if_pos (by omega)]
  | succ n ih =>
    intro k fu N F T Y S M J hk hf
    obtain ⟨fu, rfl⟩ : ∃ k, fu = k + 1 := ⟨fu - 1, by omega⟩
    obtain ⟨c, hc⟩ := y_cell xs hL (show k % 16 < 1000000 by omega)
    have hc' : lcell xs LX (Int32.ofNat k - Int32.ofNat k / 16 * 16) = some c := by
      rw [show (16 : Int32) = Int32.ofNat 16 from rfl, z_mod (by omega) (by omega)]; exact hc
    obtain ⟨w, hw⟩ : ∃ w, w = (c >>> (((Int32.ofNat k / 16) * 3) &&& 31)) + (103 * Int32.ofNat k) := ⟨_, rfl⟩
    rw [f6_law_L22, show (60 : Int32) = Int32.ofNat 60 from rfl, z_ile (by omega) (by omega), if_neg (by omega), hc', bd_e, lt_e, ← hw, lt_e]
    by_cases h : (Int32.ofNat k - Int32.ofNat k / 3 * 3) = 0
    · obtain ⟨N1, T1, Y1, S1, M1, a1, J1⟩ := y_act J hn G F w
      obtain ⟨N2, F2, S2, M2, J2, b⟩ := y_j68 (xs := xs) (LX := LX) (K := fun N9 F10 T11 Y12 S13 => some (N9, F10, T11, Y12, S13)) (G := G) J1 hn fu k (by omega) w F
      obtain ⟨N', F', T', Y', S', M', d, J'⟩ := ih (k + 1) fu N2 F2 T1 Y1 S2 M2 J2 (by omega) (by omega)
      refine ⟨N', F', T', Y', S', M', ?_, J'⟩
      rw [if_pos h, a1, bd5_e, if_neg (by decide)]
      exact Eq.trans b d
    · obtain ⟨N2, F2, S2, M2, J2, b⟩ := y_j68 (xs := xs) (LX := LX) (K := fun N9 F10 T11 Y12 S13 => some (N9, F10, T11, Y12, S13)) (G := G) J hn fu k (by omega) w F
      obtain ⟨N', F', T', Y', S', M', d, J'⟩ := ih (k + 1) fu N2 F2 T Y S2 M2 J2 (by omega) (by omega)
      refine ⟨N', F', T', Y', S', M', ?_, J'⟩
      rw [if_neg h]
      exact Eq.trans b d
/-- all that comes after the town is built -/
theorem y_rest {nc ns nl np : Nat} {T N M S : St} {Y : Nat → Nat} {xs : Nat → Int32} {LX : Nat} (hL : LX ≤ 260) (hn : 1 ≤ nl) (J : YJ nc ns nl np T N M Y S) : ∃ N2 F2 T2 Y2 S2 v, f6_law S0 N S0 T Y S xs LX = some (N2, F2, T2, Y2, S2) ∧ f6_same S0 N2 F2 T2 Y2 S2 = some () ∧ ¬ Int32.ofNat (Y2 3) = 0 ∧ f2_mean S0 N2 F2 T2 = some (some (v, Int32.ofNat (Y2 3))) ∧ f5_sum Y2 S2 3 = some v := by
  obtain ⟨N', F', T', Y', S', M', d, J'⟩ := y_law (G := S0) hL hn 60 0 xF64 N S0 T Y S M J (by omega) (by unfold xF64; omega)
  obtain ⟨⟨E, B, X, R, V⟩, W⟩ := J'
  have l3 := B.l3
  have hk : ¬ Int32.ofNat nl = 0 := by rw [z_l0, z_inj (by omega) (by omega)]; omega
  refine ⟨N', F', T', Y', S', zoil M' nl, d, y_same ⟨E, B, X, R, V⟩ S0 F', by rw [R.y3]; exact hk, ?_, y_sum R B (w := 3) (by omega)⟩
  unfold f2_mean
  rw [R.y3, E.c7, B.k3, if_neg hk, z_oil E B, bd_e]
  rfl
