/-! WHAT IS FORETOLD -/
def ycm (l : Nat) : Nat → Nat → Int32 → St → Int32
  | 0, _, _, _ => -1
  | r + 1, k, x, M => match f3_minuteOn M with
    | some (_, M') => if M' 8 (ix8 l 6) = x then ycm l r (k + 1) x M' else Int32.ofNat k
    | none => -1
theorem ycm_v (l : Nat) : ∀ (r k : Nat) (x : Int32) (M : St), ycm l r k x M = -1 ∨ ∃ j, k ≤ j ∧ j < k + r ∧ ycm l r k x M = Int32.ofNat j := by
  intro r
  induction r with
  | zero => intro k x M; exact .inl rfl
  | succ r ih =>
    intro k x M
    rw [ycm]
    cases h : f3_minuteOn M with
    | none => exact .inl rfl
    | some q =>
      obtain ⟨v, M'⟩ := q
      simp only []
      by_cases e : M' 8 (ix8 l 6) = x
      · rw [if_pos e]
        rcases ih (k + 1) x M' with h | ⟨j, h1, h2, h3⟩
        · exact .inl h
        · exact .inr ⟨j, by omega, by omega, h3⟩
      · rw [if_neg e]; exact .inr ⟨k, by omega, by omega, rfl⟩
theorem ycm_s (l : Nat) : ∀ (r k : Nat) (x : Int32) (M : St), k + r ≤ 700 → ycm l r (k + 1) x M ≠ -1 → ycm l r k x M = ycm l r (k + 1) x M - 1 := by
  intro r
  induction r with
  | zero => intro k x M _ h; exact absurd rfl h
  | succ r ih =>
    intro k x M hk
    rw [ycm, ycm]
    cases h : f3_minuteOn M with
    | none => intro h; exact absurd rfl h
    | some q =>
      obtain ⟨v, M'⟩ := q
      simp only []
      by_cases e : M' 8 (ix8 l 6) = x
      · rw [if_pos e, if_pos e]
        exact ih (k + 1) x M' (by omega)
      · rw [if_neg e, if_neg e, z_p1]; intro _; rfl
theorem y_comesL {nc ns nl np m0 : Nat} {T N : St} {l : Nat} (hl : l < nl) (hm0 : m0 ≤ 600) :
    ∀ (r k fu : Nat) (F M : St), ZE nc nl T F M → ZB nc ns nl np M → M 12 0 = Int32.ofNat (m0 + k - 1) → 1 ≤ k → m0 + k + r = 601 → r < fu →
    ∃ F', f2_comes_L36 (Int32.ofNat l) (Int32.ofNat (600 - m0)) N T fu (Int32.ofNat k) F = some (.inr (ycm l r k (N 7 l) M, F')) := by
  intro r
  induction r with
  | zero =>
    intro k fu F M E B hm h1 h2 hf
    obtain ⟨fu, rfl⟩ : ∃ k, fu = k + 1 := ⟨fu - 1, by omega⟩
    refine ⟨F, ?_⟩
    rw [f2_comes_L36, z_ilt (by omega) (by omega), if_pos (by omega)]; rfl
  | succ r ih =>
    intro k fu F M E B hm h1 h2 hf
    have l3 := B.l3
    obtain ⟨fu, rfl⟩ : ∃ k, fu = k + 1 := ⟨fu - 1, by omega⟩
    obtain ⟨F1, M1, v, w, a1, E1, B1, K1, a2, a3, a4, a5⟩ := z_minute E B (show m0 + k - 1 < 600 by omega) hm
    have g1 := z_go1 (nc := nc) (nl := nl) a5
    rw [f2_comes_L36, z_ilt (by omega) (by omega), if_neg (by omega), g1, bd2_e, z_xin (n := l) (by omega) (by omega), gd_t, z_clamp (n := l) (by omega), z_s1, ycm, a1]
    simp only []
    by_cases e : F1 7 l = N 7 l
    · obtain ⟨F', b⟩ := ih (k + 1) fu F1 M1 E1 B1 (by rw [a2]; congr 1; omega) (by omega) (by omega) (by omega)
      refine ⟨F', ?_⟩
      rw [if_pos e, if_pos (by rw [← E1.n7 l (by omega)]; exact e)]; exact b
    · refine ⟨F1, ?_⟩
      rw [if_neg e, if_neg (by rw [← E1.n7 l (by omega)]; exact e)]
theorem y_comes {nc ns nl np m : Nat} {T N M : St} (E : ZE nc nl T N M) (B : ZB nc ns nl np M) (G F : St) {l : Nat} (hl : l < nl) (hm : m ≤ 600) (em : M 12 0 = Int32.ofNat m) : ∃ F', f2_comes G N F T (Int32.ofNat l) = some (.inr (ycm l (600 - m) 1 (M 8 (ix8 l 6)) M, F')) := by
  have l3 := B.l3
  obtain ⟨Fc, c1, Ec, c2⟩ := z_copy F E B
  obtain ⟨F', a⟩ := y_comesL (N := N) hl hm (600 - m) 1 xF Fc M Ec B (by exact em) (by omega) (by omega) (by unfold xF; omega)
  refine ⟨F', ?_⟩
  unfold f2_comes
  rw [E.c7, B.k3, (z_idx_ok (i := l) (n := nl) hl (by omega)).1, bx0_r, c1, bd_e, lt_e, E.n0, em, show (600 : Int32) = Int32.ofNat 600 from rfl, z_sub hm, ← E.n7 l (by omega)]
  exact a
theorem y_fore {nc ns nl np : Nat} {T N M : St} (E : ZE nc nl T N M) (B : ZB nc ns nl np M) (G F : St) : ∃ M', ZB nc ns nl np M' ∧ (∀ m, m < 600 → M 12 0 = Int32.ofNat m → ∃ v, f3_minuteOn M = some (v, M')) ∧
    (∃ F', f2_foresee G N F T 1 0 = some (.inr (zsum (fun l => M' 8 (ix8 l 5)) nl, F'))) ∧ ∃ F', f2_foresee G N F T 1 2 = some (.inr (M' 12 2 - M 12 2, F')) := by
  obtain ⟨Fc, c1, Ec, c2⟩ := z_copy F E B
  have hg : ∃ N' M' w, f0_goBy Fc T 1 = some (w, N') ∧ ZE nc nl T N' M' ∧ ZB nc ns nl np M' ∧ (∀ m, m < 600 → M 12 0 = Int32.ofNat m → ∃ v, f3_minuteOn M = some (v, M')) := by
    obtain ⟨m, hm, em⟩ := B.mi
    by_cases h6 : m = 600
    · refine ⟨Fc, M, 0, ?_, Ec, B, fun m' h1 h2 => ?_⟩
      · unfold f0_goBy xF
        rw [f0_goBy_L5, if_neg (by decide), if_pos (by rw [Ec.n0, em, h6]; decide)]
      · exfalso
        rw [em, z_inj (by omega) (by omega)] at h2; omega
    · obtain ⟨N1, M1, v, w, a1, E1, B1, K1, a2, a3, a4, a5⟩ := z_minute Ec B (show m < 600 by omega) em
      exact ⟨N1, M1, w, z_go1 (nc := nc) (nl := nl) a5, E1, B1, fun _ _ _ => ⟨v, a1⟩⟩
  obtain ⟨N', M', w, g1, E', B', hv⟩ := hg
  refine ⟨M', B', hv, ⟨N', ?_⟩, ⟨N', ?_⟩⟩
  · unfold f2_foresee
    rw [y_rng1, bx0_r, show f2_requireIndex 0 3 = some (.inr ()) from (z_idx_ok (i := 0) (n := 3) (by omega) (by omega)).1, bx0_r, c1, bd_e, g1, bd2_e, if_pos rfl, z_bl E' B', bd_e]
  · unfold f2_foresee
    rw [y_rng1, bx0_r, show f2_requireIndex 2 3 = some (.inr ()) from (z_idx_ok (i := 2) (n := 3) (by omega) (by omega)).1, bx0_r, c1, bd_e, g1, bd2_e, if_neg (by decide), if_neg (by decide), E'.n2, E.n2]
