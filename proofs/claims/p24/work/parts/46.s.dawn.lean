/-! DAWN -/
theorem ZR_n {nc ns nl np : Nat} {T N M M' : St} (R : ZR T N M') (B : ZB nc ns nl np M) (h1 : M' 1 = M 1) (h2 : M' 2 = M 2) (h3 : M' 3 = M 3) (h4 : M' 4 = M 4) : ZE nc nl T N M' ∧ ZB nc ns nl np M' ∧ ZW nc ns T := by
  obtain ⟨a, b, c, d, E', B', W'⟩ := R
  have l1 := B.l1; have l2 := B.l2; have l3 := B.l3; have l4 := B.l4
  have l1' := B'.l1; have l2' := B'.l2; have l3' := B'.l3; have l4' := B'.l4
  have e1 : a = nc := by
    have := B'.k1; rw [h1, B.k1, z_inj (by omega) (by omega)] at this; exact this.symm
  have e2 : b = ns := by
    have := B'.k2; rw [h2, B.k2, z_inj (by omega) (by omega)] at this; exact this.symm
  have e3 : c = nl := by
    have := B'.k3; rw [h3, B.k3, z_inj (by omega) (by omega)] at this; exact this.symm
  have e4 : d = np := by
    have := B'.k4; rw [h4, B.k4, z_inj (by omega) (by omega)] at this; exact this.symm
  subst e1; subst e2; subst e3; subst e4
  exact ⟨E', B', W'⟩
theorem SR_0 {nc ns nl np : Nat} {Y : Nat → Nat} {S M : St} {x : Int32} (h : SR nc ns nl np Y S M) : SR nc ns nl np Y S (up2 M 0 0 x) := h
theorem SW_0 {nc : Nat} {S M : St} {x : Int32} (h : SW nc S M) : SW nc S (up2 M 0 0 x) := h
theorem ZX_0 {nl np : Nat} {M : St} {x : Int32} (h : ZX nl np M) : ZX nl np (up2 M 0 0 x) := h
theorem ZX_o {nl np : Nat} {M : St} {i : Nat} (h : ZX nl np M) : ZX nl np (up2 M 8 (ix8 i 5) 0) := by
  have e : ∀ l w, w < 8 → w ≠ 5 → up2 M 8 (ix8 i 5) 0 8 (ix8 l w) = M 8 (ix8 l w) := fun l w hw h5 => by rw [up8 hw (by omega), if_neg (by omega)]
  refine ⟨fun l hl h1 => ?_, fun l hl => ?_, fun l hl => ?_, fun l hl => ?_, h.ld, h.z6, fun p l hp hl hg => ?_⟩
  · rw [e l 3 (by omega) (by omega)]
    rw [up8 (by omega) (by omega)] at h1
    by_cases q : l = i ∧ 5 = 5
    · rw [if_pos q] at h1; exact absurd h1 (by decide)
    · rw [if_neg q] at h1; exact h.bo l hl h1
  · rw [e l 4 (by omega) (by omega)]; exact h.so l hl
  · rw [e l 2 (by omega) (by omega)]; exact h.li l hl
  · rw [e l 1 (by omega) (by omega)]; exact h.he l hl
  · rw [e l 1 (by omega) (by omega)]; exact h.go p l hp hl hg
theorem ZX_home {nl np : Nat} {M : St} {i : Nat} {x : Int32} (hl3 : nl ≤ 20) (h : ZX nl np M) : ZX nl np (up2 (up2 (up2 (up2 M 9 (ix10 i 1) x) 9 (ix10 i 5) (-1)) 9 (ix10 i 6) 0) 9 (ix10 i 8) (-1)) := by
  have e : ∀ q w, w < 10 → (up2 (up2 (up2 (up2 M 9 (ix10 i 1) x) 9 (ix10 i 5) (-1)) 9 (ix10 i 6) 0) 9 (ix10 i 8) (-1)) 9 (ix10 q w) = if q = i ∧ w = 8 then -1 else if q = i ∧ w = 6 then 0 else if q = i ∧ w = 5 then -1 else if q = i ∧ w = 1 then x else M 9 (ix10 q w) := fun q w hw => by
    rw [up9 hw (by omega), up9 hw (by omega), up9 hw (by omega), up9 hw (by omega)]
  refine ⟨h.bo, h.so, h.li, h.he, fun p hp => ?_, fun p hp h5 => ?_, fun p l hp hl hg => ?_⟩
  · rw [e p 2 (by omega), if_neg (by omega), if_neg (by omega), if_neg (by omega), if_neg (by omega)]; exact h.ld p hp
  · rw [e p 5 (by omega), if_neg (by omega), if_neg (by omega)] at h5
    rw [e p 6 (by omega), if_neg (by omega)]
    by_cases q : p = i
    · rw [if_pos ⟨q, rfl⟩]
    · rw [if_neg (by omega), if_neg (by omega), if_neg (by omega)]
      rw [if_neg (by omega), if_neg (by omega)] at h5
      exact h.z6 p hp h5
  · rw [e p 5 (by omega), if_neg (by omega), if_neg (by omega)] at hg
    by_cases q : p = i
    · rw [if_pos ⟨q, rfl⟩] at hg
      have := hg.symm
      rw [z_ne1 (by omega)] at this; exact this.elim
    · rw [if_neg (by omega), if_neg (by omega)] at hg
      rw [e p 4 (by omega), e p 2 (by omega), if_neg (by omega), if_neg (by omega), if_neg (by omega), if_neg (by omega), if_neg (by omega), if_neg (by omega), if_neg (by omega), if_neg (by omega)]
      exact h.go p l hp hl hg
section
variable {nc ns nl np : Nat} {Y : Nat → Nat}
theorem y_dl (hl3 : nl ≤ 20) : ∀ n i fu (M S : St), i + n = nl → n < fu → M 3 0 = Int32.ofNat nl → SR nc ns nl np Y S M → SW nc S M → ZX nl np M →
    ∃ M' S', (∀ K, f3_dawn_L26 K fu (Int32.ofNat i) M = K M') ∧ (∀ K, f5_dawn_L17 (Int32.ofNat nl) Y K fu (Int32.ofNat i) S = K S') ∧ SR nc ns nl np Y S' M' ∧ SW nc S' M' ∧ ZX nl np M' ∧ ∀ k, k ≠ 8 → M' k = M k := by
  intro n
  induction n with
  | zero =>
    intro i fu M S hi hf k3 R V X
    obtain ⟨fu, rfl⟩ : ∃ k, fu = k + 1 := ⟨fu - 1, by omega⟩
    refine ⟨M, S, fun K => ?_, fun K => ?_, R, V, X, fun _ _ => rfl⟩
    · rw [f3_dawn_L26, k3, z_ile (by omega) (by omega), if_pos (by omega)]
    · rw [f5_dawn_L17, z_ile (by omega) (by omega), if_pos (by omega)]
  | succ n ih =>
    intro i fu M S hi hf k3 R V X
    obtain ⟨fu, rfl⟩ : ∃ k, fu = k + 1 := ⟨fu - 1, by omega⟩
    obtain ⟨M', S', a1, a2, R', V', X', a3⟩ := ih (i + 1) fu (up2 M 8 (ix8 i 5) 0) (up2 S (rk 11 i) 5 0) (by omega) (by omega) k3 (SR_8 R (by omega)) (SW_k V (fun a _ => rk_ne (by omega) (by omega) (by omega)) (by omega)) (ZX_o X)
    refine ⟨M', S', fun K => ?_, fun K => ?_, R', V', X', fun k hk => ?_⟩
    · rw [f3_dawn_L26, k3, z_ile (by omega) (by omega), if_neg (by omega), z_setLamp5 (by omega), bd_e, z_s1]; exact a1 K
    · rw [f5_dawn_L17, z_ile (by omega) (by omega), if_neg (by omega), R.y3, z_xin (n := i) (by omega) (by omega), gd_t, lt_e, z_clamp (n := i) (by omega), kc5, z_s1]; exact a2 K
    · rw [a3 k hk]; exact up1_ne hk
theorem y_dp (hl3 : nl ≤ 20) (hp4 : np ≤ 4) : ∀ n i fu (M S : St), i + n = np → n < fu → M 4 0 = Int32.ofNat np → SR nc ns nl np Y S M → SW nc S M → ZX nl np M →
    ∃ M' S', (∀ K, f3_dawn_L49 K fu (Int32.ofNat i) M = K M') ∧ (∀ K, f5_dawn_L51 (Int32.ofNat np) Y K fu (Int32.ofNat i) S = K S') ∧ SR nc ns nl np Y S' M' ∧ SW nc S' M' ∧ ZX nl np M' ∧ ∀ k, k ≠ 9 → M' k = M k := by
  intro n
  induction n with
  | zero =>
    intro i fu M S hi hf k3 R V X
    obtain ⟨fu, rfl⟩ : ∃ k, fu = k + 1 := ⟨fu - 1, by omega⟩
    refine ⟨M, S, fun K => ?_, fun K => ?_, R, V, X, fun _ _ => rfl⟩
    · rw [f3_dawn_L49, k3, z_ile (by omega) (by omega), if_pos (by omega)]
    · rw [f5_dawn_L51, z_ile (by omega) (by omega), if_pos (by omega)]
  | succ n ih =>
    intro i fu M S hi hf k3 R V X
    obtain ⟨fu, rfl⟩ : ∃ k, fu = k + 1 := ⟨fu - 1, by omega⟩
    have hp : i < np := by omega
    have nk : ∀ a, a < nc → rk 14 a ≠ rk 12 i := fun a _ => rk_ne (by omega) (by omega) (by omega)
    obtain ⟨M', S', a1, a2, R', V', X', a3⟩ := ih (i + 1) fu (up2 (up2 (up2 (up2 M 9 (ix10 i 1) (M 9 (ix10 i 0))) 9 (ix10 i 5) (-1)) 9 (ix10 i 6) 0) 9 (ix10 i 8) (-1)) (up2 (up2 (up2 (up2 S (rk 12 i) 1 (M 9 (ix10 i 0))) (rk 12 i) 4 (-1)) (rk 12 i) 5 0) (rk 12 i) 7 (-1)) (by omega) (by omega) k3
      (SR_9 (w := 7) (SR_9 (w := 5) (SR_9 (w := 4) (SR_9 (w := 1) R (by omega)) (by omega)) (by omega)) (by omega))
      (SW_k (SW_k (SW_k (SW_k V nk (by omega)) nk (by omega)) nk (by omega)) nk (by omega)) (ZX_home hl3 X)
    refine ⟨M', S', fun K => ?_, fun K => ?_, R', V', X', fun k hk => ?_⟩
    · rw [f3_dawn_L49, k3, z_ile (by omega) (by omega), if_neg (by omega), z_pe0 (by omega), bd_e, z_put1 (by omega), bd_e, z_put5 (by omega), bd_e, z_put6 (by omega), bd_e, z_put8 (by omega), bd_e, z_s1]; exact a1 K
    · rw [f5_dawn_L51, z_ile (by omega) (by omega), if_neg (by omega), R.y4, z_xin (n := i) (by omega) (by omega), gd_t, lt_e, lt_e, lt_e, lt_e, z_clamp (n := i) (by omega), kc0, R.l0 hp, z_s1]; exact a2 K
    · rw [a3 k hk]
      exact (up1_ne hk).trans ((up1_ne hk).trans ((up1_ne hk).trans (up1_ne hk)))
theorem y_dawn {T N M S : St} (I : YI nc ns nl np T N M Y S) (W : ZW nc ns T) (G F : St) (em : M 12 0 = Int32.ofNat 600) :
    ∃ r N' M' S', f2_dawn G N F T = some (.inr (r, N')) ∧ f5_dawn Y S = some (r, S') ∧ YI nc ns nl np T N' M' Y S' := by
  obtain ⟨E, B, X, R, V⟩ := I
  have l3 := B.l3; have l4 := B.l4
  obtain ⟨M1, S1, a1, a2, R1, V1, X1, a3⟩ := y_dl (nc := nc) (ns := ns) (Y := Y) l3 nl 0 xF (up2 M 0 0 0) S (by omega) (by unfold xF; omega) B.k3 (SR_0 R) (SW_0 V) (ZX_0 X)
  obtain ⟨M2, S2, b1, b2, R2, V2, X2, b3⟩ := y_dp (nc := nc) (ns := ns) (Y := Y) l3 l4 np 0 xF M1 S1 (by omega) (by unfold xF; omega) (by rw [a3 4 (by omega)]; exact B.k4) R1 V1 X1
  have hM : f3_dawn M = some (zsum (fun l => M 8 (ix8 l 5)) nl, up2 (up2 M2 12 0 0) 12 1 (M2 12 1 + 1)) := by
    unfold f3_dawn f3_isOver
    rw [lt_e, kc0, show (up2 M 0 0 0) 12 0 = Int32.ofNat 600 from em, if_pos (by decide), bd_e, if_neg (by decide), z_all (w := 5) (x := 5) rfl (by decide) (ZB_0 (x := 0) B), bd_e]
    refine (a1 _).trans ((b1 _).trans ?_)
    rw [lt_e, lt_e, kc1, up2_n2 (by omega)]
    rfl
  have hS : f5_dawn Y S = some (zsum (fun l => M 8 (ix8 l 5)) nl, up2 (up2 S2 7 0 0) 8 0 (M2 12 1 + 1)) := by
    unfold f5_dawn
    rw [show (5 : Int32) = Int32.ofNat 5 from rfl, y_sum R B (w := 5) (by omega), bd_e, lt_e, R.y3]
    refine (a2 _).trans ?_
    rw [lt_e, R.y4]
    refine (b2 _).trans ?_
    rw [lt_e, lt_e, up2_n1 (by omega), R2.ni]
  have q : ∀ k, k = 1 ∨ k = 2 ∨ k = 3 ∨ k = 4 → (up2 (up2 M2 12 0 0) 12 1 (M2 12 1 + 1)) k = M k := fun k hk => by
    rw [show (up2 (up2 M2 12 0 0) 12 1 (M2 12 1 + 1)) k = M2 k from (up1_ne (by omega)).trans (up1_ne (by omega)), b3 k (by omega), a3 k (by omega)]; exact up1_ne (by omega)
  rcases z_dawn ⟨nc, ns, nl, np, E, B, W⟩ G F with ⟨e, M', -, h2, ⟨-, h3⟩, -⟩ | ⟨r, N', M', h1, h2, -, h4⟩
  · rw [hM] at h2
    have e2 := (Prod.mk.inj (Option.some.inj h2)).2
    rw [← e2] at h3
    have : (up2 (up2 M2 12 0 0) 12 1 (M2 12 1 + 1)) 0 0 = 0 := by
      rw [show (up2 (up2 M2 12 0 0) 12 1 (M2 12 1 + 1)) 0 = M2 0 from (up1_ne (by omega)).trans (up1_ne (by omega)), b3 0 (by omega), a3 0 (by omega)]; exact z_th M 0
    rw [this] at h3; exact absurd h3 (by decide)
  · rw [hM] at h2
    obtain ⟨e1, e2⟩ := Prod.mk.inj (Option.some.inj h2)
    subst e1; subst e2
    obtain ⟨E', B', -⟩ := ZR_n h4 B (q 1 (by omega)) (q 2 (by omega)) (q 3 (by omega)) (q 4 (by omega))
    refine ⟨_, N', _, _, h1, hS, E', B', ?_, ?_, ?_⟩
    · exact ZX_up (ZX_up X2 (by omega) (by omega) (by omega)) (by omega) (by omega) (by omega)
    · exact SR_n (SR_n R2 (.inl ⟨rfl, rfl⟩)) (.inr (.inl ⟨rfl, rfl⟩))
    · exact SW_k (SW_k V2 (fun a _ e => rk_lo (g := 14) (i := a) (by omega) (by omega) e.symm) (by omega)) (fun a _ e => rk_lo (g := 14) (i := a) (by omega) (by omega) e.symm) (by omega)
end
