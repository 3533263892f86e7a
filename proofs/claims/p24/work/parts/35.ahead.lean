theorem z_pass {T N M : St} (R : ZR T N M) (G F : St) (p1 : Int32) :
    (∃ e M', f2_pass G N F T p1 = some (.inl e) ∧ f3_pass M p1 = some (0, M') ∧ (e = 1 ∧ M' 0 0 = 1) ∧ ZR T N M') ∨
    (∃ r N' M', f2_pass G N F T p1 = some (.inr (r, N')) ∧ f3_pass M p1 = some (r, M') ∧ M' 0 0 = 0 ∧ ZR T N' M') := by
  obtain ⟨nc, ns, nl, np, E, B, W⟩ := R
  have F1 : ∀ x, ZR T N (up2 (up2 M 0 0 0) 0 0 x) := fun x => ⟨nc, ns, nl, np, ZE_0 (ZE_0 E), ZB_0 (ZB_0 B), W⟩
  unfold f2_pass f3_pass
  simp only [lt_e]
  rcases z_rng p1 1 600 with ⟨h3, h4⟩ | ⟨h3, h4, h5, h6⟩
  · left
    rw [h3, bx0_l, h4, bd_e, if_pos rfl, z_fail, bd2_e]
    exact ⟨_, _, rfl, rfl, ⟨rfl, z_th _ _⟩, F1 1⟩
  · right
    obtain ⟨cnt, _, hc, ec⟩ := z_rngN (lo := 1) (hi := 600) (by omega) (by omega) h5 h6
    subst ec
    obtain ⟨N', M', w, a1, a2, E', B', K', a3⟩ := z_pass_L (T := T) hc xF 0 N (up2 M 0 0 0) 0 (ZE_0 (x := 0) E) (ZB_0 B) (by omega) (by unfold xF; omega)
    have g1 : f0_goBy N T (Int32.ofNat cnt) = some (w, N') := by
      unfold f0_goBy
      refine a1.trans ?_
      rw [Int32.zero_add]
    have g2 : f3_minutesOn (up2 M 0 0 0) (Int32.ofNat cnt) = some M' := a2
    rw [h3, bx0_r, h4, bd_e, if_neg (show ¬ (1 : Int32) = 0 by decide), g1, bd2_e, z_all (w := 6) (x := 6) rfl (by decide) (ZB_0 (x := 0) B), bd_e, g2, bd_e, z_all (w := 6) (x := 6) rfl (by decide) B', bd_e]
    refine ⟨w, N', M', rfl, ?_, ?_, nc, ns, nl, np, E', B', W⟩
    · have : zsum (fun l => M' 8 (ix8 l 6)) nl = zsum (fun l => (up2 M 0 0 0) 8 (ix8 l 6)) nl + w := a3
      rw [this, Int32.add_comm, Int32.add_sub_cancel]
    · rw [K'.1 0 (by decide) (by decide) (by decide)]; exact z_th M 0
theorem z_need_L {nc ns nl np : Nat} {T N M : St} (E : ZE nc nl T N M) (B : ZB nc ns nl np M) {l c : Nat} (hc : c ≤ 3) (hg : ∀ x, f3_gust M (Int32.ofNat l) x = some (x + Int32.ofNat c)) :
    ∀ (fu i a : Nat), i ≤ 10 → 10 - i < fu → a ≤ 9 → ∃ b, b ≤ 9 ∧ (∀ K, f2_needs_L15 T K fu (Int32.ofNat a) (Int32.ofNat i) = K (Int32.ofNat b)) ∧
      (∀ K, 1 ≤ i → f3_needs_L33 (Int32.ofNat l) M K fu (Int32.ofNat (a + c)) (Int32.ofNat i) = K (Int32.ofNat (b + c))) ∧
      (∀ K, i = 0 → a = 0 → f3_needs_L33 (Int32.ofNat l) M K fu (Int32.ofNat 0) (Int32.ofNat i) = K (Int32.ofNat (b + c))) := by
  intro fu
  induction fu with
  | zero => intro i a h1 h2; omega
  | succ fu ih =>
    intro i a h1 h2 ha
    by_cases h : 10 ≤ i
    · refine ⟨a, ha, ?_, ?_, ?_⟩
      · intro K; rw [f2_needs_L15, if_pos (by rw [show (10 : Int32) = Int32.ofNat 10 from rfl, z_le (by omega) (by omega)]; exact h)]
      · intro K _; rw [f3_needs_L33, if_pos (by rw [show (10 : Int32) = Int32.ofNat 10 from rfl, z_le (by omega) (by omega)]; exact h)]
      · intro K h0; omega
    · obtain ⟨w, hw, ew⟩ := B.wd i
      obtain ⟨b, hb, b1, b2, b3⟩ := ih (i + 1) (max a w) (by omega) (by omega) (by omega)
      refine ⟨b, hb, ?_, ?_, ?_⟩
      · intro K
        rw [f2_needs_L15, if_neg (by rw [show (10 : Int32) = Int32.ofNat 10 from rfl, z_le (by omega) (by omega)]; exact h), z_xin (by omega) (by omega), gd_t, z_clamp (by omega), E.w11, ew, z_s1, lt_e, z_ilt (by omega) (by omega)]
        rw [← b1 K]; congr 1; split <;> congr 1 <;> omega
      · intro K h0
        rw [f3_needs_L33, if_neg (by rw [show (10 : Int32) = Int32.ofNat 10 from rfl, z_le (by omega) (by omega)]; exact h), z_xin (by omega) (by omega), gd_t, z_clamp (by omega), ew, z_s1, lt_e, hg, bd_e, lt_e, z_add, z_ilt (by omega) (by omega)]
        rw [← b2 K (by omega)]; congr 1; split <;> congr 1 <;> omega
      · intro K h0 h00
        rw [f3_needs_L33, if_neg (by rw [show (10 : Int32) = Int32.ofNat 10 from rfl, z_le (by omega) (by omega)]; exact h), z_xin (by omega) (by omega), gd_t, z_clamp (by omega), ew, z_s1, lt_e, hg, bd_e, lt_e, z_add, z_ilt (by omega) (by omega)]
        rw [← b2 K (by omega)]; congr 1; split <;> congr 1 <;> omega
theorem z_needs {T N M : St} (R : ZR T N M) (G F : St) (p1 : Int32) : ZQ T N M (f2_needs G N F T p1) (f3_needs M p1) := by
  obtain ⟨nc, ns, nl, np, E, B, W⟩ := R
  have l1 := B.l1; have l2 := B.l2; have l3 := B.l3
  have k3 : (up2 M 0 0 0) 3 0 = Int32.ofNat nl := B.k3
  have F1 : ∀ x, ZR T N (up2 (up2 M 0 0 0) 0 0 x) := fun x => ⟨nc, ns, nl, np, ZE_0 (ZE_0 E), ZB_0 (ZB_0 B), W⟩
  unfold f2_needs f3_needs f3_isLamp
  simp only [lt_e]
  rw [E.c7, B.k3, k3]
  rcases z_idx p1 (n := nl) (by omega) with ⟨h1, h2⟩ | ⟨l, hl, el, h1, h2⟩
  · left
    rw [h1, bx0_l, h2, bd_e, bd_e, if_pos rfl, z_fail, bd2_e]
    exact ⟨_, _, rfl, rfl, ⟨rfl, z_th _ _⟩, F1 1⟩
  · right
    subst el
    obtain ⟨s, hs, es⟩ := B.lw l hl
    obtain ⟨a, ha, ea⟩ := B.sa s hs
    obtain ⟨b, hb, eb⟩ := B.sb s hs
    obtain ⟨h_a, hha, eha⟩ := B.hi a
    obtain ⟨h_b, hhb, ehb⟩ := B.hi b
    have ec : (if M 5 (M 6 (ix3 (M 8 (ix8 l 0)).toNatClampNeg 0)).toNatClampNeg < M 5 (M 6 (ix3 (M 8 (ix8 l 0)).toNatClampNeg 1)).toNatClampNeg then M 5 (M 6 (ix3 (M 8 (ix8 l 0)).toNatClampNeg 1)).toNatClampNeg else M 5 (M 6 (ix3 (M 8 (ix8 l 0)).toNatClampNeg 0)).toNatClampNeg) / 10 = Int32.ofNat (max h_a h_b / 10) := by
      rw [es, z_clamp (n := s) (by omega), ea, eb, z_clamp (n := a) (by omega), z_clamp (n := b) (by omega), eha, ehb, z_ilt (by omega) (by omega)]
      have : (if h_a < h_b then Int32.ofNat h_b else Int32.ofNat h_a) = Int32.ofNat (max h_a h_b) := by split <;> congr 1 <;> omega
      rw [this, show (10 : Int32) = Int32.ofNat 10 from rfl, z_div (by omega) (by omega)]
    have hg : ∀ x, f3_gust (up2 M 0 0 0) (Int32.ofNat l) x = some (x + Int32.ofNat (max h_a h_b / 10)) := by
      intro x; rw [z_gust (ZB_0 (x := 0) B) hl]; congr 2
    obtain ⟨v, hv, v1, v2, v3⟩ := z_need_L (ZE_0 (x := 0) E) (ZB_0 B) (l := l) (c := max h_a h_b / 10) (by omega) hg xF 0 0 (by omega) (by unfold xF; omega) (by omega)
    have v1' : ∀ K, f2_needs_L15 T K xF 0 0 = K (Int32.ofNat v) := v1
    have v3' : ∀ K, f3_needs_L33 (Int32.ofNat l) (up2 M 0 0 0) K xF 0 0 = K (Int32.ofNat (v + max h_a h_b / 10)) := fun K => v3 K rfl rfl
    rw [h1, bx0_r, h2, bd_e, bd_e, if_neg (show ¬ (1 : Int32) = 0 by decide), v1', v3', z_windAt E B hl, bd_e, ec, z_add]
    generalize v + max h_a h_b / 10 = u at *
    have hx : ∃ y : Int32, y = (if (0 : Int32) < Int32.ofNat u - 4 then Int32.ofNat u - 4 else 0) := ⟨_, rfl⟩
    obtain ⟨y, ey⟩ := hx
    simp only [← ey]
    by_cases h : y ≤ 9
    · rw [if_neg (Int32.not_lt.mpr h), if_pos h]
      exact ⟨_, _, rfl, rfl, z_th M 0, nc, ns, nl, np, ZE_0 E, ZB_0 B, W⟩
    · rw [if_pos (Int32.not_le.mp h), if_neg h]
      exact ⟨_, _, rfl, rfl, z_th M 0, nc, ns, nl, np, ZE_0 E, ZB_0 B, W⟩
theorem z_back {M M' : St} (h : ZK M M') : f3_bringBack M' (kS M) = some M := by
  unfold f3_bringBack
  have x1 : xcp 0 0 160 160 160 = true := by decide
  have x2 : xcp 0 0 40 40 40 = true := by decide
  have x3 : xcp 0 0 3 3 3 = true := by decide
  rw [x1, x2, x3]
  simp only [gd_t, lt_e]
  congr 1
  funext k
  have c0 : (0 : Int32).toNatClampNeg = 0 := by decide
  have c1 : (160 : Int32).toNatClampNeg = 160 := by decide
  have c2 : (40 : Int32).toNatClampNeg = 40 := by decide
  have c3 : (3 : Int32).toNatClampNeg = 3 := by decide
  rw [c0, c1, c2, c3]
  by_cases k12 : k = 12
  · subst k12
    funext i
    show va_cpy (M 12) (M' 12) 0 0 3 i = M 12 i
    unfold va_cpy
    split
    · congr 1; omega
    · exact h.2.2.2 i (by omega)
  · by_cases k9 : k = 9
    · subst k9
      funext i
      show va_cpy (M 9) (M' 9) 0 0 40 i = M 9 i
      unfold va_cpy
      split
      · congr 1; omega
      · exact h.2.2.1 i (by omega)
    · by_cases k8 : k = 8
      · subst k8
        funext i
        show va_cpy (M 8) (M' 8) 0 0 160 i = M 8 i
        unfold va_cpy
        split
        · congr 1; omega
        · exact h.2.1 i (by omega)
      · simp only [up1, if_neg k12, if_neg k9, if_neg k8]
        exact h.1 k k8 k9 k12
theorem z_cp1 {F K' : St} {Kf : St → Option St} : ∀ (fu i : Nat) (N : St), i ≤ 20 → 20 - i < fu → (∀ l, l < 20 → F 6 l = 0 ∨ F 6 l = 1) →
    ∃ N', f0_copy_L41 F Kf fu (Int32.ofNat i) N = Kf N' ∧ (∀ k j, (k < 4 ∨ 8 < k) → N' k j = N k j) ∧ (∀ k j, 4 ≤ k → k ≤ 8 → i ≤ j → j < 20 → N' k j = F k j) ∧ (∀ k j, 4 ≤ k → k ≤ 8 → j < i → N' k j = N k j) := by
  intro fu
  induction fu with
  | zero => intro i N h1 h2; omega
  | succ fu ih =>
    intro i N h1 h2 hF
    by_cases h : 20 ≤ i
    · refine ⟨N, ?_, fun _ _ _ => rfl, fun k j _ _ h3 h4 => by omega, fun _ _ _ _ _ => rfl⟩
      rw [f0_copy_L41, if_pos (by rw [show (20 : Int32) = Int32.ofNat 20 from rfl, z_le (by omega) (by omega)]; exact h)]
    · obtain ⟨N', a1, a2, a3, a4⟩ := ih (i + 1) (up2 (up2 (up2 (up2 (up2 N 4 i (F 4 i)) 5 i (F 5 i)) 6 i (F 6 i)) 7 i (F 7 i)) 8 i (F 8 i)) (by omega) (by omega) hF
      have e6 : vp_nar .boolean (F 6 i) = F 6 i := by
        rcases hF i (by omega) with e | e <;> rw [e]
        · exact z_nar0
        · exact z_nar1
      refine ⟨N', ?_, ?_, ?_, ?_⟩
      · rw [f0_copy_L41, if_neg (by rw [show (20 : Int32) = Int32.ofNat 20 from rfl, z_le (by omega) (by omega)]; exact h), z_xin (by omega) (by omega), gd_t, z_clamp (by omega), z_s1]
        simp only [lt_e]
        rw [e6]; exact a1
      · intro k j hk
        rw [a2 k j hk]
        simp only [z_up]
        rw [if_neg (by omega), if_neg (by omega), if_neg (by omega), if_neg (by omega), if_neg (by omega)]
      · intro k j g1 g2 g3 g4
        by_cases hj : j = i
        · subst hj
          rw [a4 k j g1 g2 (by omega)]
          have : k = 4 ∨ k = 5 ∨ k = 6 ∨ k = 7 ∨ k = 8 := by omega
          rcases this with e | e | e | e | e <;> subst e <;> simp [z_up]
        · exact a3 k j g1 g2 (by omega) g4
      · intro k j h1 h2 h3
        rw [a4 k j h1 h2 (by omega)]
        have hj : ¬ j = i := by omega
        have : k = 4 ∨ k = 5 ∨ k = 6 ∨ k = 7 ∨ k = 8 := by omega
        rcases this with e | e | e | e | e <;> subst e <;> simp [z_up, hj]
theorem z_cp2 {F : St} : ∀ (fu i : Nat) (N : St), i ≤ 4 → 4 - i < fu →
    ∃ N', f0_copy_L115 F fu (Int32.ofNat i) N = some N' ∧ (∀ k j, (k < 9 ∨ 15 < k) → N' k j = N k j) ∧ (∀ k j, 9 ≤ k → k ≤ 15 → i ≤ j → j < 4 → N' k j = F k j) ∧ (∀ k j, 9 ≤ k → k ≤ 15 → j < i → N' k j = N k j) := by
  intro fu
  induction fu with
  | zero => intro i N h1 h2; omega
  | succ fu ih =>
    intro i N h1 h2
    by_cases h : 4 ≤ i
    · refine ⟨N, ?_, fun _ _ _ => rfl, fun k j _ _ h3 h4 => by omega, fun _ _ _ _ _ => rfl⟩
      rw [f0_copy_L115, if_pos (by rw [show (4 : Int32) = Int32.ofNat 4 from rfl, z_le (by omega) (by omega)]; exact h)]
    · obtain ⟨N', a1, a2, a3, a4⟩ := ih (i + 1) (up2 (up2 (up2 (up2 (up2 (up2 (up2 N 9 i (F 9 i)) 10 i (F 10 i)) 11 i (F 11 i)) 12 i (F 12 i)) 13 i (F 13 i)) 14 i (F 14 i)) 15 i (F 15 i)) (by omega) (by omega)
      refine ⟨N', ?_, ?_, ?_, ?_⟩
      · rw [f0_copy_L115, if_neg (by rw [show (4 : Int32) = Int32.ofNat 4 from rfl, z_le (by omega) (by omega)]; exact h), z_xin (by omega) (by omega), gd_t, z_clamp (by omega), z_s1]
        simp only [lt_e]
        exact a1
      · intro k j hk
        rw [a2 k j hk]
        simp only [z_up]
        rw [if_neg (by omega), if_neg (by omega), if_neg (by omega), if_neg (by omega), if_neg (by omega), if_neg (by omega), if_neg (by omega)]
      · intro k j g1 g2 g3 g4
        by_cases hj : j = i
        · subst hj
          rw [a4 k j g1 g2 (by omega)]
          have : k = 9 ∨ k = 10 ∨ k = 11 ∨ k = 12 ∨ k = 13 ∨ k = 14 ∨ k = 15 := by omega
          rcases this with e | e | e | e | e | e | e <;> subst e <;> simp [z_up]
        · exact a3 k j g1 g2 (by omega) g4
      · intro k j h1 h2 h3
        rw [a4 k j h1 h2 (by omega)]
        have hj : ¬ j = i := by omega
        have : k = 9 ∨ k = 10 ∨ k = 11 ∨ k = 12 ∨ k = 13 ∨ k = 14 ∨ k = 15 := by omega
        rcases this with e | e | e | e | e | e | e <;> subst e <;> simp [z_up, hj]
theorem z_copy {nc ns nl np : Nat} {T N M : St} (F : St) (E : ZE nc nl T N M) (B : ZB nc ns nl np M) : ∃ F', f0_copy F N = some F' ∧ ZE nc nl T F' M ∧ ∀ l, l < 20 → F' 7 l = N 7 l := by
  have l2 := B.l2
  have x1 : xcp 0 0 18 18 18 = true := by decide
  have c0 : (0 : Int32).toNatClampNeg = 0 := by decide
  have c1 : (18 : Int32).toNatClampNeg = 18 := by decide
  obtain ⟨F1, a1, a2, a3, a4⟩ := z_cp1 (F := N) (K' := N) (Kf := fun N8 => f0_copy_L115 N xF 0 N8) xF 0 (up1 (up2 (up2 (up2 F 0 0 (N 0 0)) 1 0 (N 1 0)) 2 0 (N 2 0)) 3 (va_cpy (N 3) ((up2 (up2 (up2 F 0 0 (N 0 0)) 1 0 (N 1 0)) 2 0 (N 2 0)) 3) 0 0 18)) (by omega) (by unfold xF; omega) (fun l hl => by rw [E.n6 l hl]; exact B.lb l)
  obtain ⟨F2, b1, b2, b3, b4⟩ := z_cp2 (F := N) xF 0 F1 (by omega) (by unfold xF; omega)
  have r1 : ∀ k j, 4 ≤ k → k ≤ 8 → j < 20 → F2 k j = N k j := fun k j h1 h2 h3 => (b2 k j (by omega)).trans (a3 k j h1 h2 (by omega) h3)
  have r2 : ∀ k j, 9 ≤ k → k ≤ 15 → j < 4 → F2 k j = N k j := fun k j h1 h2 h3 => b3 k j h1 h2 (by omega) h3
  have r0 : ∀ k, k < 3 → F2 k 0 = N k 0 := by
    intro k hk
    rw [b2 k 0 (by omega), a2 k 0 (by omega)]
    have : k = 0 ∨ k = 1 ∨ k = 2 := by omega
    rcases this with e | e | e <;> subst e <;> simp [up1, z_up]
  have r3 : ∀ s, s < 18 → F2 3 s = N 3 s := by
    intro s hs
    rw [b2 3 s (by omega), a2 3 s (by omega)]
    show va_cpy (N 3) _ 0 0 18 s = N 3 s
    unfold va_cpy; rw [if_pos (by omega)]; congr 1; omega
  refine ⟨F2, ?_, ?_, fun l hl => r1 7 l (by omega) (by omega) hl⟩
  · unfold f0_copy
    rw [lt_e, lt_e, lt_e, x1, gd_t, lt_e, c0, c1]
    exact a1.trans b1
  · exact (ZE.mk (E.c0) (E.c3) (E.c7) (E.c12) (E.h1) (E.w11) (E.t4) (E.t5) (E.t6) (E.t8) (E.t9) (E.t10) (fun l hl => (r1 4 l (by omega) (by omega) hl).trans (E.n4 l hl)) (fun l hl => (r1 5 l (by omega) (by omega) hl).trans (E.n5 l hl)) (fun l hl => (r1 6 l (by omega) (by omega) hl).trans (E.n6 l hl)) (fun l hl => (r1 7 l (by omega) (by omega) hl).trans (E.n7 l hl)) (fun l hl => (r1 8 l (by omega) (by omega) hl).trans (E.n8 l hl)) (E.t13) (fun p hp => (r2 9 p (by omega) (by omega) hp).trans (E.n9 p hp)) (E.t14) (fun p hp => (r2 10 p (by omega) (by omega) hp).trans (E.n10 p hp)) (E.t15) (fun p hp => (r2 11 p (by omega) (by omega) hp).trans (E.n11 p hp)) (fun p hp => (r2 13 p (by omega) (by omega) hp).trans (E.n13 p hp)) (fun p hp h => (r2 12 p (by omega) (by omega) hp).trans (E.n12 p hp h)) (fun p hp => (r2 14 p (by omega) (by omega) hp).trans (E.n14 p hp)) (fun p hp => (r2 15 p (by omega) (by omega) hp).trans (E.n15 p hp)) (E.rd) ((r0 0 (by omega)).trans E.n0) ((r0 1 (by omega)).trans E.n1) ((r0 2 (by omega)).trans E.n2) (fun s hs => (r3 s hs).trans (E.n3 s hs)) (E.wy))
theorem z_foresee {T N M : St} (R : ZR T N M) (G F : St) (p1 p2 : Int32) :
    (∃ e M', f2_foresee G N F T p1 p2 = some (.inl e) ∧ f3_foresee M p1 p2 = some (0, M') ∧ ((e = 1 ∧ M' 0 0 = 1) ∨ (e = 3 ∧ M' 0 0 = 2)) ∧ ZR T N M') ∨
    (∃ r F' M', f2_foresee G N F T p1 p2 = some (.inr (r, F')) ∧ f3_foresee M p1 p2 = some (r, M') ∧ M' 0 0 = 0 ∧ ZR T N M') := by
  obtain ⟨nc, ns, nl, np, E, B, W⟩ := R
  have F1 : ∀ x, ZR T N (up2 (up2 M 0 0 0) 0 0 x) := fun x => ⟨nc, ns, nl, np, ZE_0 (ZE_0 E), ZB_0 (ZB_0 B), W⟩
  have F0 : ZR T N (up2 M 0 0 0) := ⟨nc, ns, nl, np, ZE_0 E, ZB_0 B, W⟩
  unfold f2_foresee f3_foresee
  rw [lt_e]
  rcases z_rng p1 1 600 with ⟨h3, h4⟩ | ⟨h3, h4, h5, h6⟩
  · left
    rw [h3, bx0_l, h4, bd_e, if_pos rfl, z_fail, bd2_e]
    exact ⟨_, _, rfl, rfl, .inl ⟨rfl, z_th _ _⟩, F1 1⟩
  · rw [h3, bx0_r, h4, bd_e, if_neg (show ¬ (1 : Int32) = 0 by decide)]
    rcases z_idx p2 (n := 3) (by omega) with ⟨h1, h2⟩ | ⟨i, hi, ei, h1, h2⟩
    · left
      have h2' : f3_isIn p2 0 2 = some 0 := h2
      have h1' : f2_requireIndex p2 3 = some (.inl 3) := h1
      rw [h1', bx0_l, h2', bd_e, if_pos rfl, z_fail, bd2_e]
      exact ⟨_, _, rfl, rfl, .inr ⟨rfl, z_th _ _⟩, F1 2⟩
    · right
      have h2' : f3_isIn p2 0 2 = some 1 := h2
      have h1' : f2_requireIndex p2 3 = some (.inr ()) := h1
      obtain ⟨cnt, _, hc, ec⟩ := z_rngN (lo := 1) (hi := 600) (by omega) (by omega) h5 h6
      subst ec
      obtain ⟨Fc, c1, Ec, c2⟩ := z_copy F (ZE_0 (x := 0) E) (ZB_0 B)
      obtain ⟨N', M', w, a1, a2, E', B', K', a3⟩ := z_pass_L (T := T) hc xF 0 Fc (up2 M 0 0 0) 0 Ec (ZB_0 B) (by omega) (by unfold xF; omega)
      have g1 : f0_goBy Fc T (Int32.ofNat cnt) = some (w, N') := by
        unfold f0_goBy
        refine a1.trans ?_
        rw [Int32.zero_add]
      have g2 : f3_minutesOn (up2 M 0 0 0) (Int32.ofNat cnt) = some M' := a2
      have bk := z_back K'
      obtain ⟨d1, d2⟩ := z_dark E' B'
      rw [h1', bx0_r, h2', bd_e, if_neg (show ¬ (1 : Int32) = 0 by decide), lt_e, lt_e, g2, bd_e, lt_e, c1, bd_e, g1, bd2_e, z_bl E' B', bd_e, d1, bd_e, d2, bd_e, z_all (w := 5) (x := 5) rfl (by decide) B', bd_e]
      have jj : ∀ v : Int32, (bd (f3_bringBack M' (kS (up2 M 0 0 0))) fun M14 => some (v, M14)) = some (v, up2 M 0 0 0) := by
        intro v; rw [bk, bd_e]
      simp only [jj]
      have e2 : N' 2 0 = M' 12 2 := E'.n2
      have e3 : N 2 0 = M 12 2 := E.n2
      have e4 : (up2 M 0 0 0) 12 (2 : Int32).toNatClampNeg = M 12 2 := rfl
      have e5 : M' 12 (2 : Int32).toNatClampNeg = M' 12 2 := rfl
      by_cases q0 : p2 = 0
      · rw [if_pos q0, if_pos q0]
        exact ⟨_, _, _, rfl, rfl, z_th M 0, F0⟩
      · rw [if_neg q0, if_neg q0]
        by_cases q1 : p2 = 1
        · rw [if_pos q1, if_pos q1]
          exact ⟨_, _, _, rfl, rfl, z_th M 0, F0⟩
        · rw [if_neg q1, if_neg q1, e2, e3, e4, e5]
          exact ⟨_, _, _, rfl, rfl, z_th M 0, F0⟩
theorem z_go1 {nc nl : Nat} {T N N' : St} {w : Int32} (h : ∀ (fu : Nat) (p2 v1 v2 : Int32), ¬ p2 ≤ v2 → f0_goBy_L5 p2 T (fu + 1) v1 v2 N = f0_goBy_L5 p2 T fu (v1 + w) (v2 + 1) N') : f0_goBy N T 1 = some (w, N') := by
  unfold f0_goBy xF
  rw [h 999 1 0 0 (by decide), f0_goBy_L5, if_pos (by decide), Int32.zero_add]
theorem z_bitne {x : Int32} {j : Nat} (hj : j ≤ 4) : (x + Int32.ofNat j = x) = (j = 0) := by
  apply propext; constructor
  · intro h
    have : Int32.ofNat j = Int32.ofNat 0 := by
      have e := congrArg (fun y => y - x) h
      simp only [Int32.sub_self] at e
      rw [Int32.add_comm, Int32.add_sub_cancel] at e
      exact e
    rw [z_inj (by omega) (by omega)] at this; exact this
  · intro h; subst h; exact Int32.add_zero x
theorem z_comes_L {nc ns nl np m0 : Nat} {T N M0 : St} {l : Nat} (hl : l < nl) (hm0 : m0 ≤ 600) :
    ∀ (fu k : Nat) (F M : St), ZE nc nl T F M → ZB nc ns nl np M → ZK M0 M → M 12 0 = Int32.ofNat (m0 + k - 1) → 1 ≤ k → m0 + k ≤ 601 → 602 - (m0 + k) < fu → M 8 (ix8 l 6) = N 7 l →
    ∃ r F' M', f2_comes_L36 (Int32.ofNat l) (600 - Int32.ofNat m0) N T fu (Int32.ofNat k) F = some (.inr (r, F')) ∧ (∀ K, f3_comes_L29 (Int32.ofNat l) K fu (-1) (Int32.ofNat k) M = K r M') ∧ ZK M0 M' := by
  intro fu
  induction fu with
  | zero => intro k F M E B K0 hm h1 h2 h3; omega
  | succ fu ih =>
    intro k F M E B K0 hm h1 h2 h3 hlit
    have l3 := B.l3
    have er : (600 : Int32) - Int32.ofNat m0 = Int32.ofNat (600 - m0) := by rw [show (600 : Int32) = Int32.ofNat 600 from rfl, z_sub (by omega)]
    have c0 : (0 : Int32).toNatClampNeg = 0 := rfl
    by_cases h : m0 + k = 601
    · refine ⟨-1, F, M, ?_, ?_, K0⟩
      · rw [f2_comes_L36, er, if_pos (by rw [z_lt (by omega) (by omega)]; omega)]
      · intro K
        rw [f3_comes_L29, if_pos rfl]
        unfold f3_isOver
        rw [c0, hm, show m0 + k - 1 = 600 by omega, if_pos (by decide), bd_e, if_neg (by decide)]
    · obtain ⟨F1, M1, v, w, a1, E1, B1, K1, a2, a3, a4, a5⟩ := z_minute E B (show m0 + k - 1 < 600 by omega) hm
      obtain ⟨j, hj, j1, j2⟩ := a4 l hl
      have g1 := z_go1 (nc := nc) (nl := nl) a5
      have eF : F1 7 l = N 7 l + Int32.ofNat j := by rw [E1.n7 l (by omega), j1, hlit]
      have hM : ∀ K, f3_comes_L29 (Int32.ofNat l) K (fu + 1) (-1) (Int32.ofNat k) M = if zbit v l = 1 then f3_comes_L29 (Int32.ofNat l) K fu (Int32.ofNat k) (Int32.ofNat (k + 1)) M1 else f3_comes_L29 (Int32.ofNat l) K fu (-1) (Int32.ofNat (k + 1)) M1 := by
        intro K
        rw [f3_comes_L29, if_pos rfl]
        unfold f3_isOver
        rw [c0, hm, if_neg (by rw [show (600 : Int32) = Int32.ofNat 600 from rfl, z_inj (by omega) (by omega)]; omega), bd_e, if_pos rfl, a1, bd2_e, lt_e, z_s1]
        rfl
      rw [f2_comes_L36, er, if_neg (by rw [z_lt (by omega) (by omega)]; omega), g1, bd2_e, z_xin (by omega) (by omega), gd_t, z_clamp (by omega), eF, z_s1]
      by_cases hj0 : j = 0
      · obtain ⟨r, F', M', b1, b2, b3⟩ := ih (k + 1) F1 M1 E1 B1 (ZK_trans K0 K1) (by rw [a2]; congr 1; omega) (by omega) (by omega) (by omega) (by rw [j1, hj0, hlit]; exact Int32.add_zero _)
        refine ⟨r, F', M', ?_, ?_, b3⟩
        · rw [if_pos (by rw [z_bitne hj]; exact hj0), ← er]; exact b1
        · intro K; rw [hM, j2, if_pos hj0, if_neg (by decide)]; exact b2 K
      · refine ⟨Int32.ofNat k, F1, M1, ?_, ?_, ZK_trans K0 K1⟩
        · rw [if_neg (by rw [z_bitne hj]; exact hj0)]
        · intro K
          rw [hM, j2, if_neg hj0, if_pos rfl]
          have : ∃ f, fu = f + 1 := ⟨fu - 1, by omega⟩
          obtain ⟨f, ef⟩ := this
          rw [ef, f3_comes_L29, if_neg (by rw [z_ne1 (by omega)]; exact id)]
theorem z_comes {T N M : St} (R : ZR T N M) (G F : St) (p1 : Int32) :
    (∃ e M', f2_comes G N F T p1 = some (.inl e) ∧ f3_comes M p1 = some (0, M') ∧ (e = 3 ∧ M' 0 0 = 1) ∧ ZR T N M') ∨
    (∃ r F' M', f2_comes G N F T p1 = some (.inr (r, F')) ∧ f3_comes M p1 = some (r, M') ∧ M' 0 0 = 0 ∧ ZR T N M') := by
  obtain ⟨nc, ns, nl, np, E, B, W⟩ := R
  have l3 := B.l3
  have k3 : (up2 M 0 0 0) 3 0 = Int32.ofNat nl := B.k3
  have F1 : ∀ x, ZR T N (up2 (up2 M 0 0 0) 0 0 x) := fun x => ⟨nc, ns, nl, np, ZE_0 (ZE_0 E), ZB_0 (ZB_0 B), W⟩
  have F0 : ZR T N (up2 M 0 0 0) := ⟨nc, ns, nl, np, ZE_0 E, ZB_0 B, W⟩
  unfold f2_comes f3_comes f3_isLamp
  rw [lt_e, E.c7, B.k3, k3]
  rcases z_idx p1 (n := nl) (by omega) with ⟨h1, h2⟩ | ⟨l, hl, el, h1, h2⟩
  · left
    rw [h1, bx0_l, h2, bd_e, bd_e, if_pos rfl, z_fail, bd2_e]
    exact ⟨_, _, rfl, rfl, ⟨rfl, z_th _ _⟩, F1 1⟩
  · right
    subst el
    obtain ⟨m, hm, em⟩ := B.mi
    obtain ⟨Fc, c1, Ec, c2⟩ := z_copy F (ZE_0 (x := 0) E) (ZB_0 B)
    obtain ⟨r, F', M', a1, a2, K'⟩ := z_comes_L (ns := ns) (np := np) (N := N) hl hm xF 1 Fc (up2 M 0 0 0) Ec (ZB_0 B) (ZK_refl _) (by exact em) (by omega) (by omega) (by unfold xF; omega) (E.n7 l (by omega)).symm
    have a1' : f2_comes_L36 (Int32.ofNat l) (600 - Int32.ofNat m) N T xF 1 Fc = some (.inr (r, F')) := a1
    have a2' : ∀ K, f3_comes_L29 (Int32.ofNat l) K xF (-1) 1 (up2 M 0 0 0) = K r M' := a2
    rw [h1, bx0_r, h2, bd_e, bd_e, if_neg (show ¬ (1 : Int32) = 0 by decide), c1, bd_e, lt_e, E.n0, em, a1', lt_e, a2', z_back K', bd_e]
    exact ⟨_, _, _, rfl, rfl, z_th M 0, F0⟩
theorem z_adm {nc ns nl np : Nat} {T N M : St} (E : ZE nc nl T N M) (B : ZB nc ns nl np M) : ∀ (fu i : Nat) (G : St) (f : Nat → Int32), (∀ s, s < 18 → G 0 s = f s) → i ≤ ns → ns - i < fu →
    ∃ G' f', f2_addDarkMinute_L2 N T fu (Int32.ofNat i) G = some G' ∧ (∀ K, f3_darkest_L29 M K fu (Int32.ofNat i) f = K f') ∧ ∀ s, s < 18 → G' 0 s = f' s := by
  have l2 := B.l2
  intro fu
  induction fu with
  | zero => intro i G f hG h1 h2; omega
  | succ fu ih =>
    intro i G f hG h1 h2
    by_cases h : ns ≤ i
    · refine ⟨G, f, ?_, ?_, hG⟩
      · rw [f2_addDarkMinute_L2, if_pos (by rw [E.c3, B.k2, z_le (by omega) (by omega)]; exact h)]
      · intro K; rw [f3_darkest_L29, if_pos (by rw [B.k2, z_le (by omega) (by omega)]; exact h)]
    · have e : f0_isDark N (Int32.ofNat i) = some (if bsum M nl i = 0 then 1 else 0) := by
        unfold f0_isDark
        rw [z_xin (by omega) (by omega), gd_t, z_clamp (by omega), E.n3 i (by omega)]
        split <;> rfl
      by_cases hb : bsum M nl i = 0
      · obtain ⟨G', f', a1, a2, a3⟩ := ih (i + 1) (up2 G 0 i (G 0 i + 1)) (upd f i (f i + 1)) (by
          intro s hs
          rw [z_up, if_pos rfl, upd, hG i (by omega)]
          split
          · rfl
          · exact hG s hs) (by omega) (by omega)
        refine ⟨G', f', ?_, ?_, a3⟩
        · rw [f2_addDarkMinute_L2, if_neg (by rw [E.c3, B.k2, z_le (by omega) (by omega)]; exact h), e, if_pos hb, bd_e, lt_e, if_neg (by decide), z_xin (by omega) (by omega), gd_t, z_clamp (by omega), lt_e, z_s1]; exact a1
        · intro K
          rw [f3_darkest_L29, if_neg (by rw [B.k2, z_le (by omega) (by omega)]; exact h), z_xin (by omega) (by omega), gd_t, z_burns B, bd_e, lt_e, if_pos hb]; simp only []; rw [lt_e, z_clamp (by omega), z_s1]; exact a2 K
      · obtain ⟨G', f', a1, a2, a3⟩ := ih (i + 1) G (upd f i (f i + 0)) (by
          intro s hs
          rw [upd]
          split
          · rename_i e; subst e; rw [Int32.add_zero]; exact hG s hs
          · exact hG s hs) (by omega) (by omega)
        refine ⟨G', f', ?_, ?_, a3⟩
        · rw [f2_addDarkMinute_L2, if_neg (by rw [E.c3, B.k2, z_le (by omega) (by omega)]; exact h), e, if_neg hb, bd_e, lt_e, if_pos rfl, z_s1]; exact a1
        · intro K
          rw [f3_darkest_L29, if_neg (by rw [B.k2, z_le (by omega) (by omega)]; exact h), z_xin (by omega) (by omega), gd_t, z_burns B, bd_e, lt_e, if_neg hb]; simp only []; rw [lt_e, z_clamp (by omega), z_s1]; exact a2 K
theorem z_dk_L {nc ns nl np m0 : Nat} {T N M0 : St} (hm0 : m0 ≤ 600) :
    ∀ (fu k : Nat) (F M G : St) (f : Nat → Int32), ZE nc nl T F M → ZB nc ns nl np M → ZK M0 M → M 12 0 = Int32.ofNat (m0 + k - 1) → 1 ≤ k → m0 + k ≤ 601 → 602 - (m0 + k) < fu → (∀ s, s < 18 → G 0 s = f s) →
    ∃ F' M' G' f', (∀ K, f2_darkest_L29 (600 - Int32.ofNat m0) N T K fu (Int32.ofNat k) G F = K G' F') ∧ (∀ K, f3_darkest_L15 K fu M f = K M' f') ∧ ZK M0 M' ∧ (∀ s, s < 18 → G' 0 s = f' s) := by
  intro fu
  induction fu with
  | zero => intro k F M G f E B K0 hm h1 h2 h3; omega
  | succ fu ih =>
    intro k F M G f E B K0 hm h1 h2 h3 hG
    have l2 := B.l2
    have er : (600 : Int32) - Int32.ofNat m0 = Int32.ofNat (600 - m0) := by rw [show (600 : Int32) = Int32.ofNat 600 from rfl, z_sub (by omega)]
    have c0 : (0 : Int32).toNatClampNeg = 0 := rfl
    by_cases h : m0 + k = 601
    · refine ⟨F, M, G, f, ?_, ?_, K0, hG⟩
      · intro K; rw [f2_darkest_L29, er, if_pos (by rw [z_lt (by omega) (by omega)]; omega)]
      · intro K
        rw [f3_darkest_L15]
        unfold f3_isOver
        rw [c0, hm, show m0 + k - 1 = 600 by omega, if_pos (by decide), bd_e, if_neg (by decide)]
    · obtain ⟨F1, M1, v, w, a1, E1, B1, K1, a2, a3, a4, a5⟩ := z_minute E B (show m0 + k - 1 < 600 by omega) hm
      have g1 := z_go1 (nc := nc) (nl := nl) a5
      obtain ⟨G1, f1, d1, d2, d3⟩ := z_adm E1 B1 xF 0 G f hG (by omega) (by unfold xF; omega)
      have d1' : f2_addDarkMinute G N F1 T = some G1 := d1
      have d2' : ∀ K, f3_darkest_L29 M1 K xF 0 f = K f1 := d2
      obtain ⟨F', M', G', f', b1, b2, b3, b4⟩ := ih (k + 1) F1 M1 G1 f1 E1 B1 (ZK_trans K0 K1) (by rw [a2]; congr 1; omega) (by omega) (by omega) (by omega) d3
      refine ⟨F', M', G', f', ?_, ?_, b3, b4⟩
      · intro K
        rw [f2_darkest_L29, er, if_neg (by rw [z_lt (by omega) (by omega)]; omega), g1, bd2_e, d1', bd_e, z_s1, ← er]; exact b1 K
      · intro K
        rw [f3_darkest_L15]
        unfold f3_isOver
        rw [c0, hm, if_neg (by rw [show (600 : Int32) = Int32.ofNat 600 from rfl, z_inj (by omega) (by omega)]; omega), bd_e, if_pos rfl, a1, bd2_e, d2']; exact b2 K
theorem z_clr : ∀ (fu i : Nat) (G : St), i ≤ 18 → 18 - i < fu → (∀ s, s < i → G 0 s = 0) → ∃ G', f2_clearDarkMinutes_L2 fu (Int32.ofNat i) G = some G' ∧ ∀ s, s < 18 → G' 0 s = 0 := by
  intro fu
  induction fu with
  | zero => intro i G h1 h2; omega
  | succ fu ih =>
    intro i G h1 h2 hG
    by_cases h : 18 ≤ i
    · exact ⟨G, by rw [f2_clearDarkMinutes_L2, if_pos (by rw [show (18 : Int32) = Int32.ofNat 18 from rfl, z_le (by omega) (by omega)]; exact h)], fun s hs => hG s (by omega)⟩
    · obtain ⟨G', a1, a2⟩ := ih (i + 1) (up2 G 0 i 0) (by omega) (by omega) (by
        intro s hs; rw [z_up, if_pos rfl]; split
        · rfl
        · exact hG s (by omega))
      refine ⟨G', ?_, a2⟩
      rw [f2_clearDarkMinutes_L2, if_neg (by rw [show (18 : Int32) = Int32.ofNat 18 from rfl, z_le (by omega) (by omega)]; exact h), z_xin (by omega) (by omega), gd_t, z_clamp (by omega), lt_e, z_s1]; exact a1
theorem z_most {nc ns nl np : Nat} {T N M : St} (E : ZE nc nl T N M) (B : ZB nc ns nl np M) {G : St} {f : Nat → Int32} (hG : ∀ s, s < 18 → G 0 s = f s) : ∀ (fu i : Nat) (v1 v2 : Int32), i ≤ ns → ns - i < fu → ((v1 = -1 ∧ v2 = 0) ∨ ∃ b, b < 18 ∧ v1 = Int32.ofNat b ∧ v2 = f b) →
    ∃ r, f2_streetOfMostDarkMinutes_L6 G T fu v1 v2 (Int32.ofNat i) = some r ∧ f3_darkest_L75 M f fu v1 (Int32.ofNat i) = some (r, M) := by
  have l2 := B.l2
  intro fu
  induction fu with
  | zero => intro i v1 v2 h1 h2; omega
  | succ fu ih =>
    intro i v1 v2 h1 h2 hv
    by_cases h : ns ≤ i
    · refine ⟨v1, ?_, ?_⟩
      · rw [f2_streetOfMostDarkMinutes_L6, if_pos (by rw [E.c3, B.k2, z_le (by omega) (by omega)]; exact h)]
      · rw [f3_darkest_L75, if_pos (by rw [B.k2, z_le (by omega) (by omega)]; exact h)]
    · have hM : f3_darkest_L75 M f (fu + 1) v1 (Int32.ofNat i) = if f i ≤ v2 then f3_darkest_L75 M f fu v1 (Int32.ofNat (i + 1)) else f3_darkest_L75 M f fu (Int32.ofNat i) (Int32.ofNat (i + 1)) := by
        rw [f3_darkest_L75, if_neg (by rw [B.k2, z_le (by omega) (by omega)]; exact h), z_xin (by omega) (by omega), gd_t, z_clamp (by omega), z_s1]
        rcases hv with ⟨e1, e2⟩ | ⟨b, hb, e1, e2⟩
        · rw [e1, e2, lt_e, if_pos rfl]; simp only []; rw [lt_e]
        · rw [e1, e2, lt_e, if_neg (by rw [z_ne1 (by omega)]; exact id), z_xin (by omega) (by omega), gd_t, z_clamp (by omega)]; simp only []; rw [lt_e]
      rw [hM, f2_streetOfMostDarkMinutes_L6, if_neg (by rw [E.c3, B.k2, z_le (by omega) (by omega)]; exact h), z_xin (by omega) (by omega), gd_t, z_clamp (by omega), lt_e, hG i (by omega), z_s1, lt_e]
      by_cases hc : f i ≤ v2
      · rw [if_pos hc, if_pos hc]; exact ih (i + 1) v1 v2 (by omega) (by omega) hv
      · rw [if_neg hc, if_neg hc]; exact ih (i + 1) (Int32.ofNat i) (f i) (by omega) (by omega) (.inr ⟨i, by omega, rfl, rfl⟩)
theorem z_darkest {T N M : St} (R : ZR T N M) (G F : St) :
    ∃ r G' F' M', f2_darkest G N F T = some (r, G', F') ∧ f3_darkest M = some (r, M') ∧ ZR T N M' := by
  obtain ⟨nc, ns, nl, np, E, B, W⟩ := R
  have F0 : ZR T N (up2 M 0 0 0) := ⟨nc, ns, nl, np, ZE_0 E, ZB_0 B, W⟩
  obtain ⟨m, hm, em⟩ := B.mi
  have l2 := B.l2
  obtain ⟨G1, g1, g2⟩ := z_clr xF 0 G (by omega) (by unfold xF; omega) (fun s hs => by omega)
  have g1' : f2_clearDarkMinutes G N F T = some G1 := g1
  obtain ⟨Fc, c1, Ec, c2⟩ := z_copy F (ZE_0 (x := 0) E) (ZB_0 B)
  obtain ⟨F', M', G', f', a1, a2, K', a3⟩ := z_dk_L (ns := ns) (np := np) (N := N) hm xF 1 Fc (up2 M 0 0 0) G1 (fun _ => 0) Ec (ZB_0 B) (ZK_refl _) (by exact em) (by omega) (by omega) (by unfold xF; omega) g2
  obtain ⟨r, r1, r2⟩ := z_most (ZE_0 (x := 0) E) (ZB_0 B) a3 xF 0 (-1) 0 (by omega) (by unfold xF; omega) (.inl ⟨rfl, rfl⟩)
  have a1' : ∀ K, f2_darkest_L29 (600 - Int32.ofNat m) N T K xF 1 G1 Fc = K G' F' := a1
  have r1' : f2_streetOfMostDarkMinutes G' N F' T = some r := r1
  have r2' : f3_darkest_L75 (up2 M 0 0 0) f' xF (-1) 0 = some (r, up2 M 0 0 0) := r2
  refine ⟨r, G', F', up2 M 0 0 0, ?_, ?_, F0⟩
  · unfold f2_darkest
    rw [g1', bd_e, c1, bd_e, lt_e, E.n0, em, a1', r1', bd_e]
  · unfold f3_darkest
    rw [lt_e, lt_e, a2, z_back K', bd_e, r2']
theorem z_mean {T N M : St} (R : ZR T N M) (G F : St) : ∃ r M', f2_mean G N F T = some r ∧ f3_mean M = some (r, M') ∧ ZR T N M' := by
  obtain ⟨nc, ns, nl, np, E, B, W⟩ := R
  have F0 : ZR T N (up2 M 0 0 0) := ⟨nc, ns, nl, np, ZE_0 E, ZB_0 B, W⟩
  have l3 := B.l3
  have k3 : (up2 M 0 0 0) 3 0 = Int32.ofNat nl := B.k3
  unfold f2_mean f3_mean
  rw [lt_e, E.c7, B.k3, k3]
  by_cases h : Int32.ofNat nl = 0
  · rw [if_pos h, if_pos h]; exact ⟨_, _, rfl, rfl, F0⟩
  · rw [if_neg h, if_neg h, z_oil E B, bd_e, z_all (w := 3) (x := 3) rfl (by decide) (ZB_0 (x := 0) B), bd_e]
    exact ⟨_, _, rfl, rfl, F0⟩
