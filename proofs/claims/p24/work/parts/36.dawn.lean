theorem z_dl {nc ns nl np : Nat} {T : St} : ∀ (fu i : Nat) (N M : St), ZE nc nl T N M → ZB nc ns nl np M → i ≤ nl → nl - i < fu →
    ∃ N' M', (∀ K, f0_beginNext_L17 T K fu (Int32.ofNat i) N = K N') ∧ (∀ K x, f3_dawn_L26 K fu (Int32.ofNat i) (up2 (up2 M 12 0 x) 12 1 (M 12 1 - 1)) = K (up2 (up2 M' 12 0 x) 12 1 (M 12 1 - 1))) ∧ ZE nc nl T N' M' ∧ ZB nc ns nl np M' ∧ M' 12 = M 12 ∧ M' 0 = M 0 ∧ (M' 9 = M 9) := by
  intro fu
  induction fu with
  | zero => intro i N M E B h1 h2; omega
  | succ fu ih =>
    intro i N M E B h1 h2
    have l2 := B.l2; have l3 := B.l3
    by_cases h : nl ≤ i
    · refine ⟨N, M, ?_, ?_, E, B, rfl, rfl, rfl⟩
      · intro K; rw [f0_beginNext_L17, if_pos (by rw [E.c7, B.k3, z_le (by omega) (by omega)]; exact h)]
      · intro K x
        have k3 : (up2 (up2 M 12 0 x) 12 1 (M 12 1 - 1)) 3 0 = Int32.ofNat nl := B.k3
        rw [f3_dawn_L26, if_pos (by rw [k3, z_le (by omega) (by omega)]; exact h)]
    · have step : ∀ (M1 : St), M1 = up2 M 8 (ix8 i 5) 0 → ∀ K x, f3_dawn_L26 K (fu + 1) (Int32.ofNat i) (up2 (up2 M 12 0 x) 12 1 (M 12 1 - 1)) = f3_dawn_L26 K fu (Int32.ofNat (i + 1)) (up2 (up2 M1 12 0 x) 12 1 (M 12 1 - 1)) := by
        intro M1 e K x
        have k3 : (up2 (up2 M 12 0 x) 12 1 (M 12 1 - 1)) 3 0 = Int32.ofNat nl := B.k3
        rw [f3_dawn_L26, if_neg (by rw [k3, z_le (by omega) (by omega)]; exact h), z_setLamp5 (by omega), bd_e, z_s1, e]
        congr 1
        funext k j
        simp only [z_up]
        by_cases k8 : k = 8
        · subst k8; simp
        · simp [k8]
      by_cases hb : M 8 (ix8 i 5) = 0
      · obtain ⟨N', M', a1, a2, a3, a4, a5, a6, a7⟩ := ih (i + 1) N M E B (by omega) (by omega)
        refine ⟨N', M', ?_, ?_, a3, a4, a5, a6, a7⟩
        · intro K
          rw [f0_beginNext_L17, if_neg (by rw [E.c7, B.k3, z_le (by omega) (by omega)]; exact h), z_xin (by omega) (by omega), gd_t, lt_e, z_clamp (by omega), E.n6 i (by omega), if_pos hb, z_s1]; exact a1 K
        · intro K x
          rw [step M (up2_same hb).symm]; exact a2 K x
      · have hb1 : M 8 (ix8 i 5) = 1 := (B.lb i).resolve_left hb
        obtain ⟨s, hs, es⟩ := B.lw i (by omega)
        have E1 : ZE nc nl T (up2 (up2 N 6 i 0) 3 s (N 3 s - 1)) (up2 M 8 (ix8 i 5) 0) :=
          (ZE.mk (E.c0) (E.c3) (E.c7) (E.c12) (E.h1) (E.w11) (E.t4) (E.t5) (E.t6) (fun q => by simp [z_up, ix8_eq, E.t8]) (fun q => by simp [z_up, ix8_eq, E.t9]) (fun q => by simp [z_up, ix8_eq, E.t10]) (fun q hq => by simp [z_up, ix8_eq, E.n4 q hq]) (fun q hq => by simp [z_up, ix8_eq, E.n5 q hq]) (fun q hq => by simp [z_up, ix8_eq, E.n6 q hq]) (fun q hq => by simp [z_up, ix8_eq, E.n7 q hq]) (fun q hq => by simp [z_up, ix8_eq, E.n8 q hq]) (E.t13) (E.n9) (E.t14) (E.n10) (E.t15) (E.n11) (E.n13) (E.n12) (E.n14) (E.n15) (E.rd) (E.n0) (E.n1) (E.n2) (fun s' hs' => by
              have h := E.n3 s' hs'
              rw [bsum_off (M := M) (l := i) (s := s) (by omega) (by omega) hs' (by intro j; simp [z_up, ix8_eq]) (by intro j hj; simp [z_up, ix8_eq, hj]) es hb1 (by simp [z_up])]
              by_cases h1 : s' = s
              · subst h1; simp [z_up, h]
              · simp [z_up, h1, h]) (E.wy))
        have B1 : ZB nc ns nl np (up2 M 8 (ix8 i 5) 0) := by
          refine ZB_lamp (l := i) B (by omega) hb1 ?_ ?_ ?_ ?_ ?_ ?_
          · intro k k8 k12; funext x; simp [z_up, k8]
          · simp [z_up]
          · intro j w hw hj; simp [z_up, ix8_eq, hw, hj]
          · simp [z_up, ix8_eq]
          · simpa [z_up, ix8_eq] using B.lo i
          · left; simp [z_up]
        obtain ⟨N', M', a1, a2, a3, a4, a5, a6, a7⟩ := ih (i + 1) _ _ E1 B1 (by omega) (by omega)
        refine ⟨N', M', ?_, ?_, a3, a4, a5, a6, a7⟩
        · intro K
          rw [f0_beginNext_L17, if_neg (by rw [E.c7, B.k3, z_le (by omega) (by omega)]; exact h), z_xin (by omega) (by omega), gd_t, lt_e, z_clamp (by omega), E.n6 i (by omega), if_neg hb, z_s1, z_putOut (s := s) (by omega) (by omega) ((E.t8 i).trans es), bd_e]; exact a1 K
        · intro K x
          rw [step _ rfl]; exact a2 K x
theorem z_dp {nc ns nl np : Nat} {T : St} : ∀ (fu i : Nat) (N M : St), ZE nc nl T N M → ZB nc ns nl np M → i ≤ np → np - i < fu →
    ∃ N' M', f0_beginNext_L48 T fu (Int32.ofNat i) N = some N' ∧ (∀ K x y, f3_dawn_L49 K fu (Int32.ofNat i) (up2 (up2 M 12 0 x) 12 1 y) = K (up2 (up2 M' 12 0 x) 12 1 y)) ∧ ZE nc nl T N' M' ∧ ZB nc ns nl np M' ∧ M' 12 = M 12 ∧ M' 0 = M 0 := by
  intro fu
  induction fu with
  | zero => intro i N M E B h1 h2; omega
  | succ fu ih =>
    intro i N M E B h1 h2
    have l4 := B.l4
    by_cases h : np ≤ i
    · refine ⟨N, M, ?_, ?_, E, B, rfl, rfl⟩
      · rw [f0_beginNext_L48, if_pos (by rw [E.c12, B.k4, z_le (by omega) (by omega)]; exact h)]
      · intro K x y
        have k4 : (up2 (up2 M 12 0 x) 12 1 y) 4 0 = Int32.ofNat np := B.k4
        rw [f3_dawn_L49, if_pos (by rw [k4, z_le (by omega) (by omega)]; exact h)]
    · obtain ⟨c, hc, ec⟩ := B.ph i (by omega)
      have E1 : ZE nc nl T (up2 (up2 (up2 (up2 N 9 i (Int32.ofNat c)) 11 i (-1)) 13 i 0) 14 i (-1)) (up2 (up2 (up2 (up2 M 9 (ix10 i 1) (Int32.ofNat c)) 9 (ix10 i 5) (-1)) 9 (ix10 i 6) 0) 9 (ix10 i 8) (-1)) :=
        (ZE.mk (E.c0) (E.c3) (E.c7) (E.c12) (E.h1) (E.w11) (E.t4) (E.t5) (E.t6) (E.t8) (E.t9) (E.t10) (E.n4) (E.n5) (E.n6) (E.n7) (E.n8) (fun q => by simp [z_up, ix10_eq, E.t13]) (fun q hq => by simp [z_up, ix10_eq, E.n9 q hq]) (fun q => by simp [z_up, ix10_eq, E.t14]) (fun q hq => by simp [z_up, ix10_eq, E.n10 q hq]) (fun q => by simp [z_up, ix10_eq, E.t15]) (fun q hq => by simp [z_up, ix10_eq, E.n11 q hq]) (fun q hq => by simp [z_up, ix10_eq, E.n13 q hq]) (fun q hq => by
            simp [z_up, ix10_eq]
            intro h1 h2; exact E.n12 q hq h2) (fun q hq => by simp [z_up, ix10_eq, E.n14 q hq]) (fun q hq => by simp [z_up, ix10_eq, E.n15 q hq]) (E.rd) (E.n0) (E.n1) (E.n2) (E.n3) (E.wy))
      have B1 : ZB nc ns nl np (up2 (up2 (up2 (up2 M 9 (ix10 i 1) (Int32.ofNat c)) 9 (ix10 i 5) (-1)) 9 (ix10 i 6) 0) 9 (ix10 i 8) (-1)) :=
        (ZB.mk (B.k1) (B.k2) (B.k3) (B.k4) (B.l1) (B.l2) (B.l3) (B.l4) (B.hi) (B.sa) (B.sb) (B.sl) (B.lw) (B.lo) (B.lb) (B.wd) (fun q hq => by simpa [z_up, ix10_eq] using B.ph q hq) (fun q hq => by
            by_cases h : q = i
            · subst h; exact ⟨c, hc, by simp [z_up, ix10_eq]⟩
            · simpa [z_up, ix10_eq, h] using B.pa q hq) (fun q => by simpa [z_up, ix10_eq] using B.pc q) (fun q hq => by
            by_cases h : q = i
            · subst h
              obtain ⟨k, q1, q2, q3, q4⟩ := B.pl q hq
              exact ⟨k, q1, by simpa [z_up, ix10_eq] using q2, .inl (by simp [z_up]), q4⟩
            · simpa [z_up, ix10_eq, h] using B.pl q hq) (fun q hq => by
            have := B.pg q hq
            unfold ZG at this ⊢
            by_cases h : q = i
            · subst h; left; simp [z_up, ix10_eq]
            · simpa [z_up, ix10_eq, h] using this) (fun q r hq hr' hqr => by
            have h0 := B.pd q r hq hr' hqr
            by_cases h : q = i
            · subst h; simp [z_up, ix10_eq]
            · by_cases h' : r = i
              · subst h'; simp [z_up, ix10_eq, h]
              · simpa [z_up, ix10_eq, h, h'] using h0) (B.mi) (B.zl) (fun q w hq hw => by
            have h : ¬ q = i := by omega
            simpa [z_up, ix10_eq, hw, h] using B.zp q w hq hw) (B.wy))
      obtain ⟨N', M', a1, a2, a3, a4, a5, a6⟩ := ih (i + 1) _ _ E1 B1 (by omega) (by omega)
      refine ⟨N', M', ?_, ?_, a3, a4, a5, a6⟩
      · have hs : f0_sendHome N T (Int32.ofNat i) = some (up2 (up2 (up2 (up2 N 9 i (Int32.ofNat c)) 11 i (-1)) 13 i 0) 14 i (-1)) := by
          unfold f0_sendHome f0_waitFromNow
          rw [z_xin (by omega) (by omega), gd_t, z_clamp (by omega), E.t13, ec]
          simp only [lt_e, gd_t, bd_e]
        rw [f0_beginNext_L48, if_neg (by rw [E.c12, B.k4, z_le (by omega) (by omega)]; exact h), hs, bd_e, z_s1]; exact a1
      · intro K x y
        have k4 : (up2 (up2 M 12 0 x) 12 1 y) 4 0 = Int32.ofNat np := B.k4
        have e0 : (up2 (up2 M 12 0 x) 12 1 y) 9 (ix10 i 0) = Int32.ofNat c := ec
        rw [f3_dawn_L49, if_neg (by rw [k4, z_le (by omega) (by omega)]; exact h), z_pe0 (by omega), bd_e, e0, z_put1 (by omega), bd_e, z_put5 (by omega), bd_e, z_put6 (by omega), bd_e, z_put8 (by omega), bd_e, z_s1]
        refine Eq.trans ?_ (a2 K x y)
        congr 1
        funext k j
        simp only [z_up]
        by_cases k9 : k = 9
        · subst k9; simp
        · simp [k9]
theorem z_dawn {T N M : St} (R : ZR T N M) (G F : St) :
    (∃ e M', f2_dawn G N F T = some (.inl e) ∧ f3_dawn M = some (0, M') ∧ (e = 2 ∧ M' 0 0 = 1) ∧ ZR T N M') ∨
    (∃ r N' M', f2_dawn G N F T = some (.inr (r, N')) ∧ f3_dawn M = some (r, M') ∧ M' 0 0 = 0 ∧ ZR T N' M') := by
  obtain ⟨nc, ns, nl, np, E, B, W⟩ := R
  have l3 := B.l3; have l4 := B.l4
  have F1 : ∀ x, ZR T N (up2 (up2 M 0 0 0) 0 0 x) := fun x => ⟨nc, ns, nl, np, ZE_0 (ZE_0 E), ZB_0 (ZB_0 B), W⟩
  obtain ⟨m, hm, em⟩ := B.mi
  have c0 : (0 : Int32).toNatClampNeg = 0 := rfl
  have c1 : (1 : Int32).toNatClampNeg = 1 := rfl
  have em1 : (up2 M 0 0 0) 12 0 = Int32.ofNat m := em
  unfold f2_dawn f3_dawn f3_isOver
  rw [lt_e, c0, em1, E.n0, em]
  by_cases h : m = 600
  · right
    rw [if_pos (by rw [h]; decide), if_pos (by rw [h]; decide), bd_e, if_neg (show ¬ (1 : Int32) = 0 by decide), z_bl E B, bd_e, z_all (w := 5) (x := 5) rfl (by decide) (ZB_0 (x := 0) B), bd_e]
    have E2 : ZE nc nl T (up2 (up2 N 0 0 0) 1 0 (N 1 0 + 1)) (up2 (up2 (up2 M 0 0 0) 12 0 0) 12 1 (M 12 1 + 1)) :=
      (ZE.mk (E.c0) (E.c3) (E.c7) (E.c12) (E.h1) (E.w11) (E.t4) (E.t5) (E.t6) (E.t8) (E.t9) (E.t10) (E.n4) (E.n5) (E.n6) (E.n7) (E.n8) (E.t13) (E.n9) (E.t14) (E.n10) (E.t15) (E.n11) (E.n13) (E.n12) (E.n14) (E.n15) (E.rd) (by simp [z_up]) (by simp [z_up, E.n1]) (by simp [z_up, E.n2]) (E.n3) (E.wy))
    have B2 : ZB nc ns nl np (up2 (up2 (up2 M 0 0 0) 12 0 0) 12 1 (M 12 1 + 1)) := (ZB.mk (B.k1) (B.k2) (B.k3) (B.k4) (B.l1) (B.l2) (B.l3) (B.l4) (B.hi) (B.sa) (B.sb) (B.sl) (B.lw) (B.lo) (B.lb) (B.wd) (B.ph) (B.pa) (B.pc) (B.pl) (B.pg) (B.pd) (⟨0, by omega, by simp [z_up]⟩) (B.zl) (B.zp) (B.wy))
    obtain ⟨N3, M3, a1, a2, E3, B3, a5, a6, _⟩ := z_dl xF 0 _ _ E2 B2 (by omega) (by unfold xF; omega)
    obtain ⟨N4, M4, b1, b2, E4, B4, b5, b6⟩ := z_dp xF 0 _ _ E3 B3 (by omega) (by unfold xF; omega)
    have e11 : (up2 (up2 (up2 M 0 0 0) 12 0 0) 12 1 (M 12 1 + 1)) 12 1 = M 12 1 + 1 := by simp [z_up]
    have hm1 : up2 (up2 (up2 (up2 (up2 M 0 0 0) 12 0 0) 12 1 (M 12 1 + 1)) 12 0 (M 12 0)) 12 1 ((up2 (up2 (up2 M 0 0 0) 12 0 0) 12 1 (M 12 1 + 1)) 12 1 - 1) = up2 M 0 0 0 := by
      rw [e11, Int32.add_sub_cancel]
      funext k j
      simp only [z_up]
      by_cases k12 : k = 12
      · subst k12
        by_cases j1 : j = 1
        · subst j1; simp
        · by_cases j0 : j = 0
          · subst j0; simp
          · simp [j1, j0]
      · simp [k12]
    have a2' : ∀ K, f3_dawn_L26 K xF 0 (up2 M 0 0 0) = K (up2 (up2 M3 12 0 (M 12 0)) 12 1 (M 12 1)) := by
      intro K
      have q := a2 K (M 12 0)
      rw [hm1, e11, Int32.add_sub_cancel] at q
      exact q
    have b2' : ∀ K x y, f3_dawn_L49 K xF 0 (up2 (up2 M3 12 0 x) 12 1 y) = K (up2 (up2 M4 12 0 x) 12 1 y) := b2
    have hN : f0_beginNext N T = some N4 := by
      unfold f0_beginNext
      rw [lt_e, lt_e]
      have : up2 (up2 N 0 0 0) 1 0 ((up2 N 0 0 0) 1 0 + 1) = up2 (up2 N 0 0 0) 1 0 (N 1 0 + 1) := by
        rw [show (up2 N 0 0 0) 1 0 = N 1 0 from by simp [z_up]]
      rw [this]
      exact (a1 _).trans b1
    have hfin : up2 (up2 (up2 (up2 M4 12 0 (M 12 0)) 12 1 (M 12 1)) 12 0 0) 12 1 ((up2 (up2 (up2 M4 12 0 (M 12 0)) 12 1 (M 12 1)) 12 0 0) 12 1 + 1) = M4 := by
      have q0 : M4 12 0 = 0 := by rw [b5, a5]; simp [z_up]
      have q1 : M4 12 1 = M 12 1 + 1 := by rw [b5, a5]; exact e11
      funext k j
      simp only [z_up]
      by_cases k12 : k = 12
      · subst k12
        by_cases j1 : j = 1
        · subst j1; simp [q1]
        · by_cases j0 : j = 0
          · subst j0; simp [q0]
          · simp [j1, j0]
      · simp [k12]
    rw [hN, bd_e, a2', b2', lt_e, lt_e, c1, hfin]
    refine ⟨_, _, _, rfl, rfl, ?_, nc, ns, nl, np, E4, B4, W⟩
    rw [b6, a6]; exact z_th M 0
  · left
    rw [if_neg (by rw [show (600 : Int32) = Int32.ofNat 600 from rfl, z_le (by omega) (by omega)]; omega), if_neg (by rw [show (600 : Int32) = Int32.ofNat 600 from rfl, z_inj (by omega) (by omega)]; exact h), bd_e, if_pos rfl, z_fail, bd2_e]
    exact ⟨_, _, rfl, rfl, ⟨rfl, z_th _ _⟩, F1 1⟩
theorem z_g10 {i : Nat} (hi : i ≤ 1000) {α : Type} {x y : α} : (if (10 : Int32) ≤ Int32.ofNat i then x else y) = if 10 ≤ i then x else y := by
  rw [show (10 : Int32) = Int32.ofNat 10 from rfl, z_ile (by omega) (by omega)]
theorem z_g9 {i : Nat} (hi : i ≤ 1000) {α : Type} {x y : α} : (if (9 : Int32) ≤ Int32.ofNat i then x else y) = if 9 ≤ i then x else y := by
  rw [show (9 : Int32) = Int32.ofNat 9 from rfl, z_ile (by omega) (by omega)]
theorem z_g7 {i : Nat} (hi : i ≤ 1000) {α : Type} {x y : α} : (if (7 : Int32) ≤ Int32.ofNat i then x else y) = if 7 ≤ i then x else y := by
  rw [show (7 : Int32) = Int32.ofNat 7 from rfl, z_ile (by omega) (by omega)]
theorem z_d1 {nc ns nl np : Nat} {T N M : St} (E : ZE nc nl T N M) (B : ZB nc ns nl np M) (G F : St) : ∀ (n i fu fu' : Nat) (v : Int64), i + n = 10 → n < fu → n < fu' → ∃ v', (∀ K, f2_digest_L6 G N F T K fu v (Int32.ofNat i) = K v') ∧ (∀ K, f3_digest_L11 M K fu' v (Int32.ofNat i) = K v') := by
  intro n
  induction n with
  | zero =>
    intro i fu fu' v h1 h2 h3
    obtain ⟨f, rfl⟩ : ∃ f, fu = f + 1 := ⟨fu - 1, by omega⟩
    obtain ⟨f', rfl⟩ : ∃ f, fu' = f + 1 := ⟨fu' - 1, by omega⟩
    refine ⟨v, fun K => ?_, fun K => ?_⟩
    · rw [f2_digest_L6, z_g10 (by omega), if_pos (by omega)]
    · rw [f3_digest_L11, z_g10 (by omega), if_pos (by omega)]
  | succ n ih =>
    intro i fu fu' v h1 h2 h3
    obtain ⟨f, rfl⟩ : ∃ f, fu = f + 1 := ⟨fu - 1, by omega⟩
    obtain ⟨f', rfl⟩ : ∃ f, fu' = f + 1 := ⟨fu' - 1, by omega⟩
    obtain ⟨r, r1, r2⟩ := z_countV E B G F (i := i) (by omega)
    obtain ⟨v', a1, a2⟩ := ih (i + 1) f f' (v * 31 + r.toInt64) (by omega) (by omega) (by omega)
    refine ⟨v', fun K => ?_, fun K => ?_⟩
    · rw [f2_digest_L6, z_g10 (by omega), if_neg (by omega), r1, bx1_r, lt_e, z_s1]; exact a1 K
    · rw [f3_digest_L11, z_g10 (by omega), if_neg (by omega), r2, bd_e, lt_e, z_s1]; exact a2 K
theorem z_d2 {nc ns nl np : Nat} {T N M : St} (E : ZE nc nl T N M) (B : ZB nc ns nl np M) : ∀ (n i fu fu' : Nat) (v : Int64), i + n = nc → n < fu → n < fu' → ∃ v', (∀ K, f2_digestStreets_L5 T K fu v (Int32.ofNat i) = K v') ∧ (∀ K, f3_digest_L38 M K fu' v (Int32.ofNat i) = K v') := by
  have l1 := B.l1
  intro n
  induction n with
  | zero =>
    intro i fu fu' v h1 h2 h3
    obtain ⟨f, rfl⟩ : ∃ f, fu = f + 1 := ⟨fu - 1, by omega⟩
    obtain ⟨f', rfl⟩ : ∃ f, fu' = f + 1 := ⟨fu' - 1, by omega⟩
    refine ⟨v, fun K => ?_, fun K => ?_⟩
    · rw [f2_digestStreets_L5, E.c0, B.k1, z_ile (by omega) (by omega), if_pos (by omega)]
    · rw [f3_digest_L38, B.k1, z_ile (by omega) (by omega), if_pos (by omega)]
  | succ n ih =>
    intro i fu fu' v h1 h2 h3
    obtain ⟨f, rfl⟩ : ∃ f, fu = f + 1 := ⟨fu - 1, by omega⟩
    obtain ⟨f', rfl⟩ : ∃ f, fu' = f + 1 := ⟨fu' - 1, by omega⟩
    obtain ⟨v', a1, a2⟩ := ih (i + 1) f f' (v * 31 + (M 5 i).toInt64) (by omega) (by omega) (by omega)
    refine ⟨v', fun K => ?_, fun K => ?_⟩
    · rw [f2_digestStreets_L5, E.c0, B.k1, z_ile (by omega) (by omega), if_neg (by omega), z_xin (by omega) (by omega), gd_t, z_clamp (by omega), lt_e, E.h1, z_s1]; exact a1 K
    · rw [f3_digest_L38, B.k1, z_ile (by omega) (by omega), if_neg (by omega), z_xin (by omega) (by omega), gd_t, z_clamp (by omega), lt_e, z_s1]; exact a2 K
theorem z_d3i {nc ns nl np : Nat} {T N M : St} (E : ZE nc nl T N M) (B : ZB nc ns nl np M) {s : Nat} (hs : s < ns) (v : Int64) (K : Int64 → Option (Int64 × St)) : f3_digest_L79 (Int32.ofNat s) M K xF v 0 = K (((v * 31 + (M 6 (ix3 s 0)).toInt64) * 31 + (M 6 (ix3 s 1)).toInt64) * 31 + (M 6 (ix3 s 2)).toInt64) := by
  have l2 := B.l2
  unfold xF
  rw [f3_digest_L79, if_neg (by decide), z_ro0 (by omega), bd_e, lt_e, show (0 : Int32) + 1 = 1 by decide]
  rw [f3_digest_L79, if_neg (by decide), z_ro1 (by omega), bd_e, lt_e, show (1 : Int32) + 1 = 2 by decide]
  rw [f3_digest_L79, if_neg (by decide), z_ro2 (by omega), bd_e, lt_e, show (2 : Int32) + 1 = 3 by decide]
  rw [f3_digest_L79, if_pos (by decide)]
theorem z_d3 {nc ns nl np : Nat} {T N M : St} (E : ZE nc nl T N M) (B : ZB nc ns nl np M) (G F : St) : ∀ (n i fu fu' : Nat) (v : Int64), i + n = ns → n < fu → n < fu' → ∃ v', (f2_digestStreets_L44 G N F T fu v (Int32.ofNat i) = some (.inr v')) ∧ (∀ K, f3_digest_L68 M K fu' v (Int32.ofNat i) = K v') := by
  have l2 := B.l2
  intro n
  induction n with
  | zero =>
    intro i fu fu' v h1 h2 h3
    obtain ⟨f, rfl⟩ : ∃ f, fu = f + 1 := ⟨fu - 1, by omega⟩
    obtain ⟨f', rfl⟩ : ∃ f, fu' = f + 1 := ⟨fu' - 1, by omega⟩
    refine ⟨v, ?_, fun K => ?_⟩
    · rw [f2_digestStreets_L44, E.c3, B.k2, z_ile (by omega) (by omega), if_pos (by omega)]
    · rw [f3_digest_L68, B.k2, z_ile (by omega) (by omega), if_pos (by omega)]
  | succ n ih =>
    intro i fu fu' v h1 h2 h3
    obtain ⟨f, rfl⟩ : ∃ f, fu = f + 1 := ⟨fu - 1, by omega⟩
    obtain ⟨f', rfl⟩ : ∃ f, fu' = f + 1 := ⟨fu' - 1, by omega⟩
    obtain ⟨v', a1, a2⟩ := ih (i + 1) f f' ((((v * 31 + (M 6 (ix3 i 0)).toInt64) * 31 + (M 6 (ix3 i 1)).toInt64) * 31 + (M 6 (ix3 i 2)).toInt64) * 31 + (bsum M nl i).toInt64) (by omega) (by omega) (by omega)
    refine ⟨v', ?_, fun K => ?_⟩
    · rw [f2_digestStreets_L44, E.c3, B.k2, z_ile (by omega) (by omega), if_neg (by omega), z_xin (by omega) (by omega), gd_t, z_clamp (by omega), lt_e, lt_e, lt_e, z_burningV E B G F (by omega), bx1_r, lt_e, E.t4, E.t5, E.t6, z_s1]; exact a1
    · rw [f3_digest_L68, B.k2, z_ile (by omega) (by omega), if_neg (by omega), z_d3i E B (by omega), z_burns B, bd_e, lt_e, z_s1]; exact a2 K
theorem z_d4i {nc ns nl np : Nat} {T N M : St} (E : ZE nc nl T N M) (B : ZB nc ns nl np M) (G F : St) {l : Nat} (hl : l < nl) : ∀ (n i fu fu' : Nat) (v : Int64), i + n = 9 → n < fu → n < fu' → ∃ v', (∀ K, f2_digestLamps_L20 (Int32.ofNat l) G N F T K fu v (Int32.ofNat i) = K v') ∧ (∀ K, f3_digest_L138 (Int32.ofNat l) M K fu' v (Int32.ofNat i) = K v') := by
  intro n
  induction n with
  | zero =>
    intro i fu fu' v h1 h2 h3
    obtain ⟨f, rfl⟩ : ∃ f, fu = f + 1 := ⟨fu - 1, by omega⟩
    obtain ⟨f', rfl⟩ : ∃ f, fu' = f + 1 := ⟨fu' - 1, by omega⟩
    refine ⟨v, fun K => ?_, fun K => ?_⟩
    · rw [f2_digestLamps_L20, z_g9 (by omega), if_pos (by omega)]
    · rw [f3_digest_L138, z_g9 (by omega), if_pos (by omega)]
  | succ n ih =>
    intro i fu fu' v h1 h2 h3
    obtain ⟨f, rfl⟩ : ∃ f, fu = f + 1 := ⟨fu - 1, by omega⟩
    obtain ⟨f', rfl⟩ : ∃ f, fu' = f + 1 := ⟨fu' - 1, by omega⟩
    obtain ⟨r, r1, r2⟩ := z_toldV E B G F hl (i := i) (by omega)
    obtain ⟨v', a1, a2⟩ := ih (i + 1) f f' (v * 31 + r.toInt64) (by omega) (by omega) (by omega)
    refine ⟨v', fun K => ?_, fun K => ?_⟩
    · rw [f2_digestLamps_L20, z_g9 (by omega), if_neg (by omega), r1, bx1_r, lt_e, z_s1]; exact a1 K
    · rw [f3_digest_L138, z_g9 (by omega), if_neg (by omega), r2, bd_e, lt_e, z_s1]; exact a2 K
theorem z_d4 {nc ns nl np : Nat} {T N M : St} (E : ZE nc nl T N M) (B : ZB nc ns nl np M) (G F : St) : ∀ (n i fu fu' : Nat) (v : Int64), i + n = nl → n < fu → n < fu' → ∃ v', (f2_digestLamps_L5 G N F T fu v (Int32.ofNat i) = some (.inr v')) ∧ (∀ K, f3_digest_L127 M K fu' v (Int32.ofNat i) = K v') := by
  have l3 := B.l3
  intro n
  induction n with
  | zero =>
    intro i fu fu' v h1 h2 h3
    obtain ⟨f, rfl⟩ : ∃ f, fu = f + 1 := ⟨fu - 1, by omega⟩
    obtain ⟨f', rfl⟩ : ∃ f, fu' = f + 1 := ⟨fu' - 1, by omega⟩
    refine ⟨v, ?_, fun K => ?_⟩
    · rw [f2_digestLamps_L5, E.c7, B.k3, z_ile (by omega) (by omega), if_pos (by omega)]
    · rw [f3_digest_L127, B.k3, z_ile (by omega) (by omega), if_pos (by omega)]
  | succ n ih =>
    intro i fu fu' v h1 h2 h3
    obtain ⟨f, rfl⟩ : ∃ f, fu = f + 1 := ⟨fu - 1, by omega⟩
    obtain ⟨f', rfl⟩ : ∃ f, fu' = f + 1 := ⟨fu' - 1, by omega⟩
    obtain ⟨w, b1, b2⟩ := z_d4i E B G F (l := i) (by omega) 9 0 xF xF v rfl (by unfold xF; omega) (by unfold xF; omega)
    have b1' : ∀ K, f2_digestLamps_L20 (Int32.ofNat i) G N F T K xF v 0 = K w := b1
    have b2' : ∀ K, f3_digest_L138 (Int32.ofNat i) M K xF v 0 = K w := b2
    obtain ⟨v', a1, a2⟩ := ih (i + 1) f f' w (by omega) (by omega) (by omega)
    refine ⟨v', ?_, fun K => ?_⟩
    · rw [f2_digestLamps_L5, E.c7, B.k3, z_ile (by omega) (by omega), if_neg (by omega), b1', z_s1]; exact a1
    · rw [f3_digest_L127, B.k3, z_ile (by omega) (by omega), if_neg (by omega), b2', z_s1]; exact a2 K
theorem z_d5i {nc ns nl np : Nat} {T N M : St} (E : ZE nc nl T N M) (B : ZB nc ns nl np M) (G F : St) {p : Nat} (hp : p < np) : ∀ (n i fu fu' : Nat) (v : Int64), i + n = 7 → n < fu → n < fu' → ∃ v', (∀ K, f2_digestLighters_L20 (Int32.ofNat p) G N F T K fu v (Int32.ofNat i) = K v') ∧ (∀ K, f3_digest_L185 (Int32.ofNat p) M K fu' v (Int32.ofNat i) = K v') := by
  intro n
  induction n with
  | zero =>
    intro i fu fu' v h1 h2 h3
    obtain ⟨f, rfl⟩ : ∃ f, fu = f + 1 := ⟨fu - 1, by omega⟩
    obtain ⟨f', rfl⟩ : ∃ f, fu' = f + 1 := ⟨fu' - 1, by omega⟩
    refine ⟨v, fun K => ?_, fun K => ?_⟩
    · rw [f2_digestLighters_L20, z_g7 (by omega), if_pos (by omega)]
    · rw [f3_digest_L185, z_g7 (by omega), if_pos (by omega)]
  | succ n ih =>
    intro i fu fu' v h1 h2 h3
    obtain ⟨f, rfl⟩ : ∃ f, fu = f + 1 := ⟨fu - 1, by omega⟩
    obtain ⟨f', rfl⟩ : ∃ f, fu' = f + 1 := ⟨fu' - 1, by omega⟩
    obtain ⟨r, r1, r2⟩ := z_lighterV E B G F hp (i := i) (by omega)
    obtain ⟨v', a1, a2⟩ := ih (i + 1) f f' (v * 31 + r.toInt64) (by omega) (by omega) (by omega)
    refine ⟨v', fun K => ?_, fun K => ?_⟩
    · rw [f2_digestLighters_L20, z_g7 (by omega), if_neg (by omega), r1, bx1_r, lt_e, z_s1]; exact a1 K
    · rw [f3_digest_L185, z_g7 (by omega), if_neg (by omega), r2, bd_e, lt_e, z_s1]; exact a2 K
theorem z_d5r {nc ns nl np : Nat} {T N M : St} (E : ZE nc nl T N M) (B : ZB nc ns nl np M) {p k : Nat} (hp : p < np) (hk : k ≤ 10) (ek : M 9 (ix10 p 4) = Int32.ofNat k) : ∀ (n i fu fu' : Nat) (v : Int64), i + n = k → n < fu → n < fu' → ∃ v', (∀ K, f2_digestLighters_L52 (Int32.ofNat p) T K fu v (Int32.ofNat i) = K v') ∧ (∀ K, f3_digest_L216 (Int32.ofNat p) M K fu' v (Int32.ofNat i) = K v') := by
  have l4 := B.l4
  intro n
  induction n with
  | zero =>
    intro i fu fu' v h1 h2 h3
    obtain ⟨f, rfl⟩ : ∃ f, fu = f + 1 := ⟨fu - 1, by omega⟩
    obtain ⟨f', rfl⟩ : ∃ f, fu' = f + 1 := ⟨fu' - 1, by omega⟩
    refine ⟨v, fun K => ?_, fun K => ?_⟩
    · rw [f2_digestLighters_L52, z_xin (by omega) (by omega), gd_t, z_clamp (by omega), E.t15, ek, z_ile (by omega) (by omega), if_pos (by omega)]
    · rw [f3_digest_L216, z_pe4 (by omega), bd_e, ek, z_ile (by omega) (by omega), if_pos (by omega)]
  | succ n ih =>
    intro i fu fu' v h1 h2 h3
    obtain ⟨f, rfl⟩ : ∃ f, fu = f + 1 := ⟨fu - 1, by omega⟩
    obtain ⟨f', rfl⟩ : ∃ f, fu' = f + 1 := ⟨fu' - 1, by omega⟩
    have e10 : (10 : Int32) * Int32.ofNat p + Int32.ofNat i = Int32.ofNat (ix10 p i) := z_s10
    obtain ⟨v', a1, a2⟩ := ih (i + 1) f f' (v * 31 + (M 10 (ix10 p i)).toInt64) (by omega) (by omega) (by omega)
    refine ⟨v', fun K => ?_, fun K => ?_⟩
    · rw [f2_digestLighters_L52, z_xin (by omega) (by omega), gd_t, z_clamp (by omega), E.t15, ek, z_ile (by omega) (by omega), if_neg (by omega), z_xin (by omega) (by omega), gd_t, z_clamp (by omega), lt_e, E.rd p i (by omega), z_s1]; exact a1 K
    · rw [f3_digest_L216, z_pe4 (by omega), bd_e, ek, z_ile (by omega) (by omega), if_neg (by omega), e10, z_xin (by unfold ix10; omega) (by unfold ix10; omega), gd_t, z_clamp (by unfold ix10; omega), lt_e, z_s1]; exact a2 K
theorem z_d5 {nc ns nl np : Nat} {T N M : St} (E : ZE nc nl T N M) (B : ZB nc ns nl np M) (G F : St) : ∀ (n i fu fu' : Nat) (v : Int64), i + n = np → n < fu → n < fu' → ∃ v', (f2_digestLighters_L5 G N F T fu v (Int32.ofNat i) = some (.inr v')) ∧ (∀ K, f3_digest_L174 M K fu' v (Int32.ofNat i) = K v') := by
  have l4 := B.l4
  intro n
  induction n with
  | zero =>
    intro i fu fu' v h1 h2 h3
    obtain ⟨f, rfl⟩ : ∃ f, fu = f + 1 := ⟨fu - 1, by omega⟩
    obtain ⟨f', rfl⟩ : ∃ f, fu' = f + 1 := ⟨fu' - 1, by omega⟩
    refine ⟨v, ?_, fun K => ?_⟩
    · rw [f2_digestLighters_L5, E.c12, B.k4, z_ile (by omega) (by omega), if_pos (by omega)]
    · rw [f3_digest_L174, B.k4, z_ile (by omega) (by omega), if_pos (by omega)]
  | succ n ih =>
    intro i fu fu' v h1 h2 h3
    obtain ⟨f, rfl⟩ : ∃ f, fu = f + 1 := ⟨fu - 1, by omega⟩
    obtain ⟨f', rfl⟩ : ∃ f, fu' = f + 1 := ⟨fu' - 1, by omega⟩
    obtain ⟨k, hk, ek, _, _⟩ := B.pl i (by omega)
    obtain ⟨w, b1, b2⟩ := z_d5i E B G F (p := i) (by omega) 7 0 xF xF8 v rfl (by unfold xF; omega) (by unfold xF8; omega)
    have b1' : ∀ K, f2_digestLighters_L20 (Int32.ofNat i) G N F T K xF v 0 = K w := b1
    have b2' : ∀ K, f3_digest_L185 (Int32.ofNat i) M K xF8 v 0 = K w := b2
    obtain ⟨u, c1, c2⟩ := z_d5r E B (p := i) (by omega) hk ek k 0 xF xF w (by omega) (by unfold xF; omega) (by unfold xF; omega)
    have c1' : ∀ K, f2_digestLighters_L52 (Int32.ofNat i) T K xF w 0 = K u := c1
    have c2' : ∀ K, f3_digest_L216 (Int32.ofNat i) M K xF w 0 = K u := c2
    obtain ⟨v', a1, a2⟩ := ih (i + 1) f f' u (by omega) (by omega) (by omega)
    refine ⟨v', ?_, fun K => ?_⟩
    · rw [f2_digestLighters_L5, E.c12, B.k4, z_ile (by omega) (by omega), if_neg (by omega), b1', c1', z_s1]; exact a1
    · rw [f3_digest_L174, B.k4, z_ile (by omega) (by omega), if_neg (by omega), b2', c2', z_s1]; exact a2 K
theorem z_d6 {nc ns nl np : Nat} {T N M : St} (E : ZE nc nl T N M) (B : ZB nc ns nl np M) : ∀ (n i fu fu' : Nat) (v : Int64), i + n = 10 → n < fu → n < fu' → ∃ v', (f2_digest_L51 T fu v (Int32.ofNat i) = some (.inr v')) ∧ (f3_digest_L271 M fu' v (Int32.ofNat i) = some (v', M)) := by
  intro n
  induction n with
  | zero =>
    intro i fu fu' v h1 h2 h3
    obtain ⟨f, rfl⟩ : ∃ f, fu = f + 1 := ⟨fu - 1, by omega⟩
    obtain ⟨f', rfl⟩ : ∃ f, fu' = f + 1 := ⟨fu' - 1, by omega⟩
    refine ⟨v, ?_, ?_⟩
    · rw [f2_digest_L51, z_g10 (by omega), if_pos (by omega)]
    · rw [f3_digest_L271, z_g10 (by omega), if_pos (by omega)]
  | succ n ih =>
    intro i fu fu' v h1 h2 h3
    obtain ⟨f, rfl⟩ : ∃ f, fu = f + 1 := ⟨fu - 1, by omega⟩
    obtain ⟨f', rfl⟩ : ∃ f, fu' = f + 1 := ⟨fu' - 1, by omega⟩
    obtain ⟨v', a1, a2⟩ := ih (i + 1) f f' (v * 31 + (M 11 i).toInt64) (by omega) (by omega) (by omega)
    refine ⟨v', ?_, ?_⟩
    · rw [f2_digest_L51, z_g10 (by omega), if_neg (by omega), z_xin (by omega) (by omega), gd_t, z_clamp (by omega), lt_e, E.w11, z_s1]; exact a1
    · rw [f3_digest_L271, z_g10 (by omega), if_neg (by omega), z_xin (by omega) (by omega), gd_t, z_clamp (by omega), lt_e, lt_e, z_s1]; exact a2
theorem z_digest {T N M : St} (R : ZR T N M) (G F : St) : ∃ r M', f2_digest G N F T = some (.inr r) ∧ f3_digest M = some (r, M') ∧ ZR T N M' := by
  obtain ⟨nc, ns, nl, np, E0, B0, W⟩ := R
  have E : ZE nc nl T N (up2 M 0 0 0) := ZE_0 E0
  have B : ZB nc ns nl np (up2 M 0 0 0) := ZB_0 B0
  have l1 := B.l1; have l2 := B.l2; have l3 := B.l3; have l4 := B.l4
  obtain ⟨v1, a1, b1⟩ := z_d1 E B G F 10 0 xF xF11 941 rfl (by unfold xF; omega) (by unfold xF11; omega)
  obtain ⟨v2, a2, b2⟩ := z_d2 E B nc 0 xF xF v1 (by omega) (by unfold xF; omega) (by unfold xF; omega)
  obtain ⟨v3, a3, b3⟩ := z_d3 E B G F ns 0 xF xF v2 (by omega) (by unfold xF; omega) (by unfold xF; omega)
  obtain ⟨v4, a4, b4⟩ := z_d4 E B G F nl 0 xF xF v3 (by omega) (by unfold xF; omega) (by unfold xF; omega)
  obtain ⟨v5, a5, b5⟩ := z_d5 E B G F np 0 xF xF5 v4 (by omega) (by unfold xF; omega) (by unfold xF5; omega)
  obtain ⟨v6, a6, b6⟩ := z_d6 E B 10 0 xF xF v5 rfl (by unfold xF; omega) (by unfold xF; omega)
  refine ⟨v6, up2 M 0 0 0, ?_, ?_, nc, ns, nl, np, E, B, W⟩
  · unfold f2_digest f2_digestStreets f2_digestLamps f2_digestLighters
    refine (a1 _).trans ?_
    rw [show f2_digestStreets_L5 T (fun v3 => f2_digestStreets_L44 G N F T xF v3 0) xF v1 0 = some (.inr v3) from (a2 _).trans a3, bx1_r, show f2_digestLamps_L5 G N F T xF v3 0 = some (.inr v4) from a4, bx1_r, show f2_digestLighters_L5 G N F T xF v4 0 = some (.inr v5) from a5, bx1_r]
    exact a6
  · unfold f3_digest
    rw [lt_e]
    exact (b1 _).trans ((b2 _).trans ((b3 _).trans ((b4 _).trans ((b5 _).trans b6))))
