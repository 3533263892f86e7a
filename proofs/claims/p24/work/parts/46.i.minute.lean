/-! THE WIND, AND A MINUTE WHOLE -/
theorem y_gust {nc ns nl np : Nat} {M : St} (B : ZB nc ns nl np M) {i s a b m : Nat} (hi : i < nl) (es : M 8 (ix8 i 0) = Int32.ofNat s) (hs : s < ns) (ea : M 6 (ix3 s 0) = Int32.ofNat a) (ha : a < nc) (eb : M 6 (ix3 s 1) = Int32.ofNat b) (hb : b < nc) (hm : m < 600) (em : M 12 0 = Int32.ofNat m) :
    ∃ g, g ≤ 12 ∧ zgust M i = Int32.ofNat g ∧ M 11 (m / 60) + (if M 5 a < M 5 b then M 5 b else M 5 a) / 10 = Int32.ofNat g := by
  have l1 := B.l1; have l2 := B.l2
  have e : zgust M i = M 11 (m / 60) + (if M 5 a < M 5 b then M 5 b else M 5 a) / 10 := by
    unfold zgust
    rw [em, es, z_clamp (by omega), ea, eb, z_clamp (by omega), z_clamp (by omega), show (60 : Int32) = Int32.ofNat 60 from rfl, z_div (by omega) (by omega), z_clamp (by omega)]
  obtain ⟨w, hw, ew⟩ := B.wd (m / 60)
  obtain ⟨h1, hh1, e1⟩ := B.hi a
  obtain ⟨h2, hh2, e2⟩ := B.hi b
  have eh : (if M 5 a < M 5 b then M 5 b else M 5 a) = Int32.ofNat (if h1 < h2 then h2 else h1) := by
    rw [e1, e2, z_ilt (by omega) (by omega)]; split <;> rfl
  refine ⟨w + (if h1 < h2 then h2 else h1) / 10, by split <;> omega, ?_, ?_⟩
  · rw [e, eh, ew, show (10 : Int32) = Int32.ofNat 10 from rfl, z_div (by split <;> omega) (by omega), z_add]
  · rw [eh, ew, show (10 : Int32) = Int32.ofNat 10 from rfl, z_div (by split <;> omega) (by omega), z_add]
theorem y_stepB {nc ns nl np : Nat} {Y : Nat → Nat} {S M : St} (R : SR nc ns nl np Y S M) (B : ZB nc ns nl np M) (X : ZX nl np M) (V : SW nc S M) {i m : Nat} (hi : i < nl) (hm : m < 600) (em : M 12 0 = Int32.ofNat m) : ∃ S', (∀ K fu, f5_pass_L315 (Int32.ofNat nl) Y K (fu + 1) (Int32.ofNat i) S = f5_pass_L315 (Int32.ofNat nl) Y K fu (Int32.ofNat (i + 1)) S') ∧ SR nc ns nl np Y S' (bB M i) ∧ SW nc S' (bB M i) := by
  have l1 := B.l1; have l2 := B.l2; have l3 := B.l3
  obtain ⟨s, hs, es⟩ := B.lw i hi
  obtain ⟨a, ha, ea⟩ := B.sa s hs
  obtain ⟨b, hb, eb⟩ := B.sb s hs
  obtain ⟨g, hg, eg, eg2⟩ := y_gust B hi es hs ea ha eb hb hm em
  obtain ⟨k, hk, ek⟩ := X.li i hi
  have r7 : rk 11 i ≠ 7 := fun e => rk_lo (g := 11) (i := i) (by omega) (by omega) e.symm
  have hr : ∀ a, rk 14 a ≠ rk 11 i := fun a => rk_ne (by omega) (by omega) (by omega)
  have e0 : S (rk 11 i) 0 = Int32.ofNat s := (R.la i 0 hi (by omega)).trans es
  have f0 : S (rk 10 s) 0 = Int32.ofNat a := (R.st s 0 hs (by omega)).trans ea
  have f1 : S (rk 10 s) 1 = Int32.ofNat b := (R.st s 1 hs (by omega)).trans eb
  have h60 : Int32.ofNat m / 60 = Int32.ofNat (m / 60) := by rw [show (60 : Int32) = Int32.ofNat 60 from rfl, z_div (by omega) (by omega)]
  have go : ∀ K fu, f5_pass_L315 (Int32.ofNat nl) Y K (fu + 1) (Int32.ofNat i) S =
      if M 8 (ix8 i 5) = 0 then f5_pass_L315 (Int32.ofNat nl) Y K fu (Int32.ofNat (i + 1)) S else
      if M 12 0 - M 12 0 / 10 * 10 = 0 then (if Int32.ofNat k + 5 ≤ Int32.ofNat g then f5_pass_L315 (Int32.ofNat nl) Y K fu (Int32.ofNat (i + 1)) (up2 (up2 S (rk 11 i) 5 0) (rk 11 i) 7 (M 8 (ix8 i 7) + 1)) else f5_pass_L315 (Int32.ofNat nl) Y K fu (Int32.ofNat (i + 1)) S) else f5_pass_L315 (Int32.ofNat nl) Y K fu (Int32.ofNat (i + 1)) S := by
    intro K fu
    rw [f5_pass_L315, if_neg (by rw [z_le (by omega) (by omega)]; omega), R.y3, R.y2, R.y1, z_xin (by omega) hi, gd_t, z_clamp (n := i) (by omega)]
    simp only [kc0, kc1, kc2, kc5, kc7]
    rw [e0, z_xin (n := s) (by omega) hs, gd_t, z_clamp (n := s) (by omega), f0, f1, z_xin (n := a) (by omega) ha, gd_t, z_xin (n := b) (by omega) hb, gd_t, z_clamp (n := a) (by omega), z_clamp (n := b) (by omega), R.hi a ha, R.hi b hb, R.la i 5 hi (by omega), R.la i 2 hi (by omega), ek, R.mi, z_s1]
    simp only [lt_e]
    rw [em, h60, z_xin (n := m / 60) (by omega) (by omega), gd_t, z_clamp (n := m / 60) (by omega), R.wd (m / 60) (by omega), eg2, up2_n2 (j := 7) (i := 5) (by omega), R.la i 7 hi (by omega)]
  have hc : (Int32.ofNat k + 5 ≤ Int32.ofNat g) ↔ M 8 (ix8 i 2) + 4 < zgust M i := by
    rw [eg, ek, show (5 : Int32) = Int32.ofNat 5 from rfl, show (4 : Int32) = Int32.ofNat 4 from rfl, z_add, z_add, z_le (by omega) (by omega), z_lt (by omega) (by omega)]; omega
  by_cases y : yc M i
  · rw [bB_1 y]
    obtain ⟨y1, y2, y3⟩ := y
    exact ⟨_, fun K fu => by rw [go, if_neg y1, if_pos y2, if_pos (hc.mpr y3)], SR_8 (SR_8 R (by omega)) (by omega), SW_k (SW_k V (fun a _ => hr a) (by omega)) (fun a _ => hr a) (by omega)⟩
  · rw [bB_0 y]
    refine ⟨S, fun K fu => ?_, R, V⟩
    rw [go]
    by_cases y1 : M 8 (ix8 i 5) = 0
    · rw [if_pos y1]
    · rw [if_neg y1]
      by_cases y2 : M 12 0 - M 12 0 / 10 * 10 = 0
      · rw [if_pos y2, if_neg (fun h => y ⟨y1, y2, hc.mp h⟩)]
      · rw [if_neg y2]
theorem y_loopB {nc ns nl np m : Nat} {Y : Nat → Nat} (hm : m < 600) : ∀ (n i fu : Nat) (S M : St), SR nc ns nl np Y S M → ZB nc ns nl np M → ZX nl np M → SW nc S M → M 12 0 = Int32.ofNat m → i + n = nl → n < fu → ∃ S', (∀ K, f5_pass_L315 (Int32.ofNat nl) Y K fu (Int32.ofNat i) S = K S') ∧ SR nc ns nl np Y S' (goB M i n) ∧ SW nc S' (goB M i n) ∧ ZX nl np (goB M i n) := by
  intro n
  induction n with
  | zero =>
    intro i fu S M R B X V em h1 h2
    have l3 := B.l3
    cases fu with
    | zero => omega
    | succ fu => exact ⟨S, fun K => by rw [f5_pass_L315, if_pos (by rw [z_le (by omega) (by omega)]; omega)], R, V, X⟩
  | succ n ih =>
    intro i fu S M R B X V em h1 h2
    cases fu with
    | zero => omega
    | succ fu =>
      obtain ⟨S1, a1, R1, V1⟩ := y_stepB R B X V (i := i) (by omega) hm em
      obtain ⟨S2, b1, R2, V2, X2⟩ := ih (i + 1) fu S1 (bB M i) R1 (ZB_B B (by omega)) (ZX_B X) V1 (by rw [bB_k (by omega)]; exact em) (by omega) (by omega)
      exact ⟨S2, fun K => by rw [a1, b1], R2, V2, X2⟩
theorem ZX_up {nl np : Nat} {M : St} (X : ZX nl np M) {k i : Nat} {x : Int32} (h8 : k ≠ 8) (h9 : k ≠ 9) (h10 : k ≠ 10) : ZX nl np (up2 M k i x) := by
  have e8 : up2 M k i x 8 = M 8 := up1_ne h8.symm
  have e9 : up2 M k i x 9 = M 9 := up1_ne h9.symm
  have e10 : up2 M k i x 10 = M 10 := up1_ne h10.symm
  unfold ZX
  rw [e8, e9, e10]
  exact X
/-- a minute: the model's, in three steps, and the sim's -/
theorem y_minute {nc ns nl np m : Nat} {Y : Nat → Nat} {T N M S : St} (E : ZE nc nl T N M) (B : ZB nc ns nl np M) (X : ZX nl np M) (R : SR nc ns nl np Y S M) (V : SW nc S M) (hm : m < 600) (em : M 12 0 = Int32.ofNat m) :
    ∃ M1 v r S', f3_minuteOn M = some (v, up2 (goB (goA M1 0 nl) 0 nl) 12 0 (Int32.ofNat (m + 1))) ∧ f5_pass Y S = some (r, S') ∧ yPM nl np 0 M M1 ∧ ZB nc ns nl np M1 ∧ ZX nl np M1 ∧
      SR nc ns nl np Y S' (up2 (goB (goA M1 0 nl) 0 nl) 12 0 (Int32.ofNat (m + 1))) ∧ SW nc S' (up2 (goB (goA M1 0 nl) 0 nl) 12 0 (Int32.ofNat (m + 1))) ∧ ZX nl np (up2 (goB (goA M1 0 nl) 0 nl) 12 0 (Int32.ofNat (m + 1))) := by
  have l3 := B.l3; have l4 := B.l4
  obtain ⟨M1, S1, v', a1, a2, R1, V1, X1, P1⟩ := y_move (T := T) xF 0 N M S 0 E B X R V (by omega) (by unfold xF; omega)
  obtain ⟨N1, M2, v2, w, -, t2, E1, B1, -, -, -, -⟩ := z_move (T := T) xF 0 N M 0 0 E B (by omega) (by unfold xF; omega)
  have e1 : (v2, M2) = (v', M1) := Option.some.inj ((t2 (fun v M => some (v, M))).symm.trans (a1 _))
  obtain ⟨rfl, rfl⟩ := Prod.mk.inj e1
  have em1 : M2 12 0 = Int32.ofNat m := by rw [P1.2.2.2.1 12 (by omega) (by omega)]; exact em
  obtain ⟨S2, b1, R2, V2, X2, B2⟩ := y_loopA nl 0 xF S1 M2 R1 B1 X1 V1 (by omega) (by unfold xF; omega)
  have k12 : ∀ n i (M : St), goA M i n 12 0 = M 12 0 := by
    intro n
    induction n with
    | zero => intro i M; rfl
    | succ n ih => intro i M; rw [goA, ih, bA_12.1]
  have em2 : goA M2 0 nl 12 0 = Int32.ofNat m := (k12 _ _ _).trans em1
  obtain ⟨S3, c1, R3, V3, X3⟩ := y_loopB hm nl 0 xF S2 (goA M2 0 nl) R2 B2 X2 V2 em2 (by omega) (by unfold xF; omega)
  obtain ⟨-, -, c3, -⟩ := goB_r (nc := nc) (ns := ns) (nl := nl) (np := np) nl 0 (goA M2 0 nl) B2 (by omega)
  have hM : f3_minuteOn M = some (v2, up2 (goB (goA M2 0 nl) 0 nl) 12 0 (Int32.ofNat (m + 1))) := by
    unfold f3_minuteOn
    rw [show (0 : Int32) = Int32.ofNat 0 from rfl, show (Int32.ofNat 0 : Int32) = 0 from rfl] at *
    have := a1 (fun v M5 => f3_minuteOn_L41 (fun M37 => lt_ (up2 M37 12 (0 : Int32).toNatClampNeg (M37 12 (0 : Int32).toNatClampNeg + 1)) fun M44 => some (v, M44)) xF 0 M5)
    refine this.trans ?_
    have hl := z_loopM (K := fun M37 => lt_ (up2 M37 12 (0 : Int32).toNatClampNeg (M37 12 (0 : Int32).toNatClampNeg + 1)) fun M44 => some (v2, M44)) xF 0 nl M2 B1 ⟨m, hm, em1⟩ (by omega) (by unfold xF; omega)
    refine hl.trans ?_
    rw [goAB_eq, lt_e, kc0, c3, em2, z_s1]
  have em3 : S3 7 0 = Int32.ofNat m := by rw [R3.mi, c3]; exact em2
  obtain ⟨u, hu⟩ := a2 (fun v4 S5 => lt_ (Int32.ofNat (Y 3)) fun v34 => f5_pass_L186 v34 Y (fun S37 => lt_ (Int32.ofNat (Y 3)) fun v50 => f5_pass_L315 v50 Y (fun S53 => lt_ (up2 S53 7 0 ((S53 7 0) + 1)) fun S69 => some (v4, S69)) xF 0 S37) xF 0 S5) 0
  refine ⟨M2, v2, u, up2 S3 7 0 (Int32.ofNat (m + 1)), hM, ?_, P1, B1, X1, SR_n R3 (.inl ⟨rfl, rfl⟩), SW_k V3 (fun a _ e => rk_lo (g := 14) (i := a) (by omega) (by omega) e.symm) (by omega), ZX_up X3 (by omega) (by omega) (by omega)⟩
  unfold f5_pass
  refine hu.trans ?_
  rw [lt_e, R.y3]
  refine (b1 _).trans ?_
  rw [lt_e]
  refine (c1 _).trans ?_
  rw [lt_e, em3, z_s1]
