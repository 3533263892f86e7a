/-! THE LAMPS' MINUTE: the sim's two loops -/
theorem bA_8 {M : St} {l i w : Nat} (hw : w < 8) : bA M l 8 (ix8 i w) = if i = l ∧ w = 4 then xs M l else if i = l ∧ w = 5 then xb M l else if i = l ∧ w = 3 then M 8 (ix8 l 3) - xu M l else M 8 (ix8 i w) := by
  unfold bA
  rw [up8 hw (by omega), up8 hw (by omega), up2_n1 (by omega), up8 hw (by omega)]
theorem bA_12 {M : St} {l : Nat} : bA M l 12 0 = M 12 0 ∧ bA M l 12 1 = M 12 1 ∧ bA M l 12 2 = M 12 2 + xu M l := by
  unfold bA
  refine ⟨?_, ?_, ?_⟩
  · rw [up2_n1 (by omega), up2_n1 (by omega), up2_n2 (by omega), up2_n1 (by omega)]
  · rw [up2_n1 (by omega), up2_n1 (by omega), up2_n2 (by omega), up2_n1 (by omega)]
  · rw [up2_n1 (by omega), up2_n1 (by omega), up2_at]
theorem bA_k {M : St} {l k : Nat} (h8 : k ≠ 8) (h12 : k ≠ 12) : bA M l k = M k := by
  unfold bA
  rw [show ∀ N : St, ∀ i x, up2 N 8 i x k = N k from fun N i x => up1_ne h8, show ∀ N : St, ∀ i x, up2 N 8 i x k = N k from fun N i x => up1_ne h8, show ∀ N : St, ∀ i x, up2 N 12 i x k = N k from fun N i x => up1_ne h12, show ∀ N : St, ∀ i x, up2 N 8 i x k = N k from fun N i x => up1_ne h8]
theorem bB_8 {M : St} {l i w : Nat} (hw : w < 8) : bB M l 8 (ix8 i w) = if i = l ∧ w = 7 then (if ycb M l = true then M 8 (ix8 l 7) + 1 else M 8 (ix8 l 7)) else if i = l ∧ w = 5 then (if ycb M l = true then 0 else M 8 (ix8 l 5)) else M 8 (ix8 i w) := by
  unfold bB
  rw [up8 hw (by omega), up8 hw (by omega)]
theorem bB_k {M : St} {l k : Nat} (h8 : k ≠ 8) : bB M l k = M k := by
  unfold bB
  rw [show ∀ N : St, ∀ i x, up2 N 8 i x k = N k from fun N i x => up1_ne h8, show ∀ N : St, ∀ i x, up2 N 8 i x k = N k from fun N i x => up1_ne h8]
/-- what a lamp that burns uses -/
theorem y_aU {M : St} {l o k : Nat} (ho : 1 ≤ o) (ho2 : o ≤ 300) (eo : M 8 (ix8 l 3) = Int32.ofNat o) (hk : k ≤ 9) (ek : M 8 (ix8 l 4) = Int32.ofNat k) : aU M l = Int32.ofNat (if 4 < k ∧ 1 < o then 2 else 1) := by
  unfold aU
  rw [eo, ek, show (5 : Int32) = Int32.ofNat 5 from rfl, z_ilt (by omega) (by omega)]
  by_cases h : k < 5
  · rw [if_pos h, if_neg (by omega : ¬ (4 < k ∧ 1 < o)), z_l1, z_ilt (by omega) (by omega)]
    split
    · rfl
    · congr 1; omega
  · rw [if_neg h, show (2 : Int32) = Int32.ofNat 2 from rfl, z_ilt (by omega) (by omega)]
    by_cases h2 : 2 < o
    · rw [if_pos h2, if_pos (by omega)]
    · rw [if_neg h2]
      by_cases h3 : 1 < o
      · rw [if_pos (by omega)]; congr 1; omega
      · rw [if_neg (by omega)]; congr 1; omega
theorem ZX_A {nc ns nl np : Nat} {M : St} (B : ZB nc ns nl np M) (X : ZX nl np M) {l : Nat} (hl : l < nl) : ZX nl np (bA M l) := by
  have l3 := B.l3
  have hi : ∀ i w, i ≠ l → w < 8 → bA M l 8 (ix8 i w) = M 8 (ix8 i w) := fun i w hi hw => by rw [bA_8 hw]; simp [hi]
  have w1 : ∀ i, bA M l 8 (ix8 i 1) = M 8 (ix8 i 1) := fun i => by rw [bA_8 (by omega)]; simp
  have w2 : ∀ i, bA M l 8 (ix8 i 2) = M 8 (ix8 i 2) := fun i => by rw [bA_8 (by omega)]; simp
  have w3 : bA M l 8 (ix8 l 3) = M 8 (ix8 l 3) - xu M l := by rw [bA_8 (by omega)]; simp
  have w4 : bA M l 8 (ix8 l 4) = xs M l := by rw [bA_8 (by omega)]; simp
  have w5 : bA M l 8 (ix8 l 5) = xb M l := by rw [bA_8 (by omega)]; simp
  refine ⟨fun i hi2 h5 => ?_, fun i hi2 => ?_, fun i hi2 => ?_, fun i hi2 => ?_, fun q hq2 => ?_, fun q hq2 h5 => ?_, fun q i hq2 hi2 h5 => ?_⟩
  · by_cases e : i = l
    · subst e
      rw [w5] at h5; rw [w3]
      unfold xb at h5
      unfold xu
      by_cases b0 : M 8 (ix8 i 5) = 0
      · rw [if_pos b0] at h5; exact absurd h5 (by decide)
      · rw [if_neg b0] at h5 ⊢
        by_cases h2 : M 8 (ix8 i 3) - aU M i = 0
        · rw [if_pos h2] at h5; exact absurd h5 (by decide)
        · exact h2
    · rw [hi i 3 e (by omega)]; rw [hi i 5 e (by omega)] at h5; exact X.bo i hi2 h5
  · by_cases e : i = l
    · subst e
      obtain ⟨k, hk, ek⟩ := X.so i hi2
      rw [w4]
      unfold xs
      rw [ek]
      split
      · exact ⟨k, hk, rfl⟩
      · split
        · exact ⟨k, hk, rfl⟩
        · split
          · rw [z_s1, show (9 : Int32) = Int32.ofNat 9 from rfl, z_ilt (by omega) (by omega)]
            split
            · exact ⟨k + 1, by omega, rfl⟩
            · exact ⟨9, by omega, rfl⟩
          · exact ⟨k, hk, rfl⟩
    · rw [hi i 4 e (by omega)]; exact X.so i hi2
  · rw [w2]; exact X.li i hi2
  · rw [w1]; exact X.he i hi2
  · rw [bA_k (by omega) (by omega)]; exact X.ld q hq2
  · rw [bA_k (by omega) (by omega)] at h5 ⊢; exact X.z6 q hq2 h5
  · rw [bA_k (k := 9) (by omega) (by omega)] at h5
    rw [bA_k (k := 9) (by omega) (by omega), bA_k (k := 10) (by omega) (by omega), w1]; exact X.go q i hq2 hi2 h5
theorem ZX_B {nl np : Nat} {M : St} (X : ZX nl np M) {l : Nat} : ZX nl np (bB M l) := by
  have hi : ∀ i w, w < 8 → w ≠ 7 → w ≠ 5 → bB M l 8 (ix8 i w) = M 8 (ix8 i w) := fun i w hw h7 h5 => by rw [bB_8 hw]; simp [h7, h5]
  refine ⟨fun i hi2 h5 => ?_, fun i hi2 => ?_, fun i hi2 => ?_, fun i hi2 => ?_, fun q hq2 => ?_, fun q hq2 h5 => ?_, fun q i hq2 hi2 h5 => ?_⟩
  · rw [hi i 3 (by omega) (by omega) (by omega)]
    rw [bB_8 (by omega)] at h5
    by_cases e : i = l
    · subst e
      by_cases c : ycb M i = true
      · simp [c] at h5
      · simp [c] at h5; exact X.bo i hi2 h5
    · simp [e] at h5; exact X.bo i hi2 h5
  · rw [hi i 4 (by omega) (by omega) (by omega)]; exact X.so i hi2
  · rw [hi i 2 (by omega) (by omega) (by omega)]; exact X.li i hi2
  · rw [hi i 1 (by omega) (by omega) (by omega)]; exact X.he i hi2
  · rw [bB_k (by omega)]; exact X.ld q hq2
  · rw [bB_k (by omega)] at h5 ⊢; exact X.z6 q hq2 h5
  · rw [bB_k (k := 9) (by omega)] at h5
    rw [bB_k (k := 9) (by omega), bB_k (k := 10) (by omega), hi i 1 (by omega) (by omega) (by omega)]; exact X.go q i hq2 hi2 h5
def yjA (i : Nat) (S : St) (J : St → Option (Int32 × St)) (v42 : Int32) : Option (Int32 × St) :=
  lt_ (up2 S (rk 11 i) 3 (S (rk 11 i) 3 - v42)) fun S44 => lt_ (up2 S44 9 0 (S44 9 0 + v42)) fun S45 =>
        lt_ (fun S46 : St => if S46 (rk 11 i) 5 = 1 then (if S46 7 0 - S46 7 0 / 30 * 30 = 0 then (if 9 ≤ S46 (rk 11 i) 4 then J S46 else lt_ (up2 S46 (rk 11 i) 4 (S46 (rk 11 i) 4 + 1)) fun S47 => J S47) else J S46) else J S46) fun J263 =>
        if S45 (rk 11 i) 3 = 0 then lt_ (up2 S45 (rk 11 i) 5 0) fun S48 => J263 S48 else J263 S45
theorem y_stepA {nc ns nl np : Nat} {Y : Nat → Nat} {S M : St} (R : SR nc ns nl np Y S M) (B : ZB nc ns nl np M) (X : ZX nl np M) (V : SW nc S M) {i : Nat} (hi : i < nl) : ∃ S', (∀ K fu, f5_pass_L186 (Int32.ofNat nl) Y K (fu + 1) (Int32.ofNat i) S = f5_pass_L186 (Int32.ofNat nl) Y K fu (Int32.ofNat (i + 1)) S') ∧ SR nc ns nl np Y S' (bA M i) ∧ SW nc S' (bA M i) := by
  have l3 := B.l3
  have go : ∀ K fu, f5_pass_L186 (Int32.ofNat nl) Y K (fu + 1) (Int32.ofNat i) S =
      if S (rk 11 i) 5 = 0 then f5_pass_L186 (Int32.ofNat nl) Y K fu (Int32.ofNat (i + 1)) S else
      (if S (rk 11 i) 4 ≤ 4 then yjA i S (f5_pass_L186 (Int32.ofNat nl) Y K fu (Int32.ofNat (i + 1))) 1 else if S (rk 11 i) 3 ≤ 1 then yjA i S (f5_pass_L186 (Int32.ofNat nl) Y K fu (Int32.ofNat (i + 1))) 1 else yjA i S (f5_pass_L186 (Int32.ofNat nl) Y K fu (Int32.ofNat (i + 1))) 2) := by
    intro K fu
    rw [f5_pass_L186, if_neg (by rw [z_le (by omega) (by omega)]; omega), R.y3, z_xin (by omega) hi, gd_t, z_clamp (by omega), z_s1]
    rfl
  have r9 : rk 11 i ≠ 9 := fun e => rk_lo (g := 11) (i := i) (by omega) (by omega) e.symm
  have r7 : rk 11 i ≠ 7 := fun e => rk_lo (g := 11) (i := i) (by omega) (by omega) e.symm
  have hr : ∀ a, rk 14 a ≠ rk 11 i := fun a => rk_ne (by omega) (by omega) (by omega)
  have hr9 : ∀ a, rk 14 a ≠ 9 := fun a e => rk_lo (g := 14) (i := a) (by omega) (by omega) e.symm
  have e3 := R.la i 3 hi (by omega)
  have e4 := R.la i 4 hi (by omega)
  have e5 := R.la i 5 hi (by omega)
  by_cases b0 : M 8 (ix8 i 5) = 0
  · rw [bA_0 b0]
    refine ⟨S, fun K fu => ?_, R, V⟩
    rw [go, e5, if_pos b0]
  · have b1 : M 8 (ix8 i 5) = 1 := (B.lb i).resolve_left b0
    obtain ⟨o, ho, eo⟩ := B.lo i
    obtain ⟨k, hk, ek⟩ := X.so i hi
    have ho1 : 1 ≤ o := by
      have := X.bo i hi b1
      rw [eo, z_l0, Ne, z_inj (by omega) (by omega)] at this; omega
    have ea := y_aU ho1 ho eo hk ek
    obtain ⟨a, ha⟩ : ∃ a, a = (if 4 < k ∧ 1 < o then 2 else 1) := ⟨_, rfl⟩
    rw [← ha] at ea
    have hao : a ≤ o := by rw [ha]; split <;> omega
    have sel : ∀ J : Int32 → Option (Int32 × St), (if S (rk 11 i) 4 ≤ 4 then J 1 else if S (rk 11 i) 3 ≤ 1 then J 1 else J 2) = J (Int32.ofNat a) := by
      intro J
      rw [e4, e3, ek, eo, show (4 : Int32) = Int32.ofNat 4 from rfl, show (1 : Int32) = Int32.ofNat 1 from rfl, z_ile (by omega) (by omega), z_ile (by omega) (by omega), ha]
      by_cases q1 : k ≤ 4
      · rw [if_pos q1, if_neg (by omega)]
      · rw [if_neg q1]
        by_cases q2 : o ≤ 1
        · rw [if_pos q2, if_neg (by omega)]
        · rw [if_neg q2, if_pos (by omega)]; rfl
    have u3 : S (rk 11 i) 3 - Int32.ofNat a = Int32.ofNat (o - a) := by rw [e3, eo, z_sub hao]
    have hS45 : SR nc ns nl np Y (up2 (up2 S (rk 11 i) 3 (Int32.ofNat (o - a))) 9 0 (S 9 0 + Int32.ofNat a)) (up2 (up2 M 8 (ix8 i 3) (Int32.ofNat (o - a))) 12 2 (M 12 2 + Int32.ofNat a)) := by
      rw [R.us]; exact SR_n (SR_8 R (by omega)) (.inr (.inr ⟨rfl, rfl⟩))
    have hV45 : SW nc (up2 (up2 S (rk 11 i) 3 (Int32.ofNat (o - a))) 9 0 (S 9 0 + Int32.ofNat a)) (up2 (up2 M 8 (ix8 i 3) (Int32.ofNat (o - a))) 12 2 (M 12 2 + Int32.ofNat a)) :=
      SW_k (SW_k V (fun a _ => hr a) (by omega)) (fun a _ => hr9 a) (by omega)
    have hd : M 8 (ix8 i 3) - aU M i = Int32.ofNat (o - a) := by rw [eo, ea, z_sub hao]
    have hd0 : (M 8 (ix8 i 3) - aU M i = 0) = (o - a = 0) := by rw [hd, z_l0, z_inj (by omega) (by omega)]
    have go2 : ∀ K fu, f5_pass_L186 (Int32.ofNat nl) Y K (fu + 1) (Int32.ofNat i) S = (if o - a = 0 then f5_pass_L186 (Int32.ofNat nl) Y K fu (Int32.ofNat (i + 1)) (up2 (up2 (up2 S (rk 11 i) 3 (Int32.ofNat (o - a))) 9 0 (S 9 0 + Int32.ofNat a)) (rk 11 i) 5 0) else if M 12 0 - M 12 0 / 30 * 30 = 0 then (if 9 ≤ Int32.ofNat k then f5_pass_L186 (Int32.ofNat nl) Y K fu (Int32.ofNat (i + 1)) (up2 (up2 S (rk 11 i) 3 (Int32.ofNat (o - a))) 9 0 (S 9 0 + Int32.ofNat a)) else f5_pass_L186 (Int32.ofNat nl) Y K fu (Int32.ofNat (i + 1)) (up2 (up2 (up2 S (rk 11 i) 3 (Int32.ofNat (o - a))) 9 0 (S 9 0 + Int32.ofNat a)) (rk 11 i) 4 (Int32.ofNat k + 1))) else f5_pass_L186 (Int32.ofNat nl) Y K fu (Int32.ofNat (i + 1)) (up2 (up2 S (rk 11 i) 3 (Int32.ofNat (o - a))) 9 0 (S 9 0 + Int32.ofNat a))) := by
      intro K fu
      rw [go, e5, if_neg b0, sel]
      unfold yjA
      simp only [lt_e]
      rw [u3]
      have q3 : (up2 (up2 S (rk 11 i) 3 (Int32.ofNat (o - a))) 9 0 ((up2 S (rk 11 i) 3 (Int32.ofNat (o - a))) 9 0 + Int32.ofNat a)) = up2 (up2 S (rk 11 i) 3 (Int32.ofNat (o - a))) 9 0 (S 9 0 + Int32.ofNat a) := by rw [up2_n1 (k := rk 11 i) r9.symm]
      rw [q3]
      have c3 : up2 (up2 S (rk 11 i) 3 (Int32.ofNat (o - a))) 9 0 (S 9 0 + Int32.ofNat a) (rk 11 i) 3 = Int32.ofNat (o - a) := by rw [up2_n1 r9, up2_at]
      have c5 : up2 (up2 S (rk 11 i) 3 (Int32.ofNat (o - a))) 9 0 (S 9 0 + Int32.ofNat a) (rk 11 i) 5 = 1 := by rw [up2_n1 r9, up2_n2 (by omega), e5]; exact b1
      have c4 : up2 (up2 S (rk 11 i) 3 (Int32.ofNat (o - a))) 9 0 (S 9 0 + Int32.ofNat a) (rk 11 i) 4 = Int32.ofNat k := by rw [up2_n1 r9, up2_n2 (by omega), e4]; exact ek
      have c7 : up2 (up2 S (rk 11 i) 3 (Int32.ofNat (o - a))) 9 0 (S 9 0 + Int32.ofNat a) 7 0 = M 12 0 := by rw [up2_n1 (by omega), up2_n1 r7.symm]; exact R.mi
      rw [c3]
      by_cases z : o - a = 0
      · rw [if_pos z, if_pos (by rw [z]; rfl), up2_at, if_neg (by decide)]
      · rw [if_neg z, if_neg (by rw [z_l0, z_inj (by omega) (by omega)]; exact z), c5, if_pos rfl, c7, c4]
    by_cases z : o - a = 0
    · have zz : M 8 (ix8 i 3) - aU M i = 0 := by rw [hd0]; exact z
      rw [bA_1 b0 zz]
      refine ⟨_, fun K fu => by rw [go2, if_pos z], ?_, ?_⟩
      · have := SR_8 (l := i) (w := 5) (x := 0) hS45 (by omega)
        rw [z] at this ⊢
        rw [ea]; exact this
      · have := SW_k (i := 5) (v := ix8 i 5) (x := 0) (z := 0) hV45 (fun a _ => hr a) (by omega : (8 : Nat) ≠ 7)
        rw [z] at this ⊢
        rw [ea]; exact this
    · have zz : ¬ M 8 (ix8 i 3) - aU M i = 0 := by rw [hd0]; exact z
      by_cases t : M 12 0 - M 12 0 / 30 * 30 = 0
      · rw [bA_2 b0 zz t, hd, ea, ek, z_s1, show (9 : Int32) = Int32.ofNat 9 from rfl, z_ilt (by omega) (by omega)]
        by_cases n : 9 ≤ k
        · have k9 : k = 9 := by omega
          subst k9
          refine ⟨_, fun K fu => by rw [go2, if_neg z, if_pos t, if_pos (by decide)], ?_, ?_⟩
          · rw [if_neg (by omega), up2_same (x := Int32.ofNat 9) (by rw [up2_n1 (by omega), up2_n2 (i8 (by omega) (by omega) (by omega))]; exact ek)]; exact hS45
          · rw [if_neg (by omega), up2_same (x := Int32.ofNat 9) (by rw [up2_n1 (by omega), up2_n2 (i8 (by omega) (by omega) (by omega))]; exact ek)]; exact hV45
        · refine ⟨_, fun K fu => by rw [go2, if_neg z, if_pos t, if_neg (by rw [show (9 : Int32) = Int32.ofNat 9 from rfl, z_le (by omega) (by omega)]; exact n)], ?_, ?_⟩
          · rw [z_s1]
            by_cases q : k + 1 < 9
            · rw [if_pos q]; exact SR_8 hS45 (by omega)
            · rw [if_neg q, show k + 1 = 9 by omega]; exact SR_8 hS45 (by omega)
          · rw [z_s1]
            by_cases q : k + 1 < 9
            · rw [if_pos q]; exact SW_k hV45 (fun a _ => hr a) (by omega)
            · rw [if_neg q, show k + 1 = 9 by omega]; exact SW_k hV45 (fun a _ => hr a) (by omega)
      · rw [bA_3 b0 zz t, hd, ea]
        exact ⟨_, fun K fu => by rw [go2, if_neg z, if_neg t], hS45, hV45⟩
theorem y_loopA {nc ns nl np : Nat} {Y : Nat → Nat} : ∀ (n i fu : Nat) (S M : St), SR nc ns nl np Y S M → ZB nc ns nl np M → ZX nl np M → SW nc S M → i + n = nl → n < fu → ∃ S', (∀ K, f5_pass_L186 (Int32.ofNat nl) Y K fu (Int32.ofNat i) S = K S') ∧ SR nc ns nl np Y S' (goA M i n) ∧ SW nc S' (goA M i n) ∧ ZX nl np (goA M i n) ∧ ZB nc ns nl np (goA M i n) := by
  intro n
  induction n with
  | zero =>
    intro i fu S M R B X V h1 h2
    have l3 := B.l3
    cases fu with
    | zero => omega
    | succ fu => exact ⟨S, fun K => by rw [f5_pass_L186, if_pos (by rw [z_le (by omega) (by omega)]; omega)], R, V, X, B⟩
  | succ n ih =>
    intro i fu S M R B X V h1 h2
    cases fu with
    | zero => omega
    | succ fu =>
      obtain ⟨S1, a1, R1, V1⟩ := y_stepA R B X V (i := i) (by omega)
      obtain ⟨S2, b1, R2, V2, X2, B2⟩ := ih (i + 1) fu S1 (bA M i) R1 (ZB_A B (by omega)) (ZX_A B X (by omega)) V1 (by omega) (by omega)
      exact ⟨S2, fun K => by rw [a1, b1], R2, V2, X2, B2⟩
