/-! THE TOWN, BUILT -/
def y159 (v7 v37 : Int32) (xs : Nat → Int32) (LX : Nat) (G N F : St) (K : St → (Nat → Nat) → St → Option (St × St × (Nat → Nat) × St)) (fu : Nat) (v39 : Int32) (T40 : St) (Y41 : Nat → Nat) (S42 : St) (v50 v51 : Int32) : Option (St × St × (Nat → Nat) × St) :=
    (
      bd (lbelow (v50 >>> (2 &&& 31)) (if (v7 - 1) < (3 : Int32) then (v7 - 1) else (3 : Int32))) fun v52 =>
      gd (decide (¬ v7 = 0)) <|
      lt_ (((v51 + 1) + v52) - ((v51 + 1) + v52) / v7 * v7) fun v56 =>
      bd (lbelow (v50 >>> (4 &&& 31)) 9) fun v57 =>
      br2 (f2_street G N F T40 v51 v56 (1 + v57)) fun v60 T61 =>
      if v60 = v39 then
      (
        lt_ (upd ((fun _ => 0)) (0 : Int32).toNatClampNeg v51) fun f66 =>
        lt_ (upd f66 (1 : Int32).toNatClampNeg v56) fun f68 =>
        bd (lbelow (v50 >>> (4 &&& 31)) 9) fun v69 =>
        lt_ (upd f68 (2 : Int32).toNatClampNeg (1 + v69)) fun f73 =>
        gd (decide (Y41 2 < 32)) <|
        lt_ (upA Y41 2 (Y41 2 + 1)) fun Y74 =>
        lt_ (up1 S42 (rk 10 (Y41 2)) f73) fun S75 =>
        f6_build_L96 v7 v37 xs LX G N F K fu (v39 + 1) T61 Y74 S75
      )
      else
      (
        none
      )
    )
section
variable {xs : Nat → Int32} {LX : Nat} {G F N : St}
theorem y_b24 {vn : Nat} (hL : LX ≤ 260) (hv : vn ≤ 12) : ∀ n i fu (T M : St) (Y : Nat → Nat) (S : St), i + n = vn → n < fu → YB i 0 0 0 T N M Y S → ∃ T' M' Y' S', (∀ K, f6_build_L24 (Int32.ofNat vn) xs LX G N F K fu (Int32.ofNat i) T Y S = K T' Y' S') ∧ YB vn 0 0 0 T' N M' Y' S' ∧ S' 6 = S 6 := by
  intro n
  induction n with
  | zero =>
    intro i fu T M Y S hi hf J
    obtain ⟨fu, rfl⟩ : ∃ k, fu = k + 1 := ⟨fu - 1, by omega⟩
    obtain rfl : i = vn := by omega
    refine ⟨T, M, Y, S, fun K => ?_, J, rfl⟩
    rw [f6_build_L24, z_ile (by omega) (by omega), if_pos (by omega)]
  | succ n ih =>
    intro i fu T M Y S hi hf J
    obtain ⟨fu, rfl⟩ : ∃ k, fu = k + 1 := ⟨fu - 1, by omega⟩
    obtain ⟨c, hc⟩ := y_cell xs hL (show 1 < 1000000 by omega)
    have hc' : lcell xs LX 1 = some c := hc
    obtain ⟨h, hh, eh⟩ := y_below (c >>> ((2 * Int32.ofNat i) &&& 31)) (n := 31) (by omega) (by omega)
    have eh' : lbelow (c >>> ((2 * Int32.ofNat i) &&& 31)) 31 = some (Int32.ofNat h) := eh
    obtain ⟨T1, M1, a1, J1⟩ := y_corn J G F (show h ≤ 30 by omega) (show i < 12 by omega)
    obtain ⟨T', M', Y', S', b1, J', b2⟩ := ih (i + 1) fu T1 M1 _ _ (by omega) (by omega) J1
    refine ⟨T', M', Y', S', fun K => ?_, J', b2.trans (up1_ne (by omega))⟩
    have y1 := J.2.2.2.1.y1
    rw [f6_build_L24, z_ile (by omega) (by omega), if_neg (by omega), hc', bd_e, eh', bd_e, a1, br2_e, if_pos rfl, y1, show decide (i < 32) = true by rw [decide_eq_true_iff]; omega, gd_t, lt_e, lt_e, z_s1]
    exact b1 K
theorem y_b159 {vn k i a : Nat} {T M : St} {Y : Nat → Nat} {S : St} (hv2 : 2 ≤ vn) (hv : vn ≤ 12) (hk : k ≤ 18) (hi : i < k) (ha : a < vn) (J : YB vn i 0 0 T N M Y S) (v50 : Int32) (fu : Nat) : ∃ T' M' Y' S', (∀ K, y159 (Int32.ofNat vn) (Int32.ofNat k) xs LX G N F K fu (Int32.ofNat i) T Y S v50 (Int32.ofNat a) = f6_build_L96 (Int32.ofNat vn) (Int32.ofNat k) xs LX G N F K fu (Int32.ofNat (i + 1)) T' Y' S') ∧ YB vn (i + 1) 0 0 T' N M' Y' S' ∧ S' 6 = S 6 := by
  obtain ⟨b, hb, eb⟩ := y_below (v50 >>> (2 &&& 31)) (n := min (vn - 1) 3) (by omega) (by omega)
  have em : (if (Int32.ofNat vn - 1) < (3 : Int32) then (Int32.ofNat vn - 1) else (3 : Int32)) = Int32.ofNat (min (vn - 1) 3) := by
    rw [z_l1, z_sub (by omega), show (3 : Int32) = Int32.ofNat 3 from rfl, z_ilt (by omega) (by omega)]
    split <;> congr 1 <;> omega
  obtain ⟨l, hl, el⟩ := y_below (v50 >>> (4 &&& 31)) (n := 9) (by omega) (by omega)
  have el' : lbelow (v50 >>> (4 &&& 31)) 9 = some (Int32.ofNat l) := el
  have hmod : (a + 1 + b) % vn < vn := Nat.mod_lt _ (by omega)
  have hne : a ≠ (a + 1 + b) % vn := by
    by_cases h : a + 1 + b < vn
    · rw [Nat.mod_eq_of_lt h]; omega
    · have : (a + 1 + b) % vn = a + 1 + b - vn := by
        rw [Nat.mod_eq_sub_mod (by omega), Nat.mod_eq_of_lt (by omega)]
      omega
  have y2 := J.2.2.2.1.y2
  obtain ⟨T', M', a1, J'⟩ := y_stre J G F ha hmod hne (show 1 ≤ 1 + l by omega) (show 1 + l ≤ 9 by omega) (show i < 18 by omega)
  refine ⟨T', M', _, _, fun K => ?_, J', up1_ne (rk_lo (by omega) (by omega))⟩
  unfold y159
  rw [em, eb, bd_e, show decide (¬ Int32.ofNat vn = 0) = true by rw [decide_eq_true_iff, z_l0, z_inj (by omega) (by omega)]; omega, gd_t, lt_e, z_s1, z_add, z_mod (by omega) (by omega), el', bd_e, show (1 : Int32) + Int32.ofNat l = Int32.ofNat (1 + l) from z_add, a1, br2_e, if_pos rfl, lt_e, lt_e, bd_e, lt_e, y2, show decide (i < 32) = true by rw [decide_eq_true_iff]; omega, gd_t, lt_e, lt_e, z_s1, show (1 : Int32) + Int32.ofNat l = Int32.ofNat (1 + l) from z_add]
  rfl
theorem y_b96 {vn k : Nat} (hL : LX ≤ 260) (hv2 : 2 ≤ vn) (hv : vn ≤ 12) (hk : k ≤ 18) : ∀ n i fu (T M : St) (Y : Nat → Nat) (S : St), i + n = k → n < fu → YB vn i 0 0 T N M Y S → ∃ T' M' Y' S', (∀ K, f6_build_L96 (Int32.ofNat vn) (Int32.ofNat k) xs LX G N F K fu (Int32.ofNat i) T Y S = K T' Y' S') ∧ YB vn k 0 0 T' N M' Y' S' ∧ S' 6 = S 6 := by
  intro n
  induction n with
  | zero =>
    intro i fu T M Y S hi hf J
    obtain ⟨fu, rfl⟩ : ∃ k, fu = k + 1 := ⟨fu - 1, by omega⟩
    obtain rfl : i = k := by omega
    refine ⟨T, M, Y, S, fun K => ?_, J, rfl⟩
    rw [f6_build_L96, z_ile (by omega) (by omega), if_pos (by omega)]
  | succ n ih =>
    intro i fu T M Y S hi hf J
    obtain ⟨fu, rfl⟩ : ∃ k, fu = k + 1 := ⟨fu - 1, by omega⟩
    obtain ⟨c, hc⟩ := y_cell xs hL (show 3 + i % 3 < 1000000 by omega)
    have hc' : lcell xs LX (3 + (Int32.ofNat i - Int32.ofNat i / 3 * 3)) = some c := by
      rw [show (3 : Int32) = Int32.ofNat 3 from rfl, z_mod (by omega) (by omega), z_add]; exact hc
    obtain ⟨w, hw⟩ : ∃ w, w = (c >>> (((Int32.ofNat i / 3) * 3) &&& 31)) + (13 * Int32.ofNat i) := ⟨_, rfl⟩
    have fin : ∀ a, a < vn → ∃ T' M' Y' S', (∀ K, y159 (Int32.ofNat vn) (Int32.ofNat k) xs LX G N F K fu (Int32.ofNat i) T Y S w (Int32.ofNat a) = K T' Y' S') ∧ YB vn k 0 0 T' N M' Y' S' ∧ S' 6 = S 6 := by
      intro a ha
      obtain ⟨T1, M1, Y1, S1, a1, J1, a2⟩ := y_b159 (xs := xs) (LX := LX) (G := G) (F := F) hv2 hv hk (show i < k by omega) ha J w fu
      obtain ⟨T', M', Y', S', b1, J', b2⟩ := ih (i + 1) fu T1 M1 Y1 S1 (by omega) (by omega) J1
      exact ⟨T', M', Y', S', fun K => (a1 K).trans (b1 K), J', b2.trans a2⟩
    obtain ⟨q, hq, eq⟩ := y_below w (n := vn) (by omega) (by omega)
    by_cases h1 : (Int32.ofNat vn - 1) ≤ Int32.ofNat i
    · obtain ⟨T', M', Y', S', b1, J', b2⟩ := fin q hq
      refine ⟨T', M', Y', S', fun K => ?_, J', b2⟩
      rw [f6_build_L96, z_ile (by omega) (by omega), if_neg (by omega), hc', bd_e, lt_e, ← hw, lt_e, lt_e, if_pos h1]
      dsimp only
      rw [eq, bd_e]
      exact b1 K
    · have hlt : i < vn := by
        rw [z_l1, z_sub (by omega), z_le (by omega) (by omega)] at h1; omega
      obtain ⟨r, hr, er⟩ := y_below (w >>> (6 &&& 31)) (n := 5) (by omega) (by omega)
      have er' : lbelow (w >>> (6 &&& 31)) 5 = some (Int32.ofNat r) := er
      by_cases h2 : Int32.ofNat r ≤ 0
      · obtain ⟨T', M', Y', S', b1, J', b2⟩ := fin q hq
        refine ⟨T', M', Y', S', fun K => ?_, J', b2⟩
        rw [f6_build_L96, z_ile (by omega) (by omega), if_neg (by omega), hc', bd_e, lt_e, ← hw, lt_e, lt_e, if_neg h1, er', bd_e, if_pos h2]
        dsimp only
        rw [eq, bd_e]
        exact b1 K
      · obtain ⟨T', M', Y', S', b1, J', b2⟩ := fin i hlt
        refine ⟨T', M', Y', S', fun K => ?_, J', b2⟩
        rw [f6_build_L96, z_ile (by omega) (by omega), if_neg (by omega), hc', bd_e, lt_e, ← hw, lt_e, lt_e, if_neg h1, er', bd_e, if_neg h2]
        exact b1 K
theorem YJ_B {nc ns nl np : Nat} {T M : St} {Y : Nat → Nat} {S : St} (J : YJ nc ns nl np T N M Y S) : YB nc ns nl np T N M Y S := ⟨J.1.1, J.1.2.1, J.1.2.2.1, J.1.2.2.2.1, J.2⟩
theorem YB_J {nc ns nl np : Nat} {T M : St} {Y : Nat → Nat} {S : St} (J : YB nc ns nl np T N M Y S) (V : SW nc S M) : YJ nc ns nl np T N M Y S := ⟨⟨J.1, J.2.1, J.2.2.1, J.2.2.2.1, V⟩, J.2.2.2.2⟩
theorem y_b276 {vn k m : Nat} (hL : LX ≤ 260) (hk1 : 1 ≤ k) (hk : k ≤ 18) (hm : m ≤ 20) : ∀ n i fu (T M : St) (Y : Nat → Nat) (S : St), i + n = m → n < fu → YJ vn k i 0 T N M Y S → ∃ T' M' Y' S', (∀ K, f6_build_L276 (Int32.ofNat k) (Int32.ofNat m) xs LX G N F K fu (Int32.ofNat i) T Y S = K T' Y' S') ∧ YJ vn k m 0 T' N M' Y' S' ∧ S' 6 = S 6 := by
  intro n
  induction n with
  | zero =>
    intro i fu T M Y S hi hf J
    obtain ⟨fu, rfl⟩ : ∃ k, fu = k + 1 := ⟨fu - 1, by omega⟩
    obtain rfl : i = m := by omega
    refine ⟨T, M, Y, S, fun K => ?_, J, rfl⟩
    rw [f6_build_L276, z_ile (by omega) (by omega), if_pos (by omega)]
  | succ n ih =>
    intro i fu T M Y S hi hf J
    obtain ⟨fu, rfl⟩ : ∃ k, fu = k + 1 := ⟨fu - 1, by omega⟩
    obtain ⟨c, hc⟩ := y_cell xs hL (show 7 + i % 3 < 1000000 by omega)
    have hc' : lcell xs LX (7 + (Int32.ofNat i - Int32.ofNat i / 3 * 3)) = some c := by
      rw [show (3 : Int32) = Int32.ofNat 3 from rfl, z_mod (by omega) (by omega), show (7 : Int32) = Int32.ofNat 7 from rfl, z_add]; exact hc
    obtain ⟨w, hw⟩ : ∃ w, w = (c >>> ((Int32.ofNat i / 3) &&& 31)) + (7 * Int32.ofNat i) := ⟨_, rfl⟩
    obtain ⟨s, hs, es⟩ := y_below w (n := k) (by omega) (by omega)
    obtain ⟨h, hh, eh⟩ := y_below (w >>> (3 &&& 31)) (n := 8) (by omega) (by omega)
    have eh' : lbelow (w >>> (3 &&& 31)) 8 = some (Int32.ofNat h) := eh
    obtain ⟨r, hr, er⟩ := y_below (w >>> (5 &&& 31)) (n := 2) (by omega) (by omega)
    have er' : lbelow (w >>> (5 &&& 31)) 2 = some (Int32.ofNat r) := er
    obtain ⟨T1, M1, a1, a2, a3, B1⟩ := y_lampC (YJ_B J) G F hs (show 2 ≤ 2 + h by omega) (show 2 + h ≤ 9 by omega) (show i < 20 by omega)
    have J1 : YJ vn k (i + 1) 0 T1 N M1 (upA Y 3 (i + 1)) (up1 S (rk 11 i) (fL (Int32.ofNat s) (Int32.ofNat (2 + h)))) := YB_J B1 (fun a b ha hb => by
      rw [a2, show up1 S (rk 11 i) (fL (Int32.ofNat s) (Int32.ofNat (2 + h))) (rk 14 a) = S (rk 14 a) from up1_ne (rk_ne (by omega) (by omega) (by omega))]
      exact J.1.2.2.2.2 a b ha hb)
    have y3 := J.1.2.2.2.1.y3
    have y3' := J1.1.2.2.2.1.y3
    have s6 : up1 S (rk 11 i) (fL (Int32.ofNat s) (Int32.ofNat (2 + h))) 6 = S 6 := up1_ne (rk_lo (by omega) (by omega))
    have base : ∀ K, f6_build_L276 (Int32.ofNat k) (Int32.ofNat m) xs LX G N F K (fu + 1) (Int32.ofNat i) T Y S = if Int32.ofNat r = 0 then f6_build_L276 (Int32.ofNat k) (Int32.ofNat m) xs LX G N F K fu (Int32.ofNat (i + 1)) T1 (upA Y 3 (i + 1)) (up1 S (rk 11 i) (fL (Int32.ofNat s) (Int32.ofNat (2 + h)))) else bd (lbelow (w >>> (2 &&& 31)) 10) fun v144 => lt_ (up2 (up1 S (rk 11 i) (fL (Int32.ofNat s) (Int32.ofNat (2 + h)))) (rk 11 i) 2 v144) fun S148 => br2 (f2_lid G N F T1 (Int32.ofNat i) (S148 (rk 11 i) 2)) fun v149 T150 => if v149 = 0 then f6_build_L276 (Int32.ofNat k) (Int32.ofNat m) xs LX G N F K fu (Int32.ofNat (i + 1)) T150 (upA Y 3 (i + 1)) S148 else none := by
      intro K
      rw [f6_build_L276, z_ile (by omega) (by omega), if_neg (by omega), hc', bd_e, lt_e, ← hw, es, bd_e, eh', bd_e, lt_e, show (2 : Int32) + Int32.ofNat h = Int32.ofNat (2 + h) from z_add, a1, br2_e, if_pos rfl, lt_e, lt_e, lt_e, lt_e, lt_e, lt_e, lt_e, lt_e, y3, show decide (i < 32) = true by rw [decide_eq_true_iff]; omega, gd_t, lt_e, lt_e, er', bd_e, lt_e, y3', z_xin (n := i) (by omega) (by omega), gd_t, z_clamp (n := i) (by omega), kc2, z_s1]
      rfl
    by_cases r0 : r = 0
    · obtain ⟨T', M', Y', S', b1, J', b2⟩ := ih (i + 1) fu T1 M1 _ _ (by omega) (by omega) J1
      refine ⟨T', M', Y', S', fun K => ?_, J', b2.trans s6⟩
      rw [base, if_pos (by rw [r0]; rfl)]
      exact b1 K
    · obtain ⟨d, hd, ed⟩ := y_below (w >>> (2 &&& 31)) (n := 10) (by omega) (by omega)
      have ed' : lbelow (w >>> (2 &&& 31)) 10 = some (Int32.ofNat d) := ed
      obtain ⟨T2, M2, c1, J2⟩ := y_lid J1 G F (show i < i + 1 by omega) (show d ≤ 9 by omega)
      obtain ⟨T', M', Y', S', b1, J', b2⟩ := ih (i + 1) fu T2 M2 _ _ (by omega) (by omega) J2
      refine ⟨T', M', Y', S', fun K => ?_, J', b2.trans ((up1_ne (rk_lo (by omega) (by omega))).trans s6)⟩
      rw [base, if_neg (by rw [z_l0, z_inj (by omega) (by omega)]; exact r0), ed', bd_e, lt_e, up2_at, c1, br2_e, if_pos a3]
      exact b1 K
theorem y_b456 {vn k m : Nat} (hL : LX ≤ 260) {Y : Nat → Nat} : ∀ n i fu (T M : St) (S : St), i + n = 10 → n < fu → (∀ j, i ≤ j → S 6 j = 0) → YJ vn k m 0 T N M Y S → ∃ T' M' S', (∀ K, f6_build_L456 xs LX G N F K fu (Int32.ofNat i) T S = K T' S') ∧ YJ vn k m 0 T' N M' Y S' := by
  intro n
  induction n with
  | zero =>
    intro i fu T M S hi hf h6 J
    obtain ⟨fu, rfl⟩ : ∃ k, fu = k + 1 := ⟨fu - 1, by omega⟩
    refine ⟨T, M, S, fun K => ?_, J⟩
    rw [f6_build_L456, show (10 : Int32) = Int32.ofNat 10 from rfl, z_ile (by omega) (by omega), if_pos (by omega)]
  | succ n ih =>
    intro i fu T M S hi hf h6 J
    obtain ⟨fu, rfl⟩ : ∃ k, fu = k + 1 := ⟨fu - 1, by omega⟩
    obtain ⟨c, hc⟩ := y_cell xs hL (show 10 < 1000000 by omega)
    obtain ⟨d, hd, ed⟩ := y_below (c >>> ((2 * Int32.ofNat i) &&& 31)) (n := 10) (by omega) (by omega)
    obtain ⟨T1, M1, a1, J1⟩ := y_wind J G F (show i < 10 by omega) (show d ≤ 9 by omega)
    obtain ⟨T', M', S', b1, J'⟩ := ih (i + 1) fu T1 M1 _ (by omega) (by omega) (fun j hj => by rw [up2_n2 (by omega)]; exact h6 j (by omega)) J1
    refine ⟨T', M', S', fun K => ?_, J'⟩
    have m0 : M 11 i = 0 := by rw [← J.1.2.2.2.1.wd i (by omega)]; exact h6 i (Nat.le_refl _)
    rw [f6_build_L456, show (10 : Int32) = Int32.ofNat 10 from rfl, z_ile (by omega) (by omega), if_neg (by omega), hc, bd_e, ed, bd_e, z_xin (n := i) (by omega) (by omega), gd_t, lt_e, z_clamp (n := i) (by omega), up2_at, a1, br2_e, if_pos m0, z_s1]
    exact b1 K
theorem y_b699 {vn k m q p : Nat} (hL : LX ≤ 260) (hm1 : 1 ≤ m) (hm : m ≤ 20) (hp : p < q) : ∀ n i fu (T M : St) (Y : Nat → Nat) (S : St), i + n = 9 → n < fu → YJ vn k m q T N M Y S → ∃ T' M' Y' S', (∀ K, f6_build_L699 (Int32.ofNat m) (Int32.ofNat p) xs LX G N F K fu (Int32.ofNat i) T Y S = K T' Y' S') ∧ YJ vn k m q T' N M' Y' S' := by
  intro n
  induction n with
  | zero =>
    intro i fu T M Y S hi hf J
    obtain ⟨fu, rfl⟩ : ∃ k, fu = k + 1 := ⟨fu - 1, by omega⟩
    refine ⟨T, M, Y, S, fun K => ?_, J⟩
    rw [f6_build_L699, show (9 : Int32) = Int32.ofNat 9 from rfl, z_ile (by omega) (by omega), if_pos (by omega)]
  | succ n ih =>
    intro i fu T M Y S hi hf J
    obtain ⟨fu, rfl⟩ : ∃ k, fu = k + 1 := ⟨fu - 1, by omega⟩
    obtain ⟨c, hc⟩ := y_cell xs hL (show 15 < 1000000 by omega)
    have hc' : lcell xs LX 15 = some c := hc
    obtain ⟨l, hl, el⟩ := y_below (((c >>> (Int32.ofNat i &&& 31)) + (5 * Int32.ofNat i)) + (11 * Int32.ofNat p)) (n := m) (by omega) (by omega)
    obtain ⟨T1, Y1, S1, M1, a1, J1⟩ := y_adds J G F hp hl
    obtain ⟨T', M', Y', S', b1, J'⟩ := ih (i + 1) fu T1 M1 Y1 S1 (by omega) (by omega) J1
    refine ⟨T', M', Y', S', fun K => ?_, J'⟩
    rw [f6_build_L699, show (9 : Int32) = Int32.ofNat 9 from rfl, z_ile (by omega) (by omega), if_neg (by omega), hc', bd_e, el, bd_e, a1, bd4_e, if_neg (by decide), z_s1]
    exact b1 K
end
