section
variable {xs : Nat → Int32} {LX : Nat} {G F : St}
theorem y_b525 {vn k m q : Nat} (hL : LX ≤ 260) (hv1 : 1 ≤ vn) (hv : vn ≤ 12) (hm1 : 1 ≤ m) (hm : m ≤ 20) (hq : q ≤ 4) : ∀ n i fu (N T M : St) (Y : Nat → Nat) (S : St), i + n = q → n < fu → YJ vn k m i T N M Y S → ∃ N' T' M' Y' S', (∀ K, f6_build_L525 (Int32.ofNat vn) (Int32.ofNat m) (Int32.ofNat q) xs LX G F K fu (Int32.ofNat i) N T Y S = K N' T' Y' S') ∧ YJ vn k m q T' N' M' Y' S' := by
  intro n
  induction n with
  | zero =>
    intro i fu N T M Y S hi hf J
    obtain ⟨fu, rfl⟩ : ∃ k, fu = k + 1 := ⟨fu - 1, by omega⟩
    obtain rfl : i = q := by omega
    refine ⟨N, T, M, Y, S, fun K => ?_, J⟩
    rw [f6_build_L525, z_ile (by omega) (by omega), if_pos (by omega)]
  | succ n ih =>
    intro i fu N T M Y S hi hf J
    obtain ⟨fu, rfl⟩ : ∃ k, fu = k + 1 := ⟨fu - 1, by omega⟩
    obtain ⟨c12, h12⟩ := y_cell xs hL (show 12 < 1000000 by omega)
    obtain ⟨c13, h13⟩ := y_cell xs hL (show 13 < 1000000 by omega)
    obtain ⟨c14, h14⟩ := y_cell xs hL (show 14 < 1000000 by omega)
    have h12' : lcell xs LX 12 = some c12 := h12
    have h13' : lcell xs LX 13 = some c13 := h13
    have h14' : lcell xs LX 14 = some c14 := h14
    obtain ⟨a, ha, ea⟩ := y_below (c12 >>> (Int32.ofNat i &&& 31)) (n := vn) (by omega) (by omega)
    obtain ⟨d, hd, ed⟩ := y_below (c13 >>> ((2 * Int32.ofNat i) &&& 31)) (n := 9) (by omega) (by omega)
    have ed' : lbelow (c13 >>> ((2 * Int32.ofNat i) &&& 31)) 9 = some (Int32.ofNat d) := ed
    obtain ⟨r, hr, er⟩ := y_below (c14 >>> ((2 * Int32.ofNat i) &&& 31)) (n := 2) (by omega) (by omega)
    have er' : lbelow (c14 >>> ((2 * Int32.ofNat i) &&& 31)) 2 = some (Int32.ofNat r) := er
    have y4 := J.1.2.2.2.1.y4
    have y5 := J.1.2.2.2.1.y5
    have fin : ∀ o, o ≤ 999 → ∃ N' T' M' Y' S', (∀ K, (br3 (f2_hire G N F T (Int32.ofNat a) (Int32.ofNat (1 + d)) (Int32.ofNat o)) fun v213 N214 T215 =>
      if v213 = Int32.ofNat i then
        lt_ (upd ((fun _ => 0)) (0 : Int32).toNatClampNeg (Int32.ofNat a)) fun f220 =>
        lt_ (upd f220 (1 : Int32).toNatClampNeg (Int32.ofNat a)) fun f222 =>
        lt_ (upd f222 (2 : Int32).toNatClampNeg (Int32.ofNat (1 + d))) fun f224 =>
        lt_ (upd f224 (3 : Int32).toNatClampNeg (Int32.ofNat o)) fun f226 =>
        lt_ (upd f226 (4 : Int32).toNatClampNeg (-1)) fun f228 =>
        lt_ (upd f228 (5 : Int32).toNatClampNeg 0) fun f230 =>
        lt_ (upd f230 (6 : Int32).toNatClampNeg (-1)) fun f232 =>
        lt_ (upd f232 (7 : Int32).toNatClampNeg (-1)) fun f234 =>
        lt_ (upd f234 (8 : Int32).toNatClampNeg 0) fun f236 =>
        gd (decide (Y 4 < 32)) <|
        lt_ (upA Y 4 (Y 4 + 1)) fun Y237 =>
        lt_ (up1 S (rk 12 (Y 4)) f236) fun S238 =>
        gd (decide (Y237 5 < 32)) <|
        lt_ (upA (upA Y237 5 (Y237 5 + 1)) (rk 13 (Y237 5)) 0) fun Y242 =>
        lt_ (up1 S238 (rk 13 (Y237 5)) ((fun _ => 0))) fun S243 =>
        f6_build_L699 (Int32.ofNat m) (Int32.ofNat i) xs LX G N214 F (fun (T252 : St) (Y253 : (Nat → Nat)) (S254 : St) =>
          f6_build_L525 (Int32.ofNat vn) (Int32.ofNat m) (Int32.ofNat q) xs LX G F K fu (Int32.ofNat (i + 1)) N214 T252 Y253 S254) xF32 0 T215 Y242 S243
      else none) = K N' T' Y' S') ∧ YJ vn k m q T' N' M' Y' S' := by
      intro o ho
      obtain ⟨N1, T1, M1, a1, a2, B1⟩ := y_hireC (YJ_B J) G F ha (show 1 ≤ 1 + d by omega) (show 1 + d ≤ 9 by omega) ho (show i < 4 by omega)
      have J1 : YJ vn k m (i + 1) T1 N1 M1 _ _ := YB_J B1 (fun x b hx hb => by
        rw [a2, up1_ne (rk_ne (by omega) (by omega) (by omega)), up1_ne (rk_ne (by omega) (by omega) (by omega))]
        exact J.1.2.2.2.2 x b hx hb)
      obtain ⟨T2, M2, Y2, S2, b1, J2⟩ := y_b699 (xs := xs) (G := G) (F := F) hL hm1 hm (show i < i + 1 by omega) 9 0 xF32 T1 M1 _ _ (by omega) (by unfold xF32; omega) J1
      obtain ⟨N', T', M', Y', S', c1, J'⟩ := ih (i + 1) fu N1 T2 M2 Y2 S2 (by omega) (by omega) J2
      refine ⟨N', T', M', Y', S', fun K => ?_, J'⟩
      rw [a1, show ∀ k : Int32 → St → St → Option (St × St × (Nat → Nat) × St), br3 (some (.inr (Int32.ofNat i, N1, T1))) k = k (Int32.ofNat i) N1 T1 from fun _ => rfl, if_pos rfl, lt_e, lt_e, lt_e, lt_e, lt_e, lt_e, lt_e, lt_e, lt_e, y4, show decide (i < 32) = true by rw [decide_eq_true_iff]; omega, gd_t, lt_e, lt_e, show (upA Y 4 (i + 1)) 5 = i from (upA_ne (by omega)).trans y5, show decide (i < 32) = true by rw [decide_eq_true_iff]; omega, gd_t, lt_e, lt_e]
      exact (b1 _).trans (c1 K)
    have e1d : (1 : Int32) + Int32.ofNat d = Int32.ofNat (1 + d) := z_add
    by_cases r0 : r = 0
    · obtain ⟨o, ho, eo⟩ := y_below (c14 >>> (Int32.ofNat i &&& 31)) (n := 1000) (by omega) (by omega)
      have eo' : lbelow (c14 >>> (Int32.ofNat i &&& 31)) 1000 = some (Int32.ofNat o) := eo
      obtain ⟨N', T', M', Y', S', b1, J'⟩ := fin o (by omega)
      refine ⟨N', T', M', Y', S', fun K => ?_, J'⟩
      rw [f6_build_L525, z_ile (by omega) (by omega), if_neg (by omega), h12', bd_e, ea, bd_e, h13', bd_e, ed', bd_e, lt_e, h14', bd_e, bd_e, er', bd_e, lt_e, if_pos (by rw [r0]; rfl)]
      dsimp only
      rw [eo', bd_e, e1d, z_s1]
      exact b1 K
    · obtain ⟨o, ho, eo⟩ := y_below (c14 >>> (Int32.ofNat i &&& 31)) (n := 60) (by omega) (by omega)
      have eo' : lbelow (c14 >>> (Int32.ofNat i &&& 31)) 60 = some (Int32.ofNat o) := eo
      obtain ⟨N', T', M', Y', S', b1, J'⟩ := fin o (by omega)
      refine ⟨N', T', M', Y', S', fun K => ?_, J'⟩
      rw [f6_build_L525, z_ile (by omega) (by omega), if_neg (by omega), h12', bd_e, ea, bd_e, h13', bd_e, ed', bd_e, lt_e, h14', bd_e, bd_e, er', bd_e, lt_e, if_neg (by rw [z_l0, z_inj (by omega) (by omega)]; exact r0)]
      dsimp only
      rw [eo', bd_e, e1d, z_s1]
      exact b1 K
theorem YB_0 : YB 0 0 0 0 S0 S0 S0 Y0 S0 := by
  obtain ⟨E, B, W⟩ := ZR_g (nc := 0) (ns := 0) (nl := 0) (np := 0) z_init rfl rfl rfl rfl (by omega) (by omega) (by omega) (by omega)
  refine ⟨E, B, ?_, ?_, W⟩
  · exact ⟨fun l hl => by omega, fun l hl => by omega, fun l hl => by omega, fun l hl => by omega, fun l hl => by omega, fun l hl => by omega, fun p l hp => by omega⟩
  · exact SR.mk ⟨rfl, rfl, rfl, rfl, rfl⟩ (fun c hc => by omega) (fun s w hs => by omega) (fun s w hs => by omega) (fun s w hs => by omega) (fun s hs => by omega) (fun s w hs => by omega) (fun _ _ => rfl) ⟨rfl, rfl, rfl⟩
theorem y_build (hL : LX ≤ 260) : ∃ N' T' Y' S' M' nc ns nl np, f6_build S0 S0 S0 S0 Y0 S0 xs LX = some (N', T', Y', S') ∧ YJ nc ns nl np T' N' M' Y' S' ∧ 1 ≤ nl := by
  obtain ⟨c0, h0⟩ := y_cell xs hL (show 0 < 1000000 by omega)
  obtain ⟨c2, h2⟩ := y_cell xs hL (show 2 < 1000000 by omega)
  obtain ⟨c6, h6⟩ := y_cell xs hL (show 6 < 1000000 by omega)
  obtain ⟨c11, h11⟩ := y_cell xs hL (show 11 < 1000000 by omega)
  have h0' : lcell xs LX 0 = some c0 := h0
  have h2' : lcell xs LX 2 = some c2 := h2
  have h6' : lcell xs LX 6 = some c6 := h6
  have h11' : lcell xs LX 11 = some c11 := h11
  obtain ⟨v, hv, ev⟩ := y_below c0 (n := 10) (by omega) (by omega)
  have ev' : lbelow c0 10 = some (Int32.ofNat v) := ev
  obtain ⟨k, hk, ek⟩ := y_below c2 (n := 18) (by omega) (by omega)
  have ek' : lbelow c2 18 = some (Int32.ofNat k) := ek
  obtain ⟨m, hm, em⟩ := y_below c6 (n := 20) (by omega) (by omega)
  have em' : lbelow c6 20 = some (Int32.ofNat m) := em
  obtain ⟨q, hq, eq⟩ := y_below c11 (n := 5) (by omega) (by omega)
  have eq' : lbelow c11 5 = some (Int32.ofNat q) := eq
  obtain ⟨T1, M1, Y1, S1, a1, J1, s1⟩ := y_b24 (xs := xs) (G := S0) (F := S0) (N := S0) hL (show 2 + v ≤ 12 by omega) (2 + v) 0 xF32 S0 S0 Y0 S0 (by omega) (by unfold xF32; omega) YB_0
  obtain ⟨T2, M2, Y2, S2, b1, J2, s2⟩ := y_b96 (xs := xs) (G := S0) (F := S0) (N := S0) hL (show 2 ≤ 2 + v by omega) (show 2 + v ≤ 12 by omega) (show 1 + k ≤ 18 by omega) (1 + k) 0 xF32 T1 M1 Y1 S1 (by omega) (by unfold xF32; omega) J1
  obtain ⟨S3, c1, K3, J3⟩ := y_meas J2
  obtain ⟨T4, M4, Y4, S4, d1, J4, s4⟩ := y_b276 (xs := xs) (G := S0) (F := S0) (N := S0) hL (show 1 ≤ 1 + k by omega) (show 1 + k ≤ 18 by omega) (show 1 + m ≤ 20 by omega) (1 + m) 0 xF32 T2 M2 Y2 S3 (by omega) (by unfold xF32; omega) J3
  have z6 : S4 6 = S0 6 := by rw [s4, K3 6 (fun a => rk_lo (by omega) (by omega)), s2, s1]
  obtain ⟨T5, M5, S5, e1, J5⟩ := y_b456 (xs := xs) (G := S0) (F := S0) (N := S0) hL 10 0 xF T4 M4 S4 (by omega) (by unfold xF; omega) (fun j _ => by rw [z6]; rfl) J4
  obtain ⟨N6, T6, M6, Y6, S6, g1, J6⟩ := y_b525 (xs := xs) (G := S0) (F := S0) hL (show 1 ≤ 2 + v by omega) (show 2 + v ≤ 12 by omega) (show 1 ≤ 1 + m by omega) (show 1 + m ≤ 20 by omega) (show q ≤ 4 by omega) q 0 xF32 S0 T5 M5 Y4 S5 (by omega) (by unfold xF32; omega) J5
  refine ⟨N6, T6, Y6, S6, M6, _, _, _, _, ?_, J6, by omega⟩
  unfold f6_build
  rw [h0', bd_e, ev', bd_e, lt_e, show (2 : Int32) + Int32.ofNat v = Int32.ofNat (2 + v) from z_add]
  refine (a1 _).trans ?_
  rw [h2', bd_e, ek', bd_e, lt_e, show (1 : Int32) + Int32.ofNat k = Int32.ofNat (1 + k) from z_add]
  refine (b1 _).trans ?_
  rw [c1, bd_e, h6', bd_e, em', bd_e, lt_e, show (1 : Int32) + Int32.ofNat m = Int32.ofNat (1 + m) from z_add]
  refine (d1 _).trans ?_
  refine (e1 _).trans ?_
  rw [h11', bd_e, eq', bd_e]
  exact g1 _
/-- all that law_entry asks -/
theorem y_all (hL : LX ≤ 260) : ∃ N1 T1 S1 N2 F2 T2 S2 Y1 Y2 v, f6_build S0 S0 S0 S0 Y0 S0 xs LX = some (N1, T1, Y1, S1) ∧ f6_law S0 N1 S0 T1 Y1 S1 xs LX = some (N2, F2, T2, Y2, S2) ∧ f6_same S0 N2 F2 T2 Y2 S2 = some () ∧ ¬ Int32.ofNat (Y2 3) = 0 ∧ f2_mean S0 N2 F2 T2 = some (some (v, Int32.ofNat (Y2 3))) ∧ f5_sum Y2 S2 3 = some v := by
  obtain ⟨N1, T1, Y1, S1, M1, nc, ns, nl, np, a1, J, hn⟩ := y_build (xs := xs) hL
  obtain ⟨N2, F2, T2, Y2, S2, v, b1, b2, b3, b4, b5⟩ := y_rest (xs := xs) hL hn J
  exact ⟨N1, T1, S1, N2, F2, T2, S2, Y1, Y2, v, a1, b1, b2, b3, b4, b5⟩
end
