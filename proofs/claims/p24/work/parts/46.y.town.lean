/-! THE BUILDING CALLS, answered as the law asks -/
def YB (nc ns nl np : Nat) (T N M : St) (Y : Nat → Nat) (S : St) : Prop := ZE nc nl T N M ∧ ZB nc ns nl np M ∧ ZX nl np M ∧ SR nc ns nl np Y S M ∧ ZW nc ns T
section
variable {nc ns nl np : Nat} {Y : Nat → Nat} {T N M S : St}
theorem y_corn (J : YB nc ns nl np T N M Y S) (G F : St) {h : Nat} (hh : h ≤ 30) (hn : nc < 12) : ∃ T' M', f2_corner G N F T (Int32.ofNat h) = some (.inr (Int32.ofNat nc, T')) ∧ YB (nc + 1) ns nl np T' N M' (upA Y 1 (nc + 1)) (up1 S 1 (grw (S 1) nc (Int32.ofNat h))) := by
  obtain ⟨E, B, X, R, W⟩ := J
  obtain ⟨M7, e7⟩ : ∃ M7, M7 = up2 (up2 (up2 M 0 0 0) 5 nc (Int32.ofNat h)) 1 0 (Int32.ofNat (nc + 1)) := ⟨_, rfl⟩
  have m1 : M7 1 0 = Int32.ofNat (nc + 1) := by rw [e7, up2_at]
  have m5 : ∀ c, M7 5 c = if c = nc then Int32.ofNat h else M 5 c := fun c => by
    rw [e7, up2_n1 (by omega), z_up, if_pos rfl]; rfl
  have mk : ∀ k, k ≠ 0 → k ≠ 1 → k ≠ 5 → M7 k = M k := fun k h0 h1 h5 => by
    rw [e7]; exact (up1_ne h1).trans ((up1_ne h5).trans (up1_ne h0))
  have m6 := mk 6 (by omega) (by omega) (by omega)
  obtain ⟨M8, r1, r2⟩ := y_reckon (nc := nc + 1) (ns := ns) (M := M7) m1 (by rw [mk 2 (by omega) (by omega) (by omega)]; exact B.k2) (by omega) B.l2 (fun c => by
    rw [m5]; split
    · exact ⟨h, hh, rfl⟩
    · exact B.hi c) (fun s hs => by rw [m6]; obtain ⟨a, ha, e⟩ := B.sa s hs; exact ⟨a, by omega, e⟩) (fun s hs => by rw [m6]; obtain ⟨a, ha, e⟩ := B.sb s hs; exact ⟨a, by omega, e⟩) (fun s hs => by rw [m6]; exact B.sl s hs)
  have hM : f3_corner M (Int32.ofNat h) = some (Int32.ofNat nc, M8) := by
    unfold f3_corner
    rw [lt_e, show f3_isIn (Int32.ofNat h) 0 30 = some 1 from y_isIn (lo := 0) (hi := 30) (by omega) hh (by omega), bd_e, if_neg (by decide), show (up2 M 0 0 0) 1 0 = Int32.ofNat nc from B.k1, if_neg (by rw [show (12 : Int32) = Int32.ofNat 12 from rfl, z_inj (by omega) (by omega)]; omega), z_xin (n := nc) (by omega) (by omega), gd_t, lt_e, lt_e, z_clamp (n := nc) (by omega), show (up2 (up2 M 0 0 0) 5 nc (Int32.ofNat h)) 1 0 = Int32.ofNat nc from B.k1, z_s1, ← e7, r1, bd_e, r2 1 (by omega), m1, z_p1]
  have ok : ∀ k, k ≠ 0 → k ≠ 1 → k ≠ 5 → k ≠ 7 → M8 k = M k := fun k h0 h1 h5 h7 => (r2 k h7).trans (mk k h0 h1 h5)
  have z0 : M8 0 0 = 0 := by
    rw [r2 0 (by omega), e7]; exact z_th M 0
  rcases z_cornerO ⟨nc, ns, nl, np, E, B, W⟩ G F (Int32.ofNat h) with ⟨e, M', -, h2, h3, -⟩ | ⟨r, T', M', h1, h2, -, h4⟩
  · rw [hM] at h2
    rw [← (Prod.mk.inj (Option.some.inj h2)).2, z0] at h3
    rcases h3 with ⟨-, h⟩ | ⟨-, h⟩ <;> exact absurd h (by decide)
  · rw [hM] at h2
    obtain ⟨e1, e2⟩ := Prod.mk.inj (Option.some.inj h2)
    subst e1; subst e2
    have l2 := B.l2; have l3 := B.l3; have l4 := B.l4
    obtain ⟨E', B', W'⟩ := ZR_g (nc := nc + 1) (ns := ns) (nl := nl) (np := np) h4 (by rw [r2 1 (by omega)]; exact m1) (by rw [ok 2 (by omega) (by omega) (by omega) (by omega)]; exact B.k2) (by rw [ok 3 (by omega) (by omega) (by omega) (by omega)]; exact B.k3) (by rw [ok 4 (by omega) (by omega) (by omega) (by omega)]; exact B.k4) (by omega) (by omega) (by omega) (by omega)
    exact ⟨T', M8, h1, E', B', ZX_of X (ok 8 (by omega) (by omega) (by omega) (by omega)) (ok 9 (by omega) (by omega) (by omega) (by omega)) (ok 10 (by omega) (by omega) (by omega) (by omega)), SR_corner R (fun c => by rw [r2 5 (by omega)]; exact m5 c) ok, W'⟩
theorem y_stre (J : YB nc ns nl np T N M Y S) (G F : St) {a b l : Nat} (ha : a < nc) (hb : b < nc) (hab : a ≠ b) (hl1 : 1 ≤ l) (hl9 : l ≤ 9) (hn : ns < 18) : ∃ T' M', f2_street G N F T (Int32.ofNat a) (Int32.ofNat b) (Int32.ofNat l) = some (.inr (Int32.ofNat ns, T')) ∧ YB nc (ns + 1) nl np T' N M' (upA Y 2 (ns + 1)) (up1 S (rk 10 ns) (fS (Int32.ofNat a) (Int32.ofNat b) (Int32.ofNat l))) := by
  obtain ⟨E, B, X, R, W⟩ := J
  have l1 := B.l1; have l2 := B.l2; have l3 := B.l3; have l4 := B.l4
  obtain ⟨M7, e7⟩ : ∃ M7, M7 = up2 (up1 (up2 M 0 0 0) 6 (va_cpy (fS (Int32.ofNat a) (Int32.ofNat b) (Int32.ofNat l)) (M 6) 0 (3 * ns) 3)) 2 0 (Int32.ofNat (ns + 1)) := ⟨_, rfl⟩
  have m2 : M7 2 0 = Int32.ofNat (ns + 1) := by rw [e7, up2_at]
  have m6 : ∀ s w, w < 3 → M7 6 (ix3 s w) = if s = ns then fS (Int32.ofNat a) (Int32.ofNat b) (Int32.ofNat l) w else M 6 (ix3 s w) := fun s w hw => by
    rw [e7, up2_n1 (by omega)]; exact z_cpy3 hw
  have mk : ∀ k, k ≠ 0 → k ≠ 2 → k ≠ 6 → M7 k = M k := fun k h0 h1 h5 => by
    rw [e7]; exact (up1_ne h1).trans ((up1_ne h5).trans (up1_ne h0))
  obtain ⟨M8, r1, r2⟩ := y_reckon (nc := nc) (ns := ns + 1) (M := M7) (by rw [mk 1 (by omega) (by omega) (by omega)]; exact B.k1) m2 l1 (by omega) (fun c => by rw [mk 5 (by omega) (by omega) (by omega)]; exact B.hi c) (fun s hs => by
    rw [m6 s 0 (by omega)]; split
    · exact ⟨a, ha, rfl⟩
    · exact B.sa s (by omega)) (fun s hs => by
    rw [m6 s 1 (by omega)]; split
    · exact ⟨b, hb, rfl⟩
    · exact B.sb s (by omega)) (fun s hs => by
    rw [m6 s 2 (by omega)]; split
    · exact ⟨l, hl1, hl9, rfl⟩
    · exact B.sl s (by omega))
  have hM : f3_street M (Int32.ofNat a) (Int32.ofNat b) (Int32.ofNat l) = some (Int32.ofNat ns, M8) := by
    have e3 : (3 : Int32) * Int32.ofNat ns = Int32.ofNat (3 * ns) := z_mul
    have hx : xcp 0 (Int32.ofNat (3 * ns)) 3 3 54 = true := z_xcp rfl rfl (by omega) (by omega)
    unfold f3_street f3_isCorner
    rw [lt_e, show (up2 M 0 0 0) 1 0 = Int32.ofNat nc from B.k1, (z_idx_ok (i := a) (n := nc) ha (by omega)).2, bd_e, bd_e, lt_e, if_neg (show ¬ (1 : Int32) = 0 by decide), (z_idx_ok (i := b) (n := nc) hb (by omega)).2, bd_e, bd_e, if_neg (show ¬ (1 : Int32) = 0 by decide), lt_e, if_neg (show ¬ Int32.ofNat a = Int32.ofNat b by rw [z_inj (by omega) (by omega)]; exact hab), show f3_isIn (Int32.ofNat l) 1 9 = some 1 from y_isIn (lo := 1) (hi := 9) hl1 hl9 (by omega), bd_e, if_neg (show ¬ (1 : Int32) = 0 by decide), show (up2 M 0 0 0) 2 0 = Int32.ofNat ns from B.k2, if_neg (by rw [show (18 : Int32) = Int32.ofNat 18 from rfl, z_inj (by omega) (by omega)]; omega), lt_e, lt_e, lt_e, e3, hx, gd_t, lt_e, lt_e, z_clamp (n := 3 * ns) (by omega)]
    have e28 : up2 (up1 (up2 M 0 0 0) 6 (va_cpy (upd (upd (upd (fun _ => 0) (0 : Int32).toNatClampNeg (Int32.ofNat a)) (1 : Int32).toNatClampNeg (Int32.ofNat b)) (2 : Int32).toNatClampNeg (Int32.ofNat l)) ((up2 M 0 0 0) 6) (0 : Int32).toNatClampNeg (3 * ns) (3 : Int32).toNatClampNeg)) 2 0 ((up1 (up2 M 0 0 0) 6 (va_cpy (upd (upd (upd (fun _ => 0) (0 : Int32).toNatClampNeg (Int32.ofNat a)) (1 : Int32).toNatClampNeg (Int32.ofNat b)) (2 : Int32).toNatClampNeg (Int32.ofNat l)) ((up2 M 0 0 0) 6) (0 : Int32).toNatClampNeg (3 * ns) (3 : Int32).toNatClampNeg)) 2 0 + 1) = M7 := by
      rw [show (up1 (up2 M 0 0 0) 6 (va_cpy (upd (upd (upd (fun _ => 0) (0 : Int32).toNatClampNeg (Int32.ofNat a)) (1 : Int32).toNatClampNeg (Int32.ofNat b)) (2 : Int32).toNatClampNeg (Int32.ofNat l)) ((up2 M 0 0 0) 6) (0 : Int32).toNatClampNeg (3 * ns) (3 : Int32).toNatClampNeg)) 2 0 = Int32.ofNat ns from B.k2, z_s1, e7]
      rfl
    rw [e28, r1, bd_e, r2 2 (by omega), m2, z_p1]
  have ok : ∀ k, k ≠ 0 → k ≠ 2 → k ≠ 6 → k ≠ 7 → M8 k = M k := fun k h0 h1 h5 h7 => (r2 k h7).trans (mk k h0 h1 h5)
  have z0 : M8 0 0 = 0 := by
    rw [r2 0 (by omega), e7]; exact z_th M 0
  rcases z_street ⟨nc, ns, nl, np, E, B, W⟩ G F (Int32.ofNat a) (Int32.ofNat b) (Int32.ofNat l) with ⟨e, M', -, h2, h3, -⟩ | ⟨r, T', M', h1, h2, -, h4⟩
  · rw [hM] at h2
    rw [← (Prod.mk.inj (Option.some.inj h2)).2, z0] at h3
    rcases h3 with ⟨-, h⟩ | ⟨-, h⟩ | ⟨-, h⟩ <;> exact absurd h (by decide)
  · rw [hM] at h2
    obtain ⟨e1, e2⟩ := Prod.mk.inj (Option.some.inj h2)
    subst e1; subst e2
    obtain ⟨E', B', W'⟩ := ZR_g (nc := nc) (ns := ns + 1) (nl := nl) (np := np) h4 (by rw [ok 1 (by omega) (by omega) (by omega) (by omega)]; exact B.k1) (by rw [r2 2 (by omega)]; exact m2) (by rw [ok 3 (by omega) (by omega) (by omega) (by omega)]; exact B.k3) (by rw [ok 4 (by omega) (by omega) (by omega) (by omega)]; exact B.k4) (by omega) (by omega) (by omega) (by omega)
    exact ⟨T', M8, h1, E', B', ZX_of X (ok 8 (by omega) (by omega) (by omega) (by omega)) (ok 9 (by omega) (by omega) (by omega) (by omega)) (ok 10 (by omega) (by omega) (by omega) (by omega)), SR_street R (fun s w hw => by rw [r2 6 (by omega)]; exact m6 s w hw) ok, W'⟩
theorem y_lampC (J : YB nc ns nl np T N M Y S) (G F : St) {s h : Nat} (hs : s < ns) (h2 : 2 ≤ h) (h9 : h ≤ 9) (hn : nl < 20) : ∃ T' M', f2_lamp G N F T (Int32.ofNat s) (Int32.ofNat h) = some (.inr (Int32.ofNat nl, T')) ∧ M' 7 = M 7 ∧ M' 8 (ix8 nl 2) = 0 ∧ YB nc ns (nl + 1) np T' N M' (upA Y 3 (nl + 1)) (up1 S (rk 11 nl) (fL (Int32.ofNat s) (Int32.ofNat h))) := by
  obtain ⟨E, B, X, R, W⟩ := J
  have l1 := B.l1; have l2 := B.l2; have l3 := B.l3; have l4 := B.l4
  obtain ⟨M7, e7⟩ : ∃ M7, M7 = up2 (up1 (up2 M 0 0 0) 8 (va_cpy (fL (Int32.ofNat s) (Int32.ofNat h)) (M 8) 0 (8 * nl) 8)) 3 0 (Int32.ofNat (nl + 1)) := ⟨_, rfl⟩
  have m3 : M7 3 0 = Int32.ofNat (nl + 1) := by rw [e7, up2_at]
  have m8 : ∀ l w, w < 8 → M7 8 (ix8 l w) = if l = nl then fL (Int32.ofNat s) (Int32.ofNat h) w else M 8 (ix8 l w) := fun l w hw => by
    rw [e7, up2_n1 (by omega)]; exact z_cpy8 hw
  have mk : ∀ k, k ≠ 0 → k ≠ 3 → k ≠ 8 → M7 k = M k := fun k h0 h1 h5 => by
    rw [e7]; exact (up1_ne h1).trans ((up1_ne h5).trans (up1_ne h0))
  have hM : f3_lamp M (Int32.ofNat s) (Int32.ofNat h) = some (Int32.ofNat nl, M7) := by
    have e3 : (8 : Int32) * Int32.ofNat nl = Int32.ofNat (8 * nl) := z_mul
    have hx : xcp 0 (Int32.ofNat (8 * nl)) 8 8 160 = true := z_xcp rfl rfl (by omega) (by omega)
    unfold f3_lamp f3_isStreet
    rw [lt_e, show (up2 M 0 0 0) 2 0 = Int32.ofNat ns from B.k2, (z_idx_ok (i := s) (n := ns) hs (by omega)).2, bd_e, bd_e, if_neg (show ¬ (1 : Int32) = 0 by decide), show f3_isIn (Int32.ofNat h) 2 9 = some 1 from y_isIn (lo := 2) (hi := 9) h2 h9 (by omega), bd_e, if_neg (show ¬ (1 : Int32) = 0 by decide), show (up2 M 0 0 0) 3 0 = Int32.ofNat nl from B.k3, if_neg (by rw [show (20 : Int32) = Int32.ofNat 20 from rfl, z_inj (by omega) (by omega)]; omega), lt_e, lt_e, lt_e, lt_e, lt_e, lt_e, lt_e, lt_e, e3, hx, gd_t, lt_e, lt_e, z_clamp (n := 8 * nl) (by omega), e7]
    exact z_inc (X := up1 (up2 M 0 0 0) 8 (va_cpy (fL (Int32.ofNat s) (Int32.ofNat h)) ((up2 M 0 0 0) 8) 0 (8 * nl) 8)) (k := 3) B.k3
  have z0 : M7 0 0 = 0 := by rw [e7]; exact z_th M 0
  rcases z_lamp ⟨nc, ns, nl, np, E, B, W⟩ G F (Int32.ofNat s) (Int32.ofNat h) with ⟨e, M', -, q2, h3, -⟩ | ⟨r, T', M', q1, q2, -, h4⟩
  · rw [hM] at q2
    rw [← (Prod.mk.inj (Option.some.inj q2)).2, z0] at h3
    rcases h3 with ⟨-, h⟩ | ⟨-, h⟩ | ⟨-, h⟩ <;> exact absurd h (by decide)
  · rw [hM] at q2
    obtain ⟨e1, e2⟩ := Prod.mk.inj (Option.some.inj q2)
    subst e1; subst e2
    obtain ⟨E', B', W'⟩ := ZR_g (nc := nc) (ns := ns) (nl := nl + 1) (np := np) h4 (by rw [mk 1 (by omega) (by omega) (by omega)]; exact B.k1) (by rw [mk 2 (by omega) (by omega) (by omega)]; exact B.k2) m3 (by rw [mk 4 (by omega) (by omega) (by omega)]; exact B.k4) (by omega) (by omega) (by omega) (by omega)
    have old : ∀ l w, l < nl + 1 → l ≠ nl → w < 8 → M7 8 (ix8 l w) = M 8 (ix8 l w) := fun l w _ h hw => by rw [m8 l w hw, if_neg h]
    have k9 := mk 9 (by omega) (by omega) (by omega)
    have k10 := mk 10 (by omega) (by omega) (by omega)
    refine ⟨T', M7, q1, mk 7 (by omega) (by omega) (by omega), by rw [m8 nl 2 (by omega), if_pos rfl]; rfl, E', B', ?_, SR_lamp R m8 mk, W'⟩
    refine ⟨fun l hl h5 => ?_, fun l hl => ?_, fun l hl => ?_, fun l hl => ?_, ?_, ?_, fun p l hp hl hg => ?_⟩
    · by_cases e : l = nl
      · rw [m8 l 5 (by omega), if_pos e] at h5; exact absurd (show (0 : Int32) = 1 from h5) (by decide)
      · rw [old l 5 hl e (by omega)] at h5; rw [old l 3 hl e (by omega)]; exact X.bo l (by omega) h5
    · by_cases e : l = nl
      · rw [m8 l 4 (by omega), if_pos e]; exact ⟨0, by omega, rfl⟩
      · rw [old l 4 hl e (by omega)]; exact X.so l (by omega)
    · by_cases e : l = nl
      · rw [m8 l 2 (by omega), if_pos e]; exact ⟨0, by omega, rfl⟩
      · rw [old l 2 hl e (by omega)]; exact X.li l (by omega)
    · by_cases e : l = nl
      · rw [m8 l 1 (by omega), if_pos e]; exact ⟨h, h2, h9, rfl⟩
      · rw [old l 1 hl e (by omega)]; exact X.he l (by omega)
    · rw [k9]; exact X.ld
    · rw [k9]; exact X.z6
    · rw [k9] at hg
      by_cases e : l = nl
      · exfalso
        rcases B.pg p hp with q | ⟨j, hj, q, -⟩
        · rw [q] at hg
          have := hg.symm; rw [z_ne1 (by omega)] at this; exact this
        · rw [q, z_inj (by omega) (by omega)] at hg; omega
      · rw [old l 1 hl e (by omega), k9, k10]; exact X.go p l hp (by omega) hg
def fQ (h l o : Int32) : Nat → Int32 := upd (upd (upd (upd (upd (upd (upd (upd (upd (fun _ => 0) 0 h) 1 h) 2 l) 3 o) 4 (-1)) 5 0) 6 (-1)) 7 (-1)) 8 0
theorem y_hireC (J : YB nc ns nl np T N M Y S) (G F : St) {c d o : Nat} (hc : c < nc) (h1 : 1 ≤ d) (h9 : d ≤ 9) (ho : o ≤ 999) (hn : np < 4) : ∃ N' T' M', f2_hire G N F T (Int32.ofNat c) (Int32.ofNat d) (Int32.ofNat o) = some (.inr (Int32.ofNat np, N', T')) ∧ M' 7 = M 7 ∧ YB nc ns nl (np + 1) T' N' M' (upA (upA (upA Y 4 (np + 1)) 5 (np + 1)) (rk 13 np) 0) (up1 (up1 S (rk 12 np) (fQ (Int32.ofNat c) (Int32.ofNat d) (Int32.ofNat o))) (rk 13 np) (fun _ => 0)) := by
  obtain ⟨E, B, X, R, W⟩ := J
  have l1 := B.l1; have l2 := B.l2; have l3 := B.l3; have l4 := B.l4
  obtain ⟨M7, e7⟩ : ∃ M7, M7 = up2 (up1 (up2 M 0 0 0) 9 (va_cpy (fP (Int32.ofNat c) (Int32.ofNat d) (Int32.ofNat o)) (M 9) 0 (10 * np) 10)) 4 0 (Int32.ofNat (np + 1)) := ⟨_, rfl⟩
  have m4 : M7 4 0 = Int32.ofNat (np + 1) := by rw [e7, up2_at]
  have m9 : ∀ l w, w < 10 → M7 9 (ix10 l w) = if l = np then fP (Int32.ofNat c) (Int32.ofNat d) (Int32.ofNat o) w else M 9 (ix10 l w) := fun l w hw => by
    rw [e7, up2_n1 (by omega)]; exact z_cpy10 hw
  have mk : ∀ k, k ≠ 0 → k ≠ 4 → k ≠ 9 → M7 k = M k := fun k h0 h1 h5 => by
    rw [e7]; exact (up1_ne h1).trans ((up1_ne h5).trans (up1_ne h0))
  have hM : f3_hire M (Int32.ofNat c) (Int32.ofNat d) (Int32.ofNat o) = some (Int32.ofNat np, M7) := by
    have e3 : (10 : Int32) * Int32.ofNat np = Int32.ofNat (10 * np) := z_mul
    have hx : xcp 0 (Int32.ofNat (10 * np)) 10 10 40 = true := z_xcp rfl rfl (by omega) (by omega)
    unfold f3_hire f3_isCorner
    rw [lt_e, show (up2 M 0 0 0) 1 0 = Int32.ofNat nc from B.k1, (z_idx_ok (i := c) (n := nc) hc (by omega)).2, bd_e, bd_e, if_neg (show ¬ (1 : Int32) = 0 by decide), show f3_isIn (Int32.ofNat d) 1 9 = some 1 from y_isIn (lo := 1) (hi := 9) h1 h9 (by omega), bd_e, lt_e, if_neg (show ¬ (1 : Int32) = 0 by decide), show f3_isIn (Int32.ofNat o) 0 999 = some 1 from y_isIn (lo := 0) (hi := 999) (by omega) ho (by omega), bd_e, if_neg (show ¬ (1 : Int32) = 0 by decide), show (up2 M 0 0 0) 4 0 = Int32.ofNat np from B.k4, if_neg (by rw [show (4 : Int32) = Int32.ofNat 4 from rfl, z_inj (by omega) (by omega)]; omega), lt_e, lt_e, lt_e, lt_e, lt_e, lt_e, lt_e, lt_e, lt_e, lt_e, e3, hx, gd_t, lt_e, lt_e, z_clamp (n := 10 * np) (by omega), e7]
    exact z_inc (X := up1 (up2 M 0 0 0) 9 (va_cpy (fP (Int32.ofNat c) (Int32.ofNat d) (Int32.ofNat o)) ((up2 M 0 0 0) 9) 0 (10 * np) 10)) (k := 4) B.k4
  have z0 : M7 0 0 = 0 := by rw [e7]; exact z_th M 0
  rcases z_hire ⟨nc, ns, nl, np, E, B, W⟩ G F (Int32.ofNat c) (Int32.ofNat d) (Int32.ofNat o) with ⟨e, M', -, q2, h3, -⟩ | ⟨r, N', T', M', q1, q2, -, h4⟩
  · rw [hM] at q2
    rw [← (Prod.mk.inj (Option.some.inj q2)).2, z0] at h3
    rcases h3 with ⟨-, h⟩ | ⟨-, h⟩ | ⟨-, h⟩ <;> exact absurd h (by decide)
  · rw [hM] at q2
    obtain ⟨e1, e2⟩ := Prod.mk.inj (Option.some.inj q2)
    subst e1; subst e2
    obtain ⟨E', B', W'⟩ := ZR_g (nc := nc) (ns := ns) (nl := nl) (np := np + 1) h4 (by rw [mk 1 (by omega) (by omega) (by omega)]; exact B.k1) (by rw [mk 2 (by omega) (by omega) (by omega)]; exact B.k2) (by rw [mk 3 (by omega) (by omega) (by omega)]; exact B.k3) m4 (by omega) (by omega) (by omega) (by omega)
    have old : ∀ l w, l ≠ np → w < 10 → M7 9 (ix10 l w) = M 9 (ix10 l w) := fun l w h hw => by rw [m9 l w hw, if_neg h]
    have k8 := mk 8 (by omega) (by omega) (by omega)
    have k10 := mk 10 (by omega) (by omega) (by omega)
    refine ⟨N', T', M7, q1, mk 7 (by omega) (by omega) (by omega), E', B', ?_, SR_hire R (fun w hw => ?_) rfl m9 mk, W'⟩
    · refine ⟨by rw [k8]; exact X.bo, by rw [k8]; exact X.so, by rw [k8]; exact X.li, by rw [k8]; exact X.he, fun p hp => ?_, fun p hp h5 => ?_, fun p l hp hl hg => ?_⟩
      · by_cases e : p = np
        · rw [m9 p 2 (by omega), if_pos e]; exact ⟨d, h9, rfl⟩
        · rw [old p 2 e (by omega)]; exact X.ld p (by omega)
      · by_cases e : p = np
        · rw [m9 p 6 (by omega), if_pos e]; rfl
        · rw [old p 5 e (by omega)] at h5; rw [old p 6 e (by omega)]; exact X.z6 p (by omega) h5
      · by_cases e : p = np
        · exfalso
          rw [m9 p 5 (by omega), if_pos e] at hg
          have hg' : (-1 : Int32) = Int32.ofNat l := hg
          have := hg'.symm; rw [z_ne1 (by omega)] at this; exact this
        · rw [old p 5 e (by omega)] at hg
          rw [old p 4 e (by omega), old p 2 e (by omega), k8, k10]; exact X.go p l (by omega) hl hg
    · have cs : w = 0 ∨ w = 1 ∨ w = 2 ∨ w = 3 ∨ w = 4 ∨ w = 5 ∨ w = 6 ∨ w = 7 ∨ w = 8 := by omega
      rcases cs with e | e | e | e | e | e | e | e | e <;> subst e <;> rfl
end
