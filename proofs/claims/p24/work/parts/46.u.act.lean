/-! AN ACT OF THE LAW -/
def yAct (G N F T : St) (Y : Nat → Nat) (S : St) (p3 v1 v4 : Int32) : Option (Int32 × St × St × (Nat → Nat) × St) :=
  (
    bd (lbelow (p3 >>> (8 &&& 31)) 5) fun v5 =>
    if v5 = 0 then
    (
      gd (xin v1 (Y 3)) <|
      lt_ (S (rk 11 v1.toNatClampNeg) (2 : Int32).toNatClampNeg) fun v10 =>
      bd (lbelow (p3 >>> (4 &&& 31)) 10) fun v11 =>
      lt_ (up2 S (rk 11 v1.toNatClampNeg) (2 : Int32).toNatClampNeg v11) fun S14 =>
      br2 (f2_lid G N F T v1 (S14 (rk 11 v1.toNatClampNeg) (2 : Int32).toNatClampNeg)) fun v15 T16 =>
      if v15 = v10 then
      (
        some ((1 : Int32), N, T16, Y, S14)
      )
      else
      (
        some ((0 : Int32), N, T16, Y, S14)
      )
    )
    else
    if v5 = 1 then
    (
      bd (lbelow (p3 >>> (3 &&& 31)) 10) fun v19 =>
      gd (xin v19 10) <|
      lt_ (S 6 v19.toNatClampNeg) fun v23 =>
      bd (lbelow (p3 >>> (5 &&& 31)) 10) fun v24 =>
      lt_ (up2 S 6 v19.toNatClampNeg v24) fun S27 =>
      br2 (f2_setWind G N F T v19 (S27 6 v19.toNatClampNeg)) fun v28 T29 =>
      if v28 = v23 then
      (
        some ((1 : Int32), N, T29, Y, S27)
      )
      else
      (
        some ((0 : Int32), N, T29, Y, S27)
      )
    )
    else
    if v5 = 2 then
    (
      if 0 ≤ v4 then
      (
        bd (lbelow (p3 >>> (6 &&& 31)) 2) fun v32 =>
        lt_ (fun (v35 : Int32) =>
        (
          bd (lbelow (p3 >>> (3 &&& 31)) v35) fun v36 =>
          lt_ (1 + v36) fun v39 =>
          gd (xin v4 (Y 4)) <|
          lt_ (up2 S (rk 12 v4.toNatClampNeg) (3 : Int32).toNatClampNeg (if ((S (rk 12 v4.toNatClampNeg) (3 : Int32).toNatClampNeg) + v39) < (999 : Int32) then ((S (rk 12 v4.toNatClampNeg) (3 : Int32).toNatClampNeg) + v39) else (999 : Int32))) fun S42 =>
          br2 (f2_fill G N F T v4 v39) fun v43 N44 =>
          if v43 = (S42 (rk 12 v4.toNatClampNeg) (3 : Int32).toNatClampNeg) then
          (
            some ((1 : Int32), N44, T, Y, S42)
          )
          else
          (
            some ((0 : Int32), N44, T, Y, S42)
          )
        )
        ) fun J210 =>
        if v32 = 0 then
        (
          J210 999
        )
        else
        (
          J210 90
        )
      )
      else
      (
        some ((1 : Int32), N, T, Y, S)
      )
    )
    else
    if v5 = 3 then
    (
      lt_ (fun (T48 : St) (Y49 : (Nat → Nat)) (S50 : St) =>
      (
        some ((1 : Int32), N, T48, Y49, S50)
      )
      ) fun J285 =>
      if v4 < 0 then
      (
        J285 T Y S
      )
      else
      (
        bd4 (f6_adds G N F T Y S v4 v1) fun v51 T52 Y53 S54 =>
        if v51 = 0 then
        (
          some ((0 : Int32), N, T52, Y53, S54)
        )
        else
        (
          J285 T52 Y53 S54
        )
      )
    )
    else
    (
      lt_ (fun (N58 : St) (S59 : St) =>
      (
        some ((1 : Int32), N58, T, Y, S59)
      )
      ) fun J312 =>
      if (S 7 0) < 600 then
      (
        J312 N S
      )
      else
      (
        br2 (f2_dawn G N F T) fun v60 N61 =>
        bd2 (f5_dawn Y S) fun v64 S65 =>
        if v60 = v64 then
        (
          J312 N61 S65
        )
        else
        (
          some ((0 : Int32), N61, T, Y, S65)
        )
      )
    )
  )
section
variable {nc ns nl np : Nat} {Y : Nat → Nat} {T N M S : St}
theorem y_a16 {p l k : Nat} {K : Unit → Option (Int32 × St × (Nat → Nat) × St)} (hp : p < 4) (hk : k ≤ 10) (hY : Y (rk 13 p) = k) : ∀ n i fu, i + n = k → n < fu → (∀ j, j < i → S (rk 13 p) j ≠ Int32.ofNat l) → f6_adds_L16 (Int32.ofNat p) (Int32.ofNat l) (Int32.ofNat k) T Y S K fu (Int32.ofNat i) = some (1, T, Y, S) ∨ ((∀ j, j < k → S (rk 13 p) j ≠ Int32.ofNat l) ∧ f6_adds_L16 (Int32.ofNat p) (Int32.ofNat l) (Int32.ofNat k) T Y S K fu (Int32.ofNat i) = K ()) := by
  intro n
  induction n with
  | zero =>
    intro i fu hi hf h
    obtain ⟨fu, rfl⟩ : ∃ k, fu = k + 1 := ⟨fu - 1, by omega⟩
    right
    refine ⟨fun j hj => h j (by omega), ?_⟩
    rw [f6_adds_L16, z_ile (by omega) (by omega), if_pos (by omega)]
  | succ n ih =>
    intro i fu hi hf h
    obtain ⟨fu, rfl⟩ : ∃ k, fu = k + 1 := ⟨fu - 1, by omega⟩
    rw [f6_adds_L16, z_ile (by omega) (by omega), if_neg (by omega), z_clamp (n := p) (by omega), hY, z_xin (n := i) (by omega) (by omega), gd_t, lt_e, z_clamp (n := i) (by omega), z_s1]
    by_cases e : S (rk 13 p) i = Int32.ofNat l
    · left; rw [if_pos e]
    · rw [if_neg e]
      refine ih (i + 1) fu (by omega) (by omega) (fun j hj => ?_)
      by_cases q : j = i
      · rw [q]; exact e
      · exact h j (by omega)
theorem y_adds (J : YJ nc ns nl np T N M Y S) (G F : St) {p l : Nat} (hp : p < np) (hl : l < nl) : ∃ T' Y' S' M', f6_adds G N F T Y S (Int32.ofNat p) (Int32.ofNat l) = some (1, T', Y', S') ∧ YJ nc ns nl np T' N M' Y' S' := by
  have hJ := J
  obtain ⟨⟨E, B, X, R, V⟩, W⟩ := J
  have l3 := B.l3; have l4 := B.l4
  obtain ⟨k, hY⟩ : ∃ k, k = Y (rk 13 p) := ⟨_, rfl⟩
  have hk : k ≤ 10 := by rw [hY]; exact (R.rn p hp).2
  unfold f6_adds
  rw [R.y5, z_xin (n := p) (by omega) (by omega), gd_t, lt_e, z_clamp (n := p) (by omega), ← hY]
  rcases y_a16 (T := T) (S := S) (l := l) (show p < 4 by omega) hk hY.symm k 0 xF (by omega) (by unfold xF; omega) (fun j h => by omega) with h | ⟨h1, h2⟩
  · exact ⟨T, Y, S, M, h, hJ⟩
  · by_cases k10 : k = 10
    · refine ⟨T, Y, S, M, h2.trans ?_, hJ⟩
      rw [gd_t, if_pos (by rw [k10]; rfl)]
    · obtain ⟨T', M', a1, a2⟩ := y_round hJ G F hp hl hY.symm (by omega) h1
      refine ⟨T', _, _, M', h2.trans ?_, a2⟩
      rw [gd_t, if_neg (by rw [show (10 : Int32) = Int32.ofNat 10 from rfl, z_inj (by omega) (by omega)]; exact k10), show decide (k < 32) = true by rw [decide_eq_true_iff]; omega, gd_t, lt_e, lt_e, a1, br2_e, upA_ne (rk_lo (by omega) (by omega)), R.y5, z_xin (n := p) (by omega) (by omega), gd_t, upA_eq, if_pos rfl]
theorem y_actb (J : YJ nc ns nl np T N M Y S) (G F : St) (v : Int32) {l : Nat} (hl : l < nl) {v4 : Int32} (h4 : v4 = -1 ∨ ∃ p, p < np ∧ v4 = Int32.ofNat p) : ∃ N' T' Y' S' M', yAct G N F T Y S v (Int32.ofNat l) v4 = some (1, N', T', Y', S') ∧ YJ nc ns nl np T' N' M' Y' S' := by
  have hJ := J
  obtain ⟨⟨E, B, X, R, V⟩, W⟩ := J
  have l3 := B.l3; have l4 := B.l4
  obtain ⟨t, ht, et⟩ := y_below (v >>> (8 &&& 31)) (n := 5) (by omega) (by omega)
  have et' : lbelow (v >>> (8 &&& 31)) 5 = some (Int32.ofNat t) := et
  unfold yAct
  rw [et', bd_e]
  by_cases t0 : t = 0
  · obtain ⟨d, hd, ed⟩ := y_below (v >>> (4 &&& 31)) (n := 10) (by omega) (by omega)
    have ed' : lbelow (v >>> (4 &&& 31)) 10 = some (Int32.ofNat d) := ed
    obtain ⟨T', M', a1, a2⟩ := y_lid hJ G F hl (show d ≤ 9 by omega)
    refine ⟨N, T', Y, _, M', ?_, a2⟩
    rw [if_pos (by rw [t0]; rfl), R.y3, z_xin (n := l) (by omega) (by omega), gd_t, lt_e, ed', bd_e, lt_e, z_clamp (n := l) (by omega), kc2, up2_at, a1, br2_e, if_pos (R.la l 2 hl (by omega)).symm]
  rw [if_neg (by rw [z_l0, z_inj (by omega) (by omega)]; exact t0)]
  by_cases t1 : t = 1
  · obtain ⟨h, hh, eh⟩ := y_below (v >>> (3 &&& 31)) (n := 10) (by omega) (by omega)
    have eh' : lbelow (v >>> (3 &&& 31)) 10 = some (Int32.ofNat h) := eh
    obtain ⟨d, hd, ed⟩ := y_below (v >>> (5 &&& 31)) (n := 10) (by omega) (by omega)
    have ed' : lbelow (v >>> (5 &&& 31)) 10 = some (Int32.ofNat d) := ed
    obtain ⟨T', M', a1, a2⟩ := y_wind hJ G F hh (show d ≤ 9 by omega)
    refine ⟨N, T', Y, _, M', ?_, a2⟩
    rw [if_pos (by rw [t1]; rfl), eh', bd_e, z_xin (n := h) (by omega) (by omega), gd_t, lt_e, ed', bd_e, lt_e, z_clamp (n := h) (by omega), up2_at, a1, br2_e, if_pos (R.wd h hh).symm]
  rw [if_neg (by rw [z_l1, z_inj (by omega) (by omega)]; exact t1)]
  by_cases t2 : t = 2
  · rw [if_pos (by rw [t2]; rfl)]
    rcases h4 with e | ⟨p, hp, e⟩
    · rw [e, if_neg (by decide)]
      exact ⟨N, T, Y, S, M, rfl, hJ⟩
    · subst e
      have fin : ∀ m : Nat, 1 ≤ m → m ≤ 999 → ∃ N' T' Y' S' M', (bd (lbelow (v >>> (3 &&& 31)) (Int32.ofNat m)) fun v36 => lt_ (1 + v36) fun v39 => gd (xin (Int32.ofNat p) (Y 4)) <| lt_ (up2 S (rk 12 (Int32.ofNat p).toNatClampNeg) (3 : Int32).toNatClampNeg (if ((S (rk 12 (Int32.ofNat p).toNatClampNeg) (3 : Int32).toNatClampNeg) + v39) < (999 : Int32) then ((S (rk 12 (Int32.ofNat p).toNatClampNeg) (3 : Int32).toNatClampNeg) + v39) else (999 : Int32))) fun S42 => br2 (f2_fill G N F T (Int32.ofNat p) v39) fun v43 N44 => if v43 = (S42 (rk 12 (Int32.ofNat p).toNatClampNeg) (3 : Int32).toNatClampNeg) then some ((1 : Int32), N44, T, Y, S42) else some ((0 : Int32), N44, T, Y, S42)) = some (1, N', T', Y', S') ∧ YJ nc ns nl np T' N' M' Y' S' := by
        intro m h1 h2
        obtain ⟨d, hd, ed⟩ := y_below (v >>> (3 &&& 31)) (n := m) (by omega) (by omega)
        obtain ⟨N', M', c, hc, a1, a2⟩ := y_fill hJ G F hp (show 1 ≤ 1 + d by omega) (show 1 + d ≤ 999 by omega)
        refine ⟨N', T, Y, _, M', ?_, a2⟩
        rw [ed, bd_e, lt_e, show (1 : Int32) = Int32.ofNat 1 from rfl, z_add, R.y4, z_xin (n := p) (by omega) (by omega), gd_t, lt_e, z_clamp (n := p) (by omega), kc3, R.l3 hp, ← hc, a1, br2_e, up2_at, if_pos rfl]
      rw [if_pos (by rw [z_l0, z_le (by omega) (by omega)]; omega)]
      obtain ⟨b, hb, eb⟩ := y_below (v >>> (6 &&& 31)) (n := 2) (by omega) (by omega)
      have eb' : lbelow (v >>> (6 &&& 31)) 2 = some (Int32.ofNat b) := eb
      rw [eb', bd_e, lt_e]
      by_cases b0 : b = 0
      · rw [if_pos (by rw [b0]; rfl)]
        exact fin 999 (by omega) (by omega)
      · rw [if_neg (by rw [z_l0, z_inj (by omega) (by omega)]; exact b0)]
        exact fin 90 (by omega) (by omega)
  rw [if_neg (by rw [show (2 : Int32) = Int32.ofNat 2 from rfl, z_inj (by omega) (by omega)]; exact t2)]
  by_cases t3 : t = 3
  · rw [if_pos (by rw [t3]; rfl), lt_e]
    rcases h4 with e | ⟨p, hp, e⟩
    · rw [e, if_pos (by decide)]
      exact ⟨N, T, Y, S, M, rfl, hJ⟩
    · subst e
      obtain ⟨T', Y', S', M', a1, a2⟩ := y_adds hJ G F hp hl
      rw [if_neg (z_nneg (by omega)), a1, bd4_e, if_neg (by decide)]
      exact ⟨N, T', Y', S', M', rfl, a2⟩
  rw [if_neg (by rw [show (3 : Int32) = Int32.ofNat 3 from rfl, z_inj (by omega) (by omega)]; exact t3), lt_e]
  obtain ⟨m, hm, em⟩ := B.mi
  by_cases h6 : m = 600
  · obtain ⟨r, N', M', S', a1, a2, a3⟩ := y_dawn hJ.1 W G F (by rw [em, h6])
    rw [if_neg (by rw [R.mi, em, h6]; decide), a1, br2_e, a2, bd2_e, if_pos rfl]
    exact ⟨N', T, Y, S', M', rfl, a3, W⟩
  · rw [if_pos (by rw [R.mi, em, show (600 : Int32) = Int32.ofNat 600 from rfl, z_lt (by omega) (by omega)]; omega)]
    exact ⟨N, T, Y, S, M, rfl, hJ⟩
theorem y_act (J : YJ nc ns nl np T N M Y S) (hn : 1 ≤ nl) (G F : St) (v : Int32) : ∃ N' T' Y' S' M', f6_act G N F T Y S v = some (1, N', T', Y', S') ∧ YJ nc ns nl np T' N' M' Y' S' := by
  have hJ := J
  obtain ⟨⟨E, B, X, R, V⟩, W⟩ := J
  have l3 := B.l3; have l4 := B.l4
  obtain ⟨l, hl, el⟩ := y_below v hn (by omega)
  have e3 : lbelow v (Int32.ofNat (Y 3)) = some (Int32.ofNat l) := by rw [R.y3]; exact el
  unfold f6_act
  rw [e3, bd_e, lt_e]
  by_cases p0 : np = 0
  · obtain ⟨N', T', Y', S', M', a1, a2⟩ := y_actb hJ G F v hl (v4 := -1) (.inl rfl)
    refine ⟨N', T', Y', S', M', ?_, a2⟩
    rw [if_pos (by rw [R.y4, p0]; rfl)]
    exact a1
  · obtain ⟨p, hp, ep⟩ := y_below (v >>> (2 &&& 31)) (n := np) (by omega) (by omega)
    obtain ⟨N', T', Y', S', M', a1, a2⟩ := y_actb hJ G F v hl (v4 := Int32.ofNat p) (.inr ⟨p, hp, rfl⟩)
    refine ⟨N', T', Y', S', M', ?_, a2⟩
    have ep' : lbelow (v >>> (2 &&& 31)) (Int32.ofNat (Y 4)) = some (Int32.ofNat p) := by rw [R.y4]; exact ep
    rw [if_neg (by rw [R.y4, z_l0, z_inj (by omega) (by omega)]; exact p0), ep', bd_e]
    exact a1
end
