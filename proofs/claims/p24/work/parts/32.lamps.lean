theorem up2_same {N : St} {k i : Nat} {x : Int32} (h : N k i = x) : up2 N k i x = N := by
  funext k' i'; rw [z_up]; split
  · rename_i e; subst e; split
    · rename_i e; subst e; exact h.symm
    · rfl
  · rfl
def aU (M : St) (l : Nat) : Int32 := if (if M 8 (ix8 l 4) < 5 then (1 : Int32) else 2) < M 8 (ix8 l 3) then (if M 8 (ix8 l 4) < 5 then 1 else 2) else M 8 (ix8 l 3)
def xu (M : St) (l : Nat) : Int32 := if M 8 (ix8 l 5) = 0 then 0 else aU M l
def xb (M : St) (l : Nat) : Int32 := if M 8 (ix8 l 5) = 0 then 0 else if M 8 (ix8 l 3) - aU M l = 0 then 0 else M 8 (ix8 l 5)
def xs (M : St) (l : Nat) : Int32 := if M 8 (ix8 l 5) = 0 then M 8 (ix8 l 4) else if M 8 (ix8 l 3) - aU M l = 0 then M 8 (ix8 l 4) else if M 12 0 - M 12 0 / 30 * 30 = 0 then (if M 8 (ix8 l 4) + 1 < 9 then M 8 (ix8 l 4) + 1 else 9) else M 8 (ix8 l 4)
def bA (M : St) (l : Nat) : St := up2 (up2 (up2 (up2 M 8 (ix8 l 3) (M 8 (ix8 l 3) - xu M l)) 12 2 (M 12 2 + xu M l)) 8 (ix8 l 5) (xb M l)) 8 (ix8 l 4) (xs M l)
def zgust (M : St) (l : Nat) : Int32 := M 11 (M 12 0 / 60).toNatClampNeg + ((if M 5 (M 6 (ix3 (M 8 (ix8 l 0)).toNatClampNeg 0)).toNatClampNeg < M 5 (M 6 (ix3 (M 8 (ix8 l 0)).toNatClampNeg 1)).toNatClampNeg then M 5 (M 6 (ix3 (M 8 (ix8 l 0)).toNatClampNeg 1)).toNatClampNeg else M 5 (M 6 (ix3 (M 8 (ix8 l 0)).toNatClampNeg 0)).toNatClampNeg) / 10)
def yc (M : St) (l : Nat) : Prop := ¬ M 8 (ix8 l 5) = 0 ∧ M 12 0 - M 12 0 / 10 * 10 = 0 ∧ M 8 (ix8 l 2) + 4 < zgust M l
def ycb (M : St) (l : Nat) : Bool := decide (¬ M 8 (ix8 l 5) = 0 ∧ M 12 0 - M 12 0 / 10 * 10 = 0 ∧ M 8 (ix8 l 2) + 4 < zgust M l)
theorem ycb_iff {M : St} {l : Nat} : ycb M l = true ↔ yc M l := decide_eq_true_iff
def bB (M : St) (l : Nat) : St := up2 (up2 M 8 (ix8 l 5) (if ycb M l = true then 0 else M 8 (ix8 l 5))) 8 (ix8 l 7) (if ycb M l = true then M 8 (ix8 l 7) + 1 else M 8 (ix8 l 7))
theorem bA_0 {M : St} {l : Nat} (h : M 8 (ix8 l 5) = 0) : bA M l = M := by
  unfold bA xu xb xs
  rw [if_pos h, if_pos h, if_pos h, Int32.sub_zero, Int32.add_zero]
  rw [up2_same rfl, up2_same rfl, up2_same h, up2_same rfl]
theorem bA_1 {M : St} {l : Nat} (h : ¬ M 8 (ix8 l 5) = 0) (h2 : M 8 (ix8 l 3) - aU M l = 0) : bA M l = up2 (up2 (up2 M 8 (ix8 l 3) 0) 12 2 (M 12 2 + aU M l)) 8 (ix8 l 5) 0 := by
  unfold bA xu xb xs
  rw [if_neg h, if_neg h, if_neg h, if_pos h2, if_pos h2, h2]
  rw [up2_same (i := ix8 l 4)]
  simp [z_up, ix8_eq]
theorem bA_2 {M : St} {l : Nat} (h : ¬ M 8 (ix8 l 5) = 0) (h2 : ¬ M 8 (ix8 l 3) - aU M l = 0) (h3 : M 12 0 - M 12 0 / 30 * 30 = 0) : bA M l = up2 (up2 (up2 M 8 (ix8 l 3) (M 8 (ix8 l 3) - aU M l)) 12 2 (M 12 2 + aU M l)) 8 (ix8 l 4) (if M 8 (ix8 l 4) + 1 < 9 then M 8 (ix8 l 4) + 1 else 9) := by
  unfold bA xu xb xs
  rw [if_neg h, if_neg h, if_neg h, if_neg h2, if_neg h2, if_pos h3]
  rw [up2_same (i := ix8 l 5)]
  simp [z_up, ix8_eq]
theorem bA_3 {M : St} {l : Nat} (h : ¬ M 8 (ix8 l 5) = 0) (h2 : ¬ M 8 (ix8 l 3) - aU M l = 0) (h3 : ¬ M 12 0 - M 12 0 / 30 * 30 = 0) : bA M l = up2 (up2 M 8 (ix8 l 3) (M 8 (ix8 l 3) - aU M l)) 12 2 (M 12 2 + aU M l) := by
  unfold bA xu xb xs
  rw [if_neg h, if_neg h, if_neg h, if_neg h2, if_neg h2, if_neg h3]
  rw [up2_same (i := ix8 l 5), up2_same (i := ix8 l 4)]
  · simp [z_up, ix8_eq]
  · simp [z_up, ix8_eq]
theorem bB_0 {M : St} {l : Nat} (h : ¬ yc M l) : bB M l = M := by
  unfold bB; rw [if_neg (fun k => h (ycb_iff.mp k)), if_neg (fun k => h (ycb_iff.mp k)), up2_same rfl, up2_same rfl]
theorem bB_1 {M : St} {l : Nat} (h : yc M l) : bB M l = up2 (up2 M 8 (ix8 l 5) 0) 8 (ix8 l 7) (M 8 (ix8 l 7) + 1) := by
  unfold bB; rw [if_pos (ycb_iff.mpr h), if_pos (ycb_iff.mpr h)]
theorem bAB {M : St} {i j : Nat} (h : i ≠ j) : bB (bA M j) i = bA (bB M i) j := by
  have r (w : Nat) (hw : w < 8) : bA M j 8 (ix8 i w) = M 8 (ix8 i w) := by simp [bA, z_up, ix8_eq, hw, h]
  have r2 (w : Nat) (hw : w < 8) : bB M i 8 (ix8 j w) = M 8 (ix8 j w) := by simp [bB, z_up, ix8_eq, hw, h.symm]
  have e0 : bA M j 12 0 = M 12 0 := by simp [bA, z_up]
  have eg : zgust (bA M j) i = zgust M i := by
    unfold zgust
    rw [r 0 (by decide), e0, show bA M j 11 = M 11 from rfl, show bA M j 5 = M 5 from rfl, show bA M j 6 = M 6 from rfl]
  have ec : yc (bA M j) i = yc M i := by
    unfold yc; rw [eg, e0, r 5 (by decide), r 2 (by decide)]
  have ecb : ycb (bA M j) i = ycb M i := Bool.eq_iff_iff.mpr (by rw [ycb_iff, ycb_iff, ec])
  have f0 : bB M i 12 = M 12 := by funext x; simp [bB, z_up]
  have u : aU (bB M i) j = aU M j := by unfold aU; rw [r2 4 (by decide), r2 3 (by decide)]
  have u1 : xu (bB M i) j = xu M j := by unfold xu; rw [u, r2 5 (by decide)]
  have u2 : xb (bB M i) j = xb M j := by unfold xb; rw [u, r2 5 (by decide), r2 3 (by decide)]
  have u3 : xs (bB M i) j = xs M j := by unfold xs; rw [u, r2 5 (by decide), r2 3 (by decide), r2 4 (by decide), f0]
  have L : bB (bA M j) i = up2 (up2 (bA M j) 8 (ix8 i 5) (if ycb M i = true then 0 else M 8 (ix8 i 5))) 8 (ix8 i 7) (if ycb M i = true then M 8 (ix8 i 7) + 1 else M 8 (ix8 i 7)) := by
    unfold bB; rw [r 5 (by decide), r 7 (by decide), ecb]
  have R : bA (bB M i) j = up2 (up2 (up2 (up2 (bB M i) 8 (ix8 j 3) (M 8 (ix8 j 3) - xu M j)) 12 2 (M 12 2 + xu M j)) 8 (ix8 j 5) (xb M j)) 8 (ix8 j 4) (xs M j) := by
    unfold bA; rw [u1, u2, u3, r2 3 (by decide), f0]
  rw [L, R]
  unfold bA bB
  funext k x
  simp only [z_up]
  have d (a b : Nat) (ha : a < 8) (hb : b < 8) : ix8 i a ≠ ix8 j b := by
    intro e; rw [ix8_eq ha hb] at e; exact h e.1
  have d57 := d 5 3 (by decide) (by decide)
  have d1 := d 5 4 (by decide) (by decide)
  have d2 := d 5 5 (by decide) (by decide)
  have d3 := d 7 3 (by decide) (by decide)
  have d4 := d 7 4 (by decide) (by decide)
  have d5 := d 7 5 (by decide) (by decide)
  by_cases k8 : k = 8
  · subst k8
    simp only [↓reduceIte, Nat.reduceEqDiff]
    by_cases x1 : x = ix8 i 7
    · subst x1; simp [d3, d4, d5]
    · by_cases x2 : x = ix8 i 5
      · subst x2; simp [d57, d1, d2, x1]
      · simp [x1, x2]
  · simp [k8]
def goAB (M : St) (i : Nat) : Nat → St
  | 0 => M
  | n + 1 => goAB (bB (bA M i) i) (i + 1) n
def goA (M : St) (i : Nat) : Nat → St
  | 0 => M
  | n + 1 => goA (bA M i) (i + 1) n
def goB (M : St) (i : Nat) : Nat → St
  | 0 => M
  | n + 1 => goB (bB M i) (i + 1) n
theorem goA_B {i : Nat} : ∀ (n j : Nat) (M : St), i < j → goA (bB M i) j n = bB (goA M j n) i := by
  intro n
  induction n with
  | zero => intro j M h; rfl
  | succ n ih => intro j M h; rw [goA, goA, ← bAB (by omega), ih _ _ (by omega)]
theorem goAB_eq : ∀ (n i : Nat) (M : St), goAB M i n = goB (goA M i n) i n := by
  intro n
  induction n with
  | zero => intro i M; rfl
  | succ n ih => intro i M; rw [goAB, ih, goA, goB, goA_B _ _ _ (by omega)]
theorem z_aU {M : St} {l o : Nat} (ho : o ≤ 300) (eo : M 8 (ix8 l 3) = Int32.ofNat o) : ∃ u, u ≤ o ∧ aU M l = Int32.ofNat u := by
  unfold aU; rw [eo]
  by_cases h : M 8 (ix8 l 4) < 5
  · rw [if_pos h, z_l1]
    by_cases h2 : Int32.ofNat 1 < Int32.ofNat o
    · rw [if_pos h2]; rw [z_lt (by omega) (by omega)] at h2; exact ⟨1, by omega, rfl⟩
    · rw [if_neg h2]; exact ⟨o, by omega, rfl⟩
  · rw [if_neg h, show (2 : Int32) = Int32.ofNat 2 from rfl]
    by_cases h2 : Int32.ofNat 2 < Int32.ofNat o
    · rw [if_pos h2]; rw [z_lt (by omega) (by omega)] at h2; exact ⟨2, by omega, rfl⟩
    · rw [if_neg h2]; exact ⟨o, by omega, rfl⟩
theorem ZB_lamp {nc ns nl np : Nat} {M M' : St} {l : Nat} (B : ZB nc ns nl np M) (hl : l < nl) (hb : M 8 (ix8 l 5) = 1)
    (hk : ∀ k, k ≠ 8 → k ≠ 12 → M' k = M k) (h12 : M' 12 0 = M 12 0) (ho : ∀ i w, w < 8 → i ≠ l → M' 8 (ix8 i w) = M 8 (ix8 i w)) (h0 : M' 8 (ix8 l 0) = M 8 (ix8 l 0))
    (h3 : ∃ o, o ≤ 300 ∧ M' 8 (ix8 l 3) = Int32.ofNat o) (h5 : M' 8 (ix8 l 5) = 0 ∨ M' 8 (ix8 l 5) = 1) : ZB nc ns nl np M' := by
  have e9 : M' 9 = M 9 := hk 9 (by decide) (by decide)
  have e10 : M' 10 = M 10 := hk 10 (by decide) (by decide)
  have e6 : M' 6 = M 6 := hk 6 (by decide) (by decide)
  exact (ZB.mk (by rw [hk 1 (by decide) (by decide)]; exact B.k1) (by rw [hk 2 (by decide) (by decide)]; exact B.k2) (by rw [hk 3 (by decide) (by decide)]; exact B.k3) (by rw [hk 4 (by decide) (by decide)]; exact B.k4) (B.l1) (B.l2) (B.l3) (B.l4) (by rw [hk 5 (by decide) (by decide)]; exact B.hi) (by rw [e6]; exact B.sa) (by rw [e6]; exact B.sb) (by rw [e6]; exact B.sl) (fun i hi => by
            by_cases h : i = l
            · subst h; rw [h0]; exact B.lw i hi
            · rw [ho i 0 (by decide) h]; exact B.lw i hi) (fun i => by
            by_cases h : i = l
            · subst h; exact h3
            · rw [ho i 3 (by decide) h]; exact B.lo i) (fun i => by
            by_cases h : i = l
            · subst h; exact h5
            · rw [ho i 5 (by decide) h]; exact B.lb i) (by rw [hk 11 (by decide) (by decide)]; exact B.wd) (by rw [e9]; exact B.ph) (by rw [e9]; exact B.pa) (by rw [e9]; exact B.pc) (by rw [e9, e10]; exact B.pl) (fun p hp => by
            have := B.pg p hp
            unfold ZG at this ⊢
            rw [e9]
            rcases this with g | ⟨i, a1, a2, a3, a4, a5, a6⟩
            · exact .inl g
            · have hi : i ≠ l := by intro e; subst e; rw [hb] at a3; exact absurd a3 (by decide)
              refine .inr ⟨i, a1, a2, ?_, a4, a5, ?_⟩
              · rw [ho i 5 (by decide) hi]; exact a3
              · rw [ho i 3 (by decide) hi]; exact a6) (by rw [e9]; exact B.pd) (by rw [h12]; exact B.mi) (fun i w hi hw => by rw [ho i w hw (by omega)]; exact B.zl i w hi hw) (by rw [e9]; exact B.zp) (by rw [hk 7 (by decide) (by decide)]; exact B.wy))
theorem ZB_A {nc ns nl np : Nat} {M : St} {l : Nat} (B : ZB nc ns nl np M) (hl : l < nl) : ZB nc ns nl np (bA M l) := by
  rcases B.lb l with hb | hb
  · rw [bA_0 hb]; exact B
  · obtain ⟨o, ho, eo⟩ := B.lo l
    obtain ⟨u, hu, eu⟩ := z_aU ho eo
    have hx : ¬ M 8 (ix8 l 5) = 0 := by rw [hb]; decide
    refine ZB_lamp B hl hb ?_ ?_ ?_ ?_ ?_ ?_
    · intro k k8 k12; funext x; simp [bA, z_up, k8, k12]
    · simp [bA, z_up]
    · intro i w hw h; simp [bA, z_up, ix8_eq, hw, h]
    · simp [bA, z_up, ix8_eq]
    · refine ⟨o - u, by omega, ?_⟩
      simp only [bA, z_up, ix8_eq, Nat.reduceLT, ↓reduceIte, Nat.reduceEqDiff, and_false, xu, if_neg hx, eo, eu]
      exact z_sub hu
    · have : bA M l 8 (ix8 l 5) = xb M l := by simp [bA, z_up, ix8_eq]
      rw [this]; unfold xb; rw [if_neg hx]; split
      · exact .inl rfl
      · exact .inr hb
theorem ZB_B {nc ns nl np : Nat} {M : St} {l : Nat} (B : ZB nc ns nl np M) (hl : l < nl) : ZB nc ns nl np (bB M l) := by
  by_cases h : yc M l
  · have hb : M 8 (ix8 l 5) = 1 := (B.lb l).resolve_left h.1
    rw [bB_1 h]
    refine ZB_lamp B hl hb ?_ ?_ ?_ ?_ ?_ ?_
    · intro k k8 k12; funext x; simp [z_up, k8]
    · simp [z_up]
    · intro i w hw h; simp [z_up, ix8_eq, hw, h]
    · simp [z_up, ix8_eq]
    · simpa [z_up, ix8_eq] using B.lo l
    · left; simp [z_up, ix8_eq]
  · rw [bB_0 h]; exact B
theorem z_gust {nc ns nl np : Nat} {M : St} {l : Nat} {w : Int32} (B : ZB nc ns nl np M) (hl : l < nl) : f3_gust M (Int32.ofNat l) w = some (w + ((if M 5 (M 6 (ix3 (M 8 (ix8 l 0)).toNatClampNeg 0)).toNatClampNeg < M 5 (M 6 (ix3 (M 8 (ix8 l 0)).toNatClampNeg 1)).toNatClampNeg then M 5 (M 6 (ix3 (M 8 (ix8 l 0)).toNatClampNeg 1)).toNatClampNeg else M 5 (M 6 (ix3 (M 8 (ix8 l 0)).toNatClampNeg 0)).toNatClampNeg) / 10)) := by
  have l1 := B.l1; have l2 := B.l2; have l3 := B.l3
  obtain ⟨s, hs, es⟩ := B.lw l hl
  obtain ⟨a, ha, ea⟩ := B.sa s hs
  obtain ⟨b, hb, eb⟩ := B.sb s hs
  unfold f3_gust
  simp (disch := omega) only [z_la0, bd_e, es, z_ro0, z_ro1, z_clamp, ea, eb, z_xin, gd_t]
theorem z_burn {nc ns nl np : Nat} {M : St} {l : Nat} (B : ZB nc ns nl np M) (hl : l < nl) (hm : ∃ m, m < 600 ∧ M 12 0 = Int32.ofNat m) : f3_burn M (Int32.ofNat l) = some (bB (bA M l) l) := by
  have l1 := B.l1; have l2 := B.l2; have l3 := B.l3
  obtain ⟨m, hm, em⟩ := hm
  have BA := ZB_A B hl
  have tail : ∀ M22, ZB nc ns nl np M22 → M22 12 0 = Int32.ofNat m → (bd (f3_la M22 (Int32.ofNat l) 5) fun v23 =>
        if v23 = 0 then some M22 else
          if ((M22 12 (0 : Int32).toNatClampNeg) - (M22 12 (0 : Int32).toNatClampNeg) / 10 * 10) = 0 then
            gd (xin ((M22 12 (0 : Int32).toNatClampNeg) / 60) 10) <|
            bd (f3_gust M22 (Int32.ofNat l) (M22 11 ((M22 12 (0 : Int32).toNatClampNeg) / 60).toNatClampNeg)) fun v28 =>
            bd (f3_la M22 (Int32.ofNat l) 2) fun v31 =>
            if (v31 + 4) < v28 then
              bd (f3_setLamp M22 (Int32.ofNat l) 5 0) fun M34 =>
              bd (f3_la M34 (Int32.ofNat l) 7) fun v36 =>
              bd (f3_setLamp M34 (Int32.ofNat l) 7 (v36 + 1)) fun M39 => some M39
            else some M22
          else some M22) = some (bB M22 l) := by
    intro X BX eX
    have c0 : (0 : Int32).toNatClampNeg = 0 := rfl
    rw [z_la5 (by omega), bd_e]
    simp only [c0]
    by_cases h1 : X 8 (ix8 l 5) = 0
    · rw [if_pos h1, bB_0 (fun h => h.1 h1)]
    · rw [if_neg h1]
      by_cases h2 : X 12 0 - X 12 0 / 10 * 10 = 0
      · rw [if_pos h2]
        have : xin (X 12 0 / 60) 10 = true := by
          rw [eX, show (60 : Int32) = Int32.ofNat 60 from rfl, z_div (by omega) (by omega)]; exact z_xin (by omega) (by omega)
        rw [this, gd_t, z_gust BX hl, bd_e, z_la2 (by omega), bd_e]
        by_cases h3 : X 8 (ix8 l 2) + 4 < zgust X l
        · have h3' := h3
          unfold zgust at h3'
          rw [if_pos h3', z_setLamp5 (by omega), bd_e, z_la7 (by omega), bd_e, z_setLamp7 (by omega), bd_e, bB_1 ⟨h1, h2, h3⟩]
          simp [z_up, ix8_eq]
        · have h3' := h3
          unfold zgust at h3'
          rw [if_neg h3', bB_0 (fun h => h3 h.2.2)]
      · rw [if_neg h2, bB_0 (fun h => h2 h.2.1)]
  unfold f3_burn
  rw [z_la5 (by omega), bd_e]
  by_cases h : M 8 (ix8 l 5) = 0
  · rw [if_pos h, bA_0 h, bB_0 (fun k => k.1 h)]
  · rw [if_neg h, z_la3 (by omega), bd_e, z_la4 (by omega), bd_e]
    have body : ∀ J : Int32 → Option St, (lt_ J fun J31 => if M 8 (ix8 l 4) < 5 then J31 1 else J31 2) = J (if M 8 (ix8 l 4) < 5 then 1 else 2) := by
      intro J; rw [lt_e]; split <;> rfl
    rw [body]
    simp only [lt_e]
    have hu : (if (if M 8 (ix8 l 4) < 5 then (1 : Int32) else 2) < M 8 (ix8 l 3) then (if M 8 (ix8 l 4) < 5 then (1 : Int32) else 2) else M 8 (ix8 l 3)) = aU M l := rfl
    rw [hu, bd_e, z_setLamp3 (by omega), bd_e, z_la3 (by omega), bd_e]
    have c2 : (2 : Int32).toNatClampNeg = 2 := rfl
    have c0 : (0 : Int32).toNatClampNeg = 0 := rfl
    have r1 : (up2 (up2 M 8 (ix8 l 3) (M 8 (ix8 l 3) - aU M l)) 12 (2 : Int32).toNatClampNeg (up2 M 8 (ix8 l 3) (M 8 (ix8 l 3) - aU M l) 12 (2 : Int32).toNatClampNeg + aU M l)) 8 (ix8 l 3) = M 8 (ix8 l 3) - aU M l := by
      rw [c2]; simp [z_up]
    have r2 : up2 M 8 (ix8 l 3) (M 8 (ix8 l 3) - aU M l) 12 (2 : Int32).toNatClampNeg = M 12 2 := by rw [c2]; simp [z_up]
    rw [r1, r2, c2]
    by_cases h2 : M 8 (ix8 l 3) - aU M l = 0
    · rw [if_pos h2, z_setLamp5 (by omega), bd_e]
      refine Eq.trans ?_ (tail (bA M l) BA ?_)
      · rw [bA_1 h h2, h2]
      · simpa [bA, z_up] using em
    · rw [if_neg h2]
      have r3 : (up2 (up2 M 8 (ix8 l 3) (M 8 (ix8 l 3) - aU M l)) 12 2 (M 12 2 + aU M l)) 12 (0 : Int32).toNatClampNeg = M 12 0 := by rw [c0]; simp [z_up]
      have r4 : (up2 (up2 M 8 (ix8 l 3) (M 8 (ix8 l 3) - aU M l)) 12 2 (M 12 2 + aU M l)) 8 (ix8 l 4) = M 8 (ix8 l 4) := by simp [z_up, ix8_eq]
      rw [r3]
      by_cases h3 : M 12 0 - M 12 0 / 30 * 30 = 0
      · rw [if_pos h3, z_la4 (by omega), bd_e, r4, z_setLamp4 (by omega), bd_e]
        refine Eq.trans ?_ (tail (bA M l) BA ?_)
        · rw [bA_2 h h2 h3]
        · simpa [bA, z_up] using em
      · rw [if_neg h3]
        refine Eq.trans ?_ (tail (bA M l) BA ?_)
        · rw [bA_3 h h2 h3, r3]
        · simpa [bA, z_up] using em
theorem bsum_same {M M' : St} {nl s : Nat} (h0 : ∀ i, M' 8 (ix8 i 0) = M 8 (ix8 i 0)) (h5 : ∀ i, M' 8 (ix8 i 5) = M 8 (ix8 i 5)) : bsum M' nl s = bsum M nl s := by
  unfold bsum; refine zsum_congr (fun i _ => ?_); rw [h0, h5]
theorem bsum_off {M M' : St} {nl s s' l : Nat} (hl : l < nl) (hs : s < 18) (hs' : s' < 18) (h0 : ∀ i, M' 8 (ix8 i 0) = M 8 (ix8 i 0)) (h5 : ∀ i, i ≠ l → M' 8 (ix8 i 5) = M 8 (ix8 i 5)) (hw : M 8 (ix8 l 0) = Int32.ofNat s) (hb : M 8 (ix8 l 5) = 1) (hb' : M' 8 (ix8 l 5) = 0) : bsum M' nl s' = if s' = s then bsum M nl s' - 1 else bsum M nl s' := by
  unfold bsum
  by_cases h : s' = s
  · subst h
    rw [if_pos rfl, Int32.sub_eq_add_neg]
    refine zsum_upd (k := l) hl ?_ ?_
    · simp only [h0, hw, ↓reduceIte, hb, hb']; decide
    · intro i hi; rw [h0, h5 i hi]
  · rw [if_neg h]
    refine zsum_congr (fun i _ => ?_)
    by_cases hi : i = l
    · subst hi
      have : ¬ Int32.ofNat s = Int32.ofNat s' := by rw [z_inj (by omega) (by omega)]; omega
      rw [h0, hw, if_neg this, if_neg this]
    · rw [h0, h5 i hi]
theorem z_putOut {T N : St} {l s : Nat} (hl : l < 20) (hs : s < 18) (h8 : T 8 l = Int32.ofNat s) : f0_putOut N T (Int32.ofNat l) = some (up2 (up2 N 6 l 0) 3 s (N 3 s - 1)) := by
  unfold f0_putOut
  simp (disch := omega) only [z_xin, z_clamp, gd_t, lt_e, h8, z_nar0]
  have : up2 N 6 l 0 3 s = N 3 s := by simp [z_up]
  rw [this]
theorem ZE_A1 {nc ns nl np : Nat} {T N M : St} {l s : Nat} {u : Int32} (E : ZE nc nl T N M) (B : ZB nc ns nl np M) (hl : l < nl) (hs : s < ns) (hw : M 8 (ix8 l 0) = Int32.ofNat s) (hb : M 8 (ix8 l 5) = 1) :
    ZE nc nl T (up2 (up2 (up2 (up2 N 4 l 0) 2 0 (N 2 0 + u)) 6 l 0) 3 s (N 3 s - 1)) (up2 (up2 (up2 M 8 (ix8 l 3) 0) 12 2 (M 12 2 + u)) 8 (ix8 l 5) 0) := by
  have l2 := B.l2
  exact (ZE.mk (E.c0) (E.c3) (E.c7) (E.c12) (E.h1) (E.w11) (E.t4) (E.t5) (E.t6) (fun q => by simp [z_up, ix8_eq, E.t8]) (fun q => by simp [z_up, ix8_eq, E.t9]) (fun q => by simp [z_up, ix8_eq, E.t10]) (fun q hq => by simp [z_up, ix8_eq, E.n4 q hq]) (fun q hq => by simp [z_up, ix8_eq, E.n5 q hq]) (fun q hq => by simp [z_up, ix8_eq, E.n6 q hq]) (fun q hq => by simp [z_up, ix8_eq, E.n7 q hq]) (fun q hq => by simp [z_up, ix8_eq, E.n8 q hq]) (E.t13) (E.n9) (E.t14) (E.n10) (E.t15) (E.n11) (E.n13) (E.n12) (E.n14) (E.n15) (E.rd) (E.n0) (E.n1) (by simp [z_up, E.n2]) (fun s' hs' => by
      have h := E.n3 s' hs'
      rw [bsum_off (M := M) (l := l) (s := s) hl (by omega) hs' (by intro i; simp [z_up, ix8_eq]) (by intro i hi; simp [z_up, ix8_eq, hi]) hw hb (by simp [z_up, ix8_eq])]
      by_cases h1 : s' = s
      · subst h1; simp [z_up, h]
      · simp [z_up, h1, h]) (E.wy))
theorem ZE_A2 {nc ns nl np : Nat} {T N M : St} {l : Nat} {x u z : Int32} (E : ZE nc nl T N M) (B : ZB nc ns nl np M) :
    ZE nc nl T (up2 (up2 (up2 N 4 l x) 2 0 (N 2 0 + u)) 5 l z) (up2 (up2 (up2 M 8 (ix8 l 3) x) 12 2 (M 12 2 + u)) 8 (ix8 l 4) z) := by
  exact (ZE.mk (E.c0) (E.c3) (E.c7) (E.c12) (E.h1) (E.w11) (E.t4) (E.t5) (E.t6) (fun q => by simp [z_up, ix8_eq, E.t8]) (fun q => by simp [z_up, ix8_eq, E.t9]) (fun q => by simp [z_up, ix8_eq, E.t10]) (fun q hq => by simp [z_up, ix8_eq, E.n4 q hq]) (fun q hq => by simp [z_up, ix8_eq, E.n5 q hq]) (fun q hq => by simp [z_up, ix8_eq, E.n6 q hq]) (fun q hq => by simp [z_up, ix8_eq, E.n7 q hq]) (fun q hq => by simp [z_up, ix8_eq, E.n8 q hq]) (E.t13) (E.n9) (E.t14) (E.n10) (E.t15) (E.n11) (E.n13) (E.n12) (E.n14) (E.n15) (E.rd) (E.n0) (E.n1) (by simp [z_up, E.n2]) (fun s' hs' => by
      have h := E.n3 s' hs'
      rw [bsum_same (M := M) (by intro i; simp [z_up, ix8_eq]) (by intro i; simp [z_up, ix8_eq])]
      simp [z_up, h]) (E.wy))
theorem ZE_A3 {nc ns nl np : Nat} {T N M : St} {l : Nat} {x u : Int32} (E : ZE nc nl T N M) (B : ZB nc ns nl np M) :
    ZE nc nl T (up2 (up2 N 4 l x) 2 0 (N 2 0 + u)) (up2 (up2 M 8 (ix8 l 3) x) 12 2 (M 12 2 + u)) := by
  exact (ZE.mk (E.c0) (E.c3) (E.c7) (E.c12) (E.h1) (E.w11) (E.t4) (E.t5) (E.t6) (fun q => by simp [z_up, ix8_eq, E.t8]) (fun q => by simp [z_up, ix8_eq, E.t9]) (fun q => by simp [z_up, ix8_eq, E.t10]) (fun q hq => by simp [z_up, ix8_eq, E.n4 q hq]) (fun q hq => by simp [z_up, ix8_eq, E.n5 q hq]) (fun q hq => by simp [z_up, ix8_eq, E.n6 q hq]) (fun q hq => by simp [z_up, ix8_eq, E.n7 q hq]) (fun q hq => by simp [z_up, ix8_eq, E.n8 q hq]) (E.t13) (E.n9) (E.t14) (E.n10) (E.t15) (E.n11) (E.n13) (E.n12) (E.n14) (E.n15) (E.rd) (E.n0) (E.n1) (by simp [z_up, E.n2]) (fun s' hs' => by
      have h := E.n3 s' hs'
      rw [bsum_same (M := M) (by intro i; simp [z_up, ix8_eq]) (by intro i; simp [z_up, ix8_eq])]
      simp [z_up, h]) (E.wy))
theorem ZE_B1 {nc ns nl np : Nat} {T N M : St} {l s : Nat} (E : ZE nc nl T N M) (B : ZB nc ns nl np M) (hl : l < nl) (hs : s < ns) (hw : M 8 (ix8 l 0) = Int32.ofNat s) (hb : M 8 (ix8 l 5) = 1) :
    ZE nc nl T (up2 (up2 (up2 N 6 l 0) 3 s (N 3 s - 1)) 8 l (N 8 l + 1)) (up2 (up2 M 8 (ix8 l 5) 0) 8 (ix8 l 7) (M 8 (ix8 l 7) + 1)) := by
  have l2 := B.l2
  have e8 := E.n8 l (by have := B.l3; omega)
  exact (ZE.mk (E.c0) (E.c3) (E.c7) (E.c12) (E.h1) (E.w11) (E.t4) (E.t5) (E.t6) (fun q => by simp [z_up, ix8_eq, e8, E.t8]) (fun q => by simp [z_up, ix8_eq, e8, E.t9]) (fun q => by simp [z_up, ix8_eq, e8, E.t10]) (fun q hq => by simp [z_up, ix8_eq, e8, E.n4 q hq]) (fun q hq => by simp [z_up, ix8_eq, e8, E.n5 q hq]) (fun q hq => by simp [z_up, ix8_eq, e8, E.n6 q hq]) (fun q hq => by simp [z_up, ix8_eq, e8, E.n7 q hq]) (fun q hq => by simp [z_up, ix8_eq, e8, E.n8 q hq]) (E.t13) (E.n9) (E.t14) (E.n10) (E.t15) (E.n11) (E.n13) (E.n12) (E.n14) (E.n15) (E.rd) (E.n0) (E.n1) (E.n2) (fun s' hs' => by
      have h := E.n3 s' hs'
      rw [bsum_off (M := M) (l := l) (s := s) hl (by omega) hs' (by intro i; simp [z_up, ix8_eq]) (by intro i hi; simp [z_up, ix8_eq, hi]) hw hb (by simp [z_up, ix8_eq])]
      by_cases h1 : s' = s
      · subst h1; simp [z_up, h]
      · simp [z_up, h1, h]) (E.wy))
theorem z_stepA {nc ns nl np : Nat} {T N M : St} {i fu : Nat} (E : ZE nc nl T N M) (B : ZB nc ns nl np M) (hi : i < nl) :
    ∃ N', f0_burnLamps_L2 T (fu + 1) (Int32.ofNat i) N = f0_burnLamps_L2 T fu (Int32.ofNat (i + 1)) N' ∧ ZE nc nl T N' (bA M i) := by
  have l1 := B.l1; have l2 := B.l2; have l3 := B.l3
  obtain ⟨s, hs, es⟩ := B.lw i hi
  rw [f0_burnLamps_L2, if_neg (by rw [E.c7, B.k3, z_le (by omega) (by omega)]; omega), z_xin (by omega) (by omega), gd_t]
  simp only [lt_e]
  rw [z_clamp (n := i) (by omega), E.n6 i (by omega), z_s1]
  by_cases h : M 8 (ix8 i 5) = 0
  · refine ⟨N, ?_, by rw [bA_0 h]; exact E⟩
    rw [if_pos h, if_pos h]
  · have hb : M 8 (ix8 i 5) = 1 := (B.lb i).resolve_left h
    rw [if_neg h]
    have hU : f0_useOil N T (Int32.ofNat i) = some (if M 8 (ix8 i 3) - aU M i = 0 then up2 (up2 (up2 (up2 N 4 i 0) 2 0 (N 2 0 + aU M i)) 6 i 0) 3 s (N 3 s - 1) else up2 (up2 N 4 i (M 8 (ix8 i 3) - aU M i)) 2 0 (N 2 0 + aU M i)) := by
      unfold f0_useOil
      have body : ∀ J : Int32 → Option St, (lt_ J fun J21 => if N 5 (Int32.ofNat i).toNatClampNeg < 5 then J21 1 else J21 2) = J (if M 8 (ix8 i 4) < 5 then 1 else 2) := by
        intro J; rw [lt_e, z_clamp (by omega), E.n5 i (by omega)]; split <;> rfl
      rw [z_xin (by omega) (by omega), gd_t, body]
      simp only [lt_e]
      rw [z_clamp (n := i) (by omega), E.n4 i (by omega)]
      have hu : (if (if M 8 (ix8 i 4) < 5 then (1 : Int32) else 2) < M 8 (ix8 i 3) then (if M 8 (ix8 i 4) < 5 then (1 : Int32) else 2) else M 8 (ix8 i 3)) = aU M i := rfl
      rw [hu]
      have r1 : up2 (up2 N 4 i (M 8 (ix8 i 3) - aU M i)) 2 0 (up2 N 4 i (M 8 (ix8 i 3) - aU M i) 2 0 + aU M i) 4 i = M 8 (ix8 i 3) - aU M i := by simp [z_up]
      have r2 : up2 N 4 i (M 8 (ix8 i 3) - aU M i) 2 0 = N 2 0 := by simp [z_up]
      rw [r1, r2]
      by_cases h2 : M 8 (ix8 i 3) - aU M i = 0
      · rw [if_pos h2, if_pos h2, z_putOut (s := s) (by omega) (by omega) ((E.t8 i).trans es), bd_e, h2]
        simp [z_up]
      · rw [if_neg h2, if_neg h2]
    rw [hU, bd_e]
    by_cases h2 : M 8 (ix8 i 3) - aU M i = 0
    · rw [if_pos h2]
      refine ⟨_, ?_, by rw [bA_1 h h2]; exact ZE_A1 E B hi hs es hb⟩
      rw [if_pos]; simp [z_up]
    · rw [if_neg h2]
      have r1 : (up2 (up2 N 4 i (M 8 (ix8 i 3) - aU M i)) 2 0 (N 2 0 + aU M i)) 6 i = M 8 (ix8 i 5) := by simp [z_up, E.n6 i (show i < 20 by omega)]
      have r2 : (up2 (up2 N 4 i (M 8 (ix8 i 3) - aU M i)) 2 0 (N 2 0 + aU M i)) 0 0 = M 12 0 := by simp [z_up, E.n0]
      have r3 : (up2 (up2 N 4 i (M 8 (ix8 i 3) - aU M i)) 2 0 (N 2 0 + aU M i)) 5 i = M 8 (ix8 i 4) := by simp [z_up, E.n5 i (show i < 20 by omega)]
      rw [r1, if_neg h, r2, r3]
      by_cases h3 : M 12 0 - M 12 0 / 30 * 30 = 0
      · rw [if_pos h3]
        exact ⟨_, rfl, by rw [bA_2 h h2 h3]; exact ZE_A2 E B⟩
      · rw [if_neg h3]
        exact ⟨_, rfl, by rw [bA_3 h h2 h3]; exact ZE_A3 E B⟩
theorem z_windAt {nc ns nl np : Nat} {T N M : St} {l : Nat} {w : Int32} (E : ZE nc nl T N M) (B : ZB nc ns nl np M) (hl : l < nl) : f1_windAtLamp T (Int32.ofNat l) w = some (w + ((if M 5 (M 6 (ix3 (M 8 (ix8 l 0)).toNatClampNeg 0)).toNatClampNeg < M 5 (M 6 (ix3 (M 8 (ix8 l 0)).toNatClampNeg 1)).toNatClampNeg then M 5 (M 6 (ix3 (M 8 (ix8 l 0)).toNatClampNeg 1)).toNatClampNeg else M 5 (M 6 (ix3 (M 8 (ix8 l 0)).toNatClampNeg 0)).toNatClampNeg) / 10)) := by
  have l1 := B.l1; have l2 := B.l2; have l3 := B.l3
  obtain ⟨s, hs, es⟩ := B.lw l hl
  obtain ⟨a, ha, ea⟩ := B.sa s hs
  obtain ⟨b, hb, eb⟩ := B.sb s hs
  unfold f1_windAtLamp
  simp (disch := omega) only [z_xin, gd_t, lt_e, z_clamp, E.t8, es, E.t4, E.t5, ea, eb, E.h1]
theorem z_stepB {nc ns nl np : Nat} {T N M : St} {i fu : Nat} (E : ZE nc nl T N M) (B : ZB nc ns nl np M) (hi : i < nl) (hm : M 12 0 - M 12 0 / 10 * 10 = 0) :
    ∃ N', f0_blow_L2 (T 11 (M 12 0 / 60).toNatClampNeg) T (fu + 1) (Int32.ofNat i) N = f0_blow_L2 (T 11 (M 12 0 / 60).toNatClampNeg) T fu (Int32.ofNat (i + 1)) N' ∧ ZE nc nl T N' (bB M i) := by
  have l1 := B.l1; have l2 := B.l2; have l3 := B.l3
  obtain ⟨s, hs, es⟩ := B.lw i hi
  rw [f0_blow_L2, if_neg (by rw [E.c7, B.k3, z_le (by omega) (by omega)]; omega), z_xin (by omega) (by omega), gd_t]
  simp only [lt_e]
  rw [z_clamp (n := i) (by omega), E.n6 i (by omega), z_s1]
  by_cases h : M 8 (ix8 i 5) = 0
  · exact ⟨N, by rw [if_pos h], by rw [bB_0 (fun k => k.1 h)]; exact E⟩
  · have hb : M 8 (ix8 i 5) = 1 := (B.lb i).resolve_left h
    rw [if_neg h, z_windAt E B hi, bd_e, E.t10, E.w11]
    by_cases h3 : M 8 (ix8 i 2) + 4 < zgust M i
    · have h3' : ¬ zgust M i ≤ M 8 (ix8 i 2) + 4 := Int32.not_le.mpr h3
      unfold zgust at h3'
      rw [if_neg h3', z_putOut (s := s) (by omega) (by omega) ((E.t8 i).trans es), bd_e]
      refine ⟨_, rfl, ?_⟩
      rw [bB_1 ⟨h, hm, h3⟩]
      have : (up2 (up2 N 6 i 0) 3 s (N 3 s - 1)) 8 i = N 8 i := by simp [z_up]
      rw [this]
      exact ZE_B1 E B hi hs es hb
    · have h3' : zgust M i ≤ M 8 (ix8 i 2) + 4 := Int32.not_lt.mp h3
      unfold zgust at h3'
      rw [if_pos h3']
      exact ⟨N, rfl, by rw [bB_0 (fun k => h3 k.2.2)]; exact E⟩
theorem ZK_bA {M : St} {l : Nat} (hl : l < 20) : ZK M (bA M l) := by
  unfold bA
  exact ZK_8 hl (by decide) (ZK_8 hl (by decide) (ZK_12 (by decide) (ZK_8 hl (by decide) (ZK_refl M))))
theorem ZK_bB {M : St} {l : Nat} (hl : l < 20) : ZK M (bB M l) := by
  unfold bB
  exact ZK_8 hl (by decide) (ZK_8 hl (by decide) (ZK_refl M))
theorem bA_r {M : St} {l : Nat} : bA M l 12 0 = M 12 0 ∧ ∀ i, bA M l 8 (ix8 i 6) = M 8 (ix8 i 6) := by
  refine ⟨by simp [bA, z_up], fun i => by simp [bA, z_up, ix8_eq]⟩
theorem bB_r {M : St} {l : Nat} : bB M l 12 0 = M 12 0 ∧ ∀ i, bB M l 8 (ix8 i 6) = M 8 (ix8 i 6) := by
  refine ⟨by simp [bB, z_up], fun i => by simp [bB, z_up, ix8_eq]⟩
theorem z_loopA {nc ns nl np : Nat} {T : St} : ∀ (fu i n : Nat) (N M : St), ZE nc nl T N M → ZB nc ns nl np M → i + n = nl → n < fu →
    ∃ N', f0_burnLamps_L2 T fu (Int32.ofNat i) N = some N' ∧ ZE nc nl T N' (goA M i n) ∧ ZB nc ns nl np (goA M i n) ∧ ZK M (goA M i n) ∧ goA M i n 12 0 = M 12 0 ∧ ∀ j, goA M i n 8 (ix8 j 6) = M 8 (ix8 j 6) := by
  intro fu
  induction fu with
  | zero => intro i n N M E B h1 h2; omega
  | succ fu ih =>
    intro i n N M E B h1 h2
    have l3 := B.l3
    cases n with
    | zero =>
      refine ⟨N, ?_, E, B, ZK_refl M, rfl, fun _ => rfl⟩
      rw [f0_burnLamps_L2, if_pos (by rw [E.c7, B.k3, z_le (by omega) (by omega)]; omega)]
    | succ n =>
      obtain ⟨N1, s1, E1⟩ := z_stepA (fu := fu) E B (show i < nl by omega)
      obtain ⟨N2, t1, E2, B2, k2, r0, r6⟩ := ih (i + 1) n N1 (bA M i) E1 (ZB_A B (by omega)) (by omega) (by omega)
      exact ⟨N2, s1.trans t1, E2, B2, ZK_trans (ZK_bA (by omega)) k2, r0.trans bA_r.1, fun j => (r6 j).trans (bA_r.2 j)⟩
theorem z_loopB {nc ns nl np : Nat} {T : St} {x : Int32} (hx : x - x / 10 * 10 = 0) : ∀ (fu i n : Nat) (N M : St), ZE nc nl T N M → ZB nc ns nl np M → M 12 0 = x → i + n = nl → n < fu →
    ∃ N', f0_blow_L2 (T 11 (x / 60).toNatClampNeg) T fu (Int32.ofNat i) N = some N' ∧ ZE nc nl T N' (goB M i n) := by
  intro fu
  induction fu with
  | zero => intro i n N M E B hm h1 h2; omega
  | succ fu ih =>
    intro i n N M E B hm h1 h2
    have l3 := B.l3
    cases n with
    | zero =>
      refine ⟨N, ?_, E⟩
      rw [f0_blow_L2, if_pos (by rw [E.c7, B.k3, z_le (by omega) (by omega)]; omega)]
    | succ n =>
      obtain ⟨N1, s1, E1⟩ := z_stepB (fu := fu) E B (show i < nl by omega) (by rw [hm]; exact hx)
      obtain ⟨N2, t1, E2⟩ := ih (i + 1) n N1 (bB M i) E1 (ZB_B B (by omega)) (bB_r.1.trans hm) (by omega) (by omega)
      rw [hm] at s1
      exact ⟨N2, s1.trans t1, E2⟩
theorem goB_r {nc ns nl np : Nat} : ∀ (n i : Nat) (M : St), ZB nc ns nl np M → i + n = nl → ZB nc ns nl np (goB M i n) ∧ ZK M (goB M i n) ∧ goB M i n 12 0 = M 12 0 ∧ ∀ j, goB M i n 8 (ix8 j 6) = M 8 (ix8 j 6) := by
  intro n
  induction n with
  | zero => intro i M B h; exact ⟨B, ZK_refl M, rfl, fun _ => rfl⟩
  | succ n ih =>
    intro i M B h
    have l3 := B.l3
    obtain ⟨a, b, c, d⟩ := ih (i + 1) (bB M i) (ZB_B B (by omega)) (by omega)
    exact ⟨a, ZK_trans (ZK_bB (by omega)) b, c.trans bB_r.1, fun j => (d j).trans (bB_r.2 j)⟩
theorem goB_id : ∀ (n i : Nat) (M : St), ¬ M 12 0 - M 12 0 / 10 * 10 = 0 → goB M i n = M := by
  intro n
  induction n with
  | zero => intro i M h; rfl
  | succ n ih => intro i M h; rw [goB, bB_0 (fun k => h k.2.1)]; exact ih _ _ h
theorem z_loopM {nc ns nl np : Nat} {K : St → Option (Int32 × St)} : ∀ (fu i n : Nat) (M : St), ZB nc ns nl np M → (∃ m, m < 600 ∧ M 12 0 = Int32.ofNat m) → i + n = nl → n < fu →
    f3_minuteOn_L41 K fu (Int32.ofNat i) M = K (goAB M i n) := by
  intro fu
  induction fu with
  | zero => intro i n M B hm h1 h2; omega
  | succ fu ih =>
    intro i n M B hm h1 h2
    have l3 := B.l3
    cases n with
    | zero => rw [f3_minuteOn_L41, if_pos (by rw [B.k3, z_le (by omega) (by omega)]; omega)]; rfl
    | succ n =>
      rw [f3_minuteOn_L41, if_neg (by rw [B.k3, z_le (by omega) (by omega)]; omega), z_burn B (by omega) hm, bd_e, z_s1, goAB]
      refine ih (i + 1) n _ (ZB_B (ZB_A B (by omega)) (by omega)) ?_ (by omega) (by omega)
      rw [bB_r.1, bA_r.1]; exact hm
theorem z_minute {nc ns nl np m : Nat} {T N M : St} (E : ZE nc nl T N M) (B : ZB nc ns nl np M) (hm : m < 600) (em : M 12 0 = Int32.ofNat m) :
    ∃ N' M' v w, f3_minuteOn M = some (v, M') ∧ ZE nc nl T N' M' ∧ ZB nc ns nl np M' ∧ ZK M M' ∧ M' 12 0 = Int32.ofNat (m + 1) ∧ zlit M' nl = zlit M nl + w ∧
      (∀ l, l < nl → ∃ j, j ≤ 4 ∧ M' 8 (ix8 l 6) = M 8 (ix8 l 6) + Int32.ofNat j ∧ zbit v l = if j = 0 then 0 else 1) ∧
      ∀ (fu : Nat) (p2 v1 v2 : Int32), ¬ p2 ≤ v2 → f0_goBy_L5 p2 T (fu + 1) v1 v2 N = f0_goBy_L5 p2 T fu (v1 + w) (v2 + 1) N' := by
  have l3 := B.l3; have l4 := B.l4
  obtain ⟨N1, M1, v', w, a1, a2, E1, B1, a3, a4, a5, a6⟩ := z_move (T := T) xF 0 N M (Int32.ofNat 0) (Int32.ofNat 0) E B (by omega) (by unfold xF; omega)
  have em1 : M1 12 0 = Int32.ofNat m := by rw [a3]; exact em
  obtain ⟨N2, b1, E2, B2, b2, b3, b4⟩ := z_loopA (ns := ns) (np := np) (T := T) xF 0 nl N1 M1 E1 B1 (by omega) (by unfold xF; omega)
  obtain ⟨B3, c2, c3, c4⟩ := goB_r nl 0 (goA M1 0 nl) B2 (by omega)
  have em2 : goA M1 0 nl 12 0 = Int32.ofNat m := b3.trans em1
  have hM : f3_minuteOn M = some (v', up2 (goB (goA M1 0 nl) 0 nl) 12 0 (Int32.ofNat (m + 1))) := by
    unfold f3_minuteOn
    rw [z_l0, a2, z_loopM xF 0 nl M1 B1 ⟨m, hm, em1⟩ (by omega) (by unfold xF; omega), goAB_eq, lt_e]
    have : (Int32.ofNat 0).toNatClampNeg = 0 := rfl
    rw [this, c3, em2, z_s1]
  have fin : ∀ N3, ZE nc nl T N3 (goB (goA M1 0 nl) 0 nl) → ZE nc nl T (up2 N3 0 0 (N3 0 0 + 1)) (up2 (goB (goA M1 0 nl) 0 nl) 12 0 (Int32.ofNat (m + 1))) := by
    intro N3 E3
    exact (ZE.mk (E3.c0) (E3.c3) (E3.c7) (E3.c12) (E3.h1) (E3.w11) (E3.t4) (E3.t5) (E3.t6) (E3.t8) (E3.t9) (E3.t10) (E3.n4) (E3.n5) (E3.n6) (E3.n7) (E3.n8) (E3.t13) (E3.n9) (E3.t14) (E3.n10) (E3.t15) (E3.n11) (E3.n13) (E3.n12) (E3.n14) (E3.n15) (E3.rd) (by
        have := E3.n0
        rw [c3, em2] at this
        simp [z_up, this]) (by simp [z_up, E3.n1]) (by simp [z_up, E3.n2]) (E3.n3) (E3.wy))
  have BF : ZB nc ns nl np (up2 (goB (goA M1 0 nl) 0 nl) 12 0 (Int32.ofNat (m + 1))) :=
    (ZB.mk (B3.k1) (B3.k2) (B3.k3) (B3.k4) (B3.l1) (B3.l2) (B3.l3) (B3.l4) (B3.hi) (B3.sa) (B3.sb) (B3.sl) (B3.lw) (B3.lo) (B3.lb) (B3.wd) (B3.ph) (B3.pa) (B3.pc) (B3.pl) (B3.pg) (B3.pd) (⟨m + 1, by omega, by simp [z_up]⟩) (B3.zl) (B3.zp) (B3.wy))
  have KF : ZK M (up2 (goB (goA M1 0 nl) 0 nl) 12 0 (Int32.ofNat (m + 1))) := ZK_12 (by decide) (ZK_trans a4 (ZK_trans b2 c2))
  have L6 : ∀ j, (up2 (goB (goA M1 0 nl) 0 nl) 12 0 (Int32.ofNat (m + 1))) 8 (ix8 j 6) = M1 8 (ix8 j 6) := fun j => (c4 j).trans (b4 j)
  have LIT : zlit (up2 (goB (goA M1 0 nl) 0 nl) 12 0 (Int32.ofNat (m + 1))) nl = zlit M nl + w := by
    rw [← a5]; unfold zlit; exact zsum_congr (fun i _ => L6 i)
  have BITS : ∀ l, l < nl → ∃ j, j ≤ 4 ∧ (up2 (goB (goA M1 0 nl) 0 nl) 12 0 (Int32.ofNat (m + 1))) 8 (ix8 l 6) = M 8 (ix8 l 6) + Int32.ofNat j ∧ zbit v' l = if j = 0 then 0 else 1 := by
    intro l hl
    obtain ⟨j, j1, j2, j3⟩ := a6 l hl
    refine ⟨j, by omega, (L6 l).trans j2, ?_⟩
    rw [j3, show zbit (Int32.ofNat 0) l = 0 from zbit_zero l (by omega)]
  have hN : ∀ (fu : Nat) (p2 v1 v2 : Int32), ¬ p2 ≤ v2 → f0_goBy_L5 p2 T (fu + 1) v1 v2 N = lt_ (fun N11 : St => f0_goBy_L5 p2 T fu (v1 + w) (v2 + 1) (up2 N11 0 0 (N11 0 0 + 1))) fun J => if Int32.ofNat m - Int32.ofNat m / 10 * 10 = 0 then gd (xin (Int32.ofNat m / 60) 10) (bd (f0_blow N2 T (T 11 (Int32.ofNat m / 60).toNatClampNeg)) J) else J N2 := by
    intro fu p2 v1 v2 hp
    have hmv : f0_moveLighters N T = some (w, N1) := by
      unfold f0_moveLighters; rw [z_l0, a1]; congr 2; exact Int32.zero_add _
    have hbl : f0_burnLamps N1 T = some N2 := by unfold f0_burnLamps; rw [z_l0, b1]
    rw [f0_goBy_L5, if_neg hp, if_neg (by rw [E.n0, em, show (600 : Int32) = Int32.ofNat 600 from rfl, z_le (by omega) (by omega)]; omega), hmv, bd2_e, lt_e, hbl, bd_e]
    simp only [lt_e]
    rw [E2.n0, em2]
  by_cases h10 : Int32.ofNat m - Int32.ofNat m / 10 * 10 = 0
  · obtain ⟨N3, d1, E3⟩ := z_loopB (ns := ns) (np := np) (T := T) h10 xF 0 nl N2 (goA M1 0 nl) E2 B2 em2 (by omega) (by unfold xF; omega)
    refine ⟨_, _, v', w, hM, fin N3 E3, BF, KF, by simp [z_up], LIT, BITS, ?_⟩
    intro fu p2 v1 v2 hp
    rw [hN fu p2 v1 v2 hp, lt_e, if_pos h10]
    have : xin (Int32.ofNat m / 60) 10 = true := by
      rw [show (60 : Int32) = Int32.ofNat 60 from rfl, z_div (by omega) (by omega)]; exact z_xin (by omega) (by omega)
    rw [this, gd_t]
    have hb : f0_blow N2 T (T 11 (Int32.ofNat m / 60).toNatClampNeg) = some N3 := by unfold f0_blow; rw [z_l0, d1]
    rw [hb, bd_e]
  · refine ⟨_, _, v', w, hM, fin N2 ?_, BF, KF, by simp [z_up], LIT, BITS, ?_⟩
    · rw [goB_id _ _ _ (by rw [em2]; exact h10)]; exact E2
    · intro fu p2 v1 v2 hp
      rw [hN fu p2 v1 v2 hp, lt_e, if_neg h10]
theorem z_pass_L {nc ns nl np : Nat} {T : St} {cnt : Nat} (hc : cnt ≤ 600) : ∀ (fu g : Nat) (N M : St) (v1 : Int32), ZE nc nl T N M → ZB nc ns nl np M → g ≤ cnt → cnt - g < fu →
    ∃ N' M' w, f0_goBy_L5 (Int32.ofNat cnt) T fu v1 (Int32.ofNat g) N = some (v1 + w, N') ∧ f3_minutesOn_L2 (Int32.ofNat cnt) fu (Int32.ofNat g) M = some M' ∧ ZE nc nl T N' M' ∧ ZB nc ns nl np M' ∧ ZK M M' ∧ zlit M' nl = zlit M nl + w := by
  intro fu
  induction fu with
  | zero => intro g N M v1 E B h1 h2; omega
  | succ fu ih =>
    intro g N M v1 E B h1 h2
    obtain ⟨m, hm, em⟩ := B.mi
    have c0 : (0 : Int32).toNatClampNeg = 0 := rfl
    by_cases h : cnt ≤ g
    · refine ⟨N, M, 0, ?_, ?_, E, B, ZK_refl M, by rw [Int32.add_zero]⟩
      · rw [f0_goBy_L5, if_pos (by rw [z_le (by omega) (by omega)]; exact h), Int32.add_zero]
      · rw [f3_minutesOn_L2, if_pos (by rw [z_le (by omega) (by omega)]; exact h)]
    · have hn : ¬ Int32.ofNat cnt ≤ Int32.ofNat g := by rw [z_le (by omega) (by omega)]; exact h
      by_cases h6 : m = 600
      · refine ⟨N, M, 0, ?_, ?_, E, B, ZK_refl M, by rw [Int32.add_zero]⟩
        · rw [f0_goBy_L5, if_neg hn, if_pos (by rw [E.n0, em, h6]; decide), Int32.add_zero]
        · rw [f3_minutesOn_L2, if_neg hn]
          unfold f3_isOver
          rw [c0, em, h6, if_pos (by decide), bd_e, if_neg (by decide)]
      · obtain ⟨N1, M1, v, w, a1, E1, B1, K1, a2, a3, a4, a5⟩ := z_minute E B (show m < 600 by omega) em
        obtain ⟨N2, M2, w2, b1, b2, E2, B2, K2, b3⟩ := ih (g + 1) N1 M1 (v1 + w) E1 B1 (by omega) (by omega)
        refine ⟨N2, M2, w + w2, ?_, ?_, E2, B2, ZK_trans K1 K2, by rw [b3, a3, Int32.add_assoc]⟩
        · rw [a5 fu _ v1 _ hn, z_s1, b1, Int32.add_assoc]
        · rw [f3_minutesOn_L2, if_neg hn]
          unfold f3_isOver
          rw [c0, em, if_neg (by rw [show (600 : Int32) = Int32.ofNat 600 from rfl, z_inj (by omega) (by omega)]; exact h6), bd_e, if_pos rfl, a1, bd2_e, z_s1, b2]
