theorem z_look_L {nc ns nl np : Nat} {T N M : St} (E : ZE nc nl T N M) (B : ZB nc ns nl np M) {p k base at_ : Nat} (hp : p < np) (hk : k ≤ 10) (hb : base ≤ k)
    (hlast : M 9 (ix10 p 8) + 1 = Int32.ofNat base) (hr : ∀ i, i < k → ∃ l, l < nl ∧ M 10 (ix10 p i) = Int32.ofNat l) (ha : at_ < nc) (hat : M 9 (ix10 p 1) = Int32.ofNat at_) :
    ∀ (fu i e : Nat) (v4 : Int32), i ≤ k → k - i < fu → v4 + 1 = Int32.ofNat e → e ≤ k → e % k = (base + i) % k →
    (f0_placeOfNextLamp_L18 (Int32.ofNat p) (Int32.ofNat k) N T fu v4 (Int32.ofNat i) = some (-1) ∧ ∀ K, f3_look_L9 (Int32.ofNat p) (Int32.ofNat k) M K fu (Int32.ofNat (i + 1)) = some M) ∨
    (∃ pl l c d, pl < k ∧ l < nl ∧ M 10 (ix10 p pl) = Int32.ofNat l ∧ f0_placeOfNextLamp_L18 (Int32.ofNat p) (Int32.ofNat k) N T fu v4 (Int32.ofNat i) = some (Int32.ofNat pl) ∧
      (∀ K, f3_look_L9 (Int32.ofNat p) (Int32.ofNat k) M K fu (Int32.ofNat (i + 1)) = K (Int32.ofNat pl) (Int32.ofNat l)) ∧ M 8 (ix8 l 5) = 0 ∧ (∀ q, q < np → M 9 (ix10 q 5) ≠ Int32.ofNat l) ∧
      c < nc ∧ f1_nearerEnd T (Int32.ofNat at_) (Int32.ofNat l) = some (Int32.ofNat c) ∧ f3_corner_ M (Int32.ofNat p) (Int32.ofNat l) = some (Int32.ofNat c) ∧
      d ≤ 264 ∧ M 7 (ix12 at_ c) = Int32.ofNat d ∧ T (100 + at_) c = Int32.ofNat d) := by
  have l1 := B.l1; have l2 := B.l2; have l3 := B.l3; have l4 := B.l4
  intro fu
  induction fu with
  | zero => intro i e v4 _ h; omega
  | succ fu ih =>
    intro i e v4 hi hf hv he hm
    rw [f0_placeOfNextLamp_L18]
    by_cases h : k ≤ i
    · left
      refine ⟨?_, fun K => ?_⟩
      · simp (disch := omega) only [z_le, if_pos h]
      · rw [f3_look_L9]
        have h2 : k < i + 1 := by omega
        simp (disch := omega) only [z_lt, if_pos h2]
    · have hk0 : 0 < k := by omega
      have hml : (base + i) % k < k := Nat.mod_lt _ hk0
      obtain ⟨l, hl, el⟩ := hr _ hml
      have hvv : (if k ≤ e then Int32.ofNat 0 else Int32.ofNat e) = Int32.ofNat ((base + i) % k) := by
        by_cases hh : k ≤ e
        · rw [if_pos hh]
          have : e = k := by omega
          rw [this, Nat.mod_self] at hm; rw [← hm]
        · rw [if_neg hh, ← hm, Nat.mod_eq_of_lt (by omega)]
      have hlast2 : M 9 (ix10 p 8) + Int32.ofNat (i + 1) = Int32.ofNat (base + i) := by
        rw [show Int32.ofNat (base + i) = Int32.ofNat base + Int32.ofNat i from z_add.symm, ← hlast, show Int32.ofNat (i + 1) = Int32.ofNat i + 1 from z_s1.symm]; ac_rfl
      have look : ∀ K, f3_look_L9 (Int32.ofNat p) (Int32.ofNat k) M K (fu + 1) (Int32.ofNat (i + 1)) =
          if M 8 (ix8 l 5) = 1 then f3_look_L9 (Int32.ofNat p) (Int32.ofNat k) M K fu (Int32.ofNat (i + 1 + 1)) else
          bd (f3_goer M (Int32.ofNat l)) fun v17 => if v17 = -1 then
            bd (f3_corner_ M (Int32.ofNat p) (Int32.ofNat l)) fun v20 => if v20 = -1 then f3_look_L9 (Int32.ofNat p) (Int32.ofNat k) M K fu (Int32.ofNat (i + 1 + 1)) else K (Int32.ofNat ((base + i) % k)) (Int32.ofNat l)
          else f3_look_L9 (Int32.ofNat p) (Int32.ofNat k) M K fu (Int32.ofNat (i + 1 + 1)) := by
        intro K
        rw [f3_look_L9]
        have h2 : ¬ k < i + 1 := by omega
        have h3 : (decide (¬ Int32.ofNat k = 0)) = true := by
          apply decide_eq_true; rw [z_l0, z_inj (by omega) (by omega)]; omega
        have hx : Int32.ofNat (base + i) - Int32.ofNat (base + i) / Int32.ofNat k * Int32.ofNat k = Int32.ofNat ((base + i) % k) := z_mod (by omega) (by omega)
        simp (disch := omega) only [z_lt, if_neg h2, z_pe8, bd_e, h3, gd_t, lt_e, hlast2, hx]
        have e10 : (10 : Int32) * Int32.ofNat p + Int32.ofNat ((base + i) % k) = Int32.ofNat (ix10 p ((base + i) % k)) := z_s10
        rw [e10, z_xin (by unfold ix10; omega) (by unfold ix10; omega), gd_t, z_clamp (by unfold ix10; omega), el]
        simp (disch := omega) only [z_la5, bd_e, z_s1]
      have next : f0_placeOfNextLamp_L18 (Int32.ofNat p) (Int32.ofNat k) N T fu (Int32.ofNat ((base + i) % k)) (Int32.ofNat (i + 1)) = some (-1) ∧ (∀ K, f3_look_L9 (Int32.ofNat p) (Int32.ofNat k) M K fu (Int32.ofNat (i + 1 + 1)) = some M) ∨ _ :=
        ih (i + 1) ((base + i) % k + 1) (Int32.ofNat ((base + i) % k)) (by omega) (by omega) z_s1 (by omega) (by rw [Nat.mod_add_mod]; rfl)
      obtain ⟨g, g1, g2, g3⟩ := z_goer E B (Int32.ofNat l)
      obtain ⟨c, hc, c1, c2⟩ := z_corner E B (p := p) (l := l) (by omega) hl ha hat
      have hb01 := B.lb l
      have body : ∀ (J : Int32 → Option Int32), (lt_ J fun J40 => if Int32.ofNat k ≤ v4 + 1 then J40 0 else J40 (v4 + 1)) = J (Int32.ofNat ((base + i) % k)) := by
        intro J; rw [← hvv, lt_e, hv]
        by_cases hh : k ≤ e
        · rw [if_pos hh, if_pos (by rw [z_le (by omega) (by omega)]; exact hh)]; rfl
        · rw [if_neg hh, if_neg (by rw [z_le (by omega) (by omega)]; exact hh)]
      rw [if_neg (by rw [z_le (by omega) (by omega)]; exact h), body]
      simp (disch := omega) only [z_xin, gd_t, z_clamp, lt_e, z_l0]
      rw [E.rd p _ (by omega), el]
      simp (disch := omega) only [z_xin, gd_t, z_clamp, E.n6, E.n9, hat, g1, bd_e]
      simp only [look, g2, bd_e]
      by_cases b0 : M 8 (ix8 l 5) = Int32.ofNat 0
      · have b1 : ¬ M 8 (ix8 l 5) = 1 := by rw [b0]; decide
        simp only [if_pos b0, if_neg b1]
        rcases g3 with ⟨g3, g4⟩ | ⟨q, q1, q2, q3⟩
        · simp only [g3, if_true]
          rcases c2 with ⟨r1, r2⟩ | ⟨r1, r2, d, d1, d2, d3⟩
          · simp only [r1, r2, bd_e, z_s1, if_true]
            rcases next with ⟨n1, n2⟩ | n1
            · left; exact ⟨n1, n2⟩
            · right; exact n1
          · right
            refine ⟨(base + i) % k, l, c, d, hml, hl, el, ?_, ?_, b0, g4, hc, c1, r2, d1, d2, d3⟩
            · simp only [r1, bd_e]; rw [if_neg (by decide)]
            · intro K; simp only [r2, bd_e]; rw [if_neg]; rw [z_ne1 (by omega)]; exact id
        · have q4 : ¬ g = -1 := by rw [q2, z_ne1 (by omega)]; exact id
          simp only [if_neg q4, z_s1]
          rcases next with ⟨n1, n2⟩ | n1
          · left; exact ⟨n1, n2⟩
          · right; exact n1
      · have b1 : M 8 (ix8 l 5) = 1 := by
          rcases hb01 with x | x
          · exact absurd x b0
          · exact x
        simp only [if_pos b1, if_neg b0, z_s1]
        rcases next with ⟨n1, n2⟩ | n1
        · left; exact ⟨n1, n2⟩
        · right; exact n1
theorem z_last {x : Int32} {k : Nat} (hk : k ≤ 10) (h : x = -1 ∨ ∃ j, j < k ∧ x = Int32.ofNat j) : ∃ b, b ≤ k ∧ x + 1 = Int32.ofNat b := by
  rcases h with h | ⟨j, hj, h⟩
  · exact ⟨0, by omega, by rw [h]; decide⟩
  · exact ⟨j + 1, by omega, by rw [h, z_s1]⟩
theorem z_corner_u {M : St} {p l : Nat} {v : Int32} (hp : p < 4) (hl : l < 20) : f3_corner_ (up2 M 9 (ix10 p 5) v) (Int32.ofNat p) (Int32.ofNat l) = f3_corner_ M (Int32.ofNat p) (Int32.ofNat l) := by
  have e1 : (up2 M 9 (ix10 p 5) v) 9 (ix10 p 1) = M 9 (ix10 p 1) := by simp [up2, up1, upd, ix10_eq]
  have e2 : (up2 M 9 (ix10 p 5) v) 9 (ix10 p 2) = M 9 (ix10 p 2) := by simp [up2, up1, upd, ix10_eq]
  unfold f3_corner_
  simp (disch := omega) only [z_pe1, z_pe2, e1, e2]
  rfl
def ZS (M M' : St) : Prop := M' 8 = M 8 ∧ M' 12 = M 12
theorem z_look {nc ns nl np : Nat} {T N M : St} (E : ZE nc nl T N M) (B : ZB nc ns nl np M) {p : Nat} (hp : p < np) (hg : M 9 (ix10 p 5) = -1) :
    ∃ N' M', f0_lookForLamp N T (Int32.ofNat p) = some N' ∧ f3_look M (Int32.ofNat p) = some M' ∧ ZE nc nl T N' M' ∧ ZB nc ns nl np M' ∧ M' 8 = M 8 ∧ M' 12 = M 12 ∧ ZK M M' := by
  have l1 := B.l1; have l2 := B.l2; have l3 := B.l3; have l4 := B.l4
  obtain ⟨k, hk, ek, hlast, hr⟩ := B.pl p hp
  obtain ⟨base, hb, eb⟩ := z_last hk hlast
  obtain ⟨at_, ha, hat⟩ := B.pa p hp
  have hkk : (base + 0) % k = base % k := by rw [Nat.add_zero]
  have R := z_look_L E B hp hk hb eb hr ha hat xF 0 base (M 9 (ix10 p 8)) (by omega) (by unfold xF; omega) eb hb hkk.symm
  have hN : f0_placeOfNextLamp N T (Int32.ofNat p) = f0_placeOfNextLamp_L18 (Int32.ofNat p) (Int32.ofNat k) N T xF (M 9 (ix10 p 8)) (Int32.ofNat 0) := by
    unfold f0_placeOfNextLamp
    simp (disch := omega) only [z_xin, gd_t, z_clamp, lt_e, E.t15, E.n14, ek]
    rfl
  rcases R with ⟨r1, r2⟩ | ⟨pl, l, c, d, hpl, hl, el, r1, r2, hb0, hng, hc, hne, hco, hd, hmd, htd⟩
  · refine ⟨N, M, ?_, ?_, E, B, rfl, rfl, ZK_refl M⟩
    · unfold f0_lookForLamp
      rw [hN, r1, bd_e, if_pos rfl]
    · unfold f3_look
      rw [z_pe4 (by omega), bd_e, ek]
      exact r2 _
  · by_cases hgo : M 9 (ix10 p 3) = 0 ∧ M 8 (ix8 l 3) = 0
    · refine ⟨N, M, ?_, ?_, E, B, rfl, rfl, ZK_refl M⟩
      · unfold f0_lookForLamp
        rw [hN, r1, bd_e, if_neg (by rw [z_ne1 (by omega)]; exact id)]
        simp (disch := omega) only [z_xin, gd_t, z_clamp, lt_e, E.n10, hgo.1, E.rd, el, E.n4, hgo.2]
        rw [if_neg (by decide), if_pos (by decide)]
      · unfold f3_look
        rw [z_pe4 (by omega), bd_e, ek]
        refine (r2 _).trans ?_
        rw [z_pe3 (by omega), bd_e, lt_e, if_pos hgo.1, z_la3 (by omega), bd_e, if_pos hgo.2]
    · refine ⟨up2 (up2 (up2 (up2 N 11 p (Int32.ofNat l)) 14 p (Int32.ofNat pl)) 12 p (Int32.ofNat c)) 13 p (Int32.ofNat d + 3),
        up2 (up2 (up2 (up2 M 9 (ix10 p 5) (Int32.ofNat l)) 9 (ix10 p 7) (Int32.ofNat c)) 9 (ix10 p 6) (Int32.ofNat d + 3)) 9 (ix10 p 8) (Int32.ofNat pl), ?_, ?_, ?_, ?_, rfl, rfl, ZK_9 (by omega) (by decide) (ZK_9 (by omega) (by decide) (ZK_9 (by omega) (by decide) (ZK_9 (by omega) (by decide) (ZK_refl M))))⟩
      · have go : (lt_ (up2 N 11 (Int32.ofNat p).toNatClampNeg (Int32.ofNat l)) fun N7 =>
            lt_ (up2 N7 14 (Int32.ofNat p).toNatClampNeg (Int32.ofNat pl)) fun N8 =>
            bd (f1_nearerEnd T (N8 9 (Int32.ofNat p).toNatClampNeg) (Int32.ofNat l)) fun v9 =>
            lt_ (up2 N8 12 (Int32.ofNat p).toNatClampNeg v9) fun N12 =>
            gd (xin (N12 9 (Int32.ofNat p).toNatClampNeg) 12) <|
            gd (xin (N12 12 (Int32.ofNat p).toNatClampNeg) 12) <|
            lt_ (up2 N12 13 (Int32.ofNat p).toNatClampNeg ((T (100 + (N12 9 (Int32.ofNat p).toNatClampNeg).toNatClampNeg) (N12 12 (Int32.ofNat p).toNatClampNeg).toNatClampNeg) + 3)) fun N15 =>
            some N15) = some (up2 (up2 (up2 (up2 N 11 p (Int32.ofNat l)) 14 p (Int32.ofNat pl)) 12 p (Int32.ofNat c)) 13 p (Int32.ofNat d + 3)) := by
          have e9 : ∀ f g i j x y, (up2 (up2 N f i x) g j y) 9 = (if 9 = g then upd ((up2 N f i x) g) j y else if 9 = f then upd (N f) i x else N 9) := fun _ _ _ _ _ _ => rfl
          simp only [lt_e]
          rw [z_clamp (by omega)]
          have q1 : up2 (up2 N 11 p (Int32.ofNat l)) 14 p (Int32.ofNat pl) 9 p = Int32.ofNat at_ := (E.n9 p (by omega)).trans hat
          rw [q1, hne, bd_e]
          have q2 : up2 (up2 (up2 N 11 p (Int32.ofNat l)) 14 p (Int32.ofNat pl)) 12 p (Int32.ofNat c) 9 p = Int32.ofNat at_ := (E.n9 p (by omega)).trans hat
          have q3 : up2 (up2 (up2 N 11 p (Int32.ofNat l)) 14 p (Int32.ofNat pl)) 12 p (Int32.ofNat c) 12 p = Int32.ofNat c := by simp [up2, up1, upd]
          rw [q2, q3, z_xin (by omega) (by omega), z_xin (by omega) (by omega), gd_t, gd_t, z_clamp (by omega), z_clamp (by omega), htd]
        unfold f0_lookForLamp
        rw [hN, r1, bd_e, if_neg (by rw [z_ne1 (by omega)]; exact id), z_xin (by omega) (by omega), gd_t, z_xin (by omega) (by omega), gd_t, z_clamp (n := p) (by omega), z_clamp (n := pl) (by omega), E.rd p pl (by omega), el]
        rw [z_clamp (n := p) (by omega)] at go
        simp only [lt_e] at go ⊢
        rw [go, z_xin (by omega) (by omega), gd_t, z_clamp (n := l) (by omega), E.n10 p (by omega), E.n4 l (by omega)]
        obtain ⟨o1, ho1, eo1⟩ := B.pc p
        obtain ⟨o2, ho2, eo2⟩ := B.lo l
        by_cases t1 : 0 < M 9 (ix10 p 3)
        · rw [if_pos t1]
        · rw [if_neg t1, if_neg]
          intro t2
          apply hgo
          rw [eo1, z_l0, z_lt (by omega) (by omega)] at t1
          rw [eo2, z_l0, z_le (by omega) (by omega)] at t2
          rw [eo1, eo2, z_l0]
          constructor <;> congr 1 <;> omega
      · unfold f3_look
        rw [z_pe4 (by omega), bd_e, ek]
        refine (r2 _).trans ?_
        rw [z_pe3 (by omega), bd_e]
        have go : (bd (f3_put M (Int32.ofNat p) 5 (Int32.ofNat l)) fun M26 =>
          bd (f3_corner_ M26 (Int32.ofNat p) (Int32.ofNat l)) fun v28 =>
          bd (f3_put M26 (Int32.ofNat p) 7 v28) fun M31 =>
          bd (f3_pe M31 (Int32.ofNat p) 1) fun v33 =>
          bd (f3_pe M31 (Int32.ofNat p) 7) fun v36 =>
          bd (f3_away M31 v33 v36) fun v39 =>
          bd (f3_put M31 (Int32.ofNat p) 6 (v39 + 3)) fun M42 =>
          bd (f3_put M42 (Int32.ofNat p) 8 (Int32.ofNat pl)) fun M44 =>
          some M44) = some (up2 (up2 (up2 (up2 M 9 (ix10 p 5) (Int32.ofNat l)) 9 (ix10 p 7) (Int32.ofNat c)) 9 (ix10 p 6) (Int32.ofNat d + 3)) 9 (ix10 p 8) (Int32.ofNat pl)) := by
          have q1 : (up2 (up2 M 9 (ix10 p 5) (Int32.ofNat l)) 9 (ix10 p 7) (Int32.ofNat c)) 9 (ix10 p 1) = Int32.ofNat at_ := by simp [up2, up1, upd, ix10_eq, hat]
          have q2 : (up2 (up2 M 9 (ix10 p 5) (Int32.ofNat l)) 9 (ix10 p 7) (Int32.ofNat c)) 9 (ix10 p 7) = Int32.ofNat c := by simp [up2, up1, upd]
          have q3 : (up2 (up2 M 9 (ix10 p 5) (Int32.ofNat l)) 9 (ix10 p 7) (Int32.ofNat c)) 7 (ix12 at_ c) = Int32.ofNat d := hmd
          rw [z_put5 (by omega), bd_e, z_corner_u (by omega) (by omega), hco, bd_e, z_put7 (by omega), bd_e, z_pe1 (by omega), bd_e, z_pe7 (by omega), bd_e, q1, q2, z_away (by omega) (by omega), bd_e, q3, z_min (.inl hd), z_put6 (by omega), bd_e, z_put8 (by omega), bd_e]
        rw [lt_e, go, z_la3 (by omega), bd_e]
        by_cases t1 : M 9 (ix10 p 3) = 0
        · rw [if_pos t1, if_neg (fun t2 => hgo ⟨t1, t2⟩)]
        · rw [if_neg t1]
      · exact (ZE.mk (E.c0) (E.c3) (E.c7) (E.c12) (E.h1) (E.w11) (E.t4) (E.t5) (E.t6) (E.t8) (E.t9) (E.t10) (E.n4) (E.n5) (E.n6) (E.n7) (E.n8) (fun q => by simp [up2, up1, upd, ix10_eq, E.t13]) (fun q hq => by simp [up2, up1, upd, ix10_eq, E.n9 q hq]) (fun q => by simp [up2, up1, upd, ix10_eq, E.t14]) (fun q hq => by simp [up2, up1, upd, ix10_eq, E.n10 q hq]) (fun q => by simp [up2, up1, upd, ix10_eq, E.t15]) (fun q hq => by simp [up2, up1, upd, ix10_eq, E.n11 q hq]) (fun q hq => by simp [up2, up1, upd, ix10_eq, E.n13 q hq]) (fun q hq4 => by
            simp [up2, up1, upd, ix10_eq]
            intro h; by_cases hq : q = p
            · simp [hq]
            · simp [hq]; simp [hq] at h; exact E.n12 q hq4 h) (fun q hq => by simp [up2, up1, upd, ix10_eq, E.n14 q hq]) (fun q hq => by simp [up2, up1, upd, ix10_eq, E.n15 q hq]) (E.rd) (E.n0) (E.n1) (E.n2) (E.n3) (E.wy))
      · exact (ZB.mk (B.k1) (B.k2) (B.k3) (B.k4) (B.l1) (B.l2) (B.l3) (B.l4) (B.hi) (B.sa) (B.sb) (B.sl) (B.lw) (B.lo) (B.lb) (B.wd) (fun q hq => by simpa [up2, up1, upd, ix10_eq] using B.ph q hq) (fun q hq => by simpa [up2, up1, upd, ix10_eq] using B.pa q hq) (fun q => by simpa [up2, up1, upd, ix10_eq] using B.pc q) (fun q hq => by
            by_cases h : q = p
            · subst h
              refine ⟨k, hk, by simpa [up2, up1, upd, ix10_eq] using ek, .inr ⟨pl, hpl, by simp [up2, up1, upd]⟩, hr⟩
            · simpa [up2, up1, upd, ix10_eq, h] using B.pl q hq) (fun q hq => by
            by_cases h : q = p
            · subst h
              refine .inr ⟨l, hl, by simp [up2, up1, upd, ix10_eq], hb0, ⟨d + 3, by omega, by omega, ?_⟩, ⟨c, hc, by simp [up2, up1, upd, ix10_eq]⟩, ?_⟩
              · simp [up2, up1, upd, ix10_eq]
              · have : (up2 (up2 (up2 (up2 M 9 (ix10 q 5) (Int32.ofNat l)) 9 (ix10 q 7) (Int32.ofNat c)) 9 (ix10 q 6) (Int32.ofNat d + 3)) 9 (ix10 q 8) (Int32.ofNat pl)) 9 (ix10 q 3) = M 9 (ix10 q 3) := by simp [up2, up1, upd, ix10_eq]
                rw [this]
                by_cases t1 : M 9 (ix10 q 3) = 0
                · exact .inr (fun t2 => hgo ⟨t1, t2⟩)
                · exact .inl t1
            · have := B.pg q hq
              unfold ZG at this ⊢
              simpa [up2, up1, upd, ix10_eq, h] using this) (fun q r hq hr' hqr => by
            have h0 := B.pd q r hq hr' hqr
            have h1 := hng q hq
            have h2 := hng r hr'
            simp only [up2, up1, upd, ix10_eq, if_true]
            by_cases h : q = p
            · subst h
              have : ¬ r = q := fun e => hqr e.symm
              simp [ix10_eq, this]; intro _; exact fun e => h2 e.symm
            · by_cases h' : r = p
              · subst h'; simp [ix10_eq, h]; intro _; exact h1
              · simpa [ix10_eq, h, h'] using h0) (B.mi) (B.zl) (fun q w hq hw => by
            have h : ¬ q = p := by omega
            simpa [up2, up1, upd, ix10_eq, hw, h] using B.zp q w hq hw) (B.wy))
theorem z_up {N : St} {k i k' j : Nat} {x : Int32} : up2 N k i x k' j = if k' = k then (if j = i then x else N k j) else N k' j := by
  unfold up2 up1 upd; by_cases h : k' = k <;> simp [h]
theorem z_nar1 : vp_nar .boolean 1 = 1 := by decide
theorem z_nar0 : vp_nar .boolean 0 = 0 := by decide
theorem z_l300 : (300 : Int32) = Int32.ofNat 300 := rfl
def NT (N : St) (p l s c cn o v : Nat) : St := up2 (up2 (up2 (up2 (up2 (up2 (up2 (up2 (up2 (up2 N 9 p (Int32.ofNat c)) 11 p (-1)) 13 p 0) 10 p (Int32.ofNat (cn - v))) 4 l (Int32.ofNat (o + v))) 5 l 0) 6 l 1) 3 s (N 3 s + 1)) 7 l (N 7 l + 1)) 15 p (N 15 p + 1)
def MT (M : St) (p l c cn o v : Nat) : St := up2 (up2 (up2 (up2 (up2 (up2 (up2 (up2 M 9 (ix10 p 1) (Int32.ofNat c)) 9 (ix10 p 5) (-1)) 9 (ix10 p 3) (Int32.ofNat (cn - v))) 8 (ix8 l 3) (Int32.ofNat (o + v))) 8 (ix8 l 4) 0) 8 (ix8 l 5) 1) 8 (ix8 l 6) (M 8 (ix8 l 6) + 1)) 9 (ix10 p 9) (M 9 (ix10 p 9) + 1)
theorem z_tendN {T N : St} {p l s c cn o v : Nat} (hp : p < 4) (hl : l < 20) (hs : s < 18) (h11 : N 11 p = Int32.ofNat l) (h12 : N 12 p = Int32.ofNat c) (h10 : N 10 p = Int32.ofNat cn) (h4 : N 4 l = Int32.ofNat o) (h8 : T 8 l = Int32.ofNat s) (hcn : cn ≤ 999) (ho : o ≤ 300) (hv : v = min cn (300 - o)) (h0 : o + v ≠ 0) :
    f0_tendLamp N T (Int32.ofNat p) = some (1, NT N p l s c cn o v) := by
  have e1 : (if Int32.ofNat 300 - Int32.ofNat o < Int32.ofNat cn then Int32.ofNat 300 - Int32.ofNat o else Int32.ofNat cn) = Int32.ofNat v := by
    rw [z_sub (by omega), z_ilt (by omega) (by omega), hv]
    split <;> congr 1 <;> omega
  have e2 : ¬ Int32.ofNat (o + v) = 0 := by rw [z_l0, z_inj (by omega) (by omega)]; exact h0
  have e3 : Int32.ofNat cn - Int32.ofNat v = Int32.ofNat (cn - v) := z_sub (by omega)
  unfold f0_tendLamp f0_waitFromNow
  simp (disch := omega) only [z_xin, z_clamp, gd_t, lt_e, bd_e, h11]
  simp (disch := omega) only [z_up, h11, h12, h10, h4, z_l300, ↓reduceIte, Nat.reduceEqDiff, e1, e3, z_add, e2, z_nar1, h8, z_xin, gd_t, z_clamp]
  rfl
def zgG (p1 : Int32) (M4 : St) : Option (Int32 × St) :=
(
    bd (f3_pe M4 p1 5) fun v5 =>
    if v5 = (-1) then
    (
      some ((-1), M4)
    )
    else
    (
      bd (f3_pe M4 p1 6) fun v8 =>
      bd (f3_put M4 p1 6 (v8 - 1)) fun M11 =>
      bd (f3_pe M11 p1 6) fun v13 =>
      if v13 ≤ 0 then
      (
        bd (f3_pe M11 p1 7) fun v16 =>
        bd (f3_put M11 p1 1 v16) fun M19 =>
        bd (f3_put M19 p1 5 (-1)) fun M21 =>
        bd (f3_la M21 v5 3) fun v23 =>
        bd (f3_pe M21 p1 3) fun v26 =>
        lt_ (if v26 < (300 - v23) then v26 else (300 - v23)) fun v29 =>
        bd (f3_pe M21 p1 3) fun v30 =>
        bd (f3_put M21 p1 3 (v30 - v29)) fun M33 =>
        bd (f3_la M33 v5 3) fun v35 =>
        bd (f3_setLamp M33 v5 3 (v35 + v29)) fun M38 =>
        bd (f3_setLamp M38 v5 4 0) fun M40 =>
        bd (f3_la M40 v5 3) fun v42 =>
        if v42 ≤ 0 then
        (
          some (v5, M40)
        )
        else
        (
          bd (f3_setLamp M40 v5 5 1) fun M45 =>
          bd (f3_la M45 v5 6) fun v47 =>
          bd (f3_setLamp M45 v5 6 (v47 + 1)) fun M50 =>
          bd (f3_pe M50 p1 9) fun v52 =>
          bd (f3_put M50 p1 9 (v52 + 1)) fun M55 =>
          some (v5, M55)
        )
      )
      else
      (
        some ((-1), M11)
      )
    )
  )
theorem z_goOn_eq (M : St) (p1 : Int32) : f3_goOn M p1 = bd (f3_pe M p1 5) fun v1 => if v1 = -1 then bd (f3_look M p1) (zgG p1) else zgG p1 M := rfl
def zgC (T : St) (fu : Nat) (v1 v2 : Int32) (N5 : St) : Option (Int32 × St) :=
(
      lt_ (fun (v6 : Int32) (N7 : St) =>
      (
        f0_moveLighters_L4 T fu v6 (v2 + 1) N7
      )
      ) fun J69 =>
      if (N5 11 v2.toNatClampNeg) = (-1) then
      (
        J69 v1 N5
      )
      else
      (
        lt_ (up2 N5 13 v2.toNatClampNeg ((N5 13 v2.toNatClampNeg) - 1)) fun N8 =>
        if (N8 13 v2.toNatClampNeg) = 0 then
        (
          bd2 (f0_tendLamp N8 T v2) fun v9 N10 =>
          if v9 = 0 then
          (
            J69 v1 N10
          )
          else
          (
            J69 (v1 + 1) N10
          )
        )
        else
        (
          J69 v1 N8
        )
      )
    )
theorem z_move_eq (T : St) (fu : Nat) (v1 v2 : Int32) (N3 : St) : f0_moveLighters_L4 T (fu + 1) v1 v2 N3 = if T 12 0 ≤ v2 then some (v1, N3) else gd (xin v2 4) (if N3 11 v2.toNatClampNeg = -1 then bd (f0_lookForLamp N3 T v2) (zgC T fu v1 v2) else zgC T fu v1 v2 N3) := rfl
theorem z_goM {M : St} {p l c cn o v e : Nat} (hp : p < 4) (hl : l < 20) (h5 : M 9 (ix10 p 5) = Int32.ofNat l) (h6 : M 9 (ix10 p 6) = Int32.ofNat e) (he1 : 1 ≤ e) (he : e ≤ 300) (h7 : M 9 (ix10 p 7) = Int32.ofNat c) (h3 : M 9 (ix10 p 3) = Int32.ofNat cn) (h4 : M 8 (ix8 l 3) = Int32.ofNat o) (hcn : cn ≤ 999) (ho : o ≤ 300) (hv : v = min cn (300 - o)) (h0 : o + v ≠ 0) :
    zgG (Int32.ofNat p) M = if e = 1 then some (Int32.ofNat l, MT (up2 M 9 (ix10 p 6) 0) p l c cn o v) else some (-1, up2 M 9 (ix10 p 6) (Int32.ofNat (e - 1))) := by
  have e0 : Int32.ofNat e - 1 = Int32.ofNat (e - 1) := by rw [z_l1, z_sub he1]
  have e1 : (if Int32.ofNat cn < Int32.ofNat 300 - Int32.ofNat o then Int32.ofNat cn else Int32.ofNat 300 - Int32.ofNat o) = Int32.ofNat v := by
    rw [z_sub (by omega), z_ilt (by omega) (by omega), hv]
    split <;> congr 1 <;> omega
  have e2 : ¬ Int32.ofNat (o + v) ≤ 0 := by rw [z_l0, z_le (by omega) (by omega)]; omega
  have e3 : Int32.ofNat cn - Int32.ofNat v = Int32.ofNat (cn - v) := z_sub (by omega)
  have e4 : ¬ Int32.ofNat l = -1 := by rw [z_ne1 (by omega)]; exact id
  unfold zgG
  simp (disch := omega) only [z_pe5, z_pe6, z_pe7, z_pe3, z_pe9, z_put1, z_put3, z_put5, z_put6, z_put9, z_la3, z_la6, z_setLamp3, z_setLamp4, z_setLamp5, z_setLamp6, bd_e, h5, if_neg e4, h6, e0]
  by_cases h : e = 1
  · subst h
    have e5 : Int32.ofNat (1 - 1) ≤ 0 := by decide
    simp (disch := omega) only [z_up, ix10_eq, ix8_eq, ↓reduceIte, Nat.reduceEqDiff, and_true, and_false, h7, h3, h4, e5, e1, e2, e3, z_l300, z_add, lt_e]
    unfold MT
    simp (disch := omega) only [z_up, ix10_eq, ix8_eq, ↓reduceIte, Nat.reduceEqDiff, and_true, and_false]
    rfl
  · have e5 : ¬ Int32.ofNat (e - 1) ≤ 0 := by rw [z_l0, z_le (by omega) (by omega)]; omega
    simp (disch := omega) only [z_up, ↓reduceIte, e5, if_neg h]
theorem z_goC {T N : St} {p l s c cn o v e fu : Nat} {v1 : Int32} (hp : p < 4) (hl : l < 20) (hs : s < 18) (h11 : N 11 p = Int32.ofNat l) (h13 : N 13 p = Int32.ofNat e) (he1 : 1 ≤ e) (he : e ≤ 300) (h12 : N 12 p = Int32.ofNat c) (h10 : N 10 p = Int32.ofNat cn) (h4 : N 4 l = Int32.ofNat o) (h8 : T 8 l = Int32.ofNat s) (hcn : cn ≤ 999) (ho : o ≤ 300) (hv : v = min cn (300 - o)) (h0 : o + v ≠ 0) :
    zgC T fu v1 (Int32.ofNat p) N = if e = 1 then f0_moveLighters_L4 T fu (v1 + 1) (Int32.ofNat (p + 1)) (NT (up2 N 13 p 0) p l s c cn o v) else f0_moveLighters_L4 T fu v1 (Int32.ofNat (p + 1)) (up2 N 13 p (Int32.ofNat (e - 1))) := by
  have e0 : Int32.ofNat e - 1 = Int32.ofNat (e - 1) := by rw [z_l1, z_sub he1]
  have e4 : ¬ Int32.ofNat l = -1 := by rw [z_ne1 (by omega)]; exact id
  unfold zgC
  simp (disch := omega) only [z_clamp, h11, h13, e4, ↓reduceIte, lt_e, z_up, e0, z_s1]
  by_cases h : e = 1
  · subst h
    have e5 : Int32.ofNat (1 - 1) = 0 := by decide
    simp only [e5, ↓reduceIte]
    rw [z_tendN (c := c) (N := up2 N 13 p 0) hp hl hs (by simp [z_up, h11]) (by simp [z_up, h12]) (by simp [z_up, h10]) (by simp [z_up, h4]) h8 hcn ho hv h0, bd2_e, if_neg (by decide)]
  · have e5 : ¬ Int32.ofNat (e - 1) = 0 := by rw [z_l0, z_inj (by omega) (by omega)]; omega
    simp only [e5, ↓reduceIte, if_neg h]
theorem ZE_wait {nc nl : Nat} {T N M : St} {p : Nat} {x : Int32} (E : ZE nc nl T N M) : ZE nc nl T (up2 N 13 p x) (up2 M 9 (ix10 p 6) x) :=
  (ZE.mk (E.c0) (E.c3) (E.c7) (E.c12) (E.h1) (E.w11) (E.t4) (E.t5) (E.t6) (E.t8) (E.t9) (E.t10) (E.n4) (E.n5) (E.n6) (E.n7) (E.n8) (fun q => by simp [z_up, ix10_eq, E.t13]) (fun q hq => by simp [z_up, ix10_eq, E.n9 q hq]) (fun q => by simp [z_up, ix10_eq, E.t14]) (fun q hq => by simp [z_up, ix10_eq, E.n10 q hq]) (fun q => by simp [z_up, ix10_eq, E.t15]) (fun q hq => by simp [z_up, ix10_eq, E.n11 q hq]) (fun q hq => by simp [z_up, ix10_eq, E.n13 q hq]) (fun q hq => by simpa [z_up, ix10_eq] using E.n12 q hq) (fun q hq => by simp [z_up, ix10_eq, E.n14 q hq]) (fun q hq => by simp [z_up, ix10_eq, E.n15 q hq]) (E.rd) (E.n0) (E.n1) (E.n2) (E.n3) (E.wy))
theorem ZB_wait {nc ns nl np : Nat} {M : St} {p e : Nat} (B : ZB nc ns nl np M) (hp : p < np) (he1 : 1 ≤ e) (he : e ≤ 300) : ZB nc ns nl np (up2 M 9 (ix10 p 6) (Int32.ofNat e)) :=
  (ZB.mk (B.k1) (B.k2) (B.k3) (B.k4) (B.l1) (B.l2) (B.l3) (B.l4) (B.hi) (B.sa) (B.sb) (B.sl) (B.lw) (B.lo) (B.lb) (B.wd) (fun q hq => by simpa [z_up, ix10_eq] using B.ph q hq) (fun q hq => by simpa [z_up, ix10_eq] using B.pa q hq) (fun q => by simpa [z_up, ix10_eq] using B.pc q) (fun q hq => by simpa [z_up, ix10_eq] using B.pl q hq) (fun q hq => by
      have := B.pg q hq
      unfold ZG at this ⊢
      by_cases h : q = p
      · subst h
        rcases this with g | ⟨l, a1, a2, a3, a4, a5, a6⟩
        · left; simpa [z_up, ix10_eq] using g
        · right
          refine ⟨l, a1, by simpa [z_up, ix10_eq] using a2, by simpa [z_up] using a3, ⟨e, he1, he, by simp [z_up]⟩, by simpa [z_up, ix10_eq] using a5, by simpa [z_up, ix10_eq] using a6⟩
      · simpa [z_up, ix10_eq, h] using this) (fun q r hq hr' hqr => by simpa [z_up, ix10_eq] using B.pd q r hq hr' hqr) (B.mi) (B.zl) (fun q w hq hw => by
      have h : ¬ q = p := by omega
      simpa [z_up, ix10_eq, hw, h] using B.zp q w hq hw) (B.wy))
theorem ZE_tend {nc ns nl np : Nat} {T N M : St} {p l s c cn o v : Nat} (E : ZE nc nl T N M) (B : ZB nc ns nl np M) (hp : p < np) (hl : l < nl) (hs : s < ns) (hw : M 8 (ix8 l 0) = Int32.ofNat s) (hb : M 8 (ix8 l 5) = 0) :
    ZE nc nl T (NT (up2 N 13 p 0) p l s c cn o v) (MT (up2 M 9 (ix10 p 6) 0) p l c cn o v) := by
  have l2 := B.l2
  have e7 := E.n7 l (by have := B.l3; omega)
  have e15 := E.n15 p (by have := B.l4; omega)
  exact (ZE.mk (E.c0) (E.c3) (E.c7) (E.c12) (E.h1) (E.w11) (E.t4) (E.t5) (E.t6) (fun q => by simp [NT, MT, z_up, ix10_eq, ix8_eq, E.t8]) (fun q => by simp [NT, MT, z_up, ix10_eq, ix8_eq, E.t9]) (fun q => by simp [NT, MT, z_up, ix10_eq, ix8_eq, E.t10]) (fun q hq => by simp [NT, MT, z_up, ix10_eq, ix8_eq, E.n4 q hq]) (fun q hq => by simp [NT, MT, z_up, ix10_eq, ix8_eq, E.n5 q hq]) (fun q hq => by simp [NT, MT, z_up, ix10_eq, ix8_eq, E.n6 q hq]) (fun q hq => by simp [NT, MT, z_up, ix10_eq, ix8_eq, E.n7 q hq, e7]) (fun q hq => by simp [NT, MT, z_up, ix10_eq, ix8_eq, E.n8 q hq]) (fun q => by simp [NT, MT, z_up, ix10_eq, ix8_eq, E.t13]) (fun q hq => by simp [NT, MT, z_up, ix10_eq, ix8_eq, E.n9 q hq]) (fun q => by simp [NT, MT, z_up, ix10_eq, ix8_eq, E.t14]) (fun q hq => by simp [NT, MT, z_up, ix10_eq, ix8_eq, E.n10 q hq]) (fun q => by simp [NT, MT, z_up, ix10_eq, ix8_eq, E.t15]) (fun q hq => by simp [NT, MT, z_up, ix10_eq, ix8_eq, E.n11 q hq]) (fun q hq => by
      by_cases h : q = p
      · simp [NT, MT, z_up, ix10_eq, ix8_eq, h]
      · simp [NT, MT, z_up, ix10_eq, ix8_eq, h, E.n13 q hq]) (fun q hq => by
      have := E.n12 q hq
      simp [NT, MT, z_up, ix10_eq, ix8_eq]
      intro h1 h2; exact this h2) (fun q hq => by simp [NT, MT, z_up, ix10_eq, ix8_eq, E.n14 q hq]) (fun q hq => by simp [NT, MT, z_up, ix10_eq, ix8_eq, E.n15 q hq, e15]) (E.rd) (E.n0) (E.n1) (E.n2) (fun s' hs' => by
      have h := E.n3 s' hs'
      have hh := E.n3 s (by omega)
      by_cases h1 : s' = s
      · subst h1
        have : NT (up2 N 13 p 0) p l s' c cn o v 3 s' = N 3 s' + 1 := by simp [NT, z_up]
        rw [this, h]; symm; unfold bsum
        refine zsum_upd (k := l) hl ?_ ?_
        · simp [MT, z_up, ix8_eq, hw, hb]
        · intro i hi; simp [MT, z_up, ix8_eq, hi]
      · have : NT (up2 N 13 p 0) p l s c cn o v 3 s' = N 3 s' := by simp [NT, z_up, h1]
        rw [this, h]; unfold bsum
        refine zsum_congr (fun i _ => ?_)
        by_cases hi : i = l
        · subst hi
          have : ¬ Int32.ofNat s = Int32.ofNat s' := by rw [z_inj (by omega) (by omega)]; omega
          simp [MT, z_up, ix8_eq, hw, this]
        · simp [MT, z_up, ix8_eq, hi]) (E.wy))
theorem ZB_tend {nc ns nl np : Nat} {M : St} {p l c cn o v : Nat} (B : ZB nc ns nl np M) (hp : p < np) (hl : l < nl) (hc : c < nc) (h5 : M 9 (ix10 p 5) = Int32.ofNat l) (hcn : cn ≤ 999) (ho : o + v ≤ 300) :
    ZB nc ns nl np (MT (up2 M 9 (ix10 p 6) 0) p l c cn o v) :=
  (ZB.mk (B.k1) (B.k2) (B.k3) (B.k4) (B.l1) (B.l2) (B.l3) (B.l4) (B.hi) (B.sa) (B.sb) (B.sl) (fun i hi => by simpa [MT, z_up, ix10_eq, ix8_eq] using B.lw i hi) (fun i => by
      by_cases h : i = l
      · subst h; exact ⟨o + v, ho, by simp [MT, z_up, ix10_eq, ix8_eq]⟩
      · simpa [MT, z_up, ix10_eq, ix8_eq, h] using B.lo i) (fun i => by
      by_cases h : i = l
      · subst h; right; simp [MT, z_up, ix10_eq, ix8_eq]
      · simpa [MT, z_up, ix10_eq, ix8_eq, h] using B.lb i) (B.wd) (fun q hq => by simpa [MT, z_up, ix10_eq] using B.ph q hq) (fun q hq => by
      by_cases h : q = p
      · subst h; exact ⟨c, hc, by simp [MT, z_up, ix10_eq]⟩
      · simpa [MT, z_up, ix10_eq, h] using B.pa q hq) (fun q => by
      by_cases h : q = p
      · subst h; exact ⟨cn - v, by omega, by simp [MT, z_up, ix10_eq]⟩
      · simpa [MT, z_up, ix10_eq, h] using B.pc q) (fun q hq => by simpa [MT, z_up, ix10_eq] using B.pl q hq) (fun q hq => by
      have := B.pg q hq
      unfold ZG at this ⊢
      by_cases h : q = p
      · subst h; left; simp [MT, z_up, ix10_eq]
      · rcases this with g | ⟨l', a1, a2, a3, a4, a5, a6⟩
        · left; simpa [MT, z_up, ix10_eq, h] using g
        · right
          have hne : ¬ l' = l := by
            intro e; subst e
            refine B.pd p q hp hq (fun e => h e.symm) ?_ (h5.trans a2.symm)
            rw [h5, Ne, z_ne1 (by have := B.l3; omega)]; exact id
          refine ⟨l', a1, by simpa [MT, z_up, ix10_eq, h] using a2, by simpa [MT, z_up, ix8_eq, hne] using a3, by simpa [MT, z_up, ix10_eq, h] using a4, by simpa [MT, z_up, ix10_eq, h] using a5, by simpa [MT, z_up, ix10_eq, ix8_eq, h, hne] using a6⟩) (fun q r hq hr' hqr => by
      have h0 := B.pd q r hq hr' hqr
      by_cases h : q = p
      · subst h; simp [MT, z_up, ix10_eq]
      · by_cases h' : r = p
        · subst h'; simp [MT, z_up, ix10_eq, h]
        · simpa [MT, z_up, ix10_eq, h, h'] using h0) (B.mi) (fun i w hi hw => by
      have h : ¬ i = l := by omega
      simpa [MT, z_up, ix8_eq, hw, h] using B.zl i w hi hw) (fun q w hq hw => by
      have h : ¬ q = p := by omega
      simpa [MT, z_up, ix10_eq, hw, h] using B.zp q w hq hw) (B.wy))
theorem ZK_MT {M M' : St} {p l c cn o v : Nat} (hp : p < 4) (hl : l < 20) (h : ZK M M') : ZK M (MT M' p l c cn o v) :=
  ZK_9 hp (by decide) (ZK_8 hl (by decide) (ZK_8 hl (by decide) (ZK_8 hl (by decide) (ZK_8 hl (by decide) (ZK_9 hp (by decide) (ZK_9 hp (by decide) (ZK_9 hp (by decide) h)))))))
def zbit (m : Int32) (l : Nat) : Int32 := (m >>> (Int32.ofNat l &&& 31)) &&& 1
theorem zbit_one : ∀ l, l < 20 → ∀ k, k < 20 → zbit (1 <<< (Int32.ofNat k &&& 31)) l = if l = k then 1 else 0 := by decide +kernel
theorem zbit_zero : ∀ l, l < 20 → zbit 0 l = 0 := by decide +kernel
theorem z_and1 (x : Int32) : x &&& 1 = 0 ∨ x &&& 1 = 1 := by
  have h : (x &&& 1).toBitVec = BitVec.setWidth 32 (BitVec.ofBool (x.toBitVec.getLsbD 0)) := by
    rw [Int32.toBitVec_and]; exact BitVec.and_one_eq_setWidth_ofBool_getLsbD
  cases hb : x.toBitVec.getLsbD 0
  · left; apply Int32.toBitVec_inj.mp; rw [h, hb]; rfl
  · right; apply Int32.toBitVec_inj.mp; rw [h, hb]; rfl
theorem z_andor (x y : Int32) : (x ||| y) &&& 1 = (x &&& 1) ||| (y &&& 1) := by
  apply Int32.toBitVec_inj.mp
  simp only [Int32.toBitVec_and, Int32.toBitVec_or]
  ext i hi; simp [Bool.and_or_distrib_right]
theorem zbit_or (a b : Int32) (l : Nat) : zbit (a ||| b) l = zbit a l ||| zbit b l := by
  unfold zbit; rw [Int32.shiftRight_or, z_andor]
theorem zbit_01 (a : Int32) (l : Nat) : zbit a l = 0 ∨ zbit a l = 1 := z_and1 _
theorem zbit_or1 (a b : Int32) (l : Nat) (h : zbit b l = 1) : zbit (a ||| b) l = 1 := by
  rw [zbit_or, h]; rcases zbit_01 a l with e | e <;> rw [e] <;> decide
theorem zbit_or0 (a b : Int32) (l : Nat) (h : zbit b l = 0) : zbit (a ||| b) l = zbit a l := by
  rw [zbit_or, h]; rcases zbit_01 a l with e | e <;> rw [e] <;> decide
theorem z_step {nc ns nl np : Nat} {T N M : St} (E : ZE nc nl T N M) (B : ZB nc ns nl np M) {p : Nat} (hp : p < np) {fu : Nat} {v1 : Int32} :
    ∃ N' M' r j, j ≤ 1 ∧ f0_moveLighters_L4 T (fu + 1) v1 (Int32.ofNat p) N = f0_moveLighters_L4 T fu (v1 + Int32.ofNat j) (Int32.ofNat (p + 1)) N' ∧
      f3_goOn M (Int32.ofNat p) = some (r, M') ∧ ZE nc nl T N' M' ∧ ZB nc ns nl np M' ∧ M' 12 = M 12 ∧ ZK M M' ∧
      ((j = 0 ∧ r = -1 ∧ M' 8 = M 8) ∨ ∃ l, j = 1 ∧ l < nl ∧ r = Int32.ofNat l ∧ M' 8 (ix8 l 6) = M 8 (ix8 l 6) + 1 ∧ ∀ i, i ≠ l → M' 8 (ix8 i 6) = M 8 (ix8 i 6)) := by
  have l1 := B.l1; have l2 := B.l2; have l3 := B.l3; have l4 := B.l4
  have main : ∀ N M, ZE nc nl T N M → ZB nc ns nl np M → M 9 (ix10 p 5) ≠ -1 →
      ∃ N' M' r j, j ≤ 1 ∧ zgC T fu v1 (Int32.ofNat p) N = f0_moveLighters_L4 T fu (v1 + Int32.ofNat j) (Int32.ofNat (p + 1)) N' ∧
      zgG (Int32.ofNat p) M = some (r, M') ∧ ZE nc nl T N' M' ∧ ZB nc ns nl np M' ∧ M' 12 = M 12 ∧ ZK M M' ∧
      ((j = 0 ∧ r = -1 ∧ M' 8 = M 8) ∨ ∃ l, j = 1 ∧ l < nl ∧ r = Int32.ofNat l ∧ M' 8 (ix8 l 6) = M 8 (ix8 l 6) + 1 ∧ ∀ i, i ≠ l → M' 8 (ix8 i 6) = M 8 (ix8 i 6)) := by
    intro N M E B hg
    rcases B.pg p hp with g | ⟨l, hl, g5, gb, ⟨e, e1, e2, ge⟩, ⟨c, hc, gc⟩, gp⟩
    · exact absurd g hg
    · obtain ⟨s, hs, es⟩ := B.lw l hl
      obtain ⟨cn, hcn, ecn⟩ := B.pc p
      obtain ⟨o, ho, eo⟩ := B.lo l
      have h0 : o + min cn (300 - o) ≠ 0 := by
        intro h
        have h1 : o = 0 := by omega
        have h2 : cn = 0 := by omega
        rw [ecn, eo, h1, h2] at gp
        rcases gp with gp | gp <;> exact gp rfl
      have R1 := z_goM (M := M) (p := p) (by omega) (by omega) g5 ge e1 e2 gc ecn eo hcn ho rfl h0
      have R2 := z_goC (T := T) (N := N) (fu := fu) (v1 := v1) (p := p) (l := l) (s := s) (by omega) (by omega) (by omega) ((E.n11 p (by omega)).trans g5) ((E.n13 p (by omega)).trans ge) e1 e2 ((E.n12 p (by omega) hg).trans gc) ((E.n10 p (by omega)).trans ecn) ((E.n4 l (by omega)).trans eo) ((E.t8 l).trans es) hcn ho rfl h0
      by_cases h : e = 1
      · rw [if_pos h] at R1 R2
        refine ⟨_, _, _, 1, by omega, R2, R1, ZE_tend E B hp hl hs es gb, ZB_tend B hp hl hc g5 hcn (by omega), rfl, ZK_MT (by omega) (by omega) (ZK_9 (by omega) (by decide) (ZK_refl M)), .inr ⟨l, rfl, hl, rfl, ?_, ?_⟩⟩
        · simp [MT, z_up, ix8_eq]
        · intro i hi; simp [MT, z_up, ix8_eq, hi]
      · rw [if_neg h] at R1 R2
        refine ⟨_, _, _, 0, by omega, ?_, R1, ZE_wait E, ZB_wait B hp (by omega) (by omega), rfl, ZK_9 (by omega) (by decide) (ZK_refl M), .inl ⟨rfl, rfl, rfl⟩⟩
        rw [R2, show Int32.ofNat 0 = 0 from rfl, Int32.add_zero]
  rw [z_move_eq, z_goOn_eq]
  rw [if_neg (by rw [E.c12, B.k4, z_le (by omega) (by omega)]; omega), z_xin (by omega) (by omega), gd_t, z_clamp (by omega), E.n11 p (by omega), z_pe5 (by omega), bd_e]
  by_cases hg : M 9 (ix10 p 5) = -1
  · rw [if_pos hg, if_pos hg]
    obtain ⟨N1, M1, k1, k2, E1, B1, k3, k4, k5⟩ := z_look E B hp hg
    rw [k1, k2, bd_e, bd_e]
    by_cases hg1 : M1 9 (ix10 p 5) = -1
    · refine ⟨N1, M1, -1, 0, by omega, ?_, ?_, E1, B1, k4, k5, .inl ⟨rfl, rfl, k3⟩⟩
      · unfold zgC
        rw [lt_e, z_clamp (by omega), if_pos ((E1.n11 p (by omega)).trans hg1), z_s1, show Int32.ofNat 0 = 0 from rfl, Int32.add_zero]
      · unfold zgG
        rw [z_pe5 (by omega), bd_e, if_pos hg1]
    · obtain ⟨N', M', r, j, q1, q2, q3, q4, q5, q6, q8, q7⟩ := main N1 M1 E1 B1 hg1
      refine ⟨N', M', r, j, q1, q2, q3, q4, q5, q6.trans k4, ZK_trans k5 q8, ?_⟩
      rw [← k3]; exact q7
  · rw [if_neg hg, if_neg hg]
    exact main N M E B hg
def zlit (M : St) (nl : Nat) : Int32 := zsum (fun l => M 8 (ix8 l 6)) nl
theorem z_move {nc ns nl np : Nat} {T : St} : ∀ (fu p : Nat) (N M : St) (v1 v0 : Int32), ZE nc nl T N M → ZB nc ns nl np M → p ≤ np → np - p < fu →
    ∃ N' M' v' w, f0_moveLighters_L4 T fu v1 (Int32.ofNat p) N = some (v1 + w, N') ∧ (∀ K, f3_minuteOn_L4 K fu v0 (Int32.ofNat p) M = K v' M') ∧
      ZE nc nl T N' M' ∧ ZB nc ns nl np M' ∧ M' 12 = M 12 ∧ ZK M M' ∧ zlit M' nl = zlit M nl + w ∧
      ∀ l, l < nl → ∃ j, j ≤ np - p ∧ M' 8 (ix8 l 6) = M 8 (ix8 l 6) + Int32.ofNat j ∧ zbit v' l = if j = 0 then zbit v0 l else 1 := by
  intro fu
  induction fu with
  | zero => intro p N M v1 v0 E B hp h; omega
  | succ fu ih =>
    intro p N M v1 v0 E B hp hf
    have l1 := B.l1; have l2 := B.l2; have l3 := B.l3; have l4 := B.l4
    by_cases h : np ≤ p
    · refine ⟨N, M, v0, 0, ?_, ?_, E, B, rfl, ZK_refl M, by rw [Int32.add_zero], fun l hl => ⟨0, by omega, by rw [show Int32.ofNat 0 = 0 from rfl, Int32.add_zero], rfl⟩⟩
      · rw [z_move_eq, if_pos (by rw [E.c12, B.k4, z_le (by omega) (by omega)]; exact h), Int32.add_zero]
      · intro K; rw [f3_minuteOn_L4, if_pos (by rw [B.k4, z_le (by omega) (by omega)]; exact h)]
    · obtain ⟨N1, M1, r, j, hj, s1, s2, E1, B1, s3, sk, s4⟩ := z_step E B (p := p) (by omega) (fu := fu) (v1 := v1)
      have hm : ∀ K, f3_minuteOn_L4 K (fu + 1) v0 (Int32.ofNat p) M = f3_minuteOn_L4 K fu (v0 ||| (if r = -1 then (0 : Int32) else 1 <<< (r &&& 31))) (Int32.ofNat (p + 1)) M1 := by
        intro K
        rw [f3_minuteOn_L4, if_neg (by rw [B.k4, z_le (by omega) (by omega)]; exact h), s2, bd2_e]
        simp only [lt_e, z_s1]
        split <;> rfl
      obtain ⟨N', M', v', w, t1, t2, E2, B2, t3, tk, t4, t5⟩ := ih (p + 1) N1 M1 (v1 + Int32.ofNat j) (v0 ||| (if r = -1 then (0 : Int32) else 1 <<< (r &&& 31))) E1 B1 (by omega) (by omega)
      refine ⟨N', M', v', Int32.ofNat j + w, ?_, ?_, E2, B2, t3.trans s3, ZK_trans sk tk, ?_, ?_⟩
      · rw [s1, t1, Int32.add_assoc]
      · intro K; rw [hm, t2]
      · rcases s4 with ⟨a1, a2, a3⟩ | ⟨l, a1, a2, a3, a4, a5⟩
        · rw [t4, a1, show Int32.ofNat 0 = 0 from rfl, Int32.zero_add]
          have : zlit M1 nl = zlit M nl := by unfold zlit; rw [a3]
          rw [this]
        · have : zlit M1 nl = zlit M nl + 1 := zsum_upd a2 a4 a5
          rw [t4, this, a1, show Int32.ofNat 1 = 1 from rfl, Int32.add_assoc]
      · intro l hl
        obtain ⟨i, i1, i2, i3⟩ := t5 l hl
        rcases s4 with ⟨a1, a2, a3⟩ | ⟨l', a1, a2, a3, a4, a5⟩
        · refine ⟨i, by omega, by rw [i2, a3], ?_⟩
          rw [i3, if_pos a2, zbit_or0 _ _ _ (zbit_zero l (by omega))]
        · have hr : ¬ r = -1 := by rw [a3, z_ne1 (by omega)]; exact id
          rw [if_neg hr, a3] at i3
          by_cases hll : l = l'
          · subst hll
            refine ⟨i + 1, by omega, ?_, ?_⟩
            · rw [i2, a4, Int32.add_assoc, Int32.add_comm 1, z_s1]
            · rw [if_neg (by omega), i3]
              have := zbit_one l (by omega) l (by omega)
              rw [if_pos rfl] at this
              split
              · exact zbit_or1 _ _ _ this
              · rfl
          · refine ⟨i, by omega, by rw [i2, a5 l hll], ?_⟩
            have := zbit_one l (by omega) l' (by omega)
            rw [if_neg hll] at this
            rw [i3, zbit_or0 _ _ _ this]
