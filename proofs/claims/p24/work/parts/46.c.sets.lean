/-! A LIGHTER SETS OUT, OR WAITS: both loops at once -/
def LF (nc nl np : Nat) (M : St) (p l c d pl : Nat) : Prop :=
  l < nl ∧ M 8 (ix8 l 5) = 0 ∧ (∀ q, q < np → M 9 (ix10 q 5) ≠ Int32.ofNat l) ∧ c < nc ∧ d ≤ 264 ∧ (∃ k, M 9 (ix10 p 4) = Int32.ofNat k ∧ pl < k ∧ k ≤ 10 ∧ M 10 (ix10 p pl) = Int32.ofNat l) ∧ (∃ h g, M 8 (ix8 l 1) = Int32.ofNat h ∧ M 9 (ix10 p 2) = Int32.ofNat g ∧ h ≤ 9 ∧ g ≤ 9 ∧ h ≤ g + 2) ∧ (M 9 (ix10 p 3) ≠ 0 ∨ M 8 (ix8 l 3) ≠ 0)
theorem y_goerM {nc ns nl np : Nat} {M : St} (B : ZB nc ns nl np M) (x : Int32) : ∃ r, f3_goer M x = some r ∧ ((r = -1 ∧ ∀ q, q < np → M 9 (ix10 q 5) ≠ x) ∨ ∃ q, q < np ∧ r = Int32.ofNat q ∧ M 9 (ix10 q 5) = x) := by
  have l4 := B.l4
  have key : ∀ (fu i : Nat), i ≤ np → np - i < fu → ∃ r, f3_goer_L2 x M fu (Int32.ofNat i) = some r ∧ ((r = -1 ∧ ∀ q, i ≤ q → q < np → M 9 (ix10 q 5) ≠ x) ∨ ∃ q, q < np ∧ r = Int32.ofNat q ∧ M 9 (ix10 q 5) = x) := by
    intro fu
    induction fu with
    | zero => intro i _ h; omega
    | succ fu ih =>
      intro i hi hf
      rw [f3_goer_L2, B.k4]
      by_cases h : np ≤ i
      · simp (disch := omega) only [z_le, if_pos h]
        exact ⟨-1, rfl, .inl ⟨rfl, fun q h1 h2 => by omega⟩⟩
      · simp (disch := omega) only [z_le, if_neg h, z_pe5, bd_e]
        by_cases e : M 9 (ix10 i 5) = x
        · simp only [if_pos e]
          exact ⟨_, rfl, .inr ⟨i, by omega, rfl, e⟩⟩
        · rw [if_neg e, z_s1]
          obtain ⟨r, h1, h3⟩ := ih (i + 1) (by omega) (by omega)
          refine ⟨r, h1, ?_⟩
          rcases h3 with ⟨h3, h4⟩ | h3
          · refine .inl ⟨h3, fun q q1 q2 => ?_⟩
            by_cases hq : q = i
            · subst hq; exact e
            · exact h4 q (by omega) q2
          · exact .inr h3
  obtain ⟨r, h1, h3⟩ := key xF 0 (by omega) (by unfold xF; omega)
  refine ⟨r, h1, ?_⟩
  rcases h3 with ⟨h3, h4⟩ | h3
  · exact .inl ⟨h3, fun q hq => h4 q (by omega) hq⟩
  · exact .inr h3
theorem y_look_L {nc ns nl np : Nat} {Y : Nat → Nat} {S M : St} (R : SR nc ns nl np Y S M) (B : ZB nc ns nl np M) (X : ZX nl np M) (V : SW nc S M) {p k base at_ : Nat} (hp : p < np) (hk : k ≤ 10) (ek : Y (rk 13 p) = k) (hb : base ≤ k) (hlast : M 9 (ix10 p 8) + 1 = Int32.ofNat base) (hr : ∀ i, i < k → ∃ l, l < nl ∧ M 10 (ix10 p i) = Int32.ofNat l) (ha : at_ < nc) (hat : M 9 (ix10 p 1) = Int32.ofNat at_) :
    ∀ (fu i : Nat), i ≤ k → k - i < fu →
    (f5_look_L17 (Int32.ofNat p) Y S fu (Int32.ofNat i) = some S ∧ ∀ K, f3_look_L9 (Int32.ofNat p) (Int32.ofNat k) M K fu (Int32.ofNat (i + 1)) = some M) ∨
    (∃ pl l c d, pl < k ∧ l < nl ∧ M 10 (ix10 p pl) = Int32.ofNat l ∧ M 8 (ix8 l 5) = 0 ∧ (∀ q, q < np → M 9 (ix10 q 5) ≠ Int32.ofNat l) ∧ c < nc ∧ d ≤ 264 ∧ M 7 (ix12 at_ c) = Int32.ofNat d ∧ f3_corner_ M (Int32.ofNat p) (Int32.ofNat l) = some (Int32.ofNat c) ∧
      (∃ h g, M 8 (ix8 l 1) = Int32.ofNat h ∧ M 9 (ix10 p 2) = Int32.ofNat g ∧ h ≤ 9 ∧ g ≤ 9 ∧ h ≤ g + 2) ∧
      (∀ K, f3_look_L9 (Int32.ofNat p) (Int32.ofNat k) M K fu (Int32.ofNat (i + 1)) = K (Int32.ofNat pl) (Int32.ofNat l)) ∧
      f5_look_L17 (Int32.ofNat p) Y S fu (Int32.ofNat i) = if M 8 (ix8 l 3) + M 9 (ix10 p 3) ≤ 0 then some S else some (SS S p l c d pl)) := by
  have l1 := B.l1; have l2 := B.l2; have l3 := B.l3; have l4 := B.l4
  intro fu
  induction fu with
  | zero => intro i _ h; omega
  | succ fu ih =>
    intro i hi hf
    by_cases h : k ≤ i
    · left
      refine ⟨?_, fun K => ?_⟩
      · rw [f5_look_L17, z_clamp (n := p) (by omega), ek, if_pos (by rw [z_le (by omega) (by omega)]; exact h)]
      · rw [f3_look_L9]
        have h2 : k < i + 1 := by omega
        simp (disch := omega) only [z_lt, if_pos h2]
    · have hk0 : 0 < k := by omega
      have hml : (base + i) % k < k := Nat.mod_lt _ hk0
      obtain ⟨l, hl, el⟩ := hr _ hml
      obtain ⟨s, hs, es⟩ := B.lw l hl
      obtain ⟨a, haa, ea⟩ := B.sa s hs
      obtain ⟨b, hbb, eb⟩ := B.sb s hs
      obtain ⟨da, hda, eda⟩ := B.wy at_ a ha haa
      obtain ⟨db, hdb, edb⟩ := B.wy at_ b ha hbb
      have hlast2 : M 9 (ix10 p 8) + Int32.ofNat (i + 1) = Int32.ofNat (base + i) := by
        rw [show Int32.ofNat (base + i) = Int32.ofNat base + Int32.ofNat i from z_add.symm, ← hlast, show Int32.ofNat (i + 1) = Int32.ofNat i + 1 from z_s1.symm]; ac_rfl
      have look : ∀ K, f3_look_L9 (Int32.ofNat p) (Int32.ofNat k) M K (fu + 1) (Int32.ofNat (i + 1)) =
          if M 8 (ix8 l 5) = 1 then f3_look_L9 (Int32.ofNat p) (Int32.ofNat k) M K fu (Int32.ofNat (i + 1 + 1)) else
          bd (f3_goer M (Int32.ofNat l)) fun v17 => if v17 = -1 then
            bd (f3_corner_ M (Int32.ofNat p) (Int32.ofNat l)) fun v20 => if v20 = -1 then f3_look_L9 (Int32.ofNat p) (Int32.ofNat k) M K fu (Int32.ofNat (i + 1 + 1)) else K (Int32.ofNat ((base + i) % k)) (Int32.ofNat l)
          else f3_look_L9 (Int32.ofNat p) (Int32.ofNat k) M K fu (Int32.ofNat (i + 1 + 1)) := by
        intro K
        rw [f3_look_L9]
        have h2 : ¬ k < i + 1 := by omega
        have h3 : (decide (¬ Int32.ofNat k = 0)) = true := by
          apply decide_eq_true; rw [z_l0, z_inj (by omega) (by omega)]; omega
        have hx : Int32.ofNat (base + i) - Int32.ofNat (base + i) / Int32.ofNat k * Int32.ofNat k = Int32.ofNat ((base + i) % k) := z_mod (by omega) (by omega)
        simp (disch := omega) only [z_lt, if_neg h2, z_pe8, bd_e, h3, gd_t, lt_e, hlast2, hx]
        have e10 : (10 : Int32) * Int32.ofNat p + Int32.ofNat ((base + i) % k) = Int32.ofNat (ix10 p ((base + i) % k)) := z_s10
        rw [e10, z_xin (by unfold ix10; omega) (by unfold ix10; omega), gd_t, z_clamp (by unfold ix10; omega), el]
        simp (disch := omega) only [z_la5, bd_e, z_s1]
      have sim := y_lstep (fu := fu) R B V hp hk ek hb hlast (by omega : i < k) hl el ha hat hs es haa ea hbb eb hda eda hdb edb
      have cor := y_corner B (p := p) (by omega) hl ha hat hs es haa ea hbb eb hda eda hdb edb
      have next := ih (i + 1) (by omega) (by omega)
      obtain ⟨g, g1, g3⟩ := y_goerM B (Int32.ofNat l)
      obtain ⟨hh, hh1, hh2, eh⟩ := X.he l hl
      obtain ⟨gg, hg1, eg⟩ := X.ld p hp
      have hgt : (M 9 (ix10 p 2) + 2 < M 8 (ix8 l 1)) ↔ M 9 (ix10 p 2) < M 8 (ix8 l 1) - 2 := by
        rw [eh, eg, show (2 : Int32) = Int32.ofNat 2 from rfl, z_add, z_sub hh1, z_lt (by omega) (by omega), z_lt (by omega) (by omega)]; omega
      rw [sim]
      simp only [look]
      simp only [g1, cor, bd_e]
      rcases B.lb l with b0 | b1
      · have b1 : ¬ M 8 (ix8 l 5) = 1 := by rw [b0]; decide
        simp only [if_neg b1]
        rcases g3 with ⟨g3, g4⟩ | ⟨q, q1, q2, q3⟩
        · subst g3
          rw [if_neg (by decide : ¬ (0 : Int32) ≤ -1)]
          simp only [if_true]
          by_cases t1 : M 9 (ix10 p 2) + 2 < M 8 (ix8 l 1)
          · simp only [if_pos t1, if_pos (hgt.mp t1), if_true]
            exact next
          · have t2 : ¬ M 9 (ix10 p 2) < M 8 (ix8 l 1) - 2 := fun z => t1 (hgt.mpr z)
            simp only [if_neg t1, if_neg t2]
            by_cases t3 : (if db < da then db else da) = 9999
            · simp only [if_pos t3, if_true]
              exact next
            · have t4 : ¬ Int32.ofNat (if db < da then b else a) = -1 := by rw [z_ne1 (by split <;> omega)]; exact id
              simp only [if_neg t3, if_neg t4]
              right
              refine ⟨(base + i) % k, l, (if db < da then b else a), (if db < da then db else da), hml, hl, el, b0, g4, by split <;> assumption, by split <;> split at t3 <;> omega, ?_, ?_, ⟨hh, gg, eh, eg, hh2, hg1, ?_⟩, fun K => rfl, rfl⟩
              · split
                · exact edb
                · exact eda
              · rw [cor, if_neg t1, if_neg t3]
              · rw [eh, eg, show (2 : Int32) = Int32.ofNat 2 from rfl, z_add, z_lt (by omega) (by omega)] at t1; omega
        · have q4 : ¬ g = -1 := by rw [q2, z_ne1 (by omega)]; exact id
          have q5 : 0 ≤ g := by rw [q2, z_l0, z_le (by omega) (by omega)]; omega
          simp only [if_neg q4, if_pos q5]
          exact next
      · simp only [if_pos b1]
        exact next
theorem y_look {nc ns nl np : Nat} {Y : Nat → Nat} {S M : St} (R : SR nc ns nl np Y S M) (B : ZB nc ns nl np M) (X : ZX nl np M) (V : SW nc S M) {p : Nat} (hp : p < np) :
    (f3_look M (Int32.ofNat p) = some M ∧ f5_look Y S (Int32.ofNat p) = some S) ∨ ∃ l c d pl, LF nc nl np M p l c d pl ∧ f3_look M (Int32.ofNat p) = some (MS M p l c d pl) ∧ f5_look Y S (Int32.ofNat p) = some (SS S p l c d pl) := by
  have l1 := B.l1; have l2 := B.l2; have l3 := B.l3; have l4 := B.l4
  obtain ⟨k, hk, ek, hlast, hr⟩ := B.pl p hp
  obtain ⟨base, hb, eb⟩ := z_last hk hlast
  obtain ⟨at_, ha, hat⟩ := B.pa p hp
  have ek2 : Y (rk 13 p) = k := by
    obtain ⟨r1, r2⟩ := R.rn p hp
    rw [ek, z_inj (by omega) (by omega)] at r1
    exact r1.symm
  have K := y_look_L R B X V hp hk ek2 hb eb hr ha hat xF 0 (by omega) (by unfold xF; omega)
  have hS : f5_look Y S (Int32.ofNat p) = f5_look_L17 (Int32.ofNat p) Y S xF (Int32.ofNat 0) := by
    unfold f5_look
    rw [R.y4, R.y5, z_xin (by omega) hp, gd_t, gd_t]; rfl
  rw [hS]
  rcases K with ⟨r1, r2⟩ | ⟨pl, l, c, d, hpl, hl, el, hb0, hng, hc, hd, hmd, hco, hre, r2, r1⟩
  · left
    refine ⟨?_, r1⟩
    unfold f3_look
    rw [z_pe4 (by omega), bd_e, ek]
    exact r2 _
  · obtain ⟨o1, ho1, eo1⟩ := B.pc p
    obtain ⟨o2, ho2, eo2⟩ := B.lo l
    have hoil : M 8 (ix8 l 3) + M 9 (ix10 p 3) ≤ 0 ↔ (M 9 (ix10 p 3) = 0 ∧ M 8 (ix8 l 3) = 0) := by
      rw [eo1, eo2, z_add, z_l0, z_le (by omega) (by omega), z_inj (by omega) (by omega), z_inj (by omega) (by omega)]; omega
    by_cases hgo : M 9 (ix10 p 3) = 0 ∧ M 8 (ix8 l 3) = 0
    · left
      refine ⟨?_, by rw [r1, if_pos (hoil.mpr hgo)]⟩
      unfold f3_look
      rw [z_pe4 (by omega), bd_e, ek]
      refine (r2 _).trans ?_
      rw [z_pe3 (by omega), bd_e, lt_e, if_pos hgo.1, z_la3 (by omega), bd_e, if_pos hgo.2]
    · right
      refine ⟨l, c, d, pl, ⟨hl, hb0, hng, hc, hd, ⟨k, ek, hpl, hk, el⟩, hre, ?_⟩, ?_, by rw [r1, if_neg (fun z => hgo (hoil.mp z))]⟩
      · by_cases t : M 9 (ix10 p 3) = 0
        · exact .inr fun t2 => hgo ⟨t, t2⟩
        · exact .inl t
      · unfold f3_look
        rw [z_pe4 (by omega), bd_e, ek]
        refine (r2 _).trans ?_
        rw [z_pe3 (by omega), bd_e]
        have go : (bd (f3_put M (Int32.ofNat p) 5 (Int32.ofNat l)) fun M26 =>
          bd (f3_corner_ M26 (Int32.ofNat p) (Int32.ofNat l)) fun v28 =>
          bd (f3_put M26 (Int32.ofNat p) 7 v28) fun M31 =>
          bd (f3_pe M31 (Int32.ofNat p) 1) fun v33 =>
          bd (f3_pe M31 (Int32.ofNat p) 7) fun v36 =>
          bd (f3_away M31 v33 v36) fun v39 =>
          bd (f3_put M31 (Int32.ofNat p) 6 (v39 + 3)) fun M42 =>
          bd (f3_put M42 (Int32.ofNat p) 8 (Int32.ofNat pl)) fun M44 =>
          some M44) = some (MS M p l c d pl) := by
          have q1 : (up2 (up2 M 9 (ix10 p 5) (Int32.ofNat l)) 9 (ix10 p 7) (Int32.ofNat c)) 9 (ix10 p 1) = Int32.ofNat at_ := by simp [up2, up1, upd, ix10_eq, hat]
          have q2 : (up2 (up2 M 9 (ix10 p 5) (Int32.ofNat l)) 9 (ix10 p 7) (Int32.ofNat c)) 9 (ix10 p 7) = Int32.ofNat c := by simp [up2, up1, upd]
          have q3 : (up2 (up2 M 9 (ix10 p 5) (Int32.ofNat l)) 9 (ix10 p 7) (Int32.ofNat c)) 7 (ix12 at_ c) = Int32.ofNat d := hmd
          rw [z_put5 (by omega), bd_e, z_corner_u (by omega) (by omega), hco, bd_e, z_put7 (by omega), bd_e, z_pe1 (by omega), bd_e, z_pe7 (by omega), bd_e, q1, q2, z_away (by omega) (by omega), bd_e, q3, z_min (.inl hd), z_put6 (by omega), bd_e, z_put8 (by omega), bd_e, show Int32.ofNat d + 3 = Int32.ofNat (d + 3) from z_add]
          rfl
        rw [lt_e, go, z_la3 (by omega), bd_e]
        by_cases t1 : M 9 (ix10 p 3) = 0
        · rw [if_pos t1, if_neg (fun t2 => hgo ⟨t1, t2⟩)]
        · rw [if_neg t1]
