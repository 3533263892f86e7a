/-! WHERE A LIGHTER GOES: the sim and the model alike, said plainly -/
def ZX (nl np : Nat) (M : St) : Prop :=
  (∀ l, l < nl → M 8 (ix8 l 5) = 1 → M 8 (ix8 l 3) ≠ 0) ∧
  (∀ l, l < nl → ∃ k, k ≤ 9 ∧ M 8 (ix8 l 4) = Int32.ofNat k) ∧
  (∀ l, l < nl → ∃ k, k ≤ 9 ∧ M 8 (ix8 l 2) = Int32.ofNat k) ∧
  (∀ l, l < nl → ∃ k, 2 ≤ k ∧ k ≤ 9 ∧ M 8 (ix8 l 1) = Int32.ofNat k) ∧
  (∀ p, p < np → ∃ k, k ≤ 9 ∧ M 9 (ix10 p 2) = Int32.ofNat k) ∧
  (∀ p, p < np → M 9 (ix10 p 5) = -1 → M 9 (ix10 p 6) = 0) ∧
  (∀ p l, p < np → l < nl → M 9 (ix10 p 5) = Int32.ofNat l → (∃ i k, M 9 (ix10 p 4) = Int32.ofNat k ∧ i < k ∧ k ≤ 10 ∧ M 10 (ix10 p i) = Int32.ofNat l) ∧ ∃ h g, M 8 (ix8 l 1) = Int32.ofNat h ∧ M 9 (ix10 p 2) = Int32.ofNat g ∧ h ≤ 9 ∧ g ≤ 9 ∧ h ≤ g + 2)
theorem ZX.bo {nl np : Nat} {M : St} (h : ZX nl np M) : ∀ l, l < nl → M 8 (ix8 l 5) = 1 → M 8 (ix8 l 3) ≠ 0 := h.1
theorem ZX.so {nl np : Nat} {M : St} (h : ZX nl np M) : ∀ l, l < nl → ∃ k, k ≤ 9 ∧ M 8 (ix8 l 4) = Int32.ofNat k := h.2.1
theorem ZX.li {nl np : Nat} {M : St} (h : ZX nl np M) : ∀ l, l < nl → ∃ k, k ≤ 9 ∧ M 8 (ix8 l 2) = Int32.ofNat k := h.2.2.1
theorem ZX.he {nl np : Nat} {M : St} (h : ZX nl np M) : ∀ l, l < nl → ∃ k, 2 ≤ k ∧ k ≤ 9 ∧ M 8 (ix8 l 1) = Int32.ofNat k := h.2.2.2.1
theorem ZX.ld {nl np : Nat} {M : St} (h : ZX nl np M) : ∀ p, p < np → ∃ k, k ≤ 9 ∧ M 9 (ix10 p 2) = Int32.ofNat k := h.2.2.2.2.1
theorem ZX.z6 {nl np : Nat} {M : St} (h : ZX nl np M) : ∀ p, p < np → M 9 (ix10 p 5) = -1 → M 9 (ix10 p 6) = 0 := h.2.2.2.2.2.1
theorem ZX.go {nl np : Nat} {M : St} (h : ZX nl np M) : ∀ p l, p < np → l < nl → M 9 (ix10 p 5) = Int32.ofNat l → (∃ i k, M 9 (ix10 p 4) = Int32.ofNat k ∧ i < k ∧ k ≤ 10 ∧ M 10 (ix10 p i) = Int32.ofNat l) ∧ ∃ h g, M 8 (ix8 l 1) = Int32.ofNat h ∧ M 9 (ix10 p 2) = Int32.ofNat g ∧ h ≤ 9 ∧ g ≤ 9 ∧ h ≤ g + 2 := h.2.2.2.2.2.2
def dcl (d : Nat) : Nat := if d = 9999 then 1000 else d
theorem scls_d {d : Nat} (h : d ≤ 264 ∨ d = 9999) : scls (Int32.ofNat d) = Int32.ofNat (dcl d) := by
  unfold scls dcl
  rw [z_l9999, z_ieq (by omega) (by omega)]
  split <;> rfl
theorem y_corner {nc ns nl np : Nat} {M : St} (B : ZB nc ns nl np M) {p l at_ s a b da db : Nat} (hp : p < 4) (hl : l < nl) (ha : at_ < nc) (hat : M 9 (ix10 p 1) = Int32.ofNat at_) (hs : s < ns) (es : M 8 (ix8 l 0) = Int32.ofNat s) (haa : a < nc) (ea : M 6 (ix3 s 0) = Int32.ofNat a) (hbb : b < nc) (eb : M 6 (ix3 s 1) = Int32.ofNat b) (hda : da ≤ 264 ∨ da = 9999) (eda : M 7 (ix12 at_ a) = Int32.ofNat da) (hdb : db ≤ 264 ∨ db = 9999) (edb : M 7 (ix12 at_ b) = Int32.ofNat db) :
    f3_corner_ M (Int32.ofNat p) (Int32.ofNat l) = some (if M 9 (ix10 p 2) + 2 < M 8 (ix8 l 1) then -1 else if (if db < da then db else da) = 9999 then -1 else Int32.ofNat (if db < da then b else a)) := by
  have l1 := B.l1; have l2 := B.l2; have l3 := B.l3
  unfold f3_corner_
  by_cases h : db < da
  · have hn : ¬ da ≤ db := by omega
    simp (disch := omega) only [z_la0, z_la1, bd_e, es, z_ro0, z_ro1, z_pe1, z_pe2, hat, ea, eb, z_away, eda, edb, z_lt, z_min2 hda, z_min2 hdb, lt_e, z_le, if_neg hn, z_l9999, z_inj, if_pos h]
    by_cases h1 : M 9 (ix10 p 2) + 2 < M 8 (ix8 l 1)
    · simp only [if_pos h1]
    · simp only [if_neg h1]
      by_cases h2 : db = 9999
      · simp only [if_pos h2]
      · simp only [if_neg h2]
  · have hn : da ≤ db := by omega
    simp (disch := omega) only [z_la0, z_la1, bd_e, es, z_ro0, z_ro1, z_pe1, z_pe2, hat, ea, eb, z_away, eda, edb, z_lt, z_min2 hda, z_min2 hdb, lt_e, z_le, if_pos hn, z_l9999, z_inj, if_neg h]
    by_cases h1 : M 9 (ix10 p 2) + 2 < M 8 (ix8 l 1)
    · simp only [if_pos h1]
    · simp only [if_neg h1]
      by_cases h2 : da = 9999
      · simp only [if_pos h2]
      · simp only [if_neg h2]
def MS (M : St) (p l c d pl : Nat) : St := up2 (up2 (up2 (up2 M 9 (ix10 p 5) (Int32.ofNat l)) 9 (ix10 p 7) (Int32.ofNat c)) 9 (ix10 p 6) (Int32.ofNat (d + 3))) 9 (ix10 p 8) (Int32.ofNat pl)
def SS (S : St) (p l c d pl : Nat) : St := up2 (up2 (up2 (up2 S (rk 12 p) 4 (Int32.ofNat l)) (rk 12 p) 6 (Int32.ofNat c)) (rk 12 p) 5 (Int32.ofNat (d + 3))) (rk 12 p) 7 (Int32.ofNat pl)
theorem SR_S {nc ns nl np : Nat} {Y : Nat → Nat} {S M : St} (R : SR nc ns nl np Y S M) (p l c d pl : Nat) : SR nc ns nl np Y (SS S p l c d pl) (MS M p l c d pl) :=
  SR_9 (w := 7) (SR_9 (w := 5) (SR_9 (w := 6) (SR_9 (w := 4) R (by omega)) (by omega)) (by omega)) (by omega)
theorem y_lstep {nc ns nl np : Nat} {Y : Nat → Nat} {S M : St} (R : SR nc ns nl np Y S M) (B : ZB nc ns nl np M) (V : SW nc S M) {p k base i fu l at_ s a b da db : Nat} (hp : p < np) (hk : k ≤ 10) (ek : Y (rk 13 p) = k) (hb : base ≤ k) (hlast : M 9 (ix10 p 8) + 1 = Int32.ofNat base) (hi : i < k) (hl : l < nl) (el : M 10 (ix10 p ((base + i) % k)) = Int32.ofNat l)
    (ha : at_ < nc) (hat : M 9 (ix10 p 1) = Int32.ofNat at_) (hs : s < ns) (es : M 8 (ix8 l 0) = Int32.ofNat s) (haa : a < nc) (ea : M 6 (ix3 s 0) = Int32.ofNat a) (hbb : b < nc) (eb : M 6 (ix3 s 1) = Int32.ofNat b) (hda : da ≤ 264 ∨ da = 9999) (eda : M 7 (ix12 at_ a) = Int32.ofNat da) (hdb : db ≤ 264 ∨ db = 9999) (edb : M 7 (ix12 at_ b) = Int32.ofNat db) :
    f5_look_L17 (Int32.ofNat p) Y S (fu + 1) (Int32.ofNat i) =
      if M 8 (ix8 l 5) = 1 then f5_look_L17 (Int32.ofNat p) Y S fu (Int32.ofNat (i + 1)) else
      bd (f3_goer M (Int32.ofNat l)) fun v => if 0 ≤ v then f5_look_L17 (Int32.ofNat p) Y S fu (Int32.ofNat (i + 1)) else
      if M 9 (ix10 p 2) < M 8 (ix8 l 1) - 2 then f5_look_L17 (Int32.ofNat p) Y S fu (Int32.ofNat (i + 1)) else
      if (if db < da then db else da) = 9999 then f5_look_L17 (Int32.ofNat p) Y S fu (Int32.ofNat (i + 1)) else
      if M 8 (ix8 l 3) + M 9 (ix10 p 3) ≤ 0 then some S else some (SS S p l (if db < da then b else a) (if db < da then db else da) ((base + i) % k)) := by
  have l1 := B.l1; have l2 := B.l2; have l3 := B.l3; have l4 := B.l4
  have hk0 : 0 < k := by omega
  have hml : (base + i) % k < k := Nat.mod_lt _ hk0
  have h7 : S (rk 12 p) 7 + 1 = Int32.ofNat base := by rw [R.l7 hp]; exact hlast
  have hx : Int32.ofNat (base + i) - Int32.ofNat (base + i) / Int32.ofNat k * Int32.ofNat k = Int32.ofNat ((base + i) % k) := z_mod (by omega) (by omega)
  have h3 : (decide (¬ Int32.ofNat k = 0)) = true := by
    apply decide_eq_true; rw [z_l0, z_inj (by omega) (by omega)]; omega
  have e13 : S (rk 13 p) ((base + i) % k) = Int32.ofNat l := by rw [R.ro p _ hp (by omega)]; exact el
  have e0 : S (rk 11 l) 0 = Int32.ofNat s := by rw [R.la l 0 hl (by omega)]; exact es
  have e1 : S (rk 12 p) 1 = Int32.ofNat at_ := by rw [R.l1 hp]; exact hat
  have f0 : S (rk 10 s) 0 = Int32.ofNat a := by rw [R.st s 0 hs (by omega)]; exact ea
  have f1 : S (rk 10 s) 1 = Int32.ofNat b := by rw [R.st s 1 hs (by omega)]; exact eb
  have g0 : S (rk 14 at_) a = Int32.ofNat (dcl da) := by rw [V at_ a ha haa, eda, scls_d hda]
  have g1 : S (rk 14 at_) b = Int32.ofNat (dcl db) := by rw [V at_ b ha hbb, edb, scls_d hdb]
  have hdca : dcl da ≤ 1000 := by unfold dcl; split <;> omega
  have hdcb : dcl db ≤ 1000 := by unfold dcl; split <;> omega
  have hcmp : dcl db < dcl da ↔ db < da := by unfold dcl; split <;> split <;> omega
  rw [f5_look_L17, R.y3, R.y2, z_clamp (n := p) (by omega), ek]
  have hik : ¬ k ≤ i := by omega
  rw [if_neg (by rw [z_le (by omega) (by omega)]; omega), h3, gd_t]
  simp only [kc0, kc1, kc2, kc3, kc4, kc5, kc7]
  rw [h7, z_add, hx, lt_e, z_xin (n := (base + i) % k) (by omega) hml, gd_t, z_clamp (n := (base + i) % k) (by omega), e13, z_xin (n := l) (by omega) hl, gd_t, z_clamp (n := l) (by omega), e0, z_xin (n := s) (by omega) hs, gd_t, e1, z_xin (n := at_) (by omega) (by omega), gd_t, z_clamp (n := at_) (by omega), z_clamp (n := s) (by omega), f0, z_xin (n := a) (by omega) (by omega), gd_t, z_clamp (n := a) (by omega), g0, lt_e, f1, z_xin (n := b) (by omega) (by omega), gd_t, z_clamp (n := b) (by omega), g1, lt_e, z_s1]
  simp only [lt_e]
  rw [R.la l 5 hl (by omega), R.la l 1 hl (by omega), R.la l 3 hl (by omega), R.l2 hp, R.l3 hp, y_goer R B]
  by_cases q1 : M 8 (ix8 l 5) = 1
  · simp only [if_pos q1]
  · simp only [if_neg q1]
    congr 1
    funext v
    by_cases q2 : 0 ≤ v
    · simp only [if_pos q2]
    · simp only [if_neg q2]
      by_cases q3 : M 9 (ix10 p 2) < M 8 (ix8 l 1) - 2
      · simp only [if_pos q3]
      · simp only [if_neg q3]
        have q4 : (Int32.ofNat (dcl da) < 1000 ∨ Int32.ofNat (dcl db) < 1000) ↔ ¬ (if db < da then db else da) = 9999 := by
          rw [show (1000 : Int32) = Int32.ofNat 1000 from rfl, z_lt (by omega) (by omega), z_lt (by omega) (by omega)]
          unfold dcl
          split <;> split <;> split <;> omega
        have key : ∀ (GO NX : Option St), (if Int32.ofNat (dcl da) < 1000 then GO else if Int32.ofNat (dcl db) < 1000 then GO else NX) = if (if db < da then db else da) = 9999 then NX else GO := by
          intro GO NX
          by_cases z : (if db < da then db else da) = 9999
          · rw [if_pos z]
            have : ¬ (Int32.ofNat (dcl da) < 1000 ∨ Int32.ofNat (dcl db) < 1000) := fun h => (q4.mp h) z
            rw [if_neg (fun h => this (.inl h)), if_neg (fun h => this (.inr h))]
          · rw [if_neg z]
            by_cases y1 : Int32.ofNat (dcl da) < 1000
            · rw [if_pos y1]
            · rw [if_neg y1, if_pos ((q4.mpr z).resolve_left y1)]
        rw [key]
        by_cases z : (if db < da then db else da) = 9999
        · rw [if_pos z, if_pos z]
        · rw [if_neg z, if_neg z]
          by_cases q7 : M 8 (ix8 l 3) + M 9 (ix10 p 3) ≤ 0
          · rw [if_pos q7, if_pos q7]
          · rw [if_neg q7, if_neg q7]
            by_cases q5 : db < da
            · have q6 : Int32.ofNat (dcl db) < Int32.ofNat (dcl da) := by rw [z_lt (by omega) (by omega)]; exact hcmp.mpr q5
              rw [if_pos q5] at z
              have q8 : dcl db = db := by unfold dcl; rw [if_neg z]
              rw [q8] at q6
              simp only [if_pos q5, if_pos q6, q8]
              rw [up2_n1 (rk_ne (by omega) (by omega) (by omega)), f1, show (3 : Int32) = Int32.ofNat 3 from rfl, z_add, Nat.add_comm 3 db]
              rfl
            · have q6 : ¬ Int32.ofNat (dcl db) < Int32.ofNat (dcl da) := by rw [z_lt (by omega) (by omega)]; exact fun h => q5 (hcmp.mp h)
              rw [if_neg q5] at z
              have q8 : dcl da = da := by unfold dcl; rw [if_neg z]
              rw [q8] at q6
              simp only [if_neg q5, if_neg q6, q8]
              rw [up2_n1 (rk_ne (by omega) (by omega) (by omega)), f0, show (3 : Int32) = Int32.ofNat 3 from rfl, z_add, Nat.add_comm 3 da]
              rfl
