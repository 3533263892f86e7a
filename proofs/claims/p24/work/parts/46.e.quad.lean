/-! A LIGHTER'S MINUTE, what it does to the lighter and to the lamps -/
def yLP (M M' : St) (l : Nat) : Prop :=
  (M' 8 (ix8 l 0) = M 8 (ix8 l 0) ∧ M' 8 (ix8 l 1) = M 8 (ix8 l 1) ∧ M' 8 (ix8 l 2) = M 8 (ix8 l 2) ∧ M' 8 (ix8 l 7) = M 8 (ix8 l 7)) ∧
  ((M' 8 (ix8 l 3) = M 8 (ix8 l 3) ∧ M' 8 (ix8 l 4) = M 8 (ix8 l 4) ∧ M' 8 (ix8 l 5) = M 8 (ix8 l 5) ∧ M' 8 (ix8 l 6) = M 8 (ix8 l 6)) ∨
   (M 8 (ix8 l 5) = 0 ∧ M' 8 (ix8 l 5) = 1 ∧ M' 8 (ix8 l 6) = M 8 (ix8 l 6) + 1 ∧ M' 8 (ix8 l 4) = 0 ∧ ∃ o o', M 8 (ix8 l 3) = Int32.ofNat o ∧ M' 8 (ix8 l 3) = Int32.ofNat o' ∧ o ≤ o' ∧ o' ≤ 300 ∧ o' ≠ 0))
theorem yLP_refl (M : St) (l : Nat) : yLP M M l := ⟨⟨rfl, rfl, rfl, rfl⟩, .inl ⟨rfl, rfl, rfl, rfl⟩⟩
theorem yLP_trans {M M1 M2 : St} {l : Nat} (h1 : yLP M M1 l) (h2 : yLP M1 M2 l) : yLP M M2 l := by
  obtain ⟨⟨a0, a1, a2, a7⟩, a⟩ := h1
  obtain ⟨⟨b0, b1, b2, b7⟩, b⟩ := h2
  refine ⟨⟨b0.trans a0, b1.trans a1, b2.trans a2, b7.trans a7⟩, ?_⟩
  rcases a with ⟨a3, a4, a5, a6⟩ | ⟨a5, a5', a6, a4, o, o', ao, ao', h, h', hn⟩
  · rcases b with ⟨b3, b4, b5, b6⟩ | ⟨b5, b5', b6, b4, o, o', bo, bo', h, h', hn⟩
    · exact .inl ⟨b3.trans a3, b4.trans a4, b5.trans a5, b6.trans a6⟩
    · exact .inr ⟨a5.symm.trans b5, b5', by rw [b6, a6], b4, o, o', a3.symm.trans bo, bo', h, h', hn⟩
  · rcases b with ⟨b3, b4, b5, b6⟩ | ⟨b5, b5', b6, b4, o1, o2, bo, bo', k, k', kn⟩
    · exact .inr ⟨a5, b5.trans a5', b6.trans a6, b4.trans a4, o, o', ao, b3.trans ao', h, h', hn⟩
    · rw [a5'] at b5; exact absurd b5 (by decide)
def yLQ (nl : Nat) (M M' : St) (q : Nat) : Prop :=
  (M' 9 (ix10 q 0) = M 9 (ix10 q 0) ∧ M' 9 (ix10 q 2) = M 9 (ix10 q 2) ∧ M' 9 (ix10 q 4) = M 9 (ix10 q 4)) ∧
  (∃ c c', M 9 (ix10 q 3) = Int32.ofNat c ∧ M' 9 (ix10 q 3) = Int32.ofNat c' ∧ c' ≤ c ∧ c ≤ 999) ∧
  ((M 9 (ix10 q 5) = -1 ∧ M' 9 (ix10 q 5) = -1 ∧ M' 9 (ix10 q 6) = M 9 (ix10 q 6) ∧ M' 9 (ix10 q 1) = M 9 (ix10 q 1) ∧ M' 9 (ix10 q 9) = M 9 (ix10 q 9)) ∨
   (M 9 (ix10 q 5) = -1 ∧ (∃ l d, l < nl ∧ d ≤ 264 ∧ M' 9 (ix10 q 5) = Int32.ofNat l ∧ M' 9 (ix10 q 6) = Int32.ofNat (d + 2)) ∧ M' 9 (ix10 q 1) = M 9 (ix10 q 1) ∧ M' 9 (ix10 q 9) = M 9 (ix10 q 9)) ∨
   ((∃ l e, l < nl ∧ M 9 (ix10 q 5) = Int32.ofNat l ∧ M' 9 (ix10 q 5) = Int32.ofNat l ∧ 2 ≤ e ∧ e ≤ 300 ∧ M 9 (ix10 q 6) = Int32.ofNat e ∧ M' 9 (ix10 q 6) = Int32.ofNat (e - 1)) ∧ M' 9 (ix10 q 1) = M 9 (ix10 q 1) ∧ M' 9 (ix10 q 9) = M 9 (ix10 q 9)) ∨
   (∃ l, l < nl ∧ M 9 (ix10 q 5) = Int32.ofNat l ∧ M 9 (ix10 q 6) = Int32.ofNat 1 ∧ M' 9 (ix10 q 5) = -1 ∧ M' 9 (ix10 q 6) = 0 ∧ M' 9 (ix10 q 9) = M 9 (ix10 q 9) + 1))
def zoil (M : St) (nl : Nat) : Int32 := zsum (fun l => M 8 (ix8 l 3)) nl
def zcan (M : St) (np : Nat) : Int32 := zsum (fun p => M 9 (ix10 p 3)) np
def zdid (M : St) (np : Nat) : Int32 := zsum (fun p => M 9 (ix10 p 9)) np
/-- what a lighter's minute is, said of p alone -/
def yGQ (nl np : Nat) (M M' : St) (p : Nat) : Prop :=
  yLQ nl M M' p ∧ (∀ q w, q ≠ p → w < 10 → M' 9 (ix10 q w) = M 9 (ix10 q w)) ∧ (∀ l, l < nl → yLP M M' l) ∧ (∀ k, k ≠ 8 → k ≠ 9 → M' k = M k) ∧ zoil M' nl + zcan M' np = zoil M nl + zcan M np ∧ zlit M' nl + zdid M np = zlit M nl + zdid M' np
theorem i10 {a w b v : Nat} (hw : w < 10) (hv : v < 10) (h : a ≠ b ∨ w ≠ v) : ix10 a w ≠ ix10 b v := by unfold ix10; omega
theorem i8 {a w b v : Nat} (hw : w < 8) (hv : v < 8) (h : a ≠ b ∨ w ≠ v) : ix8 a w ≠ ix8 b v := by unfold ix8; omega
theorem up9 {M : St} {p v : Nat} {x : Int32} {q w : Nat} (hw : w < 10) (hv : v < 10) : up2 M 9 (ix10 p v) x 9 (ix10 q w) = if q = p ∧ w = v then x else M 9 (ix10 q w) := by
  by_cases h : q = p ∧ w = v
  · obtain ⟨rfl, rfl⟩ := h; rw [up2_at, if_pos ⟨rfl, rfl⟩]
  · rw [up2_n2 (i10 hw hv (by omega)), if_neg h]
theorem up98 {M : St} {i x j k} : up2 M 9 i x 8 j = M 8 j ∧ (k ≠ 9 → up2 M 9 i x k = M k) := ⟨up2_n1 (by omega), fun h => up1_ne h⟩
theorem GQ_wait {nc ns nl np : Nat} {M : St} (B : ZB nc ns nl np M) {p : Nat} (hg : M 9 (ix10 p 5) = -1) : yGQ nl np M M p := by
  obtain ⟨c, hc, ec⟩ := B.pc p
  exact ⟨⟨⟨rfl, rfl, rfl⟩, ⟨c, c, ec, ec, Nat.le_refl _, hc⟩, .inl ⟨hg, hg, rfl, rfl, rfl⟩⟩, fun _ _ _ _ => rfl, fun l _ => yLP_refl M l, fun _ _ _ => rfl, rfl, rfl⟩
theorem zs9 {M M' : St} {np w : Nat} (h : ∀ q, M' 9 (ix10 q w) = M 9 (ix10 q w)) : zsum (fun p => M' 9 (ix10 p w)) np = zsum (fun p => M 9 (ix10 p w)) np := zsum_congr fun i _ => h i
/-- the goal, the way's end, the time left, the place: nothing else changes -/
theorem GQ_9 {nl np : Nat} {M M' : St} {p : Nat} (h8 : M' 8 = M 8) (hk : ∀ k, k ≠ 8 → k ≠ 9 → M' k = M k) (hq : ∀ q w, q ≠ p → w < 10 → M' 9 (ix10 q w) = M 9 (ix10 q w)) (h3 : M' 9 (ix10 p 3) = M 9 (ix10 p 3)) (h9 : M' 9 (ix10 p 9) = M 9 (ix10 p 9)) (L : yLQ nl M M' p) : yGQ nl np M M' p := by
  refine ⟨L, hq, fun l _ => ⟨⟨by rw [h8], by rw [h8], by rw [h8], by rw [h8]⟩, .inl ⟨by rw [h8], by rw [h8], by rw [h8], by rw [h8]⟩⟩, hk, ?_, ?_⟩
  · have a1 : zcan M' np = zcan M np := zs9 fun q => by
      by_cases e : q = p
      · rw [e]; exact h3
      · exact hq q 3 e (by omega)
    unfold zoil
    rw [a1, h8]
  · have a1 : zdid M' np = zdid M np := zs9 fun q => by
      by_cases e : q = p
      · rw [e]; exact h9
      · exact hq q 9 e (by omega)
    unfold zlit
    rw [a1, h8]
theorem ZX_9 {nl np : Nat} {M M' : St} {p : Nat} (X : ZX nl np M) (h8 : M' 8 = M 8) (h10 : M' 10 = M 10) (hq : ∀ q w, q ≠ p → w < 10 → M' 9 (ix10 q w) = M 9 (ix10 q w)) (h2 : M' 9 (ix10 p 2) = M 9 (ix10 p 2)) (h4 : M' 9 (ix10 p 4) = M 9 (ix10 p 4)) (z6 : M' 9 (ix10 p 5) = -1 → M' 9 (ix10 p 6) = 0)
    (go : ∀ l, l < nl → M' 9 (ix10 p 5) = Int32.ofNat l → (∃ i k, M 9 (ix10 p 4) = Int32.ofNat k ∧ i < k ∧ k ≤ 10 ∧ M 10 (ix10 p i) = Int32.ofNat l) ∧ ∃ h g, M 8 (ix8 l 1) = Int32.ofNat h ∧ M 9 (ix10 p 2) = Int32.ofNat g ∧ h ≤ 9 ∧ g ≤ 9 ∧ h ≤ g + 2) : ZX nl np M' := by
  refine ⟨by rw [h8]; exact X.bo, by rw [h8]; exact X.so, by rw [h8]; exact X.li, by rw [h8]; exact X.he, fun q hq0 => ?_, fun q hq0 => ?_, fun q l hq0 hl h5 => ?_⟩
  · by_cases e : q = p
    · subst e; rw [h2]; exact X.ld q hq0
    · rw [hq q 2 e (by omega)]; exact X.ld q hq0
  · by_cases e : q = p
    · subst e; exact z6
    · rw [hq q 5 e (by omega), hq q 6 e (by omega)]; exact X.z6 q hq0
  · by_cases e : q = p
    · subst e; rw [h8, h10, h2, h4]; exact go l hl h5
    · rw [hq q 5 e (by omega)] at h5
      rw [h8, h10, hq q 2 e (by omega), hq q 4 e (by omega)]; exact X.go q l hq0 hl h5
theorem y_set {nc ns nl np : Nat} {Y : Nat → Nat} {S M : St} (R : SR nc ns nl np Y S M) (B : ZB nc ns nl np M) (X : ZX nl np M) {p l c d pl : Nat} (hp : p < np) (hg : M 9 (ix10 p 5) = -1) (F : LF nc nl np M p l c d pl) :
    let M' := up2 (MS M p l c d pl) 9 (ix10 p 6) (Int32.ofNat (d + 2))
    yGQ nl np M M' p ∧ ZX nl np M' ∧ SR nc ns nl np Y (up2 (SS S p l c d pl) (rk 12 p) 5 (Int32.ofNat (d + 2))) M' := by
  intro M'
  obtain ⟨hl, hb, hng, hc, hd, hk, hh, ho⟩ := F
  obtain ⟨cn, hcn, ecn⟩ := B.pc p
  have v : ∀ q w, w < 10 → M' 9 (ix10 q w) = if q = p ∧ w = 6 then Int32.ofNat (d + 2) else if q = p ∧ w = 8 then Int32.ofNat pl else if q = p ∧ w = 7 then Int32.ofNat c else if q = p ∧ w = 5 then Int32.ofNat l else M 9 (ix10 q w) := by
    intro q w hw
    show up2 (MS M p l c d pl) 9 (ix10 p 6) (Int32.ofNat (d + 2)) 9 (ix10 q w) = _
    unfold MS
    rw [up9 hw (by omega), up9 hw (by omega), up9 hw (by omega), up9 hw (by omega), up9 hw (by omega)]
    by_cases e1 : q = p ∧ w = 6
    · rw [if_pos e1, if_pos e1]
    · rw [if_neg e1, if_neg e1, if_neg e1]
  have hk2 : ∀ k, k ≠ 9 → M' k = M k := fun k hk => by
    show up2 (MS M p l c d pl) 9 (ix10 p 6) (Int32.ofNat (d + 2)) k = _
    unfold MS
    rw [up98.2 hk, up98.2 hk, up98.2 hk, up98.2 hk, up98.2 hk]
    all_goals exact 0
  have hq : ∀ q w, q ≠ p → w < 10 → M' 9 (ix10 q w) = M 9 (ix10 q w) := fun q w hq hw => by rw [v q w hw]; simp [hq]
  have w0 : M' 9 (ix10 p 0) = M 9 (ix10 p 0) := by rw [v p 0 (by omega)]; simp
  have w1 : M' 9 (ix10 p 1) = M 9 (ix10 p 1) := by rw [v p 1 (by omega)]; simp
  have w2 : M' 9 (ix10 p 2) = M 9 (ix10 p 2) := by rw [v p 2 (by omega)]; simp
  have w3 : M' 9 (ix10 p 3) = M 9 (ix10 p 3) := by rw [v p 3 (by omega)]; simp
  have w4 : M' 9 (ix10 p 4) = M 9 (ix10 p 4) := by rw [v p 4 (by omega)]; simp
  have w5 : M' 9 (ix10 p 5) = Int32.ofNat l := by rw [v p 5 (by omega)]; simp
  have w6 : M' 9 (ix10 p 6) = Int32.ofNat (d + 2) := by rw [v p 6 (by omega)]; simp
  have w9 : M' 9 (ix10 p 9) = M 9 (ix10 p 9) := by rw [v p 9 (by omega)]; simp
  have l3 := B.l3
  refine ⟨GQ_9 (hk2 8 (by omega)) (fun k _ h9 => hk2 k h9) hq w3 w9 ⟨⟨w0, w2, w4⟩, ⟨cn, cn, ecn, by rw [w3]; exact ecn, Nat.le_refl _, hcn⟩, .inr (.inl ⟨hg, ⟨l, d, hl, hd, w5, w6⟩, w1, w9⟩)⟩, ZX_9 X (hk2 8 (by omega)) (hk2 10 (by omega)) hq w2 w4 (fun h => ?_) (fun l2 hl2 h5 => ?_), SR_9 (w := 5) (SR_S R p l c d pl) (by omega)⟩
  · rw [w5, z_ne1 (by omega)] at h; exact h.elim
  · rw [w5, z_inj (by omega) (by omega)] at h5
    subst h5
    obtain ⟨k, k1, k2, k3, k4⟩ := hk
    exact ⟨⟨pl, k, k1, k2, k3, k4⟩, hh⟩
theorem y_go1 {nc ns nl np : Nat} {Y : Nat → Nat} {S M : St} (R : SR nc ns nl np Y S M) (B : ZB nc ns nl np M) (X : ZX nl np M) {p l e : Nat} (hp : p < np) (hl : l < nl) (hg : M 9 (ix10 p 5) = Int32.ofNat l) (he1 : 2 ≤ e) (he : e ≤ 300) (h6 : M 9 (ix10 p 6) = Int32.ofNat e) :
    let M' := up2 M 9 (ix10 p 6) (Int32.ofNat (e - 1))
    yGQ nl np M M' p ∧ ZX nl np M' ∧ SR nc ns nl np Y (up2 S (rk 12 p) 5 (Int32.ofNat (e - 1))) M' := by
  intro M'
  obtain ⟨cn, hcn, ecn⟩ := B.pc p
  have l3 := B.l3
  have v : ∀ q w, w < 10 → M' 9 (ix10 q w) = if q = p ∧ w = 6 then Int32.ofNat (e - 1) else M 9 (ix10 q w) := fun q w hw => up9 hw (by omega)
  have hk2 : ∀ k, k ≠ 9 → M' k = M k := fun k hk => up1_ne hk
  have hq : ∀ q w, q ≠ p → w < 10 → M' 9 (ix10 q w) = M 9 (ix10 q w) := fun q w hq hw => by rw [v q w hw]; simp [hq]
  have ww : ∀ w, w < 10 → w ≠ 6 → M' 9 (ix10 p w) = M 9 (ix10 p w) := fun w hw h => by rw [v p w hw]; simp [h]
  have w6 : M' 9 (ix10 p 6) = Int32.ofNat (e - 1) := by rw [v p 6 (by omega)]; simp
  refine ⟨GQ_9 (hk2 8 (by omega)) (fun k _ h9 => hk2 k h9) hq (ww 3 (by omega) (by omega)) (ww 9 (by omega) (by omega)) ⟨⟨ww 0 (by omega) (by omega), ww 2 (by omega) (by omega), ww 4 (by omega) (by omega)⟩, ⟨cn, cn, ecn, by rw [ww 3 (by omega) (by omega)]; exact ecn, Nat.le_refl _, hcn⟩, .inr (.inr (.inl ⟨⟨l, e, hl, hg, by rw [ww 5 (by omega) (by omega)]; exact hg, he1, he, h6, w6⟩, ww 1 (by omega) (by omega), ww 9 (by omega) (by omega)⟩))⟩, ZX_9 X (hk2 8 (by omega)) (hk2 10 (by omega)) hq (ww 2 (by omega) (by omega)) (ww 4 (by omega) (by omega)) (fun h => ?_) (fun l2 hl2 h5 => ?_), SR_9 (w := 5) R (by omega)⟩
  · rw [ww 5 (by omega) (by omega), hg, z_ne1 (by omega)] at h; exact h.elim
  · rw [ww 5 (by omega) (by omega)] at h5
    exact X.go p l2 hp hl2 h5
