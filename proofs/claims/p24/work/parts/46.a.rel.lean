/-! THE SIM AGAINST THE MODEL: what is said of both, and the sim's small methods -/
theorem up2_at {N : St} {k i : Nat} {x : Int32} : up2 N k i x k i = x := by simp [z_up]
theorem up2_n1 {N : St} {k i k' j : Nat} {x : Int32} (h : k' ≠ k) : up2 N k i x k' j = N k' j := by simp [z_up, h]
theorem up2_n2 {N : St} {k i k' j : Nat} {x : Int32} (h : j ≠ i) : up2 N k i x k' j = N k' j := by
  rw [z_up, if_neg h]
  by_cases e : k' = k
  · rw [if_pos e, e]
  · rw [if_neg e]
theorem up2_comm {N : St} {k i k' j : Nat} {x z : Int32} (h : k' ≠ k ∨ j ≠ i) : up2 (up2 N k i x) k' j z = up2 (up2 N k' j z) k i x := by
  funext a b
  simp only [z_up]
  by_cases h1 : a = k
  · subst h1
    by_cases h2 : a = k'
    · subst h2
      by_cases h3 : b = i
      · subst h3
        have h4 : ¬ b = j := fun e => h.elim (fun h => h rfl) (fun h => h e.symm)
        simp [h4]
      · simp [h3]
    · simp [h2]
  · by_cases h2 : a = k'
    · subst h2
      simp [h1]
    · simp [h1, h2]
theorem kc0 : (0 : Int32).toNatClampNeg = 0 := rfl
theorem kc1 : (1 : Int32).toNatClampNeg = 1 := rfl
theorem kc2 : (2 : Int32).toNatClampNeg = 2 := rfl
theorem kc3 : (3 : Int32).toNatClampNeg = 3 := rfl
theorem kc4 : (4 : Int32).toNatClampNeg = 4 := rfl
theorem kc5 : (5 : Int32).toNatClampNeg = 5 := rfl
theorem kc6 : (6 : Int32).toNatClampNeg = 6 := rfl
theorem kc7 : (7 : Int32).toNatClampNeg = 7 := rfl
theorem kc8 : (8 : Int32).toNatClampNeg = 8 := rfl
theorem rk_ne {g g' i i' : Nat} (hg : g < 16) (hg' : g' < 16) (h : g ≠ g') : rk g i ≠ rk g' i' := fun e => h (rk_inj hg hg' e).1
theorem rk_ne2 {g i i' : Nat} (h : i ≠ i') : rk g i ≠ rk g i' := fun e => h (by unfold rk at e; omega)
theorem rk_lo {g i k : Nat} (hg : 10 ≤ g) (hk : k < 10) : k ≠ rk g i := by unfold rk; omega
def zw (w : Nat) : Nat := if w < 4 then w else w + 1
theorem zw_inj {w v : Nat} (h : zw w = zw v) : w = v := by
  unfold zw at h
  split at h <;> split at h <;> omega
theorem zw_lt {w : Nat} (h : w < 9) : zw w < 10 := by unfold zw; split <;> omega
theorem zw_4 (w : Nat) : zw w ≠ 4 := by unfold zw; split <;> omega
def scls (m : Int32) : Int32 := if m = 9999 then 1000 else m
def SR (nc ns nl np : Nat) (Y : Nat → Nat) (S M : St) : Prop :=
  (Y 1 = nc ∧ Y 2 = ns ∧ Y 3 = nl ∧ Y 4 = np ∧ Y 5 = np) ∧
  (∀ c, c < nc → S 1 c = M 5 c) ∧
  (∀ s w, s < ns → w < 3 → S (rk 10 s) w = M 6 (ix3 s w)) ∧
  (∀ l w, l < nl → w < 8 → S (rk 11 l) w = M 8 (ix8 l w)) ∧
  (∀ p w, p < np → w < 9 → S (rk 12 p) w = M 9 (ix10 p (zw w))) ∧
  (∀ p, p < np → M 9 (ix10 p 4) = Int32.ofNat (Y (rk 13 p)) ∧ Y (rk 13 p) ≤ 10) ∧
  (∀ p i, p < np → i < Y (rk 13 p) → S (rk 13 p) i = M 10 (ix10 p i)) ∧
  (∀ h, h < 10 → S 6 h = M 11 h) ∧
  (S 7 0 = M 12 0 ∧ S 8 0 = M 12 1 ∧ S 9 0 = M 12 2)
def SW (nc : Nat) (S M : St) : Prop := ∀ a b, a < nc → b < nc → S (rk 14 a) b = scls (M 7 (ix12 a b))
section
variable {nc ns nl np : Nat} {Y : Nat → Nat} {S M : St}
theorem SR.y1 (h : SR nc ns nl np Y S M) : Y 1 = nc := h.1.1
theorem SR.y2 (h : SR nc ns nl np Y S M) : Y 2 = ns := h.1.2.1
theorem SR.y3 (h : SR nc ns nl np Y S M) : Y 3 = nl := h.1.2.2.1
theorem SR.y4 (h : SR nc ns nl np Y S M) : Y 4 = np := h.1.2.2.2.1
theorem SR.y5 (h : SR nc ns nl np Y S M) : Y 5 = np := h.1.2.2.2.2
theorem SR.hi (h : SR nc ns nl np Y S M) : ∀ c, c < nc → S 1 c = M 5 c := h.2.1
theorem SR.st (h : SR nc ns nl np Y S M) : ∀ s w, s < ns → w < 3 → S (rk 10 s) w = M 6 (ix3 s w) := h.2.2.1
theorem SR.la (h : SR nc ns nl np Y S M) : ∀ l w, l < nl → w < 8 → S (rk 11 l) w = M 8 (ix8 l w) := h.2.2.2.1
theorem SR.li (h : SR nc ns nl np Y S M) : ∀ p w, p < np → w < 9 → S (rk 12 p) w = M 9 (ix10 p (zw w)) := h.2.2.2.2.1
theorem SR.rn (h : SR nc ns nl np Y S M) : ∀ p, p < np → M 9 (ix10 p 4) = Int32.ofNat (Y (rk 13 p)) ∧ Y (rk 13 p) ≤ 10 := h.2.2.2.2.2.1
theorem SR.ro (h : SR nc ns nl np Y S M) : ∀ p i, p < np → i < Y (rk 13 p) → S (rk 13 p) i = M 10 (ix10 p i) := h.2.2.2.2.2.2.1
theorem SR.wd (h : SR nc ns nl np Y S M) : ∀ a, a < 10 → S 6 a = M 11 a := h.2.2.2.2.2.2.2.1
theorem SR.mi (h : SR nc ns nl np Y S M) : S 7 0 = M 12 0 := h.2.2.2.2.2.2.2.2.1
theorem SR.ni (h : SR nc ns nl np Y S M) : S 8 0 = M 12 1 := h.2.2.2.2.2.2.2.2.2.1
theorem SR.us (h : SR nc ns nl np Y S M) : S 9 0 = M 12 2 := h.2.2.2.2.2.2.2.2.2.2
theorem SR.l0 (h : SR nc ns nl np Y S M) {p : Nat} (hp : p < np) : S (rk 12 p) 0 = M 9 (ix10 p 0) := h.li p 0 hp (by omega)
theorem SR.l1 (h : SR nc ns nl np Y S M) {p : Nat} (hp : p < np) : S (rk 12 p) 1 = M 9 (ix10 p 1) := h.li p 1 hp (by omega)
theorem SR.l2 (h : SR nc ns nl np Y S M) {p : Nat} (hp : p < np) : S (rk 12 p) 2 = M 9 (ix10 p 2) := h.li p 2 hp (by omega)
theorem SR.l3 (h : SR nc ns nl np Y S M) {p : Nat} (hp : p < np) : S (rk 12 p) 3 = M 9 (ix10 p 3) := h.li p 3 hp (by omega)
theorem SR.l4 (h : SR nc ns nl np Y S M) {p : Nat} (hp : p < np) : S (rk 12 p) 4 = M 9 (ix10 p 5) := h.li p 4 hp (by omega)
theorem SR.l5 (h : SR nc ns nl np Y S M) {p : Nat} (hp : p < np) : S (rk 12 p) 5 = M 9 (ix10 p 6) := h.li p 5 hp (by omega)
theorem SR.l6 (h : SR nc ns nl np Y S M) {p : Nat} (hp : p < np) : S (rk 12 p) 6 = M 9 (ix10 p 7) := h.li p 6 hp (by omega)
theorem SR.l7 (h : SR nc ns nl np Y S M) {p : Nat} (hp : p < np) : S (rk 12 p) 7 = M 9 (ix10 p 8) := h.li p 7 hp (by omega)
theorem SR.l8 (h : SR nc ns nl np Y S M) {p : Nat} (hp : p < np) : S (rk 12 p) 8 = M 9 (ix10 p 9) := h.li p 8 hp (by omega)
theorem SR.mk (y : Y 1 = nc ∧ Y 2 = ns ∧ Y 3 = nl ∧ Y 4 = np ∧ Y 5 = np) (hi : ∀ c, c < nc → S 1 c = M 5 c) (st : ∀ s w, s < ns → w < 3 → S (rk 10 s) w = M 6 (ix3 s w)) (la : ∀ l w, l < nl → w < 8 → S (rk 11 l) w = M 8 (ix8 l w)) (li : ∀ p w, p < np → w < 9 → S (rk 12 p) w = M 9 (ix10 p (zw w))) (rn : ∀ p, p < np → M 9 (ix10 p 4) = Int32.ofNat (Y (rk 13 p)) ∧ Y (rk 13 p) ≤ 10) (ro : ∀ p i, p < np → i < Y (rk 13 p) → S (rk 13 p) i = M 10 (ix10 p i)) (wd : ∀ h, h < 10 → S 6 h = M 11 h) (nu : S 7 0 = M 12 0 ∧ S 8 0 = M 12 1 ∧ S 9 0 = M 12 2) : SR nc ns nl np Y S M := ⟨y, hi, st, la, li, rn, ro, wd, nu⟩
theorem SR_9 (h : SR nc ns nl np Y S M) {p w : Nat} {x : Int32} (hw : w < 9) : SR nc ns nl np Y (up2 S (rk 12 p) w x) (up2 M 9 (ix10 p (zw w)) x) := by
  refine SR.mk h.1 (fun c hc => ?_) (fun s v hs hv => ?_) (fun l v hl hv => ?_) (fun q v hq hv => ?_) (fun q hq => ?_) (fun q i hq hi => ?_) (fun a ha => ?_) ⟨?_, ?_, ?_⟩
  · rw [up2_n1 (rk_lo (by omega) (by omega)), up2_n1 (by omega)]; exact h.hi c hc
  · rw [up2_n1 (rk_ne (by omega) (by omega) (by omega)), up2_n1 (by omega)]; exact h.st s v hs hv
  · rw [up2_n1 (rk_ne (by omega) (by omega) (by omega)), up2_n1 (by omega)]; exact h.la l v hl hv
  · by_cases hqp : q = p
    · subst hqp
      by_cases hvw : v = w
      · subst hvw; rw [up2_at, up2_at]
      · rw [up2_n2 hvw, up2_n2 (fun e => hvw (zw_inj (by unfold ix10 at e; omega)))]; exact h.li q v hq hv
    · rw [up2_n1 (rk_ne2 hqp), up2_n2 (fun e => hqp (by have := zw_lt hv; have := zw_lt hw; unfold ix10 at e; omega))]; exact h.li q v hq hv
  · rw [up2_n2 (fun e => by have := zw_lt hw; have := zw_4 w; unfold ix10 at e; omega)]; exact h.rn q hq
  · rw [up2_n1 (rk_ne (by omega) (by omega) (by omega)), up2_n1 (by omega)]; exact h.ro q i hq hi
  · rw [up2_n1 (rk_lo (by omega) (by omega)), up2_n1 (by omega)]; exact h.wd a ha
  · rw [up2_n1 (rk_lo (by omega) (by omega)), up2_n1 (by omega)]; exact h.mi
  · rw [up2_n1 (rk_lo (by omega) (by omega)), up2_n1 (by omega)]; exact h.ni
  · rw [up2_n1 (rk_lo (by omega) (by omega)), up2_n1 (by omega)]; exact h.us
theorem SR_8 (h : SR nc ns nl np Y S M) {l w : Nat} {x : Int32} (hw : w < 8) : SR nc ns nl np Y (up2 S (rk 11 l) w x) (up2 M 8 (ix8 l w) x) := by
  refine SR.mk h.1 (fun c hc => ?_) (fun s v hs hv => ?_) (fun q v hq hv => ?_) (fun q v hq hv => ?_) (fun q hq => ?_) (fun q i hq hi => ?_) (fun a ha => ?_) ⟨?_, ?_, ?_⟩
  · rw [up2_n1 (rk_lo (by omega) (by omega)), up2_n1 (by omega)]; exact h.hi c hc
  · rw [up2_n1 (rk_ne (by omega) (by omega) (by omega)), up2_n1 (by omega)]; exact h.st s v hs hv
  · by_cases hqp : q = l
    · subst hqp
      by_cases hvw : v = w
      · subst hvw; rw [up2_at, up2_at]
      · rw [up2_n2 hvw, up2_n2 (fun e => hvw (by unfold ix8 at e; omega))]; exact h.la q v hq hv
    · rw [up2_n1 (rk_ne2 hqp), up2_n2 (fun e => hqp (by unfold ix8 at e; omega))]; exact h.la q v hq hv
  · rw [up2_n1 (rk_ne (by omega) (by omega) (by omega)), up2_n1 (by omega)]; exact h.li q v hq hv
  · rw [up2_n1 (by omega)]; exact h.rn q hq
  · rw [up2_n1 (rk_ne (by omega) (by omega) (by omega)), up2_n1 (by omega)]; exact h.ro q i hq hi
  · rw [up2_n1 (rk_lo (by omega) (by omega)), up2_n1 (by omega)]; exact h.wd a ha
  · rw [up2_n1 (rk_lo (by omega) (by omega)), up2_n1 (by omega)]; exact h.mi
  · rw [up2_n1 (rk_lo (by omega) (by omega)), up2_n1 (by omega)]; exact h.ni
  · rw [up2_n1 (rk_lo (by omega) (by omega)), up2_n1 (by omega)]; exact h.us
theorem SR_n (h : SR nc ns nl np Y S M) {k j : Nat} {x : Int32} (hk : k = 7 ∧ j = 0 ∨ k = 8 ∧ j = 1 ∨ k = 9 ∧ j = 2) : SR nc ns nl np Y (up2 S k 0 x) (up2 M 12 j x) := by
  have hk2 : k < 10 := by omega
  refine SR.mk h.1 (fun c hc => ?_) (fun s v hs hv => ?_) (fun q v hq hv => ?_) (fun q v hq hv => ?_) (fun q hq => ?_) (fun q i hq hi => ?_) (fun a ha => ?_) ?_
  · rw [up2_n1 (by omega), up2_n1 (by omega)]; exact h.hi c hc
  · rw [up2_n1 (rk_lo (by omega) hk2).symm, up2_n1 (by omega)]; exact h.st s v hs hv
  · rw [up2_n1 (rk_lo (by omega) hk2).symm, up2_n1 (by omega)]; exact h.la q v hq hv
  · rw [up2_n1 (rk_lo (by omega) hk2).symm, up2_n1 (by omega)]; exact h.li q v hq hv
  · rw [up2_n1 (by omega)]; exact h.rn q hq
  · rw [up2_n1 (rk_lo (by omega) hk2).symm, up2_n1 (by omega)]; exact h.ro q i hq hi
  · rw [up2_n1 (by omega), up2_n1 (by omega)]; exact h.wd a ha
  · rcases hk with ⟨rfl, rfl⟩ | ⟨rfl, rfl⟩ | ⟨rfl, rfl⟩
    · exact ⟨by rw [up2_at, up2_at], by rw [up2_n1 (by omega), up2_n2 (by omega)]; exact h.ni, by rw [up2_n1 (by omega), up2_n2 (by omega)]; exact h.us⟩
    · exact ⟨by rw [up2_n1 (by omega), up2_n2 (by omega)]; exact h.mi, by rw [up2_at, up2_at], by rw [up2_n1 (by omega), up2_n2 (by omega)]; exact h.us⟩
    · exact ⟨by rw [up2_n1 (by omega), up2_n2 (by omega)]; exact h.mi, by rw [up2_n1 (by omega), up2_n2 (by omega)]; exact h.ni, by rw [up2_at, up2_at]⟩
theorem SW_k (h : SW nc S M) {k i j v : Nat} {x z : Int32} (hk : ∀ a, a < nc → rk 14 a ≠ k) (hj : j ≠ 7) : SW nc (up2 S k i x) (up2 M j v z) := fun a b ha hb => by
  rw [up2_n1 (hk a ha), up2_n1 hj.symm]; exact h a b ha hb
theorem SW_S (h : SW nc S M) {k i : Nat} {x : Int32} (hk : ∀ a, rk 14 a ≠ k) : SW nc (up2 S k i x) M := fun a b ha hb => by
  rw [up2_n1 (hk a)]; exact h a b ha hb
theorem SW_M (h : SW nc S M) {M' : St} (hm : M' 7 = M 7) : SW nc S M' := fun a b ha hb => by rw [hm]; exact h a b ha hb
-- the small methods
theorem y_goer_L (R : SR nc ns nl np Y S M) (B : ZB nc ns nl np M) (x : Int32) : ∀ fu i, i ≤ np → f5_goer_L2 x Y S fu (Int32.ofNat i) = f3_goer_L2 x M fu (Int32.ofNat i) := by
  have l4 := B.l4
  intro fu
  induction fu with
  | zero => intro i _; rfl
  | succ fu ih =>
    intro i hi
    rw [f5_goer_L2, f3_goer_L2, B.k4, R.y4]
    by_cases h : np ≤ i
    · simp (disch := omega) only [z_le, if_pos h]
    · simp (disch := omega) only [z_le, if_neg h, z_xin, gd_t, z_pe5, bd_e, z_clamp, kc4]
      rw [R.l4 (by omega)]
      by_cases e : M 9 (ix10 i 5) = x
      · simp only [if_pos e]
      · simp only [if_neg e, z_s1]; exact ih (i + 1) (by omega)
theorem y_goer (R : SR nc ns nl np Y S M) (B : ZB nc ns nl np M) (x : Int32) : f5_goer Y S x = f3_goer M x := y_goer_L R B x xF 0 (by omega)
theorem y_sum_L (R : SR nc ns nl np Y S M) (B : ZB nc ns nl np M) {w : Nat} (hw : w < 8) : ∀ fu i, i ≤ nl → nl - i < fu → f5_sum_L14 (Int32.ofNat w) (Int32.ofNat nl) Y S fu (zsum (fun l => M 8 (ix8 l w)) i) (Int32.ofNat i) = some (zsum (fun l => M 8 (ix8 l w)) nl) := by
  have l3 := B.l3
  intro fu
  induction fu with
  | zero => intro i _ h; omega
  | succ fu ih =>
    intro i hi hf
    rw [f5_sum_L14]
    by_cases h : nl ≤ i
    · have e : i = nl := by omega
      subst e
      simp (disch := omega) only [z_le, Nat.le_refl, if_true]
    · simp (disch := omega) only [z_le, if_neg h, R.y3, z_xin, gd_t, lt_e, z_clamp, z_s1]
      rw [R.la i w (by omega) hw]
      exact ih (i + 1) (by omega) (by omega)
theorem y_sum (R : SR nc ns nl np Y S M) (B : ZB nc ns nl np M) {w : Nat} (hw : w < 8) : f5_sum Y S (Int32.ofNat w) = some (zsum (fun l => M 8 (ix8 l w)) nl) := by
  have l3 := B.l3
  unfold f5_sum
  rw [lt_e, R.y3]
  exact y_sum_L R B hw xF 0 (by omega) (by unfold xF; omega)
theorem y_burning_L (R : SR nc ns nl np Y S M) (B : ZB nc ns nl np M) {s : Nat} : ∀ fu i, i ≤ nl → nl - i < fu → f5_burning_L14 (Int32.ofNat s) (Int32.ofNat nl) Y S fu (bsum M i s) (Int32.ofNat i) = some (bsum M nl s) := by
  have l3 := B.l3
  intro fu
  induction fu with
  | zero => intro i _ h; omega
  | succ fu ih =>
    intro i hi hf
    rw [f5_burning_L14]
    by_cases h : nl ≤ i
    · have e : i = nl := by omega
      subst e
      simp (disch := omega) only [z_le, Nat.le_refl, if_true]
    · simp (disch := omega) only [z_le, if_neg h, R.y3, z_xin, gd_t, lt_e, z_clamp, z_s1, kc0, kc5]
      rw [R.la i 0 (by omega) (by omega), R.la i 5 (by omega) (by omega)]
      have := ih (i + 1) (by omega) (by omega)
      by_cases e : M 8 (ix8 i 0) = Int32.ofNat s
      · have q : bsum M (i + 1) s = bsum M i s + M 8 (ix8 i 5) := by unfold bsum; rw [zsum]; rw [if_pos e]
        simp only [if_pos e, ← q]; exact this
      · have q : bsum M (i + 1) s = bsum M i s + 0 := by unfold bsum; rw [zsum]; rw [if_neg e]
        simp only [if_neg e, ← q]; exact this
theorem y_burning (R : SR nc ns nl np Y S M) (B : ZB nc ns nl np M) {s : Nat} : f5_burning Y S (Int32.ofNat s) = some (bsum M nl s) := by
  have l3 := B.l3
  unfold f5_burning
  rw [lt_e, R.y3]
  exact y_burning_L R B xF 0 (by omega) (by unfold xF; omega)
theorem y_dark_L (R : SR nc ns nl np Y S M) (B : ZB nc ns nl np M) : ∀ fu i, i ≤ ns → ns - i < fu → f5_dark_L4 Y S fu (zdk M nl i) (Int32.ofNat i) = some (zdk M nl ns) := by
  have l2 := B.l2
  intro fu
  induction fu with
  | zero => intro i _ h; omega
  | succ fu ih =>
    intro i hi hf
    rw [f5_dark_L4]
    by_cases h : ns ≤ i
    · have e : i = ns := by omega
      subst e
      simp (disch := omega) only [R.y2, z_le, Nat.le_refl, if_true]
    · simp (disch := omega) only [R.y2, z_le, if_neg h, y_burning R B, bd_e, lt_e, z_s1]
      have := ih (i + 1) (by omega) (by omega)
      by_cases e : bsum M nl i = 0
      · have q : zdk M nl (i + 1) = zdk M nl i + 1 := by unfold zdk; rw [zsum]; rw [if_pos e]
        simp only [if_pos e, ← q]; exact this
      · have q : zdk M nl (i + 1) = zdk M nl i + 0 := by unfold zdk; rw [zsum]; rw [if_neg e]
        simp only [if_neg e, ← q]; exact this
theorem y_dark (R : SR nc ns nl np Y S M) (B : ZB nc ns nl np M) : f5_dark Y S = some (zdk M nl ns) := by
  have l2 := B.l2
  exact y_dark_L R B xF 0 (by omega) (by unfold xF; omega)
end
