theorem z_php : ∀ (n k : Nat) (g : Nat → Nat), (∀ j, j < k → ∃ x, x < n ∧ g x = j) → k ≤ n := by
  intro n
  induction n with
  | zero =>
    intro k g h
    cases k with
    | zero => omega
    | succ k => obtain ⟨x, hx, _⟩ := h 0 (by omega); omega
  | succ n ih =>
    intro k g h
    cases k with
    | zero => omega
    | succ k =>
      have := ih k (fun x => if g x = k then g n else g x) (by
        intro j hj
        by_cases hj0 : j = g n
        · obtain ⟨x, hx, ex⟩ := h k (by omega)
          refine ⟨x, ?_, by simp [ex, hj0]⟩
          have : x ≠ n := by intro e; subst e; omega
          omega
        · obtain ⟨x, hx, ex⟩ := h j (by omega)
          refine ⟨x, ?_, ?_⟩
          · have : x ≠ n := by intro e; subst e; omega
            omega
          · have : ¬ g x = k := by omega
            show (if g x = k then g n else g x) = j
            rw [if_neg this]; exact ex)
      omega
theorem zD_p {C nc ns : Nat} {T : St} {m : Nat → Nat → Nat} (D : zD C nc ns T m) (he : ∀ s, s < ns → eA T s < nc ∧ eB T s < nc) {a : Nat} (ha : a < nc) (s : Nat) (hs : s < ns) :
    m a (eB T s) ≤ m a (eA T s) + zwt T s (eA T s) (eB T s) ∧ m a (eA T s) ≤ m a (eB T s) + zwt T s (eB T s) (eA T s) := by
  obtain ⟨h1, h2⟩ := he s hs
  have d1 := D.dt a (eB T s) (eA T s) ha h2 h1
  have d2 := D.dt a (eA T s) (eB T s) ha h1 h2
  have d3 := D.de s hs
  omega
theorem z_gap {C nc ns : Nat} (hC : 9999 ≤ C) {T : St} {t : Nat → Nat → Nat} (D : zD C nc ns T t) (hn : nc ≤ 12) (he : ∀ s, s < ns → eA T s < nc ∧ eB T s < nc)
    (hw : ∀ s, s < ns → zwt T s (eA T s) (eB T s) ≤ 24 ∧ zwt T s (eB T s) (eA T s) ≤ 24) {a b : Nat} (ha : a < nc) (hb : b < nc) : t a b ≤ 264 ∨ t a b = C := by
  have hcap := D.dc a b ha hb
  apply Classical.byContradiction
  intro hcon
  have gap : ∃ i, i < 11 ∧ ∀ x, x < nc → ¬ (24 * i < t a x ∧ t a x ≤ 24 * i + 24) := by
    apply Classical.byContradiction
    intro hno
    have hall : ∀ i, i < 11 → ∃ x, x < nc ∧ 24 * i < t a x ∧ t a x ≤ 24 * i + 24 := by
      intro i hi
      apply Classical.byContradiction
      intro hx
      exact hno ⟨i, hi, fun x hxn hh => hx ⟨x, hxn, hh⟩⟩
    have := z_php nc 13 (fun x => if t a x = 0 then 0 else if 264 < t a x then 12 else (t a x - 1) / 24 + 1) (by
      intro j hj
      by_cases h0 : j = 0
      · exact ⟨a, ha, by simp [D.d0 a ha, h0]⟩
      · by_cases h12 : j = 12
        · refine ⟨b, hb, ?_⟩
          have : ¬ t a b = 0 := by omega
          have h2 : 264 < t a b := by omega
          simp [this, h2, h12]
        · obtain ⟨x, hx, q1, q2⟩ := hall (j - 1) (by omega)
          refine ⟨x, hx, ?_⟩
          have : ¬ t a x = 0 := by omega
          have h2 : ¬ 264 < t a x := by omega
          simp only [if_neg this, if_neg h2]
          omega)
    omega
  obtain ⟨i, hi, hg⟩ := gap
  have P : zP C nc ns T (fun x => if t a x ≤ 24 * i + 24 then t a x else min (t a x + 1) C) := by
    refine ⟨fun x hx => ?_, fun s hs => ?_⟩
    · have := D.dc a x ha hx
      simp only []
      split <;> omega
    · obtain ⟨h1, h2⟩ := he s hs
      obtain ⟨e1, e2⟩ := zD_p D he ha s hs
      obtain ⟨w1, w2⟩ := hw s hs
      have g1 := hg _ h1
      have g2 := hg _ h2
      have c1 := D.dc a _ ha h1
      have c2 := D.dc a _ ha h2
      simp only []
      constructor
      · split <;> split <;> omega
      · split <;> split <;> omega
  have := D.dm _ P a b ha hb
  simp only [D.d0 a ha] at this
  rw [if_neg (by omega), if_pos (by omega)] at this
  omega
theorem z_uniq {C nc ns : Nat} (hC : 9999 ≤ C) {T : St} {t m : Nat → Nat → Nat} (D : zD C nc ns T t) (D' : zD 9999 nc ns T m) (hn : nc ≤ 12) (he : ∀ s, s < ns → eA T s < nc ∧ eB T s < nc)
    (hw : ∀ s, s < ns → zwt T s (eA T s) (eB T s) ≤ 24 ∧ zwt T s (eB T s) (eA T s) ≤ 24) {a b : Nat} (ha : a < nc) (hb : b < nc) :
    (t a b ≤ 264 ∧ m a b = t a b) ∨ (t a b = C ∧ m a b = 9999) := by
  have i1 : m a b ≤ t a b := by
    have P : zP C nc ns T (fun x => m a x) := ⟨fun x hx => by have := D'.dc a x ha hx; simp only []; omega, fun s hs => zD_p D' he ha s hs⟩
    have := D.dm _ P a b ha hb
    simp only [D'.d0 a ha] at this
    omega
  have i2 : min (t a b) 9999 ≤ m a b := by
    have P : zP 9999 nc ns T (fun x => min (t a x) 9999) := ⟨fun x hx => by simp only []; omega, fun s hs => by have := zD_p D he ha s hs; simp only []; omega⟩
    have := D'.dm _ P a b ha hb
    simp only [D.d0 a ha] at this
    omega
  have i3 := D'.dc a b ha hb
  rcases z_gap hC D hn he hw ha hb with h | h <;> omega
theorem zD_fw {nc : Nat} {m : Nat → Nat → Nat} {k : Nat} (hk : k < nc) (d0 : ∀ a, a < nc → m a a = 0) (cl : ∀ c, c < k → ∀ a b, a < nc → b < nc → m a b ≤ m a c + m c b) :
    ∀ c, c < k + 1 → ∀ a b, a < nc → b < nc → min (m a b) (m a k + m k b) ≤ min (m a c) (m a k + m k c) + min (m c b) (m c k + m k b) := by
  intro c hc a b ha hb
  have hk0 := d0 k hk
  by_cases h : c = k
  · subst h; omega
  · have hck : c < k := by omega
    have q1 := cl c hck a b ha hb
    have q2 := cl c hck a k ha hk
    have q3 := cl c hck k b hk hb
    omega
def zO (M M' : St) : Prop := ∀ k, k ≠ 7 → M' k = M k
theorem zO_refl (M : St) : zO M M := fun _ _ => rfl
theorem zO_trans {M M' M'' : St} (h : zO M M') (h' : zO M' M'') : zO M M'' := fun k hk => (h' k hk).trans (h k hk)
theorem zO_up (M : St) (i : Nat) (x : Int32) : zO M (up2 M 7 i x) := fun k hk => by funext j; rw [z_up, if_neg hk]
def zM (nc : Nat) (M : St) (m : Nat → Nat → Nat) : Prop := ∀ a b, a < nc → b < nc → M 7 (ix12 a b) = Int32.ofNat (m a b)
theorem z_i1 {nc a : Nat} (ha : a < nc) (hn : nc ≤ 12) : ∀ (fu j : Nat) (M : St), M 1 0 = Int32.ofNat nc → j ≤ nc → nc - j < fu →
    ∃ M', (∀ K, f3_reckon_L12 (Int32.ofNat a) K fu (Int32.ofNat j) M = K M') ∧ zO M M' ∧ ∀ x y, x < 12 → y < 12 → M' 7 (ix12 x y) = if x = a ∧ j ≤ y ∧ y < nc then Int32.ofNat (if a = y then 0 else 9999) else M 7 (ix12 x y) := by
  intro fu
  induction fu with
  | zero => intro j M k1 h1 h2; omega
  | succ fu ih =>
    intro j M k1 h1 h2
    by_cases h : nc ≤ j
    · refine ⟨M, fun K => ?_, zO_refl M, fun x y hx hy => ?_⟩
      · rw [f3_reckon_L12, if_pos (by rw [k1, z_le (by omega) (by omega)]; exact h)]
      · rw [if_neg (by omega)]
    · obtain ⟨M', a1, a2, a3⟩ := ih (j + 1) (up2 M 7 (ix12 a j) (Int32.ofNat (if a = j then 0 else 9999))) k1 (by omega) (by omega)
      have e12 : (12 : Int32) * Int32.ofNat a + Int32.ofNat j = Int32.ofNat (ix12 a j) := z_s12
      refine ⟨M', fun K => ?_, zO_trans (zO_up M _ _) a2, fun x y hx hy => ?_⟩
      · rw [f3_reckon_L12, if_neg (by rw [k1, z_le (by omega) (by omega)]; exact h), e12, z_xin (by unfold ix12; omega) (by unfold ix12; omega), z_clamp (by unfold ix12; omega), z_s1, lt_e, z_ieq (by omega) (by omega)]
        by_cases e : a = j
        · rw [if_pos e]; rw [if_pos e] at a1; exact a1 K
        · rw [if_neg e]; rw [if_neg e] at a1; exact a1 K
      · rw [a3 x y hx hy, z_up, if_pos rfl]
        have hj : j < 12 := by omega
        by_cases c1 : x = a ∧ j + 1 ≤ y ∧ y < nc
        · rw [if_pos c1, if_pos (show x = a ∧ j ≤ y ∧ y < nc by omega)]
        · rw [if_neg c1]
          by_cases c2 : x = a ∧ y = j
          · rw [if_pos (by rw [ix12_eq hy hj]; exact c2), if_pos (show x = a ∧ j ≤ y ∧ y < nc by omega), c2.2]
          · rw [if_neg (by rw [ix12_eq hy hj]; exact c2), if_neg (show ¬ (x = a ∧ j ≤ y ∧ y < nc) by omega)]
theorem z_i2 {nc : Nat} (hn : nc ≤ 12) : ∀ (fu i : Nat) (M : St), M 1 0 = Int32.ofNat nc → i ≤ nc → nc - i < fu →
    ∃ M', (∀ K, f3_reckon_L2 K fu (Int32.ofNat i) M = K M') ∧ zO M M' ∧ ∀ x y, x < nc → y < nc → M' 7 (ix12 x y) = if i ≤ x then Int32.ofNat (if x = y then 0 else 9999) else M 7 (ix12 x y) := by
  intro fu
  induction fu with
  | zero => intro j M k1 h1 h2; omega
  | succ fu ih =>
    intro i M k1 h1 h2
    by_cases h : nc ≤ i
    · refine ⟨M, fun K => ?_, zO_refl M, fun x y hx hy => ?_⟩
      · rw [f3_reckon_L2, if_pos (by rw [k1, z_le (by omega) (by omega)]; exact h)]
      · rw [if_neg (by omega)]
    · obtain ⟨M1, b1, b2, b3⟩ := z_i1 (a := i) (by omega) hn xF 0 M k1 (by omega) (by unfold xF; omega)
      have b1' : ∀ K, f3_reckon_L12 (Int32.ofNat i) K xF 0 M = K M1 := b1
      obtain ⟨M', a1, a2, a3⟩ := ih (i + 1) M1 (by rw [b2 1 (by decide)]; exact k1) (by omega) (by omega)
      refine ⟨M', fun K => ?_, zO_trans b2 a2, fun x y hx hy => ?_⟩
      · rw [f3_reckon_L2, if_neg (by rw [k1, z_le (by omega) (by omega)]; exact h), b1', z_s1]; exact a1 K
      · rw [a3 x y hx hy]
        by_cases c1 : i + 1 ≤ x
        · rw [if_pos c1, if_pos (show i ≤ x by omega)]
        · rw [if_neg c1, b3 x y (by omega) (by omega)]
          by_cases c2 : x = i
          · rw [if_pos (show x = i ∧ 0 ≤ y ∧ y < nc by omega), if_pos (show i ≤ x by omega), c2]
          · rw [if_neg (show ¬ (x = i ∧ 0 ≤ y ∧ y < nc) by omega), if_neg (show ¬ i ≤ x by omega)]
def zI (nc ns n : Nat) (T : St) (m : Nat → Nat → Nat) : Prop :=
  (∀ a, a < nc → m a a = 0) ∧
  (∀ a b, a < nc → b < nc → m a b ≤ 9999) ∧
  (∀ s, s < n → m (eA T s) (eB T s) ≤ zwt T s (eA T s) (eB T s) ∧ m (eB T s) (eA T s) ≤ zwt T s (eB T s) (eA T s)) ∧
  (∀ p, zP 9999 nc ns T p → ∀ a b, a < nc → b < nc → p b ≤ p a + m a b)
theorem zI.mk {nc ns n : Nat} {T : St} {m : Nat → Nat → Nat} (d0 : ∀ a, a < nc → m a a = 0) (dc : ∀ a b, a < nc → b < nc → m a b ≤ 9999) (de : ∀ s, s < n → m (eA T s) (eB T s) ≤ zwt T s (eA T s) (eB T s) ∧ m (eB T s) (eA T s) ≤ zwt T s (eB T s) (eA T s)) (dm : ∀ p, zP 9999 nc ns T p → ∀ a b, a < nc → b < nc → p b ≤ p a + m a b) : zI nc ns n T m := ⟨d0, dc, de, dm⟩
theorem zI.d0 {nc ns n : Nat} {T : St} {m : Nat → Nat → Nat} (h : zI nc ns n T m) : ∀ a, a < nc → m a a = 0 := h.1
theorem zI.dc {nc ns n : Nat} {T : St} {m : Nat → Nat → Nat} (h : zI nc ns n T m) : ∀ a b, a < nc → b < nc → m a b ≤ 9999 := h.2.1
theorem zI.de {nc ns n : Nat} {T : St} {m : Nat → Nat → Nat} (h : zI nc ns n T m) : ∀ s, s < n → m (eA T s) (eB T s) ≤ zwt T s (eA T s) (eB T s) ∧ m (eB T s) (eA T s) ≤ zwt T s (eB T s) (eA T s) := h.2.2.1
theorem zI.dm {nc ns n : Nat} {T : St} {m : Nat → Nat → Nat} (h : zI nc ns n T m) : ∀ p, zP 9999 nc ns T p → ∀ a b, a < nc → b < nc → p b ≤ p a + m a b := h.2.2.2
def mup (m : Nat → Nat → Nat) (a b v : Nat) : Nat → Nat → Nat := fun x y => if x = a ∧ y = b then min v (m x y) else m x y
theorem zM_up {nc : Nat} {M : St} {m : Nat → Nat → Nat} {a b v : Nat} (h : zM nc M m) (hn : nc ≤ 12) (ha : a < nc) (hb : b < nc) (hv : v ≤ 20000) (hm : m a b ≤ 9999) :
    zM nc (up2 M 7 (ix12 a b) (if Int32.ofNat v < M 7 (ix12 a b) then Int32.ofNat v else M 7 (ix12 a b))) (mup m a b v) := by
  intro x y hx hy
  rw [z_up, if_pos rfl, h a b ha hb]
  unfold mup
  by_cases c : x = a ∧ y = b
  · rw [if_pos (by rw [ix12_eq (by omega) (by omega)]; exact c), if_pos c, c.1, c.2, z_ilt (by omega) (by omega)]
    split <;> congr 1 <;> omega
  · rw [if_neg (by rw [ix12_eq (by omega) (by omega)]; exact c), if_neg c]; exact h x y hx hy
theorem mup_le {m : Nat → Nat → Nat} {a b v : Nat} (x y : Nat) : mup m a b v x y ≤ m x y := by
  unfold mup; split <;> omega
theorem mup_v {m : Nat → Nat → Nat} {a b v : Nat} : mup m a b v a b ≤ v := by
  unfold mup; rw [if_pos ⟨rfl, rfl⟩]; omega
theorem zI_up {nc ns n : Nat} {T : St} {m : Nat → Nat → Nat} {a b v : Nat} (I : zI nc ns n T m) (hp : ∀ p, zP 9999 nc ns T p → p b ≤ p a + v) : zI nc ns n T (mup m a b v) := by
  refine (zI.mk (fun x hx => ?_) (fun x y hx hy => ?_) (fun s hs => ?_) (fun p P x y hx hy => ?_))
  · have := mup_le (m := m) (a := a) (b := b) (v := v) x x; have := I.d0 x hx; omega
  · have := mup_le (m := m) (a := a) (b := b) (v := v) x y; have := I.dc x y hx hy; omega
  · have h1 := mup_le (m := m) (a := a) (b := b) (v := v) (eA T s) (eB T s)
    have h2 := mup_le (m := m) (a := a) (b := b) (v := v) (eB T s) (eA T s)
    have := I.de s hs; omega
  · have h1 := I.dm p P x y hx hy
    unfold mup
    split
    · rename_i c; rw [c.1, c.2] at h1 ⊢; have := hp p P; omega
    · exact h1
def zT (nc ns : Nat) (T M : St) : Prop :=
  (M 1 0 = Int32.ofNat nc) ∧
  (M 2 0 = Int32.ofNat ns) ∧
  (nc ≤ 12) ∧
  (ns ≤ 18) ∧
  (∀ s, s < ns → M 6 (ix3 s 0) = Int32.ofNat (eA T s)) ∧
  (∀ s, s < ns → M 6 (ix3 s 1) = Int32.ofNat (eB T s)) ∧
  (∀ s, s < ns → M 6 (ix3 s 2) = Int32.ofNat ((T 6 s).toNatClampNeg)) ∧
  (∀ c, M 5 c = Int32.ofNat ((T 1 c).toNatClampNeg)) ∧
  (∀ c, (T 1 c).toNatClampNeg ≤ 30) ∧
  (∀ s, s < ns → (T 6 s).toNatClampNeg ≤ 9) ∧
  (∀ s, s < ns → eA T s < nc ∧ eB T s < nc)
theorem zT.mk {nc ns : Nat} {T M : St} (k1 : M 1 0 = Int32.ofNat nc) (k2 : M 2 0 = Int32.ofNat ns) (hn : nc ≤ 12) (hs : ns ≤ 18) (ra : ∀ s, s < ns → M 6 (ix3 s 0) = Int32.ofNat (eA T s)) (rb : ∀ s, s < ns → M 6 (ix3 s 1) = Int32.ofNat (eB T s)) (rl : ∀ s, s < ns → M 6 (ix3 s 2) = Int32.ofNat ((T 6 s).toNatClampNeg)) (rh : ∀ c, M 5 c = Int32.ofNat ((T 1 c).toNatClampNeg)) (hh : ∀ c, (T 1 c).toNatClampNeg ≤ 30) (hl : ∀ s, s < ns → (T 6 s).toNatClampNeg ≤ 9) (he : ∀ s, s < ns → eA T s < nc ∧ eB T s < nc) : zT nc ns T M := ⟨k1, k2, hn, hs, ra, rb, rl, rh, hh, hl, he⟩
theorem zT.k1 {nc ns : Nat} {T M : St} (h : zT nc ns T M) : M 1 0 = Int32.ofNat nc := h.1
theorem zT.k2 {nc ns : Nat} {T M : St} (h : zT nc ns T M) : M 2 0 = Int32.ofNat ns := h.2.1
theorem zT.hn {nc ns : Nat} {T M : St} (h : zT nc ns T M) : nc ≤ 12 := h.2.2.1
theorem zT.hs {nc ns : Nat} {T M : St} (h : zT nc ns T M) : ns ≤ 18 := h.2.2.2.1
theorem zT.ra {nc ns : Nat} {T M : St} (h : zT nc ns T M) : ∀ s, s < ns → M 6 (ix3 s 0) = Int32.ofNat (eA T s) := h.2.2.2.2.1
theorem zT.rb {nc ns : Nat} {T M : St} (h : zT nc ns T M) : ∀ s, s < ns → M 6 (ix3 s 1) = Int32.ofNat (eB T s) := h.2.2.2.2.2.1
theorem zT.rl {nc ns : Nat} {T M : St} (h : zT nc ns T M) : ∀ s, s < ns → M 6 (ix3 s 2) = Int32.ofNat ((T 6 s).toNatClampNeg) := h.2.2.2.2.2.2.1
theorem zT.rh {nc ns : Nat} {T M : St} (h : zT nc ns T M) : ∀ c, M 5 c = Int32.ofNat ((T 1 c).toNatClampNeg) := h.2.2.2.2.2.2.2.1
theorem zT.hh {nc ns : Nat} {T M : St} (h : zT nc ns T M) : ∀ c, (T 1 c).toNatClampNeg ≤ 30 := h.2.2.2.2.2.2.2.2.1
theorem zT.hl {nc ns : Nat} {T M : St} (h : zT nc ns T M) : ∀ s, s < ns → (T 6 s).toNatClampNeg ≤ 9 := h.2.2.2.2.2.2.2.2.2.1
theorem zT.he {nc ns : Nat} {T M : St} (h : zT nc ns T M) : ∀ s, s < ns → eA T s < nc ∧ eB T s < nc := h.2.2.2.2.2.2.2.2.2.2
theorem zT_O {nc ns : Nat} {T M M' : St} (h : zT nc ns T M) (o : zO M M') : zT nc ns T M' :=
  (zT.mk (by rw [o 1 (by decide)]; exact h.k1) (by rw [o 2 (by decide)]; exact h.k2) (h.hn) (h.hs) (by rw [o 6 (by decide)]; exact h.ra) (by rw [o 6 (by decide)]; exact h.rb) (by rw [o 6 (by decide)]; exact h.rl) (by rw [o 5 (by decide)]; exact h.rh) (h.hh) (h.hl) (h.he))
theorem z_its {l a b : Nat} (hl : l ≤ 9) (ha : a ≤ 30) (hb : b ≤ 30) : Int32.ofNat l + (if (0 : Int32) < Int32.ofNat b - Int32.ofNat a then Int32.ofNat b - Int32.ofNat a else 0) / 2 = Int32.ofNat (l + (b - a) / 2) := by
  have e : (if (0 : Int32) < Int32.ofNat b - Int32.ofNat a then Int32.ofNat b - Int32.ofNat a else 0) = Int32.ofNat (b - a) := by
    by_cases h : a ≤ b
    · rw [z_sub h, z_l0, z_ilt (by omega) (by omega)]
      split
      · rfl
      · have : b - a = 0 := by omega
        rw [this]
    · have hz : b - a = 0 := by omega
      rw [hz, if_neg]
      · rfl
      · rw [← Int32.neg_sub, z_sub (show b ≤ a by omega), Int32.lt_iff_toInt_lt, Int32.toInt_neg, z_int (by omega)]
        rw [Int.bmod_eq_of_le] <;> simp <;> omega
  rw [e, show (2 : Int32) = Int32.ofNat 2 from rfl, z_div (by omega) (by omega), z_add]
theorem z_zw {T : St} {nc ns : Nat} {M : St} (Z : zT nc ns T M) {s : Nat} (hs : s < ns) (a b : Nat) : M 6 (ix3 s 2) + (if (0 : Int32) < M 5 b - M 5 a then M 5 b - M 5 a else 0) / 2 = Int32.ofNat (zwt T s a b) ∧ zwt T s a b ≤ 24 := by
  have h1 := Z.hl s hs; have h2 := Z.hh a; have h3 := Z.hh b
  rw [Z.rl s hs, Z.rh, Z.rh, z_its h1 h2 h3]
  unfold zwt
  exact ⟨rfl, by omega⟩
theorem z_edge {nc ns n : Nat} {T : St} (hn : n < ns) {M : St} {m : Nat → Nat → Nat} (Z : zT nc ns T M) (R : zM nc M m) (I : zI nc ns n T m) :
    ∃ M' m', (∀ K, f3_reckon_L67 (Int32.ofNat n) K xF 0 M = K M') ∧ zO M M' ∧ zM nc M' m' ∧ zI nc ns (n + 1) T m' := by
  have l1 := Z.hn; have l2 := Z.hs
  obtain ⟨ha, hb⟩ := Z.he n hn
  obtain ⟨w1, w1'⟩ := z_zw Z hn (eA T n) (eB T n)
  have o1 := zO_up M (ix12 (eA T n) (eB T n)) (if Int32.ofNat (zwt T n (eA T n) (eB T n)) < M 7 (ix12 (eA T n) (eB T n)) then Int32.ofNat (zwt T n (eA T n) (eB T n)) else M 7 (ix12 (eA T n) (eB T n)))
  have R1 := zM_up (v := zwt T n (eA T n) (eB T n)) R l1 ha hb (by omega) (I.dc _ _ ha hb)
  have I1 := zI_up (a := eA T n) (b := eB T n) (v := zwt T n (eA T n) (eB T n)) I (fun p P => (P.2 n hn).1)
  generalize hM1 : up2 M 7 (ix12 (eA T n) (eB T n)) (if Int32.ofNat (zwt T n (eA T n) (eB T n)) < M 7 (ix12 (eA T n) (eB T n)) then Int32.ofNat (zwt T n (eA T n) (eB T n)) else M 7 (ix12 (eA T n) (eB T n))) = M1 at o1 R1
  have Z1 := zT_O Z o1
  obtain ⟨w2, w2'⟩ := z_zw Z1 hn (eB T n) (eA T n)
  have o2 := zO_up M1 (ix12 (eB T n) (eA T n)) (if Int32.ofNat (zwt T n (eB T n) (eA T n)) < M1 7 (ix12 (eB T n) (eA T n)) then Int32.ofNat (zwt T n (eB T n) (eA T n)) else M1 7 (ix12 (eB T n) (eA T n)))
  have R2 := zM_up (v := zwt T n (eB T n) (eA T n)) R1 l1 hb ha (by omega) (I1.dc _ _ hb ha)
  have I2 := zI_up (a := eB T n) (b := eA T n) (v := zwt T n (eB T n) (eA T n)) I1 (fun p P => (P.2 n hn).2)
  refine ⟨_, _, fun K => ?_, zO_trans o1 o2, R2, ?_⟩
  · have e12 : ∀ a b, (12 : Int32) * Int32.ofNat a + Int32.ofNat b = Int32.ofNat (ix12 a b) := fun a b => z_s12
    unfold xF
    rw [f3_reckon_L67, if_neg (by decide), lt_e, if_pos rfl]
    show bd (f3_ro M (Int32.ofNat n) 0) _ = _
    rw [z_ro0 (by omega), bd_e, lt_e, if_pos rfl]
    show bd (f3_ro M (Int32.ofNat n) 1) _ = _
    rw [z_ro1 (by omega), bd_e, z_ro2 (by omega), bd_e, Z.ra n hn, Z.rb n hn, z_xin (by omega) (by omega), z_xin (by omega) (by omega), gd_t, gd_t, z_clamp (by omega), z_clamp (by omega), w1, lt_e, e12, z_xin (by unfold ix12; omega) (by unfold ix12; omega), gd_t, z_clamp (by unfold ix12; omega), lt_e, hM1, show (0 : Int32) + 1 = 1 by decide]
    rw [f3_reckon_L67, if_neg (by decide), lt_e, if_neg (show ¬ (1 : Int32) = 0 by decide)]
    show bd (f3_ro M1 (Int32.ofNat n) 1) _ = _
    rw [z_ro1 (by omega), bd_e, lt_e, if_neg (show ¬ (1 : Int32) = 0 by decide)]
    show bd (f3_ro M1 (Int32.ofNat n) 0) _ = _
    rw [z_ro0 (by omega), bd_e, z_ro2 (by omega), bd_e, Z1.ra n hn, Z1.rb n hn, z_xin (by omega) (by omega), z_xin (by omega) (by omega), gd_t, gd_t, z_clamp (by omega), z_clamp (by omega), w2, lt_e, e12, z_xin (by unfold ix12; omega) (by unfold ix12; omega), gd_t, z_clamp (by unfold ix12; omega), lt_e, show (1 : Int32) + 1 = 2 by decide]
    rw [f3_reckon_L67, if_pos (by decide)]
  · refine (zI.mk (I2.d0) (I2.dc) (fun s hs => ?_) (I2.dm))
    by_cases h : s = n
    · subst h
      have h1 := mup_le (m := mup m (eA T s) (eB T s) (zwt T s (eA T s) (eB T s))) (a := eB T s) (b := eA T s) (v := zwt T s (eB T s) (eA T s)) (eA T s) (eB T s)
      have h2 := mup_v (m := m) (a := eA T s) (b := eB T s) (v := zwt T s (eA T s) (eB T s))
      have h3 := mup_v (m := mup m (eA T s) (eB T s) (zwt T s (eA T s) (eB T s))) (a := eB T s) (b := eA T s) (v := zwt T s (eB T s) (eA T s))
      exact ⟨Nat.le_trans h1 h2, h3⟩
    · exact I2.de s (by omega)
theorem z_edges {nc ns : Nat} {T : St} : ∀ (fu n : Nat) (M : St) (m : Nat → Nat → Nat), zT nc ns T M → zM nc M m → zI nc ns n T m → n ≤ ns → ns - n < fu →
    ∃ M' m', (∀ K, f3_reckon_L57 K fu (Int32.ofNat n) M = K M') ∧ zO M M' ∧ zM nc M' m' ∧ zI nc ns ns T m' := by
  intro fu
  induction fu with
  | zero => intro n M m Z R I h1 h2; omega
  | succ fu ih =>
    intro n M m Z R I h1 h2
    have l2 := Z.hs
    by_cases h : ns ≤ n
    · have : n = ns := by omega
      subst this
      exact ⟨M, m, fun K => by rw [f3_reckon_L57, if_pos (by rw [Z.k2]; exact Int32.le_refl _)], zO_refl M, R, I⟩
    · obtain ⟨M1, m1, a1, a2, a3, a4⟩ := z_edge (show n < ns by omega) Z R I
      obtain ⟨M', m', b1, b2, b3, b4⟩ := ih (n + 1) M1 m1 (zT_O Z a2) a3 a4 (by omega) (by omega)
      refine ⟨M', m', fun K => ?_, zO_trans a2 b2, b3, b4⟩
      rw [f3_reckon_L57, if_neg (by rw [Z.k2, z_le (by omega) (by omega)]; exact h), a1, z_s1]; exact b1 K
def fwp (m : Nat → Nat → Nat) (k a b : Nat) : Nat → Nat → Nat := fun x y => if x < a ∨ (x = a ∧ y < b) then min (m x y) (m x k + m k y) else m x y
theorem z_f1 {nc k a : Nat} {m : Nat → Nat → Nat} (hn : nc ≤ 12) (hk : k < nc) (ha : a < nc) (d0 : ∀ a, a < nc → m a a = 0) (dc : ∀ a b, a < nc → b < nc → m a b ≤ 9999) :
    ∀ (fu j : Nat) (M : St), M 1 0 = Int32.ofNat nc → zM nc M (fwp m k a j) → j ≤ nc → nc - j < fu →
    ∃ M', (∀ K, f3_reckon_L195 (Int32.ofNat k) (Int32.ofNat a) K fu (Int32.ofNat j) M = K M') ∧ zO M M' ∧ zM nc M' (fwp m k (a + 1) 0) := by
  intro fu
  induction fu with
  | zero => intro j M k1 R h1 h2; omega
  | succ fu ih =>
    intro j M k1 R h1 h2
    by_cases h : nc ≤ j
    · refine ⟨M, fun K => ?_, zO_refl M, fun x y hx hy => ?_⟩
      · rw [f3_reckon_L195, if_pos (by rw [k1, z_le (by omega) (by omega)]; exact h)]
      · rw [R x y hx hy]; unfold fwp
        by_cases c : x < a ∨ (x = a ∧ y < j)
        · rw [if_pos c, if_pos (show x < a + 1 ∨ (x = a + 1 ∧ y < 0) by omega)]
        · rw [if_neg c, if_neg (show ¬ (x < a + 1 ∨ (x = a + 1 ∧ y < 0)) by omega)]
    · have e12 : ∀ a b, (12 : Int32) * Int32.ofNat a + Int32.ofNat b = Int32.ofNat (ix12 a b) := fun a b => z_s12
      have hk0 := d0 k hk
      have r1 : M 7 (ix12 a k) = Int32.ofNat (m a k) := by
        rw [R a k ha hk]; congr 1; unfold fwp; split <;> omega
      have r2 : M 7 (ix12 k j) = Int32.ofNat (m k j) := by
        rw [R k j hk (by omega)]; congr 1; unfold fwp; split <;> omega
      have r3 : M 7 (ix12 a j) = Int32.ofNat (m a j) := by
        rw [R a j ha (by omega)]; congr 1; unfold fwp; split <;> omega
      have c1 := dc a k ha hk
      have c2 := dc k j hk (by omega)
      have c3 := dc a j ha (by omega)
      have R1 : zM nc (up2 M 7 (ix12 a j) (Int32.ofNat (min (m a j) (m a k + m k j)))) (fwp m k a (j + 1)) := by
        intro x y hx hy
        rw [z_up, if_pos rfl]
        by_cases c : x = a ∧ y = j
        · rw [if_pos (by rw [ix12_eq (by omega) (by omega)]; exact c), c.1, c.2]
          congr 1; unfold fwp; rw [if_pos (by omega)]
        · rw [if_neg (by rw [ix12_eq (by omega) (by omega)]; exact c), R x y hx hy]
          congr 1; unfold fwp
          by_cases c' : x < a ∨ (x = a ∧ y < j)
          · rw [if_pos c', if_pos (by omega)]
          · rw [if_neg c', if_neg (by omega)]
      obtain ⟨M', a1, a2, a3⟩ := ih (j + 1) _ (by exact k1) R1 (by omega) (by omega)
      refine ⟨M', fun K => ?_, zO_trans (zO_up M _ _) a2, a3⟩
      have ev : (if Int32.ofNat (m a k + m k j) < Int32.ofNat (m a j) then Int32.ofNat (m a k + m k j) else Int32.ofNat (m a j)) = Int32.ofNat (min (m a j) (m a k + m k j)) := by
        rw [z_ilt (by omega) (by omega)]; split <;> congr 1 <;> omega
      rw [f3_reckon_L195, if_neg (by rw [k1, z_le (by omega) (by omega)]; exact h), e12, e12, e12, z_xin (by unfold ix12; omega) (by unfold ix12; omega), gd_t, z_xin (by unfold ix12; omega) (by unfold ix12; omega), gd_t, z_xin (by unfold ix12; omega) (by unfold ix12; omega), gd_t, z_clamp (n := ix12 a j) (by unfold ix12; omega), z_clamp (n := ix12 a k) (by unfold ix12; omega), z_clamp (n := ix12 k j) (by unfold ix12; omega), r1, r2, r3, z_add, ev, lt_e, z_s1]
      exact a1 K
theorem z_f2 {nc k : Nat} {m : Nat → Nat → Nat} (hn : nc ≤ 12) (hk : k < nc) (d0 : ∀ a, a < nc → m a a = 0) (dc : ∀ a b, a < nc → b < nc → m a b ≤ 9999) :
    ∀ (fu i : Nat) (M : St), M 1 0 = Int32.ofNat nc → zM nc M (fwp m k i 0) → i ≤ nc → nc - i < fu →
    ∃ M', (∀ K, f3_reckon_L185 (Int32.ofNat k) K fu (Int32.ofNat i) M = K M') ∧ zO M M' ∧ zM nc M' (fun x y => min (m x y) (m x k + m k y)) := by
  intro fu
  induction fu with
  | zero => intro j M k1 R h1 h2; omega
  | succ fu ih =>
    intro i M k1 R h1 h2
    by_cases h : nc ≤ i
    · refine ⟨M, fun K => ?_, zO_refl M, fun x y hx hy => ?_⟩
      · rw [f3_reckon_L185, if_pos (by rw [k1, z_le (by omega) (by omega)]; exact h)]
      · rw [R x y hx hy]; unfold fwp; rw [if_pos (by omega)]
    · obtain ⟨M1, b1, b2, b3⟩ := z_f1 hn hk (show i < nc by omega) d0 dc xF 0 M k1 R (by omega) (by unfold xF; omega)
      have b1' : ∀ K, f3_reckon_L195 (Int32.ofNat k) (Int32.ofNat i) K xF 0 M = K M1 := b1
      obtain ⟨M', a1, a2, a3⟩ := ih (i + 1) M1 (by rw [b2 1 (by decide)]; exact k1) b3 (by omega) (by omega)
      refine ⟨M', fun K => ?_, zO_trans b2 a2, a3⟩
      rw [f3_reckon_L185, if_neg (by rw [k1, z_le (by omega) (by omega)]; exact h), b1', z_s1]; exact a1 K
theorem z_f3 {nc ns : Nat} {T : St} (hn : nc ≤ 12) (he : ∀ s, s < ns → eA T s < nc ∧ eB T s < nc) : ∀ (fu k : Nat) (M : St) (m : Nat → Nat → Nat), M 1 0 = Int32.ofNat nc → zM nc M m → zI nc ns ns T m →
    (∀ c, c < k → ∀ a b, a < nc → b < nc → m a b ≤ m a c + m c b) → k ≤ nc → nc - k < fu →
    ∃ M' m', f3_reckon_L175 fu (Int32.ofNat k) M = some M' ∧ zO M M' ∧ zM nc M' m' ∧ zD 9999 nc ns T m' := by
  intro fu
  induction fu with
  | zero => intro k M m k1 R I cl h1 h2; omega
  | succ fu ih =>
    intro k M m k1 R I cl h1 h2
    by_cases h : nc ≤ k
    · refine ⟨M, m, ?_, zO_refl M, R, ?_⟩
      · rw [f3_reckon_L175, if_pos (by rw [k1, z_le (by omega) (by omega)]; exact h)]
      · exact (zD.mk (I.d0) (I.dc) (fun a b c ha hb hc => cl c (by omega) a b ha hb) (I.de) (I.dm))
    · have hk : k < nc := by omega
      have R0 : zM nc M (fwp m k 0 0) := by
        intro x y hx hy; rw [R x y hx hy]; congr 1; unfold fwp; rw [if_neg (by omega)]
      obtain ⟨M1, b1, b2, b3⟩ := z_f2 hn hk I.d0 I.dc xF 0 M k1 R0 (by omega) (by unfold xF; omega)
      have b1' : ∀ K, f3_reckon_L185 (Int32.ofNat k) K xF 0 M = K M1 := b1
      have I1 : zI nc ns ns T (fun x y => min (m x y) (m x k + m k y)) :=
        (zI.mk (fun a ha => by have := I.d0 a ha; omega) (fun a b ha hb => by have := I.dc a b ha hb; omega) (fun s hs => by have := I.de s hs; omega) (fun p P a b ha hb => by
            have q1 := I.dm p P a b ha hb
            have q2 := I.dm p P a k ha hk
            have q3 := I.dm p P k b hk hb
            omega))
      obtain ⟨M', m', a1, a2, a3, a4⟩ := ih (k + 1) M1 _ (by rw [b2 1 (by decide)]; exact k1) b3 I1 (zD_fw hk I.d0 cl) (by omega) (by omega)
      refine ⟨M', m', ?_, zO_trans b2 a2, a3, a4⟩
      rw [f3_reckon_L175, if_neg (by rw [k1, z_le (by omega) (by omega)]; exact h), b1', z_s1]; exact a1
theorem z_reckon {nc ns : Nat} {T M : St} (Z : zT nc ns T M) : ∃ M' m, f3_reckon M = some M' ∧ zO M M' ∧ zM nc M' m ∧ zD 9999 nc ns T m := by
  have hn := Z.hn
  obtain ⟨M1, a1, a2, a3⟩ := z_i2 hn xF 0 M Z.k1 (by omega) (by unfold xF; omega)
  have R1 : zM nc M1 (fun x y => if x = y then 0 else 9999) := by
    intro x y hx hy; rw [a3 x y hx hy, if_pos (by omega)]
  have I1 : zI nc ns 0 T (fun x y => if x = y then 0 else 9999) :=
    (zI.mk (fun a ha => by simp) (fun a b ha hb => by split <;> omega) (fun s hs => by omega) (fun p P a b ha hb => by
        have := P.1 b hb
        by_cases h : a = b
        · rw [if_pos h, h]; omega
        · rw [if_neg h]; omega))
  obtain ⟨M2, m2, b1, b2, b3, b4⟩ := z_edges xF 0 M1 _ (zT_O Z a2) R1 I1 (by omega) (by have := Z.hs; unfold xF; omega)
  obtain ⟨M3, m3, c1, c2, c3, c4⟩ := z_f3 hn Z.he xF 0 M2 m2 (by rw [b2 1 (by decide), a2 1 (by decide)]; exact Z.k1) b3 b4 (fun c hc => by omega) (by omega) (by unfold xF; omega)
  refine ⟨M3, m3, ?_, zO_trans a2 (zO_trans b2 c2), c3, c4⟩
  unfold f3_reckon
  exact (a1 _).trans ((b1 _).trans c1)
def swp (t : Nat → Nat → Nat) (e f w a b : Nat) : Nat → Nat → Nat := fun x y => if x < a ∨ (x = a ∧ y < b) then min (t x y) (t x e + w + t f y) else t x y
def zTW (nc : Nat) (T : St) (t : Nat → Nat → Nat) : Prop := ∀ a b, a < nc → b < nc → T (100 + a) b = Int32.ofNat (t a b)
def zTO (T T' : St) : Prop := ∀ k, k < 100 ∨ 200 ≤ k → T' k = T k
theorem zTO_refl (T : St) : zTO T T := fun _ _ => rfl
theorem zTO_trans {T T' T'' : St} (h : zTO T T') (h' : zTO T' T'') : zTO T T'' := fun k hk => (h' k hk).trans (h k hk)
theorem zTO_up (T : St) {a : Nat} (ha : a < 12) (b : Nat) (x : Int32) : zTO T (up2 T (100 + a) b x) := fun k hk => by funext j; rw [z_up, if_neg (by omega)]
theorem z_s15 {C nc e f w a : Nat} {t : Nat → Nat → Nat} (hC : C ≤ 1000000) (hn : nc ≤ 12) (he : e < nc) (hf : f < nc) (ha : a < nc) (hw : w ≤ 24) (dc : ∀ a b, a < nc → b < nc → t a b ≤ C) :
    ∀ (fu j : Nat) (T : St), T 0 0 = Int32.ofNat nc → zTW nc T (swp t e f w a j) → j ≤ nc → nc - j < fu →
    ∃ T', (∀ K, f1_shortenWays_L15 (Int32.ofNat e) (Int32.ofNat f) (Int32.ofNat w) (Int32.ofNat a) K fu (Int32.ofNat j) T = K T') ∧ zTO T T' ∧ zTW nc T' (swp t e f w (a + 1) 0) := by
  intro fu
  induction fu with
  | zero => intro j T k1 R h1 h2; omega
  | succ fu ih =>
    intro j T k1 R h1 h2
    by_cases h : nc ≤ j
    · refine ⟨T, fun K => ?_, zTO_refl T, fun x y hx hy => ?_⟩
      · rw [f1_shortenWays_L15, if_pos (by rw [k1, z_le (by omega) (by omega)]; exact h)]
      · rw [R x y hx hy]; unfold swp
        by_cases c : x < a ∨ (x = a ∧ y < j)
        · rw [if_pos c, if_pos (show x < a + 1 ∨ (x = a + 1 ∧ y < 0) by omega)]
        · rw [if_neg c, if_neg (show ¬ (x < a + 1 ∨ (x = a + 1 ∧ y < 0)) by omega)]
    · have r1 : T (100 + a) e = Int32.ofNat (t a e) := by
        rw [R a e ha he]; congr 1; unfold swp; split <;> omega
      have r2 : T (100 + f) j = Int32.ofNat (t f j) := by
        rw [R f j hf (by omega)]; congr 1; unfold swp; split <;> omega
      have r3 : T (100 + a) j = Int32.ofNat (t a j) := by
        rw [R a j ha (by omega)]; congr 1; unfold swp; split <;> omega
      have c1 := dc a e ha he
      have c2 := dc f j hf (by omega)
      have c3 := dc a j ha (by omega)
      have R1 : zTW nc (up2 T (100 + a) j (Int32.ofNat (min (t a j) (t a e + w + t f j)))) (swp t e f w a (j + 1)) := by
        intro x y hx hy
        rw [z_up]
        by_cases c : x = a ∧ y = j
        · rw [if_pos (by omega), if_pos c.2, c.1, c.2]
          congr 1; unfold swp; rw [if_pos (by omega)]
        · have : (if 100 + x = 100 + a then (if y = j then Int32.ofNat (min (t a j) (t a e + w + t f j)) else T (100 + a) y) else T (100 + x) y) = T (100 + x) y := by
            by_cases cx : x = a
            · subst cx; rw [if_pos rfl, if_neg (fun e => c ⟨rfl, e⟩)]
            · rw [if_neg (by omega)]
          rw [this, R x y hx hy]
          congr 1; unfold swp
          by_cases c' : x < a ∨ (x = a ∧ y < j)
          · rw [if_pos c', if_pos (by omega)]
          · rw [if_neg c', if_neg (by omega)]
      obtain ⟨T', a1, a2, a3⟩ := ih (j + 1) _ (by rw [zTO_up T (by omega) j _ 0 (by omega)]; exact k1) R1 (by omega) (by omega)
      refine ⟨T', fun K => ?_, zTO_trans (zTO_up T (by omega) _ _) a2, a3⟩
      have ev : (if Int32.ofNat (t a e + w + t f j) < Int32.ofNat (t a j) then Int32.ofNat (t a e + w + t f j) else Int32.ofNat (t a j)) = Int32.ofNat (min (t a j) (t a e + w + t f j)) := by
        rw [z_ilt (by omega) (by omega)]; split <;> congr 1 <;> omega
      rw [f1_shortenWays_L15, if_neg (by rw [k1, z_le (by omega) (by omega)]; exact h), z_xin (by omega) (by omega), gd_t, z_xin (by omega) (by omega), gd_t, z_xin (by omega) (by omega), gd_t, z_xin (by omega) (by omega), gd_t, z_clamp (n := a) (by omega), z_clamp (n := e) (by omega), z_clamp (n := f) (by omega), z_clamp (n := j) (by omega), lt_e, r1, r2, r3, z_add, z_add, ev, lt_e, z_s1]
      exact a1 K
theorem z_s3w {C nc e f w : Nat} {t : Nat → Nat → Nat} (hC : C ≤ 1000000) (hn : nc ≤ 12) (he : e < nc) (hf : f < nc) (hw : w ≤ 24) (dc : ∀ a b, a < nc → b < nc → t a b ≤ C) :
    ∀ (fu i : Nat) (T : St), T 0 0 = Int32.ofNat nc → zTW nc T (swp t e f w i 0) → i ≤ nc → nc - i < fu →
    ∃ T', f1_shortenWays_L3 (Int32.ofNat e) (Int32.ofNat f) (Int32.ofNat w) fu (Int32.ofNat i) T = some T' ∧ zTO T T' ∧ zTW nc T' (fun x y => min (t x y) (t x e + w + t f y)) := by
  intro fu
  induction fu with
  | zero => intro i T k1 R h1 h2; omega
  | succ fu ih =>
    intro i T k1 R h1 h2
    by_cases h : nc ≤ i
    · refine ⟨T, ?_, zTO_refl T, fun x y hx hy => ?_⟩
      · rw [f1_shortenWays_L3, if_pos (by rw [k1, z_le (by omega) (by omega)]; exact h)]
      · rw [R x y hx hy]; unfold swp; rw [if_pos (by omega)]
    · obtain ⟨T1, b1, b2, b3⟩ := z_s15 hC hn he hf (show i < nc by omega) hw dc xF 0 T k1 R (by omega) (by unfold xF; omega)
      have b1' : ∀ K, f1_shortenWays_L15 (Int32.ofNat e) (Int32.ofNat f) (Int32.ofNat w) (Int32.ofNat i) K xF 0 T = K T1 := b1
      obtain ⟨T', a1, a2, a3⟩ := ih (i + 1) T1 (by rw [b2 0 (by omega)]; exact k1) b3 (by omega) (by omega)
      refine ⟨T', ?_, zTO_trans b2 a2, a3⟩
      rw [f1_shortenWays_L3, if_neg (by rw [k1, z_le (by omega) (by omega)]; exact h), b1', z_s1]; exact a1
theorem z_short {C nc e f w : Nat} {T : St} {t : Nat → Nat → Nat} (hC : C ≤ 1000000) (hn : nc ≤ 12) (he : e < nc) (hf : f < nc) (hw : w ≤ 24) (dc : ∀ a b, a < nc → b < nc → t a b ≤ C) (k1 : T 0 0 = Int32.ofNat nc) (R : zTW nc T t) :
    ∃ T', f1_shortenWays T (Int32.ofNat e) (Int32.ofNat f) (Int32.ofNat w) = some T' ∧ zTO T T' ∧ zTW nc T' (fun x y => min (t x y) (t x e + w + t f y)) := by
  refine z_s3w hC hn he hf hw dc xF 0 T k1 ?_ (by omega) (by unfold xF; omega)
  intro x y hx hy; rw [R x y hx hy]; congr 1; unfold swp; rw [if_neg (by omega)]
theorem ZE_ways {n0 nc nl : Nat} {T T' N M M' : St} (E : ZE n0 nl T N M) (hT : zTO T T') (hM : zO M M') (wy : ∀ a b, a < nc → b < nc → T' (100 + a) b = wcls (M' 7 (ix12 a b))) : ZE nc nl T' N M' := by
  have t (k : Nat) (hk : k < 100) : T' k = T k := hT k (.inl hk)
  have m (k : Nat) (hk : k ≠ 7) : M' k = M k := hM k hk
  exact (ZE.mk (by rw [t 0 (by decide), m 1 (by decide)]; exact E.c0) (by rw [t 3 (by decide), m 2 (by decide)]; exact E.c3) (by rw [t 7 (by decide), m 3 (by decide)]; exact E.c7) (by rw [t 12 (by decide), m 4 (by decide)]; exact E.c12) (by rw [t 1 (by decide), m 5 (by decide)]; exact E.h1) (by rw [t 11 (by decide), m 11 (by decide)]; exact E.w11) (by rw [t 4 (by decide), m 6 (by decide)]; exact E.t4) (by rw [t 5 (by decide), m 6 (by decide)]; exact E.t5) (by rw [t 6 (by decide), m 6 (by decide)]; exact E.t6) (by rw [t 8 (by decide), m 8 (by decide)]; exact E.t8) (by rw [t 9 (by decide), m 8 (by decide)]; exact E.t9) (by rw [t 10 (by decide), m 8 (by decide)]; exact E.t10) (by rw [m 8 (by decide)]; exact E.n4) (by rw [m 8 (by decide)]; exact E.n5) (by rw [m 8 (by decide)]; exact E.n6) (by rw [m 8 (by decide)]; exact E.n7) (by rw [m 8 (by decide)]; exact E.n8) (by rw [t 13 (by decide), m 9 (by decide)]; exact E.t13) (by rw [m 9 (by decide)]; exact E.n9) (by rw [t 14 (by decide), m 9 (by decide)]; exact E.t14) (by rw [m 9 (by decide)]; exact E.n10) (by rw [t 15 (by decide), m 9 (by decide)]; exact E.t15) (by rw [m 9 (by decide)]; exact E.n11) (by rw [m 9 (by decide)]; exact E.n13) (by rw [m 9 (by decide)]; exact E.n12) (by rw [m 9 (by decide)]; exact E.n14) (by rw [m 9 (by decide)]; exact E.n15) (fun p k hk => by rw [hT (200 + p) (.inr (by omega)), m 10 (by decide)]; exact E.rd p k hk) (by rw [m 12 (by decide)]; exact E.n0) (by rw [m 12 (by decide)]; exact E.n1) (by rw [m 12 (by decide)]; exact E.n2) (fun s hs => by
      rw [E.n3 s hs]; unfold bsum; rw [m 8 (by decide)]) (wy))
theorem ZB_ways {n0 n1 nc ns nl np : Nat} {M M' : St} (B : ZB n0 n1 nl np M) (hM : ∀ k, k ≠ 1 → k ≠ 2 → k ≠ 5 → k ≠ 6 → k ≠ 7 → M' k = M k) (h0 : n0 ≤ nc) (h1 : n1 ≤ ns) (k1 : M' 1 0 = Int32.ofNat nc) (k2 : M' 2 0 = Int32.ofNat ns) (l1 : nc ≤ 12) (l2 : ns ≤ 18)
    (hi : ∀ c, ∃ h, h ≤ 30 ∧ M' 5 c = Int32.ofNat h) (sa : ∀ s, s < ns → ∃ a, a < nc ∧ M' 6 (ix3 s 0) = Int32.ofNat a) (sb : ∀ s, s < ns → ∃ a, a < nc ∧ M' 6 (ix3 s 1) = Int32.ofNat a) (sl : ∀ s, s < ns → ∃ a, 1 ≤ a ∧ a ≤ 9 ∧ M' 6 (ix3 s 2) = Int32.ofNat a)
    (wy : ∀ a b, a < nc → b < nc → ∃ d, (d ≤ 264 ∨ d = 9999) ∧ M' 7 (ix12 a b) = Int32.ofNat d) : ZB nc ns nl np M' := by
  have m (k : Nat) (h : k ≠ 1 ∧ k ≠ 2 ∧ k ≠ 5 ∧ k ≠ 6 ∧ k ≠ 7) : M' k = M k := hM k h.1 h.2.1 h.2.2.1 h.2.2.2.1 h.2.2.2.2
  have m8 := m 8 (by decide)
  have m9 := m 9 (by decide)
  have m10 := m 10 (by decide)
  exact (ZB.mk (k1) (k2) (by rw [m 3 (by decide)]; exact B.k3) (by rw [m 4 (by decide)]; exact B.k4) (l1) (l2) (B.l3) (B.l4) (hi) (sa) (sb) (sl) (fun l hl => by
      rw [m8]; obtain ⟨s, hs, e⟩ := B.lw l hl; exact ⟨s, by omega, e⟩) (by rw [m8]; exact B.lo) (by rw [m8]; exact B.lb) (by rw [m 11 (by decide)]; exact B.wd) (fun p hp => by rw [m9]; obtain ⟨c, hc, e⟩ := B.ph p hp; exact ⟨c, by omega, e⟩) (fun p hp => by rw [m9]; obtain ⟨c, hc, e⟩ := B.pa p hp; exact ⟨c, by omega, e⟩) (by rw [m9]; exact B.pc) (by rw [m9, m10]; exact B.pl) (fun p hp => by
      have := B.pg p hp
      unfold ZG at this ⊢
      rw [m8, m9]
      rcases this with g | ⟨l, a1, a2, a3, a4, ⟨c, hc, a5⟩, a6⟩
      · exact .inl g
      · exact .inr ⟨l, a1, a2, a3, a4, ⟨c, by omega, a5⟩, a6⟩) (by rw [m9]; exact B.pd) (by rw [m 12 (by decide)]; exact B.mi) (by rw [m8]; exact B.zl) (by rw [m9]; exact B.zp) (wy))
theorem z_lC : 9999 ≤ 1000000 := by decide
theorem z_again {nc ns : Nat} {T' M' : St} {t m : Nat → Nat → Nat} (Z : zT nc ns T' M') (R : zTW nc T' t) (D : zD 1000000 nc ns T' t) (R' : zM nc M' m) (D' : zD 9999 nc ns T' m) :
    (∀ a b, a < nc → b < nc → T' (100 + a) b = wcls (M' 7 (ix12 a b))) ∧ (∀ a b, a < nc → b < nc → ∃ d, (d ≤ 264 ∨ d = 9999) ∧ M' 7 (ix12 a b) = Int32.ofNat d) := by
  have hw : ∀ s, s < ns → zwt T' s (eA T' s) (eB T' s) ≤ 24 ∧ zwt T' s (eB T' s) (eA T' s) ≤ 24 := fun s hs => ⟨(z_zw Z hs _ _).2, (z_zw Z hs _ _).2⟩
  have u : ∀ a b, a < nc → b < nc → _ := fun a b ha hb => z_uniq z_lC D D' Z.hn Z.he hw ha hb
  refine ⟨fun a b ha hb => ?_, fun a b ha hb => ?_⟩
  · rw [R a b ha hb, R' a b ha hb]
    rcases u a b ha hb with ⟨h1, h2⟩ | ⟨h1, h2⟩
    · rw [h2, z_wcls (.inl h1), if_neg (by omega)]
    · rw [h2, h1, z_wcls (.inr rfl), if_pos rfl]
  · refine ⟨m a b, ?_, R' a b ha hb⟩
    rcases u a b ha hb with ⟨h1, h2⟩ | ⟨h1, h2⟩
    · left; omega
    · right; exact h2
theorem zD_corner {C nc ns : Nat} {T T' : St} {t : Nat → Nat → Nat} (D : zD C nc ns T t) (he : ∀ s, s < ns → eA T s < nc ∧ eB T s < nc) (ha : eA T' = eA T) (hb : eB T' = eB T)
    (hz : ∀ s a b, a < nc → b < nc → zwt T' s a b = zwt T s a b) : zD C (nc + 1) ns T' (fun x y => if x < nc ∧ y < nc then t x y else if x = y then 0 else C) := by
  refine (zD.mk (fun a h => ?_) (fun a b h1 h2 => ?_) (fun a b c h1 h2 h3 => ?_) (fun s hs => ?_) (fun p P a b h1 h2 => ?_))
  · by_cases h' : a < nc
    · rw [if_pos ⟨h', h'⟩]; exact D.d0 a h'
    · rw [if_neg (by omega), if_pos rfl]
  · by_cases h : a < nc ∧ b < nc
    · rw [if_pos h]; exact D.dc a b h.1 h.2
    · rw [if_neg h]; split <;> omega
  · by_cases hab : a < nc ∧ b < nc
    · rw [if_pos hab]
      by_cases hc : c < nc
      · rw [if_pos ⟨hab.1, hc⟩, if_pos ⟨hc, hab.2⟩]; exact D.dt a b c hab.1 hab.2 hc
      · rw [if_neg (show ¬ (a < nc ∧ c < nc) by omega), if_neg (show ¬ (a = c) by omega)]
        have := D.dc a b hab.1 hab.2
        omega
    · rw [if_neg hab]
      by_cases e : a = b
      · rw [if_pos e]; omega
      · rw [if_neg e]
        by_cases hac : a < nc ∧ c < nc
        · rw [if_neg (show ¬ (c < nc ∧ b < nc) by omega), if_neg (show ¬ c = b by omega)]; omega
        · rw [if_neg hac]
          by_cases e2 : a = c
          · subst e2; rw [if_neg hab, if_neg e]; omega
          · rw [if_neg e2]; omega
  · obtain ⟨h1, h2⟩ := he s hs
    rw [ha, hb, if_pos ⟨h1, h2⟩, if_pos ⟨h2, h1⟩, hz s _ _ h1 h2, hz s _ _ h2 h1]
    exact D.de s hs
  · by_cases h : a < nc ∧ b < nc
    · rw [if_pos h]
      refine D.dm p ⟨fun x hx => P.1 x (by omega), fun s hs => ?_⟩ a b h.1 h.2
      have := P.2 s hs
      obtain ⟨h1, h2⟩ := he s hs
      rw [ha, hb, hz s _ _ h1 h2, hz s _ _ h2 h1] at this
      exact this
    · rw [if_neg h]
      have := P.1 b h2
      by_cases e : a = b
      · rw [if_pos e, e]; omega
      · rw [if_neg e]; omega
theorem zD_street {C nc ns : Nat} {T T' : St} {t : Nat → Nat → Nat} {a b : Nat} (D : zD C nc ns T t) (ha : a < nc) (hb : b < nc) (qa : ∀ s, s < ns → eA T' s = eA T s) (qb : ∀ s, s < ns → eB T' s = eB T s)
    (hz : ∀ s x y, s < ns → zwt T' s x y = zwt T s x y) (na : eA T' ns = a) (nb : eB T' ns = b) :
    zD C nc (ns + 1) T' (fun x y => min (min (t x y) (t x a + zwt T' ns a b + t b y)) (min (t x b) (t x a + zwt T' ns a b + t b b) + zwt T' ns b a + min (t a y) (t a a + zwt T' ns a b + t b y))) := by
  have aa := D.d0 a ha
  have bb := D.d0 b hb
  refine (zD.mk (fun x h => ?_) (fun x y h1 h2 => ?_) (fun x y z h1 h2 h3 => ?_) (fun s hs => ?_) (fun p P x y h1 h2 => ?_))
  · have := D.d0 x h; omega
  · have := D.dc x y h1 h2; omega
  · have e1 := D.dt x y z h1 h2 h3
    have e2 := D.dt x a z h1 ha h3
    have e3 := D.dt x b z h1 hb h3
    have e4 := D.dt a y z ha h2 h3
    have e5 := D.dt b y z hb h2 h3
    have e6 := D.dt x b a h1 hb ha
    have e7 := D.dt x a b h1 ha hb
    have e8 := D.dt a y b ha h2 hb
    have e9 := D.dt b y a hb h2 ha
    omega
  · by_cases h : s = ns
    · subst h; rw [na, nb]; constructor <;> omega
    · have := D.de s (by omega)
      rw [qa s (by omega), qb s (by omega), hz s _ _ (by omega), hz s _ _ (by omega)]
      constructor <;> omega
  · have P0 : zP C nc ns T p := by
      refine ⟨P.1, fun s hs => ?_⟩
      have := P.2 s (by omega)
      rw [qa s hs, qb s hs, hz s _ _ hs, hz s _ _ hs] at this
      exact this
    have Pn := P.2 ns (by omega)
    rw [na, nb] at Pn
    have e1 := D.dm p P0 x y h1 h2
    have e2 := D.dm p P0 x a h1 ha
    have e3 := D.dm p P0 b y hb h2
    have e4 := D.dm p P0 x b h1 hb
    have e5 := D.dm p P0 a y ha h2
    omega
