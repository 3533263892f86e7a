/-! WHAT THE LAW DOES BETWEEN: lids, wind, cans, rounds -/
section
variable {nc ns nl np : Nat} {Y : Nat → Nat} {T N M S : St}
theorem SR_wind (h : SR nc ns nl np Y S M) {i : Nat} {x : Int32} : SR nc ns nl np Y (up2 S 6 i x) (up2 M 11 i x) := by
  have k : ∀ g j z, 10 ≤ g → up2 S 6 i x (rk g j) z = S (rk g j) z := fun g j z hg => up2_n1 (fun e => rk_lo (g := g) (i := j) (k := 6) hg (by omega) e.symm)
  refine SR.mk h.1 (fun c hc => ?_) (fun s w hs hw => ?_) (fun l w hl hw => ?_) (fun p w hp hw => ?_) h.rn (fun p j hp hj => ?_) (fun a ha => ?_) ⟨?_, ?_, ?_⟩
  · rw [up2_n1 (by omega)]; exact h.hi c hc
  · rw [k 10 s w (by omega)]; exact h.st s w hs hw
  · rw [k 11 l w (by omega)]; exact h.la l w hl hw
  · rw [k 12 p w (by omega)]; exact h.li p w hp hw
  · rw [k 13 p j (by omega)]; exact h.ro p j hp hj
  · rw [z_up, z_up, if_pos rfl, if_pos rfl]
    by_cases e : a = i
    · rw [if_pos e, if_pos e]
    · rw [if_neg e, if_neg e]; exact h.wd a ha
  · rw [up2_n1 (by omega)]; exact h.mi
  · rw [up2_n1 (by omega)]; exact h.ni
  · rw [up2_n1 (by omega)]; exact h.us
theorem SR_round (h : SR nc ns nl np Y S M) {p k : Nat} {x : Int32} (hp : p < np) (hY : Y (rk 13 p) = k) (hk : k < 10) : SR nc ns nl np (upA Y (rk 13 p) (k + 1)) (up1 S (rk 13 p) (grw (S (rk 13 p)) k x)) (up2 (up2 M 10 (ix10 p k) x) 9 (ix10 p 4) (Int32.ofNat (k + 1))) := by
  have kS : ∀ j z, j ≠ rk 13 p → up1 S (rk 13 p) (grw (S (rk 13 p)) k x) j z = S j z := fun j z hj => by rw [show up1 S (rk 13 p) (grw (S (rk 13 p)) k x) j = S j from up1_ne hj]
  have kM : ∀ j z, j ≠ 9 → j ≠ 10 → up2 (up2 M 10 (ix10 p k) x) 9 (ix10 p 4) (Int32.ofNat (k + 1)) j z = M j z := fun j z h9 h10 => by rw [up2_n1 h9, up2_n1 h10]
  have yk : ∀ j, j < 10 → j ≠ rk 13 p := fun j hj => rk_lo (by omega) hj
  have gk : ∀ g j, g < 16 → g ≠ 13 → rk g j ≠ rk 13 p := fun g j hg h => rk_ne hg (by omega) h
  refine SR.mk ⟨?_, ?_, ?_, ?_, ?_⟩ (fun c hc => ?_) (fun s w hs hw => ?_) (fun l w hl hw => ?_) (fun q w hq hw => ?_) (fun q hq => ?_) (fun q j hq hj => ?_) (fun a ha => ?_) ⟨?_, ?_, ?_⟩
  · rw [upA_ne (yk 1 (by omega))]; exact h.y1
  · rw [upA_ne (yk 2 (by omega))]; exact h.y2
  · rw [upA_ne (yk 3 (by omega))]; exact h.y3
  · rw [upA_ne (yk 4 (by omega))]; exact h.y4
  · rw [upA_ne (yk 5 (by omega))]; exact h.y5
  · rw [kS 1 c (yk 1 (by omega)), kM 5 c (by omega) (by omega)]; exact h.hi c hc
  · rw [kS _ _ (gk 10 s (by omega) (by omega)), kM 6 _ (by omega) (by omega)]; exact h.st s w hs hw
  · rw [kS _ _ (gk 11 l (by omega) (by omega)), kM 8 _ (by omega) (by omega)]; exact h.la l w hl hw
  · rw [kS _ _ (gk 12 q (by omega) (by omega)), up9 (zw_lt hw) (by omega), if_neg (fun e => zw_4 w e.2), up2_n1 (by omega)]; exact h.li q w hq hw
  · rw [up9 (by omega) (by omega)]
    by_cases e : q = p
    · rw [if_pos ⟨e, rfl⟩, e, upA_eq]; exact ⟨rfl, by omega⟩
    · rw [if_neg (fun z => e z.1), upA_ne (rk_ne2 e), up2_n1 (by omega)]; exact h.rn q hq
  · rw [up2_n1 (by omega)]
    by_cases e : q = p
    · subst e
      rw [upA_eq] at hj
      rw [show up1 S (rk 13 q) (grw (S (rk 13 q)) k x) (rk 13 q) = grw (S (rk 13 q)) k x from if_pos rfl]
      by_cases e2 : j = k
      · rw [e2, up2_at]; exact if_pos rfl
      · rw [up2_n2 (i10 (by omega) (by omega) (.inr e2)), show grw (S (rk 13 q)) k x j = if j < k then S (rk 13 q) j else 0 from if_neg e2, if_pos (by omega)]
        exact h.ro q j hq (by omega)
    · rw [upA_ne (rk_ne2 e)] at hj
      have := (h.rn q hq).2
      rw [kS _ _ (rk_ne2 e), up2_n2 (i10 (by omega) (by omega) (.inl e))]; exact h.ro q j hq hj
  · rw [kS 6 a (yk 6 (by omega)), kM 11 a (by omega) (by omega)]; exact h.wd a ha
  · rw [kS 7 0 (yk 7 (by omega)), kM 12 0 (by omega) (by omega)]; exact h.mi
  · rw [kS 8 0 (yk 8 (by omega)), kM 12 1 (by omega) (by omega)]; exact h.ni
  · rw [kS 9 0 (yk 9 (by omega)), kM 12 2 (by omega) (by omega)]; exact h.us
theorem ZX_lid (h : ZX nl np M) {i d : Nat} (hd : d ≤ 9) : ZX nl np (up2 M 8 (ix8 i 2) (Int32.ofNat d)) := by
  have e : ∀ l w, w < 8 → w ≠ 2 → up2 M 8 (ix8 i 2) (Int32.ofNat d) 8 (ix8 l w) = M 8 (ix8 l w) := fun l w hw h5 => by rw [up8 hw (by omega), if_neg (by omega)]
  refine ⟨fun l hl h1 => ?_, fun l hl => ?_, fun l hl => ?_, fun l hl => ?_, h.ld, h.z6, fun p l hp hl hg => ?_⟩
  · rw [e l 3 (by omega) (by omega)]
    rw [e l 5 (by omega) (by omega)] at h1
    exact h.bo l hl h1
  · rw [e l 4 (by omega) (by omega)]; exact h.so l hl
  · rw [up8 (by omega) (by omega)]
    split
    · exact ⟨d, hd, rfl⟩
    · exact h.li l hl
  · rw [e l 1 (by omega) (by omega)]; exact h.he l hl
  · rw [e l 1 (by omega) (by omega)]; exact h.go p l hp hl hg
theorem ZX_can (h : ZX nl np M) {i : Nat} {x : Int32} : ZX nl np (up2 M 9 (ix10 i 3) x) := by
  have e : ∀ q w, w < 10 → w ≠ 3 → up2 M 9 (ix10 i 3) x 9 (ix10 q w) = M 9 (ix10 q w) := fun l w hw h5 => by rw [up9 hw (by omega), if_neg (by omega)]
  refine ⟨h.bo, h.so, h.li, h.he, fun p hp => ?_, fun p hp h5 => ?_, fun p l hp hl hg => ?_⟩
  · rw [e p 2 (by omega) (by omega)]; exact h.ld p hp
  · rw [e p 6 (by omega) (by omega)]
    rw [e p 5 (by omega) (by omega)] at h5
    exact h.z6 p hp h5
  · rw [e p 5 (by omega) (by omega)] at hg
    rw [e p 4 (by omega) (by omega), e p 2 (by omega) (by omega)]
    exact h.go p l hp hl hg
theorem ZX_round (h : ZX nl np M) {i k : Nat} {x : Int32} (hk : k < 10) (ek : M 9 (ix10 i 4) = Int32.ofNat k) : ZX nl np (up2 (up2 M 10 (ix10 i k) x) 9 (ix10 i 4) (Int32.ofNat (k + 1))) := by
  have e : ∀ q w, w < 10 → w ≠ 4 → up2 (up2 M 10 (ix10 i k) x) 9 (ix10 i 4) (Int32.ofNat (k + 1)) 9 (ix10 q w) = M 9 (ix10 q w) := fun l w hw h5 => by rw [up9 hw (by omega), if_neg (by omega)]; exact up2_n1 (by omega)
  refine ⟨h.bo, h.so, h.li, h.he, fun p hp => ?_, fun p hp h5 => ?_, fun p l hp hl hg => ?_⟩
  · rw [e p 2 (by omega) (by omega)]; exact h.ld p hp
  · rw [e p 6 (by omega) (by omega)]
    rw [e p 5 (by omega) (by omega)] at h5
    exact h.z6 p hp h5
  · rw [e p 5 (by omega) (by omega)] at hg
    obtain ⟨⟨j, k', a1, a2, a3, a4⟩, b⟩ := h.go p l hp hl hg
    rw [e p 2 (by omega) (by omega)]
    refine ⟨⟨j, if p = i then k + 1 else k', ?_, ?_, ?_, ?_⟩, b⟩
    · rw [up9 (by omega) (by omega)]
      by_cases q : p = i
      · rw [if_pos ⟨q, rfl⟩, if_pos q]
      · rw [if_neg (fun z => q z.1), if_neg q]; rw [up2_n1 (by omega)]; exact a1
    · by_cases q : p = i
      · rw [if_pos q]; subst q; rw [a1, z_inj (by omega) (by omega)] at ek; omega
      · rw [if_neg q]; exact a2
    · split <;> omega
    · have hj : j ≠ k ∨ p ≠ i := by
        by_cases q : p = i
        · subst q; rw [a1, z_inj (by omega) (by omega)] at ek; left; omega
        · exact .inr q
      rw [up2_n1 (by omega), up2_n2 (i10 (by omega) (by omega) (by rcases hj with h | h; exact .inr h; exact .inl h))]; exact a4
theorem y_isIn {n lo hi : Nat} (h1 : lo ≤ n) (h2 : n ≤ hi) (hh : hi < 2147483648) : f3_isIn (Int32.ofNat n) (Int32.ofNat lo) (Int32.ofNat hi) = some 1 := by
  rw [z_isIn, z_ilt (by omega) (by omega), if_neg (by omega), z_ilt (by omega) (by omega), if_neg (by omega)]
def YJ (nc ns nl np : Nat) (T N M : St) (Y : Nat → Nat) (S : St) : Prop := YI nc ns nl np T N M Y S ∧ ZW nc ns T
theorem y_lid (J : YJ nc ns nl np T N M Y S) (G F : St) {l d : Nat} (hl : l < nl) (hd : d ≤ 9) : ∃ T' M', f2_lid G N F T (Int32.ofNat l) (Int32.ofNat d) = some (.inr (M 8 (ix8 l 2), T')) ∧ YJ nc ns nl np T' N M' Y (up2 S (rk 11 l) 2 (Int32.ofNat d)) := by
  obtain ⟨⟨E, B, X, R, V⟩, W⟩ := J
  have l3 := B.l3
  have hM : f3_lid M (Int32.ofNat l) (Int32.ofNat d) = some (M 8 (ix8 l 2), up2 (up2 M 0 0 0) 8 (ix8 l 2) (Int32.ofNat d)) := by
    unfold f3_lid f3_isLamp
    rw [lt_e, show (up2 M 0 0 0) 3 0 = Int32.ofNat nl from B.k3, (z_idx_ok (i := l) (n := nl) hl (by omega)).2, bd_e, bd_e, if_neg (show ¬ (1 : Int32) = 0 by decide), show f3_isIn (Int32.ofNat d) 0 9 = some 1 from y_isIn (lo := 0) (hi := 9) (by omega) hd (by omega), bd_e, if_neg (show ¬ (1 : Int32) = 0 by decide), z_la2 (by omega), bd_e, z_setLamp2 (by omega), bd_e]
    rfl
  rcases z_lid ⟨nc, ns, nl, np, E, B, W⟩ G F (Int32.ofNat l) (Int32.ofNat d) with ⟨e, M', -, h2, h3, -⟩ | ⟨r, T', M', h1, h2, -, h4⟩
  · rw [hM] at h2
    have e2 := (Prod.mk.inj (Option.some.inj h2)).2
    rw [← e2] at h3
    have : (up2 (up2 M 0 0 0) 8 (ix8 l 2) (Int32.ofNat d)) 0 0 = 0 := z_th M 0
    rw [this] at h3
    rcases h3 with ⟨-, h⟩ | ⟨-, h⟩ <;> exact absurd h (by decide)
  · rw [hM] at h2
    obtain ⟨e1, e2⟩ := Prod.mk.inj (Option.some.inj h2)
    subst e1; subst e2
    obtain ⟨E', B', W'⟩ := ZR_n h4 B rfl rfl rfl rfl
    exact ⟨T', _, h1, ⟨E', B', ZX_lid (ZX_0 X) hd, SR_8 (SR_0 R) (by omega), SW_k (SW_0 V) (fun a _ => rk_ne (by omega) (by omega) (by omega)) (by omega)⟩, W'⟩
theorem y_wind (J : YJ nc ns nl np T N M Y S) (G F : St) {h d : Nat} (hh : h < 10) (hd : d ≤ 9) : ∃ T' M', f2_setWind G N F T (Int32.ofNat h) (Int32.ofNat d) = some (.inr (M 11 h, T')) ∧ YJ nc ns nl np T' N M' Y (up2 S 6 h (Int32.ofNat d)) := by
  obtain ⟨⟨E, B, X, R, V⟩, W⟩ := J
  have hM : f3_setWind M (Int32.ofNat h) (Int32.ofNat d) = some (M 11 h, up2 (up2 M 0 0 0) 11 h (Int32.ofNat d)) := by
    unfold f3_setWind
    rw [lt_e, show f3_isIn (Int32.ofNat h) 0 9 = some 1 from y_isIn (lo := 0) (hi := 9) (by omega) (by omega) (by omega), bd_e, if_neg (show ¬ (1 : Int32) = 0 by decide), show f3_isIn (Int32.ofNat d) 0 9 = some 1 from y_isIn (lo := 0) (hi := 9) (by omega) hd (by omega), bd_e, if_neg (show ¬ (1 : Int32) = 0 by decide), z_xin (n := h) (by omega) (by omega), gd_t, lt_e, lt_e, z_clamp (n := h) (by omega)]
    rfl
  rcases z_setWind ⟨nc, ns, nl, np, E, B, W⟩ G F (Int32.ofNat h) (Int32.ofNat d) with ⟨e, M', -, h2, h3, -⟩ | ⟨r, T', M', h1, h2, -, h4⟩
  · rw [hM] at h2
    have e2 := (Prod.mk.inj (Option.some.inj h2)).2
    rw [← e2] at h3
    have : (up2 (up2 M 0 0 0) 11 h (Int32.ofNat d)) 0 0 = 0 := z_th M 0
    rw [this] at h3
    rcases h3 with ⟨-, h⟩ | ⟨-, h⟩ <;> exact absurd h (by decide)
  · rw [hM] at h2
    obtain ⟨e1, e2⟩ := Prod.mk.inj (Option.some.inj h2)
    subst e1; subst e2
    obtain ⟨E', B', W'⟩ := ZR_n h4 B rfl rfl rfl rfl
    exact ⟨T', _, h1, ⟨E', B', ZX_up (ZX_0 X) (by omega) (by omega) (by omega), SR_wind (SR_0 R), SW_k (SW_0 V) (fun a _ e => rk_lo (g := 14) (i := a) (by omega) (by omega) e.symm) (by omega)⟩, W'⟩
theorem y_fill (J : YJ nc ns nl np T N M Y S) (G F : St) {p d : Nat} (hp : p < np) (h1 : 1 ≤ d) (hd : d ≤ 999) : ∃ N' M' c, c = (if (M 9 (ix10 p 3) + Int32.ofNat d) < (999 : Int32) then (M 9 (ix10 p 3) + Int32.ofNat d) else (999 : Int32)) ∧ f2_fill G N F T (Int32.ofNat p) (Int32.ofNat d) = some (.inr (c, N')) ∧ YJ nc ns nl np T N' M' Y (up2 S (rk 12 p) 3 c) := by
  obtain ⟨⟨E, B, X, R, V⟩, W⟩ := J
  have l4 := B.l4
  obtain ⟨c, hc⟩ : ∃ c, c = (if (M 9 (ix10 p 3) + Int32.ofNat d) < (999 : Int32) then (M 9 (ix10 p 3) + Int32.ofNat d) else (999 : Int32)) := ⟨_, rfl⟩
  have hM : f3_fill M (Int32.ofNat p) (Int32.ofNat d) = some (c, up2 (up2 M 0 0 0) 9 (ix10 p 3) c) := by
    unfold f3_fill f3_isLighter
    rw [lt_e, show (up2 M 0 0 0) 4 0 = Int32.ofNat np from B.k4, (z_idx_ok (i := p) (n := np) hp (by omega)).2, bd_e, bd_e, if_neg (show ¬ (1 : Int32) = 0 by decide), show f3_isIn (Int32.ofNat d) 1 999 = some 1 from y_isIn (lo := 1) (hi := 999) h1 hd (by omega), bd_e, if_neg (show ¬ (1 : Int32) = 0 by decide), z_pe3 (by omega), bd_e, show (up2 M 0 0 0) 9 (ix10 p 3) = M 9 (ix10 p 3) from rfl, ← hc, z_put3 (by omega), bd_e, z_pe3 (by omega), bd_e, up2_at]
  rcases z_fill ⟨nc, ns, nl, np, E, B, W⟩ G F (Int32.ofNat p) (Int32.ofNat d) with ⟨e, M', -, h2, h3, -⟩ | ⟨r, N', M', h1, h2, -, h4⟩
  · rw [hM] at h2
    have e2 := (Prod.mk.inj (Option.some.inj h2)).2
    rw [← e2] at h3
    have : (up2 (up2 M 0 0 0) 9 (ix10 p 3) c) 0 0 = 0 := z_th M 0
    rw [this] at h3
    rcases h3 with ⟨-, h⟩ | ⟨-, h⟩ <;> exact absurd h (by decide)
  · rw [hM] at h2
    obtain ⟨e1, e2⟩ := Prod.mk.inj (Option.some.inj h2)
    subst e1; subst e2
    obtain ⟨E', B', W'⟩ := ZR_n h4 B rfl rfl rfl rfl
    exact ⟨N', _, c, hc, h1, ⟨E', B', ZX_can (ZX_0 X), SR_9 (w := 3) (SR_0 R) (by omega), SW_k (SW_0 V) (fun a _ => rk_ne (by omega) (by omega) (by omega)) (by omega)⟩, W'⟩
theorem y_inR {p k : Nat} {y : Int32} (hp : p < 4) (hk : k ≤ 10) (h : ∀ i, i < k → M 10 (ix10 p i) ≠ y) : ∀ (n i fu : Nat), i + n = k → n < fu → ∀ K, f3_round_L40 (Int32.ofNat p) y (Int32.ofNat k) M K fu 0 (Int32.ofNat i) = K 0 := by
  intro n
  induction n with
  | zero =>
    intro i fu hi hf K
    obtain ⟨fu, rfl⟩ : ∃ k, fu = k + 1 := ⟨fu - 1, by omega⟩
    rw [f3_round_L40, z_ile (by omega) (by omega), if_pos (by omega)]
  | succ n ih =>
    intro i fu hi hf K
    obtain ⟨fu, rfl⟩ : ∃ k, fu = k + 1 := ⟨fu - 1, by omega⟩
    have e10 : (10 : Int32) * Int32.ofNat p + Int32.ofNat i = Int32.ofNat (ix10 p i) := z_s10
    rw [f3_round_L40, z_ile (by omega) (by omega), if_neg (by omega), e10, z_xin (by unfold ix10; omega) (by unfold ix10; omega), gd_t, lt_e, z_clamp (by unfold ix10; omega), if_neg (h i (by omega))]
    dsimp only
    rw [lt_e, z_s1, show (0 : Int32) ||| 0 = 0 by decide]
    exact ih (i + 1) fu (by omega) (by omega) K
theorem y_round (J : YJ nc ns nl np T N M Y S) (G F : St) {p l k : Nat} (hp : p < np) (hl : l < nl) (hY : Y (rk 13 p) = k) (hk : k < 10) (hno : ∀ i, i < k → S (rk 13 p) i ≠ Int32.ofNat l) : ∃ T' M', f2_round G N F T (Int32.ofNat p) (Int32.ofNat l) = some (.inr (Int32.ofNat (k + 1), T')) ∧ YJ nc ns nl np T' N M' (upA Y (rk 13 p) (k + 1)) (up1 S (rk 13 p) (grw (S (rk 13 p)) k (Int32.ofNat l))) := by
  obtain ⟨⟨E, B, X, R, V⟩, W⟩ := J
  have l3 := B.l3; have l4 := B.l4
  have ek : M 9 (ix10 p 4) = Int32.ofNat k := by rw [(R.rn p hp).1, hY]
  have hno' : ∀ i, i < k → (up2 M 0 0 0) 10 (ix10 p i) ≠ Int32.ofNat l := fun i hi => by
    have := hno i hi
    rw [R.ro p i hp (by omega)] at this; exact this
  have hM : f3_round M (Int32.ofNat p) (Int32.ofNat l) = some (Int32.ofNat (k + 1), up2 (up2 (up2 M 0 0 0) 10 (ix10 p k) (Int32.ofNat l)) 9 (ix10 p 4) (Int32.ofNat (k + 1))) := by
    have e10 : (10 : Int32) * Int32.ofNat p + Int32.ofNat k = Int32.ofNat (ix10 p k) := z_s10
    have hr : ∀ K, f3_round_L40 (Int32.ofNat p) (Int32.ofNat l) (Int32.ofNat k) (up2 M 0 0 0) K xF 0 0 = K 0 := y_inR (M := up2 M 0 0 0) (by omega) (by omega) hno' k 0 xF (by omega) (by unfold xF; omega)
    unfold f3_round f3_isLighter f3_isLamp
    rw [lt_e, show (up2 M 0 0 0) 4 0 = Int32.ofNat np from B.k4, show (up2 M 0 0 0) 3 0 = Int32.ofNat nl from B.k3, (z_idx_ok (i := p) (n := np) hp (by omega)).2, bd_e, bd_e, lt_e, if_neg (show ¬ (1 : Int32) = 0 by decide), (z_idx_ok (i := l) (n := nl) hl (by omega)).2, bd_e, bd_e, if_neg (show ¬ (1 : Int32) = 0 by decide), z_pe4 (by omega), bd_e, show (up2 M 0 0 0) 9 (ix10 p 4) = Int32.ofNat k from ek, hr, lt_e, if_pos rfl, if_neg (by rw [show (10 : Int32) = Int32.ofNat 10 from rfl, z_inj (by omega) (by omega)]; omega), e10, z_xin (by unfold ix10; omega) (by unfold ix10; omega), gd_t, lt_e, z_clamp (by unfold ix10; omega), z_put4 (by omega), bd_e, z_s1]
  rcases z_round ⟨nc, ns, nl, np, E, B, W⟩ G F (Int32.ofNat p) (Int32.ofNat l) with ⟨e, M', -, h2, h3, -⟩ | ⟨r, T', M', h1, h2, -, h4⟩
  · rw [hM] at h2
    have e2 := (Prod.mk.inj (Option.some.inj h2)).2
    rw [← e2] at h3
    have : (up2 (up2 (up2 M 0 0 0) 10 (ix10 p k) (Int32.ofNat l)) 9 (ix10 p 4) (Int32.ofNat (k + 1))) 0 0 = 0 := z_th M 0
    rw [this] at h3
    rcases h3 with ⟨-, h⟩ | ⟨-, h⟩ <;> exact absurd h (by decide)
  · rw [hM] at h2
    obtain ⟨e1, e2⟩ := Prod.mk.inj (Option.some.inj h2)
    subst e1; subst e2
    obtain ⟨E', B', W'⟩ := ZR_n h4 B rfl rfl rfl rfl
    refine ⟨T', _, h1, ⟨E', B', ZX_round (ZX_0 X) hk ek, SR_round (SR_0 R) hp hY hk, ?_⟩, W'⟩
    intro a b ha hb
    rw [show up1 S (rk 13 p) (grw (S (rk 13 p)) k (Int32.ofNat l)) (rk 14 a) = S (rk 14 a) from up1_ne (rk_ne (by omega) (by omega) (by omega))]
    exact V a b ha hb
end
