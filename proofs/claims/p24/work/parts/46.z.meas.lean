/-! MEASURED: what the sim measured is what the town knows -/
theorem y_uniq {C C' nc ns : Nat} (hC : 9999 ≤ C) (hC1 : 265 ≤ C') (hC2 : C' ≤ C) {T : St} {t m : Nat → Nat → Nat} (D : zD C nc ns T t) (D' : zD C' nc ns T m) (hn : nc ≤ 12) (he : ∀ s, s < ns → eA T s < nc ∧ eB T s < nc)
    (hw : ∀ s, s < ns → zwt T s (eA T s) (eB T s) ≤ 24 ∧ zwt T s (eB T s) (eA T s) ≤ 24) {a b : Nat} (ha : a < nc) (hb : b < nc) :
    (t a b ≤ 264 ∧ m a b = t a b) ∨ (t a b = C ∧ m a b = C') := by
  have i1 : m a b ≤ t a b := by
    have P : zP C nc ns T (fun x => m a x) := ⟨fun x hx => by have := D'.dc a x ha hx; simp only []; omega, fun s hs => zD_p D' he ha s hs⟩
    have := D.dm _ P a b ha hb
    simp only [D'.d0 a ha] at this
    omega
  have i2 : min (t a b) C' ≤ m a b := by
    have P : zP C' nc ns T (fun x => min (t a x) C') := ⟨fun x hx => by simp only []; omega, fun s hs => by have := zD_p D he ha s hs; simp only []; omega⟩
    have := D'.dm _ P a b ha hb
    simp only [D.d0 a ha] at this
    omega
  have i3 := D'.dc a b ha hb
  rcases z_gap hC D hn he hw ha hb with h | h <;> omega
theorem SR_SK {nc ns nl np : Nat} {Y : Nat → Nat} {S S' M : St} (R : SR nc ns nl np Y S M) (K : SK S S') : SR nc ns nl np Y S' M := by
  have lo : ∀ k, k < 10 → S' k = S k := fun k h => K k (fun a => rk_lo (by omega) h)
  have hi : ∀ g i, g < 14 → S' (rk g i) = S (rk g i) := fun g i h => K _ (fun a => rk_ne (by omega) (by omega) (by omega))
  refine SR.mk R.1 (fun c hc => ?_) (fun s w hs hw => ?_) (fun l w hl hw => ?_) (fun q w hq hw => ?_) R.rn (fun q j hq hj => ?_) (fun a ha => ?_) ⟨?_, ?_, ?_⟩
  · rw [lo 1 (by omega)]; exact R.hi c hc
  · rw [hi 10 s (by omega)]; exact R.st s w hs hw
  · rw [hi 11 l (by omega)]; exact R.la l w hl hw
  · rw [hi 12 q (by omega)]; exact R.li q w hq hw
  · rw [hi 13 q (by omega)]; exact R.ro q j hq hj
  · rw [lo 6 (by omega)]; exact R.wd a ha
  · rw [lo 7 (by omega)]; exact R.mi
  · rw [lo 8 (by omega)]; exact R.ni
  · rw [lo 9 (by omega)]; exact R.us
theorem y_meas {nc ns nl np : Nat} {Y : Nat → Nat} {T N M S : St} (J : YB nc ns nl np T N M Y S) : ∃ S', f5_measure Y S = some S' ∧ SK S S' ∧ YJ nc ns nl np T N M Y S' := by
  obtain ⟨E, B, X, R, W⟩ := J
  have Z := zT_of (ZE_n E) B
  have H : zH nc ns Y T S := by
    refine ⟨⟨R.y1, R.y2, B.l1, B.l2⟩, fun c hc => (R.hi c hc).trans (Z.rh c), fun s hs => ⟨(R.st s 0 hs (by omega)).trans (Z.ra s hs), (R.st s 1 hs (by omega)).trans (Z.rb s hs), (R.st s 2 hs (by omega)).trans (Z.rl s hs)⟩, Z.hh, Z.hl, Z.he⟩
  obtain ⟨S', t', a1, K, V, D'⟩ := y_measure H
  obtain ⟨t, R1, D⟩ := W
  refine ⟨S', a1, K, ⟨E, B, X, SR_SK R K, fun a b ha hb => ?_⟩, t, R1, D⟩
  have u := y_uniq (C := 1000000) (C' := 1000) (by omega) (by omega) (by omega) D D' B.l1 Z.he (fun s hs => ⟨(z_zw Z hs _ _).2, (z_zw Z hs _ _).2⟩) ha hb
  obtain ⟨d, hd, ed⟩ := B.wy a b ha hb
  have w := E.wy a b ha hb
  have w1 := R1 a b ha hb
  rw [w1, ed] at w
  rw [V a b ha hb, ed, scls_d hd]
  have dcb := D.dc a b ha hb
  unfold wcls at w
  rw [z_l9999, z_ieq (by omega) (by omega)] at w
  unfold dcl
  rcases hd with h | h
  · rw [if_neg (by omega), z_inj (by omega) (by omega)] at w
    rw [if_neg (by omega)]
    rcases u with ⟨u1, u2⟩ | ⟨u1, u2⟩
    · rw [u2, w]
    · omega
  · rw [if_pos h, show (1000000 : Int32) = Int32.ofNat 1000000 from rfl, z_inj (by omega) (by omega)] at w
    rw [if_pos h]
    rcases u with ⟨u1, u2⟩ | ⟨u1, u2⟩
    · omega
    · rw [u2]
