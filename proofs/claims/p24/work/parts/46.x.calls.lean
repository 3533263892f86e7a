/-! THE BUILDING CALLS: corners, streets, lamps, lighters -/
theorem ZR_g {nc ns nl np : Nat} {T N M' : St} (R : ZR T N M') (h1 : M' 1 0 = Int32.ofNat nc) (h2 : M' 2 0 = Int32.ofNat ns) (h3 : M' 3 0 = Int32.ofNat nl) (h4 : M' 4 0 = Int32.ofNat np) (b1 : nc ≤ 100) (b2 : ns ≤ 100) (b3 : nl ≤ 100) (b4 : np ≤ 100) : ZE nc nl T N M' ∧ ZB nc ns nl np M' ∧ ZW nc ns T := by
  obtain ⟨a, b, c, d, E', B', W'⟩ := R
  have l1' := B'.l1; have l2' := B'.l2; have l3' := B'.l3; have l4' := B'.l4
  have e1 : a = nc := by
    have := B'.k1; rw [h1, z_inj (by omega) (by omega)] at this; exact this.symm
  have e2 : b = ns := by
    have := B'.k2; rw [h2, z_inj (by omega) (by omega)] at this; exact this.symm
  have e3 : c = nl := by
    have := B'.k3; rw [h3, z_inj (by omega) (by omega)] at this; exact this.symm
  have e4 : d = np := by
    have := B'.k4; rw [h4, z_inj (by omega) (by omega)] at this; exact this.symm
  subst e1; subst e2; subst e3; subst e4
  exact ⟨E', B', W'⟩
theorem ZX_of {nl np : Nat} {M M' : St} (h : ZX nl np M) (h8 : M' 8 = M 8) (h9 : M' 9 = M 9) (h10 : M' 10 = M 10) : ZX nl np M' := by
  unfold ZX at h ⊢
  rw [h8, h9, h10]; exact h
theorem y_reckon {nc ns : Nat} {M : St} (k1 : M 1 0 = Int32.ofNat nc) (k2 : M 2 0 = Int32.ofNat ns) (l1 : nc ≤ 12) (l2 : ns ≤ 18) (hi : ∀ c, ∃ h, h ≤ 30 ∧ M 5 c = Int32.ofNat h) (sa : ∀ s, s < ns → ∃ a, a < nc ∧ M 6 (ix3 s 0) = Int32.ofNat a) (sb : ∀ s, s < ns → ∃ a, a < nc ∧ M 6 (ix3 s 1) = Int32.ofNat a) (sl : ∀ s, s < ns → ∃ a, 1 ≤ a ∧ a ≤ 9 ∧ M 6 (ix3 s 2) = Int32.ofNat a) : ∃ M', f3_reckon M = some M' ∧ zO M M' := by
  have Z : zT nc ns (fun k j => if k = 1 then M 5 j else if k = 4 then M 6 (ix3 j 0) else if k = 5 then M 6 (ix3 j 1) else M 6 (ix3 j 2)) M := by
    refine zT.mk k1 k2 l1 l2 (fun s hs => ?_) (fun s hs => ?_) (fun s hs => ?_) (fun c => ?_) (fun c => ?_) (fun s hs => ?_) (fun s hs => ⟨?_, ?_⟩)
    · obtain ⟨a, ha, e⟩ := sa s hs
      show M 6 (ix3 s 0) = Int32.ofNat (M 6 (ix3 s 0)).toNatClampNeg
      rw [e, z_clamp (by omega)]
    · obtain ⟨a, ha, e⟩ := sb s hs
      show M 6 (ix3 s 1) = Int32.ofNat (M 6 (ix3 s 1)).toNatClampNeg
      rw [e, z_clamp (by omega)]
    · obtain ⟨a, ha, hb, e⟩ := sl s hs
      show M 6 (ix3 s 2) = Int32.ofNat (M 6 (ix3 s 2)).toNatClampNeg
      rw [e, z_clamp (by omega)]
    · obtain ⟨a, ha, e⟩ := hi c
      show M 5 c = Int32.ofNat (M 5 c).toNatClampNeg
      rw [e, z_clamp (by omega)]
    · obtain ⟨a, ha, e⟩ := hi c
      show (M 5 c).toNatClampNeg ≤ 30
      rw [e, z_clamp (by omega)]; exact ha
    · obtain ⟨a, ha, hb, e⟩ := sl s hs
      show (M 6 (ix3 s 2)).toNatClampNeg ≤ 9
      rw [e, z_clamp (by omega)]; exact hb
    · obtain ⟨a, ha, e⟩ := sa s hs
      show (M 6 (ix3 s 0)).toNatClampNeg < nc
      rw [e, z_clamp (by omega)]; exact ha
    · obtain ⟨a, ha, e⟩ := sb s hs
      show (M 6 (ix3 s 1)).toNatClampNeg < nc
      rw [e, z_clamp (by omega)]; exact ha
  obtain ⟨M', m, h1, h2, -, -⟩ := z_reckon Z
  exact ⟨M', h1, h2⟩
section
variable {nc ns nl np : Nat} {Y : Nat → Nat} {S M M' : St}
theorem SR_corner (R : SR nc ns nl np Y S M) {x : Int32} (h5 : ∀ c, M' 5 c = if c = nc then x else M 5 c) (hk : ∀ k, k ≠ 0 → k ≠ 1 → k ≠ 5 → k ≠ 7 → M' k = M k) : SR (nc + 1) ns nl np (upA Y 1 (nc + 1)) (up1 S 1 (grw (S 1) nc x)) M' := by
  have kS : ∀ k, k ≠ 1 → up1 S 1 (grw (S 1) nc x) k = S k := fun k h => up1_ne h
  have rS : ∀ g i, 10 ≤ g → up1 S 1 (grw (S 1) nc x) (rk g i) = S (rk g i) := fun g i hg => kS _ (fun e => rk_lo (g := g) (i := i) hg (by omega) e.symm)
  have rY : ∀ i, upA Y 1 (nc + 1) (rk 13 i) = Y (rk 13 i) := fun i => upA_ne (fun e => rk_lo (g := 13) (i := i) (by omega) (by omega) e.symm)
  refine SR.mk ⟨upA_eq, (upA_ne (by omega)).trans R.y2, (upA_ne (by omega)).trans R.y3, (upA_ne (by omega)).trans R.y4, (upA_ne (by omega)).trans R.y5⟩ (fun c hc => ?_) (fun s w hs hw => ?_) (fun l w hl hw => ?_) (fun q w hq hw => ?_) (fun q hq => ?_) (fun q j hq hj => ?_) (fun a ha => ?_) ⟨?_, ?_, ?_⟩
  · rw [show up1 S 1 (grw (S 1) nc x) 1 = grw (S 1) nc x from if_pos rfl, h5]
    by_cases e : c = nc
    · rw [if_pos e, e]; exact if_pos rfl
    · rw [if_neg e, show grw (S 1) nc x c = if c < nc then S 1 c else 0 from if_neg e, if_pos (by omega)]; exact R.hi c (by omega)
  · rw [rS 10 s (by omega), hk 6 (by omega) (by omega) (by omega) (by omega)]; exact R.st s w hs hw
  · rw [rS 11 l (by omega), hk 8 (by omega) (by omega) (by omega) (by omega)]; exact R.la l w hl hw
  · rw [rS 12 q (by omega), hk 9 (by omega) (by omega) (by omega) (by omega)]; exact R.li q w hq hw
  · rw [rY, hk 9 (by omega) (by omega) (by omega) (by omega)]; exact R.rn q hq
  · rw [rY] at hj
    rw [rS 13 q (by omega), hk 10 (by omega) (by omega) (by omega) (by omega)]; exact R.ro q j hq hj
  · rw [kS 6 (by omega), hk 11 (by omega) (by omega) (by omega) (by omega)]; exact R.wd a ha
  · rw [kS 7 (by omega), hk 12 (by omega) (by omega) (by omega) (by omega)]; exact R.mi
  · rw [kS 8 (by omega), hk 12 (by omega) (by omega) (by omega) (by omega)]; exact R.ni
  · rw [kS 9 (by omega), hk 12 (by omega) (by omega) (by omega) (by omega)]; exact R.us
theorem SR_street (R : SR nc ns nl np Y S M) {f : Nat → Int32} (h6 : ∀ s w, w < 3 → M' 6 (ix3 s w) = if s = ns then f w else M 6 (ix3 s w)) (hk : ∀ k, k ≠ 0 → k ≠ 2 → k ≠ 6 → k ≠ 7 → M' k = M k) : SR nc (ns + 1) nl np (upA Y 2 (ns + 1)) (up1 S (rk 10 ns) f) M' := by
  have kS : ∀ k, k ≠ rk 10 ns → up1 S (rk 10 ns) f k = S k := fun k h => up1_ne h
  have rS : ∀ g i, 11 ≤ g → g < 16 → up1 S (rk 10 ns) f (rk g i) = S (rk g i) := fun g i hg h2 => kS _ (rk_ne h2 (by omega) (by omega))
  have lS : ∀ k, k < 10 → up1 S (rk 10 ns) f k = S k := fun k h => kS _ (rk_lo (by omega) h)
  have rY : ∀ i, upA Y 2 (ns + 1) (rk 13 i) = Y (rk 13 i) := fun i => upA_ne (fun e => rk_lo (g := 13) (i := i) (by omega) (by omega) e.symm)
  refine SR.mk ⟨(upA_ne (by omega)).trans R.y1, upA_eq, (upA_ne (by omega)).trans R.y3, (upA_ne (by omega)).trans R.y4, (upA_ne (by omega)).trans R.y5⟩ (fun c hc => ?_) (fun s w hs hw => ?_) (fun l w hl hw => ?_) (fun q w hq hw => ?_) (fun q hq => ?_) (fun q j hq hj => ?_) (fun a ha => ?_) ⟨?_, ?_, ?_⟩
  · rw [lS 1 (by omega), hk 5 (by omega) (by omega) (by omega) (by omega)]; exact R.hi c hc
  · rw [h6 s w hw]
    by_cases e : s = ns
    · rw [if_pos e, e, show up1 S (rk 10 ns) f (rk 10 ns) = f from if_pos rfl]
    · rw [if_neg e, kS _ (rk_ne2 e)]; exact R.st s w (by omega) hw
  · rw [rS 11 l (by omega) (by omega), hk 8 (by omega) (by omega) (by omega) (by omega)]; exact R.la l w hl hw
  · rw [rS 12 q (by omega) (by omega), hk 9 (by omega) (by omega) (by omega) (by omega)]; exact R.li q w hq hw
  · rw [rY, hk 9 (by omega) (by omega) (by omega) (by omega)]; exact R.rn q hq
  · rw [rY] at hj
    rw [rS 13 q (by omega) (by omega), hk 10 (by omega) (by omega) (by omega) (by omega)]; exact R.ro q j hq hj
  · rw [lS 6 (by omega), hk 11 (by omega) (by omega) (by omega) (by omega)]; exact R.wd a ha
  · rw [lS 7 (by omega), hk 12 (by omega) (by omega) (by omega) (by omega)]; exact R.mi
  · rw [lS 8 (by omega), hk 12 (by omega) (by omega) (by omega) (by omega)]; exact R.ni
  · rw [lS 9 (by omega), hk 12 (by omega) (by omega) (by omega) (by omega)]; exact R.us
theorem SR_lamp (R : SR nc ns nl np Y S M) {f : Nat → Int32} (h8 : ∀ s w, w < 8 → M' 8 (ix8 s w) = if s = nl then f w else M 8 (ix8 s w)) (hk : ∀ k, k ≠ 0 → k ≠ 3 → k ≠ 8 → M' k = M k) : SR nc ns (nl + 1) np (upA Y 3 (nl + 1)) (up1 S (rk 11 nl) f) M' := by
  have kS : ∀ k, k ≠ rk 11 nl → up1 S (rk 11 nl) f k = S k := fun k h => up1_ne h
  have rS : ∀ g i, g ≠ 11 → g < 16 → up1 S (rk 11 nl) f (rk g i) = S (rk g i) := fun g i hg h2 => kS _ (rk_ne h2 (by omega) hg)
  have lS : ∀ k, k < 10 → up1 S (rk 11 nl) f k = S k := fun k h => kS _ (rk_lo (by omega) h)
  have rY : ∀ i, upA Y 3 (nl + 1) (rk 13 i) = Y (rk 13 i) := fun i => upA_ne (fun e => rk_lo (g := 13) (i := i) (by omega) (by omega) e.symm)
  refine SR.mk ⟨(upA_ne (by omega)).trans R.y1, (upA_ne (by omega)).trans R.y2, upA_eq, (upA_ne (by omega)).trans R.y4, (upA_ne (by omega)).trans R.y5⟩ (fun c hc => ?_) (fun s w hs hw => ?_) (fun l w hl hw => ?_) (fun q w hq hw => ?_) (fun q hq => ?_) (fun q j hq hj => ?_) (fun a ha => ?_) ⟨?_, ?_, ?_⟩
  · rw [lS 1 (by omega), hk 5 (by omega) (by omega) (by omega)]; exact R.hi c hc
  · rw [rS 10 s (by omega) (by omega), hk 6 (by omega) (by omega) (by omega)]; exact R.st s w hs hw
  · rw [h8 l w hw]
    by_cases e : l = nl
    · rw [if_pos e, e, show up1 S (rk 11 nl) f (rk 11 nl) = f from if_pos rfl]
    · rw [if_neg e, kS _ (rk_ne2 e)]; exact R.la l w (by omega) hw
  · rw [rS 12 q (by omega) (by omega), hk 9 (by omega) (by omega) (by omega)]; exact R.li q w hq hw
  · rw [rY, hk 9 (by omega) (by omega) (by omega)]; exact R.rn q hq
  · rw [rY] at hj
    rw [rS 13 q (by omega) (by omega), hk 10 (by omega) (by omega) (by omega)]; exact R.ro q j hq hj
  · rw [lS 6 (by omega), hk 11 (by omega) (by omega) (by omega)]; exact R.wd a ha
  · rw [lS 7 (by omega), hk 12 (by omega) (by omega) (by omega)]; exact R.mi
  · rw [lS 8 (by omega), hk 12 (by omega) (by omega) (by omega)]; exact R.ni
  · rw [lS 9 (by omega), hk 12 (by omega) (by omega) (by omega)]; exact R.us
theorem SR_hire (R : SR nc ns nl np Y S M) {f g : Nat → Int32} (hfg : ∀ w, w < 9 → f w = g (zw w)) (g4 : g 4 = 0) (h9 : ∀ s w, w < 10 → M' 9 (ix10 s w) = if s = np then g w else M 9 (ix10 s w)) (hk : ∀ k, k ≠ 0 → k ≠ 4 → k ≠ 9 → M' k = M k) : SR nc ns nl (np + 1) (upA (upA (upA Y 4 (np + 1)) 5 (np + 1)) (rk 13 np) 0) (up1 (up1 S (rk 12 np) f) (rk 13 np) (fun _ => 0)) M' := by
  have kS : ∀ k, k ≠ rk 12 np → k ≠ rk 13 np → up1 (up1 S (rk 12 np) f) (rk 13 np) (fun _ => 0) k = S k := fun k h h2 => (up1_ne h2).trans (up1_ne h)
  have rS : ∀ g i, g ≠ 12 → g ≠ 13 → g < 16 → up1 (up1 S (rk 12 np) f) (rk 13 np) (fun _ => 0) (rk g i) = S (rk g i) := fun g i h1 h2 h3 => kS _ (rk_ne h3 (by omega) h1) (rk_ne h3 (by omega) h2)
  have lS : ∀ k, k < 10 → up1 (up1 S (rk 12 np) f) (rk 13 np) (fun _ => 0) k = S k := fun k h => kS _ (rk_lo (by omega) h) (rk_lo (by omega) h)
  have lY : ∀ k, k < 10 → k ≠ 4 → k ≠ 5 → (upA (upA (upA Y 4 (np + 1)) 5 (np + 1)) (rk 13 np) 0) k = Y k := fun k h h4 h5 => (upA_ne (rk_lo (by omega) h)).trans ((upA_ne h5).trans (upA_ne h4))
  have rY : ∀ i, i ≠ np → (upA (upA (upA Y 4 (np + 1)) 5 (np + 1)) (rk 13 np) 0) (rk 13 i) = Y (rk 13 i) := fun i hi => (upA_ne (rk_ne2 hi)).trans ((upA_ne (fun e => rk_lo (g := 13) (i := i) (k := 5) (by omega) (by omega) e.symm)).trans (upA_ne (fun e => rk_lo (g := 13) (i := i) (k := 4) (by omega) (by omega) e.symm)))
  refine SR.mk ⟨(lY 1 (by omega) (by omega) (by omega)).trans R.y1, (lY 2 (by omega) (by omega) (by omega)).trans R.y2, (lY 3 (by omega) (by omega) (by omega)).trans R.y3, (upA_ne (rk_lo (by omega) (by omega))).trans ((upA_ne (by omega)).trans upA_eq), (upA_ne (rk_lo (by omega) (by omega))).trans upA_eq⟩ (fun c hc => ?_) (fun s w hs hw => ?_) (fun l w hl hw => ?_) (fun q w hq hw => ?_) (fun q hq => ?_) (fun q j hq hj => ?_) (fun a ha => ?_) ⟨?_, ?_, ?_⟩
  · rw [lS 1 (by omega), hk 5 (by omega) (by omega) (by omega)]; exact R.hi c hc
  · rw [rS 10 s (by omega) (by omega) (by omega), hk 6 (by omega) (by omega) (by omega)]; exact R.st s w hs hw
  · rw [rS 11 l (by omega) (by omega) (by omega), hk 8 (by omega) (by omega) (by omega)]; exact R.la l w hl hw
  · rw [h9 q _ (zw_lt hw)]
    by_cases e : q = np
    · rw [if_pos e, e, show up1 (up1 S (rk 12 np) f) (rk 13 np) (fun _ => 0) (rk 12 np) = f from (up1_ne (rk_ne (by omega) (by omega) (by omega))).trans (if_pos rfl)]; exact hfg w hw
    · rw [if_neg e, kS _ (rk_ne2 e) (rk_ne (by omega) (by omega) (by omega))]; exact R.li q w (by omega) hw
  · rw [h9 q 4 (by omega)]
    by_cases e : q = np
    · rw [if_pos e, e, upA_eq, g4]; exact ⟨rfl, by omega⟩
    · rw [if_neg e, rY q e]; exact R.rn q (by omega)
  · by_cases e : q = np
    · rw [e, upA_eq] at hj; omega
    · rw [rY q e] at hj
      rw [kS _ (rk_ne (by omega) (by omega) (by omega)) (rk_ne2 e), hk 10 (by omega) (by omega) (by omega)]; exact R.ro q j (by omega) hj
  · rw [lS 6 (by omega), hk 11 (by omega) (by omega) (by omega)]; exact R.wd a ha
  · rw [lS 7 (by omega), hk 12 (by omega) (by omega) (by omega)]; exact R.mi
  · rw [lS 8 (by omega), hk 12 (by omega) (by omega) (by omega)]; exact R.ni
  · rw [lS 9 (by omega), hk 12 (by omega) (by omega) (by omega)]; exact R.us
end
