theorem z_cpy8 {f g : Nat → Int32} {n l w : Nat} (hw : w < 8) : va_cpy f g 0 (8 * n) 8 (ix8 l w) = if l = n then f w else g (ix8 l w) := by
  unfold va_cpy ix8
  by_cases h : l = n
  · subst h; rw [if_pos (by omega), if_pos rfl]; congr 1; omega
  · rw [if_neg (by omega), if_neg h]
theorem z_cpy10 {f g : Nat → Int32} {n l w : Nat} (hw : w < 10) : va_cpy f g 0 (10 * n) 10 (ix10 l w) = if l = n then f w else g (ix10 l w) := by
  unfold va_cpy ix10
  by_cases h : l = n
  · subst h; rw [if_pos (by omega), if_pos rfl]; congr 1; omega
  · rw [if_neg (by omega), if_neg h]
theorem z_cpy3 {f g : Nat → Int32} {n l w : Nat} (hw : w < 3) : va_cpy f g 0 (3 * n) 3 (ix3 l w) = if l = n then f w else g (ix3 l w) := by
  unfold va_cpy ix3
  by_cases h : l = n
  · subst h; rw [if_pos (by omega), if_pos rfl]; congr 1; omega
  · rw [if_neg (by omega), if_neg h]
theorem z_xcp {a w m : Nat} {x y : Int32} (hx : x = Int32.ofNat a) (hy : y = Int32.ofNat w) (ha : a + w ≤ m) (hm : m < 1000) : xcp 0 x y w m = true := by
  subst hx; subst hy
  unfold xcp
  apply decide_eq_true
  rw [z_clamp (by omega), z_clamp (by omega)]
  exact ⟨by decide, z_nneg (by omega), z_nneg (by omega), by show 0 + w ≤ w; omega, ha⟩
theorem z_inc {X : St} {k n : Nat} (h : X k 0 = Int32.ofNat n) : some ((up2 X k 0 (X k 0 + 1)) k 0 - 1, up2 X k 0 (X k 0 + 1)) = some (Int32.ofNat n, up2 X k 0 (Int32.ofNat (n + 1))) := by
  rw [h, z_s1, z_up, if_pos rfl, if_pos rfl, z_p1]
def fL (s h : Int32) : Nat → Int32 := upd (upd (upd (upd (upd (upd (upd (upd (fun _ => 0) 0 s) 1 h) 2 0) 3 0) 4 0) 5 0) 6 0) 7 0
theorem z_lamp {T N M : St} (R : ZR T N M) (G F : St) (p1 p2 : Int32) :
    (∃ e M', f2_lamp G N F T p1 p2 = some (.inl e) ∧ f3_lamp M p1 p2 = some (0, M') ∧ ((e = 3 ∧ M' 0 0 = 1) ∨ (e = 1 ∧ M' 0 0 = 2) ∨ (e = 2 ∧ M' 0 0 = 3)) ∧ ZR T N M') ∨
    (∃ r T' M', f2_lamp G N F T p1 p2 = some (.inr (r, T')) ∧ f3_lamp M p1 p2 = some (r, M') ∧ M' 0 0 = 0 ∧ ZR T' N M') := by
  obtain ⟨nc, ns, nl, np, E, B, W⟩ := R
  have l2 := B.l2; have l3 := B.l3; have l4 := B.l4
  have k2 : (up2 M 0 0 0) 2 0 = Int32.ofNat ns := B.k2
  have k3 : (up2 M 0 0 0) 3 0 = Int32.ofNat nl := B.k3
  have F1 : ∀ x, ZR T N (up2 (up2 M 0 0 0) 0 0 x) := fun x => ⟨nc, ns, nl, np, ZE_0 (ZE_0 E), ZB_0 (ZB_0 B), W⟩
  unfold f2_lamp f3_lamp f3_isStreet
  simp only [lt_e]
  rw [E.c3, E.c7, B.k2, B.k3, k2, k3]
  rcases z_idx p1 (n := ns) (by omega) with ⟨h1, h2⟩ | ⟨s, hs, es, h1, h2⟩
  · left
    rw [h1, bx0_l, h2, bd_e, bd_e, if_pos rfl, z_fail, bd2_e]
    exact ⟨_, _, rfl, rfl, .inl ⟨rfl, z_th _ _⟩, F1 1⟩
  · rw [h1, bx0_r, h2, bd_e, bd_e, if_neg (show ¬ (1 : Int32) = 0 by decide)]
    rcases z_rng p2 2 9 with ⟨h3, h4⟩ | ⟨h3, h4, h5, h6⟩
    · left
      rw [h3, bx0_l, h4, bd_e, if_pos rfl, z_fail, bd2_e]
      exact ⟨_, _, rfl, rfl, .inr (.inl ⟨rfl, z_th _ _⟩), F1 2⟩
    · rw [h3, bx0_r, h4, bd_e, if_neg (show ¬ (1 : Int32) = 0 by decide)]
      rcases z_room (n := nl) (m := 20) l3 (by omega) (y := 20) rfl with ⟨r1, r2⟩ | ⟨r1, r2⟩
      · left
        rw [r1, bx0_l, if_pos (by rw [r2]; rfl), z_fail, bd2_e]
        exact ⟨_, _, rfl, rfl, .inr (.inr ⟨rfl, z_th _ _⟩), F1 3⟩
      · right
        have e8 : (8 : Int32) * Int32.ofNat nl = Int32.ofNat (8 * nl) := z_mul
        have hx : xcp 0 (Int32.ofNat (8 * nl)) 8 8 160 = true := z_xcp rfl rfl (by omega) (by omega)
        rw [r1, bx0_r, if_neg (by rw [show (20 : Int32) = Int32.ofNat 20 from rfl, z_inj (by omega) (by omega)]; omega), e8, hx, gd_t, z_clamp (by omega)]
        have hT : f1_addLamp T p1 p2 = some (Int32.ofNat nl, up2 (up2 (up2 T 8 nl p1) 9 nl p2) 7 0 (Int32.ofNat (nl + 1))) := by
          unfold f1_addLamp
          simp only [lt_e]
          rw [E.c7, B.k3, z_xin (by omega) (by omega), gd_t, z_clamp (by omega)]
          have : up2 (up2 T 8 nl p1) 9 nl p2 7 0 = Int32.ofNat nl := by rw [z_up, if_neg (by decide), z_up, if_neg (by decide), E.c7, B.k3]
          rw [this, z_s1]
        rw [hT, bd2_e]
        subst es
        have r3 : (up1 (up2 M 0 0 0) 8 (va_cpy (fL (Int32.ofNat s) p2) ((up2 M 0 0 0) 8) 0 (8 * nl) 8)) 3 0 = Int32.ofNat nl := B.k3
        have row : ∀ l w, w < 8 → (up2 (up1 (up2 M 0 0 0) 8 (va_cpy (fL (Int32.ofNat s) p2) (M 8) 0 (8 * nl) 8)) 3 0 (Int32.ofNat (nl + 1))) 8 (ix8 l w) = if l = nl then fL (Int32.ofNat s) p2 w else M 8 (ix8 l w) := fun l w hw => z_cpy8 hw
        have old : ∀ w, w < 8 → M 8 (ix8 nl w) = 0 := fun w hw => B.zl nl w (by omega) hw
        have rw' : ∀ l w, 2 ≤ w → w < 8 → (up2 (up1 (up2 M 0 0 0) 8 (va_cpy (fL (Int32.ofNat s) p2) (M 8) 0 (8 * nl) 8)) 3 0 (Int32.ofNat (nl + 1))) 8 (ix8 l w) = M 8 (ix8 l w) := by
          intro l w h1 h2
          rw [row l w h2]
          by_cases h : l = nl
          · rw [if_pos h, h, old w h2]
            have : w = 2 ∨ w = 3 ∨ w = 4 ∨ w = 5 ∨ w = 6 ∨ w = 7 := by omega
            rcases this with e | e | e | e | e | e <;> subst e <;> rfl
          · rw [if_neg h]
        refine ⟨Int32.ofNat nl, _, up2 (up1 (up2 M 0 0 0) 8 (va_cpy (fL (Int32.ofNat s) p2) (M 8) 0 (8 * nl) 8)) 3 0 (Int32.ofNat (nl + 1)), rfl, ?_, z_th M 0, nc, ns, nl + 1, np, ?_, ?_, ?_⟩
        · exact z_inc (X := up1 (up2 M 0 0 0) 8 (va_cpy (fL (Int32.ofNat s) p2) (M 8) 0 (8 * nl) 8)) (k := 3) B.k3
        · exact (ZE.mk (E.c0) (E.c3) (by rw [z_up, if_pos rfl, if_pos rfl]; exact (z_up.trans (by rw [if_pos rfl, if_pos rfl])).symm) (E.c12) (E.h1) (E.w11) (E.t4) (E.t5) (E.t6) (fun l => by
              rw [row l 0 (by decide), z_up, if_neg (by decide), z_up, if_neg (by decide), z_up, if_pos rfl]
              by_cases h : l = nl
              · rw [if_pos h, if_pos h]; rfl
              · rw [if_neg h, if_neg h]; exact E.t8 l) (fun l => by
              rw [row l 1 (by decide), z_up, if_neg (by decide), z_up, if_pos rfl]
              by_cases h : l = nl
              · rw [if_pos h, if_pos h]; rfl
              · rw [if_neg h, if_neg h, z_up, if_neg (by decide)]; exact E.t9 l) (fun l => by rw [rw' l 2 (by decide) (by decide)]; exact E.t10 l) (fun l hl => by rw [rw' l 3 (by decide) (by decide)]; exact E.n4 l hl) (fun l hl => by rw [rw' l 4 (by decide) (by decide)]; exact E.n5 l hl) (fun l hl => by rw [rw' l 5 (by decide) (by decide)]; exact E.n6 l hl) (fun l hl => by rw [rw' l 6 (by decide) (by decide)]; exact E.n7 l hl) (fun l hl => by rw [rw' l 7 (by decide) (by decide)]; exact E.n8 l hl) (E.t13) (E.n9) (E.t14) (E.n10) (E.t15) (E.n11) (E.n13) (E.n12) (E.n14) (E.n15) (fun p k hk => by rw [z_up, if_neg (by omega), z_up, if_neg (by omega), z_up, if_neg (by omega)]; exact E.rd p k hk) (E.n0) (E.n1) (E.n2) (fun s' hs' => by
              rw [E.n3 s' hs']
              unfold bsum
              rw [zsum, rw' nl 5 (by decide) (by decide), old 5 (by decide)]
              have : (if (up2 (up1 (up2 M 0 0 0) 8 (va_cpy (fL (Int32.ofNat s) p2) (M 8) 0 (8 * nl) 8)) 3 0 (Int32.ofNat (nl + 1))) 8 (ix8 nl 0) = Int32.ofNat s' then (0 : Int32) else 0) = 0 := by split <;> rfl
              rw [this, Int32.add_zero]
              refine zsum_congr (fun i hi => ?_)
              rw [rw' i 5 (by decide) (by decide), row i 0 (by decide), if_neg (show ¬ i = nl by omega)]) (fun a b ha hb => by rw [z_up, if_neg (by omega), z_up, if_neg (by omega), z_up, if_neg (by omega)]; exact E.wy a b ha hb))
        · exact (ZB.mk (B.k1) (B.k2) (by rw [z_up, if_pos rfl, if_pos rfl]) (B.k4) (B.l1) (B.l2) (by omega) (B.l4) (B.hi) (B.sa) (B.sb) (B.sl) (fun i hi => by
              rw [row i 0 (by decide)]
              by_cases h : i = nl
              · rw [if_pos h]; exact ⟨s, hs, rfl⟩
              · rw [if_neg h]; exact B.lw i (by omega)) (fun i => by rw [rw' i 3 (by decide) (by decide)]; exact B.lo i) (fun i => by rw [rw' i 5 (by decide) (by decide)]; exact B.lb i) (B.wd) (B.ph) (B.pa) (B.pc) (fun p hp => by
              obtain ⟨k, q1, q2, q3, q4⟩ := B.pl p hp
              refine ⟨k, q1, q2, q3, fun i hi => ?_⟩
              obtain ⟨l, hl, e⟩ := q4 i hi
              exact ⟨l, by omega, e⟩) (fun p hp => by
              have := B.pg p hp
              unfold ZG at this ⊢
              rcases this with g | ⟨l, a1, a2, a3, a4, a5, a6⟩
              · exact .inl g
              · refine .inr ⟨l, by omega, a2, ?_, a4, a5, ?_⟩
                · rw [rw' l 5 (by decide) (by decide)]; exact a3
                · rw [rw' l 3 (by decide) (by decide)]; exact a6) (B.pd) (B.mi) (fun i w hi hw => by
              rw [row i w hw, if_neg (by omega)]; exact B.zl i w (by omega) hw) (B.zp) (B.wy))
        · exact ZW_up (ZW_up (ZW_up W (by decide) (by decide)) (by decide) (by decide)) (by decide) (by decide)
def fP (h l o : Int32) : Nat → Int32 := upd (upd (upd (upd (upd (upd (upd (upd (upd (upd (fun _ => 0) 0 h) 1 h) 2 l) 3 o) 4 0) 5 (-1)) 6 0) 7 (-1)) 8 (-1)) 9 0
theorem z_hire {T N M : St} (R : ZR T N M) (G F : St) (p1 p2 p3 : Int32) :
    (∃ e M', f2_hire G N F T p1 p2 p3 = some (.inl e) ∧ f3_hire M p1 p2 p3 = some (0, M') ∧ ((e = 3 ∧ M' 0 0 = 1) ∨ (e = 1 ∧ M' 0 0 = 2) ∨ (e = 2 ∧ M' 0 0 = 3)) ∧ ZR T N M') ∨
    (∃ r N' T' M', f2_hire G N F T p1 p2 p3 = some (.inr (r, N', T')) ∧ f3_hire M p1 p2 p3 = some (r, M') ∧ M' 0 0 = 0 ∧ ZR T' N' M') := by
  obtain ⟨nc, ns, nl, np, E, B, W⟩ := R
  have l1 := B.l1; have l2 := B.l2; have l3 := B.l3; have l4 := B.l4
  have k1 : (up2 M 0 0 0) 1 0 = Int32.ofNat nc := B.k1
  have k4 : (up2 M 0 0 0) 4 0 = Int32.ofNat np := B.k4
  have F1 : ∀ x, ZR T N (up2 (up2 M 0 0 0) 0 0 x) := fun x => ⟨nc, ns, nl, np, ZE_0 (ZE_0 E), ZB_0 (ZB_0 B), W⟩
  unfold f2_hire f3_hire f3_isCorner
  simp only [lt_e]
  rw [E.c0, E.c12, B.k1, B.k4, k1, k4]
  rcases z_idx p1 (n := nc) (by omega) with ⟨h1, h2⟩ | ⟨c, hc, ec, h1, h2⟩
  · left
    rw [h1, bx0_l, h2, bd_e, bd_e, if_pos rfl, z_fail, bd2_e]
    exact ⟨_, _, rfl, rfl, .inl ⟨rfl, z_th _ _⟩, F1 1⟩
  · rw [h1, bx0_r, h2, bd_e, bd_e, if_neg (show ¬ (1 : Int32) = 0 by decide)]
    rcases z_rng p2 1 9 with ⟨h3, h4⟩ | ⟨h3, h4, h5, h6⟩
    · left
      rw [h3, bx0_l, h4, bd_e, if_pos rfl, z_fail, bd2_e]
      exact ⟨_, _, rfl, rfl, .inr (.inl ⟨rfl, z_th _ _⟩), F1 2⟩
    · rw [h3, bx0_r, h4, bd_e, if_neg (show ¬ (1 : Int32) = 0 by decide)]
      rcases z_rng p3 0 999 with ⟨h7, h8⟩ | ⟨h7, h8, h9, h10⟩
      · left
        rw [h7, bx0_l, h8, bd_e, if_pos rfl, z_fail, bd2_e]
        exact ⟨_, _, rfl, rfl, .inr (.inl ⟨rfl, z_th _ _⟩), F1 2⟩
      · rw [h7, bx0_r, h8, bd_e, if_neg (show ¬ (1 : Int32) = 0 by decide)]
        rcases z_room (n := np) (m := 4) l4 (by omega) (y := 4) rfl with ⟨r1, r2⟩ | ⟨r1, r2⟩
        · left
          rw [r1, bx0_l, if_pos (by rw [r2]; rfl), z_fail, bd2_e]
          exact ⟨_, _, rfl, rfl, .inr (.inr ⟨rfl, z_th _ _⟩), F1 3⟩
        · right
          have e10 : (10 : Int32) * Int32.ofNat np = Int32.ofNat (10 * np) := z_mul
          have hx : xcp 0 (Int32.ofNat (10 * np)) 10 10 40 = true := z_xcp rfl rfl (by omega) (by omega)
          obtain ⟨o, _, ho, eo⟩ := z_rngN (lo := 0) (hi := 999) (by omega) (by omega) h9 h10
          rw [r1, bx0_r, if_neg (by rw [show (4 : Int32) = Int32.ofNat 4 from rfl, z_inj (by omega) (by omega)]; omega), e10, hx, gd_t, z_clamp (by omega)]
          have hT : f1_addLighter T p1 p2 = some (Int32.ofNat np, up2 (up2 (up2 T 13 np p1) 14 np p2) 12 0 (Int32.ofNat (np + 1))) := by
            unfold f1_addLighter
            simp only [lt_e]
            rw [E.c12, B.k4, z_xin (by omega) (by omega), gd_t, z_clamp (by omega)]
            have : up2 (up2 T 13 np p1) 14 np p2 12 0 = Int32.ofNat np := by rw [z_up, if_neg (by decide), z_up, if_neg (by decide), E.c12, B.k4]
            rw [this, z_s1]
          rw [hT, bd2_e, z_xin (by omega) (by omega), gd_t, z_clamp (by omega)]
          subst ec
          have hN : f0_sendHome (up2 N 10 np p3) (up2 (up2 (up2 T 13 np (Int32.ofNat c)) 14 np p2) 12 0 (Int32.ofNat (np + 1))) (Int32.ofNat np) = some (up2 (up2 (up2 (up2 (up2 N 10 np p3) 9 np (Int32.ofNat c)) 11 np (-1)) 13 np 0) 14 np (-1)) := by
            unfold f0_sendHome f0_waitFromNow
            rw [z_xin (by omega) (by omega), gd_t, z_clamp (by omega)]
            have : (up2 (up2 (up2 T 13 np (Int32.ofNat c)) 14 np p2) 12 0 (Int32.ofNat (np + 1))) 13 np = Int32.ofNat c := by simp [z_up]
            rw [this]
            simp only [lt_e, gd_t, bd_e]
          rw [hN, bd_e]
          have row : ∀ l w, w < 10 → (up2 (up1 (up2 M 0 0 0) 9 (va_cpy (fP (Int32.ofNat c) p2 p3) (M 9) 0 (10 * np) 10)) 4 0 (Int32.ofNat (np + 1))) 9 (ix10 l w) = if l = np then fP (Int32.ofNat c) p2 p3 w else M 9 (ix10 l w) := fun l w hw => z_cpy10 hw
          have old : ∀ w, w < 10 → M 9 (ix10 np w) = 0 := fun w hw => B.zp np w (by omega) hw
          refine ⟨Int32.ofNat np, _, _, up2 (up1 (up2 M 0 0 0) 9 (va_cpy (fP (Int32.ofNat c) p2 p3) (M 9) 0 (10 * np) 10)) 4 0 (Int32.ofNat (np + 1)), rfl, ?_, z_th M 0, nc, ns, nl, np + 1, ?_, ?_, ?_⟩
          · exact z_inc (X := up1 (up2 M 0 0 0) 9 (va_cpy (fP (Int32.ofNat c) p2 p3) (M 9) 0 (10 * np) 10)) (k := 4) B.k4
          · exact (ZE.mk (E.c0) (E.c3) (E.c7) (by rw [z_up, if_pos rfl, if_pos rfl]; exact (z_up.trans (by rw [if_pos rfl, if_pos rfl])).symm) (E.h1) (E.w11) (E.t4) (E.t5) (E.t6) (E.t8) (E.t9) (E.t10) (E.n4) (E.n5) (E.n6) (E.n7) (E.n8) (fun q => by
                rw [row q 0 (by decide)]
                by_cases h : q = np
                · rw [if_pos h]; simp [z_up, h]; rfl
                · rw [if_neg h]; simp [z_up, h, E.t13]) (fun q hq => by
                rw [row q 1 (by decide)]
                by_cases h : q = np
                · rw [if_pos h]; simp [z_up, h]; rfl
                · rw [if_neg h]; simp [z_up, h, E.n9 q hq]) (fun q => by
                rw [row q 2 (by decide)]
                by_cases h : q = np
                · rw [if_pos h]; simp [z_up, h]; rfl
                · rw [if_neg h]; simp [z_up, h, E.t14]) (fun q hq => by
                rw [row q 3 (by decide)]
                by_cases h : q = np
                · rw [if_pos h]; simp [z_up, h]; rfl
                · rw [if_neg h]; simp [z_up, h, E.n10 q hq]) (fun q => by
                rw [row q 4 (by decide)]
                by_cases h : q = np
                · rw [if_pos h]; simp [z_up, E.t15, h, old]; rfl
                · rw [if_neg h]; simp [z_up, E.t15]) (fun q hq => by
                rw [row q 5 (by decide)]
                by_cases h : q = np
                · rw [if_pos h]; simp [z_up, h]; rfl
                · rw [if_neg h]; simp [z_up, h, E.n11 q hq]) (fun q hq => by
                rw [row q 6 (by decide)]
                by_cases h : q = np
                · rw [if_pos h]; simp [z_up, h]; rfl
                · rw [if_neg h]; simp [z_up, h, E.n13 q hq]) (fun q hq => by
                rw [row q 5 (by decide), row q 7 (by decide)]
                by_cases h : q = np
                · rw [if_pos h]; intro k; exact absurd rfl k
                · rw [if_neg h, if_neg h]; simpa [z_up] using E.n12 q hq) (fun q hq => by
                rw [row q 8 (by decide)]
                by_cases h : q = np
                · rw [if_pos h]; simp [z_up, h]; rfl
                · rw [if_neg h]; simp [z_up, h, E.n14 q hq]) (fun q hq => by
                rw [row q 9 (by decide)]
                by_cases h : q = np
                · subst h; rw [if_pos rfl]; simp [z_up, E.n15 q hq, old]; rfl
                · rw [if_neg h]; simp [z_up, E.n15 q hq]) (fun p k hk => by rw [z_up, if_neg (by omega), z_up, if_neg (by omega), z_up, if_neg (by omega)]; exact E.rd p k hk) (E.n0) (E.n1) (E.n2) (E.n3) (fun a b ha hb => by rw [z_up, if_neg (by omega), z_up, if_neg (by omega), z_up, if_neg (by omega)]; exact E.wy a b ha hb))
          · exact (ZB.mk (B.k1) (B.k2) (B.k3) (by rw [z_up, if_pos rfl, if_pos rfl]) (B.l1) (B.l2) (B.l3) (by omega) (B.hi) (B.sa) (B.sb) (B.sl) (B.lw) (B.lo) (B.lb) (B.wd) (fun q hq => by
                rw [row q 0 (by decide)]
                by_cases h : q = np
                · rw [if_pos h]; exact ⟨c, hc, rfl⟩
                · rw [if_neg h]; exact B.ph q (by omega)) (fun q hq => by
                rw [row q 1 (by decide)]
                by_cases h : q = np
                · rw [if_pos h]; exact ⟨c, hc, rfl⟩
                · rw [if_neg h]; exact B.pa q (by omega)) (fun q => by
                rw [row q 3 (by decide)]
                by_cases h : q = np
                · rw [if_pos h]; exact ⟨o, ho, eo⟩
                · rw [if_neg h]; exact B.pc q) (fun q hq => by
                rw [row q 4 (by decide), row q 8 (by decide)]
                by_cases h : q = np
                · rw [if_pos h, if_pos h]; exact ⟨0, by omega, rfl, .inl rfl, fun i hi => by omega⟩
                · rw [if_neg h, if_neg h]; exact B.pl q (by omega)) (fun q hq => by
                unfold ZG
                rw [row q 5 (by decide), row q 6 (by decide), row q 7 (by decide), row q 3 (by decide)]
                by_cases h : q = np
                · rw [if_pos h]; exact .inl rfl
                · rw [if_neg h, if_neg h, if_neg h, if_neg h]; exact B.pg q (by omega)) (fun q r hq hr' hqr => by
                rw [row q 5 (by decide), row r 5 (by decide)]
                by_cases h : q = np
                · rw [if_pos h]; intro k; exact absurd rfl k
                · rw [if_neg h]
                  by_cases h' : r = np
                  · rw [if_pos h']; intro k; exact k
                  · rw [if_neg h']; exact B.pd q r (by omega) (by omega) hqr) (B.mi) (B.zl) (fun q w hq hw => by
                rw [row q w hw, if_neg (by omega)]; exact B.zp q w (by omega) hw) (B.wy))
          · exact ZW_up (ZW_up (ZW_up W (by decide) (by decide)) (by decide) (by decide)) (by decide) (by decide)
theorem z_idx_ok {i n : Nat} (hi : i < n) (hn : n ≤ 1000) : f2_requireIndex (Int32.ofNat i) (Int32.ofNat n) = some (.inr ()) ∧ f3_isIn (Int32.ofNat i) 0 (Int32.ofNat n - 1) = some 1 := by
  rw [z_isIn]; unfold f2_requireIndex
  simp only [lt_e]
  have h0 := z_nneg (n := i) (by omega)
  rw [if_neg h0, if_neg h0]
  cases n with
  | zero => omega
  | succ n =>
    rw [z_p1, if_pos (by rw [z_lt (by omega) (by omega)]; exact hi), if_neg (by rw [z_lt (by omega) (by omega)]; omega)]
    exact ⟨rfl, rfl⟩
theorem z_toldV {nc ns nl np : Nat} {T N M : St} (E : ZE nc nl T N M) (B : ZB nc ns nl np M) (G F : St) {l i : Nat} (hl : l < nl) (hi : i < 9) :
    ∃ r, f2_told G N F T (Int32.ofNat l) (Int32.ofNat i) = some (.inr r) ∧ f3_lampTold M (Int32.ofNat l) (Int32.ofNat i) = some r := by
  have l3 := B.l3
  have c : i = 0 ∨ i = 1 ∨ i = 2 ∨ i = 3 ∨ i = 4 ∨ i = 5 ∨ i = 6 ∨ i = 7 ∨ i = 8 := by omega
  obtain ⟨g, g1, g2, g3⟩ := z_goer E B (Int32.ofNat l)
  have q1 := (z_idx_ok (i := l) (n := nl) hl (by omega)).1
  have q2 : ∀ x, x = Int32.ofNat i → f2_requireIndex x 9 = some (.inr ()) := fun x hx => by rw [hx]; exact (z_idx_ok (i := i) (n := 9) hi (by omega)).1
  unfold f2_told f3_lampTold
  rw [E.c7, B.k3, q1, bx0_r, q2 _ rfl, bx0_r, z_xin (n := l) (by omega) (by omega), z_clamp (n := l) (by omega)]
  simp only [gd_t]
  rcases c with e | e | e | e | e | e | e | e | e <;> subst e
  · exact ⟨M 8 (ix8 l 0), by rw [if_pos (by decide), E.t8], by rw [if_neg (by decide), show Int32.ofNat 0 = 0 from rfl, z_la0 (by omega), bd_e]⟩
  · exact ⟨M 8 (ix8 l 1), by rw [if_neg (by decide), if_pos (by decide), E.t9], by rw [if_neg (by decide), show Int32.ofNat 1 = 1 from rfl, z_la1 (by omega), bd_e]⟩
  · exact ⟨M 8 (ix8 l 2), by rw [if_neg (by decide), if_neg (by decide), if_pos (by decide), E.t10], by rw [if_neg (by decide), show Int32.ofNat 2 = 2 from rfl, z_la2 (by omega), bd_e]⟩
  · exact ⟨M 8 (ix8 l 3), by rw [if_neg (by decide), if_neg (by decide), if_neg (by decide), if_pos (by decide), E.n4 l (by omega)], by rw [if_neg (by decide), show Int32.ofNat 3 = 3 from rfl, z_la3 (by omega), bd_e]⟩
  · exact ⟨M 8 (ix8 l 4), by rw [if_neg (by decide), if_neg (by decide), if_neg (by decide), if_neg (by decide), if_pos (by decide), E.n5 l (by omega)], by rw [if_neg (by decide), show Int32.ofNat 4 = 4 from rfl, z_la4 (by omega), bd_e]⟩
  · refine ⟨M 8 (ix8 l 5), ?_, by rw [if_neg (by decide), show Int32.ofNat 5 = 5 from rfl, z_la5 (by omega), bd_e]⟩
    rw [if_neg (by decide), if_neg (by decide), if_neg (by decide), if_neg (by decide), if_neg (by decide), if_pos (by decide), E.n6 l (by omega)]
    rcases B.lb l with e | e <;> rw [e] <;> rfl
  · refine ⟨g, ?_, ?_⟩
    · rw [if_neg (by decide), if_neg (by decide), if_neg (by decide), if_neg (by decide), if_neg (by decide), if_neg (by decide), if_pos (by decide), g1, bd_e]
    · rw [if_pos (by decide), if_pos (by decide), g2, bd_e]
  · refine ⟨M 8 (ix8 l 6), ?_, ?_⟩
    · rw [if_neg (by decide), if_neg (by decide), if_neg (by decide), if_neg (by decide), if_neg (by decide), if_neg (by decide), if_neg (by decide), if_pos (by decide), E.n7 l (by omega)]
    · rw [if_pos (by decide), if_neg (by decide), show Int32.ofNat 7 - 1 = 6 by decide, z_la6 (by omega), bd_e]
  · refine ⟨M 8 (ix8 l 7), ?_, ?_⟩
    · rw [if_neg (by decide), if_neg (by decide), if_neg (by decide), if_neg (by decide), if_neg (by decide), if_neg (by decide), if_neg (by decide), if_neg (by decide), E.n8 l (by omega)]
    · rw [if_pos (by decide), if_neg (by decide), show Int32.ofNat 8 - 1 = 7 by decide, z_la7 (by omega), bd_e]
theorem z_lighterV {nc ns nl np : Nat} {T N M : St} (E : ZE nc nl T N M) (B : ZB nc ns nl np M) (G F : St) {p i : Nat} (hp : p < np) (hi : i < 7) :
    ∃ r, f2_lighter G N F T (Int32.ofNat p) (Int32.ofNat i) = some (.inr r) ∧ f3_lighterTold M (Int32.ofNat p) (Int32.ofNat i) = some r := by
  have l4 := B.l4
  have c : i = 0 ∨ i = 1 ∨ i = 2 ∨ i = 3 ∨ i = 4 ∨ i = 5 ∨ i = 6 := by omega
  have q1 := (z_idx_ok (i := p) (n := np) hp (by omega)).1
  have q2 : ∀ x, x = Int32.ofNat i → f2_requireIndex x 7 = some (.inr ()) := fun x hx => by rw [hx]; exact (z_idx_ok (i := i) (n := 7) hi (by omega)).1
  unfold f2_lighter f3_lighterTold
  rw [E.c12, B.k4, q1, bx0_r, q2 _ rfl, bx0_r, z_xin (n := p) (by omega) (by omega), z_clamp (n := p) (by omega), z_pe1 (by omega), z_pe2 (by omega), z_pe3 (by omega), z_pe4 (by omega), z_pe5 (by omega), z_pe6 (by omega), z_pe9 (by omega)]
  simp only [gd_t, bd_e, lt_e]
  rw [z_xin (n := i) (by omega) (by omega), gd_t, z_clamp (n := i) (by omega)]
  rcases c with e | e | e | e | e | e | e <;> subst e
  · exact ⟨M 9 (ix10 p 1), by rw [if_pos (by decide), E.n9 p (by omega)], rfl⟩
  · exact ⟨M 9 (ix10 p 2), by rw [if_neg (by decide), if_pos (by decide), E.t14], rfl⟩
  · exact ⟨M 9 (ix10 p 3), by rw [if_neg (by decide), if_neg (by decide), if_pos (by decide), E.n10 p (by omega)], rfl⟩
  · exact ⟨M 9 (ix10 p 4), by rw [if_neg (by decide), if_neg (by decide), if_neg (by decide), if_pos (by decide), E.t15], rfl⟩
  · exact ⟨M 9 (ix10 p 5), by rw [if_neg (by decide), if_neg (by decide), if_neg (by decide), if_neg (by decide), if_pos (by decide), E.n11 p (by omega)], rfl⟩
  · exact ⟨M 9 (ix10 p 6), by rw [if_neg (by decide), if_neg (by decide), if_neg (by decide), if_neg (by decide), if_neg (by decide), if_pos (by decide), E.n13 p (by omega)], rfl⟩
  · exact ⟨M 9 (ix10 p 9), by rw [if_neg (by decide), if_neg (by decide), if_neg (by decide), if_neg (by decide), if_neg (by decide), if_neg (by decide), E.n15 p (by omega)], rfl⟩
theorem z_burningV {nc ns nl np : Nat} {T N M : St} (E : ZE nc nl T N M) (B : ZB nc ns nl np M) (G F : St) {s : Nat} (hs : s < ns) :
    f2_burning G N F T (Int32.ofNat s) = some (.inr (bsum M nl s)) := by
  have l2 := B.l2
  unfold f2_burning
  rw [E.c3, B.k2, (z_idx_ok (i := s) (n := ns) hs (by omega)).1, bx0_r, z_xin (by omega) (by omega), gd_t, z_clamp (by omega), E.n3 s (by omega)]
theorem z_countV {nc ns nl np : Nat} {T N M : St} (E : ZE nc nl T N M) (B : ZB nc ns nl np M) (G F : St) {i : Nat} (hi : i < 10) :
    ∃ r, f2_count G N F T (Int32.ofNat i) = some (.inr r) ∧ f3_counted M (Int32.ofNat i) = some r := by
  have c : i = 0 ∨ i = 1 ∨ i = 2 ∨ i = 3 ∨ i = 4 ∨ i = 5 ∨ i = 6 ∨ i = 7 ∨ i = 8 ∨ i = 9 := by omega
  have q2 : ∀ x, x = Int32.ofNat i → f2_requireIndex x 10 = some (.inr ()) := fun x hx => by rw [hx]; exact (z_idx_ok (i := i) (n := 10) hi (by omega)).1
  have a5 := z_all (w := 5) (x := 5) rfl (by decide) B
  have a3 := z_all (w := 3) (x := 3) rfl (by decide) B
  have ⟨d1, d2⟩ := z_dark E B
  have b5 := z_bl E B
  have o3 := z_oil E B
  unfold f2_count f3_counted
  rw [q2 _ rfl, bx0_r, a5, d2, a3, b5, d1, o3]
  simp only [gd_t, bd_e, lt_e]
  rw [z_xin (n := i) (by omega) (by omega), gd_t, z_clamp (n := i) (by omega)]
  rcases c with e | e | e | e | e | e | e | e | e | e <;> subst e
  · exact ⟨M 12 0, by rw [if_pos (by decide), E.n0], rfl⟩
  · exact ⟨M 12 1, by rw [if_neg (by decide), if_pos (by decide), E.n1], rfl⟩
  · exact ⟨M 1 0, by rw [if_neg (by decide), if_neg (by decide), if_pos (by decide), E.c0], rfl⟩
  · exact ⟨M 2 0, by rw [if_neg (by decide), if_neg (by decide), if_neg (by decide), if_pos (by decide), E.c3], rfl⟩
  · exact ⟨M 3 0, by rw [if_neg (by decide), if_neg (by decide), if_neg (by decide), if_neg (by decide), if_pos (by decide), E.c7], rfl⟩
  · exact ⟨zsum (fun l => M 8 (ix8 l 5)) nl, by rw [if_neg (by decide), if_neg (by decide), if_neg (by decide), if_neg (by decide), if_neg (by decide), if_pos (by decide)], rfl⟩
  · exact ⟨zdk M nl ns, by rw [if_neg (by decide), if_neg (by decide), if_neg (by decide), if_neg (by decide), if_neg (by decide), if_neg (by decide), if_pos (by decide)], rfl⟩
  · exact ⟨M 4 0, by rw [if_neg (by decide), if_neg (by decide), if_neg (by decide), if_neg (by decide), if_neg (by decide), if_neg (by decide), if_neg (by decide), if_pos (by decide), E.c12], rfl⟩
  · exact ⟨zsum (fun l => M 8 (ix8 l 3)) nl, by rw [if_neg (by decide), if_neg (by decide), if_neg (by decide), if_neg (by decide), if_neg (by decide), if_neg (by decide), if_neg (by decide), if_neg (by decide), if_pos (by decide)], rfl⟩
  · exact ⟨M 12 2, by rw [if_neg (by decide), if_neg (by decide), if_neg (by decide), if_neg (by decide), if_neg (by decide), if_neg (by decide), if_neg (by decide), if_neg (by decide), if_neg (by decide), E.n2], rfl⟩
def ZQ (T N M : St) (c : Option (Nat ⊕ Int32)) (m : Option (Int32 × St)) : Prop :=
  (∃ e M', c = some (.inl e) ∧ m = some (0, M') ∧ (e = 3 ∧ M' 0 0 = 1) ∧ ZR T N M') ∨ (∃ r M', c = some (.inr r) ∧ m = some (r, M') ∧ M' 0 0 = 0 ∧ ZR T N M')
theorem z_told {T N M : St} (R : ZR T N M) (G F : St) (p1 p2 : Int32) : ZQ T N M (f2_told G N F T p1 p2) (f3_told M p1 p2) := by
  obtain ⟨nc, ns, nl, np, E, B, W⟩ := R
  have l3 := B.l3
  have k3 : (up2 M 0 0 0) 3 0 = Int32.ofNat nl := B.k3
  have F1 : ∀ x, ZR T N (up2 (up2 M 0 0 0) 0 0 x) := fun x => ⟨nc, ns, nl, np, ZE_0 (ZE_0 E), ZB_0 (ZB_0 B), W⟩
  unfold f3_told f3_isLamp
  simp only [lt_e]
  rw [k3]
  rcases z_idx p1 (n := nl) (by omega) with ⟨h1, h2⟩ | ⟨l, hl, el, h1, h2⟩
  · left
    rw [h2, bd_e, bd_e, if_pos rfl, z_fail, bd2_e]
    refine ⟨3, _, ?_, rfl, ⟨rfl, z_th _ _⟩, F1 1⟩
    unfold f2_told; rw [E.c7, B.k3, h1, bx0_l]
  · rw [h2, bd_e, bd_e, if_neg (show ¬ (1 : Int32) = 0 by decide)]
    rcases z_idx p2 (n := 9) (by omega) with ⟨h3, h4⟩ | ⟨i, hi, ei, h3, h4⟩
    · left
      have h4' : f3_isIn p2 0 8 = some 0 := h4
      rw [h4', bd_e, if_pos rfl, z_fail, bd2_e]
      refine ⟨3, _, ?_, rfl, ⟨rfl, z_th _ _⟩, F1 1⟩
      unfold f2_told; rw [E.c7, B.k3, h1, bx0_r, show (9 : Int32) = Int32.ofNat 9 from rfl, h3, bx0_l]
    · right
      have h4' : f3_isIn p2 0 8 = some 1 := h4
      subst el; subst ei
      obtain ⟨r, r1, r2⟩ := z_toldV (ZE_0 (x := 0) E) (ZB_0 B) G F hl hi
      rw [h4', bd_e, if_neg (show ¬ (1 : Int32) = 0 by decide), r2, bd_e]
      exact ⟨r, _, r1, rfl, z_th M 0, nc, ns, nl, np, ZE_0 E, ZB_0 B, W⟩
theorem z_lighter {T N M : St} (R : ZR T N M) (G F : St) (p1 p2 : Int32) : ZQ T N M (f2_lighter G N F T p1 p2) (f3_lighter M p1 p2) := by
  obtain ⟨nc, ns, nl, np, E, B, W⟩ := R
  have l4 := B.l4
  have k4 : (up2 M 0 0 0) 4 0 = Int32.ofNat np := B.k4
  have F1 : ∀ x, ZR T N (up2 (up2 M 0 0 0) 0 0 x) := fun x => ⟨nc, ns, nl, np, ZE_0 (ZE_0 E), ZB_0 (ZB_0 B), W⟩
  unfold f3_lighter f3_isLighter
  simp only [lt_e]
  rw [k4]
  rcases z_idx p1 (n := np) (by omega) with ⟨h1, h2⟩ | ⟨l, hl, el, h1, h2⟩
  · left
    rw [h2, bd_e, bd_e, if_pos rfl, z_fail, bd2_e]
    refine ⟨3, _, ?_, rfl, ⟨rfl, z_th _ _⟩, F1 1⟩
    unfold f2_lighter; rw [E.c12, B.k4, h1, bx0_l]
  · rw [h2, bd_e, bd_e, if_neg (show ¬ (1 : Int32) = 0 by decide)]
    rcases z_idx p2 (n := 7) (by omega) with ⟨h3, h4⟩ | ⟨i, hi, ei, h3, h4⟩
    · left
      have h4' : f3_isIn p2 0 6 = some 0 := h4
      rw [h4', bd_e, if_pos rfl, z_fail, bd2_e]
      refine ⟨3, _, ?_, rfl, ⟨rfl, z_th _ _⟩, F1 1⟩
      unfold f2_lighter; rw [E.c12, B.k4, h1, bx0_r, show (7 : Int32) = Int32.ofNat 7 from rfl, h3, bx0_l]
    · right
      have h4' : f3_isIn p2 0 6 = some 1 := h4
      subst el; subst ei
      obtain ⟨r, r1, r2⟩ := z_lighterV (ZE_0 (x := 0) E) (ZB_0 B) G F hl hi
      rw [h4', bd_e, if_neg (show ¬ (1 : Int32) = 0 by decide), r2, bd_e]
      exact ⟨r, _, r1, rfl, z_th M 0, nc, ns, nl, np, ZE_0 E, ZB_0 B, W⟩
theorem z_burning {T N M : St} (R : ZR T N M) (G F : St) (p1 : Int32) : ZQ T N M (f2_burning G N F T p1) (f3_burning M p1) := by
  obtain ⟨nc, ns, nl, np, E, B, W⟩ := R
  have l2 := B.l2
  have k2 : (up2 M 0 0 0) 2 0 = Int32.ofNat ns := B.k2
  have F1 : ∀ x, ZR T N (up2 (up2 M 0 0 0) 0 0 x) := fun x => ⟨nc, ns, nl, np, ZE_0 (ZE_0 E), ZB_0 (ZB_0 B), W⟩
  unfold f3_burning f3_isStreet
  simp only [lt_e]
  rw [k2]
  rcases z_idx p1 (n := ns) (by omega) with ⟨h1, h2⟩ | ⟨s, hs, es, h1, h2⟩
  · left
    rw [h2, bd_e, bd_e, if_pos rfl, z_fail, bd2_e]
    refine ⟨3, _, ?_, rfl, ⟨rfl, z_th _ _⟩, F1 1⟩
    unfold f2_burning; rw [E.c3, B.k2, h1, bx0_l]
  · right
    subst es
    rw [h2, bd_e, bd_e, if_neg (show ¬ (1 : Int32) = 0 by decide), z_burns (ZB_0 (x := 0) B), bd_e]
    exact ⟨_, _, z_burningV (ZE_0 (x := 0) E) (ZB_0 B) G F hs, rfl, z_th M 0, nc, ns, nl, np, ZE_0 E, ZB_0 B, W⟩
theorem z_count {T N M : St} (R : ZR T N M) (G F : St) (p1 : Int32) : ZQ T N M (f2_count G N F T p1) (f3_count M p1) := by
  obtain ⟨nc, ns, nl, np, E, B, W⟩ := R
  have F1 : ∀ x, ZR T N (up2 (up2 M 0 0 0) 0 0 x) := fun x => ⟨nc, ns, nl, np, ZE_0 (ZE_0 E), ZB_0 (ZB_0 B), W⟩
  unfold f3_count
  simp only [lt_e]
  rcases z_idx p1 (n := 10) (by omega) with ⟨h1, h2⟩ | ⟨i, hi, ei, h1, h2⟩
  · left
    have h2' : f3_isIn p1 0 9 = some 0 := h2
    rw [h2', bd_e, if_pos rfl, z_fail, bd2_e]
    refine ⟨3, _, ?_, rfl, ⟨rfl, z_th _ _⟩, F1 1⟩
    unfold f2_count; rw [show (10 : Int32) = Int32.ofNat 10 from rfl, h1, bx0_l]
  · right
    have h2' : f3_isIn p1 0 9 = some 1 := h2
    subst ei
    obtain ⟨r, r1, r2⟩ := z_countV (ZE_0 (x := 0) E) (ZB_0 B) G F hi
    rw [h2', bd_e, if_neg (show ¬ (1 : Int32) = 0 by decide), r2, bd_e]
    exact ⟨r, _, r1, rfl, z_th M 0, nc, ns, nl, np, ZE_0 E, ZB_0 B, W⟩
theorem z_way {T N M : St} (R : ZR T N M) (G F : St) (p1 p2 : Int32) : ZQ T N M (f2_way G N F T p1 p2) (f3_way M p1 p2) := by
  obtain ⟨nc, ns, nl, np, E, B, W⟩ := R
  have l1 := B.l1
  have k1 : (up2 M 0 0 0) 1 0 = Int32.ofNat nc := B.k1
  have F1 : ∀ x, ZR T N (up2 (up2 M 0 0 0) 0 0 x) := fun x => ⟨nc, ns, nl, np, ZE_0 (ZE_0 E), ZB_0 (ZB_0 B), W⟩
  unfold f2_way f3_way f3_isCorner
  simp only [lt_e]
  rw [E.c0, B.k1, k1]
  rcases z_idx p1 (n := nc) (by omega) with ⟨h1, h2⟩ | ⟨a, ha, ea, h1, h2⟩
  · left
    rw [h1, bx0_l, h2, bd_e, bd_e, if_pos rfl, z_fail, bd2_e]
    exact ⟨_, _, rfl, rfl, ⟨rfl, z_th _ _⟩, F1 1⟩
  · rw [h1, bx0_r, h2, bd_e, bd_e, if_neg (show ¬ (1 : Int32) = 0 by decide)]
    rcases z_idx p2 (n := nc) (by omega) with ⟨h3, h4⟩ | ⟨b, hb, eb, h3, h4⟩
    · left
      rw [h3, bx0_l, h4, bd_e, bd_e, if_pos rfl, z_fail, bd2_e]
      exact ⟨_, _, rfl, rfl, ⟨rfl, z_th _ _⟩, F1 1⟩
    · right
      subst ea; subst eb
      obtain ⟨d, hd, ed⟩ := B.wy a b ha hb
      have e7 : (up2 M 0 0 0) 7 (ix12 a b) = Int32.ofNat d := ed
      rw [h3, bx0_r, h4, bd_e, bd_e, if_neg (show ¬ (1 : Int32) = 0 by decide), z_xin (by omega) (by omega), z_xin (by omega) (by omega), gd_t, gd_t, z_clamp (by omega), z_clamp (by omega), E.wy a b ha hb, ed, z_wcls hd, z_away (by omega) (by omega), bd_e, bd_e, e7, z_min hd, z_l9999, z_lM, z_ieq (by omega) (by omega)]
      by_cases h : d = 9999
      · rw [if_pos h, if_pos h, if_pos (Int32.le_refl _)]
        exact ⟨_, _, rfl, rfl, z_th M 0, nc, ns, nl, np, ZE_0 E, ZB_0 B, W⟩
      · rw [if_neg h, if_neg h, if_neg (by rw [z_le (by omega) (by omega)]; omega)]
        exact ⟨_, _, rfl, rfl, z_th M 0, nc, ns, nl, np, ZE_0 E, ZB_0 B, W⟩
