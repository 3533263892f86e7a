theorem z_cl {n : Nat} {x : Int32} (hn : n < 2147483648) (h : x = Int32.ofNat n) : x.toNatClampNeg = n := by rw [h, z_clamp hn]
theorem zT_of {nc ns nl np : Nat} {T N M : St} (E : ZE 0 nl T N M) (B : ZB nc ns nl np M) : zT nc ns T M := by
  have l1 := B.l1
  refine (zT.mk (B.k1) (B.k2) (B.l1) (B.l2) (fun s hs => ?_) (fun s hs => ?_) (fun s hs => ?_) (fun c => ?_) (fun c => ?_) (fun s hs => ?_) (fun s hs => ?_))
  · obtain ⟨a, ha, e⟩ := B.sa s hs; unfold eA; rw [E.t4, e, z_clamp (by omega)]
  · obtain ⟨a, ha, e⟩ := B.sb s hs; unfold eB; rw [E.t5, e, z_clamp (by omega)]
  · obtain ⟨a, h1, h2, e⟩ := B.sl s hs; rw [E.t6, e, z_clamp (by omega)]
  · obtain ⟨a, h1, e⟩ := B.hi c; rw [E.h1, e, z_clamp (by omega)]
  · obtain ⟨a, h1, e⟩ := B.hi c; rw [E.h1, e, z_clamp (by omega)]; exact h1
  · obtain ⟨a, h1, h2, e⟩ := B.sl s hs; rw [E.t6, e, z_clamp (by omega)]; exact h2
  · obtain ⟨a, ha, e⟩ := B.sa s hs
    obtain ⟨b, hb, e'⟩ := B.sb s hs
    unfold eA eB; rw [E.t4, e, E.t5, e', z_clamp (by omega), z_clamp (by omega)]; exact ⟨ha, hb⟩
theorem ZE_n {n0 nl : Nat} {T N M : St} (E : ZE n0 nl T N M) : ZE 0 nl T N M := (ZE.mk (E.c0) (E.c3) (E.c7) (E.c12) (E.h1) (E.w11) (E.t4) (E.t5) (E.t6) (E.t8) (E.t9) (E.t10) (E.n4) (E.n5) (E.n6) (E.n7) (E.n8) (E.t13) (E.n9) (E.t14) (E.n10) (E.t15) (E.n11) (E.n13) (E.n12) (E.n14) (E.n15) (E.rd) (E.n0) (E.n1) (E.n2) (E.n3) (fun a b ha hb => absurd ha (by omega)))
theorem z_c14 {nc : Nat} (hn : nc < 12) {K : St → Option (Int32 × St)} : ∀ (fu i : Nat) (T : St), i ≤ nc → nc - i < fu →
    ∃ T', f1_addCorner_L14 (Int32.ofNat nc) K fu (Int32.ofNat i) T = K T' ∧ zTO T T' ∧ ∀ x y, x < 12 → y < 12 → T' (100 + x) y = if (x = nc ∧ i ≤ y ∧ y < nc) ∨ (y = nc ∧ i ≤ x ∧ x < nc) then 1000000 else T (100 + x) y := by
  intro fu
  induction fu with
  | zero => intro i T h1 h2; omega
  | succ fu ih =>
    intro i T h1 h2
    by_cases h : nc ≤ i
    · refine ⟨T, ?_, zTO_refl T, fun x y hx hy => ?_⟩
      · rw [f1_addCorner_L14, if_pos (by rw [z_le (by omega) (by omega)]; exact h)]
      · rw [if_neg (by omega)]
    · obtain ⟨T', a1, a2, a3⟩ := ih (i + 1) (up2 (up2 T (100 + nc) i 1000000) (100 + i) nc 1000000) (by omega) (by omega)
      refine ⟨T', ?_, zTO_trans (zTO_trans (zTO_up T (a := nc) (by omega) _ _) (zTO_up _ (a := i) (by omega) _ _)) a2, fun x y hx hy => ?_⟩
      · rw [f1_addCorner_L14, if_neg (by rw [z_le (by omega) (by omega)]; exact h), z_xin (by omega) (by omega), gd_t, z_xin (by omega) (by omega), gd_t, z_clamp (by omega), z_clamp (by omega), lt_e, lt_e, z_s1]; exact a1
      · rw [a3 x y hx hy]
        by_cases c : (x = nc ∧ i + 1 ≤ y ∧ y < nc) ∨ (y = nc ∧ i + 1 ≤ x ∧ x < nc)
        · rw [if_pos c, if_pos (by omega)]
        · rw [if_neg c, z_up, z_up, z_up]
          by_cases c1 : x = i ∧ y = nc
          · rw [if_pos (show 100 + x = 100 + i by omega), if_pos c1.2, if_pos (show (x = nc ∧ i ≤ y ∧ y < nc) ∨ (y = nc ∧ i ≤ x ∧ x < nc) by omega)]
          · by_cases c2 : x = nc ∧ y = i
            · rw [if_neg (show ¬ 100 + x = 100 + i by omega), if_pos (show 100 + x = 100 + nc by omega), if_pos c2.2, if_pos (show (x = nc ∧ i ≤ y ∧ y < nc) ∨ (y = nc ∧ i ≤ x ∧ x < nc) by omega)]
            · rw [if_neg (show ¬ ((x = nc ∧ i ≤ y ∧ y < nc) ∨ (y = nc ∧ i ≤ x ∧ x < nc)) by omega)]
              by_cases d1 : x = i
              · subst d1
                rw [if_pos rfl, if_neg (show ¬ y = nc from fun e => c1 ⟨rfl, e⟩), if_neg (show ¬ 100 + x = 100 + nc by omega)]
              · rw [if_neg (show ¬ 100 + x = 100 + i by omega)]
                by_cases d2 : x = nc
                · subst d2
                  rw [if_pos rfl, if_neg (show ¬ y = i from fun e => c2 ⟨rfl, e⟩)]
                · rw [if_neg (show ¬ 100 + x = 100 + nc by omega)]
theorem z_cornerO {T N M : St} (R : ZR T N M) (G F : St) (p1 : Int32) :
    (∃ e M', f2_corner G N F T p1 = some (.inl e) ∧ f3_corner M p1 = some (0, M') ∧ ((e = 1 ∧ M' 0 0 = 1) ∨ (e = 2 ∧ M' 0 0 = 2)) ∧ ZR T N M') ∨
    (∃ r T' M', f2_corner G N F T p1 = some (.inr (r, T')) ∧ f3_corner M p1 = some (r, M') ∧ M' 0 0 = 0 ∧ ZR T' N M') := by
  obtain ⟨nc, ns, nl, np, E, B, W⟩ := R
  have l1 := B.l1
  have F1 : ∀ x, ZR T N (up2 (up2 M 0 0 0) 0 0 x) := fun x => ⟨nc, ns, nl, np, ZE_0 (ZE_0 E), ZB_0 (ZB_0 B), W⟩
  have k1 : (up2 M 0 0 0) 1 0 = Int32.ofNat nc := B.k1
  unfold f2_corner f3_corner
  rw [lt_e, E.c0, B.k1, k1]
  rcases z_rng p1 0 30 with ⟨h3, h4⟩ | ⟨h3, h4, h5, h6⟩
  · left
    rw [h3, bx0_l, h4, bd_e, if_pos rfl, z_fail, bd2_e]
    exact ⟨_, _, rfl, rfl, .inl ⟨rfl, z_th _ _⟩, F1 1⟩
  · rw [h3, bx0_r, h4, bd_e, if_neg (show ¬ (1 : Int32) = 0 by decide)]
    rcases z_room (n := nc) (m := 12) l1 (by omega) (y := 12) rfl with ⟨r1, r2⟩ | ⟨r1, r2⟩
    · left
      rw [r1, bx0_l, if_pos (by rw [r2]; rfl), z_fail, bd2_e]
      exact ⟨_, _, rfl, rfl, .inr ⟨rfl, z_th _ _⟩, F1 2⟩
    · right
      obtain ⟨h, _, hh, eh⟩ := z_rngN (lo := 0) (hi := 30) (by omega) (by omega) h5 h6
      rw [r1, bx0_r, if_neg (by rw [show (12 : Int32) = Int32.ofNat 12 from rfl, z_inj (by omega) (by omega)]; omega), z_xin (by omega) (by omega), gd_t, z_clamp (by omega), lt_e, lt_e]
      obtain ⟨T1, a1, a2, a3⟩ := z_c14 r2 (K := fun (T6 : St) => gd true <| lt_ (up2 T6 (100 + nc) nc 0) fun T12 => lt_ (up2 T12 0 0 ((T12 0 0) + 1)) fun T13 => some (Int32.ofNat nc, T13)) xF 0 (up2 T 1 nc p1) (by omega) (by unfold xF; omega)
      have t0 : T1 0 0 = Int32.ofNat nc := by rw [a2 0 (by omega), z_up, if_neg (by decide), E.c0, B.k1]
      have hC : f1_addCorner T p1 = some (Int32.ofNat nc, up2 (up2 T1 (100 + nc) nc 0) 0 0 (Int32.ofNat (nc + 1))) := by
        unfold f1_addCorner
        rw [lt_e, E.c0, B.k1, z_xin (by omega) (by omega), gd_t, z_clamp (by omega), lt_e]
        refine a1.trans ?_
        rw [gd_t, lt_e, lt_e]
        have : (up2 T1 (100 + nc) nc 0) 0 0 = Int32.ofNat nc := by rw [z_up, if_neg (by omega), t0]
        rw [this, z_s1]
      rw [hC, bd2_e]
      have e1 : (up2 (up2 M 0 0 0) 5 nc p1) 1 0 + 1 = Int32.ofNat (nc + 1) := by rw [show (up2 (up2 M 0 0 0) 5 nc p1) 1 0 = Int32.ofNat nc from B.k1, z_s1]
      rw [e1]
      have EA : ZE 0 nl (up2 (up2 T 1 nc p1) 0 0 (Int32.ofNat (nc + 1))) N (up2 (up2 (up2 M 0 0 0) 5 nc p1) 1 0 (Int32.ofNat (nc + 1))) :=
        (ZE.mk (by simp [z_up]) (E.c3) (E.c7) (E.c12) (by funext c; simp [z_up, E.h1]) (E.w11) (E.t4) (E.t5) (E.t6) (E.t8) (E.t9) (E.t10) (E.n4) (E.n5) (E.n6) (E.n7) (E.n8) (E.t13) (E.n9) (E.t14) (E.n10) (E.t15) (E.n11) (E.n13) (E.n12) (E.n14) (E.n15) (fun p k hk => by rw [z_up, if_neg (by omega), z_up, if_neg (by omega)]; exact E.rd p k hk) (E.n0) (E.n1) (E.n2) (E.n3) (fun a b ha hb => absurd ha (by omega)))
      have hic : ∀ c, ∃ h, h ≤ 30 ∧ (up2 (up2 (up2 M 0 0 0) 5 nc p1) 1 0 (Int32.ofNat (nc + 1))) 5 c = Int32.ofNat h := by
        intro c
        by_cases e : c = nc
        · exact ⟨h, hh, by simp [z_up, e, eh]⟩
        · simpa [z_up, e] using B.hi c
      have ZT1 : zT (nc + 1) ns (up2 (up2 T 1 nc p1) 0 0 (Int32.ofNat (nc + 1))) (up2 (up2 (up2 M 0 0 0) 5 nc p1) 1 0 (Int32.ofNat (nc + 1))) := by
        have Z0 := zT_of (ZE_n E) B
        refine (zT.mk (by simp [z_up]) (B.k2) (by omega) (B.l2) (Z0.ra) (Z0.rb) (Z0.rl) (fun c => ?_) (fun c => ?_) (Z0.hl) (fun s hs => ?_))
        · obtain ⟨h, h1, e⟩ := hic c
          rw [← EA.h1] at e
          rw [show (up2 (up2 T 1 nc p1) 0 0 (Int32.ofNat (nc + 1))) 1 c = _ from e, z_clamp (by omega), ← EA.h1]; exact e
        · obtain ⟨h, h1, e⟩ := hic c
          rw [← EA.h1] at e
          rw [show (up2 (up2 T 1 nc p1) 0 0 (Int32.ofNat (nc + 1))) 1 c = _ from e, z_clamp (by omega)]; exact h1
        · have := Z0.he s hs; unfold eA eB at this ⊢; exact ⟨Nat.lt_succ_of_lt this.1, Nat.lt_succ_of_lt this.2⟩
      have oT : zTO (up2 (up2 T 1 nc p1) 0 0 (Int32.ofNat (nc + 1))) (up2 (up2 T1 (100 + nc) nc 0) 0 0 (Int32.ofNat (nc + 1))) := by
        intro k hk
        funext j
        rw [z_up, z_up, z_up, if_neg (show ¬ k = 100 + nc by omega), if_neg (show ¬ (0 : Nat) = 100 + nc by omega), a2 0 (by omega), a2 k hk]
        exact z_up.symm
      obtain ⟨M2, m, b1, b2, b3, b4⟩ := z_reckon ZT1
      rw [b1, bd_e]
      obtain ⟨t, R, D⟩ := W
      have Z0 := zT_of (ZE_n E) B
      have D1 : zD 1000000 (nc + 1) ns (up2 (up2 T 1 nc p1) 0 0 (Int32.ofNat (nc + 1))) (fun x y => if x < nc ∧ y < nc then t x y else if x = y then 0 else 1000000) := by
        refine zD_corner D Z0.he rfl rfl (fun s a b ha hb => ?_)
        have q : ∀ c, c < nc → (up2 (up2 T 1 nc p1) 0 0 (Int32.ofNat (nc + 1))) 1 c = T 1 c := by
          intro c hc; rw [z_up, if_neg (by decide), z_up, if_pos rfl, if_neg (by omega)]
        unfold zwt; rw [q a ha, q b hb]; rfl
      have cong : ∀ m', ∀ C, zD C (nc + 1) ns (up2 (up2 T 1 nc p1) 0 0 (Int32.ofNat (nc + 1))) m' → zD C (nc + 1) ns (up2 (up2 T1 (100 + nc) nc 0) 0 0 (Int32.ofNat (nc + 1))) m' := by
        intro m' C D'
        have ea : eA (up2 (up2 T1 (100 + nc) nc 0) 0 0 (Int32.ofNat (nc + 1))) = eA (up2 (up2 T 1 nc p1) 0 0 (Int32.ofNat (nc + 1))) := by funext s; unfold eA; rw [oT 4 (by omega)]
        have eb : eB (up2 (up2 T1 (100 + nc) nc 0) 0 0 (Int32.ofNat (nc + 1))) = eB (up2 (up2 T 1 nc p1) 0 0 (Int32.ofNat (nc + 1))) := by funext s; unfold eB; rw [oT 5 (by omega)]
        have ew : zwt (up2 (up2 T1 (100 + nc) nc 0) 0 0 (Int32.ofNat (nc + 1))) = zwt (up2 (up2 T 1 nc p1) 0 0 (Int32.ofNat (nc + 1))) := by funext s a b; unfold zwt; rw [oT 6 (by omega), oT 1 (by omega)]
        exact (zD.mk (D'.d0) (D'.dc) (D'.dt) (by rw [ea, eb, ew]; exact D'.de) (fun p hp => D'.dm p (by unfold zP at hp ⊢; rw [ea, eb, ew] at hp; exact hp)))
      have R1 : zTW (nc + 1) (up2 (up2 T1 (100 + nc) nc 0) 0 0 (Int32.ofNat (nc + 1))) (fun x y => if x < nc ∧ y < nc then t x y else if x = y then 0 else 1000000) := by
        intro x y hx hy
        show _ = Int32.ofNat (if x < nc ∧ y < nc then t x y else if x = y then 0 else 1000000)
        rw [z_up, if_neg (by omega), z_up]
        by_cases c : x = nc ∧ y = nc
        · rw [if_pos (show 100 + x = 100 + nc by omega), if_pos c.2, if_neg (show ¬ (x < nc ∧ y < nc) by omega), if_pos (show x = y by omega)]; rfl
        · have : (if 100 + x = 100 + nc then (if y = nc then (0 : Int32) else T1 (100 + nc) y) else T1 (100 + x) y) = T1 (100 + x) y := by
            by_cases cx : x = nc
            · subst cx; rw [if_pos rfl, if_neg (fun e => c ⟨rfl, e⟩)]
            · rw [if_neg (by omega)]
          rw [this, a3 x y (by omega) (by omega)]
          by_cases d : x < nc ∧ y < nc
          · rw [if_neg (show ¬ ((x = nc ∧ 0 ≤ y ∧ y < nc) ∨ (y = nc ∧ 0 ≤ x ∧ x < nc)) by omega), if_pos d, z_up, if_neg (by omega)]; exact R x y d.1 d.2
          · rw [if_pos (show (x = nc ∧ 0 ≤ y ∧ y < nc) ∨ (y = nc ∧ 0 ≤ x ∧ x < nc) by omega), if_neg d, if_neg (show ¬ x = y by omega)]; rfl
      have ZT2 : zT (nc + 1) ns (up2 (up2 T1 (100 + nc) nc 0) 0 0 (Int32.ofNat (nc + 1))) M2 := by
        have q := zT_O ZT1 b2
        have ea : eA (up2 (up2 T1 (100 + nc) nc 0) 0 0 (Int32.ofNat (nc + 1))) = eA (up2 (up2 T 1 nc p1) 0 0 (Int32.ofNat (nc + 1))) := by funext s; unfold eA; rw [oT 4 (by omega)]
        have eb : eB (up2 (up2 T1 (100 + nc) nc 0) 0 0 (Int32.ofNat (nc + 1))) = eB (up2 (up2 T 1 nc p1) 0 0 (Int32.ofNat (nc + 1))) := by funext s; unfold eB; rw [oT 5 (by omega)]
        exact (zT.mk (q.k1) (q.k2) (q.hn) (q.hs) (by rw [ea]; exact q.ra) (by rw [eb]; exact q.rb) (by rw [oT 6 (by omega)]; exact q.rl) (by rw [oT 1 (by omega)]; exact q.rh) (by rw [oT 1 (by omega)]; exact q.hh) (by rw [oT 6 (by omega)]; exact q.hl) (by rw [ea, eb]; exact q.he))
      obtain ⟨w1, w2⟩ := z_again ZT2 R1 (cong _ _ D1) b3 (cong _ _ b4)
      refine ⟨Int32.ofNat nc, _, M2, rfl, ?_, ?_, nc + 1, ns, nl, np, ZE_ways EA oT b2 w1, ?_, ⟨_, R1, cong _ _ D1⟩⟩
      · rw [show M2 1 0 = Int32.ofNat (nc + 1) from (zT_O ZT1 b2).k1, z_p1]
      · rw [b2 0 (by decide)]; exact z_th M 0
      · refine ZB_ways (ZB_0 (x := 0) B) ?_ (by omega) (Nat.le_refl _) (zT_O ZT1 b2).k1 (zT_O ZT1 b2).k2 (by omega) B.l2 ?_ ?_ ?_ ?_ w2
        · intro k q1 q2 q5 q6 q7
          rw [b2 k q7]; funext j; rw [z_up, if_neg q1, z_up, if_neg q5]
        · rw [b2 5 (by decide)]; exact hic
        · rw [b2 6 (by decide)]; intro s hs; obtain ⟨a, ha, e⟩ := B.sa s hs; exact ⟨a, by omega, e⟩
        · rw [b2 6 (by decide)]; intro s hs; obtain ⟨a, ha, e⟩ := B.sb s hs; exact ⟨a, by omega, e⟩
        · rw [b2 6 (by decide)]; exact B.sl
def fS (a b l : Int32) : Nat → Int32 := upd (upd (upd (fun _ => 0) 0 a) 1 b) 2 l
theorem z_along {nc ns : Nat} {T M : St} (Z : zT nc ns T M) {s a b : Nat} (hs : s < ns) (ha : a < nc) (hb : b < nc) (k1 : T 1 = M 5) (k6 : T 6 s = M 6 (ix3 s 2)) : f1_minutesAlong T (Int32.ofNat a) (Int32.ofNat b) (T 6 s) = some (Int32.ofNat (zwt T s a b)) := by
  have hn := Z.hn
  unfold f1_minutesAlong
  rw [z_xin (by omega) (by omega), gd_t, z_xin (by omega) (by omega), gd_t, z_clamp (by omega), z_clamp (by omega), k1, k6, (z_zw Z hs a b).1]
theorem z_street {T N M : St} (R : ZR T N M) (G F : St) (p1 p2 p3 : Int32) :
    (∃ e M', f2_street G N F T p1 p2 p3 = some (.inl e) ∧ f3_street M p1 p2 p3 = some (0, M') ∧ ((e = 3 ∧ M' 0 0 = 1) ∨ (e = 1 ∧ M' 0 0 = 2) ∨ (e = 2 ∧ M' 0 0 = 3)) ∧ ZR T N M') ∨
    (∃ r T' M', f2_street G N F T p1 p2 p3 = some (.inr (r, T')) ∧ f3_street M p1 p2 p3 = some (r, M') ∧ M' 0 0 = 0 ∧ ZR T' N M') := by
  obtain ⟨nc, ns, nl, np, E, B, W⟩ := R
  have l1 := B.l1; have l2 := B.l2
  have F1 : ∀ x, ZR T N (up2 (up2 M 0 0 0) 0 0 x) := fun x => ⟨nc, ns, nl, np, ZE_0 (ZE_0 E), ZB_0 (ZB_0 B), W⟩
  have k1 : (up2 M 0 0 0) 1 0 = Int32.ofNat nc := B.k1
  have k2 : (up2 M 0 0 0) 2 0 = Int32.ofNat ns := B.k2
  unfold f2_street f3_street f3_isCorner
  simp only [lt_e]
  rw [E.c0, E.c3, B.k1, B.k2, k1, k2]
  rcases z_idx p1 (n := nc) (by omega) with ⟨h1, h2⟩ | ⟨a, ha, ea, h1, h2⟩
  · left
    rw [h1, bx0_l, h2, bd_e, bd_e, if_pos rfl, z_fail, bd2_e]
    exact ⟨_, _, rfl, rfl, .inl ⟨rfl, z_th _ _⟩, F1 1⟩
  · rw [h1, bx0_r, h2, bd_e, bd_e, if_neg (show ¬ (1 : Int32) = 0 by decide)]
    rcases z_idx p2 (n := nc) (by omega) with ⟨h3, h4⟩ | ⟨b, hb, eb, h3, h4⟩
    · left
      rw [h3, bx0_l, h4, bd_e, bd_e, if_pos rfl, z_fail, bd2_e]
      exact ⟨_, _, rfl, rfl, .inl ⟨rfl, z_th _ _⟩, F1 1⟩
    · rw [h3, bx0_r, h4, bd_e, bd_e, if_neg (show ¬ (1 : Int32) = 0 by decide)]
      by_cases hab : p1 = p2
      · left
        rw [if_pos hab, if_pos hab, z_fail, bd2_e]
        exact ⟨_, _, rfl, rfl, .inr (.inl ⟨rfl, z_th _ _⟩), F1 2⟩
      · rw [if_neg hab, if_neg hab]
        rcases z_rng p3 1 9 with ⟨h5, h6⟩ | ⟨h5, h6, h7, h8⟩
        · left
          rw [h5, bx0_l, h6, bd_e, if_pos rfl, z_fail, bd2_e]
          exact ⟨_, _, rfl, rfl, .inr (.inl ⟨rfl, z_th _ _⟩), F1 2⟩
        · rw [h5, bx0_r, h6, bd_e, if_neg (show ¬ (1 : Int32) = 0 by decide)]
          rcases z_room (n := ns) (m := 18) l2 (by omega) (y := 18) rfl with ⟨r1, r2⟩ | ⟨r1, r2⟩
          · left
            rw [r1, bx0_l, if_pos (by rw [r2]; rfl), z_fail, bd2_e]
            exact ⟨_, _, rfl, rfl, .inr (.inr ⟨rfl, z_th _ _⟩), F1 3⟩
          · right
            obtain ⟨l, hl1, hl9, el⟩ := z_rngN (lo := 1) (hi := 9) (by omega) (by omega) h7 h8
            subst ea; subst eb; subst el
            have e3 : (3 : Int32) * Int32.ofNat ns = Int32.ofNat (3 * ns) := z_mul
            have hx : xcp 0 (Int32.ofNat (3 * ns)) 3 3 54 = true := z_xcp rfl rfl (by omega) (by omega)
            rw [r1, bx0_r, if_neg (by rw [show (18 : Int32) = Int32.ofNat 18 from rfl, z_inj (by omega) (by omega)]; omega), e3, hx, gd_t, z_clamp (n := 3 * ns) (by omega)]
            have row : ∀ s w, w < 3 → (up2 (up1 (up2 M 0 0 0) 6 (va_cpy (fS (Int32.ofNat a) (Int32.ofNat b) (Int32.ofNat l)) (M 6) 0 (3 * ns) 3)) 2 0 (Int32.ofNat (ns + 1))) 6 (ix3 s w) = if s = ns then fS (Int32.ofNat a) (Int32.ofNat b) (Int32.ofNat l) w else M 6 (ix3 s w) := fun s w hw => z_cpy3 hw
            have hMM : up2 (up1 (up2 M 0 0 0) 6 (va_cpy (upd (upd (upd (fun _ => 0) (0 : Int32).toNatClampNeg (Int32.ofNat a)) (1 : Int32).toNatClampNeg (Int32.ofNat b)) (2 : Int32).toNatClampNeg (Int32.ofNat l)) ((up2 M 0 0 0) 6) (0 : Int32).toNatClampNeg (3 * ns) (3 : Int32).toNatClampNeg)) 2 0 ((up1 (up2 M 0 0 0) 6 (va_cpy (upd (upd (upd (fun _ => 0) (0 : Int32).toNatClampNeg (Int32.ofNat a)) (1 : Int32).toNatClampNeg (Int32.ofNat b)) (2 : Int32).toNatClampNeg (Int32.ofNat l)) ((up2 M 0 0 0) 6) (0 : Int32).toNatClampNeg (3 * ns) (3 : Int32).toNatClampNeg)) 2 0 + 1) = up2 (up1 (up2 M 0 0 0) 6 (va_cpy (fS (Int32.ofNat a) (Int32.ofNat b) (Int32.ofNat l)) (M 6) 0 (3 * ns) 3)) 2 0 (Int32.ofNat (ns + 1)) := by
              rw [show (up1 (up2 M 0 0 0) 6 (va_cpy (upd (upd (upd (fun _ => 0) (0 : Int32).toNatClampNeg (Int32.ofNat a)) (1 : Int32).toNatClampNeg (Int32.ofNat b)) (2 : Int32).toNatClampNeg (Int32.ofNat l)) ((up2 M 0 0 0) 6) (0 : Int32).toNatClampNeg (3 * ns) (3 : Int32).toNatClampNeg)) 2 0 = Int32.ofNat ns from B.k2, z_s1]
              rfl
            rw [hMM]
            generalize hMN : up2 (up1 (up2 M 0 0 0) 6 (va_cpy (fS (Int32.ofNat a) (Int32.ofNat b) (Int32.ofNat l)) (M 6) 0 (3 * ns) 3)) 2 0 (Int32.ofNat (ns + 1)) = MN at row
            have mk : ∀ k, k ≠ 2 → k ≠ 6 → MN k = (up2 M 0 0 0) k := by
              intro k q2 q6; rw [← hMN]; funext j; rw [z_up, if_neg q2]; simp only [up1, if_neg q6]
            have m2 : MN 2 0 = Int32.ofNat (ns + 1) := by rw [← hMN]; simp [z_up]
            have EA : ZE 0 nl (up2 (up2 (up2 (up2 T 4 ns (Int32.ofNat a)) 5 ns (Int32.ofNat b)) 6 ns (Int32.ofNat l)) 3 0 (Int32.ofNat (ns + 1))) N MN := by
              have m8 := mk 8 (by decide) (by decide)
              have m9 := mk 9 (by decide) (by decide)
              have m12 := mk 12 (by decide) (by decide)
              have E0 : ZE nc nl T N (up2 M 0 0 0) := ZE_0 E
              exact (ZE.mk (by rw [mk 1 (by decide) (by decide)]; exact E0.c0) (by rw [m2]; simp [z_up]) (by rw [mk 3 (by decide) (by decide)]; exact E0.c7) (by rw [mk 4 (by decide) (by decide)]; exact E0.c12) (by rw [mk 5 (by decide) (by decide)]; exact E0.h1) (by rw [mk 11 (by decide) (by decide)]; exact E0.w11) (fun s => by
                  rw [row s 0 (by decide), z_up, if_neg (by decide), z_up, if_neg (by decide), z_up, if_neg (by decide), z_up, if_pos rfl]
                  by_cases h : s = ns
                  · rw [if_pos h, if_pos h]; rfl
                  · rw [if_neg h, if_neg h]; exact E.t4 s) (fun s => by
                  rw [row s 1 (by decide), z_up, if_neg (by decide), z_up, if_neg (by decide), z_up, if_pos rfl]
                  by_cases h : s = ns
                  · rw [if_pos h, if_pos h]; rfl
                  · rw [if_neg h, if_neg h, z_up, if_neg (by decide)]; exact E.t5 s) (fun s => by
                  rw [row s 2 (by decide), z_up, if_neg (by decide), z_up, if_pos rfl]
                  by_cases h : s = ns
                  · rw [if_pos h, if_pos h]; rfl
                  · rw [if_neg h, if_neg h, z_up, if_neg (by decide), z_up, if_neg (by decide)]; exact E.t6 s) (by rw [m8]; exact E0.t8) (by rw [m8]; exact E0.t9) (by rw [m8]; exact E0.t10) (by rw [m8]; exact E0.n4) (by rw [m8]; exact E0.n5) (by rw [m8]; exact E0.n6) (by rw [m8]; exact E0.n7) (by rw [m8]; exact E0.n8) (by rw [m9]; exact E0.t13) (by rw [m9]; exact E0.n9) (by rw [m9]; exact E0.t14) (by rw [m9]; exact E0.n10) (by rw [m9]; exact E0.t15) (by rw [m9]; exact E0.n11) (by rw [m9]; exact E0.n13) (by rw [m9]; exact E0.n12) (by rw [m9]; exact E0.n14) (by rw [m9]; exact E0.n15) (fun p k hk => by rw [mk 10 (by decide) (by decide), z_up, if_neg (by omega), z_up, if_neg (by omega), z_up, if_neg (by omega), z_up, if_neg (by omega)]; exact E.rd p k hk) (by rw [m12]; exact E0.n0) (by rw [m12]; exact E0.n1) (by rw [m12]; exact E0.n2) (fun s hs => by rw [E0.n3 s hs]; unfold bsum; rw [m8]) (fun a b ha hb => absurd ha (by omega)))
            have sa' : ∀ s, s < ns + 1 → ∃ a, a < nc ∧ MN 6 (ix3 s 0) = Int32.ofNat a := by
              intro s hs
              rw [row s 0 (by decide)]
              by_cases h : s = ns
              · rw [if_pos h]; exact ⟨a, ha, rfl⟩
              · rw [if_neg h]; exact B.sa s (by omega)
            have sb' : ∀ s, s < ns + 1 → ∃ a, a < nc ∧ MN 6 (ix3 s 1) = Int32.ofNat a := by
              intro s hs
              rw [row s 1 (by decide)]
              by_cases h : s = ns
              · rw [if_pos h]; exact ⟨b, hb, rfl⟩
              · rw [if_neg h]; exact B.sb s (by omega)
            have sl' : ∀ s, s < ns + 1 → ∃ a, 1 ≤ a ∧ a ≤ 9 ∧ MN 6 (ix3 s 2) = Int32.ofNat a := by
              intro s hs
              rw [row s 2 (by decide)]
              by_cases h : s = ns
              · rw [if_pos h]; exact ⟨l, hl1, hl9, rfl⟩
              · rw [if_neg h]; exact B.sl s (by omega)
            have BA : ZB nc (ns + 1) nl np MN := by
              refine ZB_ways (ZB_0 (x := 0) B) (fun k q1 q2 q5 q6 q7 => mk k q2 q6) (Nat.le_refl _) (by omega) ?_ m2 l1 (by omega) ?_ sa' sb' sl' ?_
              · rw [mk 1 (by decide) (by decide)]; exact k1
              · rw [mk 5 (by decide) (by decide)]; exact B.hi
              · rw [mk 7 (by decide) (by decide)]; exact B.wy
            have ZT1 := zT_of EA BA
            obtain ⟨t, R, D⟩ := W
            generalize hX : up2 (up2 (up2 (up2 T 4 ns (Int32.ofNat a)) 5 ns (Int32.ofNat b)) 6 ns (Int32.ofNat l)) 3 0 (Int32.ofNat (ns + 1)) = X at EA ZT1
            have x0 : X 0 0 = Int32.ofNat nc := by rw [EA.c0]; exact ZT1.k1
            have xR : zTW nc X t := by
              intro x y hx hy
              rw [← hX, z_up, if_neg (by omega), z_up, if_neg (by omega), z_up, if_neg (by omega), z_up, if_neg (by omega)]; exact R x y hx hy
            have x6 : X 6 ns = Int32.ofNat l := by rw [← hX]; simp [z_up]
            have g1 := z_along ZT1 (s := ns) (by omega) ha hb EA.h1 (EA.t6 ns)
            obtain ⟨T10, s1, s2, s3⟩ := z_short (C := 1000000) (w := zwt X ns a b) (Nat.le_refl _) l1 ha hb (z_zw ZT1 (s := ns) (by omega) a b).2 D.dc x0 xR
            have ZT2 : zT nc (ns + 1) T10 MN := by
              have qa : eA T10 = eA X := by funext s; unfold eA; rw [s2 4 (by omega)]
              have qb : eB T10 = eB X := by funext s; unfold eB; rw [s2 5 (by omega)]
              exact (zT.mk (ZT1.k1) (ZT1.k2) (ZT1.hn) (ZT1.hs) (by rw [qa]; exact ZT1.ra) (by rw [qb]; exact ZT1.rb) (by rw [s2 6 (by omega)]; exact ZT1.rl) (by rw [s2 1 (by omega)]; exact ZT1.rh) (by rw [s2 1 (by omega)]; exact ZT1.hh) (by rw [s2 6 (by omega)]; exact ZT1.hl) (by rw [qa, qb]; exact ZT1.he))
            have g2 := z_along ZT2 (s := ns) (by omega) hb ha (by rw [s2 1 (by omega)]; exact EA.h1) (by rw [s2 6 (by omega)]; exact EA.t6 ns)
            have ew : zwt T10 = zwt X := by funext s x y; unfold zwt; rw [s2 6 (by omega), s2 1 (by omega)]
            rw [ew] at g2
            have dc2 : ∀ x y, x < nc → y < nc → (fun x y => min (t x y) (t x a + zwt X ns a b + t b y)) x y ≤ 1000000 := by
              intro x y hx hy; exact Nat.le_trans (Nat.min_le_left _ _) (D.dc x y hx hy)
            obtain ⟨T15, u1, u2, u3⟩ := z_short (C := 1000000) (w := zwt X ns b a) (Nat.le_refl _) l1 hb ha (z_zw ZT1 (s := ns) (by omega) b a).2 dc2 (by rw [s2 0 (by omega)]; exact x0) s3
            have hS : f1_addStreet T (Int32.ofNat a) (Int32.ofNat b) (Int32.ofNat l) = some (Int32.ofNat ns, T15) := by
              unfold f1_addStreet
              rw [lt_e, E.c3, B.k2, z_xin (by omega) (by omega), gd_t, z_clamp (by omega), lt_e, lt_e, lt_e, lt_e]
              rw [show (up2 (up2 (up2 T 4 ns (Int32.ofNat a)) 5 ns (Int32.ofNat b)) 6 ns (Int32.ofNat l)) 3 0 = Int32.ofNat ns from (E.c3).trans B.k2, z_s1, hX]
              rw [x6] at g1
              rw [s2 6 (by omega), x6] at g2
              rw [g1, bd_e, s1, bd_e, g2, bd_e, u1, bd_e]
            rw [hS, bd2_e]
            have oT : zTO X T15 := zTO_trans s2 u2
            have qa : eA T15 = eA X := by funext s; unfold eA; rw [oT 4 (by omega)]
            have qb : eB T15 = eB X := by funext s; unfold eB; rw [oT 5 (by omega)]
            have qw : zwt T15 = zwt X := by funext s x y; unfold zwt; rw [oT 6 (by omega), oT 1 (by omega)]
            have D1 : zD 1000000 nc (ns + 1) T15 (fun x y => min (min (t x y) (t x a + zwt T15 ns a b + t b y)) (min (t x b) (t x a + zwt T15 ns a b + t b b) + zwt T15 ns b a + min (t a y) (t a a + zwt T15 ns a b + t b y))) := by
              refine zD_street D ha hb ?_ ?_ ?_ ?_ ?_
              · intro s hs; rw [qa]; unfold eA; rw [← hX, z_up, if_neg (by decide), z_up, if_neg (by decide), z_up, if_neg (by decide), z_up, if_pos rfl, if_neg (by omega)]
              · intro s hs; rw [qb]; unfold eB; rw [← hX, z_up, if_neg (by decide), z_up, if_neg (by decide), z_up, if_pos rfl, if_neg (by omega), z_up, if_neg (by decide)]
              · intro s x y hs; rw [qw]; unfold zwt; rw [← hX]
                have w6 : (up2 (up2 (up2 (up2 T 4 ns (Int32.ofNat a)) 5 ns (Int32.ofNat b)) 6 ns (Int32.ofNat l)) 3 0 (Int32.ofNat (ns + 1))) 6 s = T 6 s := by rw [z_up, if_neg (by decide), z_up, if_pos rfl, if_neg (by omega), z_up, if_neg (by decide), z_up, if_neg (by decide)]
                rw [w6]; rfl
              · rw [qa]; unfold eA; rw [← hX]; exact z_cl (by omega) (by simp [z_up])
              · rw [qb]; unfold eB; rw [← hX]; exact z_cl (by omega) (by simp [z_up])
            obtain ⟨M2, m, b1, b2, b3, b4⟩ := z_reckon ZT1
            rw [b1, bd_e]
            have D2 : zD 9999 nc (ns + 1) T15 m := (zD.mk (b4.d0) (b4.dc) (b4.dt) (by rw [qa, qb, qw]; exact b4.de) (fun p hp => b4.dm p (by unfold zP at hp ⊢; rw [qa, qb, qw] at hp; exact hp)))
            have ZT3 : zT nc (ns + 1) T15 M2 := by
              have q := zT_O ZT1 b2
              exact (zT.mk (q.k1) (q.k2) (q.hn) (q.hs) (by rw [qa]; exact q.ra) (by rw [qb]; exact q.rb) (by rw [oT 6 (by omega)]; exact q.rl) (by rw [oT 1 (by omega)]; exact q.rh) (by rw [oT 1 (by omega)]; exact q.hh) (by rw [oT 6 (by omega)]; exact q.hl) (by rw [qa, qb]; exact q.he))
            have R1 : zTW nc T15 (fun x y => min (min (t x y) (t x a + zwt T15 ns a b + t b y)) (min (t x b) (t x a + zwt T15 ns a b + t b b) + zwt T15 ns b a + min (t a y) (t a a + zwt T15 ns a b + t b y))) := by
              rw [qw]; exact u3
            obtain ⟨w1, w2⟩ := z_again ZT3 R1 D1 b3 D2
            refine ⟨Int32.ofNat ns, _, M2, rfl, ?_, ?_, nc, ns + 1, nl, np, ZE_ways EA oT b2 w1, ?_, ⟨_, R1, D1⟩⟩
            · rw [show M2 2 0 = Int32.ofNat (ns + 1) from ZT3.k2, z_p1]
            · rw [b2 0 (by decide), mk 0 (by decide) (by decide)]; exact z_th M 0
            · refine ZB_ways BA (fun k q1 q2 q5 q6 q7 => b2 k q7) (Nat.le_refl _) (Nat.le_refl _) ZT3.k1 ZT3.k2 l1 (by omega) ?_ ?_ ?_ ?_ w2
              · rw [b2 5 (by decide)]; exact BA.hi
              · rw [b2 6 (by decide)]; exact BA.sa
              · rw [b2 6 (by decide)]; exact BA.sb
              · rw [b2 6 (by decide)]; exact BA.sl
theorem z_init : ZR S0 S0 S0 := by
  refine ⟨0, 0, 0, 0, ?_, ?_, fun _ _ => 0, fun a b ha => absurd ha (by omega), ?_⟩
  · apply ZE.mk <;> first | rfl | (intros; rfl) | (intros; omega)
  · exact (ZB.mk (rfl) (rfl) (rfl) (rfl) (by omega) (by omega) (by omega) (by omega) (fun c => ⟨0, by omega, rfl⟩) (fun s hs => by omega) (fun s hs => by omega) (fun s hs => by omega) (fun s hs => by omega) (fun l => ⟨0, by omega, rfl⟩) (fun l => .inl rfl) (fun h => ⟨0, by omega, rfl⟩) (fun s hs => by omega) (fun s hs => by omega) (fun p => ⟨0, by omega, rfl⟩) (fun s hs => by omega) (fun s hs => by omega) (fun p q hp => by omega) (⟨0, by omega, rfl⟩) (fun _ _ _ _ => rfl) (fun _ _ _ _ => rfl) (fun a b ha => by omega))
  · exact (zD.mk (fun a ha => by omega) (fun a b ha => by omega) (fun a b c ha => by omega) (fun s hs => by omega) (fun p _ a b ha => by omega))
