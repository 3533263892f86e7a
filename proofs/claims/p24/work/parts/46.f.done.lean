/-! A LIGHTER IS DONE; a lighter's minute whole; all lighters' minute -/
theorem up8 {M : St} {p v : Nat} {x : Int32} {q w : Nat} (hw : w < 8) (hv : v < 8) : up2 M 8 (ix8 p v) x 8 (ix8 q w) = if q = p ∧ w = v then x else M 8 (ix8 q w) := by
  by_cases h : q = p ∧ w = v
  · obtain ⟨rfl, rfl⟩ := h; rw [up2_at, if_pos ⟨rfl, rfl⟩]
  · rw [up2_n2 (i8 hw hv (by omega)), if_neg h]
theorem MT_9 {M : St} {p l c cn o v q w : Nat} (hw : w < 10) : MT M p l c cn o v 9 (ix10 q w) = if q = p ∧ w = 9 then M 9 (ix10 p 9) + 1 else if q = p ∧ w = 3 then Int32.ofNat (cn - v) else if q = p ∧ w = 5 then -1 else if q = p ∧ w = 1 then Int32.ofNat c else M 9 (ix10 q w) := by
  unfold MT
  rw [up9 hw (by omega), up2_n1 (by omega), up2_n1 (by omega), up2_n1 (by omega), up2_n1 (by omega), up9 hw (by omega), up9 hw (by omega), up9 hw (by omega)]
theorem MT_8 {M : St} {p l c cn o v q w : Nat} (hw : w < 8) : MT M p l c cn o v 8 (ix8 q w) = if q = l ∧ w = 6 then M 8 (ix8 l 6) + 1 else if q = l ∧ w = 5 then 1 else if q = l ∧ w = 4 then 0 else if q = l ∧ w = 3 then Int32.ofNat (o + v) else M 8 (ix8 q w) := by
  unfold MT
  rw [up2_n1 (by omega), up8 hw (by omega), up8 hw (by omega), up8 hw (by omega), up8 hw (by omega), up2_n1 (by omega), up2_n1 (by omega), up2_n1 (by omega)]
theorem MT_k {M : St} {p l c cn o v k : Nat} (h8 : k ≠ 8) (h9 : k ≠ 9) : MT M p l c cn o v k = M k := by
  unfold MT
  rw [show ∀ N : St, ∀ i x, up2 N 9 i x k = N k from fun N i x => up1_ne h9, show ∀ N : St, ∀ i x, up2 N 8 i x k = N k from fun N i x => up1_ne h8, show ∀ N : St, ∀ i x, up2 N 8 i x k = N k from fun N i x => up1_ne h8, show ∀ N : St, ∀ i x, up2 N 8 i x k = N k from fun N i x => up1_ne h8, show ∀ N : St, ∀ i x, up2 N 8 i x k = N k from fun N i x => up1_ne h8, show ∀ N : St, ∀ i x, up2 N 9 i x k = N k from fun N i x => up1_ne h9, show ∀ N : St, ∀ i x, up2 N 9 i x k = N k from fun N i x => up1_ne h9, show ∀ N : St, ∀ i x, up2 N 9 i x k = N k from fun N i x => up1_ne h9]
theorem zs_up {g h : Nat → Int32} {n k : Nat} {d : Int32} (hk : k < n) (e : h k = g k + d) (o : ∀ i, i ≠ k → h i = g i) : zsum h n = zsum g n + d := zsum_upd hk e o
theorem y_go0 {nc ns nl np : Nat} {Y : Nat → Nat} {S M : St} (R : SR nc ns nl np Y S M) (B : ZB nc ns nl np M) (X : ZX nl np M) {p l c cn o v : Nat} (hp : p < np) (hl : l < nl) (hg : M 9 (ix10 p 5) = Int32.ofNat l) (h6 : M 9 (ix10 p 6) = Int32.ofNat 1) (hb : M 8 (ix8 l 5) = 0) (hcn : cn ≤ 999) (ecn : M 9 (ix10 p 3) = Int32.ofNat cn) (ho : o ≤ 300) (eo : M 8 (ix8 l 3) = Int32.ofNat o) (hv : v = min cn (300 - o)) (h0 : o + v ≠ 0) :
    let M' := MT (up2 M 9 (ix10 p 6) 0) p l c cn o v
    yGQ nl np M M' p ∧ ZX nl np M' ∧ SR nc ns nl np Y (ST (up2 S (rk 12 p) 5 0) p l c cn o v) M' := by
  intro M'
  have l3 := B.l3
  have v9 : ∀ q w, w < 10 → M' 9 (ix10 q w) = if q = p ∧ w = 9 then M 9 (ix10 p 9) + 1 else if q = p ∧ w = 3 then Int32.ofNat (cn - v) else if q = p ∧ w = 5 then -1 else if q = p ∧ w = 1 then Int32.ofNat c else if q = p ∧ w = 6 then 0 else M 9 (ix10 q w) := by
    intro q w hw
    show MT (up2 M 9 (ix10 p 6) 0) p l c cn o v 9 (ix10 q w) = _
    rw [MT_9 hw, up9 (by omega) (by omega), up9 hw (by omega), if_neg (by omega : ¬ (p = p ∧ 9 = 6))]
  have v8 : ∀ q w, w < 8 → M' 8 (ix8 q w) = if q = l ∧ w = 6 then M 8 (ix8 l 6) + 1 else if q = l ∧ w = 5 then 1 else if q = l ∧ w = 4 then 0 else if q = l ∧ w = 3 then Int32.ofNat (o + v) else M 8 (ix8 q w) := by
    intro q w hw
    show MT (up2 M 9 (ix10 p 6) 0) p l c cn o v 8 (ix8 q w) = _
    rw [MT_8 hw, up2_n1 (by omega), up2_n1 (by omega)]
  have hk2 : ∀ k, k ≠ 8 → k ≠ 9 → M' k = M k := fun k h8 h9 => by
    show MT (up2 M 9 (ix10 p 6) 0) p l c cn o v k = _
    rw [MT_k h8 h9]; exact up1_ne h9
  have hq : ∀ q w, q ≠ p → w < 10 → M' 9 (ix10 q w) = M 9 (ix10 q w) := fun q w hq hw => by rw [v9 q w hw]; simp [hq]
  have hi : ∀ i w, i ≠ l → w < 8 → M' 8 (ix8 i w) = M 8 (ix8 i w) := fun i w hi hw => by rw [v8 i w hw]; simp [hi]
  have ww : ∀ w, w < 10 → w = 0 ∨ w = 2 ∨ w = 4 → M' 9 (ix10 p w) = M 9 (ix10 p w) := fun w hw h => by
    rw [v9 p w hw, if_neg (by omega), if_neg (by omega), if_neg (by omega), if_neg (by omega), if_neg (by omega)]
  have wl : ∀ w, w < 8 → w = 0 ∨ w = 1 ∨ w = 2 ∨ w = 7 → M' 8 (ix8 l w) = M 8 (ix8 l w) := fun w hw h => by
    rw [v8 l w hw, if_neg (by omega), if_neg (by omega), if_neg (by omega), if_neg (by omega)]
  have w3 : M' 9 (ix10 p 3) = Int32.ofNat (cn - v) := by rw [v9 p 3 (by omega)]; simp
  have w5 : M' 9 (ix10 p 5) = -1 := by rw [v9 p 5 (by omega)]; simp
  have w6 : M' 9 (ix10 p 6) = 0 := by rw [v9 p 6 (by omega)]; simp
  have w9 : M' 9 (ix10 p 9) = M 9 (ix10 p 9) + 1 := by rw [v9 p 9 (by omega)]; simp
  have m3 : M' 8 (ix8 l 3) = Int32.ofNat (o + v) := by rw [v8 l 3 (by omega)]; simp
  have m4 : M' 8 (ix8 l 4) = 0 := by rw [v8 l 4 (by omega)]; simp
  have m5 : M' 8 (ix8 l 5) = 1 := by rw [v8 l 5 (by omega)]; simp
  have m6 : M' 8 (ix8 l 6) = M 8 (ix8 l 6) + 1 := by rw [v8 l 6 (by omega)]; simp
  have s1 : zoil M' nl = zoil M nl + Int32.ofNat v := zs_up hl (by show M' 8 (ix8 l 3) = M 8 (ix8 l 3) + _; rw [m3, eo, z_add]) (fun i h => hi i 3 h (by omega))
  have s2 : zcan M np = zcan M' np + Int32.ofNat v := zs_up hp (by show M 9 (ix10 p 3) = M' 9 (ix10 p 3) + _; rw [w3, ecn, z_add]; congr 1; omega) (fun q h => (hq q 3 h (by omega)).symm)
  have s3 : zlit M' nl = zlit M nl + 1 := zs_up hl m6 (fun i h => hi i 6 h (by omega))
  have s4 : zdid M' np = zdid M np + 1 := zs_up hp w9 (fun q h => hq q 9 h (by omega))
  refine ⟨⟨⟨⟨ww 0 (by omega) (by omega), ww 2 (by omega) (by omega), ww 4 (by omega) (by omega)⟩, ⟨cn, cn - v, ecn, w3, by omega, hcn⟩, .inr (.inr (.inr ⟨l, hl, hg, h6, w5, w6, w9⟩))⟩, hq, fun i hi2 => ?_, hk2, ?_, ?_⟩, ⟨fun i hi2 h5 => ?_, fun i hi2 => ?_, fun i hi2 => ?_, fun i hi2 => ?_, fun q hq2 => ?_, fun q hq2 h5 => ?_, fun q i hq2 hi2 h5 => ?_⟩, ?_⟩
  · by_cases e : i = l
    · subst e
      exact ⟨⟨wl 0 (by omega) (by omega), wl 1 (by omega) (by omega), wl 2 (by omega) (by omega), wl 7 (by omega) (by omega)⟩, .inr ⟨hb, m5, m6, m4, o, o + v, eo, m3, by omega, by omega, h0⟩⟩
    · exact ⟨⟨hi i 0 e (by omega), hi i 1 e (by omega), hi i 2 e (by omega), hi i 7 e (by omega)⟩, .inl ⟨hi i 3 e (by omega), hi i 4 e (by omega), hi i 5 e (by omega), hi i 6 e (by omega)⟩⟩
  · rw [s1, s2]; ac_rfl
  · rw [s3, s4]; ac_rfl
  · by_cases e : i = l
    · subst e; rw [m3, z_l0, Ne, z_inj (by omega) (by omega)]; exact h0
    · rw [hi i 3 e (by omega)]; rw [hi i 5 e (by omega)] at h5; exact X.bo i hi2 h5
  · by_cases e : i = l
    · subst e; exact ⟨0, by omega, m4⟩
    · rw [hi i 4 e (by omega)]; exact X.so i hi2
  · by_cases e : i = l
    · subst e; rw [wl 2 (by omega) (by omega)]; exact X.li i hi2
    · rw [hi i 2 e (by omega)]; exact X.li i hi2
  · by_cases e : i = l
    · subst e; rw [wl 1 (by omega) (by omega)]; exact X.he i hi2
    · rw [hi i 1 e (by omega)]; exact X.he i hi2
  · by_cases e : q = p
    · subst e; rw [ww 2 (by omega) (by omega)]; exact X.ld q hq2
    · rw [hq q 2 e (by omega)]; exact X.ld q hq2
  · by_cases e : q = p
    · subst e; exact w6
    · rw [hq q 6 e (by omega)]; rw [hq q 5 e (by omega)] at h5; exact X.z6 q hq2 h5
  · by_cases e : q = p
    · subst e; rw [w5] at h5; exact absurd h5.symm (by rw [z_ne1 (by omega)]; exact id)
    · rw [hq q 5 e (by omega)] at h5
      have k1 : M' 8 (ix8 i 1) = M 8 (ix8 i 1) := by
        by_cases e2 : i = l
        · subst e2; exact wl 1 (by omega) (by omega)
        · exact hi i 1 e2 (by omega)
      rw [k1, hk2 10 (by omega) (by omega), hq q 2 e (by omega), hq q 4 e (by omega)]
      exact X.go q i hq2 hi2 h5
  · exact SR_T (SR_9 (w := 5) R (by omega)) hp hl c cn o v
/-- a lighter's minute -/
theorem y_step {nc ns nl np : Nat} {Y : Nat → Nat} {S M : St} (R : SR nc ns nl np Y S M) (B : ZB nc ns nl np M) (X : ZX nl np M) (V : SW nc S M) {p : Nat} (hp : p < np) :
    ∃ M' S' r, f3_goOn M (Int32.ofNat p) = some (r, M') ∧ (∀ fu K v1, ∃ u, f5_pass_L4 Y K (fu + 1) v1 (Int32.ofNat p) S = f5_pass_L4 Y K fu u (Int32.ofNat (p + 1)) S') ∧ SR nc ns nl np Y S' M' ∧ SW nc S' M' ∧ ZX nl np M' ∧ yGQ nl np M M' p := by
  have l1 := B.l1; have l2 := B.l2; have l3 := B.l3; have l4 := B.l4
  have hsim : ∀ fu K v1, f5_pass_L4 Y K (fu + 1) v1 (Int32.ofNat p) S = if 0 ≤ S (rk 12 p) 4 then ygC Y K fu v1 (Int32.ofNat p) S else bd (f5_look Y S (Int32.ofNat p)) (ygC Y K fu v1 (Int32.ofNat p)) := by
    intro fu K v1
    rw [y_pass_eq, R.y4, if_neg (by rw [z_le (by omega) (by omega)]; omega), z_xin (by omega) hp, gd_t, z_clamp (by omega), kc4]
  have hw : ∀ (S1 : St) fu K v1, S1 (rk 12 p) 4 = -1 → ygC Y K fu v1 (Int32.ofNat p) S1 = f5_pass_L4 Y K fu v1 (Int32.ofNat (p + 1)) S1 := by
    intro S1 fu K v1 h
    unfold ygC
    rw [z_clamp (by omega), lt_e, kc4, h, if_neg (by decide), z_s1]
  rcases B.pg p hp with g | ⟨l, hl, g5, gb, ⟨e, e1, e2, ge⟩, ⟨c, hc, gc⟩, gp⟩
  · have h4 : S (rk 12 p) 4 = -1 := by rw [R.l4 hp]; exact g
    have hn : ¬ (0 : Int32) ≤ -1 := by decide
    rcases y_look R B X V hp with ⟨k1, k2⟩ | ⟨l, c, d, pl, F, k1, k2⟩
    · refine ⟨M, S, -1, ?_, fun fu K v1 => ⟨v1, ?_⟩, R, V, X, GQ_wait B g⟩
      · rw [z_goOn_eq, z_pe5 (by omega), bd_e, if_pos g, k1, bd_e]
        unfold zgG
        rw [z_pe5 (by omega), bd_e, if_pos g]
      · rw [hsim, h4, if_neg hn, k2, bd_e, hw S fu K v1 h4]
    · obtain ⟨q1, q2, q3⟩ := y_set R B X hp g F
      obtain ⟨hl, hb0, hng, hc, hd, hk, hh, ho⟩ := F
      obtain ⟨cn, hcn, ecn⟩ := B.pc p
      obtain ⟨o, hoo, eo⟩ := B.lo l
      have h0 : o + min cn (300 - o) ≠ 0 := by
        intro h
        have h1 : o = 0 := by omega
        have h2 : cn = 0 := by omega
        rw [ecn, eo, h1, h2] at ho
        rcases ho with ho | ho <;> exact ho rfl
      have m5 : MS M p l c d pl 9 (ix10 p 5) = Int32.ofNat l := by unfold MS; rw [up9 (by omega) (by omega), up9 (by omega) (by omega), up9 (by omega) (by omega), up9 (by omega) (by omega)]; simp
      have m6 : MS M p l c d pl 9 (ix10 p 6) = Int32.ofNat (d + 3) := by unfold MS; rw [up9 (by omega) (by omega), up9 (by omega) (by omega)]; simp
      have m7 : MS M p l c d pl 9 (ix10 p 7) = Int32.ofNat c := by unfold MS; rw [up9 (by omega) (by omega), up9 (by omega) (by omega), up9 (by omega) (by omega)]; simp
      have m3 : MS M p l c d pl 9 (ix10 p 3) = Int32.ofNat cn := by unfold MS; rw [up9 (by omega) (by omega), up9 (by omega) (by omega), up9 (by omega) (by omega), up9 (by omega) (by omega)]; simp [ecn]
      have mo : MS M p l c d pl 8 (ix8 l 3) = Int32.ofNat o := by unfold MS; rw [up2_n1 (by omega), up2_n1 (by omega), up2_n1 (by omega), up2_n1 (by omega)]; exact eo
      have G := z_goM (M := MS M p l c d pl) (p := p) (l := l) (e := d + 3) (by omega) (by omega) m5 m6 (by omega) (by omega) m7 m3 mo hcn hoo rfl h0
      rw [if_neg (by omega)] at G
      have RS := SR_S R p l c d pl
      have GS := fun fu K v1 => y_goS (Y := Y) (K := K) (fu := fu) (v1 := v1) (S := SS S p l c d pl) (p := p) (l := l) (e := d + 3) (by omega) (by omega) (by rw [R.y3]; exact hl) ((RS.l4 hp).trans m5) ((RS.l5 hp).trans m6) (by omega) (by omega) ((RS.l6 hp).trans m7) ((RS.l3 hp).trans m3) ((RS.la l 3 hl (by omega)).trans mo) hcn hoo rfl h0
      refine ⟨_, up2 (SS S p l c d pl) (rk 12 p) 5 (Int32.ofNat (d + 2)), -1, ?_, fun fu K v1 => ?_, q3, ?_, q2, q1⟩
      · rw [z_goOn_eq, z_pe5 (by omega), bd_e, if_pos g, k1, bd_e, G]; rfl
      · obtain ⟨u, hu⟩ := GS fu K v1
        refine ⟨v1, ?_⟩
        rw [hsim, h4, if_neg hn, k2, bd_e, hu, if_neg (by omega)]; rfl
      · have hr : ∀ a, rk 14 a ≠ rk 12 p := fun a => rk_ne (by omega) (by omega) (by omega)
        have : SW nc (SS S p l c d pl) (MS M p l c d pl) := by
          unfold SS MS
          exact SW_k (SW_k (SW_k (SW_k V (fun a _ => hr a) (by omega)) (fun a _ => hr a) (by omega)) (fun a _ => hr a) (by omega)) (fun a _ => hr a) (by omega)
        exact SW_k this (fun a _ => hr a) (by omega)
  · obtain ⟨cn, hcn, ecn⟩ := B.pc p
    obtain ⟨o, hoo, eo⟩ := B.lo l
    have h0 : o + min cn (300 - o) ≠ 0 := by
      intro h
      have h1 : o = 0 := by omega
      have h2 : cn = 0 := by omega
      rw [ecn, eo, h1, h2] at gp
      rcases gp with gp | gp <;> exact gp rfl
    have h4 : S (rk 12 p) 4 = Int32.ofNat l := (R.l4 hp).trans g5
    have hn : (0 : Int32) ≤ Int32.ofNat l := by rw [z_l0, z_le (by omega) (by omega)]; omega
    have hn1 : ¬ M 9 (ix10 p 5) = -1 := by rw [g5, z_ne1 (by omega)]; exact id
    have G := z_goM (M := M) (p := p) (l := l) (e := e) (by omega) (by omega) g5 ge e1 e2 gc ecn eo hcn hoo rfl h0
    have GS := fun fu K v1 => y_goS (Y := Y) (K := K) (fu := fu) (v1 := v1) (S := S) (p := p) (l := l) (e := e) (by omega) (by omega) (by rw [R.y3]; exact hl) h4 ((R.l5 hp).trans ge) e1 e2 ((R.l6 hp).trans gc) ((R.l3 hp).trans ecn) ((R.la l 3 hl (by omega)).trans eo) hcn hoo rfl h0
    have hr : ∀ a, rk 14 a ≠ rk 12 p := fun a => rk_ne (by omega) (by omega) (by omega)
    have hr2 : ∀ a, rk 14 a ≠ rk 11 l := fun a => rk_ne (by omega) (by omega) (by omega)
    by_cases h : e = 1
    · subst h
      obtain ⟨q1, q2, q3⟩ := y_go0 (c := c) R B X hp hl g5 ge gb hcn ecn hoo eo rfl h0
      rw [if_pos rfl] at G
      refine ⟨_, _, Int32.ofNat l, ?_, fun fu K v1 => ?_, q3, ?_, q2, q1⟩
      · rw [z_goOn_eq, z_pe5 (by omega), bd_e, if_neg hn1, G]
      · obtain ⟨u, hu⟩ := GS fu K v1
        refine ⟨u, ?_⟩
        rw [hsim, h4, if_pos hn, hu, if_pos rfl]
      · refine SW_M ?_ (MT_k (by omega) (by omega))
        unfold ST
        exact SW_S (SW_S (SW_S (SW_S (SW_S (SW_S (SW_S (SW_S (SW_k V (fun a _ => hr a) (by omega)) hr) hr) hr2) hr) hr2) hr2) hr2) hr
    · obtain ⟨q1, q2, q3⟩ := y_go1 R B X hp hl g5 (by omega : 2 ≤ e) e2 ge
      rw [if_neg h] at G
      refine ⟨_, _, -1, ?_, fun fu K v1 => ?_, q3, ?_, q2, q1⟩
      · rw [z_goOn_eq, z_pe5 (by omega), bd_e, if_neg hn1, G]
      · obtain ⟨u, hu⟩ := GS fu K v1
        refine ⟨v1, ?_⟩
        rw [hsim, h4, if_pos hn, hu, if_neg h]
      · exact SW_k V (fun a _ => hr a) (by omega)
