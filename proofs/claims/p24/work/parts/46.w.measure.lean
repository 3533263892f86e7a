/-! HOW THE SIM MEASURES: it relaxes until nothing changes -/
def tset (t : Nat → Nat → Nat) (a b v : Nat) : Nat → Nat → Nat := fun x y => if x = a ∧ y = b then v else t x y
def nsum (f : Nat → Nat) : Nat → Nat
  | 0 => 0
  | n + 1 => nsum f n + f n
theorem nsum_le {f g : Nat → Nat} : ∀ n, (∀ i, i < n → f i ≤ g i) → nsum f n ≤ nsum g n := by
  intro n
  induction n with
  | zero => intro _; exact Nat.le_refl _
  | succ n ih =>
    intro h
    have h1 := ih (fun i hi => h i (by omega))
    have h2 := h n (by omega)
    show nsum f n + f n ≤ nsum g n + g n
    omega
theorem nsum_lt {f g : Nat → Nat} {k : Nat} : ∀ n, k < n → (∀ i, i < n → f i ≤ g i) → f k < g k → nsum f n < nsum g n := by
  intro n
  induction n with
  | zero => intro h; omega
  | succ n ih =>
    intro hk h hl
    show nsum f n + f n < nsum g n + g n
    by_cases e : k = n
    · have h1 := nsum_le n (fun i hi => h i (by omega))
      rw [e] at hl; omega
    · have h1 := ih (by omega) (fun i hi => h i (by omega)) hl
      have h2 := h n (by omega)
      omega
theorem nsum_cap {f : Nat → Nat} {c : Nat} : ∀ n, (∀ i, i < n → f i ≤ c) → nsum f n ≤ n * c := by
  intro n
  induction n with
  | zero => intro _; exact Nat.zero_le _
  | succ n ih =>
    intro h
    have h1 := ih (fun i hi => h i (by omega))
    have h2 := h n (by omega)
    show nsum f n + f n ≤ (n + 1) * c
    rw [Nat.succ_mul]; omega
def ymu (nc : Nat) (t : Nat → Nat → Nat) : Nat := nsum (fun a => nsum (t a) nc) nc
theorem ymu_set {nc : Nat} {t : Nat → Nat → Nat} {a b v : Nat} (ha : a < nc) (hb : b < nc) (h : v < t a b) : ymu nc (tset t a b v) < ymu nc t := by
  have le : ∀ x y, tset t a b v x y ≤ t x y := fun x y => by
    unfold tset; split
    · rename_i q; rw [q.1, q.2]; omega
    · exact Nat.le_refl _
  refine nsum_lt nc ha (fun i hi => nsum_le nc (fun j hj => le i j)) ?_
  refine nsum_lt nc hb (fun j hj => le a j) ?_
  show tset t a b v a b < t a b
  unfold tset; rw [if_pos ⟨rfl, rfl⟩]; exact h
def zSW (nc : Nat) (S : St) (t : Nat → Nat → Nat) : Prop := ∀ a b, a < nc → b < nc → S (rk 14 a) b = Int32.ofNat (t a b)
theorem zSW_set {nc : Nat} {S : St} {t : Nat → Nat → Nat} {a b v : Nat} (h : zSW nc S t) : zSW nc (up2 S (rk 14 a) b (Int32.ofNat v)) (tset t a b v) := by
  intro x y hx hy
  unfold tset
  by_cases e : x = a ∧ y = b
  · rw [if_pos e, e.1, e.2, up2_at]
  · rw [if_neg e]
    by_cases e1 : x = a
    · rw [up2_n2 (fun q => e ⟨e1, q⟩)]; exact h x y hx hy
    · rw [up2_n1 (rk_ne2 e1)]; exact h x y hx hy
def SK (S S' : St) : Prop := ∀ k, (∀ a, k ≠ rk 14 a) → S' k = S k
theorem SK_refl (S : St) : SK S S := fun _ _ => rfl
theorem SK_trans {S S' S'' : St} (h : SK S S') (h' : SK S' S'') : SK S S'' := fun k hk => (h' k hk).trans (h k hk)
theorem SK_up {S : St} {a b : Nat} {x : Int32} : SK S (up2 S (rk 14 a) b x) := fun k hk => up1_ne (hk a)
def zH (nc ns : Nat) (Y : Nat → Nat) (T S : St) : Prop := (Y 1 = nc ∧ Y 2 = ns ∧ nc ≤ 12 ∧ ns ≤ 18) ∧ (∀ c, c < nc → S 1 c = Int32.ofNat ((T 1 c).toNatClampNeg)) ∧ (∀ s, s < ns → S (rk 10 s) 0 = Int32.ofNat (eA T s) ∧ S (rk 10 s) 1 = Int32.ofNat (eB T s) ∧ S (rk 10 s) 2 = Int32.ofNat ((T 6 s).toNatClampNeg)) ∧ (∀ c, (T 1 c).toNatClampNeg ≤ 30) ∧ (∀ s, s < ns → (T 6 s).toNatClampNeg ≤ 9) ∧ (∀ s, s < ns → eA T s < nc ∧ eB T s < nc)
theorem zH_K {nc ns : Nat} {Y : Nat → Nat} {T S S' : St} (h : zH nc ns Y T S) (k : SK S S') : zH nc ns Y T S' := by
  obtain ⟨h1, h2, h3, h4⟩ := h
  refine ⟨h1, fun c hc => ?_, fun s hs => ?_, h4⟩
  · rw [k 1 (fun a => rk_lo (by omega) (by omega))]; exact h2 c hc
  · rw [k (rk 10 s) (fun a => rk_ne (by omega) (by omega) (by omega))]; exact h3 s hs
def zJ (nc ns : Nat) (T : St) (t : Nat → Nat → Nat) : Prop := (∀ a, a < nc → t a a = 0) ∧ (∀ a b, a < nc → b < nc → t a b ≤ 1000) ∧ ∀ p, zP 1000 nc ns T p → ∀ a b, a < nc → b < nc → p b ≤ p a + t a b
theorem zJ_set {nc ns : Nat} {T : St} {t : Nat → Nat → Nat} {a b v : Nat} (h : zJ nc ns T t) (ha : a < nc) (hb : b < nc) (hv : v < t a b) (hp : ∀ p, zP 1000 nc ns T p → p b ≤ p a + v) : zJ nc ns T (tset t a b v) := by
  obtain ⟨d0, dc, dm⟩ := h
  refine ⟨fun x hx => ?_, fun x y hx hy => ?_, fun p P x y hx hy => ?_⟩
  · unfold tset; split
    · rename_i q; have := d0 x hx; rw [← q.1, ← q.2] at hv; omega
    · exact d0 x hx
  · unfold tset; split
    · have := dc a b ha hb; omega
    · exact dc x y hx hy
  · unfold tset; split
    · rename_i q; rw [q.1, q.2]; exact hp p P
    · exact dm p P x y hx hy
section
variable {nc ns : Nat} {Y : Nat → Nat} {T : St}
theorem y_climb {S : St} (H : zH nc ns Y T S) {a b : Nat} (ha : a < nc) (hb : b < nc) : f5_climb Y S (Int32.ofNat a) (Int32.ofNat b) = some (Int32.ofNat (((T 1 b).toNatClampNeg - (T 1 a).toNatClampNeg) / 2)) := by
  obtain ⟨⟨y1, -, l1, -⟩, h2, -, hh, -⟩ := H
  have q1 := hh a; have q2 := hh b
  unfold f5_climb
  rw [y1, z_xin (n := b) (by omega) (by omega), z_xin (n := a) (by omega) (by omega), gd_t, gd_t, z_clamp (n := a) (by omega), z_clamp (n := b) (by omega), h2 a ha, h2 b hb, z_ile (by omega) (by omega)]
  by_cases h : (T 1 b).toNatClampNeg ≤ (T 1 a).toNatClampNeg
  · rw [if_pos h, show ((T 1 b).toNatClampNeg - (T 1 a).toNatClampNeg) / 2 = 0 by omega]; rfl
  · rw [if_neg h, z_sub (by omega), show (2 : Int32) = Int32.ofNat 2 from rfl, z_div (by omega) (by omega)]
theorem y_m88s {S : St} {t : Nat → Nat → Nat} {s a : Nat} (H : zH nc ns Y T S) (V : zSW nc S t) (J : zJ nc ns T t) (hs : s < ns) (ha : a < nc) (flag : Int32) :
    ∃ S' t' flag', (∀ K fu, f5_measure_L88 (Int32.ofNat nc) (Int32.ofNat s) Y K (fu + 1) flag (Int32.ofNat a) S = f5_measure_L88 (Int32.ofNat nc) (Int32.ofNat s) Y K fu flag' (Int32.ofNat (a + 1)) S') ∧ SK S S' ∧ zSW nc S' t' ∧ zJ nc ns T t' ∧
      ((flag' = flag ∧ t' = t ∧ t a (eB T s) ≤ t a (eA T s) + zwt T s (eA T s) (eB T s) ∧ t a (eA T s) ≤ t a (eB T s) + zwt T s (eB T s) (eA T s)) ∨ (flag' = 1 ∧ ymu nc t' < ymu nc t)) := by
  have hH := H
  obtain ⟨⟨y1, y2, l1, l2⟩, hc, hst, hh, hl, he⟩ := H
  obtain ⟨h0, h1, h2⟩ := hst s hs
  obtain ⟨e, ee⟩ : ∃ e, e = eA T s := ⟨_, rfl⟩
  obtain ⟨f, ef⟩ : ∃ f, f = eB T s := ⟨_, rfl⟩
  obtain ⟨he1, he2⟩ := he s hs
  rw [← ee] at h0 he1; rw [← ef] at h1 he2
  rw [← ee, ← ef]
  have q1 := hh e; have q2 := hh f; have q3 := hl s hs
  have c1 := y_climb hH he1 he2
  have c2 := y_climb hH he2 he1
  have ta := J.2.1 a e ha he1
  have tb := J.2.1 a f ha he2
  obtain ⟨w1, ew1⟩ : ∃ w, w = zwt T s e f := ⟨_, rfl⟩
  obtain ⟨w2, ew2⟩ : ∃ w, w = zwt T s f e := ⟨_, rfl⟩
  have ew1' : w1 = (T 6 s).toNatClampNeg + ((T 1 f).toNatClampNeg - (T 1 e).toNatClampNeg) / 2 := ew1
  have ew2' : w2 = (T 6 s).toNatClampNeg + ((T 1 e).toNatClampNeg - (T 1 f).toNatClampNeg) / 2 := ew2
  have b1 : w1 ≤ 24 := by omega
  have b2 : w2 ≤ 24 := by omega
  rw [← ew1, ← ew2]
  have base : ∀ K fu, f5_measure_L88 (Int32.ofNat nc) (Int32.ofNat s) Y K (fu + 1) flag (Int32.ofNat a) S = lt_ (fun (v40 : Int32) (S41 : St) => gd (xin (S41 (rk 10 s) 0) 12) <| lt_ (fun (v43 : Int32) (S44 : St) => f5_measure_L88 (Int32.ofNat nc) (Int32.ofNat s) Y K fu v43 (Int32.ofNat (a + 1)) S44) fun J224 => if (S41 (rk 14 a) (S41 (rk 10 s) 0).toNatClampNeg) ≤ Int32.ofNat (t a f + w2) then J224 v40 S41 else lt_ (up2 S41 (rk 14 a) (S41 (rk 10 s) 0).toNatClampNeg (Int32.ofNat (t a f + w2))) fun S45 => J224 1 S45) fun J191 => if Int32.ofNat (t a f) ≤ Int32.ofNat (t a e + w1) then J191 flag S else lt_ (up2 S (rk 14 a) f (Int32.ofNat (t a e + w1))) fun S46 => J191 1 S46 := by
    intro K fu
    rw [f5_measure_L88, z_ile (by omega) (by omega), if_neg (by omega), z_xin (n := a) (by omega) (by omega), gd_t, z_clamp (n := s) (by omega), kc0, kc1, kc2, h0, h1, h2, z_xin (n := e) (m := 12) (by omega) (by omega), gd_t, c1, bd_e, lt_e, z_xin (n := f) (m := 12) (by omega) (by omega), gd_t, c2, bd_e, lt_e, z_clamp (n := a) (by omega), z_clamp (n := e) (by omega), z_clamp (n := f) (by omega), V a e ha he1, V a f ha he2, z_add, z_add, z_add, z_add, z_s1]
    rw [show t a e + (T 6 s).toNatClampNeg + ((T 1 f).toNatClampNeg - (T 1 e).toNatClampNeg) / 2 = t a e + w1 by omega, show t a f + (T 6 s).toNatClampNeg + ((T 1 e).toNatClampNeg - (T 1 f).toNatClampNeg) / 2 = t a f + w2 by omega]
  have P1 : ∀ p, zP 1000 nc ns T p → p f ≤ p e + w1 ∧ p e ≤ p f + w2 := fun p P => by
    have := P.2 s hs
    rw [← ee, ← ef, ← ew1, ← ew2] at this; exact this
  by_cases k1 : t a f ≤ t a e + w1
  · by_cases k2 : t a e ≤ t a f + w2
    · refine ⟨S, t, flag, fun K fu => ?_, SK_refl S, V, J, .inl ⟨rfl, rfl, k1, k2⟩⟩
      rw [base, lt_e, z_ile (by omega) (by omega), if_pos k1]
      dsimp only
      rw [h0, z_xin (n := e) (m := 12) (by omega) (by omega), gd_t, lt_e, z_clamp (n := e) (by omega), V a e ha he1, z_ile (by omega) (by omega), if_pos k2]
    · refine ⟨up2 S (rk 14 a) e (Int32.ofNat (t a f + w2)), tset t a e (t a f + w2), 1, fun K fu => ?_, SK_up, zSW_set V, zJ_set J ha he1 (by omega) (fun p P => ?_), .inr ⟨rfl, ymu_set ha he1 (by omega)⟩⟩
      · rw [base, lt_e, z_ile (by omega) (by omega), if_pos k1]
        dsimp only
        rw [h0, z_xin (n := e) (m := 12) (by omega) (by omega), gd_t, lt_e, z_clamp (n := e) (by omega), V a e ha he1, z_ile (by omega) (by omega), if_neg k2, lt_e]
      · have := (P1 p P).2; have := J.2.2 p P a f ha he2; omega
  · have hef : e ≠ f := fun h => by rw [h] at k1; omega
    have V1 := zSW_set (a := a) (b := f) (v := t a e + w1) V
    have J1 := zJ_set (a := a) (b := f) (v := t a e + w1) J ha he2 (by omega) (fun p P => by have := (P1 p P).1; have := J.2.2 p P a e ha he1; omega)
    have m1 := ymu_set (v := t a e + w1) (t := t) ha he2 (by omega)
    have h0' : up2 S (rk 14 a) f (Int32.ofNat (t a e + w1)) (rk 10 s) 0 = Int32.ofNat e := by rw [up2_n1 (rk_ne (by omega) (by omega) (by omega))]; exact h0
    have hv : up2 S (rk 14 a) f (Int32.ofNat (t a e + w1)) (rk 14 a) e = Int32.ofNat (t a e) := by rw [up2_n2 hef]; exact V a e ha he1
    have ht : tset t a f (t a e + w1) a e = t a e := by unfold tset; rw [if_neg (fun q => hef q.2)]
    by_cases k2 : t a e ≤ t a f + w2
    · refine ⟨_, _, 1, fun K fu => ?_, SK_up, V1, J1, .inr ⟨rfl, m1⟩⟩
      rw [base, lt_e, z_ile (by omega) (by omega), if_neg k1, lt_e]
      dsimp only
      rw [h0', z_xin (n := e) (m := 12) (by omega) (by omega), gd_t, lt_e, z_clamp (n := e) (by omega), hv, z_ile (by omega) (by omega), if_pos k2]
    · refine ⟨_, _, 1, fun K fu => ?_, SK_trans SK_up SK_up, zSW_set (a := a) (b := e) (v := t a f + w2) V1, zJ_set J1 ha he1 (by rw [ht]; omega) (fun p P => ?_), .inr ⟨rfl, Nat.lt_trans (ymu_set ha he1 (by rw [ht]; omega)) m1⟩⟩
      · rw [base, lt_e, z_ile (by omega) (by omega), if_neg k1, lt_e]
        dsimp only
        rw [h0', z_xin (n := e) (m := 12) (by omega) (by omega), gd_t, lt_e, z_clamp (n := e) (by omega), hv, z_ile (by omega) (by omega), if_neg k2, lt_e]
      · have := (P1 p P).2; have := J.2.2 p P a f ha he2; omega
theorem y_m88 {s : Nat} (hs : s < ns) : ∀ n a fu (flag : Int32) (S : St) (t : Nat → Nat → Nat), a + n = nc → n < fu → zH nc ns Y T S → zSW nc S t → zJ nc ns T t →
    ∃ S' t' flag', (∀ K, f5_measure_L88 (Int32.ofNat nc) (Int32.ofNat s) Y K fu flag (Int32.ofNat a) S = K flag' S') ∧ SK S S' ∧ zSW nc S' t' ∧ zJ nc ns T t' ∧
      ((flag' = flag ∧ t' = t ∧ ∀ a', a ≤ a' → a' < nc → t a' (eB T s) ≤ t a' (eA T s) + zwt T s (eA T s) (eB T s) ∧ t a' (eA T s) ≤ t a' (eB T s) + zwt T s (eB T s) (eA T s)) ∨ (flag' = 1 ∧ ymu nc t' < ymu nc t)) := by
  intro n
  induction n with
  | zero =>
    intro a fu flag S t hi hf H V J
    have l1 := H.1.2.2.1
    obtain ⟨fu, rfl⟩ : ∃ k, fu = k + 1 := ⟨fu - 1, by omega⟩
    refine ⟨S, t, flag, fun K => ?_, SK_refl S, V, J, .inl ⟨rfl, rfl, fun a' h1 h2 => by omega⟩⟩
    rw [f5_measure_L88, z_ile (by omega) (by omega), if_pos (by omega)]
  | succ n ih =>
    intro a fu flag S t hi hf H V J
    obtain ⟨fu, rfl⟩ : ∃ k, fu = k + 1 := ⟨fu - 1, by omega⟩
    obtain ⟨S1, t1, g1, a1, K1, V1, J1, D1⟩ := y_m88s H V J hs (show a < nc by omega) flag
    obtain ⟨S2, t2, g2, a2, K2, V2, J2, D2⟩ := ih (a + 1) fu g1 S1 t1 (by omega) (by omega) (zH_K H K1) V1 J1
    refine ⟨S2, t2, g2, fun K => (a1 K fu).trans (a2 K), SK_trans K1 K2, V2, J2, ?_⟩
    rcases D1 with ⟨d1, d2, d3⟩ | ⟨d1, d2⟩
    · subst d1; subst d2
      rcases D2 with ⟨e1, e2, e3⟩ | e
      · refine .inl ⟨e1, e2, fun a' h1 h2 => ?_⟩
        by_cases q : a' = a
        · rw [q]; exact d3
        · exact e3 a' (by omega) h2
      · exact .inr e
    · right
      rcases D2 with ⟨e1, e2, e3⟩ | ⟨e1, e2⟩
      · exact ⟨e1.trans d1, by rw [e2]; exact d2⟩
      · exact ⟨e1, Nat.lt_trans e2 d2⟩
theorem y_m72 : ∀ n s fu (flag : Int32) (S : St) (t : Nat → Nat → Nat), s + n = ns → n < fu → zH nc ns Y T S → zSW nc S t → zJ nc ns T t →
    ∃ S' t' flag', (∀ K, f5_measure_L72 (Int32.ofNat nc) (Int32.ofNat ns) Y K fu flag (Int32.ofNat s) S = K flag' S') ∧ SK S S' ∧ zSW nc S' t' ∧ zJ nc ns T t' ∧
      ((flag' = flag ∧ t' = t ∧ ∀ s' a', s ≤ s' → s' < ns → a' < nc → t a' (eB T s') ≤ t a' (eA T s') + zwt T s' (eA T s') (eB T s') ∧ t a' (eA T s') ≤ t a' (eB T s') + zwt T s' (eB T s') (eA T s')) ∨ (flag' = 1 ∧ ymu nc t' < ymu nc t)) := by
  intro n
  induction n with
  | zero =>
    intro a fu flag S t hi hf H V J
    have l1 := H.1.2.2.2
    obtain ⟨fu, rfl⟩ : ∃ k, fu = k + 1 := ⟨fu - 1, by omega⟩
    refine ⟨S, t, flag, fun K => ?_, SK_refl S, V, J, .inl ⟨rfl, rfl, fun a' _ h1 h2 => by omega⟩⟩
    rw [f5_measure_L72, z_ile (by omega) (by omega), if_pos (by omega)]
  | succ n ih =>
    intro s fu flag S t hi hf H V J
    have l1 := H.1.2.2.2
    have l0 := H.1.2.2.1
    have y2 := H.1.2.1
    obtain ⟨fu, rfl⟩ : ∃ k, fu = k + 1 := ⟨fu - 1, by omega⟩
    obtain ⟨S1, t1, g1, a1, K1, V1, J1, D1⟩ := y_m88 (show s < ns by omega) nc 0 xF flag S t (by omega) (by unfold xF; omega) H V J
    obtain ⟨S2, t2, g2, a2, K2, V2, J2, D2⟩ := ih (s + 1) fu g1 S1 t1 (by omega) (by omega) (zH_K H K1) V1 J1
    refine ⟨S2, t2, g2, fun K => ?_, SK_trans K1 K2, V2, J2, ?_⟩
    · rw [f5_measure_L72, z_ile (by omega) (by omega), if_neg (by omega), y2, z_xin (n := s) (by omega) (by omega), gd_t, z_s1]
      exact (a1 _).trans (a2 K)
    rcases D1 with ⟨d1, d2, d3⟩ | ⟨d1, d2⟩
    · subst d1; subst d2
      rcases D2 with ⟨e1, e2, e3⟩ | e
      · refine .inl ⟨e1, e2, fun s' a' h1 h2 h3 => ?_⟩
        by_cases q : s' = s
        · rw [q]; exact d3 a' (by omega) h3
        · exact e3 s' a' (by omega) h2 h3
      · exact .inr e
    · right
      rcases D2 with ⟨e1, e2, e3⟩ | ⟨e1, e2⟩
      · exact ⟨e1.trans d1, by rw [e2]; exact d2⟩
      · exact ⟨e1, Nat.lt_trans e2 d2⟩
theorem y_m54 : ∀ (fu : Nat) (S : St) (t : Nat → Nat → Nat), ymu nc t + 1 < fu → zH nc ns Y T S → zSW nc S t → zJ nc ns T t →
    ∃ S' t', f5_measure_L54 (Int32.ofNat nc) Y fu 1 S = some S' ∧ SK S S' ∧ zSW nc S' t' ∧ zD 1000 nc ns T t' := by
  intro fu
  induction fu with
  | zero => intro S t h; omega
  | succ fu ih =>
    intro S t hf H V J
    have y2 := H.1.2.1
    obtain ⟨S1, t1, g1, a1, K1, V1, J1, D1⟩ := y_m72 ns 0 xF 0 S t (by omega) (by have := H.1.2.2.2; unfold xF; omega) H V J
    have a1' : ∀ K, f5_measure_L72 (Int32.ofNat nc) (Int32.ofNat ns) Y K xF 0 0 S = K g1 S1 := a1
    rcases D1 with ⟨d1, d2, d3⟩ | ⟨d1, d2⟩
    · subst d1; subst d2
      refine ⟨S1, t1, ?_, K1, V1, ?_⟩
      · obtain ⟨fu, rfl⟩ : ∃ k, fu = k + 1 := ⟨fu - 1, by omega⟩
        rw [f5_measure_L54, if_neg (by decide), lt_e, y2, a1', f5_measure_L54, if_pos rfl]
      · obtain ⟨d0, dc, dm⟩ := J1
        have he := H.2.2.2.2.2
        refine zD.mk d0 dc (fun a b c ha hb hc => ?_) (fun s hs => ?_) dm
        · have P : zP 1000 nc ns T (fun x => t1 a x) := ⟨fun x hx => dc a x ha hx, fun s hs => d3 s a (by omega) hs ha⟩
          exact dm _ P c b hc hb
        · obtain ⟨h1, h2⟩ := he s hs
          have q1 := (d3 s (eA T s) (by omega) hs h1).1
          have q2 := (d3 s (eB T s) (by omega) hs h2).2
          have q3 := d0 _ h1; have q4 := d0 _ h2
          omega
    · subst d1
      obtain ⟨S2, t2, b1, K2, V2, D2⟩ := ih S1 t1 (by omega) (zH_K H K1) V1 J1
      refine ⟨S2, t2, ?_, SK_trans K1 K2, V2, D2⟩
      rw [f5_measure_L54, if_neg (by decide), lt_e, y2, a1']
      exact b1
theorem y_m15 {a : Nat} (ha : a < nc) (hn : nc ≤ 12) : ∀ n b fu (S : St), b + n = nc → n < fu → ∃ S', (∀ K, f5_measure_L15 (Int32.ofNat nc) (Int32.ofNat a) K fu (Int32.ofNat b) S = K S') ∧ SK S S' ∧ (∀ b', b ≤ b' → b' < nc → S' (rk 14 a) b' = Int32.ofNat (if a = b' then 0 else 1000)) ∧ (∀ b', b' < b → S' (rk 14 a) b' = S (rk 14 a) b') ∧ ∀ a', a' ≠ a → S' (rk 14 a') = S (rk 14 a') := by
  intro n
  induction n with
  | zero =>
    intro b fu S hi hf
    obtain ⟨fu, rfl⟩ : ∃ k, fu = k + 1 := ⟨fu - 1, by omega⟩
    refine ⟨S, fun K => ?_, SK_refl S, fun b' h1 h2 => by omega, fun _ _ => rfl, fun _ _ => rfl⟩
    rw [f5_measure_L15, z_ile (by omega) (by omega), if_pos (by omega)]
  | succ n ih =>
    intro b fu S hi hf
    obtain ⟨fu, rfl⟩ : ∃ k, fu = k + 1 := ⟨fu - 1, by omega⟩
    obtain ⟨S', a1, K1, a2, a3, a4⟩ := ih (b + 1) fu (up2 S (rk 14 a) b (Int32.ofNat (if a = b then 0 else 1000))) (by omega) (by omega)
    refine ⟨S', fun K => ?_, SK_trans SK_up K1, fun b' h1 h2 => ?_, fun b' h1 => ?_, fun a' h1 => ?_⟩
    · rw [f5_measure_L15, z_ile (by omega) (by omega), if_neg (by omega), z_xin (n := a) (by omega) (by omega), gd_t, lt_e, z_ieq (by omega) (by omega), z_xin (n := b) (by omega) (by omega), z_clamp (n := a) (by omega), z_clamp (n := b) (by omega), z_s1]
      by_cases e : a = b
      · rw [if_pos e]
        dsimp only
        rw [gd_t, lt_e]
        rw [if_pos e] at a1
        exact a1 K
      · rw [if_neg e]
        dsimp only
        rw [gd_t, lt_e]
        rw [if_neg e] at a1
        exact a1 K
    · by_cases e : b' = b
      · rw [e, a3 b (by omega), up2_at]
      · exact a2 b' (by omega) h2
    · rw [a3 b' (by omega), up2_n2 (by omega)]
    · rw [a4 a' h1]; exact up1_ne (rk_ne2 h1)
theorem y_m8 (hn : nc ≤ 12) : ∀ n a fu (S : St), a + n = nc → n < fu → (∀ a' b, a' < a → b < nc → S (rk 14 a') b = Int32.ofNat (if a' = b then 0 else 1000)) → ∃ S', (∀ K, f5_measure_L8 (Int32.ofNat nc) K fu (Int32.ofNat a) S = K S') ∧ SK S S' ∧ zSW nc S' (fun x y => if x = y then 0 else 1000) := by
  intro n
  induction n with
  | zero =>
    intro a fu S hi hf h
    obtain ⟨fu, rfl⟩ : ∃ k, fu = k + 1 := ⟨fu - 1, by omega⟩
    refine ⟨S, fun K => ?_, SK_refl S, fun x y hx hy => h x y (by omega) hy⟩
    rw [f5_measure_L8, z_ile (by omega) (by omega), if_pos (by omega)]
  | succ n ih =>
    intro a fu S hi hf h
    obtain ⟨fu, rfl⟩ : ∃ k, fu = k + 1 := ⟨fu - 1, by omega⟩
    obtain ⟨S1, a1, K1, a2, a3, a4⟩ := y_m15 (show a < nc by omega) hn nc 0 xF S (by omega) (by unfold xF; omega)
    obtain ⟨S', b1, K2, b2⟩ := ih (a + 1) fu S1 (by omega) (by omega) (fun a' b h1 h2 => by
      by_cases e : a' = a
      · rw [e]; exact a2 b (by omega) h2
      · rw [a4 a' e]; exact h a' b (by omega) h2)
    refine ⟨S', fun K => ?_, SK_trans K1 K2, b2⟩
    rw [f5_measure_L8, z_ile (by omega) (by omega), if_neg (by omega), z_s1]
    exact (a1 _).trans (b1 K)
theorem y_measure {S : St} (H : zH nc ns Y T S) : ∃ S' t, f5_measure Y S = some S' ∧ SK S S' ∧ zSW nc S' t ∧ zD 1000 nc ns T t := by
  have y1 := H.1.1
  have l1 := H.1.2.2.1
  obtain ⟨S1, a1, K1, V1⟩ := y_m8 l1 nc 0 xF S (by omega) (by unfold xF; omega) (fun a' b h => by omega)
  have J : zJ nc ns T (fun x y => if x = y then 0 else 1000) := by
    refine ⟨fun a ha => by simp, fun a b ha hb => by simp only []; split <;> omega, fun p P a b ha hb => ?_⟩
    have := P.1 b hb
    by_cases h : a = b
    · simp only [if_pos h]; rw [h]; omega
    · simp only [if_neg h]; omega
  have mu : ymu nc (fun x y => if x = y then 0 else 1000) ≤ nc * (nc * 1000) := by
    refine nsum_cap nc (fun i hi => nsum_cap nc (fun j hj => ?_))
    simp only []; split <;> omega
  have mu2 : nc * (nc * 1000) ≤ 12 * (12 * 1000) := Nat.mul_le_mul l1 (Nat.mul_le_mul l1 (Nat.le_refl _))
  obtain ⟨S2, t, b1, K2, V2, D⟩ := y_m54 xF9 S1 _ (by unfold xF9; omega) (zH_K H K1) V1 J
  refine ⟨S2, t, ?_, SK_trans K1 K2, V2, D⟩
  unfold f5_measure
  rw [lt_e, y1]
  exact (a1 _).trans b1
end
