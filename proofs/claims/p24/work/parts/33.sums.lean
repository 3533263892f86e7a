theorem zsum_comm {f : Nat → Nat → Int32} {n : Nat} : ∀ {m : Nat}, zsum (fun s => zsum (fun l => f l s) n) m = zsum (fun l => zsum (fun s => f l s) m) n := by
  intro m
  induction m with
  | zero => simp only [zsum]; exact zsum_zero.symm
  | succ m ih => simp only [zsum]; rw [ih, ← zsum_add]
theorem z_bsum {nc ns nl np : Nat} {M : St} (B : ZB nc ns nl np M) : zsum (fun s => bsum M nl s) ns = zsum (fun l => M 8 (ix8 l 5)) nl := by
  unfold bsum
  rw [zsum_comm]
  refine zsum_congr (fun l hl => ?_)
  obtain ⟨s, hs, es⟩ := B.lw l hl
  have : zsum (fun s => if M 8 (ix8 l 0) = Int32.ofNat s then M 8 (ix8 l 5) else 0) ns = zsum (fun i => if i = s then M 8 (ix8 l 5) else 0) ns := by
    refine zsum_congr (fun i hi => ?_)
    have l2 := B.l2
    rw [es, z_ieq (by omega) (by omega)]
    by_cases h : i = s
    · rw [if_pos h, if_pos h.symm]
    · rw [if_neg h, if_neg (fun k => h k.symm)]
  rw [this, zsum_one, if_pos hs]
theorem z_burns_L {nc ns nl np : Nat} {M : St} {s : Nat} (B : ZB nc ns nl np M) : ∀ (fu i : Nat), i ≤ nl → nl - i < fu → f3_burns_L4 (Int32.ofNat s) M fu (bsum M i s) (Int32.ofNat i) = some (bsum M nl s) := by
  have l3 := B.l3
  intro fu
  induction fu with
  | zero => intro i h1 h2; omega
  | succ fu ih =>
    intro i h1 h2
    by_cases h : nl ≤ i
    · rw [f3_burns_L4, if_pos (by rw [B.k3, z_le (by omega) (by omega)]; exact h)]
      have : i = nl := by omega
      rw [this]
    · have := ih (i + 1) (by omega) (by omega)
      rw [f3_burns_L4, if_neg (by rw [B.k3, z_le (by omega) (by omega)]; exact h), z_la0 (by omega), bd_e, z_la5 (by omega), z_s1]
      simp only [lt_e, bd_e]
      rw [show bsum M (i + 1) s = bsum M i s + (if M 8 (ix8 i 0) = Int32.ofNat s then M 8 (ix8 i 5) else 0) from rfl] at this
      by_cases h3 : M 8 (ix8 i 0) = Int32.ofNat s
      · rw [if_pos h3] at this ⊢; exact this
      · rw [if_neg h3] at this ⊢; exact this
theorem z_burns {nc ns nl np : Nat} {M : St} {s : Nat} (B : ZB nc ns nl np M) : f3_burns M (Int32.ofNat s) = some (bsum M nl s) := by
  have l3 := B.l3
  exact z_burns_L B xF 0 (by omega) (by unfold xF; omega)
theorem z_all_L {nc ns nl np : Nat} {M : St} {w : Nat} {x : Int32} (hx : x = Int32.ofNat w) (hw : w < 8) (B : ZB nc ns nl np M) : ∀ (fu i : Nat), i ≤ nl → nl - i < fu → f3_all_L4 x M fu (zsum (fun l => M 8 (ix8 l w)) i) (Int32.ofNat i) = some (zsum (fun l => M 8 (ix8 l w)) nl) := by
  have l3 := B.l3
  intro fu
  induction fu with
  | zero => intro i h1 h2; omega
  | succ fu ih =>
    intro i h1 h2
    by_cases h : nl ≤ i
    · rw [f3_all_L4, if_pos (by rw [B.k3, z_le (by omega) (by omega)]; exact h)]
      have : i = nl := by omega
      rw [this]
    · have := ih (i + 1) (by omega) (by omega)
      rw [f3_all_L4, if_neg (by rw [B.k3, z_le (by omega) (by omega)]; exact h), z_la rfl hx (by omega) hw, bd_e, z_s1, lt_e]
      exact this
theorem z_all {nc ns nl np : Nat} {M : St} {w : Nat} {x : Int32} (hx : x = Int32.ofNat w) (hw : w < 8) (B : ZB nc ns nl np M) : f3_all M x = some (zsum (fun l => M 8 (ix8 l w)) nl) := by
  have l3 := B.l3
  exact z_all_L hx hw B xF 0 (by omega) (by unfold xF; omega)
theorem z_oil_L {nc ns nl np : Nat} {T N M : St} (E : ZE nc nl T N M) (B : ZB nc ns nl np M) : ∀ (fu i : Nat), i ≤ nl → nl - i < fu → f0_oilOfLamps_L4 N T fu (zsum (fun l => M 8 (ix8 l 3)) i) (Int32.ofNat i) = some (zsum (fun l => M 8 (ix8 l 3)) nl) := by
  have l3 := B.l3
  intro fu
  induction fu with
  | zero => intro i h1 h2; omega
  | succ fu ih =>
    intro i h1 h2
    by_cases h : nl ≤ i
    · rw [f0_oilOfLamps_L4, if_pos (by rw [E.c7, B.k3, z_le (by omega) (by omega)]; exact h)]
      have : i = nl := by omega
      rw [this]
    · have := ih (i + 1) (by omega) (by omega)
      rw [f0_oilOfLamps_L4, if_neg (by rw [E.c7, B.k3, z_le (by omega) (by omega)]; exact h), z_xin (by omega) (by omega), gd_t, z_clamp (by omega), E.n4 i (by omega), z_s1, lt_e]
      exact this
theorem z_oil {nc ns nl np : Nat} {T N M : St} (E : ZE nc nl T N M) (B : ZB nc ns nl np M) : f0_oilOfLamps N T = some (zsum (fun l => M 8 (ix8 l 3)) nl) := by
  have l3 := B.l3
  exact z_oil_L E B xF 0 (by omega) (by unfold xF; omega)
theorem z_bl_L {nc ns nl np : Nat} {T N M : St} (E : ZE nc nl T N M) (B : ZB nc ns nl np M) : ∀ (fu i : Nat), i ≤ ns → ns - i < fu → f0_burningLamps_L4 N T fu (zsum (fun s => bsum M nl s) i) (Int32.ofNat i) = some (zsum (fun s => bsum M nl s) ns) := by
  have l2 := B.l2
  intro fu
  induction fu with
  | zero => intro i h1 h2; omega
  | succ fu ih =>
    intro i h1 h2
    by_cases h : ns ≤ i
    · rw [f0_burningLamps_L4, if_pos (by rw [E.c3, B.k2, z_le (by omega) (by omega)]; exact h)]
      have : i = ns := by omega
      rw [this]
    · have := ih (i + 1) (by omega) (by omega)
      rw [f0_burningLamps_L4, if_neg (by rw [E.c3, B.k2, z_le (by omega) (by omega)]; exact h), z_xin (by omega) (by omega), gd_t, z_clamp (by omega), E.n3 i (by omega), z_s1, lt_e]
      exact this
theorem z_bl {nc ns nl np : Nat} {T N M : St} (E : ZE nc nl T N M) (B : ZB nc ns nl np M) : f0_burningLamps N T = some (zsum (fun l => M 8 (ix8 l 5)) nl) := by
  have l2 := B.l2
  rw [← z_bsum B]
  exact z_bl_L E B xF 0 (by omega) (by unfold xF; omega)
def zdk (M : St) (nl n : Nat) : Int32 := zsum (fun s => if bsum M nl s = 0 then 1 else 0) n
theorem z_dark_L {nc ns nl np : Nat} {T N M : St} (E : ZE nc nl T N M) (B : ZB nc ns nl np M) : ∀ (fu i : Nat), i ≤ ns → ns - i < fu → f0_darkStreets_L4 N T fu (zdk M nl i) (Int32.ofNat i) = some (zdk M nl ns) ∧ f3_dark_L4 M fu (zdk M nl i) (Int32.ofNat i) = some (zdk M nl ns) := by
  have l2 := B.l2
  intro fu
  induction fu with
  | zero => intro i h1 h2; omega
  | succ fu ih =>
    intro i h1 h2
    by_cases h : ns ≤ i
    · rw [f0_darkStreets_L4, f3_dark_L4, if_pos (by rw [E.c3, B.k2, z_le (by omega) (by omega)]; exact h), if_pos (by rw [B.k2, z_le (by omega) (by omega)]; exact h)]
      have : i = ns := by omega
      rw [this]; exact ⟨rfl, rfl⟩
    · have := ih (i + 1) (by omega) (by omega)
      have e : f0_isDark N (Int32.ofNat i) = some (if bsum M nl i = 0 then 1 else 0) := by
        unfold f0_isDark
        rw [z_xin (by omega) (by omega), gd_t, z_clamp (by omega), E.n3 i (by omega)]
        split <;> rfl
      rw [f0_darkStreets_L4, f3_dark_L4, if_neg (by rw [E.c3, B.k2, z_le (by omega) (by omega)]; exact h), if_neg (by rw [B.k2, z_le (by omega) (by omega)]; exact h), e, bd_e, z_burns B, bd_e, z_s1]
      simp only [lt_e]
      rw [show zdk M nl (i + 1) = zdk M nl i + (if bsum M nl i = 0 then 1 else 0) from rfl] at this
      by_cases h3 : bsum M nl i = 0
      · rw [if_pos h3] at this; rw [if_pos h3, if_pos h3, if_neg (by decide)]; exact this
      · rw [if_neg h3] at this; rw [if_neg h3, if_neg h3, if_pos rfl]
        rw [Int32.add_zero] at this ⊢; exact this
theorem z_dark {nc ns nl np : Nat} {T N M : St} (E : ZE nc nl T N M) (B : ZB nc ns nl np M) : f0_darkStreets N T = some (zdk M nl ns) ∧ f3_dark M = some (zdk M nl ns) := by
  have l2 := B.l2
  exact z_dark_L E B xF 0 (by omega) (by unfold xF; omega)
theorem z_isIn (x lo hi : Int32) : f3_isIn x lo hi = some (if x < lo then 0 else if hi < x then 0 else 1) := by
  unfold f3_isIn; split
  · rfl
  · split <;> rfl
theorem z_rng (x lo hi : Int32) : (f2_requireRange x lo hi = some (.inl 1) ∧ f3_isIn x lo hi = some 0) ∨ (f2_requireRange x lo hi = some (.inr ()) ∧ f3_isIn x lo hi = some 1 ∧ lo ≤ x ∧ x ≤ hi) := by
  rw [z_isIn]; unfold f2_requireRange
  simp only [lt_e]
  by_cases h : x < lo
  · left; rw [if_pos h, if_pos h]; exact ⟨rfl, rfl⟩
  · rw [if_neg h, if_neg h]
    by_cases h2 : hi < x
    · left; rw [if_pos h2, if_neg (Int32.not_le.mpr h2)]; exact ⟨rfl, rfl⟩
    · right; rw [if_neg h2, if_pos (Int32.not_lt.mp h2)]; exact ⟨rfl, rfl, Int32.not_lt.mp h, Int32.not_lt.mp h2⟩
theorem z_rngN {x : Int32} {lo hi : Nat} (hl : lo < 2147483648) (hh : hi < 2147483648) (h1 : Int32.ofNat lo ≤ x) (h2 : x ≤ Int32.ofNat hi) : ∃ n, lo ≤ n ∧ n ≤ hi ∧ x = Int32.ofNat n := by
  have h0 : 0 ≤ x := by
    rw [Int32.le_iff_toInt_le] at h1 ⊢
    rw [z_int hl] at h1; simp; omega
  obtain ⟨n, hn, e⟩ := z_nat h0
  subst e
  rw [z_le hl hn] at h1; rw [z_le hn hh] at h2
  exact ⟨n, h1, h2, rfl⟩
theorem z_idx (x : Int32) {n : Nat} (hn : n ≤ 1000) : (f2_requireIndex x (Int32.ofNat n) = some (.inl 3) ∧ f3_isIn x 0 (Int32.ofNat n - 1) = some 0) ∨ ∃ i, i < n ∧ x = Int32.ofNat i ∧ f2_requireIndex x (Int32.ofNat n) = some (.inr ()) ∧ f3_isIn x 0 (Int32.ofNat n - 1) = some 1 := by
  rw [z_isIn]; unfold f2_requireIndex
  simp only [lt_e]
  by_cases h : x < 0
  · left; rw [if_pos h, if_pos h]; exact ⟨rfl, rfl⟩
  · rw [if_neg h, if_neg h]
    obtain ⟨i, hi, e⟩ := z_nat (Int32.not_lt.mp h)
    subst e
    cases n with
    | zero =>
      left
      rw [if_neg (by rw [z_lt (by omega) (by omega)]; omega), if_pos]
      · exact ⟨rfl, rfl⟩
      · rw [Int32.lt_iff_toInt_lt, z_int hi]; have : (Int32.ofNat 0 - 1).toInt = -1 := by decide
        rw [this]; omega
    | succ n =>
      rw [z_p1]
      by_cases h2 : i < n + 1
      · right
        refine ⟨i, h2, rfl, ?_, ?_⟩
        · rw [if_pos (by rw [z_lt (by omega) (by omega)]; exact h2)]
        · rw [if_neg (by rw [z_lt (by omega) (by omega)]; omega)]
      · left
        rw [if_neg (by rw [z_lt (by omega) (by omega)]; exact h2), if_pos (by rw [z_lt (by omega) (by omega)]; omega)]
        exact ⟨rfl, rfl⟩
theorem z_room {n m : Nat} (hn : n ≤ m) (hm : m < 1000) {y : Int32} (hy : y = Int32.ofNat m) : (f2_requireRoom (Int32.ofNat n) y = some (.inl 2) ∧ n = m) ∨ (f2_requireRoom (Int32.ofNat n) y = some (.inr ()) ∧ n < m) := by
  subst hy
  unfold f2_requireRoom
  by_cases h : n < m
  · right; rw [if_pos (by rw [z_lt (by omega) (by omega)]; exact h)]; exact ⟨rfl, h⟩
  · left; rw [if_neg (by rw [z_lt (by omega) (by omega)]; exact h)]; exact ⟨rfl, by omega⟩
theorem bx0_l {β : Type} (e : Nat) (k : Option (Nat ⊕ β)) : bx0 (some (.inl e)) k = some (.inl e) := rfl
theorem bx0_r {β : Type} (u : Unit) (k : Option (Nat ⊕ β)) : bx0 (some (.inr u)) k = k := rfl
theorem bx1_r {α β : Type} (u : α) (k : α → Option (Nat ⊕ β)) : bx1 (some (.inr u)) k = k u := rfl
def eA (T : St) (s : Nat) : Nat := (T 4 s).toNatClampNeg
def eB (T : St) (s : Nat) : Nat := (T 5 s).toNatClampNeg
def zwt (T : St) (s a b : Nat) : Nat := (T 6 s).toNatClampNeg + ((T 1 b).toNatClampNeg - (T 1 a).toNatClampNeg) / 2
def zP (C nc ns : Nat) (T : St) (p : Nat → Nat) : Prop := (∀ a, a < nc → p a ≤ C) ∧ ∀ s, s < ns → p (eB T s) ≤ p (eA T s) + zwt T s (eA T s) (eB T s) ∧ p (eA T s) ≤ p (eB T s) + zwt T s (eB T s) (eA T s)
def zD (C nc ns : Nat) (T : St) (t : Nat → Nat → Nat) : Prop :=
  (∀ a, a < nc → t a a = 0) ∧
  (∀ a b, a < nc → b < nc → t a b ≤ C) ∧
  (∀ a b c, a < nc → b < nc → c < nc → t a b ≤ t a c + t c b) ∧
  (∀ s, s < ns → t (eA T s) (eB T s) ≤ zwt T s (eA T s) (eB T s) ∧ t (eB T s) (eA T s) ≤ zwt T s (eB T s) (eA T s)) ∧
  (∀ p, zP C nc ns T p → ∀ a b, a < nc → b < nc → p b ≤ p a + t a b)
theorem zD.mk {C nc ns : Nat} {T : St} {t : Nat → Nat → Nat} (d0 : ∀ a, a < nc → t a a = 0) (dc : ∀ a b, a < nc → b < nc → t a b ≤ C) (dt : ∀ a b c, a < nc → b < nc → c < nc → t a b ≤ t a c + t c b) (de : ∀ s, s < ns → t (eA T s) (eB T s) ≤ zwt T s (eA T s) (eB T s) ∧ t (eB T s) (eA T s) ≤ zwt T s (eB T s) (eA T s)) (dm : ∀ p, zP C nc ns T p → ∀ a b, a < nc → b < nc → p b ≤ p a + t a b) : zD C nc ns T t := ⟨d0, dc, dt, de, dm⟩
theorem zD.d0 {C nc ns : Nat} {T : St} {t : Nat → Nat → Nat} (h : zD C nc ns T t) : ∀ a, a < nc → t a a = 0 := h.1
theorem zD.dc {C nc ns : Nat} {T : St} {t : Nat → Nat → Nat} (h : zD C nc ns T t) : ∀ a b, a < nc → b < nc → t a b ≤ C := h.2.1
theorem zD.dt {C nc ns : Nat} {T : St} {t : Nat → Nat → Nat} (h : zD C nc ns T t) : ∀ a b c, a < nc → b < nc → c < nc → t a b ≤ t a c + t c b := h.2.2.1
theorem zD.de {C nc ns : Nat} {T : St} {t : Nat → Nat → Nat} (h : zD C nc ns T t) : ∀ s, s < ns → t (eA T s) (eB T s) ≤ zwt T s (eA T s) (eB T s) ∧ t (eB T s) (eA T s) ≤ zwt T s (eB T s) (eA T s) := h.2.2.2.1
theorem zD.dm {C nc ns : Nat} {T : St} {t : Nat → Nat → Nat} (h : zD C nc ns T t) : ∀ p, zP C nc ns T p → ∀ a b, a < nc → b < nc → p b ≤ p a + t a b := h.2.2.2.2
def ZW (nc ns : Nat) (T : St) : Prop := ∃ t, (∀ a b, a < nc → b < nc → T (100 + a) b = Int32.ofNat (t a b)) ∧ zD 1000000 nc ns T t
def ZR (T N M : St) : Prop := ∃ nc ns nl np, ZE nc nl T N M ∧ ZB nc ns nl np M ∧ ZW nc ns T
theorem ZE_0 {nc nl : Nat} {T N M : St} {x : Int32} (E : ZE nc nl T N M) : ZE nc nl T N (up2 M 0 0 x) := (ZE.mk (E.c0) (E.c3) (E.c7) (E.c12) (E.h1) (E.w11) (E.t4) (E.t5) (E.t6) (E.t8) (E.t9) (E.t10) (E.n4) (E.n5) (E.n6) (E.n7) (E.n8) (E.t13) (E.n9) (E.t14) (E.n10) (E.t15) (E.n11) (E.n13) (E.n12) (E.n14) (E.n15) (E.rd) (E.n0) (E.n1) (E.n2) (E.n3) (E.wy))
theorem ZB_0 {nc ns nl np : Nat} {M : St} {x : Int32} (B : ZB nc ns nl np M) : ZB nc ns nl np (up2 M 0 0 x) := (ZB.mk (B.k1) (B.k2) (B.k3) (B.k4) (B.l1) (B.l2) (B.l3) (B.l4) (B.hi) (B.sa) (B.sb) (B.sl) (B.lw) (B.lo) (B.lb) (B.wd) (B.ph) (B.pa) (B.pc) (B.pl) (B.pg) (B.pd) (B.mi) (B.zl) (B.zp) (B.wy))
theorem z_fail (M : St) (x : Int32) : f3_fail M x = some (0, up2 M 0 0 x) := rfl
theorem z_th (M : St) (x : Int32) : up2 M 0 0 x 0 0 = x := by simp [z_up]
theorem ZW_of {nc ns : Nat} {T T' : St} (W : ZW nc ns T) (h1 : T' 1 = T 1) (h4 : T' 4 = T 4) (h5 : T' 5 = T 5) (h6 : T' 6 = T 6) (hw : ∀ a, a < nc → T' (100 + a) = T (100 + a)) : ZW nc ns T' := by
  obtain ⟨t, h, D⟩ := W
  have ea : eA T' = eA T := by funext s; unfold eA; rw [h4]
  have eb : eB T' = eB T := by funext s; unfold eB; rw [h5]
  have ew : zwt T' = zwt T := by funext s a b; unfold zwt; rw [h6, h1]
  refine ⟨t, fun a b ha hb => by rw [hw a ha]; exact h a b ha hb, ?_⟩
  exact (zD.mk (D.d0) (D.dc) (D.dt) (by rw [ea, eb, ew]; exact D.de) (fun p hp => D.dm p (by unfold zP at hp ⊢; rw [ea, eb, ew] at hp; exact hp)))
theorem ZW_up {nc ns : Nat} {T : St} {k i : Nat} {x : Int32} (W : ZW nc ns T) (hk : 7 ≤ k) (hk2 : k < 100) : ZW nc ns (up2 T k i x) := by
  refine ZW_of W ?_ ?_ ?_ ?_ (fun a _ => ?_) <;> funext j <;> rw [z_up, if_neg (by omega)]
theorem z_lid {T N M : St} (R : ZR T N M) (G F : St) (p1 p2 : Int32) :
    (∃ e M', f2_lid G N F T p1 p2 = some (.inl e) ∧ f3_lid M p1 p2 = some (0, M') ∧ ((e = 3 ∧ M' 0 0 = 1) ∨ (e = 1 ∧ M' 0 0 = 2)) ∧ ZR T N M') ∨
    (∃ r T' M', f2_lid G N F T p1 p2 = some (.inr (r, T')) ∧ f3_lid M p1 p2 = some (r, M') ∧ M' 0 0 = 0 ∧ ZR T' N M') := by
  obtain ⟨nc, ns, nl, np, E, B, W⟩ := R
  have l3 := B.l3
  have k3 : (up2 M 0 0 0) 3 0 = Int32.ofNat nl := B.k3
  unfold f2_lid f3_lid f3_isLamp
  simp only [lt_e]
  rw [E.c7, B.k3, k3]
  rcases z_idx p1 (n := nl) (by omega) with ⟨h1, h2⟩ | ⟨l, hl, el, h1, h2⟩
  · left
    rw [h1, bx0_l, h2, bd_e, bd_e, if_pos rfl, z_fail, bd2_e]
    exact ⟨_, _, rfl, rfl, .inl ⟨rfl, z_th _ _⟩, nc, ns, nl, np, ZE_0 (ZE_0 E), ZB_0 (ZB_0 B), W⟩
  · rw [h1, bx0_r, h2, bd_e, bd_e, if_neg (show ¬ (1 : Int32) = 0 by decide)]
    rcases z_rng p2 0 9 with ⟨h3, h4⟩ | ⟨h3, h4, h5, h6⟩
    · left
      rw [h3, bx0_l, h4, bd_e, if_pos rfl, z_fail, bd2_e]
      exact ⟨_, _, rfl, rfl, .inr ⟨rfl, z_th _ _⟩, nc, ns, nl, np, ZE_0 (ZE_0 E), ZB_0 (ZB_0 B), W⟩
    · right
      subst el
      rw [h3, bx0_r, h4, bd_e, if_neg (show ¬ (1 : Int32) = 0 by decide), z_xin (by omega) (by omega), gd_t, z_la2 (by omega), bd_e, z_setLamp2 (by omega), bd_e, z_clamp (by omega)]
      refine ⟨T 10 l, up2 T 10 l p2, up2 (up2 M 0 0 0) 8 (ix8 l 2) p2, rfl, ?_, ?_, nc, ns, nl, np, ?_, ?_, ZW_up W (by decide) (by decide)⟩
      · rw [E.t10]; rfl
      · exact z_th M 0
      · exact (ZE.mk (E.c0) (E.c3) (E.c7) (E.c12) (E.h1) (E.w11) (E.t4) (E.t5) (E.t6) (fun q => by simp [z_up, ix8_eq, E.t8]) (fun q => by simp [z_up, ix8_eq, E.t9]) (fun q => by simp [z_up, ix8_eq, E.t10]) (fun q hq => by simp [z_up, ix8_eq, E.n4 q hq]) (fun q hq => by simp [z_up, ix8_eq, E.n5 q hq]) (fun q hq => by simp [z_up, ix8_eq, E.n6 q hq]) (fun q hq => by simp [z_up, ix8_eq, E.n7 q hq]) (fun q hq => by simp [z_up, ix8_eq, E.n8 q hq]) (E.t13) (E.n9) (E.t14) (E.n10) (E.t15) (E.n11) (E.n13) (E.n12) (E.n14) (E.n15) (fun p k hk => by rw [z_up, if_neg (by omega)]; exact E.rd p k hk) (E.n0) (E.n1) (E.n2) (fun s hs => by
            rw [bsum_same (M := M) (by intro i; simp [z_up, ix8_eq]) (by intro i; simp [z_up, ix8_eq])]
            exact E.n3 s hs) (fun a b ha hb => by rw [z_up, if_neg (by omega)]; exact E.wy a b ha hb))
      · exact (ZB.mk (B.k1) (B.k2) (B.k3) (B.k4) (B.l1) (B.l2) (B.l3) (B.l4) (B.hi) (B.sa) (B.sb) (B.sl) (fun i hi => by simpa [z_up, ix8_eq] using B.lw i hi) (fun i => by simpa [z_up, ix8_eq] using B.lo i) (fun i => by simpa [z_up, ix8_eq] using B.lb i) (B.wd) (B.ph) (B.pa) (B.pc) (B.pl) (fun p hp => by
            have := B.pg p hp
            unfold ZG at this ⊢
            simpa [z_up, ix8_eq] using this) (B.pd) (B.mi) (fun i w hi hw => by
            have h : ¬ i = l := by omega
            simpa [z_up, ix8_eq, hw, h] using B.zl i w hi hw) (B.zp) (B.wy))
theorem z_setWind {T N M : St} (R : ZR T N M) (G F : St) (p1 p2 : Int32) :
    (∃ e M', f2_setWind G N F T p1 p2 = some (.inl e) ∧ f3_setWind M p1 p2 = some (0, M') ∧ ((e = 3 ∧ M' 0 0 = 1) ∨ (e = 1 ∧ M' 0 0 = 2)) ∧ ZR T N M') ∨
    (∃ r T' M', f2_setWind G N F T p1 p2 = some (.inr (r, T')) ∧ f3_setWind M p1 p2 = some (r, M') ∧ M' 0 0 = 0 ∧ ZR T' N M') := by
  obtain ⟨nc, ns, nl, np, E, B, W⟩ := R
  unfold f2_setWind f3_setWind
  simp only [lt_e]
  rcases z_idx p1 (n := 10) (by omega) with ⟨h1, h2⟩ | ⟨l, hl, el, h1, h2⟩
  · left
    rw [show (10 : Int32) = Int32.ofNat 10 from rfl, h1, bx0_l, show (9 : Int32) = Int32.ofNat 10 - 1 from rfl, h2, bd_e, if_pos rfl, z_fail, bd2_e]
    exact ⟨_, _, rfl, rfl, .inl ⟨rfl, z_th _ _⟩, nc, ns, nl, np, ZE_0 (ZE_0 E), ZB_0 (ZB_0 B), W⟩
  · have h2' : f3_isIn p1 0 9 = some 1 := h2
    have h1' : f2_requireIndex p1 10 = some (.inr ()) := h1
    rw [h1', bx0_r, h2', bd_e, if_neg (show ¬ (1 : Int32) = 0 by decide)]
    rcases z_rng p2 0 9 with ⟨h3, h4⟩ | ⟨h3, h4, h5, h6⟩
    · left
      rw [h3, bx0_l, h4, bd_e, if_pos rfl, z_fail, bd2_e]
      exact ⟨_, _, rfl, rfl, .inr ⟨rfl, z_th _ _⟩, nc, ns, nl, np, ZE_0 (ZE_0 E), ZB_0 (ZB_0 B), W⟩
    · right
      subst el
      obtain ⟨w, hw0, hw1, ew⟩ := z_rngN (lo := 0) (hi := 9) (by omega) (by omega) h5 h6
      rw [h3, bx0_r, h4, bd_e, if_neg (show ¬ (1 : Int32) = 0 by decide), z_xin (by omega) (by omega), gd_t, gd_t, z_clamp (by omega)]
      refine ⟨T 11 l, up2 T 11 l p2, up2 (up2 M 0 0 0) 11 l p2, rfl, ?_, ?_, nc, ns, nl, np, ?_, ?_, ZW_up W (by decide) (by decide)⟩
      · rw [E.w11]; rfl
      · exact z_th M 0
      · exact (ZE.mk (E.c0) (E.c3) (E.c7) (E.c12) (E.h1) (by funext x; simp [up2, up1, upd, E.w11]) (E.t4) (E.t5) (E.t6) (E.t8) (E.t9) (E.t10) (E.n4) (E.n5) (E.n6) (E.n7) (E.n8) (E.t13) (E.n9) (E.t14) (E.n10) (E.t15) (E.n11) (E.n13) (E.n12) (E.n14) (E.n15) (fun p k hk => by rw [z_up, if_neg (by omega)]; exact E.rd p k hk) (E.n0) (E.n1) (E.n2) (E.n3) (fun a b ha hb => by rw [z_up, if_neg (by omega)]; exact E.wy a b ha hb))
      · exact (ZB.mk (B.k1) (B.k2) (B.k3) (B.k4) (B.l1) (B.l2) (B.l3) (B.l4) (B.hi) (B.sa) (B.sb) (B.sl) (B.lw) (B.lo) (B.lb) (fun h => by
            by_cases e : h = l
            · subst e; exact ⟨w, hw1, by simp [z_up, ew]⟩
            · simpa [z_up, e] using B.wd h) (B.ph) (B.pa) (B.pc) (B.pl) (B.pg) (B.pd) (B.mi) (B.zl) (B.zp) (B.wy))
theorem z_fill {T N M : St} (R : ZR T N M) (G F : St) (p1 p2 : Int32) :
    (∃ e M', f2_fill G N F T p1 p2 = some (.inl e) ∧ f3_fill M p1 p2 = some (0, M') ∧ ((e = 3 ∧ M' 0 0 = 1) ∨ (e = 1 ∧ M' 0 0 = 2)) ∧ ZR T N M') ∨
    (∃ r N' M', f2_fill G N F T p1 p2 = some (.inr (r, N')) ∧ f3_fill M p1 p2 = some (r, M') ∧ M' 0 0 = 0 ∧ ZR T N' M') := by
  obtain ⟨nc, ns, nl, np, E, B, W⟩ := R
  have l4 := B.l4
  have k4 : (up2 M 0 0 0) 4 0 = Int32.ofNat np := B.k4
  unfold f2_fill f3_fill f3_isLighter
  simp only [lt_e]
  rw [E.c12, B.k4, k4]
  rcases z_idx p1 (n := np) (by omega) with ⟨h1, h2⟩ | ⟨p, hp, ep, h1, h2⟩
  · left
    rw [h1, bx0_l, h2, bd_e, bd_e, if_pos rfl, z_fail, bd2_e]
    exact ⟨_, _, rfl, rfl, .inl ⟨rfl, z_th _ _⟩, nc, ns, nl, np, ZE_0 (ZE_0 E), ZB_0 (ZB_0 B), W⟩
  · rw [h1, bx0_r, h2, bd_e, bd_e, if_neg (show ¬ (1 : Int32) = 0 by decide)]
    rcases z_rng p2 1 999 with ⟨h3, h4⟩ | ⟨h3, h4, h5, h6⟩
    · left
      rw [h3, bx0_l, h4, bd_e, if_pos rfl, z_fail, bd2_e]
      exact ⟨_, _, rfl, rfl, .inr ⟨rfl, z_th _ _⟩, nc, ns, nl, np, ZE_0 (ZE_0 E), ZB_0 (ZB_0 B), W⟩
    · right
      subst ep
      obtain ⟨w, hw0, hw1, ew⟩ := z_rngN (lo := 1) (hi := 999) (by omega) (by omega) h5 h6
      obtain ⟨o, ho, eo⟩ := B.pc p
      have e3 : (up2 M 0 0 0) 9 (ix10 p 3) = Int32.ofNat o := eo
      have ex : (if Int32.ofNat o + p2 < 999 then Int32.ofNat o + p2 else 999) = Int32.ofNat (min (o + w) 999) := by
        rw [ew, z_add, show (999 : Int32) = Int32.ofNat 999 from rfl, z_ilt (by omega) (by omega)]
        split <;> congr 1 <;> omega
      rw [h3, bx0_r, h4, bd_e, if_neg (show ¬ (1 : Int32) = 0 by decide), z_xin (by omega) (by omega), gd_t, z_pe3 (by omega), bd_e, e3, ex, z_put3 (by omega), bd_e, z_pe3 (by omega), bd_e, z_clamp (by omega), E.n10 p (by omega), eo, ex]
      refine ⟨Int32.ofNat (min (o + w) 999), up2 N 10 p (Int32.ofNat (min (o + w) 999)), up2 (up2 M 0 0 0) 9 (ix10 p 3) (Int32.ofNat (min (o + w) 999)), ?_, ?_, ?_, nc, ns, nl, np, ?_, ?_, W⟩
      · rw [show up2 N 10 p (Int32.ofNat (min (o + w) 999)) 10 p = Int32.ofNat (min (o + w) 999) by simp [z_up]]
      · rw [show up2 (up2 M 0 0 0) 9 (ix10 p 3) (Int32.ofNat (min (o + w) 999)) 9 (ix10 p 3) = Int32.ofNat (min (o + w) 999) by simp [z_up]]
      · exact z_th M 0
      · exact (ZE.mk (E.c0) (E.c3) (E.c7) (E.c12) (E.h1) (E.w11) (E.t4) (E.t5) (E.t6) (E.t8) (E.t9) (E.t10) (E.n4) (E.n5) (E.n6) (E.n7) (E.n8) (fun q => by simp [z_up, ix10_eq, E.t13]) (fun q hq => by simp [z_up, ix10_eq, E.n9 q hq]) (fun q => by simp [z_up, ix10_eq, E.t14]) (fun q hq => by simp [z_up, ix10_eq, E.n10 q hq]) (fun q => by simp [z_up, ix10_eq, E.t15]) (fun q hq => by simp [z_up, ix10_eq, E.n11 q hq]) (fun q hq => by simp [z_up, ix10_eq, E.n13 q hq]) (fun q hq => by simpa [z_up, ix10_eq] using E.n12 q hq) (fun q hq => by simp [z_up, ix10_eq, E.n14 q hq]) (fun q hq => by simp [z_up, ix10_eq, E.n15 q hq]) (E.rd) (E.n0) (E.n1) (E.n2) (E.n3) (E.wy))
      · exact (ZB.mk (B.k1) (B.k2) (B.k3) (B.k4) (B.l1) (B.l2) (B.l3) (B.l4) (B.hi) (B.sa) (B.sb) (B.sl) (B.lw) (B.lo) (B.lb) (B.wd) (fun q hq => by simpa [z_up, ix10_eq] using B.ph q hq) (fun q hq => by simpa [z_up, ix10_eq] using B.pa q hq) (fun q => by
            by_cases h : q = p
            · subst h; exact ⟨min (o + w) 999, by omega, by simp [z_up]⟩
            · simpa [z_up, ix10_eq, h] using B.pc q) (fun q hq => by simpa [z_up, ix10_eq] using B.pl q hq) (fun q hq => by
            have := B.pg q hq
            unfold ZG at this ⊢
            by_cases h : q = p
            · subst h
              rcases this with g | ⟨l', a1, a2, a3, a4, a5, a6⟩
              · left; simpa [z_up, ix10_eq] using g
              · right
                refine ⟨l', a1, by simpa [z_up, ix10_eq] using a2, a3, by simpa [z_up, ix10_eq] using a4, by simpa [z_up, ix10_eq] using a5, .inl ?_⟩
                have : up2 (up2 M 0 0 0) 9 (ix10 q 3) (Int32.ofNat (min (o + w) 999)) 9 (ix10 q 3) = Int32.ofNat (min (o + w) 999) := by simp [z_up]
                rw [this, z_l0, Ne, z_inj (by omega) (by omega)]; omega
            · simpa [z_up, ix10_eq, h] using this) (fun q r hq hr' hqr => by simpa [z_up, ix10_eq] using B.pd q r hq hr' hqr) (B.mi) (B.zl) (fun q w hq hw => by
            have h : ¬ q = p := by omega
            simpa [z_up, ix10_eq, hw, h] using B.zp q w hq hw) (B.wy))
theorem z_inR {nc ns nl np : Nat} {T N M : St} {p k : Nat} (E : ZE nc nl T N M) (hp : p < 4) (hk : k ≤ 10) (ek : M 9 (ix10 p 4) = Int32.ofNat k) (y : Int32) : ∀ (fu i : Nat) (a : Int32), (a = 0 ∨ a = 1) → i ≤ k → k - i < fu →
    ∃ b, (b = 0 ∨ b = 1) ∧ f1_isInRound_L2 (Int32.ofNat p) y T fu (Int32.ofNat i) = some b ∧ ∀ K, f3_round_L40 (Int32.ofNat p) y (Int32.ofNat k) (up2 M 0 0 0) K fu a (Int32.ofNat i) = K (if a = 1 then 1 else b) := by
  intro fu
  induction fu with
  | zero => intro i a ha h1 h2; omega
  | succ fu ih =>
    intro i a ha h1 h2
    rw [f1_isInRound_L2, z_xin (by omega) (by omega), gd_t, z_clamp (by omega), E.t15, ek]
    by_cases h : k ≤ i
    · refine ⟨0, .inl rfl, ?_, ?_⟩
      · rw [if_pos (by rw [z_le (by omega) (by omega)]; exact h)]
      · intro K; rw [f3_round_L40, if_pos (by rw [z_le (by omega) (by omega)]; exact h)]
        rcases ha with e | e <;> rw [e] <;> rfl
    · have e10 : (10 : Int32) * Int32.ofNat p + Int32.ofNat i = Int32.ofNat (ix10 p i) := z_s10
      have hm : ∀ K, f3_round_L40 (Int32.ofNat p) y (Int32.ofNat k) (up2 M 0 0 0) K (fu + 1) a (Int32.ofNat i) = f3_round_L40 (Int32.ofNat p) y (Int32.ofNat k) (up2 M 0 0 0) K fu (a ||| if M 10 (ix10 p i) = y then 1 else 0) (Int32.ofNat (i + 1)) := by
        intro K
        rw [f3_round_L40, if_neg (by rw [z_le (by omega) (by omega)]; exact h), e10, z_xin (by unfold ix10; omega) (by unfold ix10; omega), gd_t, z_clamp (by unfold ix10; omega), z_s1]
        simp only [lt_e]
        rw [show (up2 M 0 0 0) 10 = M 10 from rfl]
        split <;> rfl
      rw [if_neg (by rw [z_le (by omega) (by omega)]; exact h), z_xin (by omega) (by omega), gd_t, z_clamp (by omega), E.rd p i (by omega), z_s1]
      by_cases e : M 10 (ix10 p i) = y
      · have ha1 : (a ||| (1 : Int32)) = 1 := by rcases ha with e | e <;> rw [e] <;> decide
        obtain ⟨b, b1, b2, b3⟩ := ih (i + 1) 1 (.inr rfl) (by omega) (by omega)
        refine ⟨1, .inr rfl, by rw [if_pos e], fun K => ?_⟩
        rw [hm, if_pos e, ha1, b3, if_pos rfl]
        rcases ha with e | e <;> rw [e] <;> rfl
      · have ha1 : (a ||| (0 : Int32)) = a := by rcases ha with e | e <;> rw [e] <;> decide
        obtain ⟨b, b1, b2, b3⟩ := ih (i + 1) a ha (by omega) (by omega)
        refine ⟨b, b1, by rw [if_neg e, b2], fun K => ?_⟩
        rw [hm, if_neg e, ha1, b3]
theorem z_round {T N M : St} (R : ZR T N M) (G F : St) (p1 p2 : Int32) :
    (∃ e M', f2_round G N F T p1 p2 = some (.inl e) ∧ f3_round M p1 p2 = some (0, M') ∧ ((e = 3 ∧ M' 0 0 = 1) ∨ (e = 2 ∧ M' 0 0 = 2)) ∧ ZR T N M') ∨
    (∃ r T' M', f2_round G N F T p1 p2 = some (.inr (r, T')) ∧ f3_round M p1 p2 = some (r, M') ∧ M' 0 0 = 0 ∧ ZR T' N M') := by
  obtain ⟨nc, ns, nl, np, E, B, W⟩ := R
  have l3 := B.l3; have l4 := B.l4
  have k4 : (up2 M 0 0 0) 4 0 = Int32.ofNat np := B.k4
  have k3 : (up2 M 0 0 0) 3 0 = Int32.ofNat nl := B.k3
  have F1 : ∀ x, ZR T N (up2 (up2 M 0 0 0) 0 0 x) := fun x => ⟨nc, ns, nl, np, ZE_0 (ZE_0 E), ZB_0 (ZB_0 B), W⟩
  unfold f2_round f3_round f3_isLighter f3_isLamp
  simp only [lt_e]
  rw [E.c12, E.c7, B.k4, B.k3, k4, k3]
  rcases z_idx p1 (n := np) (by omega) with ⟨h1, h2⟩ | ⟨p, hp, ep, h1, h2⟩
  · left
    rw [h1, bx0_l, h2, bd_e, bd_e, if_pos rfl, z_fail, bd2_e]
    exact ⟨_, _, rfl, rfl, .inl ⟨rfl, z_th _ _⟩, F1 1⟩
  · rw [h1, bx0_r, h2, bd_e, bd_e, if_neg (show ¬ (1 : Int32) = 0 by decide)]
    rcases z_idx p2 (n := nl) (by omega) with ⟨h3, h4⟩ | ⟨l, hl, el, h3, h4⟩
    · left
      rw [h3, bx0_l, h4, bd_e, bd_e, if_pos rfl, z_fail, bd2_e]
      exact ⟨_, _, rfl, rfl, .inl ⟨rfl, z_th _ _⟩, F1 1⟩
    · subst ep; subst el
      obtain ⟨k, hk, ek, hlast, hr⟩ := B.pl p hp
      have ek1 : (up2 M 0 0 0) 9 (ix10 p 4) = Int32.ofNat k := ek
      rw [h3, bx0_r, h4, bd_e, bd_e, if_neg (show ¬ (1 : Int32) = 0 by decide), z_pe4 (by omega), bd_e, ek1]
      obtain ⟨b, hb, b1, b2⟩ := z_inR (ns := ns) (np := np) E (show p < 4 by omega) hk ek (Int32.ofNat l) xF 0 0 (.inl rfl) (by omega) (by unfold xF; omega)
      have b1' : f1_isInRound_L2 (Int32.ofNat p) (Int32.ofNat l) T xF 0 = some b := b1
      have b2' : ∀ K, f3_round_L40 (Int32.ofNat p) (Int32.ofNat l) (Int32.ofNat k) (up2 M 0 0 0) K xF 0 0 = K (if (0 : Int32) = 1 then 1 else b) := b2
      unfold f1_isInRound
      rw [b1', bd_e, b2', if_neg (show ¬ (0 : Int32) = 1 by decide)]
      rcases hb with hb | hb
      · rw [hb, if_pos rfl, if_pos rfl, z_xin (by omega) (by omega), gd_t, z_clamp (by omega), E.t15, ek]
        rcases z_room (n := k) (m := 10) hk (by omega) (y := 10) rfl with ⟨r1, r2⟩ | ⟨r1, r2⟩
        · left
          rw [r1, bx0_l, if_pos (by rw [r2]; rfl), z_fail, bd2_e]
          exact ⟨_, _, rfl, rfl, .inr ⟨rfl, z_th _ _⟩, F1 2⟩
        · right
          have e10 : (10 : Int32) * Int32.ofNat p + Int32.ofNat k = Int32.ofNat (ix10 p k) := z_s10
          rw [r1, bx0_r, if_neg (by rw [show (10 : Int32) = Int32.ofNat 10 from rfl, z_inj (by omega) (by omega)]; omega), e10, z_xin (by unfold ix10; omega) (by unfold ix10; omega), gd_t, z_clamp (by unfold ix10; omega), z_put4 (by omega), bd_e, z_s1]
          have hT : f1_addToRound T (Int32.ofNat p) (Int32.ofNat l) = some (Int32.ofNat (k + 1), up2 (up2 T (200 + p) k (Int32.ofNat l)) 15 p (Int32.ofNat (k + 1))) := by
            unfold f1_addToRound
            rw [z_xin (by omega) (by omega), gd_t, z_clamp (by omega), E.t15, ek, z_xin (by omega) (by omega), gd_t, z_clamp (by omega)]
            simp only [lt_e]
            have : up2 T (200 + p) k (Int32.ofNat l) 15 p = Int32.ofNat k := by
              rw [z_up, if_neg (by omega), E.t15, ek]
            rw [this, z_s1]
            simp [z_up]
          rw [hT, bd2_e]
          have hh : ∀ j i, j < 100 → j ≠ 15 → up2 (up2 T (200 + p) k (Int32.ofNat l)) 15 p (Int32.ofNat (k + 1)) j i = T j i := by
            intro j i h1 h2; rw [z_up, if_neg h2, z_up, if_neg (by omega)]
          refine ⟨_, _, _, rfl, rfl, z_th M 0, nc, ns, nl, np, ?_, ?_, ?_⟩
          · exact (ZE.mk ((hh 0 0 (by decide) (by decide)).trans E.c0) ((hh 3 0 (by decide) (by decide)).trans E.c3) ((hh 7 0 (by decide) (by decide)).trans E.c7) ((hh 12 0 (by decide) (by decide)).trans E.c12) (by funext i; exact (hh 1 i (by decide) (by decide)).trans (congrFun E.h1 i)) (by funext i; exact (hh 11 i (by decide) (by decide)).trans (congrFun E.w11 i)) (fun q => (hh 4 q (by decide) (by decide)).trans (E.t4 q)) (fun q => (hh 5 q (by decide) (by decide)).trans (E.t5 q)) (fun q => (hh 6 q (by decide) (by decide)).trans (E.t6 q)) (fun q => (hh 8 q (by decide) (by decide)).trans (E.t8 q)) (fun q => (hh 9 q (by decide) (by decide)).trans (E.t9 q)) (fun q => (hh 10 q (by decide) (by decide)).trans (E.t10 q)) (E.n4) (E.n5) (E.n6) (E.n7) (E.n8) (fun q => (hh 13 q (by decide) (by decide)).trans (by simp [z_up, ix10_eq, E.t13])) (fun q hq => by simp [z_up, ix10_eq, E.n9 q hq]) (fun q => (hh 14 q (by decide) (by decide)).trans (by simp [z_up, ix10_eq, E.t14])) (fun q hq => by simp [z_up, ix10_eq, E.n10 q hq]) (fun q => by
                by_cases h : q = p
                · subst h; simp [z_up]
                · rw [z_up, if_pos rfl, if_neg h, z_up, if_neg (by omega)]; simp [z_up, ix10_eq, h, E.t15]) (fun q hq => by simp [z_up, ix10_eq, E.n11 q hq]) (fun q hq => by simp [z_up, ix10_eq, E.n13 q hq]) (fun q hq => by simpa [z_up, ix10_eq] using E.n12 q hq) (fun q hq => by simp [z_up, ix10_eq, E.n14 q hq]) (fun q hq => by simp [z_up, ix10_eq, E.n15 q hq]) (fun q i hi => by
                rw [z_up, if_neg (by omega), z_up]
                have e := E.rd q i hi
                have hk10 : k < 10 := by omega
                by_cases h : q = p
                · subst h
                  rw [if_pos rfl]
                  by_cases h2 : i = k
                  · subst h2; simp [z_up]
                  · rw [if_neg h2, e]; simp [z_up, ix10_eq, hi, hk10, h2]
                · rw [if_neg (by omega), e]; simp [z_up, ix10_eq, hi, hk10, h]) (E.n0) (E.n1) (E.n2) (E.n3) (fun a b ha hb => by
                have l1 := B.l1
                rw [z_up, if_neg (by omega), z_up, if_neg (by omega)]; exact E.wy a b ha hb))
          · exact (ZB.mk (B.k1) (B.k2) (B.k3) (B.k4) (B.l1) (B.l2) (B.l3) (B.l4) (B.hi) (B.sa) (B.sb) (B.sl) (B.lw) (B.lo) (B.lb) (B.wd) (fun q hq => by simpa [z_up, ix10_eq] using B.ph q hq) (fun q hq => by simpa [z_up, ix10_eq] using B.pa q hq) (fun q => by simpa [z_up, ix10_eq] using B.pc q) (fun q hq => by
                have hk10 : k < 10 := by omega
                by_cases h : q = p
                · subst h
                  refine ⟨k + 1, by omega, by simp [z_up], ?_, ?_⟩
                  · rcases hlast with e | ⟨j, j1, j2⟩
                    · left; simpa [z_up, ix10_eq] using e
                    · right; exact ⟨j, by omega, by simpa [z_up, ix10_eq] using j2⟩
                  · intro i hi
                    by_cases h2 : i = k
                    · subst h2; exact ⟨l, hl, by simp [z_up]⟩
                    · have hi10 : i < 10 := by omega
                      simpa [z_up, ix10_eq, hk10, hi10, h2] using hr i (by omega)
                · obtain ⟨k', q1, q2, q3, q4⟩ := B.pl q hq
                  refine ⟨k', q1, by simpa [z_up, ix10_eq, h] using q2, by simpa [z_up, ix10_eq, h] using q3, ?_⟩
                  intro i hi
                  have hi10 : i < 10 := by omega
                  simpa [z_up, ix10_eq, hk10, hi10, h] using q4 i hi) (fun q hq => by
                have := B.pg q hq
                unfold ZG at this ⊢
                simpa [z_up, ix10_eq] using this) (fun q r hq hr' hqr => by simpa [z_up, ix10_eq] using B.pd q r hq hr' hqr) (B.mi) (B.zl) (fun q w hq hw => by
                have h : ¬ q = p := by omega
                simpa [z_up, ix10_eq, hw, h] using B.zp q w hq hw) (B.wy))
          · refine ZW_of W ?_ ?_ ?_ ?_ (fun a ha => ?_)
            · funext i; exact hh 1 i (by decide) (by decide)
            · funext i; exact hh 4 i (by decide) (by decide)
            · funext i; exact hh 5 i (by decide) (by decide)
            · funext i; exact hh 6 i (by decide) (by decide)
            · have l1 := B.l1
              funext i; rw [z_up, if_neg (by omega), z_up, if_neg (by omega)]
      · left
        rw [hb, if_neg (show ¬ (1 : Int32) = 0 by decide), if_neg (show ¬ (1 : Int32) = 0 by decide), z_fail, bd2_e]
        exact ⟨_, _, rfl, rfl, .inr ⟨rfl, z_th _ _⟩, F1 2⟩
