theorem z_clamp {n : Nat} (h : n < 2147483648) : (Int32.ofNat n).toNatClampNeg = n := by
  rw [Int32.toNatClampNeg_ofNat_of_lt h]
theorem z_int {n : Nat} (h : n < 2147483648) : (Int32.ofNat n).toInt = n := Int32.toInt_ofNat_of_lt h
theorem z_le {a b : Nat} (ha : a < 2147483648) (hb : b < 2147483648) : (Int32.ofNat a ≤ Int32.ofNat b) = (a ≤ b) := by
  rw [Int32.le_iff_toInt_le, z_int ha, z_int hb]; simp
theorem z_lt {a b : Nat} (ha : a < 2147483648) (hb : b < 2147483648) : (Int32.ofNat a < Int32.ofNat b) = (a < b) := by
  rw [Int32.lt_iff_toInt_lt, z_int ha, z_int hb]; simp
theorem z_inj {a b : Nat} (ha : a < 2147483648) (hb : b < 2147483648) : (Int32.ofNat a = Int32.ofNat b) = (a = b) := by
  apply propext; constructor
  · intro h; have := congrArg Int32.toInt h; rw [z_int ha, z_int hb] at this; omega
  · intro h; rw [h]
theorem z_nneg {n : Nat} (h : n < 2147483648) : ¬ (Int32.ofNat n < 0) := by
  rw [Int32.lt_iff_toInt_lt, z_int h]; simp
theorem z_ne1 {n : Nat} (h : n < 2147483648) : (Int32.ofNat n = -1) = False := by
  apply propext; constructor
  · intro e; have := congrArg Int32.toInt e; rw [z_int h] at this; simp at this
  · intro h; exact h.elim
theorem z_xin {n m : Nat} (h : n < 2147483648) (hm : n < m) : xin (Int32.ofNat n) m = true := by
  unfold xin; rw [z_clamp h]; simp [z_nneg h]; omega
theorem z_add {a b : Nat} : Int32.ofNat a + Int32.ofNat b = Int32.ofNat (a + b) := (Int32.ofNat_add a b).symm
theorem z_mul {a b : Nat} : Int32.ofNat a * Int32.ofNat b = Int32.ofNat (a * b) := (Int32.ofNat_mul a b).symm
theorem z_l0 : (0 : Int32) = Int32.ofNat 0 := rfl
theorem z_l1 : (1 : Int32) = Int32.ofNat 1 := rfl
theorem z_s1 {n : Nat} : Int32.ofNat n + 1 = Int32.ofNat (n + 1) := by rw [z_l1, z_add]
theorem z_p1 {n : Nat} : Int32.ofNat (n + 1) - 1 = Int32.ofNat n := by rw [← z_s1]; exact Int32.add_sub_cancel _ _
theorem z_s3 {s w : Nat} : (3 : Int32) * Int32.ofNat s + Int32.ofNat w = Int32.ofNat (3 * s + w) := by
  rw [show (3 : Int32) = Int32.ofNat 3 from rfl, z_mul, z_add]
theorem z_s8 {s w : Nat} : (8 : Int32) * Int32.ofNat s + Int32.ofNat w = Int32.ofNat (8 * s + w) := by
  rw [show (8 : Int32) = Int32.ofNat 8 from rfl, z_mul, z_add]
theorem z_s10 {s w : Nat} : (10 : Int32) * Int32.ofNat s + Int32.ofNat w = Int32.ofNat (10 * s + w) := by
  rw [show (10 : Int32) = Int32.ofNat 10 from rfl, z_mul, z_add]
theorem z_s12 {s w : Nat} : (12 : Int32) * Int32.ofNat s + Int32.ofNat w = Int32.ofNat (12 * s + w) := by
  rw [show (12 : Int32) = Int32.ofNat 12 from rfl, z_mul, z_add]
theorem z_nat {x : Int32} (h : 0 ≤ x) : ∃ n, n < 2147483648 ∧ x = Int32.ofNat n := by
  refine ⟨x.toInt.toNat, ?_, ?_⟩
  · have := x.toInt_lt; omega
  · apply Int32.toInt_inj.mp
    have h0 := Int32.le_iff_toInt_le.mp h
    have h1 := x.toInt_lt
    rw [z_int (by omega)]
    simp at h0; omega
theorem gd_t {α : Type} (k : Option α) : gd true k = k := rfl
theorem lt_e {α β : Type} (a : α) (k : α → β) : lt_ a k = k a := rfl
theorem bd_e {α β : Type} (a : α) (k : α → Option β) : bd (some a) k = k a := rfl
theorem bd2_e {α β γ : Type} (a : α) (b : β) (k : α → β → Option γ) : bd2 (some (a, b)) k = k a b := rfl
def ix8 (a w : Nat) : Nat := 8 * a + w
def ix10 (a w : Nat) : Nat := 10 * a + w
def ix3 (a w : Nat) : Nat := 3 * a + w
def ix12 (a w : Nat) : Nat := 12 * a + w
theorem ix8_eq {a w b v : Nat} (hw : w < 8) (hv : v < 8) : (ix8 a w = ix8 b v) = (a = b ∧ w = v) := by
  unfold ix8; apply propext; omega
theorem ix10_eq {a w b v : Nat} (hw : w < 10) (hv : v < 10) : (ix10 a w = ix10 b v) = (a = b ∧ w = v) := by
  unfold ix10; apply propext; omega
theorem ix3_eq {a w b v : Nat} (hw : w < 3) (hv : v < 3) : (ix3 a w = ix3 b v) = (a = b ∧ w = v) := by
  unfold ix3; apply propext; omega
theorem ix12_eq {a w b v : Nat} (hw : w < 12) (hv : v < 12) : (ix12 a w = ix12 b v) = (a = b ∧ w = v) := by
  unfold ix12; apply propext; omega
theorem z_la {M : St} {l w : Nat} {x y : Int32} (hx : x = Int32.ofNat l) (hy : y = Int32.ofNat w) (hl : l < 20) (hw : w < 8) : f3_la M x y = some (M 8 (ix8 l w)) := by
  subst hx; subst hy
  unfold f3_la; rw [z_s8, z_xin (by omega) (by omega), z_clamp (by omega), gd_t]; rfl
theorem z_pe {M : St} {l w : Nat} {x y : Int32} (hx : x = Int32.ofNat l) (hy : y = Int32.ofNat w) (hl : l < 4) (hw : w < 10) : f3_pe M x y = some (M 9 (ix10 l w)) := by
  subst hx; subst hy
  unfold f3_pe; rw [z_s10, z_xin (by omega) (by omega), z_clamp (by omega), gd_t]; rfl
theorem z_ro {M : St} {l w : Nat} {x y : Int32} (hx : x = Int32.ofNat l) (hy : y = Int32.ofNat w) (hl : l < 18) (hw : w < 3) : f3_ro M x y = some (M 6 (ix3 l w)) := by
  subst hx; subst hy
  unfold f3_ro; rw [z_s3, z_xin (by omega) (by omega), z_clamp (by omega), gd_t]; rfl
theorem z_setLamp {M : St} {l w : Nat} {x y v : Int32} (hx : x = Int32.ofNat l) (hy : y = Int32.ofNat w) (hl : l < 20) (hw : w < 8) : f3_setLamp M x y v = some (up2 M 8 (ix8 l w) v) := by
  subst hx; subst hy
  unfold f3_setLamp; rw [z_s8, z_xin (by omega) (by omega), z_clamp (by omega), gd_t, lt_e]; rfl
theorem z_put {M : St} {l w : Nat} {x y v : Int32} (hx : x = Int32.ofNat l) (hy : y = Int32.ofNat w) (hl : l < 4) (hw : w < 10) : f3_put M x y v = some (up2 M 9 (ix10 l w) v) := by
  subst hx; subst hy
  unfold f3_put; rw [z_s10, z_xin (by omega) (by omega), z_clamp (by omega), gd_t, lt_e]; rfl
theorem z_ile {α : Type} {a b : Nat} {i : Decidable (Int32.ofNat a ≤ Int32.ofNat b)} {x y : α} (ha : a < 2147483648) (hb : b < 2147483648) : @ite α (Int32.ofNat a ≤ Int32.ofNat b) i x y = if a ≤ b then x else y := by
  have e := z_le ha hb
  by_cases h : a ≤ b
  · rw [if_pos h, if_pos (e.mpr h)]
  · rw [if_neg h, if_neg (fun k => h (e.mp k))]
theorem z_ilt {α : Type} {a b : Nat} {i : Decidable (Int32.ofNat a < Int32.ofNat b)} {x y : α} (ha : a < 2147483648) (hb : b < 2147483648) : @ite α (Int32.ofNat a < Int32.ofNat b) i x y = if a < b then x else y := by
  have e := z_lt ha hb
  by_cases h : a < b
  · rw [if_pos h, if_pos (e.mpr h)]
  · rw [if_neg h, if_neg (fun k => h (e.mp k))]
theorem z_ieq {α : Type} {a b : Nat} {i : Decidable (Int32.ofNat a = Int32.ofNat b)} {x y : α} (ha : a < 2147483648) (hb : b < 2147483648) : @ite α (Int32.ofNat a = Int32.ofNat b) i x y = if a = b then x else y := by
  have e := z_inj ha hb
  by_cases h : a = b
  · rw [if_pos h, if_pos (e.mpr h)]
  · rw [if_neg h, if_neg (fun k => h (e.mp k))]
theorem z_pe0 {M : St} {l : Nat} (hl : l < 4) : f3_pe M (Int32.ofNat l) 0 = some (M 9 (ix10 l 0)) := z_pe rfl rfl hl (by decide)
theorem z_put0 {M : St} {l : Nat} {v : Int32} (hl : l < 4) : f3_put M (Int32.ofNat l) 0 v = some (up2 M 9 (ix10 l 0) v) := z_put rfl rfl hl (by decide)
theorem z_pe1 {M : St} {l : Nat} (hl : l < 4) : f3_pe M (Int32.ofNat l) 1 = some (M 9 (ix10 l 1)) := z_pe rfl rfl hl (by decide)
theorem z_put1 {M : St} {l : Nat} {v : Int32} (hl : l < 4) : f3_put M (Int32.ofNat l) 1 v = some (up2 M 9 (ix10 l 1) v) := z_put rfl rfl hl (by decide)
theorem z_pe2 {M : St} {l : Nat} (hl : l < 4) : f3_pe M (Int32.ofNat l) 2 = some (M 9 (ix10 l 2)) := z_pe rfl rfl hl (by decide)
theorem z_put2 {M : St} {l : Nat} {v : Int32} (hl : l < 4) : f3_put M (Int32.ofNat l) 2 v = some (up2 M 9 (ix10 l 2) v) := z_put rfl rfl hl (by decide)
theorem z_pe3 {M : St} {l : Nat} (hl : l < 4) : f3_pe M (Int32.ofNat l) 3 = some (M 9 (ix10 l 3)) := z_pe rfl rfl hl (by decide)
theorem z_put3 {M : St} {l : Nat} {v : Int32} (hl : l < 4) : f3_put M (Int32.ofNat l) 3 v = some (up2 M 9 (ix10 l 3) v) := z_put rfl rfl hl (by decide)
theorem z_pe4 {M : St} {l : Nat} (hl : l < 4) : f3_pe M (Int32.ofNat l) 4 = some (M 9 (ix10 l 4)) := z_pe rfl rfl hl (by decide)
theorem z_put4 {M : St} {l : Nat} {v : Int32} (hl : l < 4) : f3_put M (Int32.ofNat l) 4 v = some (up2 M 9 (ix10 l 4) v) := z_put rfl rfl hl (by decide)
theorem z_pe5 {M : St} {l : Nat} (hl : l < 4) : f3_pe M (Int32.ofNat l) 5 = some (M 9 (ix10 l 5)) := z_pe rfl rfl hl (by decide)
theorem z_put5 {M : St} {l : Nat} {v : Int32} (hl : l < 4) : f3_put M (Int32.ofNat l) 5 v = some (up2 M 9 (ix10 l 5) v) := z_put rfl rfl hl (by decide)
theorem z_pe6 {M : St} {l : Nat} (hl : l < 4) : f3_pe M (Int32.ofNat l) 6 = some (M 9 (ix10 l 6)) := z_pe rfl rfl hl (by decide)
theorem z_put6 {M : St} {l : Nat} {v : Int32} (hl : l < 4) : f3_put M (Int32.ofNat l) 6 v = some (up2 M 9 (ix10 l 6) v) := z_put rfl rfl hl (by decide)
theorem z_pe7 {M : St} {l : Nat} (hl : l < 4) : f3_pe M (Int32.ofNat l) 7 = some (M 9 (ix10 l 7)) := z_pe rfl rfl hl (by decide)
theorem z_put7 {M : St} {l : Nat} {v : Int32} (hl : l < 4) : f3_put M (Int32.ofNat l) 7 v = some (up2 M 9 (ix10 l 7) v) := z_put rfl rfl hl (by decide)
theorem z_pe8 {M : St} {l : Nat} (hl : l < 4) : f3_pe M (Int32.ofNat l) 8 = some (M 9 (ix10 l 8)) := z_pe rfl rfl hl (by decide)
theorem z_put8 {M : St} {l : Nat} {v : Int32} (hl : l < 4) : f3_put M (Int32.ofNat l) 8 v = some (up2 M 9 (ix10 l 8) v) := z_put rfl rfl hl (by decide)
theorem z_pe9 {M : St} {l : Nat} (hl : l < 4) : f3_pe M (Int32.ofNat l) 9 = some (M 9 (ix10 l 9)) := z_pe rfl rfl hl (by decide)
theorem z_put9 {M : St} {l : Nat} {v : Int32} (hl : l < 4) : f3_put M (Int32.ofNat l) 9 v = some (up2 M 9 (ix10 l 9) v) := z_put rfl rfl hl (by decide)
theorem z_la0 {M : St} {l : Nat} (hl : l < 20) : f3_la M (Int32.ofNat l) 0 = some (M 8 (ix8 l 0)) := z_la rfl rfl hl (by decide)
theorem z_setLamp0 {M : St} {l : Nat} {v : Int32} (hl : l < 20) : f3_setLamp M (Int32.ofNat l) 0 v = some (up2 M 8 (ix8 l 0) v) := z_setLamp rfl rfl hl (by decide)
theorem z_la1 {M : St} {l : Nat} (hl : l < 20) : f3_la M (Int32.ofNat l) 1 = some (M 8 (ix8 l 1)) := z_la rfl rfl hl (by decide)
theorem z_setLamp1 {M : St} {l : Nat} {v : Int32} (hl : l < 20) : f3_setLamp M (Int32.ofNat l) 1 v = some (up2 M 8 (ix8 l 1) v) := z_setLamp rfl rfl hl (by decide)
theorem z_la2 {M : St} {l : Nat} (hl : l < 20) : f3_la M (Int32.ofNat l) 2 = some (M 8 (ix8 l 2)) := z_la rfl rfl hl (by decide)
theorem z_setLamp2 {M : St} {l : Nat} {v : Int32} (hl : l < 20) : f3_setLamp M (Int32.ofNat l) 2 v = some (up2 M 8 (ix8 l 2) v) := z_setLamp rfl rfl hl (by decide)
theorem z_la3 {M : St} {l : Nat} (hl : l < 20) : f3_la M (Int32.ofNat l) 3 = some (M 8 (ix8 l 3)) := z_la rfl rfl hl (by decide)
theorem z_setLamp3 {M : St} {l : Nat} {v : Int32} (hl : l < 20) : f3_setLamp M (Int32.ofNat l) 3 v = some (up2 M 8 (ix8 l 3) v) := z_setLamp rfl rfl hl (by decide)
theorem z_la4 {M : St} {l : Nat} (hl : l < 20) : f3_la M (Int32.ofNat l) 4 = some (M 8 (ix8 l 4)) := z_la rfl rfl hl (by decide)
theorem z_setLamp4 {M : St} {l : Nat} {v : Int32} (hl : l < 20) : f3_setLamp M (Int32.ofNat l) 4 v = some (up2 M 8 (ix8 l 4) v) := z_setLamp rfl rfl hl (by decide)
theorem z_la5 {M : St} {l : Nat} (hl : l < 20) : f3_la M (Int32.ofNat l) 5 = some (M 8 (ix8 l 5)) := z_la rfl rfl hl (by decide)
theorem z_setLamp5 {M : St} {l : Nat} {v : Int32} (hl : l < 20) : f3_setLamp M (Int32.ofNat l) 5 v = some (up2 M 8 (ix8 l 5) v) := z_setLamp rfl rfl hl (by decide)
theorem z_la6 {M : St} {l : Nat} (hl : l < 20) : f3_la M (Int32.ofNat l) 6 = some (M 8 (ix8 l 6)) := z_la rfl rfl hl (by decide)
theorem z_setLamp6 {M : St} {l : Nat} {v : Int32} (hl : l < 20) : f3_setLamp M (Int32.ofNat l) 6 v = some (up2 M 8 (ix8 l 6) v) := z_setLamp rfl rfl hl (by decide)
theorem z_la7 {M : St} {l : Nat} (hl : l < 20) : f3_la M (Int32.ofNat l) 7 = some (M 8 (ix8 l 7)) := z_la rfl rfl hl (by decide)
theorem z_setLamp7 {M : St} {l : Nat} {v : Int32} (hl : l < 20) : f3_setLamp M (Int32.ofNat l) 7 v = some (up2 M 8 (ix8 l 7) v) := z_setLamp rfl rfl hl (by decide)
theorem z_ro0 {M : St} {l : Nat} (hl : l < 18) : f3_ro M (Int32.ofNat l) 0 = some (M 6 (ix3 l 0)) := z_ro rfl rfl hl (by decide)
theorem z_ro1 {M : St} {l : Nat} (hl : l < 18) : f3_ro M (Int32.ofNat l) 1 = some (M 6 (ix3 l 1)) := z_ro rfl rfl hl (by decide)
theorem z_ro2 {M : St} {l : Nat} (hl : l < 18) : f3_ro M (Int32.ofNat l) 2 = some (M 6 (ix3 l 2)) := z_ro rfl rfl hl (by decide)
def zsum (g : Nat → Int32) : Nat → Int32
  | 0 => 0
  | n + 1 => zsum g n + g n
theorem zsum_congr {g h : Nat → Int32} : ∀ {n : Nat}, (∀ i, i < n → g i = h i) → zsum g n = zsum h n := by
  intro n
  induction n with
  | zero => intro _; rfl
  | succ n ih => intro e; rw [zsum, zsum, ih (fun i hi => e i (by omega)), e n (by omega)]
theorem zsum_add {g h : Nat → Int32} : ∀ {n : Nat}, zsum (fun i => g i + h i) n = zsum g n + zsum h n := by
  intro n
  induction n with
  | zero => rfl
  | succ n ih => simp only [zsum, ih]; ac_rfl
theorem zsum_zero : ∀ {n : Nat}, zsum (fun _ => 0) n = 0 := by
  intro n
  induction n with
  | zero => rfl
  | succ n ih => simp [zsum, ih]
theorem zsum_one {k : Nat} {d : Int32} : ∀ {n : Nat}, zsum (fun i => if i = k then d else 0) n = if k < n then d else 0 := by
  intro n
  induction n with
  | zero => rfl
  | succ n ih =>
    rw [zsum, ih]
    by_cases h1 : k < n
    · rw [if_pos h1, if_neg (by omega), if_pos (by omega)]; simp
    · by_cases h2 : n = k
      · rw [if_neg h1, if_pos h2, if_pos (by omega)]; simp
      · rw [if_neg h1, if_neg h2, if_neg (by omega)]; rfl
theorem zsum_upd {g h : Nat → Int32} {n k : Nat} {d : Int32} (hk : k < n) (e : h k = g k + d) (o : ∀ i, i ≠ k → h i = g i) : zsum h n = zsum g n + d := by
  have : zsum h n = zsum (fun i => g i + (if i = k then d else 0)) n := by
    apply zsum_congr; intro i _
    by_cases hi : i = k
    · subst hi; simp [e]
    · simp [hi, o i hi]
  rw [this, zsum_add, zsum_one, if_pos hk]
def bsum (M : St) (nl s : Nat) : Int32 := zsum (fun l => if M 8 (ix8 l 0) = Int32.ofNat s then M 8 (ix8 l 5) else 0) nl
def wcls (m : Int32) : Int32 := if m = 9999 then 1000000 else m
def ZE (nc nl : Nat) (T N M : St) : Prop :=
  (T 0 0 = M 1 0) ∧
  (T 3 0 = M 2 0) ∧
  (T 7 0 = M 3 0) ∧
  (T 12 0 = M 4 0) ∧
  (T 1 = M 5) ∧
  (T 11 = M 11) ∧
  (∀ s, T 4 s = M 6 (ix3 s 0)) ∧
  (∀ s, T 5 s = M 6 (ix3 s 1)) ∧
  (∀ s, T 6 s = M 6 (ix3 s 2)) ∧
  (∀ l, T 8 l = M 8 (ix8 l 0)) ∧
  (∀ l, T 9 l = M 8 (ix8 l 1)) ∧
  (∀ l, T 10 l = M 8 (ix8 l 2)) ∧
  (∀ l, l < 20 → N 4 l = M 8 (ix8 l 3)) ∧
  (∀ l, l < 20 → N 5 l = M 8 (ix8 l 4)) ∧
  (∀ l, l < 20 → N 6 l = M 8 (ix8 l 5)) ∧
  (∀ l, l < 20 → N 7 l = M 8 (ix8 l 6)) ∧
  (∀ l, l < 20 → N 8 l = M 8 (ix8 l 7)) ∧
  (∀ p, T 13 p = M 9 (ix10 p 0)) ∧
  (∀ p, p < 4 → N 9 p = M 9 (ix10 p 1)) ∧
  (∀ p, T 14 p = M 9 (ix10 p 2)) ∧
  (∀ p, p < 4 → N 10 p = M 9 (ix10 p 3)) ∧
  (∀ p, T 15 p = M 9 (ix10 p 4)) ∧
  (∀ p, p < 4 → N 11 p = M 9 (ix10 p 5)) ∧
  (∀ p, p < 4 → N 13 p = M 9 (ix10 p 6)) ∧
  (∀ p, p < 4 → M 9 (ix10 p 5) ≠ -1 → N 12 p = M 9 (ix10 p 7)) ∧
  (∀ p, p < 4 → N 14 p = M 9 (ix10 p 8)) ∧
  (∀ p, p < 4 → N 15 p = M 9 (ix10 p 9)) ∧
  (∀ p k, k < 10 → T (200 + p) k = M 10 (ix10 p k)) ∧
  (N 0 0 = M 12 0) ∧
  (N 1 0 = M 12 1) ∧
  (N 2 0 = M 12 2) ∧
  (∀ s, s < 18 → N 3 s = bsum M nl s) ∧
  (∀ a b, a < nc → b < nc → T (100 + a) b = wcls (M 7 (ix12 a b)))
theorem ZE.mk {nc nl : Nat} {T N M : St} (c0 : T 0 0 = M 1 0) (c3 : T 3 0 = M 2 0) (c7 : T 7 0 = M 3 0) (c12 : T 12 0 = M 4 0) (h1 : T 1 = M 5) (w11 : T 11 = M 11) (t4 : ∀ s, T 4 s = M 6 (ix3 s 0)) (t5 : ∀ s, T 5 s = M 6 (ix3 s 1)) (t6 : ∀ s, T 6 s = M 6 (ix3 s 2)) (t8 : ∀ l, T 8 l = M 8 (ix8 l 0)) (t9 : ∀ l, T 9 l = M 8 (ix8 l 1)) (t10 : ∀ l, T 10 l = M 8 (ix8 l 2)) (n4 : ∀ l, l < 20 → N 4 l = M 8 (ix8 l 3)) (n5 : ∀ l, l < 20 → N 5 l = M 8 (ix8 l 4)) (n6 : ∀ l, l < 20 → N 6 l = M 8 (ix8 l 5)) (n7 : ∀ l, l < 20 → N 7 l = M 8 (ix8 l 6)) (n8 : ∀ l, l < 20 → N 8 l = M 8 (ix8 l 7)) (t13 : ∀ p, T 13 p = M 9 (ix10 p 0)) (n9 : ∀ p, p < 4 → N 9 p = M 9 (ix10 p 1)) (t14 : ∀ p, T 14 p = M 9 (ix10 p 2)) (n10 : ∀ p, p < 4 → N 10 p = M 9 (ix10 p 3)) (t15 : ∀ p, T 15 p = M 9 (ix10 p 4)) (n11 : ∀ p, p < 4 → N 11 p = M 9 (ix10 p 5)) (n13 : ∀ p, p < 4 → N 13 p = M 9 (ix10 p 6)) (n12 : ∀ p, p < 4 → M 9 (ix10 p 5) ≠ -1 → N 12 p = M 9 (ix10 p 7)) (n14 : ∀ p, p < 4 → N 14 p = M 9 (ix10 p 8)) (n15 : ∀ p, p < 4 → N 15 p = M 9 (ix10 p 9)) (rd : ∀ p k, k < 10 → T (200 + p) k = M 10 (ix10 p k)) (n0 : N 0 0 = M 12 0) (n1 : N 1 0 = M 12 1) (n2 : N 2 0 = M 12 2) (n3 : ∀ s, s < 18 → N 3 s = bsum M nl s) (wy : ∀ a b, a < nc → b < nc → T (100 + a) b = wcls (M 7 (ix12 a b))) : ZE nc nl T N M := ⟨c0, c3, c7, c12, h1, w11, t4, t5, t6, t8, t9, t10, n4, n5, n6, n7, n8, t13, n9, t14, n10, t15, n11, n13, n12, n14, n15, rd, n0, n1, n2, n3, wy⟩
theorem ZE.c0 {nc nl : Nat} {T N M : St} (h : ZE nc nl T N M) : T 0 0 = M 1 0 := h.1
theorem ZE.c3 {nc nl : Nat} {T N M : St} (h : ZE nc nl T N M) : T 3 0 = M 2 0 := h.2.1
theorem ZE.c7 {nc nl : Nat} {T N M : St} (h : ZE nc nl T N M) : T 7 0 = M 3 0 := h.2.2.1
theorem ZE.c12 {nc nl : Nat} {T N M : St} (h : ZE nc nl T N M) : T 12 0 = M 4 0 := h.2.2.2.1
theorem ZE.h1 {nc nl : Nat} {T N M : St} (h : ZE nc nl T N M) : T 1 = M 5 := h.2.2.2.2.1
theorem ZE.w11 {nc nl : Nat} {T N M : St} (h : ZE nc nl T N M) : T 11 = M 11 := h.2.2.2.2.2.1
theorem ZE.t4 {nc nl : Nat} {T N M : St} (h : ZE nc nl T N M) : ∀ s, T 4 s = M 6 (ix3 s 0) := h.2.2.2.2.2.2.1
theorem ZE.t5 {nc nl : Nat} {T N M : St} (h : ZE nc nl T N M) : ∀ s, T 5 s = M 6 (ix3 s 1) := h.2.2.2.2.2.2.2.1
theorem ZE.t6 {nc nl : Nat} {T N M : St} (h : ZE nc nl T N M) : ∀ s, T 6 s = M 6 (ix3 s 2) := h.2.2.2.2.2.2.2.2.1
theorem ZE.t8 {nc nl : Nat} {T N M : St} (h : ZE nc nl T N M) : ∀ l, T 8 l = M 8 (ix8 l 0) := h.2.2.2.2.2.2.2.2.2.1
theorem ZE.t9 {nc nl : Nat} {T N M : St} (h : ZE nc nl T N M) : ∀ l, T 9 l = M 8 (ix8 l 1) := h.2.2.2.2.2.2.2.2.2.2.1
theorem ZE.t10 {nc nl : Nat} {T N M : St} (h : ZE nc nl T N M) : ∀ l, T 10 l = M 8 (ix8 l 2) := h.2.2.2.2.2.2.2.2.2.2.2.1
theorem ZE.n4 {nc nl : Nat} {T N M : St} (h : ZE nc nl T N M) : ∀ l, l < 20 → N 4 l = M 8 (ix8 l 3) := h.2.2.2.2.2.2.2.2.2.2.2.2.1
theorem ZE.n5 {nc nl : Nat} {T N M : St} (h : ZE nc nl T N M) : ∀ l, l < 20 → N 5 l = M 8 (ix8 l 4) := h.2.2.2.2.2.2.2.2.2.2.2.2.2.1
theorem ZE.n6 {nc nl : Nat} {T N M : St} (h : ZE nc nl T N M) : ∀ l, l < 20 → N 6 l = M 8 (ix8 l 5) := h.2.2.2.2.2.2.2.2.2.2.2.2.2.2.1
theorem ZE.n7 {nc nl : Nat} {T N M : St} (h : ZE nc nl T N M) : ∀ l, l < 20 → N 7 l = M 8 (ix8 l 6) := h.2.2.2.2.2.2.2.2.2.2.2.2.2.2.2.1
theorem ZE.n8 {nc nl : Nat} {T N M : St} (h : ZE nc nl T N M) : ∀ l, l < 20 → N 8 l = M 8 (ix8 l 7) := h.2.2.2.2.2.2.2.2.2.2.2.2.2.2.2.2.1
theorem ZE.t13 {nc nl : Nat} {T N M : St} (h : ZE nc nl T N M) : ∀ p, T 13 p = M 9 (ix10 p 0) := h.2.2.2.2.2.2.2.2.2.2.2.2.2.2.2.2.2.1
theorem ZE.n9 {nc nl : Nat} {T N M : St} (h : ZE nc nl T N M) : ∀ p, p < 4 → N 9 p = M 9 (ix10 p 1) := h.2.2.2.2.2.2.2.2.2.2.2.2.2.2.2.2.2.2.1
theorem ZE.t14 {nc nl : Nat} {T N M : St} (h : ZE nc nl T N M) : ∀ p, T 14 p = M 9 (ix10 p 2) := h.2.2.2.2.2.2.2.2.2.2.2.2.2.2.2.2.2.2.2.1
theorem ZE.n10 {nc nl : Nat} {T N M : St} (h : ZE nc nl T N M) : ∀ p, p < 4 → N 10 p = M 9 (ix10 p 3) := h.2.2.2.2.2.2.2.2.2.2.2.2.2.2.2.2.2.2.2.2.1
theorem ZE.t15 {nc nl : Nat} {T N M : St} (h : ZE nc nl T N M) : ∀ p, T 15 p = M 9 (ix10 p 4) := h.2.2.2.2.2.2.2.2.2.2.2.2.2.2.2.2.2.2.2.2.2.1
theorem ZE.n11 {nc nl : Nat} {T N M : St} (h : ZE nc nl T N M) : ∀ p, p < 4 → N 11 p = M 9 (ix10 p 5) := h.2.2.2.2.2.2.2.2.2.2.2.2.2.2.2.2.2.2.2.2.2.2.1
theorem ZE.n13 {nc nl : Nat} {T N M : St} (h : ZE nc nl T N M) : ∀ p, p < 4 → N 13 p = M 9 (ix10 p 6) := h.2.2.2.2.2.2.2.2.2.2.2.2.2.2.2.2.2.2.2.2.2.2.2.1
theorem ZE.n12 {nc nl : Nat} {T N M : St} (h : ZE nc nl T N M) : ∀ p, p < 4 → M 9 (ix10 p 5) ≠ -1 → N 12 p = M 9 (ix10 p 7) := h.2.2.2.2.2.2.2.2.2.2.2.2.2.2.2.2.2.2.2.2.2.2.2.2.1
theorem ZE.n14 {nc nl : Nat} {T N M : St} (h : ZE nc nl T N M) : ∀ p, p < 4 → N 14 p = M 9 (ix10 p 8) := h.2.2.2.2.2.2.2.2.2.2.2.2.2.2.2.2.2.2.2.2.2.2.2.2.2.1
theorem ZE.n15 {nc nl : Nat} {T N M : St} (h : ZE nc nl T N M) : ∀ p, p < 4 → N 15 p = M 9 (ix10 p 9) := h.2.2.2.2.2.2.2.2.2.2.2.2.2.2.2.2.2.2.2.2.2.2.2.2.2.2.1
theorem ZE.rd {nc nl : Nat} {T N M : St} (h : ZE nc nl T N M) : ∀ p k, k < 10 → T (200 + p) k = M 10 (ix10 p k) := h.2.2.2.2.2.2.2.2.2.2.2.2.2.2.2.2.2.2.2.2.2.2.2.2.2.2.2.1
theorem ZE.n0 {nc nl : Nat} {T N M : St} (h : ZE nc nl T N M) : N 0 0 = M 12 0 := h.2.2.2.2.2.2.2.2.2.2.2.2.2.2.2.2.2.2.2.2.2.2.2.2.2.2.2.2.1
theorem ZE.n1 {nc nl : Nat} {T N M : St} (h : ZE nc nl T N M) : N 1 0 = M 12 1 := h.2.2.2.2.2.2.2.2.2.2.2.2.2.2.2.2.2.2.2.2.2.2.2.2.2.2.2.2.2.1
theorem ZE.n2 {nc nl : Nat} {T N M : St} (h : ZE nc nl T N M) : N 2 0 = M 12 2 := h.2.2.2.2.2.2.2.2.2.2.2.2.2.2.2.2.2.2.2.2.2.2.2.2.2.2.2.2.2.2.1
theorem ZE.n3 {nc nl : Nat} {T N M : St} (h : ZE nc nl T N M) : ∀ s, s < 18 → N 3 s = bsum M nl s := h.2.2.2.2.2.2.2.2.2.2.2.2.2.2.2.2.2.2.2.2.2.2.2.2.2.2.2.2.2.2.2.1
theorem ZE.wy {nc nl : Nat} {T N M : St} (h : ZE nc nl T N M) : ∀ a b, a < nc → b < nc → T (100 + a) b = wcls (M 7 (ix12 a b)) := h.2.2.2.2.2.2.2.2.2.2.2.2.2.2.2.2.2.2.2.2.2.2.2.2.2.2.2.2.2.2.2.2
def ZG (nc nl : Nat) (M : St) (p : Nat) : Prop :=
  M 9 (ix10 p 5) = -1 ∨ ∃ l, l < nl ∧ M 9 (ix10 p 5) = Int32.ofNat l ∧ M 8 (ix8 l 5) = 0 ∧ (∃ e, 1 ≤ e ∧ e ≤ 300 ∧ M 9 (ix10 p 6) = Int32.ofNat e) ∧ (∃ c, c < nc ∧ M 9 (ix10 p 7) = Int32.ofNat c) ∧ (M 9 (ix10 p 3) ≠ 0 ∨ M 8 (ix8 l 3) ≠ 0)
def ZB (nc ns nl np : Nat) (M : St) : Prop :=
  (M 1 0 = Int32.ofNat nc) ∧
  (M 2 0 = Int32.ofNat ns) ∧
  (M 3 0 = Int32.ofNat nl) ∧
  (M 4 0 = Int32.ofNat np) ∧
  (nc ≤ 12) ∧
  (ns ≤ 18) ∧
  (nl ≤ 20) ∧
  (np ≤ 4) ∧
  (∀ c, ∃ h, h ≤ 30 ∧ M 5 c = Int32.ofNat h) ∧
  (∀ s, s < ns → ∃ a, a < nc ∧ M 6 (ix3 s 0) = Int32.ofNat a) ∧
  (∀ s, s < ns → ∃ a, a < nc ∧ M 6 (ix3 s 1) = Int32.ofNat a) ∧
  (∀ s, s < ns → ∃ a, 1 ≤ a ∧ a ≤ 9 ∧ M 6 (ix3 s 2) = Int32.ofNat a) ∧
  (∀ l, l < nl → ∃ s, s < ns ∧ M 8 (ix8 l 0) = Int32.ofNat s) ∧
  (∀ l, ∃ o, o ≤ 300 ∧ M 8 (ix8 l 3) = Int32.ofNat o) ∧
  (∀ l, M 8 (ix8 l 5) = 0 ∨ M 8 (ix8 l 5) = 1) ∧
  (∀ h, ∃ w, w ≤ 9 ∧ M 11 h = Int32.ofNat w) ∧
  (∀ p, p < np → ∃ c, c < nc ∧ M 9 (ix10 p 0) = Int32.ofNat c) ∧
  (∀ p, p < np → ∃ c, c < nc ∧ M 9 (ix10 p 1) = Int32.ofNat c) ∧
  (∀ p, ∃ o, o ≤ 999 ∧ M 9 (ix10 p 3) = Int32.ofNat o) ∧
  (∀ p, p < np → ∃ k, k ≤ 10 ∧ M 9 (ix10 p 4) = Int32.ofNat k ∧ (M 9 (ix10 p 8) = -1 ∨ ∃ j, j < k ∧ M 9 (ix10 p 8) = Int32.ofNat j) ∧ ∀ i, i < k → ∃ l, l < nl ∧ M 10 (ix10 p i) = Int32.ofNat l) ∧
  (∀ p, p < np → ZG nc nl M p) ∧
  (∀ p q, p < np → q < np → p ≠ q → M 9 (ix10 p 5) ≠ -1 → M 9 (ix10 p 5) ≠ M 9 (ix10 q 5)) ∧
  (∃ m, m ≤ 600 ∧ M 12 0 = Int32.ofNat m) ∧
  (∀ l w, nl ≤ l → w < 8 → M 8 (ix8 l w) = 0) ∧
  (∀ p w, np ≤ p → w < 10 → M 9 (ix10 p w) = 0) ∧
  (∀ a b, a < nc → b < nc → ∃ d, (d ≤ 264 ∨ d = 9999) ∧ M 7 (ix12 a b) = Int32.ofNat d)
theorem ZB.mk {nc ns nl np : Nat} {M : St} (k1 : M 1 0 = Int32.ofNat nc) (k2 : M 2 0 = Int32.ofNat ns) (k3 : M 3 0 = Int32.ofNat nl) (k4 : M 4 0 = Int32.ofNat np) (l1 : nc ≤ 12) (l2 : ns ≤ 18) (l3 : nl ≤ 20) (l4 : np ≤ 4) (hi : ∀ c, ∃ h, h ≤ 30 ∧ M 5 c = Int32.ofNat h) (sa : ∀ s, s < ns → ∃ a, a < nc ∧ M 6 (ix3 s 0) = Int32.ofNat a) (sb : ∀ s, s < ns → ∃ a, a < nc ∧ M 6 (ix3 s 1) = Int32.ofNat a) (sl : ∀ s, s < ns → ∃ a, 1 ≤ a ∧ a ≤ 9 ∧ M 6 (ix3 s 2) = Int32.ofNat a) (lw : ∀ l, l < nl → ∃ s, s < ns ∧ M 8 (ix8 l 0) = Int32.ofNat s) (lo : ∀ l, ∃ o, o ≤ 300 ∧ M 8 (ix8 l 3) = Int32.ofNat o) (lb : ∀ l, M 8 (ix8 l 5) = 0 ∨ M 8 (ix8 l 5) = 1) (wd : ∀ h, ∃ w, w ≤ 9 ∧ M 11 h = Int32.ofNat w) (ph : ∀ p, p < np → ∃ c, c < nc ∧ M 9 (ix10 p 0) = Int32.ofNat c) (pa : ∀ p, p < np → ∃ c, c < nc ∧ M 9 (ix10 p 1) = Int32.ofNat c) (pc : ∀ p, ∃ o, o ≤ 999 ∧ M 9 (ix10 p 3) = Int32.ofNat o) (pl : ∀ p, p < np → ∃ k, k ≤ 10 ∧ M 9 (ix10 p 4) = Int32.ofNat k ∧ (M 9 (ix10 p 8) = -1 ∨ ∃ j, j < k ∧ M 9 (ix10 p 8) = Int32.ofNat j) ∧ ∀ i, i < k → ∃ l, l < nl ∧ M 10 (ix10 p i) = Int32.ofNat l) (pg : ∀ p, p < np → ZG nc nl M p) (pd : ∀ p q, p < np → q < np → p ≠ q → M 9 (ix10 p 5) ≠ -1 → M 9 (ix10 p 5) ≠ M 9 (ix10 q 5)) (mi : ∃ m, m ≤ 600 ∧ M 12 0 = Int32.ofNat m) (zl : ∀ l w, nl ≤ l → w < 8 → M 8 (ix8 l w) = 0) (zp : ∀ p w, np ≤ p → w < 10 → M 9 (ix10 p w) = 0) (wy : ∀ a b, a < nc → b < nc → ∃ d, (d ≤ 264 ∨ d = 9999) ∧ M 7 (ix12 a b) = Int32.ofNat d) : ZB nc ns nl np M := ⟨k1, k2, k3, k4, l1, l2, l3, l4, hi, sa, sb, sl, lw, lo, lb, wd, ph, pa, pc, pl, pg, pd, mi, zl, zp, wy⟩
theorem ZB.k1 {nc ns nl np : Nat} {M : St} (h : ZB nc ns nl np M) : M 1 0 = Int32.ofNat nc := h.1
theorem ZB.k2 {nc ns nl np : Nat} {M : St} (h : ZB nc ns nl np M) : M 2 0 = Int32.ofNat ns := h.2.1
theorem ZB.k3 {nc ns nl np : Nat} {M : St} (h : ZB nc ns nl np M) : M 3 0 = Int32.ofNat nl := h.2.2.1
theorem ZB.k4 {nc ns nl np : Nat} {M : St} (h : ZB nc ns nl np M) : M 4 0 = Int32.ofNat np := h.2.2.2.1
theorem ZB.l1 {nc ns nl np : Nat} {M : St} (h : ZB nc ns nl np M) : nc ≤ 12 := h.2.2.2.2.1
theorem ZB.l2 {nc ns nl np : Nat} {M : St} (h : ZB nc ns nl np M) : ns ≤ 18 := h.2.2.2.2.2.1
theorem ZB.l3 {nc ns nl np : Nat} {M : St} (h : ZB nc ns nl np M) : nl ≤ 20 := h.2.2.2.2.2.2.1
theorem ZB.l4 {nc ns nl np : Nat} {M : St} (h : ZB nc ns nl np M) : np ≤ 4 := h.2.2.2.2.2.2.2.1
theorem ZB.hi {nc ns nl np : Nat} {M : St} (h : ZB nc ns nl np M) : ∀ c, ∃ h, h ≤ 30 ∧ M 5 c = Int32.ofNat h := h.2.2.2.2.2.2.2.2.1
theorem ZB.sa {nc ns nl np : Nat} {M : St} (h : ZB nc ns nl np M) : ∀ s, s < ns → ∃ a, a < nc ∧ M 6 (ix3 s 0) = Int32.ofNat a := h.2.2.2.2.2.2.2.2.2.1
theorem ZB.sb {nc ns nl np : Nat} {M : St} (h : ZB nc ns nl np M) : ∀ s, s < ns → ∃ a, a < nc ∧ M 6 (ix3 s 1) = Int32.ofNat a := h.2.2.2.2.2.2.2.2.2.2.1
theorem ZB.sl {nc ns nl np : Nat} {M : St} (h : ZB nc ns nl np M) : ∀ s, s < ns → ∃ a, 1 ≤ a ∧ a ≤ 9 ∧ M 6 (ix3 s 2) = Int32.ofNat a := h.2.2.2.2.2.2.2.2.2.2.2.1
theorem ZB.lw {nc ns nl np : Nat} {M : St} (h : ZB nc ns nl np M) : ∀ l, l < nl → ∃ s, s < ns ∧ M 8 (ix8 l 0) = Int32.ofNat s := h.2.2.2.2.2.2.2.2.2.2.2.2.1
theorem ZB.lo {nc ns nl np : Nat} {M : St} (h : ZB nc ns nl np M) : ∀ l, ∃ o, o ≤ 300 ∧ M 8 (ix8 l 3) = Int32.ofNat o := h.2.2.2.2.2.2.2.2.2.2.2.2.2.1
theorem ZB.lb {nc ns nl np : Nat} {M : St} (h : ZB nc ns nl np M) : ∀ l, M 8 (ix8 l 5) = 0 ∨ M 8 (ix8 l 5) = 1 := h.2.2.2.2.2.2.2.2.2.2.2.2.2.2.1
theorem ZB.wd {nc ns nl np : Nat} {M : St} (h : ZB nc ns nl np M) : ∀ h, ∃ w, w ≤ 9 ∧ M 11 h = Int32.ofNat w := h.2.2.2.2.2.2.2.2.2.2.2.2.2.2.2.1
theorem ZB.ph {nc ns nl np : Nat} {M : St} (h : ZB nc ns nl np M) : ∀ p, p < np → ∃ c, c < nc ∧ M 9 (ix10 p 0) = Int32.ofNat c := h.2.2.2.2.2.2.2.2.2.2.2.2.2.2.2.2.1
theorem ZB.pa {nc ns nl np : Nat} {M : St} (h : ZB nc ns nl np M) : ∀ p, p < np → ∃ c, c < nc ∧ M 9 (ix10 p 1) = Int32.ofNat c := h.2.2.2.2.2.2.2.2.2.2.2.2.2.2.2.2.2.1
theorem ZB.pc {nc ns nl np : Nat} {M : St} (h : ZB nc ns nl np M) : ∀ p, ∃ o, o ≤ 999 ∧ M 9 (ix10 p 3) = Int32.ofNat o := h.2.2.2.2.2.2.2.2.2.2.2.2.2.2.2.2.2.2.1
theorem ZB.pl {nc ns nl np : Nat} {M : St} (h : ZB nc ns nl np M) : ∀ p, p < np → ∃ k, k ≤ 10 ∧ M 9 (ix10 p 4) = Int32.ofNat k ∧ (M 9 (ix10 p 8) = -1 ∨ ∃ j, j < k ∧ M 9 (ix10 p 8) = Int32.ofNat j) ∧ ∀ i, i < k → ∃ l, l < nl ∧ M 10 (ix10 p i) = Int32.ofNat l := h.2.2.2.2.2.2.2.2.2.2.2.2.2.2.2.2.2.2.2.1
theorem ZB.pg {nc ns nl np : Nat} {M : St} (h : ZB nc ns nl np M) : ∀ p, p < np → ZG nc nl M p := h.2.2.2.2.2.2.2.2.2.2.2.2.2.2.2.2.2.2.2.2.1
theorem ZB.pd {nc ns nl np : Nat} {M : St} (h : ZB nc ns nl np M) : ∀ p q, p < np → q < np → p ≠ q → M 9 (ix10 p 5) ≠ -1 → M 9 (ix10 p 5) ≠ M 9 (ix10 q 5) := h.2.2.2.2.2.2.2.2.2.2.2.2.2.2.2.2.2.2.2.2.2.1
theorem ZB.mi {nc ns nl np : Nat} {M : St} (h : ZB nc ns nl np M) : ∃ m, m ≤ 600 ∧ M 12 0 = Int32.ofNat m := h.2.2.2.2.2.2.2.2.2.2.2.2.2.2.2.2.2.2.2.2.2.2.1
theorem ZB.zl {nc ns nl np : Nat} {M : St} (h : ZB nc ns nl np M) : ∀ l w, nl ≤ l → w < 8 → M 8 (ix8 l w) = 0 := h.2.2.2.2.2.2.2.2.2.2.2.2.2.2.2.2.2.2.2.2.2.2.2.1
theorem ZB.zp {nc ns nl np : Nat} {M : St} (h : ZB nc ns nl np M) : ∀ p w, np ≤ p → w < 10 → M 9 (ix10 p w) = 0 := h.2.2.2.2.2.2.2.2.2.2.2.2.2.2.2.2.2.2.2.2.2.2.2.2.1
theorem ZB.wy {nc ns nl np : Nat} {M : St} (h : ZB nc ns nl np M) : ∀ a b, a < nc → b < nc → ∃ d, (d ≤ 264 ∨ d = 9999) ∧ M 7 (ix12 a b) = Int32.ofNat d := h.2.2.2.2.2.2.2.2.2.2.2.2.2.2.2.2.2.2.2.2.2.2.2.2.2
def ZK (M M' : St) : Prop := (∀ k, k ≠ 8 → k ≠ 9 → k ≠ 12 → M' k = M k) ∧ (∀ x, 160 ≤ x → M' 8 x = M 8 x) ∧ (∀ x, 40 ≤ x → M' 9 x = M 9 x) ∧ (∀ x, 3 ≤ x → M' 12 x = M 12 x)
theorem ZK_refl (M : St) : ZK M M := ⟨fun _ _ _ _ => rfl, fun _ _ => rfl, fun _ _ => rfl, fun _ _ => rfl⟩
theorem ZK_trans {M M' M'' : St} (h : ZK M M') (h' : ZK M' M'') : ZK M M'' :=
  ⟨fun k a b c => (h'.1 k a b c).trans (h.1 k a b c), fun x hx => (h'.2.1 x hx).trans (h.2.1 x hx), fun x hx => (h'.2.2.1 x hx).trans (h.2.2.1 x hx), fun x hx => (h'.2.2.2 x hx).trans (h.2.2.2 x hx)⟩
theorem ZK_8 {M M' : St} {l w : Nat} {v : Int32} (hl : l < 20) (hw : w < 8) (h : ZK M M') : ZK M (up2 M' 8 (ix8 l w) v) := by
  refine ⟨fun k a b c => ?_, fun x hx => ?_, h.2.2.1, h.2.2.2⟩
  · funext x; simp [up2, up1, a]; exact congrFun (h.1 k a b c) x
  · have : ¬ x = ix8 l w := by unfold ix8; omega
    simp [up2, up1, upd, this]; exact h.2.1 x hx
theorem ZK_9 {M M' : St} {l w : Nat} {v : Int32} (hl : l < 4) (hw : w < 10) (h : ZK M M') : ZK M (up2 M' 9 (ix10 l w) v) := by
  refine ⟨fun k a b c => ?_, h.2.1, fun x hx => ?_, h.2.2.2⟩
  · funext x; simp [up2, up1, b]; exact congrFun (h.1 k a b c) x
  · have : ¬ x = ix10 l w := by unfold ix10; omega
    simp [up2, up1, upd, this]; exact h.2.2.1 x hx
theorem ZK_12 {M M' : St} {w : Nat} {v : Int32} (hw : w < 3) (h : ZK M M') : ZK M (up2 M' 12 w v) := by
  refine ⟨fun k a b c => ?_, h.2.1, h.2.2.1, fun x hx => ?_⟩
  · funext x; simp [up2, up1, c]; exact congrFun (h.1 k a b c) x
  · have : ¬ x = w := by omega
    simp [up2, up1, upd, this]; exact h.2.2.2 x hx
theorem z_toI {n : Nat} (h : n < 2147483648) : (Int32.ofNat n).toInt = (n : Int) := z_int h
theorem z_div {a b : Nat} (ha : a < 2147483648) (hb : b < 2147483648) : Int32.ofNat a / Int32.ofNat b = Int32.ofNat (a / b) := by
  have hd : a / b ≤ a := Nat.div_le_self a b
  apply Int32.toInt_inj.mp
  rw [Int32.toInt_div, z_int ha, z_int hb, z_int (by omega), Int.tdiv_eq_ediv_of_nonneg (by omega)]
  have e : ((a : Int) / (b : Int)) = ((a / b : Nat) : Int) := by simp
  have e2 : a / b < 2147483648 := by omega
  rw [e]; generalize a / b = k at *
  rw [Int.bmod_eq_of_le] <;> omega
theorem z_mod {a b : Nat} (ha : a < 2147483648) (hb : b < 2147483648) : Int32.ofNat a - Int32.ofNat a / Int32.ofNat b * Int32.ofNat b = Int32.ofNat (a % b) := by
  rw [z_div ha hb, z_mul]
  have h := Nat.div_add_mod' a b
  have e : Int32.ofNat a = Int32.ofNat (a % b) + Int32.ofNat (a / b * b) := by
    rw [z_add]; congr 1; omega
  conv => lhs; lhs; rw [e]
  exact Int32.add_sub_cancel _ _
theorem z_sub {a b : Nat} (h : b ≤ a) : Int32.ofNat a - Int32.ofNat b = Int32.ofNat (a - b) := by
  have e : Int32.ofNat a = Int32.ofNat (a - b) + Int32.ofNat b := by rw [z_add]; congr 1; omega
  rw [e]; exact Int32.add_sub_cancel _ _
theorem z_goer_L {nc ns nl np : Nat} {T N M : St} (E : ZE nc nl T N M) (B : ZB nc ns nl np M) (x : Int32) : ∀ (fu i : Nat), i ≤ np → np - i < fu → ∃ r, f0_whoGoesTo_L2 x N T fu (Int32.ofNat i) = some r ∧ f3_goer_L2 x M fu (Int32.ofNat i) = some r ∧ ((r = -1 ∧ ∀ q, i ≤ q → q < np → M 9 (ix10 q 5) ≠ x) ∨ ∃ q, q < np ∧ r = Int32.ofNat q ∧ M 9 (ix10 q 5) = x) := by
  have l4 := B.l4
  intro fu
  induction fu with
  | zero => intro i _ h; omega
  | succ fu ih =>
    intro i hi hf
    rw [f0_whoGoesTo_L2, f3_goer_L2, E.c12, B.k4]
    by_cases h : np ≤ i
    · simp (disch := omega) only [z_le, if_pos h]
      exact ⟨-1, rfl, rfl, .inl ⟨rfl, fun q h1 h2 => by omega⟩⟩
    · simp (disch := omega) only [z_le, if_neg h, z_xin, gd_t, z_pe5, bd_e, z_clamp, E.n11]
      by_cases e : M 9 (ix10 i 5) = x
      · simp only [if_pos e]
        exact ⟨_, rfl, rfl, .inr ⟨i, by omega, rfl, e⟩⟩
      · rw [if_neg e, if_neg e, z_s1]
        obtain ⟨r, h1, h2, h3⟩ := ih (i + 1) (by omega) (by omega)
        refine ⟨r, h1, h2, ?_⟩
        rcases h3 with ⟨h3, h4⟩ | h3
        · refine .inl ⟨h3, fun q q1 q2 => ?_⟩
          by_cases hq : q = i
          · subst hq; exact e
          · exact h4 q (by omega) q2
        · exact .inr h3
theorem z_goer {nc ns nl np : Nat} {T N M : St} (E : ZE nc nl T N M) (B : ZB nc ns nl np M) (x : Int32) : ∃ r, f0_whoGoesTo N T x = some r ∧ f3_goer M x = some r ∧ ((r = -1 ∧ ∀ q, q < np → M 9 (ix10 q 5) ≠ x) ∨ ∃ q, q < np ∧ r = Int32.ofNat q ∧ M 9 (ix10 q 5) = x) := by
  have l4 := B.l4
  obtain ⟨r, h1, h2, h3⟩ := z_goer_L E B x xF 0 (by omega) (by unfold xF; omega)
  refine ⟨r, h1, h2, ?_⟩
  rcases h3 with ⟨h3, h4⟩ | h3
  · exact .inl ⟨h3, fun q hq => h4 q (by omega) hq⟩
  · exact .inr h3
theorem z_away {M : St} {a b : Nat} (ha : a < 12) (hb : b < 12) : f3_away M (Int32.ofNat a) (Int32.ofNat b) = some (if M 7 (ix12 a b) < 9999 then M 7 (ix12 a b) else 9999) := by
  unfold f3_away; rw [z_s12, z_xin (by omega) (by omega), z_clamp (by omega), gd_t]; rfl
theorem z_l9999 : (9999 : Int32) = Int32.ofNat 9999 := rfl
theorem z_lM : (1000000 : Int32) = Int32.ofNat 1000000 := rfl
theorem z_min {d : Nat} (h : d ≤ 264 ∨ d = 9999) : (if Int32.ofNat d < 9999 then Int32.ofNat d else 9999) = Int32.ofNat d := by
  rw [z_l9999, z_ilt (by omega) (by omega)]
  split
  · rfl
  · have : d = 9999 := by omega
    rw [this]
theorem z_min2 {d : Nat} (h : d ≤ 264 ∨ d = 9999) : (if d < 9999 then Int32.ofNat d else Int32.ofNat 9999) = Int32.ofNat d := by
  split
  · rfl
  · have : d = 9999 := by omega
    rw [this]
theorem z_wcls {d : Nat} (h : d ≤ 264 ∨ d = 9999) : wcls (Int32.ofNat d) = Int32.ofNat (if d = 9999 then 1000000 else d) := by
  unfold wcls; rw [z_l9999, z_ieq (by omega) (by omega)]; split <;> rfl
theorem z_corner {nc ns nl np : Nat} {T N M : St} (E : ZE nc nl T N M) (B : ZB nc ns nl np M) {p l at_ : Nat} (hp : p < 4) (hl : l < nl) (ha : at_ < nc) (hat : M 9 (ix10 p 1) = Int32.ofNat at_) :
    ∃ c, c < nc ∧ f1_nearerEnd T (Int32.ofNat at_) (Int32.ofNat l) = some (Int32.ofNat c) ∧
      ((f1_canReach T (Int32.ofNat p) (Int32.ofNat at_) (Int32.ofNat l) = some 0 ∧ f3_corner_ M (Int32.ofNat p) (Int32.ofNat l) = some (-1)) ∨
       (f1_canReach T (Int32.ofNat p) (Int32.ofNat at_) (Int32.ofNat l) = some 1 ∧ f3_corner_ M (Int32.ofNat p) (Int32.ofNat l) = some (Int32.ofNat c) ∧
         ∃ d, d ≤ 264 ∧ M 7 (ix12 at_ c) = Int32.ofNat d ∧ T (100 + at_) c = Int32.ofNat d)) := by
  have l1 := B.l1; have l2 := B.l2; have l3 := B.l3
  obtain ⟨s, hs, es⟩ := B.lw l hl
  obtain ⟨a, haa, ea⟩ := B.sa s hs
  obtain ⟨b, hbb, eb⟩ := B.sb s hs
  obtain ⟨da, hda, eda⟩ := B.wy at_ a ha haa
  obtain ⟨db, hdb, edb⟩ := B.wy at_ b ha hbb
  have wa := E.wy at_ a ha haa
  have wb := E.wy at_ b ha hbb
  rw [eda, z_wcls hda] at wa
  rw [edb, z_wcls hdb] at wb
  have n1 : f1_nearerEnd T (Int32.ofNat at_) (Int32.ofNat l) = some (Int32.ofNat (if db < da then b else a)) := by
    unfold f1_nearerEnd
    rw [z_xin (by omega) (by omega), gd_t, lt_e, z_clamp (by omega), E.t8, es, z_xin (by omega) (by omega), gd_t, lt_e, lt_e, z_clamp (by omega), E.t4, E.t5, ea, eb,
      z_xin (by omega) (by omega), z_xin (by omega) (by omega), z_xin (by omega) (by omega), gd_t, gd_t, gd_t, z_clamp (by omega), z_clamp (by omega), z_clamp (by omega), wa, wb, z_ilt (by split <;> omega) (by split <;> omega)]
    have : ((if db = 9999 then 1000000 else db) < (if da = 9999 then 1000000 else da)) ↔ db < da := by split <;> split <;> omega
    by_cases h : db < da
    · rw [if_pos (this.mpr h), if_pos h]
    · rw [if_neg (fun k => h (this.mp k)), if_neg h]
  have hc : (if db < da then b else a) < nc := by split <;> assumption
  obtain ⟨dc, hdc, edc⟩ := B.wy at_ _ ha hc
  have wc := E.wy at_ _ ha hc
  rw [edc, z_wcls hdc] at wc
  refine ⟨if db < da then b else a, hc, n1, ?_⟩
  have m1 : f3_corner_ M (Int32.ofNat p) (Int32.ofNat l) = some (if M 9 (ix10 p 2) + 2 < M 8 (ix8 l 1) then -1 else if dc = 9999 then -1 else Int32.ofNat (if db < da then b else a)) := by
    unfold f3_corner_
    by_cases h : db < da
    · simp only [if_pos h] at edc hc ⊢
      have hn : ¬ da ≤ db := by omega
      simp (disch := omega) only [z_la0, z_la1, bd_e, es, z_ro0, z_ro1, z_pe1, z_pe2, hat, ea, eb, z_away, eda, edb, z_lt, z_min2 hda, z_min2 hdb, lt_e, z_le, if_neg hn, z_l9999, z_inj]
      have hd : db = dc := by
        rw [edb] at edc; exact (z_inj (by omega) (by omega)).mp edc
      subst hd
      by_cases h1 : M 9 (ix10 p 2) + 2 < M 8 (ix8 l 1)
      · simp only [if_pos h1]
      · simp only [if_neg h1]
        by_cases h2 : db = 9999
        · simp only [if_pos h2]
        · simp only [if_neg h2]
    · simp only [if_neg h] at edc hc ⊢
      have hn : da ≤ db := by omega
      simp (disch := omega) only [z_la0, z_la1, bd_e, es, z_ro0, z_ro1, z_pe1, z_pe2, hat, ea, eb, z_away, eda, edb, z_lt, z_min2 hda, z_min2 hdb, lt_e, z_le, if_pos hn, z_l9999, z_inj]
      have hd : da = dc := by
        rw [eda] at edc; exact (z_inj (by omega) (by omega)).mp edc
      subst hd
      by_cases h1 : M 9 (ix10 p 2) + 2 < M 8 (ix8 l 1)
      · simp only [if_pos h1]
      · simp only [if_neg h1]
        by_cases h2 : da = 9999
        · simp only [if_pos h2]
        · simp only [if_neg h2]
  have m2 : f1_canReach T (Int32.ofNat p) (Int32.ofNat at_) (Int32.ofNat l) = some (if M 9 (ix10 p 2) + 2 < M 8 (ix8 l 1) then 0 else if dc = 9999 then 0 else 1) := by
    unfold f1_canReach
    rw [z_xin (by omega) (by omega), gd_t, z_xin (by omega) (by omega), gd_t, z_clamp (by omega), z_clamp (by omega), E.t14, E.t9, n1, bd_e, z_xin (by omega) (by omega), gd_t, z_xin (by omega) (by omega), gd_t, z_clamp (by omega), z_clamp (by omega), wc, z_lM, z_ile (by omega) (by split <;> omega)]
    by_cases h1 : M 9 (ix10 p 2) + 2 < M 8 (ix8 l 1)
    · rw [if_pos h1, if_pos h1]
    · rw [if_neg h1, if_neg h1]
      by_cases h2 : dc = 9999
      · rw [if_pos h2, if_pos h2, if_pos (by omega)]
      · rw [if_neg h2, if_neg h2, if_neg (by omega)]
  rw [m1, m2]
  by_cases h1 : M 9 (ix10 p 2) + 2 < M 8 (ix8 l 1)
  · rw [if_pos h1, if_pos h1]; exact .inl ⟨rfl, rfl⟩
  · rw [if_neg h1, if_neg h1]
    by_cases h2 : dc = 9999
    · rw [if_pos h2, if_pos h2]; exact .inl ⟨rfl, rfl⟩
    · rw [if_neg h2, if_neg h2]; rw [if_neg h2] at wc
      exact .inr ⟨rfl, rfl, dc, by omega, edc, wc⟩
