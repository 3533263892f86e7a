/-! THE MINUTES TOGETHER, and what the class tells of a state -/
def YI (nc ns nl np : Nat) (T N M : St) (Y : Nat → Nat) (S : St) : Prop := ZE nc nl T N M ∧ ZB nc ns nl np M ∧ ZX nl np M ∧ SR nc ns nl np Y S M ∧ SW nc S M
theorem y_min1 {nc ns nl np m : Nat} {Y : Nat → Nat} {T N M S : St} (I : YI nc ns nl np T N M Y S) (hm : m < 600) (em : M 12 0 = Int32.ofNat m) :
    ∃ N' M' v w r S', YI nc ns nl np T N' M' Y S' ∧ f3_minuteOn M = some (v, M') ∧ f5_pass Y S = some (r, S') ∧ yMin nl np m M M' ∧ zlit M' nl = zlit M nl + w ∧ ZK M M' ∧ M' 12 0 = Int32.ofNat (m + 1) ∧
      (∀ l, l < nl → ∃ j, j ≤ 4 ∧ M' 8 (ix8 l 6) = M 8 (ix8 l 6) + Int32.ofNat j ∧ zbit v l = if j = 0 then 0 else 1) ∧
      ∀ (fu : Nat) (p2 v1 v2 : Int32), ¬ p2 ≤ v2 → f0_goBy_L5 p2 T (fu + 1) v1 v2 N = f0_goBy_L5 p2 T fu (v1 + w) (v2 + 1) N' := by
  obtain ⟨E, B, X, R, V⟩ := I
  obtain ⟨M1, v, r, S', a1, a2, P, B1, X1, R', V', X'⟩ := y_minute E B X R V hm em
  obtain ⟨N', M', v', w, b1, E', B', K', b2, b3, b4, b5⟩ := z_minute E B hm em
  obtain ⟨e1, e2⟩ := Prod.mk.inj (Option.some.inj (b1.symm.trans a1))
  subst e1; subst e2
  exact ⟨N', _, v', w, r, S', ⟨E', B', X', R', V'⟩, a1, a2, y_min B B1 X1 hm em P, b3, K', b2, b4, b5⟩
theorem y_passL {nc ns nl np : Nat} {Y : Nat → Nat} {T : St} {cnt : Nat} (hc : cnt ≤ 600) : ∀ (fu g : Nat) (N M S : St) (v1 : Int32), YI nc ns nl np T N M Y S → g ≤ cnt → cnt - g < fu →
    ∃ N' M' S' w, f0_goBy_L5 (Int32.ofNat cnt) T fu v1 (Int32.ofNat g) N = some (w, N') ∧ f5_pass__L2 (Int32.ofNat cnt) Y fu (Int32.ofNat g) S = some S' ∧ YI nc ns nl np T N' M' Y S' := by
  intro fu
  induction fu with
  | zero => intro g N M S v1 I h1 h2; omega
  | succ fu ih =>
    intro g N M S v1 I h1 h2
    obtain ⟨m, hm, em⟩ := I.2.1.mi
    have en : N 0 0 = Int32.ofNat m := by rw [I.1.n0]; exact em
    have es : S 7 0 = Int32.ofNat m := by rw [I.2.2.2.1.mi]; exact em
    by_cases h : cnt ≤ g
    · refine ⟨N, M, S, v1, ?_, ?_, I⟩
      · rw [f0_goBy_L5, if_pos (by rw [z_le (by omega) (by omega)]; exact h)]
      · rw [f5_pass__L2, if_pos (by rw [z_le (by omega) (by omega)]; exact h)]
    · have hn : ¬ Int32.ofNat cnt ≤ Int32.ofNat g := by rw [z_le (by omega) (by omega)]; exact h
      by_cases h6 : m = 600
      · refine ⟨N, M, S, v1, ?_, ?_, I⟩
        · rw [f0_goBy_L5, if_neg hn, if_pos (by rw [en, h6]; decide)]
        · rw [f5_pass__L2, if_neg hn, if_pos (by rw [es, h6]; decide)]
      · obtain ⟨N1, M1, v, w, r, S1, I1, a1, a2, -, -, -, -, -, a5⟩ := y_min1 I (show m < 600 by omega) em
        obtain ⟨N2, M2, S2, w2, b1, b2, I2⟩ := ih (g + 1) N1 M1 S1 (v1 + w) I1 (by omega) (by omega)
        refine ⟨N2, M2, S2, w2, ?_, ?_, I2⟩
        · rw [a5 fu _ v1 _ hn, z_s1, b1]
        · rw [f5_pass__L2, if_neg hn, if_neg (by rw [es, show (600 : Int32) = Int32.ofNat 600 from rfl, z_le (by omega) (by omega)]; omega), a2, bd2_e, z_s1, b2]
theorem y_rng {n lo hi : Nat} (h1 : lo ≤ n) (h2 : n ≤ hi) (hh : hi < 2147483648) : f2_requireRange (Int32.ofNat n) (Int32.ofNat lo) (Int32.ofNat hi) = some (.inr ()) := by
  unfold f2_requireRange
  simp only [lt_e]
  rw [z_ilt (by omega) (by omega), if_neg (by omega), z_ile (by omega) (by omega), if_pos (by omega)]
theorem y_rng1 : f2_requireRange 1 1 600 = some (.inr ()) := y_rng (n := 1) (lo := 1) (hi := 600) (by omega) (by omega) (by omega)
theorem y_passV {nc ns nl np cnt : Nat} {Y : Nat → Nat} {T N M S : St} (I : YI nc ns nl np T N M Y S) (G F : St) (h1 : 1 ≤ cnt) (hc : cnt ≤ 600) :
    ∃ N' M' S' w, f2_pass G N F T (Int32.ofNat cnt) = some (.inr (w, N')) ∧ f5_pass_ Y S (Int32.ofNat cnt) = some S' ∧ YI nc ns nl np T N' M' Y S' := by
  obtain ⟨N', M', S', w, a1, a2, I'⟩ := y_passL (T := T) hc xF 0 N M S 0 I (by omega) (by unfold xF; omega)
  refine ⟨N', M', S', w, ?_, a2, I'⟩
  unfold f2_pass f0_goBy
  rw [show (1 : Int32) = Int32.ofNat 1 from rfl, show (600 : Int32) = Int32.ofNat 600 from rfl, y_rng h1 hc (by omega), bx0_r]
  exact (congrArg (fun z => bd2 z _) a1).trans rfl
/-- one minute, both: at 600 nothing, before it the minute -/
theorem y_pass1 {nc ns nl np m : Nat} {Y : Nat → Nat} {T N M S : St} (I : YI nc ns nl np T N M Y S) (G F : St) (hm : m < 600) (em : M 12 0 = Int32.ofNat m) :
    ∃ N' M' S' w v, f2_pass G N F T 1 = some (.inr (w, N')) ∧ f5_pass_ Y S 1 = some S' ∧ YI nc ns nl np T N' M' Y S' ∧ f3_minuteOn M = some (v, M') ∧ yMin nl np m M M' ∧ zlit M' nl = zlit M nl + w ∧ M' 12 0 = Int32.ofNat (m + 1) := by
  obtain ⟨N1, M1, v, w, r, S1, I1, a1, a2, a3, a4, -, a6, -, a5⟩ := y_min1 I hm em
  refine ⟨N1, M1, S1, w, v, ?_, ?_, I1, a1, a3, a4, a6⟩
  · unfold f2_pass
    rw [y_rng1, bx0_r, z_go1 (nc := nc) (nl := nl) a5, bd2_e]
  · have es : S 7 0 = Int32.ofNat m := by rw [I.2.2.2.1.mi]; exact em
    unfold f5_pass_ xF
    rw [f5_pass__L2, if_neg (by decide), if_neg (by rw [es, show (600 : Int32) = Int32.ofNat 600 from rfl, z_le (by omega) (by omega)]; omega), a2, bd2_e, f5_pass__L2, if_pos (by decide)]
theorem y_pass0 {nc ns nl np : Nat} {Y : Nat → Nat} {T N M S : St} (I : YI nc ns nl np T N M Y S) (G F : St) (em : M 12 0 = Int32.ofNat 600) :
    f2_pass G N F T 1 = some (.inr (0, N)) ∧ f5_pass_ Y S 1 = some S := by
  have en : N 0 0 = Int32.ofNat 600 := by rw [I.1.n0]; exact em
  have es : S 7 0 = Int32.ofNat 600 := by rw [I.2.2.2.1.mi]; exact em
  constructor
  · unfold f2_pass f0_goBy
    rw [y_rng1, bx0_r]
    unfold xF
    rw [f0_goBy_L5, if_neg (by decide), if_pos (by rw [en]; decide), bd2_e]
  · unfold f5_pass_ xF
    rw [f5_pass__L2, if_neg (by decide), if_pos (by rw [es]; decide)]
theorem y_told {nc ns nl np : Nat} {T N M : St} (E : ZE nc nl T N M) (B : ZB nc ns nl np M) (G F : St) {l w : Nat} (hl : l < nl) (hw : w < 6) : f2_told G N F T (Int32.ofNat l) (Int32.ofNat w) = some (.inr (M 8 (ix8 l w))) := by
  have l3 := B.l3
  obtain ⟨r, h1, h2⟩ := z_toldV E B G F hl (show w < 9 by omega)
  have : f3_lampTold M (Int32.ofNat l) (Int32.ofNat w) = some (M 8 (ix8 l w)) := by
    unfold f3_lampTold
    rw [if_neg (by rw [show (6 : Int32) = Int32.ofNat 6 from rfl, z_le (by omega) (by omega)]; omega), z_la rfl rfl (by omega) (by omega), bd_e]
  rw [h1, ← Option.some.inj (h2.symm.trans this)]
theorem y_told7 {nc ns nl np : Nat} {T N M : St} (E : ZE nc nl T N M) (B : ZB nc ns nl np M) (G F : St) {l w : Nat} (hl : l < nl) (hw : w = 6 ∨ w = 7) : f2_told G N F T (Int32.ofNat l) (Int32.ofNat (w + 1)) = some (.inr (M 8 (ix8 l w))) := by
  have l3 := B.l3
  obtain ⟨r, h1, h2⟩ := z_toldV E B G F hl (show w + 1 < 9 by omega)
  have : f3_lampTold M (Int32.ofNat l) (Int32.ofNat (w + 1)) = some (M 8 (ix8 l w)) := by
    unfold f3_lampTold
    rw [if_pos (by rw [show (6 : Int32) = Int32.ofNat 6 from rfl, z_le (by omega) (by omega)]; omega), if_neg (by rw [show (6 : Int32) = Int32.ofNat 6 from rfl, z_inj (by omega) (by omega)]; omega), z_la rfl z_p1 (by omega) (by omega), bd_e]
  rw [h1, ← Option.some.inj (h2.symm.trans this)]
theorem y_told6 {nc ns nl np : Nat} {T N M : St} (E : ZE nc nl T N M) (B : ZB nc ns nl np M) (G F : St) {l : Nat} (hl : l < nl) : ∃ g, f2_told G N F T (Int32.ofNat l) 6 = some (.inr g) ∧ f3_goer M (Int32.ofNat l) = some g ∧ ((g = -1 ∧ ∀ q, q < np → M 9 (ix10 q 5) ≠ Int32.ofNat l) ∨ ∃ q, q < np ∧ g = Int32.ofNat q ∧ M 9 (ix10 q 5) = Int32.ofNat l) := by
  have l3 := B.l3
  obtain ⟨g, g1, g2, g3⟩ := z_goer E B (Int32.ofNat l)
  obtain ⟨r, h1, h2⟩ := z_toldV E B G F hl (show 6 < 9 by omega)
  have : f3_lampTold M (Int32.ofNat l) (Int32.ofNat 6) = some g := by
    unfold f3_lampTold
    rw [if_pos (by decide), if_pos (by decide), g2, bd_e]
  refine ⟨g, ?_, g2, g3⟩
  rw [show (6 : Int32) = Int32.ofNat 6 from rfl, h1, ← Option.some.inj (h2.symm.trans this)]
def lgw (w : Nat) : Nat := if w < 6 then w + 1 else 9
theorem y_lighter {nc ns nl np : Nat} {T N M : St} (E : ZE nc nl T N M) (B : ZB nc ns nl np M) (G F : St) {p w : Nat} (hp : p < np) (hw : w < 7) : f2_lighter G N F T (Int32.ofNat p) (Int32.ofNat w) = some (.inr (M 9 (ix10 p (lgw w)))) := by
  have l4 := B.l4
  obtain ⟨r, h1, h2⟩ := z_lighterV E B G F hp hw
  have : f3_lighterTold M (Int32.ofNat p) (Int32.ofNat w) = some (M 9 (ix10 p (lgw w))) := by
    unfold f3_lighterTold
    rw [z_pe1 (by omega), z_pe2 (by omega), z_pe3 (by omega), z_pe4 (by omega), z_pe5 (by omega), z_pe6 (by omega), z_pe9 (by omega)]
    simp only [bd_e, lt_e]
    rw [z_xin (n := w) (by omega) (by omega), gd_t, z_clamp (n := w) (by omega)]
    have c : w = 0 ∨ w = 1 ∨ w = 2 ∨ w = 3 ∨ w = 4 ∨ w = 5 ∨ w = 6 := by omega
    rcases c with e | e | e | e | e | e | e <;> subst e <;> rfl
  rw [h1, ← Option.some.inj (h2.symm.trans this)]
def yct (nc ns nl np : Nat) (M : St) : Nat → Int32
  | 0 => M 12 0
  | 1 => M 12 1
  | 2 => Int32.ofNat nc
  | 3 => Int32.ofNat ns
  | 4 => Int32.ofNat nl
  | 5 => zsum (fun l => M 8 (ix8 l 5)) nl
  | 6 => zdk M nl ns
  | 7 => Int32.ofNat np
  | 8 => zoil M nl
  | _ => M 12 2
theorem y_count {nc ns nl np : Nat} {T N M : St} (E : ZE nc nl T N M) (B : ZB nc ns nl np M) (G F : St) {i : Nat} (hi : i < 10) : f2_count G N F T (Int32.ofNat i) = some (.inr (yct nc ns nl np M i)) := by
  have c : i = 0 ∨ i = 1 ∨ i = 2 ∨ i = 3 ∨ i = 4 ∨ i = 5 ∨ i = 6 ∨ i = 7 ∨ i = 8 ∨ i = 9 := by omega
  obtain ⟨r, h1, h2⟩ := z_countV E B G F hi
  have : f3_counted M (Int32.ofNat i) = some (yct nc ns nl np M i) := by
    have a5 := z_all (w := 5) (x := 5) rfl (by decide) B
    have a3 := z_all (w := 3) (x := 3) rfl (by decide) B
    have ⟨d1, d2⟩ := z_dark E B
    unfold f3_counted
    rw [a5, d2, a3]
    simp only [bd_e, lt_e]
    rw [z_xin (n := i) (by omega) (by omega), gd_t, z_clamp (n := i) (by omega)]
    rcases c with e | e | e | e | e | e | e | e | e | e <;> subst e
    · rfl
    · rfl
    · exact congrArg some B.k1
    · exact congrArg some B.k2
    · exact congrArg some B.k3
    · rfl
    · rfl
    · exact congrArg some B.k4
    · rfl
    · rfl
  rw [h1, ← Option.some.inj (h2.symm.trans this)]
