/-! ALL LIGHTERS' MINUTE -/
theorem yLQ_L {nl : Nat} {M M1 M' : St} {q : Nat} (h : ∀ w, w < 10 → M1 9 (ix10 q w) = M 9 (ix10 q w)) (L : yLQ nl M1 M' q) : yLQ nl M M' q := by
  unfold yLQ at L ⊢
  rw [h 0 (by omega), h 1 (by omega), h 2 (by omega), h 3 (by omega), h 4 (by omega), h 5 (by omega), h 6 (by omega), h 9 (by omega)] at L
  exact L
theorem yLQ_R {nl : Nat} {M M1 M' : St} {q : Nat} (h : ∀ w, w < 10 → M' 9 (ix10 q w) = M1 9 (ix10 q w)) (L : yLQ nl M M1 q) : yLQ nl M M' q := by
  unfold yLQ at L ⊢
  rw [h 0 (by omega), h 1 (by omega), h 2 (by omega), h 3 (by omega), h 4 (by omega), h 5 (by omega), h 6 (by omega), h 9 (by omega)]
  exact L
def yPM (nl np p : Nat) (M M' : St) : Prop :=
  (∀ q w, q < p → w < 10 → M' 9 (ix10 q w) = M 9 (ix10 q w)) ∧ (∀ q, p ≤ q → q < np → yLQ nl M M' q) ∧ (∀ l, l < nl → yLP M M' l) ∧ (∀ k, k ≠ 8 → k ≠ 9 → M' k = M k) ∧ zoil M' nl + zcan M' np = zoil M nl + zcan M np ∧ zlit M' nl + zdid M np = zlit M nl + zdid M' np
theorem y_move {nc ns nl np : Nat} {Y : Nat → Nat} {T : St} : ∀ (fu p : Nat) (N M S : St) (v0 : Int32), ZE nc nl T N M → ZB nc ns nl np M → ZX nl np M → SR nc ns nl np Y S M → SW nc S M → p ≤ np → np - p < fu →
    ∃ M' S' v', (∀ K, f3_minuteOn_L4 K fu v0 (Int32.ofNat p) M = K v' M') ∧ (∀ K v1, ∃ u, f5_pass_L4 Y K fu v1 (Int32.ofNat p) S = K u S') ∧ SR nc ns nl np Y S' M' ∧ SW nc S' M' ∧ ZX nl np M' ∧ yPM nl np p M M' := by
  intro fu
  induction fu with
  | zero => intro p N M S v0 E B X R V hp h; omega
  | succ fu ih =>
    intro p N M S v0 E B X R V hp hf
    have l1 := B.l1; have l2 := B.l2; have l3 := B.l3; have l4 := B.l4
    by_cases h : np ≤ p
    · refine ⟨M, S, v0, ?_, fun K v1 => ⟨v1, ?_⟩, R, V, X, fun _ _ _ _ => rfl, fun q h1 h2 => by omega, fun l _ => yLP_refl M l, fun _ _ _ => rfl, rfl, rfl⟩
      · intro K; rw [f3_minuteOn_L4, if_pos (by rw [B.k4, z_le (by omega) (by omega)]; exact h)]
      · rw [f5_pass_L4, R.y4, if_pos (by rw [z_le (by omega) (by omega)]; exact h)]
    · obtain ⟨M1, S1, r, s2, t2, R1, V1, X1, G1⟩ := y_step R B X V (p := p) (by omega)
      obtain ⟨N1, M2, r2, j, hj, -, s3, E1, B1, -, -, -⟩ := z_step E B (p := p) (by omega) (fu := fu) (v1 := 0)
      have e1 : (r2, M2) = (r, M1) := Option.some.inj (s3.symm.trans s2)
      obtain ⟨rfl, rfl⟩ := Prod.mk.inj e1
      have hm : ∀ K, f3_minuteOn_L4 K (fu + 1) v0 (Int32.ofNat p) M = f3_minuteOn_L4 K fu (v0 ||| (if r2 = -1 then (0 : Int32) else 1 <<< (r2 &&& 31))) (Int32.ofNat (p + 1)) M2 := by
        intro K
        rw [f3_minuteOn_L4, if_neg (by rw [B.k4, z_le (by omega) (by omega)]; exact h), s2, bd2_e]
        simp only [lt_e, z_s1]
        split <;> rfl
      obtain ⟨M', S', v', a1, a2, R2, V2, X2, p1, p2, p3, p4, p5, p6⟩ := ih (p + 1) N1 M2 S1 (v0 ||| (if r2 = -1 then (0 : Int32) else 1 <<< (r2 &&& 31))) E1 B1 X1 R1 V1 (by omega) (by omega)
      obtain ⟨g1, g2, g3, g4, g5, g6⟩ := G1
      refine ⟨M', S', v', fun K => by rw [hm, a1], fun K v1 => ?_, R2, V2, X2, fun q w hq hw => ?_, fun q hq1 hq2 => ?_, fun l hl => yLP_trans (g3 l hl) (p3 l hl), fun k h8 h9 => (p4 k h8 h9).trans (g4 k h8 h9), p5.trans g5, ?_⟩
      · obtain ⟨u, hu⟩ := t2 fu K v1
        obtain ⟨u2, hu2⟩ := a2 K u
        exact ⟨u2, hu.trans hu2⟩
      · rw [p1 q w (by omega) hw, g2 q w (by omega) hw]
      · by_cases e : q = p
        · subst e
          exact yLQ_R (fun w hw => p1 q w (by omega) hw) g1
        · exact yLQ_L (fun w hw => g2 q w e hw) (p2 q (by omega) hq2)
      · have k1 : zlit M' nl + zdid M np + zdid M2 np = zlit M nl + zdid M' np + zdid M2 np := by
          calc zlit M' nl + zdid M np + zdid M2 np = (zlit M' nl + zdid M2 np) + zdid M np := by ac_rfl
            _ = (zlit M2 nl + zdid M' np) + zdid M np := by rw [p6]
            _ = (zlit M2 nl + zdid M np) + zdid M' np := by ac_rfl
            _ = (zlit M nl + zdid M2 np) + zdid M' np := by rw [g6]
            _ = zlit M nl + zdid M' np + zdid M2 np := by ac_rfl
        rw [← Int32.add_sub_cancel (zlit M' nl + zdid M np) (zdid M2 np), k1, Int32.add_sub_cancel]
