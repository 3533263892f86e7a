/-! WHAT A MINUTE DOES, said for each lighter and each lamp -/
theorem xs_c {M M' : St} {l : Nat} (h : ∀ w, w < 8 → M' 8 (ix8 l w) = M 8 (ix8 l w)) (h12 : M' 12 0 = M 12 0) : aU M' l = aU M l ∧ xu M' l = xu M l ∧ xb M' l = xb M l ∧ xs M' l = xs M l := by
  have a : aU M' l = aU M l := by unfold aU; rw [h 3 (by omega), h 4 (by omega)]
  refine ⟨a, ?_, ?_, ?_⟩
  · unfold xu; rw [a, h 5 (by omega)]
  · unfold xb; rw [a, h 5 (by omega), h 3 (by omega)]
  · unfold xs; rw [a, h 5 (by omega), h 3 (by omega), h 4 (by omega), h12]
theorem bA_i {M : St} {l i w : Nat} (hi : i ≠ l) (hw : w < 8) : bA M l 8 (ix8 i w) = M 8 (ix8 i w) := by rw [bA_8 hw]; simp [hi]
theorem bB_i {M : St} {l i w : Nat} (hi : i ≠ l) (hw : w < 8) : bB M l 8 (ix8 i w) = M 8 (ix8 i w) := by rw [bB_8 hw]; simp [hi]
theorem bA_c {M M' : St} {l w : Nat} (h : ∀ w, w < 8 → M' 8 (ix8 l w) = M 8 (ix8 l w)) (h12 : M' 12 0 = M 12 0) (hw : w < 8) : bA M' l 8 (ix8 l w) = bA M l 8 (ix8 l w) := by
  obtain ⟨-, a2, a3, a4⟩ := xs_c h h12
  rw [bA_8 hw, bA_8 hw, a2, a3, a4, h 3 (by omega), h w hw]
theorem goA_8 : ∀ (n i : Nat) (M : St) (l w : Nat), w < 8 → goA M i n 8 (ix8 l w) = if i ≤ l ∧ l < i + n then bA M l 8 (ix8 l w) else M 8 (ix8 l w) := by
  intro n
  induction n with
  | zero => intro i M l w hw; rw [goA, if_neg (by omega)]
  | succ n ih =>
    intro i M l w hw
    rw [goA, ih _ _ _ _ hw]
    by_cases h : l = i
    · subst h; rw [if_neg (by omega), if_pos (by omega)]
    · by_cases h2 : i + 1 ≤ l ∧ l < i + 1 + n
      · rw [if_pos h2, if_pos (by omega), bA_c (fun w hw => bA_i h hw) bA_12.1 hw]
      · rw [if_neg h2, if_neg (by omega), bA_i h hw]
theorem goA_12 : ∀ (n i : Nat) (M : St), goA M i n 12 0 = M 12 0 ∧ goA M i n 12 1 = M 12 1 := by
  intro n
  induction n with
  | zero => intro i M; exact ⟨rfl, rfl⟩
  | succ n ih => intro i M; rw [goA, (ih _ _).1, (ih _ _).2, bA_12.1, bA_12.2.1]; exact ⟨rfl, rfl⟩
theorem goA_k {k : Nat} (h8 : k ≠ 8) (h12 : k ≠ 12) : ∀ (n i : Nat) (M : St), goA M i n k = M k := by
  intro n
  induction n with
  | zero => intro i M; rfl
  | succ n ih => intro i M; rw [goA, ih, bA_k h8 h12]
theorem goB_k {k : Nat} (h8 : k ≠ 8) : ∀ (n i : Nat) (M : St), goB M i n k = M k := by
  intro n
  induction n with
  | zero => intro i M; rfl
  | succ n ih => intro i M; rw [goB, ih, bB_k h8]
theorem ycb_c {M M' : St} {l : Nat} (h : ∀ w, w < 8 → M' 8 (ix8 l w) = M 8 (ix8 l w)) (hk : ∀ k, k ≠ 8 → M' k = M k) : ycb M' l = ycb M l := by
  unfold ycb zgust
  rw [h 5 (by omega), h 2 (by omega), h 0 (by omega), hk 12 (by omega), hk 11 (by omega), hk 5 (by omega), hk 6 (by omega)]
theorem bB_c {M M' : St} {l w : Nat} (h : ∀ w, w < 8 → M' 8 (ix8 l w) = M 8 (ix8 l w)) (hk : ∀ k, k ≠ 8 → M' k = M k) (hw : w < 8) : bB M' l 8 (ix8 l w) = bB M l 8 (ix8 l w) := by
  rw [bB_8 hw, bB_8 hw, ycb_c h hk, h 7 (by omega), h 5 (by omega), h w hw]
theorem goB_8 : ∀ (n i : Nat) (M : St) (l w : Nat), w < 8 → goB M i n 8 (ix8 l w) = if i ≤ l ∧ l < i + n then bB M l 8 (ix8 l w) else M 8 (ix8 l w) := by
  intro n
  induction n with
  | zero => intro i M l w hw; rw [goB, if_neg (by omega)]
  | succ n ih =>
    intro i M l w hw
    rw [goB, ih _ _ _ _ hw]
    by_cases h : l = i
    · subst h; rw [if_neg (by omega), if_pos (by omega)]
    · by_cases h2 : i + 1 ≤ l ∧ l < i + 1 + n
      · rw [if_pos h2, if_pos (by omega), bB_c (fun w hw => bB_i h hw) (fun k hk => bB_k hk) hw]
      · rw [if_neg h2, if_neg (by omega), bB_i h hw]
theorem goA_oil {nl : Nat} : ∀ (n i : Nat) (M : St), i + n = nl → zoil (goA M i n) nl + goA M i n 12 2 = zoil M nl + M 12 2 := by
  intro n
  induction n with
  | zero => intro i M _; rfl
  | succ n ih =>
    intro i M h
    rw [goA, ih _ _ (by omega), bA_12.2.2]
    have : zoil M nl = zoil (bA M i) nl + xu M i := zs_up (k := i) (by omega) (by show M 8 (ix8 i 3) = bA M i 8 (ix8 i 3) + xu M i; rw [bA_8 (by omega)]; simp) (fun j hj => (bA_i hj (by omega)).symm)
    rw [this]; ac_rfl
def yLm (m : Nat) (M M' : St) (l : Nat) : Prop :=
  (M' 8 (ix8 l 0) = M 8 (ix8 l 0) ∧ M' 8 (ix8 l 1) = M 8 (ix8 l 1) ∧ M' 8 (ix8 l 2) = M 8 (ix8 l 2)) ∧
  ∃ j b, j ≤ 1 ∧ b ≤ 1 ∧ M' 8 (ix8 l 6) = M 8 (ix8 l 6) + Int32.ofNat j ∧ M' 8 (ix8 l 7) = M 8 (ix8 l 7) + Int32.ofNat b ∧ (j = 1 → M 8 (ix8 l 5) = 0) ∧ (b = 1 → M' 8 (ix8 l 5) = 0 ∧ m % 10 = 0) ∧ (M' 8 (ix8 l 5) = 1 → M 8 (ix8 l 5) = 0 → j = 1) ∧
    (j = 0 → ∃ o o', M 8 (ix8 l 3) = Int32.ofNat o ∧ M' 8 (ix8 l 3) = Int32.ofNat o' ∧ o ≤ 300 ∧ o' ≤ 300 ∧ o ≤ o' + 2 ∧ (M 8 (ix8 l 5) = 0 → o ≤ o'))
def yMin (nl np m : Nat) (M M' : St) : Prop :=
  (∀ p, p < np → yLQ nl M M' p) ∧ (∀ l, l < nl → yLm m M M' l) ∧ zoil M' nl + M' 12 2 + zcan M' np = zoil M nl + M 12 2 + zcan M np ∧ zlit M' nl + zdid M np = zlit M nl + zdid M' np ∧ M' 12 0 = Int32.ofNat (m + 1) ∧ M' 12 1 = M 12 1 ∧ (∀ k, k ≠ 8 → k ≠ 9 → k ≠ 12 → M' k = M k)
theorem y_min {nc ns nl np m : Nat} {M M1 : St} (B : ZB nc ns nl np M) (B1 : ZB nc ns nl np M1) (X1 : ZX nl np M1) (hm : m < 600) (em : M 12 0 = Int32.ofNat m) (P : yPM nl np 0 M M1) : yMin nl np m M (up2 (goB (goA M1 0 nl) 0 nl) 12 0 (Int32.ofNat (m + 1))) := by
  obtain ⟨-, p2, p3, p4, p5, p6⟩ := P
  have l3 := B.l3
  have em1 : M1 12 0 = Int32.ofNat m := by rw [p4 12 (by omega) (by omega)]; exact em
  obtain ⟨MA, hA⟩ : ∃ z, z = goA M1 0 nl := ⟨_, rfl⟩
  obtain ⟨MB, hB⟩ : ∃ z, z = goB MA 0 nl := ⟨_, rfl⟩
  rw [← hA, ← hB]
  have u8 : ∀ j, up2 MB 12 0 (Int32.ofNat (m + 1)) 8 j = MB 8 j := fun j => up2_n1 (by omega)
  have u9 : up2 MB 12 0 (Int32.ofNat (m + 1)) 9 = M1 9 := by
    rw [show up2 MB 12 0 (Int32.ofNat (m + 1)) 9 = MB 9 from up1_ne (by omega), hB, goB_k (by omega), hA, goA_k (by omega) (by omega)]
  have mA : MA 12 0 = Int32.ofNat m := by rw [hA, (goA_12 _ _ _).1]; exact em1
  have vA : ∀ l w, l < nl → w < 8 → MA 8 (ix8 l w) = bA M1 l 8 (ix8 l w) := fun l w hl hw => by rw [hA, goA_8 _ _ _ _ _ hw, if_pos (by omega)]
  have vB : ∀ l w, l < nl → w < 8 → MB 8 (ix8 l w) = bB MA l 8 (ix8 l w) := fun l w hl hw => by rw [hB, goB_8 _ _ _ _ _ hw, if_pos (by omega)]
  have vs : ∀ l w, l < nl → w < 8 → w ≠ 7 → w ≠ 5 → w ≠ 4 → w ≠ 3 → MB 8 (ix8 l w) = M1 8 (ix8 l w) := fun l w hl hw h7 h5 h4 h3 => by
    rw [vB l w hl hw, bB_8 hw, if_neg (by omega), if_neg (by omega), vA l w hl hw, bA_8 hw, if_neg (by omega), if_neg (by omega), if_neg (by omega)]
  have v3 : ∀ l, l < nl → MB 8 (ix8 l 3) = M1 8 (ix8 l 3) - xu M1 l := fun l hl => by
    rw [vB l 3 hl (by omega), bB_8 (by omega), if_neg (by omega), if_neg (by omega), vA l 3 hl (by omega), bA_8 (by omega), if_neg (by omega), if_neg (by omega), if_pos ⟨rfl, rfl⟩]
  have w5 : ∀ l, l < nl → MA 8 (ix8 l 5) = xb M1 l := fun l hl => by
    rw [vA l 5 hl (by omega), bA_8 (by omega), if_neg (by omega), if_pos ⟨rfl, rfl⟩]
  have w7 : ∀ l, l < nl → MA 8 (ix8 l 7) = M1 8 (ix8 l 7) := fun l hl => by
    rw [vA l 7 hl (by omega), bA_8 (by omega), if_neg (by omega), if_neg (by omega), if_neg (by omega)]
  have v5 : ∀ l, l < nl → MB 8 (ix8 l 5) = if ycb MA l = true then 0 else xb M1 l := fun l hl => by
    rw [vB l 5 hl (by omega), bB_8 (by omega), if_neg (show ¬ (l = l ∧ 5 = 7) by omega), if_pos (show l = l ∧ 5 = 5 from ⟨rfl, rfl⟩), w5 l hl]
  have v7 : ∀ l, l < nl → MB 8 (ix8 l 7) = if ycb MA l = true then M1 8 (ix8 l 7) + 1 else M1 8 (ix8 l 7) := fun l hl => by
    rw [vB l 7 hl (by omega), bB_8 (by omega), if_pos (show l = l ∧ 7 = 7 from ⟨rfl, rfl⟩), w7 l hl]
  refine ⟨fun p hp => ?_, fun l hl => ?_, ?_, ?_, up2_at, ?_, fun k h8 h9 h12 => ?_⟩
  · exact yLQ_R (M1 := M1) (fun w _ => by rw [u9]) (p2 p (by omega) hp)
  · obtain ⟨⟨a0, a1, a2, a7⟩, a⟩ := p3 l hl
    refine ⟨⟨by rw [u8, vs l 0 hl (by omega) (by omega) (by omega) (by omega) (by omega)]; exact a0, by rw [u8, vs l 1 hl (by omega) (by omega) (by omega) (by omega) (by omega)]; exact a1, by rw [u8, vs l 2 hl (by omega) (by omega) (by omega) (by omega) (by omega)]; exact a2⟩, ?_⟩
    have s6 : MB 8 (ix8 l 6) = M1 8 (ix8 l 6) := vs l 6 hl (by omega) (by omega) (by omega) (by omega) (by omega)
    have hbl : ∃ b, b ≤ 1 ∧ MB 8 (ix8 l 7) = M 8 (ix8 l 7) + Int32.ofNat b ∧ (b = 1 → MB 8 (ix8 l 5) = 0 ∧ m % 10 = 0) := by
      by_cases y : ycb MA l = true
      · refine ⟨1, by omega, by rw [v7 l hl, if_pos y, a7]; rfl, fun _ => ⟨by rw [v5 l hl, if_pos y], ?_⟩⟩
        obtain ⟨-, y2, -⟩ := ycb_iff.mp y
        rw [mA, show (10 : Int32) = Int32.ofNat 10 from rfl, z_mod (by omega) (by omega), z_l0, z_inj (by omega) (by omega)] at y2
        exact y2
      · exact ⟨0, by omega, by rw [v7 l hl, if_neg y, a7, show Int32.ofNat 0 = 0 from rfl, Int32.add_zero], fun h => by omega⟩
    obtain ⟨b, hb, hb7, hb1⟩ := hbl
    rcases a with ⟨a3, a4, a5, a6⟩ | ⟨a5, a5', a6, a4, o, o', ao, ao', h, h', hn⟩
    · refine ⟨0, b, by omega, hb, by rw [u8, s6, a6, show Int32.ofNat 0 = 0 from rfl, Int32.add_zero], by rw [u8]; exact hb7, fun h => by omega, fun h => by rw [u8]; exact hb1 h, fun h5 h0 => ?_, fun _ => ?_⟩
      · exfalso
        rw [u8, v5 l hl] at h5
        have : xb M1 l = 0 := by unfold xb; rw [a5, h0, if_pos rfl]
        rw [this] at h5
        split at h5 <;> exact absurd h5 (by decide)
      · obtain ⟨o, ho, eo⟩ := B.lo l
        rw [u8, v3 l hl]
        by_cases b0 : M1 8 (ix8 l 5) = 0
        · have : xu M1 l = 0 := by unfold xu; rw [if_pos b0]
          refine ⟨o, o, eo, ?_, ho, ho, by omega, fun _ => Nat.le_refl _⟩
          rw [this, a3, eo, Int32.sub_zero]
        · have b1 : M1 8 (ix8 l 5) = 1 := (B1.lb l).resolve_left b0
          have ho1 : 1 ≤ o := by
            have := X1.bo l hl b1
            rw [a3, eo, z_l0, Ne, z_inj (by omega) (by omega)] at this; omega
          obtain ⟨k, hk, ek⟩ := X1.so l hl
          have ea := y_aU ho1 ho (a3.trans eo) hk ek
          have : xu M1 l = aU M1 l := by unfold xu; rw [if_neg b0]
          have hq : (if 4 < k ∧ 1 < o then 2 else 1) ≤ o := by split <;> omega
          refine ⟨o, o - (if 4 < k ∧ 1 < o then 2 else 1), eo, ?_, ho, by omega, by split <;> omega, fun h0 => ?_⟩
          · rw [this, ea, a3, eo, z_sub hq]
          · rw [← a5] at h0; exact absurd h0 b0
    · refine ⟨1, b, by omega, hb, by rw [u8, s6, a6]; rfl, by rw [u8]; exact hb7, fun _ => a5, fun h => by rw [u8]; exact hb1 h, fun _ _ => rfl, fun h => by omega⟩
  · have q1 : zoil (up2 MB 12 0 (Int32.ofNat (m + 1))) nl = zoil MA nl := by
      unfold zoil
      refine zsum_congr fun l hl => ?_
      rw [u8, v3 l hl, vA l 3 hl (by omega), bA_8 (by omega), if_neg (by omega), if_neg (by omega), if_pos ⟨rfl, rfl⟩]
    have q2 : (up2 MB 12 0 (Int32.ofNat (m + 1))) 12 2 = MA 12 2 := by rw [up2_n2 (by omega), hB, goB_k (by omega)]
    have q3 : zcan (up2 MB 12 0 (Int32.ofNat (m + 1))) np = zcan M1 np := by unfold zcan; rw [u9]
    have q4 := goA_oil (nl := nl) nl 0 M1 (by omega)
    rw [← hA] at q4
    rw [q1, q2, q3, q4, p4 12 (by omega) (by omega)]
    calc zoil M1 nl + M 12 2 + zcan M1 np = (zoil M1 nl + zcan M1 np) + M 12 2 := by ac_rfl
      _ = (zoil M nl + zcan M np) + M 12 2 := by rw [p5]
      _ = _ := by ac_rfl
  · have q1 : zlit (up2 MB 12 0 (Int32.ofNat (m + 1))) nl = zlit M1 nl := by
      unfold zlit
      refine zsum_congr fun l hl => ?_
      rw [u8, vs l 6 hl (by omega) (by omega) (by omega) (by omega) (by omega)]
    have q3 : zdid (up2 MB 12 0 (Int32.ofNat (m + 1))) np = zdid M1 np := by unfold zdid; rw [u9]
    rw [q1, q3]; exact p6
  · rw [up2_n2 (by omega), hB, goB_k (by omega), hA, (goA_12 _ _ _).2, p4 12 (by omega) (by omega)]
  · rw [show up2 MB 12 0 (Int32.ofNat (m + 1)) k = MB k from up1_ne h12, hB, goB_k h8, hA, goA_k h8 h12, p4 k h8 h9]
