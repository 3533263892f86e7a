/-! A ROUND OF THE LAW -/
theorem y_and (v : Int32) : ∃ x, x < 2147483648 ∧ v &&& 2147483647 = Int32.ofNat x := by
  apply z_nat
  rw [Int32.le_iff_toInt_le]
  have h : (v &&& 2147483647).toBitVec.toNat < 2147483648 := by
    rw [Int32.toBitVec_and, BitVec.toNat_and]
    exact Nat.lt_of_le_of_lt Nat.and_le_right (by decide)
  have e : (v &&& 2147483647).toInt = ((v &&& 2147483647).toBitVec.toNat : Int) := BitVec.toInt_eq_toNat_of_lt (by omega)
  rw [e]
  have : (0 : Int32).toInt = 0 := rfl
  omega
theorem y_below (v : Int32) {n : Nat} (h1 : 1 ≤ n) (h2 : n < 2147483648) : ∃ r, r < n ∧ lbelow v (Int32.ofNat n) = some (Int32.ofNat r) := by
  obtain ⟨x, hx, ex⟩ := y_and v
  refine ⟨x % n, Nat.mod_lt _ (by omega), ?_⟩
  unfold lbelow
  rw [ex, z_mod (by omega) (by omega)]
  have : decide (¬ Int32.ofNat n = 0) = true := by
    rw [decide_eq_true_iff, z_l0, z_inj (by omega) (by omega)]; omega
  rw [this, gd_t]
theorem y_cell (xs : Nat → Int32) {LX k : Nat} (hL : LX ≤ 260) (hk : k < 1000000) : ∃ v, lcell xs LX (Int32.ofNat k) = some v := by
  unfold lcell
  rw [z_ile (by omega) (by omega)]
  by_cases h : LX ≤ k
  · exact ⟨_, if_pos h⟩
  · rw [if_neg h, z_xin (n := k) (by omega) (by omega), gd_t]; exact ⟨_, rfl⟩
def yJ412 (xs : Nat → Int32) (LX : Nat) (G : St) (K : St → St → St → (Nat → Nat) → St → Option (St × St × St × (Nat → Nat) × St)) (fu : Nat) (v2 v25 v28 v59 v73 v94 : Int32) (N95 T20 : St) (Y21 : Nat → Nat) (S98 W36 W60 F110 : St) : Option (St × St × St × (Nat → Nat) × St) :=
  br (f2_count G N95 F110 T20 8) fun v111 =>
  br (f2_count G N95 F110 T20 9) fun v114 =>
  lt_ (v111 + v114) fun v117 =>
  f6_law_L433 v28 G N95 F110 T20 Y21 S98 W60 (fun (v121 : Int32) (v122 : Int32) =>
    if v121 = v59 then
      if v122 = v94 then
        f6_law_L790 v25 v73 G N95 F110 T20 W36 (fun (v180 : Int32) (v181 : Int32) =>
          br (f2_count G N95 F110 T20 5) fun v241 =>
          if v241 = v180 then
            br (f2_count G N95 F110 T20 8) fun v244 =>
            if v244 = v181 then f6_law_L22 xs LX G K fu (v2 + 1) N95 F110 T20 Y21 S98 else none
          else none) xF 0 0 0
      else none
    else none) xF v117 0 0
section
variable {nc ns nl np m : Nat} {T N M N' M' : St} {Y : Nat → Nat} {S S' W W36 : St} {G F : St} {xs : Nat → Int32} {LX : Nat} {K : St → St → St → (Nat → Nat) → St → Option (St × St × St × (Nat → Nat) × St)}
theorem y_j412 (B : ZB nc ns nl np M) (X : ZX nl np M) (I : YI nc ns nl np T N' M' Y S') (hm : m ≤ 600) (P : yMin nl np m M M') {w : Int32} (hz : zlit M' nl = zlit M nl + w) (hW : ∀ p w, p < np → w < 7 → W p w = M 9 (ix10 p (lgw w))) (hW6 : ∀ l w, l < nl → w < 9 → W36 l w = ytd M l w) (fu : Nat) (v2 : Int32) (F : St) :
    yJ412 xs LX G K fu v2 (Int32.ofNat nl) (Int32.ofNat np) (zoil M nl + M 12 2 + zcan M np) (Int32.ofNat m) w N' T Y S' W36 W F = f6_law_L22 xs LX G K fu (v2 + 1) N' F T Y S' := by
  have hI := I
  have l3 := B.l3
  have l4 := B.l4
  obtain ⟨E', B', X', R, V⟩ := I
  obtain ⟨P1, P2, P3, P4, -, -, -⟩ := P
  have c8 : f2_count G N' F T 8 = some (.inr (zoil M' nl)) := y_count E' B' G F (i := 8) (by omega)
  have c9 : f2_count G N' F T 9 = some (.inr (M' 12 2)) := y_count E' B' G F (i := 9) (by omega)
  have c5 : f2_count G N' F T 5 = some (.inr (zsum (fun l => M' 8 (ix8 l 5)) nl)) := y_count E' B' G F (i := 5) (by omega)
  have hd : zsum (fun q => M' 9 (ix10 q 9) - M 9 (ix10 q 9)) np = w := by
    have q1 := zsum_sub (f := fun q => M' 9 (ix10 q 9)) (g := fun q => M 9 (ix10 q 9)) np
    have q2 : zlit M nl + w + zdid M np = zlit M nl + zdid M' np := by rw [← hz]; exact P4
    have q3 : zdid M' np = zsum (fun q => M' 9 (ix10 q 9) - M 9 (ix10 q 9)) np + zdid M np := q1.symm
    rw [q3] at q2
    apply y_rinj (c := zlit M nl + zdid M np)
    calc _ = zlit M nl + (zsum (fun q => M' 9 (ix10 q 9) - M 9 (ix10 q 9)) np + zdid M np) := by ac_rfl
      _ = zlit M nl + w + zdid M np := q2.symm
      _ = _ := by ac_rfl
  unfold yJ412
  rw [c8, br_e, c9, br_e, lt_e]
  have h1 := fun K => y_433 (G := G) (F := F) X hI hW (K := K) P1 (zoil M' nl + M' 12 2) np 0 xF (by omega) (by unfold xF; omega)
  have h2 := fun K => y_790 (G := G) (F := F) hI hm hW6 (K := K) P2 nl 0 xF (by omega) (by unfold xF; omega)
  have h1' : ∀ K, f6_law_L433 (Int32.ofNat np) G N' F T Y S' W K xF (zoil M' nl + M' 12 2) 0 0 = K (zoil M' nl + M' 12 2 + zcan M' np) (zsum (fun q => M' 9 (ix10 q 9) - M 9 (ix10 q 9)) np) := by
    intro K
    have := h1 K
    rw [show zsum (fun q => M' 9 (ix10 q 3)) 0 = 0 from rfl, Int32.add_zero] at this
    exact this
  have h2' : ∀ K, f6_law_L790 (Int32.ofNat nl) (Int32.ofNat m) G N' F T W36 K xF 0 0 0 = K (zsum (fun l => M' 8 (ix8 l 5)) nl) (zoil M' nl) := h2
  rw [h1', if_pos P3, if_pos hd, h2', c5, br_e, if_pos rfl, br_e, if_pos rfl]
end
