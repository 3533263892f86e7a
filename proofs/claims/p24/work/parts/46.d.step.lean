/-! A LIGHTER'S MINUTE: the sim and the model alike, in four cases -/
theorem rkF1 {p l : Nat} : (rk 12 p = rk 11 l) = False := propext ⟨fun e => absurd (rk_inj (by omega) (by omega) e).1 (by omega), False.elim⟩
theorem rkF2 {p l : Nat} : (rk 11 l = rk 12 p) = False := propext ⟨fun e => absurd (rk_inj (by omega) (by omega) e).1 (by omega), False.elim⟩
def ygC (Y : Nat → Nat) (K : Int32 → St → Option (Int32 × St)) (fu : Nat) (v1 v2 : Int32) (S8 : St) : Option (Int32 × St) :=

    (
      lt_ (fun (v9 : Int32) (S10 : St) =>
      (
        f5_pass_L4 Y K fu v9 (v2 + 1) S10
      )
      ) fun J169 =>
      if 0 ≤ (S8 (rk 12 v2.toNatClampNeg) (4 : Int32).toNatClampNeg) then
      (
        lt_ (up2 S8 (rk 12 v2.toNatClampNeg) (5 : Int32).toNatClampNeg ((S8 (rk 12 v2.toNatClampNeg) (5 : Int32).toNatClampNeg) - 1)) fun S12 =>
        if (S12 (rk 12 v2.toNatClampNeg) (5 : Int32).toNatClampNeg) ≤ 0 then
        (
          gd (xin (S12 (rk 12 v2.toNatClampNeg) (4 : Int32).toNatClampNeg) (Y 3)) <|
          lt_ (v1 ||| (1 <<< ((S12 (rk 12 v2.toNatClampNeg) (4 : Int32).toNatClampNeg) &&& 31))) fun v14 =>
          lt_ (up2 S12 (rk 12 v2.toNatClampNeg) (1 : Int32).toNatClampNeg (S12 (rk 12 v2.toNatClampNeg) (6 : Int32).toNatClampNeg)) fun S17 =>
          lt_ (up2 S17 (rk 12 v2.toNatClampNeg) (4 : Int32).toNatClampNeg (-1)) fun S18 =>
          lt_ (fun (v21 : Int32) =>
          (
            lt_ (up2 S18 (rk 11 (S12 (rk 12 v2.toNatClampNeg) (4 : Int32).toNatClampNeg).toNatClampNeg) (3 : Int32).toNatClampNeg ((S18 (rk 11 (S12 (rk 12 v2.toNatClampNeg) (4 : Int32).toNatClampNeg).toNatClampNeg) (3 : Int32).toNatClampNeg) + v21)) fun S22 =>
            lt_ (up2 S22 (rk 12 v2.toNatClampNeg) (3 : Int32).toNatClampNeg ((S22 (rk 12 v2.toNatClampNeg) (3 : Int32).toNatClampNeg) - v21)) fun S23 =>
            lt_ (up2 S23 (rk 11 (S12 (rk 12 v2.toNatClampNeg) (4 : Int32).toNatClampNeg).toNatClampNeg) (4 : Int32).toNatClampNeg 0) fun S25 =>
            if (S25 (rk 11 (S12 (rk 12 v2.toNatClampNeg) (4 : Int32).toNatClampNeg).toNatClampNeg) (3 : Int32).toNatClampNeg) = 0 then
            (
              J169 v14 S25
            )
            else
            (
              lt_ (up2 S25 (rk 11 (S12 (rk 12 v2.toNatClampNeg) (4 : Int32).toNatClampNeg).toNatClampNeg) (5 : Int32).toNatClampNeg 1) fun S27 =>
              lt_ (up2 S27 (rk 11 (S12 (rk 12 v2.toNatClampNeg) (4 : Int32).toNatClampNeg).toNatClampNeg) (6 : Int32).toNatClampNeg ((S27 (rk 11 (S12 (rk 12 v2.toNatClampNeg) (4 : Int32).toNatClampNeg).toNatClampNeg) (6 : Int32).toNatClampNeg) + 1)) fun S29 =>
              lt_ (up2 S29 (rk 12 v2.toNatClampNeg) (8 : Int32).toNatClampNeg ((S29 (rk 12 v2.toNatClampNeg) (8 : Int32).toNatClampNeg) + 1)) fun S31 =>
              J169 v14 S31
            )
          )
          ) fun J113 =>
          if (S18 (rk 12 v2.toNatClampNeg) (3 : Int32).toNatClampNeg) ≤ (300 - (S18 (rk 11 (S12 (rk 12 v2.toNatClampNeg) (4 : Int32).toNatClampNeg).toNatClampNeg) (3 : Int32).toNatClampNeg)) then
          (
            J113 (S18 (rk 12 v2.toNatClampNeg) (3 : Int32).toNatClampNeg)
          )
          else
          (
            J113 (300 - (S18 (rk 11 (S12 (rk 12 v2.toNatClampNeg) (4 : Int32).toNatClampNeg).toNatClampNeg) (3 : Int32).toNatClampNeg))
          )
        )
        else
        (
          J169 v1 S12
        )
      )
      else
      (
        J169 v1 S8
      )
    )
theorem y_pass_eq (Y : Nat → Nat) (K : Int32 → St → Option (Int32 × St)) (fu : Nat) (v1 v2 : Int32) (S3 : St) : f5_pass_L4 Y K (fu + 1) v1 v2 S3 = if (Int32.ofNat (Y 4)) ≤ v2 then K v1 S3 else gd (xin v2 (Y 4)) (if 0 ≤ (S3 (rk 12 v2.toNatClampNeg) (4 : Int32).toNatClampNeg) then ygC Y K fu v1 v2 S3 else bd (f5_look Y S3 v2) (ygC Y K fu v1 v2)) := rfl
def ST (S : St) (p l c cn o v : Nat) : St := up2 (up2 (up2 (up2 (up2 (up2 (up2 (up2 S (rk 12 p) 1 (Int32.ofNat c)) (rk 12 p) 4 (-1)) (rk 11 l) 3 (Int32.ofNat (o + v))) (rk 12 p) 3 (Int32.ofNat (cn - v))) (rk 11 l) 4 0) (rk 11 l) 5 1) (rk 11 l) 6 (S (rk 11 l) 6 + 1)) (rk 12 p) 8 (S (rk 12 p) 8 + 1)
theorem SR_T {nc ns nl np : Nat} {Y : Nat → Nat} {S M : St} (R : SR nc ns nl np Y S M) {p l : Nat} (hp : p < np) (hl : l < nl) (c cn o v : Nat) : SR nc ns nl np Y (ST S p l c cn o v) (MT M p l c cn o v) := by
  have e : MT M p l c cn o v = up2 (up2 (up2 (up2 (up2 (up2 (up2 (up2 M 9 (ix10 p 1) (Int32.ofNat c)) 9 (ix10 p 5) (-1)) 8 (ix8 l 3) (Int32.ofNat (o + v))) 9 (ix10 p 3) (Int32.ofNat (cn - v))) 8 (ix8 l 4) 0) 8 (ix8 l 5) 1) 8 (ix8 l 6) (S (rk 11 l) 6 + 1)) 9 (ix10 p 9) (S (rk 12 p) 8 + 1) := by
    unfold MT
    rw [R.la l 6 hl (by omega), R.l8 hp, up2_comm (k := 9) (k' := 8) (.inl (by omega))]
  rw [e]
  exact SR_9 (w := 8) (SR_8 (w := 6) (SR_8 (w := 5) (SR_8 (w := 4) (SR_9 (w := 3) (SR_8 (w := 3) (SR_9 (w := 4) (SR_9 (w := 1) R (by omega)) (by omega)) (by omega)) (by omega)) (by omega)) (by omega)) (by omega)) (by omega)
theorem y_goS {Y : Nat → Nat} {K : Int32 → St → Option (Int32 × St)} {fu : Nat} {v1 : Int32} {S : St} {p l c cn o v e : Nat} (hp : p < 4) (hl : l < 20) (hY : l < Y 3) (h4 : S (rk 12 p) 4 = Int32.ofNat l) (h5 : S (rk 12 p) 5 = Int32.ofNat e) (he1 : 1 ≤ e) (he : e ≤ 300) (h6 : S (rk 12 p) 6 = Int32.ofNat c) (h3 : S (rk 12 p) 3 = Int32.ofNat cn) (ho3 : S (rk 11 l) 3 = Int32.ofNat o) (hcn : cn ≤ 999) (ho : o ≤ 300) (hv : v = min cn (300 - o)) (h0 : o + v ≠ 0) :
    ∃ u, ygC Y K fu v1 (Int32.ofNat p) S = if e = 1 then f5_pass_L4 Y K fu u (Int32.ofNat (p + 1)) (ST (up2 S (rk 12 p) 5 0) p l c cn o v) else f5_pass_L4 Y K fu v1 (Int32.ofNat (p + 1)) (up2 S (rk 12 p) 5 (Int32.ofNat (e - 1))) := by
  refine ⟨v1 ||| (1 <<< (Int32.ofNat l &&& 31)), ?_⟩
  have e0 : Int32.ofNat e - 1 = Int32.ofNat (e - 1) := by rw [z_l1, z_sub he1]
  have e1 : (if Int32.ofNat cn ≤ Int32.ofNat 300 - Int32.ofNat o then Int32.ofNat cn else Int32.ofNat 300 - Int32.ofNat o) = Int32.ofNat v := by
    rw [z_sub (by omega), z_ile (by omega) (by omega), hv]
    split <;> congr 1 <;> omega
  have e2 : ¬ Int32.ofNat (o + v) = 0 := by rw [z_l0, z_inj (by omega) (by omega)]; omega
  have e3 : Int32.ofNat cn - Int32.ofNat v = Int32.ofNat (cn - v) := z_sub (by omega)
  have e4 : 0 ≤ Int32.ofNat l := by rw [z_l0, z_le (by omega) (by omega)]; omega
  unfold ygC
  rw [z_clamp (n := p) (by omega)]
  simp only [kc1, kc3, kc4, kc5, kc6, kc8]
  rw [lt_e, h4, if_pos e4, h5, e0, z_s1]
  by_cases h : e = 1
  · subst h
    have e5 : Int32.ofNat (1 - 1) = 0 := rfl
    have e6 : (0 : Int32) ≤ 0 := by decide
    simp only [e5, lt_e, z_up, rkF1, rkF2, ↓reduceIte, Nat.reduceEqDiff, h4, e6]
    rw [z_xin (by omega) hY, gd_t, z_clamp (n := l) (by omega)]
    simp only [z_up, rkF1, rkF2, ↓reduceIte, Nat.reduceEqDiff, h3, ho3, h6]
    by_cases hj : Int32.ofNat cn ≤ 300 - Int32.ofNat o
    · have hv2 : Int32.ofNat cn = Int32.ofNat v := by rw [← e1, z_l300.symm, if_pos hj]
      rw [if_pos hj]
      rw [z_inj (by omega) (by omega)] at hv2
      subst hv2
      simp only [z_add, e2, e3, ↓reduceIte]
      unfold ST
      simp only [z_up, rkF1, rkF2, ↓reduceIte, Nat.reduceEqDiff]
    · have hv2 : 300 - Int32.ofNat o = Int32.ofNat v := by rw [← e1, z_l300.symm, if_neg hj]
      rw [if_neg hj, hv2]
      simp only [z_add, e2, e3, ↓reduceIte]
      unfold ST
      simp only [z_up, rkF1, rkF2, ↓reduceIte, Nat.reduceEqDiff]
  · have e5 : ¬ Int32.ofNat (e - 1) ≤ 0 := by rw [z_l0, z_le (by omega) (by omega)]; omega
    simp only [lt_e, z_up, ↓reduceIte, e5, if_neg h]
