/-! A ROUND OF THE LAW, from where both are to be held against each other -/
def yJ103 (xs : Nat → Int32) (LX : Nat) (G : St) (K : St → St → St → (Nat → Nat) → St → Option (St × St × St × (Nat → Nat) × St)) (fu : Nat) (v2 v17 : Int32) (F4 T20 : St) (Y21 : Nat → Nat) (N23 S24 : St) : Option (St × St × St × (Nat → Nat) × St) :=
      (
        br (f2_count G N23 F4 T20 4) fun v25 =>
        br (f2_count G N23 F4 T20 7) fun v28 =>
        gd (decide (¬ v25 < 0 ∧ v25.toNatClampNeg ≤ 32)) <|
        f6_law_L131 v25 G N23 F4 T20 (fun (W36 : St) =>
        (
          gd (decide (¬ v28 < 0 ∧ v28.toNatClampNeg ≤ 32)) <|
          br (f2_count G N23 F4 T20 8) fun v49 =>
          br (f2_count G N23 F4 T20 9) fun v52 =>
          lt_ (v49 + v52) fun v55 =>
          f6_law_L204 v28 G N23 F4 T20 (fun (v59 : Int32) (W60 : St) =>
          (
            br (f2_count G N23 F4 T20 0) fun v73 =>
            bd (lbelow (v17 >>> (2 &&& 31)) v25) fun v76 =>
            br2 (f2_comes G N23 F4 T20 v76) fun v79 F80 =>
            br2 (f2_foresee G N23 F80 T20 1 0) fun v83 F84 =>
            br2 (f2_foresee G N23 F84 T20 1 2) fun v87 F88 =>
            br (f2_count G N23 F88 T20 9) fun v91 =>
            br2 (f2_pass G N23 F88 T20 1) fun v94 N95 =>
            bd (f5_pass_ Y21 S24 1) fun S98 =>
            lt_ (fun (F100 : St) =>
            (
              f6_law_L22 xs LX G K fu (v2 + 1) N95 F100 T20 Y21 S98
            )
            ) fun J1162 =>
            if v73 = 600 then
            (
              br (f2_count G N95 F88 T20 0) fun v251 =>
              if v251 = 600 then
              (
                if v94 = 0 then
                (
                  if v79 = (-1) then
                  (
                    J1162 F88
                  )
                  else
                  (
                    none
                  )
                )
                else
                (
                  none
                )
              )
              else
              (
                none
              )
            )
            else
            (
              br (f2_count G N95 F88 T20 0) fun v101 =>
              if v101 = (v73 + 1) then
              (
                br (f2_count G N95 F88 T20 5) fun v104 =>
                if v104 = v83 then
                (
                  br (f2_count G N95 F88 T20 9) fun v107 =>
                  if v107 = (v91 + v87) then
                  (
                    lt_ (fun (F110 : St) =>
                    (
                      br (f2_count G N95 F110 T20 8) fun v111 =>
                      br (f2_count G N95 F110 T20 9) fun v114 =>
                      lt_ (v111 + v114) fun v117 =>
                      f6_law_L433 v28 G N95 F110 T20 Y21 S98 W60 (fun (v121 : Int32) (v122 : Int32) =>
                      (
                        if v121 = v59 then
                        (
                          if v122 = v94 then
                          (
                            f6_law_L790 v25 v73 G N95 F110 T20 W36 (fun (v180 : Int32) (v181 : Int32) =>
                            (
                              br (f2_count G N95 F110 T20 5) fun v241 =>
                              if v241 = v180 then
                              (
                                br (f2_count G N95 F110 T20 8) fun v244 =>
                                if v244 = v181 then
                                (
                                  J1162 F110
                                )
                                else
                                (
                                  none
                                )
                              )
                              else
                              (
                                none
                              )
                            )
                            ) xF 0 0 0
                          )
                          else
                          (
                            none
                          )
                        )
                        else
                        (
                          none
                        )
                      )
                      ) xF v117 0 0
                    )
                    ) fun J412 =>
                    if v79 ≤ 1 then
                    (
                      J412 F88
                    )
                    else
                    (
                      br2 (f2_comes G N95 F88 T20 v76) fun v247 F248 =>
                      if v247 = (v79 - 1) then
                      (
                        J412 F248
                      )
                      else
                      (
                        none
                      )
                    )
                  )
                  else
                  (
                    none
                  )
                )
                else
                (
                  none
                )
              )
              else
              (
                none
              )
            )
          )
          ) xF v55 0 W0
        )
        ) xF 0 W0
      )
section
variable {nc ns nl np : Nat} {T N M : St} {Y : Nat → Nat} {S : St} {G : St} {xs : Nat → Int32} {LX : Nat} {K : St → St → St → (Nat → Nat) → St → Option (St × St × St × (Nat → Nat) × St)}
theorem y_gd32 {n : Nat} (h : n ≤ 32) : decide (¬ Int32.ofNat n < 0 ∧ (Int32.ofNat n).toNatClampNeg ≤ 32) = true := by
  rw [decide_eq_true_iff, z_clamp (by omega)]
  exact ⟨z_nneg (by omega), h⟩
theorem y_chk (I : YI nc ns nl np T N M Y S) (hn : 1 ≤ nl) (fu : Nat) (v2 v17 : Int32) (F4 : St) : ∃ N' F' S' M', YI nc ns nl np T N' M' Y S' ∧ yJ103 xs LX G K fu v2 v17 F4 T Y N S = f6_law_L22 xs LX G K fu (v2 + 1) N' F' T Y S' := by
  have hI := I
  obtain ⟨E, B, X, R, V⟩ := I
  have l3 := B.l3
  have l4 := B.l4
  obtain ⟨m, hm, em⟩ := B.mi
  have c4 : ∀ F, f2_count G N F T 4 = some (.inr (Int32.ofNat nl)) := fun F => y_count E B G F (i := 4) (by omega)
  have c7 : ∀ F, f2_count G N F T 7 = some (.inr (Int32.ofNat np)) := fun F => y_count E B G F (i := 7) (by omega)
  have c8 : ∀ F, f2_count G N F T 8 = some (.inr (zoil M nl)) := fun F => y_count E B G F (i := 8) (by omega)
  have c9 : ∀ F, f2_count G N F T 9 = some (.inr (M 12 2)) := fun F => y_count E B G F (i := 9) (by omega)
  have c0 : ∀ F, f2_count G N F T 0 = some (.inr (Int32.ofNat m)) := fun F => (y_count E B G F (i := 0) (by omega)).trans (sir em)
  obtain ⟨W36, a1, a2⟩ := y_131 (G := G) (N := N) (F := F4) (T := T) (t := ytd M) l3 (fun l i hl hi => y_tdA E B G F4 hl hi) nl 0 xF W0 (by omega) (by unfold xF; omega) (fun l' j h => by omega)
  have a1' : ∀ K, f6_law_L131 (Int32.ofNat nl) G N F4 T K xF 0 W0 = K W36 := a1
  obtain ⟨W60, b1, b2⟩ := y_204 (G := G) (N := N) (F := F4) (T := T) (A0 := zoil M nl + M 12 2) (t := fun p w => M 9 (ix10 p (lgw w))) (show np ≤ 20 by omega) (fun l i hl hi => y_lighter E B G F4 hl hi) np 0 xF W0 (by omega) (by unfold xF; omega) (fun l' j h => by omega)
  have b1' : ∀ K, f6_law_L204 (Int32.ofNat np) G N F4 T K xF (zoil M nl + M 12 2) 0 W0 = K (zoil M nl + M 12 2 + zcan M np) W60 := by
    intro K
    have := b1 K
    rw [show zsum (fun q => M 9 (ix10 q (lgw 2))) 0 = 0 from rfl, Int32.add_zero] at this
    exact this
  obtain ⟨r, hr, er⟩ := y_below (v17 >>> (2 &&& 31)) hn (by omega)
  obtain ⟨F80, d1⟩ := y_comes E B G F4 hr hm em
  obtain ⟨Mf, Bf, hf, ⟨F84, d2⟩, -⟩ := y_fore E B G F80
  obtain ⟨Mg, Bg, hg, -, ⟨F88, d3⟩⟩ := y_fore E B G F84
  unfold yJ103
  rw [c4, br_e, c7, br_e, y_gd32 (by omega), gd_t]
  rw [a1', y_gd32 (by omega), gd_t, c8, br_e, c9, br_e, lt_e, b1', c0, br_e, er, bd_e, d1, br2_e, d2, br2_e, d3, br2_e, c9, br_e]
  by_cases h6 : m = 600
  · obtain ⟨p1, p2⟩ := y_pass0 hI G F88 (by rw [em, h6])
    refine ⟨N, F88, S, M, hI, ?_⟩
    rw [p1, br2_e, p2, bd_e, lt_e, if_pos (by rw [h6]; rfl), c0, br_e, if_pos (by rw [h6]; rfl), if_pos rfl, if_pos (by rw [h6]; rfl)]
  · obtain ⟨N', M', S', w, v, p1, p2, I', p3, P, p4, p5⟩ := y_pass1 hI G F88 (show m < 600 by omega) em
    have eMf : Mf = M' := by
      obtain ⟨v', h⟩ := hf m (by omega) em
      exact (Prod.mk.inj (Option.some.inj (h.symm.trans p3))).2
    have eMg : Mg = M' := by
      obtain ⟨v', h⟩ := hg m (by omega) em
      exact (Prod.mk.inj (Option.some.inj (h.symm.trans p3))).2
    have hJ := fun F => y_j412 (xs := xs) (LX := LX) (K := K) (G := G) B X I' hm P p4 b2 a2 fu v2 F
    have c0' : ∀ F, f2_count G N' F T 0 = some (.inr (Int32.ofNat (m + 1))) := fun F => (y_count I'.1 I'.2.1 G F (i := 0) (by omega)).trans (sir p5)
    have c5' : ∀ F, f2_count G N' F T 5 = some (.inr (zsum (fun l => M' 8 (ix8 l 5)) nl)) := fun F => y_count I'.1 I'.2.1 G F (i := 5) (by omega)
    have c9' : ∀ F, f2_count G N' F T 9 = some (.inr (M' 12 2)) := fun F => y_count I'.1 I'.2.1 G F (i := 9) (by omega)
    have e9 : M' 12 2 = M 12 2 + (M' 12 2 - M 12 2) := by rw [Int32.add_comm, Int32.sub_add_cancel]
    rw [eMf, eMg, p1, br2_e, p2, bd_e, lt_e, if_neg (by rw [show (600 : Int32) = Int32.ofNat 600 from rfl, z_inj (by omega) (by omega)]; exact h6), c0', br_e, if_pos z_s1.symm, c5', br_e, if_pos rfl, c9', br_e, if_pos e9, lt_e]
    by_cases hk : ycm r (600 - m) 1 (M 8 (ix8 r 6)) M ≤ 1
    · refine ⟨N', F88, S', M', I', ?_⟩
      rw [if_pos hk]
      exact hJ F88
    · obtain ⟨F248, d4⟩ := y_comes I'.1 I'.2.1 G F88 hr (show m + 1 ≤ 600 by omega) p5
      refine ⟨N', F248, S', M', I', ?_⟩
      have ek : ycm r (600 - (m + 1)) 1 (M' 8 (ix8 r 6)) M' = ycm r (600 - m) 1 (M 8 (ix8 r 6)) M - 1 := by
        have e : 600 - m = (600 - (m + 1)) + 1 := by omega
        rw [e] at hk ⊢
        rw [ycm, p3] at hk ⊢
        dsimp only at hk ⊢
        by_cases q : M' 8 (ix8 r 6) = M 8 (ix8 r 6)
        · rw [if_pos q] at hk ⊢
          rw [← q] at hk ⊢
          refine ycm_s r _ 1 _ _ (by omega) (fun h => ?_)
          rw [h] at hk; exact hk (by decide)
        · rw [if_neg q] at hk; exact absurd (by decide) hk
      rw [if_neg hk, d4, br2_e, if_pos ek]
      exact hJ F248
end
