/-! THE LAW'S LOOP -/
theorem xl_end {p : Program} {l : Launch} {e : Env} {s : State} {m : MethodId} {below : List Frame} {meth : Method} {c : Code} {D : va_G} {A : Nat → Prop} {b : Nat} {y : Nat → ClassId} {ws : va_W} {k n pc : Nat} {L : List (Nat × Value)} {d0 : Drawn} (hd0 : s.drawn.sameBut d0 lw_cs) (C : xCL p (s.setDrawn d0) m b meth c D A y) (hA : ∀ q, A q → s.heap.size ≤ q) (h1 : k ≤ 601024) (h2 : n ≤ 7293034) (d : decode cL_law pc = .ok (.ireturn, 1)) : xV p l e room_1 (s.setDrawn d0) m #[Value.ref b] below meth c D A (lw_Z below #[Value.ref b] s) 9 ws k n L pc [.int 1] := by
  intro H locs ls hP hD hS hl
  obtain ⟨hx, hb, -, hown, hts, hK, hret, hlk, hA2⟩ := C
  refine va_forget (fun q hq => hA _ (hS.2.2 q hq)) ?_
  refine W.widen h1 h2 ?_
  exact lw_ret hd0 hx hb hret hlk d
theorem xl_more {Ln j : Nat} (hLn : Ln ≤ 2048) (hj : 4 * j ≤ Ln) (h : ¬ Int32.ofNat Ln - 4 < nI (4 * j)) : 4 * j + 4 ≤ Ln := by
  rcases Nat.lt_or_ge Ln 4 with h4 | h4
  · exfalso
    have j0 : j = 0 := by omega
    subst j0
    rcases (show Ln = 0 ∨ Ln = 1 ∨ Ln = 2 ∨ Ln = 3 by omega) with rfl | rfl | rfl | rfl <;> exact h (by decide)
  · have e : Int32.ofNat Ln - 4 = Int32.ofNat (Ln - 4) := z_sub (b := 4) h4
    rw [e] at h
    have h2 : ¬ (Ln - 4 < 4 * j) := fun q => h (by rw [show nI (4 * j) = Int32.ofNat (4 * j) from rfl, z_lt (by omega) (by omega)]; exact q)
    omega
set_option maxHeartbeats 4000000 in
set_option maxRecDepth 100000 in
theorem law_loop {p : Program} {l : Launch} {e : Env} {s : State} {m : MethodId} {below : List Frame} {meth : Method} {c : Code} {D : va_G} {A : Nat → Prop} {b Ln : Nat} {xs : Nat → Int32} {y : Nat → ClassId} {aH : Nat} {aG aN aF aT aM aO : Nat → Nat} (hT0 : xT2 l s A) (hJ0 : xJ2 s) (hX0 : xS b Ln xs s A) (hLn : Ln ≤ 2048) (hA : ∀ q, A q → s.heap.size ≤ q) : ∀ (nn j : Nat) (d0 : Drawn), s.drawn.sameBut d0 lw_cs → xCL p (s.setDrawn d0) m b meth c D A y → 4 * j ≤ Ln → Ln < 4 * (j + nn) → ∀ (G N F T M : St) (O : Nat → Int64), ZR T N M → xV p l e room_1 (s.setDrawn d0) m #[Value.ref b] below meth c D A (lw_Z below #[Value.ref b] s) 9 (xLw y aH aG aN aF aT aM aO G N F T M O) (100 + 100 * j) (2000 + 1000 * j) (xLL b aH aM aO (nI (4 * j))) 23 [] := by
  intro nn
  induction nn with
  | zero =>
    intro j d0 hd0 C h1 h2
    exact absurd h2 (by omega)
  | succ nn ih =>
    intro j d0 hd0 C h1 h2 G N F T M O R
    have hT := xT2_d hT0 d0
    have hJ := xJ2_d hJ0 d0
    have hX := xS_d hX0 d0
    refine x_iload (q := 25) C 4 dL_law_23 rfl rfl ?_
    refine x_aload_n (q := 26) C 0 dL_law_25 rfl rfl rfl ?_
    refine x_slen (q := 27) C hX dL_law_26 rfl ?_
    refine x_iconst (v := 4) (q := 28) C dL_law_27 rfl rfl ?_
    refine x_isub (q := 29) C dL_law_28 rfl ?_
    refine x_icmp_gt (t := 1362) (q := 32) C dL_law_29 (by decide) rfl (fun _ => ?_) (fun hc => ?_)
    · refine x_iconst (v := 1) (q := 1363) C dL_law_1362 rfl rfl ?_
      exact xl_end hd0 C hA (by omega) (by omega) dL_law_1363
    · have hlt : 4 * j + 3 < Ln := by have := xl_more hLn h1 hc; omega
      have hk : 100 + 100 * j + 200 ≤ room_1.cells := by show 100 + 100 * j + 200 ≤ 601024; omega
      have hn : 2000 + 1000 * j + 2000 ≤ room_1.slots := by show 2000 + 1000 * j + 2000 ≤ 7293034; omega
      have kd : ∀ (d1 : Drawn), s.drawn.sameBut d1 lw_cs → xCL p (s.setDrawn d1) m b meth c D A y → ∀ (G N F T M : St) (O : Nat → Int64), ZR T N M → xV p l e room_1 (s.setDrawn d1) m #[Value.ref b] below meth c D A (lw_Z below #[Value.ref b] s) 9 (xLw y aH aG aN aF aT aM aO G N F T M O) (100 + 100 * j + 100) (2000 + 1000 * j + 1000) (xLL b aH aM aO (nI (4 * j))) 1356 [] := by
        intro d1 hd1 C G N F T M O R
        refine x_iinc (q := 1359) C 4 (nI (4 * (j + 1))) [1, 2, 3, 4, 0] (xLL b aH aM aO (nI (4 * (j + 1)))) dL_law_1356 rfl (z_add (a := 4 * j) (b := 4)) (by decide) rfl rfl ?_
        refine x_goto (t := 23) C dL_law_1359 (by decide) ?_
        exact x_widen (by omega) (by omega) (ih (j + 1) d1 hd1 C (by omega) (by omega) G N F T M O R)
      have kk := kd d0 hd0 C
      have hin : vp_in (nI (4 * j)) Ln := vp_in_nI (by omega) (by omega)
      refine x_aload_n (q := 33) C 0 dL_law_32 rfl rfl rfl ?_
      refine x_iload (q := 35) C 4 dL_law_33 rfl rfl ?_
      refine x_sld (q := 36) C hX hin dL_law_35 rfl ?_
      refine x_bipush (v := 31) (q := 38) C dL_law_36 rfl rfl ?_
      refine x_iand (q := 39) C dL_law_38 rfl ?_
      obtain ⟨v, hv⟩ : ∃ v, v = xs (nI (4 * j)).toNatClampNeg &&& 31 := ⟨_, rfl⟩
      rw [← hv]
      by_cases ho : v.toInt < (0 : Int) ∨ (20 : Int) < v.toInt
      · refine x_tableOut (t := 1356) C dL_law_39 ho (by decide) ?_
        exact x_widen (by omega) (by omega) (kk G N F T M O R)
      · obtain ⟨z, hz, hvz⟩ : ∃ z : Nat, z < 21 ∧ v = Int32.ofNat z := by
          refine ⟨v.toInt.toNat, by omega, ?_⟩
          refine Int32.toInt_inj.mp ?_
          rw [z_int (by omega)]
          omega
        rcases (show z = 0 ∨ z = 1 ∨ z = 2 ∨ z = 3 ∨ z = 4 ∨ z = 5 ∨ z = 6 ∨ z = 7 ∨ z = 8 ∨ z = 9 ∨ z = 10 ∨ z = 11 ∨ z = 12 ∨ z = 13 ∨ z = 14 ∨ z = 15 ∨ z = 16 ∨ z = 17 ∨ z = 18 ∨ z = 19 ∨ z = 20 by omega) with rfl | rfl | rfl | rfl | rfl | rfl | rfl | rfl | rfl | rfl | rfl | rfl | rfl | rfl | rfl | rfl | rfl | rfl | rfl | rfl | rfl
        · exact x_table (t := 136) (Int32.ofNat 0) C dL_law_39 hvz (by decide) (by decide) rfl (by decide) (lc_corner C hT hJ hX hLn rfl hlt hk hn R kk)
        · exact x_table (t := 192) (Int32.ofNat 1) C dL_law_39 hvz (by decide) (by decide) rfl (by decide) (lc_street C hT hJ hX hLn rfl hlt hk hn R kk)
        · exact x_table (t := 272) (Int32.ofNat 2) C dL_law_39 hvz (by decide) (by decide) rfl (by decide) (lc_lamp C hT hJ hX hLn rfl hlt hk hn R kk)
        · exact x_table (t := 340) (Int32.ofNat 3) C dL_law_39 hvz (by decide) (by decide) rfl (by decide) (lc_lid C hT hJ hX hLn rfl hlt hk hn R kk)
        · exact x_table (t := 408) (Int32.ofNat 4) C dL_law_39 hvz (by decide) (by decide) rfl (by decide) (lc_setWind C hT hJ hX hLn rfl hlt hk hn R kk)
        · exact x_table (t := 476) (Int32.ofNat 5) C dL_law_39 hvz (by decide) (by decide) rfl (by decide) (lc_hire C hT hJ hX hLn rfl hlt hk hn R kk)
        · exact x_table (t := 556) (Int32.ofNat 6) C dL_law_39 hvz (by decide) (by decide) rfl (by decide) (lc_round C hT hJ hX hLn rfl hlt hk hn R kk)
        · exact x_table (t := 624) (Int32.ofNat 7) C dL_law_39 hvz (by decide) (by decide) rfl (by decide) (lc_fill C hT hJ hX hLn rfl hlt hk hn R kk)
        · exact x_table (t := 692) (Int32.ofNat 8) C dL_law_39 hvz (by decide) (by decide) rfl (by decide) (lc_way C hT hJ hX hLn rfl hlt hk hn R kk)
        · exact x_table (t := 760) (Int32.ofNat 9) C dL_law_39 hvz (by decide) (by decide) rfl (by decide) (lc_told C hT hJ hX hLn rfl hlt hk hn R kk)
        · exact x_table (t := 828) (Int32.ofNat 10) C dL_law_39 hvz (by decide) (by decide) rfl (by decide) (lc_lighter C hT hJ hX hLn rfl hlt hk hn R kk)
        · exact x_table (t := 896) (Int32.ofNat 11) C dL_law_39 hvz (by decide) (by decide) rfl (by decide) (lc_burning C hT hJ hX hLn rfl hlt hk hn R kk)
        · exact x_table (t := 952) (Int32.ofNat 12) C dL_law_39 hvz (by decide) (by decide) rfl (by decide) (lc_count C hT hJ hX hLn rfl hlt hk hn R kk)
        · exact x_table (t := 1008) (Int32.ofNat 13) C dL_law_39 hvz (by decide) (by decide) rfl (by decide) (lc_pass C hT hJ hX hLn rfl hlt hk hn R kk)
        · exact x_table (t := 1064) (Int32.ofNat 14) C dL_law_39 hvz (by decide) (by decide) rfl (by decide) (lc_dawn C hT hJ hX hLn rfl hlt hk hn R kk)
        · exact x_table (t := 1108) (Int32.ofNat 15) C dL_law_39 hvz (by decide) (by decide) rfl (by decide) (lc_comes C hT hJ hX hLn rfl hlt hk hn R kk)
        · exact x_table (t := 1164) (Int32.ofNat 16) C dL_law_39 hvz (by decide) (by decide) rfl (by decide) (lc_darkest C hT hJ hX hLn rfl hlt hk hn R kk)
        · exact x_table (t := 1177) (Int32.ofNat 17) C dL_law_39 hvz (by decide) (by decide) rfl (by decide) (lc_needs C hT hJ hX hLn rfl hlt hk hn R kk)
        · exact x_table (t := 1233) (Int32.ofNat 18) C dL_law_39 hvz (by decide) (by decide) rfl (by decide) (lc_foresee C hT hJ hX hLn rfl hlt hk hn R kk)
        · exact x_table (t := 1301) (Int32.ofNat 19) C dL_law_39 hvz (by decide) (by decide) rfl (by decide) (lc_mean (Ln := Ln) (xs := xs) hd0 C hk hn R kd)
        · exact x_table (t := 1342) (Int32.ofNat 20) C dL_law_39 hvz (by decide) (by decide) rfl (by decide) (lc_digest C hT hJ hX hLn rfl hlt hk hn R kk)
