/-! THE LAW'S CASES: both sides answer alike, and stay alike -/
set_option maxHeartbeats 4000000 in
set_option maxRecDepth 100000 in
theorem lc_round {p : Program} {l : Launch} {e : Env} {s : State} {m : MethodId} {below : List Frame} {meth : Method} {c : Code} {Q : State → Prop} {D : va_G} {A : Nat → Prop} {b Ln : Nat} {xs : Nat → Int32} {y : Nat → ClassId} {aH : Nat} {aG aN aF aT aM aO : Nat → Nat} {G N F T M : St} {O : Nat → Int64} {k n : Nat} {i : Int32} (C : xCL p s m b meth c D A y) (hT : xT2 l s A) (hJ : xJ2 s) (hX : xS b Ln xs s A) (hLn : Ln ≤ 2048) {i0 : Nat} (hi : i = nI i0) (hlt : i0 + 3 < Ln) (hk : k + 200 ≤ room_1.cells) (hn : n + 2000 ≤ room_1.slots) (R : ZR T N M) (kk : ∀ (G N F T M : St) (O : Nat → Int64), ZR T N M → xV p l e room_1 s m #[Value.ref b] below meth c D A Q 9 (xLw y aH aG aN aF aT aM aO G N F T M O) (k + 100) (n + 1000) (xLL b aH aM aO i) 1356 []) : xV p l e room_1 s m #[Value.ref b] below meth c D A Q 9 (xLw y aH aG aN aF aT aM aO G N F T M O) k n (xLL b aH aM aO i) 556 [] := by
  refine x_aload_n (q := 557) C 1 dL_law_556 rfl rfl rfl ?_
  refine xl_ld (q := 563) C hX 1 hi (by omega) hLn rfl dL_law_557 dL_law_558 dL_law_560 dL_law_561 dL_law_562 rfl rfl rfl ?_
  refine xl_ld (q := 569) C hX 2 hi (by omega) hLn rfl dL_law_563 dL_law_564 dL_law_566 dL_law_567 dL_law_568 rfl rfl rfl ?_
  refine x_aload_n (q := 570) C 3 dL_law_569 rfl rfl rfl ?_
  have tail : ∀ (k0 r : Int32) (G1 N1 F1 T1 M1 : St) (O1 : Nat → Int64), f3_round M (xs (i0 + 1)) (xs (i0 + 2)) = some (r, M1) → M1 0 0 = k0 → (k0 = 0 → O1 (0 : Int32).toNatClampNeg = r.toInt64) → ZR T1 N1 M1 → xV p l e room_1 s m #[Value.ref b] below meth c D A Q 9 (xLw y aH aG aN aF aT aM aO G1 N1 F1 T1 M O1) (k + 1) (n + 6) (xLL b aH aM aO i) 573 [.int k0] := by
    intro k0 r G1 N1 F1 T1 M1 O1 h2 h3 h4 R1
    refine x_istore (q := 575) C [1, 2, 3, 4, 5, 0] (xL5 b aH aM aO i k0) dL_law_573 (by decide) rfl rfl ?_
    refine x_aload_n (q := 576) C 2 dL_law_575 rfl rfl rfl ?_
    refine xl_ld (q := 582) C hX 1 hi (by omega) hLn rfl dL_law_576 dL_law_577 dL_law_579 dL_law_580 dL_law_581 rfl rfl rfl ?_
    refine xl_ld (q := 588) C hX 2 hi (by omega) hLn rfl dL_law_582 dL_law_583 dL_law_585 dL_law_586 dL_law_587 rfl rfl rfl ?_
    refine x_callVi (q := 591) C (c3_round (l := l) (D := D) (y := y) (aM := aM) h2) yi_X3_round gL_law_X3_round rfl (oX3 y aM M) rfl ⟨Nat.le_of_ble_eq_true rfl, Nat.le_of_ble_eq_true rfl⟩ dL_law_588 (pl_m _ _ _) rfl rfl (Nat.le_of_ble_eq_true rfl) ⟨by omega, by omega⟩ rfl ?_
    intro rr uu hrr
    have hrr : rr = r := hrr
    subst hrr
    refine x_perm (ws' := xLw y aH aG aN aF aT aM aO G1 N1 F1 T1 M1 O1) (pl_m _ _ _).symm ?_
    refine x_istore (q := 593) C [1, 2, 3, 4, 5, 6, 0] (xL6 b aH aM aO i k0 rr) dL_law_591 (by decide) rfl rfl ?_
    refine xl_cmp 593 C (by omega) (by omega) h3 h4 (by decide) dL_law_593 dL_law_594 dL_law_597 dL_law_599 dL_law_604 dL_law_606 dL_law_609 dL_law_610 dL_law_611 dL_law_612 dL_law_614 dL_law_615 dL_law_616 dL_law_621 ?_
    exact x_widen (by omega) (by omega) (kk G1 N1 F1 T1 M1 O1 R1)
  rcases z_round R G F (xs (i0 + 1)) (xs (i0 + 2)) with ⟨er, M', h1, h2, h3, R1⟩ | ⟨r, T', M', h1, h2, h3, R1⟩
  · rcases h3 with h3 | h3
    · obtain ⟨rfl, h3⟩ := h3
      refine x_callW (q := 573) C hT (wLt_round_3 (l := l) (D := D) (y := y) (aH := aH) (aG := aG) (aN := aN) (aF := aF) (aT := aT) (aO := aO) (O := O) hT.1 h1) yw_round gL_law_L_round ⟨Nat.le_of_ble_eq_true rfl, Nat.le_of_ble_eq_true rfl⟩ dL_law_570 (pl_w _ _ _) rfl rfl (Nat.le_of_ble_eq_true rfl) ⟨by omega, by omega⟩ rfl ?_
      refine x_perm (ws' := xLw y aH aG aN aF aT aM aO G N F T M O) (pl_w _ _ _).symm ?_
      exact tail 1 0 G N F T M' O h2 h3 (fun h => absurd h (by decide)) R1
    · obtain ⟨rfl, h3⟩ := h3
      refine x_callW (q := 573) C hT (wLt_round_2 (l := l) (D := D) (y := y) (aH := aH) (aG := aG) (aN := aN) (aF := aF) (aT := aT) (aO := aO) (O := O) hT.1 h1) yw_round gL_law_L_round ⟨Nat.le_of_ble_eq_true rfl, Nat.le_of_ble_eq_true rfl⟩ dL_law_570 (pl_w _ _ _) rfl rfl (Nat.le_of_ble_eq_true rfl) ⟨by omega, by omega⟩ rfl ?_
      refine x_perm (ws' := xLw y aH aG aN aF aT aM aO G N F T M O) (pl_w _ _ _).symm ?_
      exact tail 2 0 G N F T M' O h2 h3 (fun h => absurd h (by decide)) R1
  · skip
    refine x_callW (q := 573) C hT (wLr_round (l := l) (D := D) (y := y) (aH := aH) (aG := aG) (aN := aN) (aF := aF) (aT := aT) (aO := aO) (O := O) hT.1 h1) yw_round gL_law_L_round ⟨Nat.le_of_ble_eq_true rfl, Nat.le_of_ble_eq_true rfl⟩ dL_law_570 (pl_w _ _ _) rfl rfl (Nat.le_of_ble_eq_true rfl) ⟨by omega, by omega⟩ rfl ?_
    refine x_perm (ws' := xLw y aH aG aN aF aT aM aO G N F T' M (vp_updL O (0 : Int32).toNatClampNeg r.toInt64)) (pl_w _ _ _).symm ?_
    exact tail 0 r G N F T' M' (vp_updL O (0 : Int32).toNatClampNeg r.toInt64) h2 h3 (fun _ => if_pos rfl) R1
set_option maxHeartbeats 4000000 in
set_option maxRecDepth 100000 in
theorem lc_fill {p : Program} {l : Launch} {e : Env} {s : State} {m : MethodId} {below : List Frame} {meth : Method} {c : Code} {Q : State → Prop} {D : va_G} {A : Nat → Prop} {b Ln : Nat} {xs : Nat → Int32} {y : Nat → ClassId} {aH : Nat} {aG aN aF aT aM aO : Nat → Nat} {G N F T M : St} {O : Nat → Int64} {k n : Nat} {i : Int32} (C : xCL p s m b meth c D A y) (hT : xT2 l s A) (hJ : xJ2 s) (hX : xS b Ln xs s A) (hLn : Ln ≤ 2048) {i0 : Nat} (hi : i = nI i0) (hlt : i0 + 3 < Ln) (hk : k + 200 ≤ room_1.cells) (hn : n + 2000 ≤ room_1.slots) (R : ZR T N M) (kk : ∀ (G N F T M : St) (O : Nat → Int64), ZR T N M → xV p l e room_1 s m #[Value.ref b] below meth c D A Q 9 (xLw y aH aG aN aF aT aM aO G N F T M O) (k + 100) (n + 1000) (xLL b aH aM aO i) 1356 []) : xV p l e room_1 s m #[Value.ref b] below meth c D A Q 9 (xLw y aH aG aN aF aT aM aO G N F T M O) k n (xLL b aH aM aO i) 624 [] := by
  refine x_aload_n (q := 625) C 1 dL_law_624 rfl rfl rfl ?_
  refine xl_ld (q := 631) C hX 1 hi (by omega) hLn rfl dL_law_625 dL_law_626 dL_law_628 dL_law_629 dL_law_630 rfl rfl rfl ?_
  refine xl_ld (q := 637) C hX 2 hi (by omega) hLn rfl dL_law_631 dL_law_632 dL_law_634 dL_law_635 dL_law_636 rfl rfl rfl ?_
  refine x_aload_n (q := 638) C 3 dL_law_637 rfl rfl rfl ?_
  have tail : ∀ (k0 r : Int32) (G1 N1 F1 T1 M1 : St) (O1 : Nat → Int64), f3_fill M (xs (i0 + 1)) (xs (i0 + 2)) = some (r, M1) → M1 0 0 = k0 → (k0 = 0 → O1 (0 : Int32).toNatClampNeg = r.toInt64) → ZR T1 N1 M1 → xV p l e room_1 s m #[Value.ref b] below meth c D A Q 9 (xLw y aH aG aN aF aT aM aO G1 N1 F1 T1 M O1) (k + 1) (n + 6) (xLL b aH aM aO i) 641 [.int k0] := by
    intro k0 r G1 N1 F1 T1 M1 O1 h2 h3 h4 R1
    refine x_istore (q := 643) C [1, 2, 3, 4, 5, 0] (xL5 b aH aM aO i k0) dL_law_641 (by decide) rfl rfl ?_
    refine x_aload_n (q := 644) C 2 dL_law_643 rfl rfl rfl ?_
    refine xl_ld (q := 650) C hX 1 hi (by omega) hLn rfl dL_law_644 dL_law_645 dL_law_647 dL_law_648 dL_law_649 rfl rfl rfl ?_
    refine xl_ld (q := 656) C hX 2 hi (by omega) hLn rfl dL_law_650 dL_law_651 dL_law_653 dL_law_654 dL_law_655 rfl rfl rfl ?_
    refine x_callVi (q := 659) C (c3_fill (l := l) (D := D) (y := y) (aM := aM) h2) yi_X3_fill gL_law_X3_fill rfl (oX3 y aM M) rfl ⟨Nat.le_of_ble_eq_true rfl, Nat.le_of_ble_eq_true rfl⟩ dL_law_656 (pl_m _ _ _) rfl rfl (Nat.le_of_ble_eq_true rfl) ⟨by omega, by omega⟩ rfl ?_
    intro rr uu hrr
    have hrr : rr = r := hrr
    subst hrr
    refine x_perm (ws' := xLw y aH aG aN aF aT aM aO G1 N1 F1 T1 M1 O1) (pl_m _ _ _).symm ?_
    refine x_istore (q := 661) C [1, 2, 3, 4, 5, 6, 0] (xL6 b aH aM aO i k0 rr) dL_law_659 (by decide) rfl rfl ?_
    refine xl_cmp 661 C (by omega) (by omega) h3 h4 (by decide) dL_law_661 dL_law_662 dL_law_665 dL_law_667 dL_law_672 dL_law_674 dL_law_677 dL_law_678 dL_law_679 dL_law_680 dL_law_682 dL_law_683 dL_law_684 dL_law_689 ?_
    exact x_widen (by omega) (by omega) (kk G1 N1 F1 T1 M1 O1 R1)
  rcases z_fill R G F (xs (i0 + 1)) (xs (i0 + 2)) with ⟨er, M', h1, h2, h3, R1⟩ | ⟨r, N', M', h1, h2, h3, R1⟩
  · rcases h3 with h3 | h3
    · obtain ⟨rfl, h3⟩ := h3
      refine x_callW (q := 641) C hT (wLt_fill_3 (l := l) (D := D) (y := y) (aH := aH) (aG := aG) (aN := aN) (aF := aF) (aT := aT) (aO := aO) (O := O) hT.1 h1) yw_fill gL_law_L_fill ⟨Nat.le_of_ble_eq_true rfl, Nat.le_of_ble_eq_true rfl⟩ dL_law_638 (pl_w _ _ _) rfl rfl (Nat.le_of_ble_eq_true rfl) ⟨by omega, by omega⟩ rfl ?_
      refine x_perm (ws' := xLw y aH aG aN aF aT aM aO G N F T M O) (pl_w _ _ _).symm ?_
      exact tail 1 0 G N F T M' O h2 h3 (fun h => absurd h (by decide)) R1
    · obtain ⟨rfl, h3⟩ := h3
      refine x_callW (q := 641) C hT (wLt_fill_1 (l := l) (D := D) (y := y) (aH := aH) (aG := aG) (aN := aN) (aF := aF) (aT := aT) (aO := aO) (O := O) hT.1 h1) yw_fill gL_law_L_fill ⟨Nat.le_of_ble_eq_true rfl, Nat.le_of_ble_eq_true rfl⟩ dL_law_638 (pl_w _ _ _) rfl rfl (Nat.le_of_ble_eq_true rfl) ⟨by omega, by omega⟩ rfl ?_
      refine x_perm (ws' := xLw y aH aG aN aF aT aM aO G N F T M O) (pl_w _ _ _).symm ?_
      exact tail 2 0 G N F T M' O h2 h3 (fun h => absurd h (by decide)) R1
  · skip
    refine x_callW (q := 641) C hT (wLr_fill (l := l) (D := D) (y := y) (aH := aH) (aG := aG) (aN := aN) (aF := aF) (aT := aT) (aO := aO) (O := O) hT.1 h1) yw_fill gL_law_L_fill ⟨Nat.le_of_ble_eq_true rfl, Nat.le_of_ble_eq_true rfl⟩ dL_law_638 (pl_w _ _ _) rfl rfl (Nat.le_of_ble_eq_true rfl) ⟨by omega, by omega⟩ rfl ?_
    refine x_perm (ws' := xLw y aH aG aN aF aT aM aO G N' F T M (vp_updL O (0 : Int32).toNatClampNeg r.toInt64)) (pl_w _ _ _).symm ?_
    exact tail 0 r G N' F T M' (vp_updL O (0 : Int32).toNatClampNeg r.toInt64) h2 h3 (fun _ => if_pos rfl) R1
set_option maxHeartbeats 4000000 in
set_option maxRecDepth 100000 in
theorem lc_way {p : Program} {l : Launch} {e : Env} {s : State} {m : MethodId} {below : List Frame} {meth : Method} {c : Code} {Q : State → Prop} {D : va_G} {A : Nat → Prop} {b Ln : Nat} {xs : Nat → Int32} {y : Nat → ClassId} {aH : Nat} {aG aN aF aT aM aO : Nat → Nat} {G N F T M : St} {O : Nat → Int64} {k n : Nat} {i : Int32} (C : xCL p s m b meth c D A y) (hT : xT2 l s A) (hJ : xJ2 s) (hX : xS b Ln xs s A) (hLn : Ln ≤ 2048) {i0 : Nat} (hi : i = nI i0) (hlt : i0 + 3 < Ln) (hk : k + 200 ≤ room_1.cells) (hn : n + 2000 ≤ room_1.slots) (R : ZR T N M) (kk : ∀ (G N F T M : St) (O : Nat → Int64), ZR T N M → xV p l e room_1 s m #[Value.ref b] below meth c D A Q 9 (xLw y aH aG aN aF aT aM aO G N F T M O) (k + 100) (n + 1000) (xLL b aH aM aO i) 1356 []) : xV p l e room_1 s m #[Value.ref b] below meth c D A Q 9 (xLw y aH aG aN aF aT aM aO G N F T M O) k n (xLL b aH aM aO i) 692 [] := by
  refine x_aload_n (q := 693) C 1 dL_law_692 rfl rfl rfl ?_
  refine xl_ld (q := 699) C hX 1 hi (by omega) hLn rfl dL_law_693 dL_law_694 dL_law_696 dL_law_697 dL_law_698 rfl rfl rfl ?_
  refine xl_ld (q := 705) C hX 2 hi (by omega) hLn rfl dL_law_699 dL_law_700 dL_law_702 dL_law_703 dL_law_704 rfl rfl rfl ?_
  refine x_aload_n (q := 706) C 3 dL_law_705 rfl rfl rfl ?_
  have tail : ∀ (k0 r : Int32) (G1 N1 F1 T1 M1 : St) (O1 : Nat → Int64), f3_way M (xs (i0 + 1)) (xs (i0 + 2)) = some (r, M1) → M1 0 0 = k0 → (k0 = 0 → O1 (0 : Int32).toNatClampNeg = r.toInt64) → ZR T1 N1 M1 → xV p l e room_1 s m #[Value.ref b] below meth c D A Q 9 (xLw y aH aG aN aF aT aM aO G1 N1 F1 T1 M O1) (k + 1) (n + 6) (xLL b aH aM aO i) 709 [.int k0] := by
    intro k0 r G1 N1 F1 T1 M1 O1 h2 h3 h4 R1
    refine x_istore (q := 711) C [1, 2, 3, 4, 5, 0] (xL5 b aH aM aO i k0) dL_law_709 (by decide) rfl rfl ?_
    refine x_aload_n (q := 712) C 2 dL_law_711 rfl rfl rfl ?_
    refine xl_ld (q := 718) C hX 1 hi (by omega) hLn rfl dL_law_712 dL_law_713 dL_law_715 dL_law_716 dL_law_717 rfl rfl rfl ?_
    refine xl_ld (q := 724) C hX 2 hi (by omega) hLn rfl dL_law_718 dL_law_719 dL_law_721 dL_law_722 dL_law_723 rfl rfl rfl ?_
    refine x_callVi (q := 727) C (c3_way (l := l) (D := D) (y := y) (aM := aM) h2) yi_X3_way gL_law_X3_way rfl (oX3 y aM M) rfl ⟨Nat.le_of_ble_eq_true rfl, Nat.le_of_ble_eq_true rfl⟩ dL_law_724 (pl_m _ _ _) rfl rfl (Nat.le_of_ble_eq_true rfl) ⟨by omega, by omega⟩ rfl ?_
    intro rr uu hrr
    have hrr : rr = r := hrr
    subst hrr
    refine x_perm (ws' := xLw y aH aG aN aF aT aM aO G1 N1 F1 T1 M1 O1) (pl_m _ _ _).symm ?_
    refine x_istore (q := 729) C [1, 2, 3, 4, 5, 6, 0] (xL6 b aH aM aO i k0 rr) dL_law_727 (by decide) rfl rfl ?_
    refine xl_cmp 729 C (by omega) (by omega) h3 h4 (by decide) dL_law_729 dL_law_730 dL_law_733 dL_law_735 dL_law_740 dL_law_742 dL_law_745 dL_law_746 dL_law_747 dL_law_748 dL_law_750 dL_law_751 dL_law_752 dL_law_757 ?_
    exact x_widen (by omega) (by omega) (kk G1 N1 F1 T1 M1 O1 R1)
  rcases z_way R G F (xs (i0 + 1)) (xs (i0 + 2)) with ⟨er, M', h1, h2, h3, R1⟩ | ⟨r, M', h1, h2, h3, R1⟩
  · obtain ⟨rfl, h3⟩ := h3
    refine x_callW (q := 709) C hT (wLt_way_3 (l := l) (D := D) (y := y) (aH := aH) (aG := aG) (aN := aN) (aF := aF) (aT := aT) (aO := aO) (O := O) hT.1 h1) yw_way gL_law_L_way ⟨Nat.le_of_ble_eq_true rfl, Nat.le_of_ble_eq_true rfl⟩ dL_law_706 (pl_w _ _ _) rfl rfl (Nat.le_of_ble_eq_true rfl) ⟨by omega, by omega⟩ rfl ?_
    refine x_perm (ws' := xLw y aH aG aN aF aT aM aO G N F T M O) (pl_w _ _ _).symm ?_
    exact tail 1 0 G N F T M' O h2 h3 (fun h => absurd h (by decide)) R1
  · skip
    refine x_callW (q := 709) C hT (wLr_way (l := l) (D := D) (y := y) (aH := aH) (aG := aG) (aN := aN) (aF := aF) (aT := aT) (aO := aO) (O := O) hT.1 h1) yw_way gL_law_L_way ⟨Nat.le_of_ble_eq_true rfl, Nat.le_of_ble_eq_true rfl⟩ dL_law_706 (pl_w _ _ _) rfl rfl (Nat.le_of_ble_eq_true rfl) ⟨by omega, by omega⟩ rfl ?_
    refine x_perm (ws' := xLw y aH aG aN aF aT aM aO G N F T M (vp_updL O (0 : Int32).toNatClampNeg r.toInt64)) (pl_w _ _ _).symm ?_
    exact tail 0 r G N F T M' (vp_updL O (0 : Int32).toNatClampNeg r.toInt64) h2 h3 (fun _ => if_pos rfl) R1
set_option maxHeartbeats 4000000 in
set_option maxRecDepth 100000 in
theorem lc_told {p : Program} {l : Launch} {e : Env} {s : State} {m : MethodId} {below : List Frame} {meth : Method} {c : Code} {Q : State → Prop} {D : va_G} {A : Nat → Prop} {b Ln : Nat} {xs : Nat → Int32} {y : Nat → ClassId} {aH : Nat} {aG aN aF aT aM aO : Nat → Nat} {G N F T M : St} {O : Nat → Int64} {k n : Nat} {i : Int32} (C : xCL p s m b meth c D A y) (hT : xT2 l s A) (hJ : xJ2 s) (hX : xS b Ln xs s A) (hLn : Ln ≤ 2048) {i0 : Nat} (hi : i = nI i0) (hlt : i0 + 3 < Ln) (hk : k + 200 ≤ room_1.cells) (hn : n + 2000 ≤ room_1.slots) (R : ZR T N M) (kk : ∀ (G N F T M : St) (O : Nat → Int64), ZR T N M → xV p l e room_1 s m #[Value.ref b] below meth c D A Q 9 (xLw y aH aG aN aF aT aM aO G N F T M O) (k + 100) (n + 1000) (xLL b aH aM aO i) 1356 []) : xV p l e room_1 s m #[Value.ref b] below meth c D A Q 9 (xLw y aH aG aN aF aT aM aO G N F T M O) k n (xLL b aH aM aO i) 760 [] := by
  refine x_aload_n (q := 761) C 1 dL_law_760 rfl rfl rfl ?_
  refine xl_ld (q := 767) C hX 1 hi (by omega) hLn rfl dL_law_761 dL_law_762 dL_law_764 dL_law_765 dL_law_766 rfl rfl rfl ?_
  refine xl_ld (q := 773) C hX 2 hi (by omega) hLn rfl dL_law_767 dL_law_768 dL_law_770 dL_law_771 dL_law_772 rfl rfl rfl ?_
  refine x_aload_n (q := 774) C 3 dL_law_773 rfl rfl rfl ?_
  have tail : ∀ (k0 r : Int32) (G1 N1 F1 T1 M1 : St) (O1 : Nat → Int64), f3_told M (xs (i0 + 1)) (xs (i0 + 2)) = some (r, M1) → M1 0 0 = k0 → (k0 = 0 → O1 (0 : Int32).toNatClampNeg = r.toInt64) → ZR T1 N1 M1 → xV p l e room_1 s m #[Value.ref b] below meth c D A Q 9 (xLw y aH aG aN aF aT aM aO G1 N1 F1 T1 M O1) (k + 1) (n + 6) (xLL b aH aM aO i) 777 [.int k0] := by
    intro k0 r G1 N1 F1 T1 M1 O1 h2 h3 h4 R1
    refine x_istore (q := 779) C [1, 2, 3, 4, 5, 0] (xL5 b aH aM aO i k0) dL_law_777 (by decide) rfl rfl ?_
    refine x_aload_n (q := 780) C 2 dL_law_779 rfl rfl rfl ?_
    refine xl_ld (q := 786) C hX 1 hi (by omega) hLn rfl dL_law_780 dL_law_781 dL_law_783 dL_law_784 dL_law_785 rfl rfl rfl ?_
    refine xl_ld (q := 792) C hX 2 hi (by omega) hLn rfl dL_law_786 dL_law_787 dL_law_789 dL_law_790 dL_law_791 rfl rfl rfl ?_
    refine x_callVi (q := 795) C (c3_told (l := l) (D := D) (y := y) (aM := aM) h2) yi_X3_told gL_law_X3_told rfl (oX3 y aM M) rfl ⟨Nat.le_of_ble_eq_true rfl, Nat.le_of_ble_eq_true rfl⟩ dL_law_792 (pl_m _ _ _) rfl rfl (Nat.le_of_ble_eq_true rfl) ⟨by omega, by omega⟩ rfl ?_
    intro rr uu hrr
    have hrr : rr = r := hrr
    subst hrr
    refine x_perm (ws' := xLw y aH aG aN aF aT aM aO G1 N1 F1 T1 M1 O1) (pl_m _ _ _).symm ?_
    refine x_istore (q := 797) C [1, 2, 3, 4, 5, 6, 0] (xL6 b aH aM aO i k0 rr) dL_law_795 (by decide) rfl rfl ?_
    refine xl_cmp 797 C (by omega) (by omega) h3 h4 (by decide) dL_law_797 dL_law_798 dL_law_801 dL_law_803 dL_law_808 dL_law_810 dL_law_813 dL_law_814 dL_law_815 dL_law_816 dL_law_818 dL_law_819 dL_law_820 dL_law_825 ?_
    exact x_widen (by omega) (by omega) (kk G1 N1 F1 T1 M1 O1 R1)
  rcases z_told R G F (xs (i0 + 1)) (xs (i0 + 2)) with ⟨er, M', h1, h2, h3, R1⟩ | ⟨r, M', h1, h2, h3, R1⟩
  · obtain ⟨rfl, h3⟩ := h3
    refine x_callW (q := 777) C hT (wLt_told_3 (l := l) (D := D) (y := y) (aH := aH) (aG := aG) (aN := aN) (aF := aF) (aT := aT) (aO := aO) (O := O) hT.1 h1) yw_told gL_law_L_told ⟨Nat.le_of_ble_eq_true rfl, Nat.le_of_ble_eq_true rfl⟩ dL_law_774 (pl_w _ _ _) rfl rfl (Nat.le_of_ble_eq_true rfl) ⟨by omega, by omega⟩ rfl ?_
    refine x_perm (ws' := xLw y aH aG aN aF aT aM aO G N F T M O) (pl_w _ _ _).symm ?_
    exact tail 1 0 G N F T M' O h2 h3 (fun h => absurd h (by decide)) R1
  · skip
    refine x_callW (q := 777) C hT (wLr_told (l := l) (D := D) (y := y) (aH := aH) (aG := aG) (aN := aN) (aF := aF) (aT := aT) (aO := aO) (O := O) hT.1 h1) yw_told gL_law_L_told ⟨Nat.le_of_ble_eq_true rfl, Nat.le_of_ble_eq_true rfl⟩ dL_law_774 (pl_w _ _ _) rfl rfl (Nat.le_of_ble_eq_true rfl) ⟨by omega, by omega⟩ rfl ?_
    refine x_perm (ws' := xLw y aH aG aN aF aT aM aO G N F T M (vp_updL O (0 : Int32).toNatClampNeg r.toInt64)) (pl_w _ _ _).symm ?_
    exact tail 0 r G N F T M' (vp_updL O (0 : Int32).toNatClampNeg r.toInt64) h2 h3 (fun _ => if_pos rfl) R1
set_option maxHeartbeats 4000000 in
set_option maxRecDepth 100000 in
theorem lc_lighter {p : Program} {l : Launch} {e : Env} {s : State} {m : MethodId} {below : List Frame} {meth : Method} {c : Code} {Q : State → Prop} {D : va_G} {A : Nat → Prop} {b Ln : Nat} {xs : Nat → Int32} {y : Nat → ClassId} {aH : Nat} {aG aN aF aT aM aO : Nat → Nat} {G N F T M : St} {O : Nat → Int64} {k n : Nat} {i : Int32} (C : xCL p s m b meth c D A y) (hT : xT2 l s A) (hJ : xJ2 s) (hX : xS b Ln xs s A) (hLn : Ln ≤ 2048) {i0 : Nat} (hi : i = nI i0) (hlt : i0 + 3 < Ln) (hk : k + 200 ≤ room_1.cells) (hn : n + 2000 ≤ room_1.slots) (R : ZR T N M) (kk : ∀ (G N F T M : St) (O : Nat → Int64), ZR T N M → xV p l e room_1 s m #[Value.ref b] below meth c D A Q 9 (xLw y aH aG aN aF aT aM aO G N F T M O) (k + 100) (n + 1000) (xLL b aH aM aO i) 1356 []) : xV p l e room_1 s m #[Value.ref b] below meth c D A Q 9 (xLw y aH aG aN aF aT aM aO G N F T M O) k n (xLL b aH aM aO i) 828 [] := by
  refine x_aload_n (q := 829) C 1 dL_law_828 rfl rfl rfl ?_
  refine xl_ld (q := 835) C hX 1 hi (by omega) hLn rfl dL_law_829 dL_law_830 dL_law_832 dL_law_833 dL_law_834 rfl rfl rfl ?_
  refine xl_ld (q := 841) C hX 2 hi (by omega) hLn rfl dL_law_835 dL_law_836 dL_law_838 dL_law_839 dL_law_840 rfl rfl rfl ?_
  refine x_aload_n (q := 842) C 3 dL_law_841 rfl rfl rfl ?_
  have tail : ∀ (k0 r : Int32) (G1 N1 F1 T1 M1 : St) (O1 : Nat → Int64), f3_lighter M (xs (i0 + 1)) (xs (i0 + 2)) = some (r, M1) → M1 0 0 = k0 → (k0 = 0 → O1 (0 : Int32).toNatClampNeg = r.toInt64) → ZR T1 N1 M1 → xV p l e room_1 s m #[Value.ref b] below meth c D A Q 9 (xLw y aH aG aN aF aT aM aO G1 N1 F1 T1 M O1) (k + 1) (n + 6) (xLL b aH aM aO i) 845 [.int k0] := by
    intro k0 r G1 N1 F1 T1 M1 O1 h2 h3 h4 R1
    refine x_istore (q := 847) C [1, 2, 3, 4, 5, 0] (xL5 b aH aM aO i k0) dL_law_845 (by decide) rfl rfl ?_
    refine x_aload_n (q := 848) C 2 dL_law_847 rfl rfl rfl ?_
    refine xl_ld (q := 854) C hX 1 hi (by omega) hLn rfl dL_law_848 dL_law_849 dL_law_851 dL_law_852 dL_law_853 rfl rfl rfl ?_
    refine xl_ld (q := 860) C hX 2 hi (by omega) hLn rfl dL_law_854 dL_law_855 dL_law_857 dL_law_858 dL_law_859 rfl rfl rfl ?_
    refine x_callVi (q := 863) C (c3_lighter (l := l) (D := D) (y := y) (aM := aM) h2) yi_X3_lighter gL_law_X3_lighter rfl (oX3 y aM M) rfl ⟨Nat.le_of_ble_eq_true rfl, Nat.le_of_ble_eq_true rfl⟩ dL_law_860 (pl_m _ _ _) rfl rfl (Nat.le_of_ble_eq_true rfl) ⟨by omega, by omega⟩ rfl ?_
    intro rr uu hrr
    have hrr : rr = r := hrr
    subst hrr
    refine x_perm (ws' := xLw y aH aG aN aF aT aM aO G1 N1 F1 T1 M1 O1) (pl_m _ _ _).symm ?_
    refine x_istore (q := 865) C [1, 2, 3, 4, 5, 6, 0] (xL6 b aH aM aO i k0 rr) dL_law_863 (by decide) rfl rfl ?_
    refine xl_cmp 865 C (by omega) (by omega) h3 h4 (by decide) dL_law_865 dL_law_866 dL_law_869 dL_law_871 dL_law_876 dL_law_878 dL_law_881 dL_law_882 dL_law_883 dL_law_884 dL_law_886 dL_law_887 dL_law_888 dL_law_893 ?_
    exact x_widen (by omega) (by omega) (kk G1 N1 F1 T1 M1 O1 R1)
  rcases z_lighter R G F (xs (i0 + 1)) (xs (i0 + 2)) with ⟨er, M', h1, h2, h3, R1⟩ | ⟨r, M', h1, h2, h3, R1⟩
  · obtain ⟨rfl, h3⟩ := h3
    refine x_callW (q := 845) C hT (wLt_lighter_3 (l := l) (D := D) (y := y) (aH := aH) (aG := aG) (aN := aN) (aF := aF) (aT := aT) (aO := aO) (O := O) hT.1 h1) yw_lighter gL_law_L_lighter ⟨Nat.le_of_ble_eq_true rfl, Nat.le_of_ble_eq_true rfl⟩ dL_law_842 (pl_w _ _ _) rfl rfl (Nat.le_of_ble_eq_true rfl) ⟨by omega, by omega⟩ rfl ?_
    refine x_perm (ws' := xLw y aH aG aN aF aT aM aO G N F T M O) (pl_w _ _ _).symm ?_
    exact tail 1 0 G N F T M' O h2 h3 (fun h => absurd h (by decide)) R1
  · skip
    refine x_callW (q := 845) C hT (wLr_lighter (l := l) (D := D) (y := y) (aH := aH) (aG := aG) (aN := aN) (aF := aF) (aT := aT) (aO := aO) (O := O) hT.1 h1) yw_lighter gL_law_L_lighter ⟨Nat.le_of_ble_eq_true rfl, Nat.le_of_ble_eq_true rfl⟩ dL_law_842 (pl_w _ _ _) rfl rfl (Nat.le_of_ble_eq_true rfl) ⟨by omega, by omega⟩ rfl ?_
    refine x_perm (ws' := xLw y aH aG aN aF aT aM aO G N F T M (vp_updL O (0 : Int32).toNatClampNeg r.toInt64)) (pl_w _ _ _).symm ?_
    exact tail 0 r G N F T M' (vp_updL O (0 : Int32).toNatClampNeg r.toInt64) h2 h3 (fun _ => if_pos rfl) R1
set_option maxHeartbeats 4000000 in
set_option maxRecDepth 100000 in
theorem lc_burning {p : Program} {l : Launch} {e : Env} {s : State} {m : MethodId} {below : List Frame} {meth : Method} {c : Code} {Q : State → Prop} {D : va_G} {A : Nat → Prop} {b Ln : Nat} {xs : Nat → Int32} {y : Nat → ClassId} {aH : Nat} {aG aN aF aT aM aO : Nat → Nat} {G N F T M : St} {O : Nat → Int64} {k n : Nat} {i : Int32} (C : xCL p s m b meth c D A y) (hT : xT2 l s A) (hJ : xJ2 s) (hX : xS b Ln xs s A) (hLn : Ln ≤ 2048) {i0 : Nat} (hi : i = nI i0) (hlt : i0 + 3 < Ln) (hk : k + 200 ≤ room_1.cells) (hn : n + 2000 ≤ room_1.slots) (R : ZR T N M) (kk : ∀ (G N F T M : St) (O : Nat → Int64), ZR T N M → xV p l e room_1 s m #[Value.ref b] below meth c D A Q 9 (xLw y aH aG aN aF aT aM aO G N F T M O) (k + 100) (n + 1000) (xLL b aH aM aO i) 1356 []) : xV p l e room_1 s m #[Value.ref b] below meth c D A Q 9 (xLw y aH aG aN aF aT aM aO G N F T M O) k n (xLL b aH aM aO i) 896 [] := by
  refine x_aload_n (q := 897) C 1 dL_law_896 rfl rfl rfl ?_
  refine xl_ld (q := 903) C hX 1 hi (by omega) hLn rfl dL_law_897 dL_law_898 dL_law_900 dL_law_901 dL_law_902 rfl rfl rfl ?_
  refine x_aload_n (q := 904) C 3 dL_law_903 rfl rfl rfl ?_
  have tail : ∀ (k0 r : Int32) (G1 N1 F1 T1 M1 : St) (O1 : Nat → Int64), f3_burning M (xs (i0 + 1)) = some (r, M1) → M1 0 0 = k0 → (k0 = 0 → O1 (0 : Int32).toNatClampNeg = r.toInt64) → ZR T1 N1 M1 → xV p l e room_1 s m #[Value.ref b] below meth c D A Q 9 (xLw y aH aG aN aF aT aM aO G1 N1 F1 T1 M O1) (k + 1) (n + 6) (xLL b aH aM aO i) 907 [.int k0] := by
    intro k0 r G1 N1 F1 T1 M1 O1 h2 h3 h4 R1
    refine x_istore (q := 909) C [1, 2, 3, 4, 5, 0] (xL5 b aH aM aO i k0) dL_law_907 (by decide) rfl rfl ?_
    refine x_aload_n (q := 910) C 2 dL_law_909 rfl rfl rfl ?_
    refine xl_ld (q := 916) C hX 1 hi (by omega) hLn rfl dL_law_910 dL_law_911 dL_law_913 dL_law_914 dL_law_915 rfl rfl rfl ?_
    refine x_callVi (q := 919) C (c3_burning (l := l) (D := D) (y := y) (aM := aM) h2) yi_X3_burning gL_law_X3_burning rfl (oX3 y aM M) rfl ⟨Nat.le_of_ble_eq_true rfl, Nat.le_of_ble_eq_true rfl⟩ dL_law_916 (pl_m _ _ _) rfl rfl (Nat.le_of_ble_eq_true rfl) ⟨by omega, by omega⟩ rfl ?_
    intro rr uu hrr
    have hrr : rr = r := hrr
    subst hrr
    refine x_perm (ws' := xLw y aH aG aN aF aT aM aO G1 N1 F1 T1 M1 O1) (pl_m _ _ _).symm ?_
    refine x_istore (q := 921) C [1, 2, 3, 4, 5, 6, 0] (xL6 b aH aM aO i k0 rr) dL_law_919 (by decide) rfl rfl ?_
    refine xl_cmp 921 C (by omega) (by omega) h3 h4 (by decide) dL_law_921 dL_law_922 dL_law_925 dL_law_927 dL_law_932 dL_law_934 dL_law_937 dL_law_938 dL_law_939 dL_law_940 dL_law_942 dL_law_943 dL_law_944 dL_law_949 ?_
    exact x_widen (by omega) (by omega) (kk G1 N1 F1 T1 M1 O1 R1)
  rcases z_burning R G F (xs (i0 + 1)) with ⟨er, M', h1, h2, h3, R1⟩ | ⟨r, M', h1, h2, h3, R1⟩
  · obtain ⟨rfl, h3⟩ := h3
    refine x_callW (q := 907) C hT (wLt_burning_3 (l := l) (D := D) (y := y) (aH := aH) (aG := aG) (aN := aN) (aF := aF) (aT := aT) (aO := aO) (O := O) hT.1 h1) yw_burning gL_law_L_burning ⟨Nat.le_of_ble_eq_true rfl, Nat.le_of_ble_eq_true rfl⟩ dL_law_904 (pl_w _ _ _) rfl rfl (Nat.le_of_ble_eq_true rfl) ⟨by omega, by omega⟩ rfl ?_
    refine x_perm (ws' := xLw y aH aG aN aF aT aM aO G N F T M O) (pl_w _ _ _).symm ?_
    exact tail 1 0 G N F T M' O h2 h3 (fun h => absurd h (by decide)) R1
  · skip
    refine x_callW (q := 907) C hT (wLr_burning (l := l) (D := D) (y := y) (aH := aH) (aG := aG) (aN := aN) (aF := aF) (aT := aT) (aO := aO) (O := O) hT.1 h1) yw_burning gL_law_L_burning ⟨Nat.le_of_ble_eq_true rfl, Nat.le_of_ble_eq_true rfl⟩ dL_law_904 (pl_w _ _ _) rfl rfl (Nat.le_of_ble_eq_true rfl) ⟨by omega, by omega⟩ rfl ?_
    refine x_perm (ws' := xLw y aH aG aN aF aT aM aO G N F T M (vp_updL O (0 : Int32).toNatClampNeg r.toInt64)) (pl_w _ _ _).symm ?_
    exact tail 0 r G N F T M' (vp_updL O (0 : Int32).toNatClampNeg r.toInt64) h2 h3 (fun _ => if_pos rfl) R1
