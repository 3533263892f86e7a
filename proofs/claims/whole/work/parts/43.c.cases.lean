/-! THE LAW'S CASES: both sides answer alike, and stay alike -/
set_option maxHeartbeats 4000000 in
set_option maxRecDepth 100000 in
theorem lc_count {p : Program} {l : Launch} {e : Env} {s : State} {m : MethodId} {below : List Frame} {meth : Method} {c : Code} {Q : State → Prop} {D : va_G} {A : Nat → Prop} {b Ln : Nat} {xs : Nat → Int32} {y : Nat → ClassId} {aH : Nat} {aG aN aF aT aM aO : Nat → Nat} {G N F T M : St} {O : Nat → Int64} {k n : Nat} {i : Int32} (C : xCL p s m b meth c D A y) (hT : xT2 l s A) (hJ : xJ2 s) (hX : xS b Ln xs s A) (hLn : Ln ≤ 2048) {i0 : Nat} (hi : i = nI i0) (hlt : i0 + 3 < Ln) (hk : k + 200 ≤ room_1.cells) (hn : n + 2000 ≤ room_1.slots) (R : ZR T N M) (kk : ∀ (G N F T M : St) (O : Nat → Int64), ZR T N M → xV p l e room_1 s m #[Value.ref b] below meth c D A Q 9 (xLw y aH aG aN aF aT aM aO G N F T M O) (k + 100) (n + 1000) (xLL b aH aM aO i) 1356 []) : xV p l e room_1 s m #[Value.ref b] below meth c D A Q 9 (xLw y aH aG aN aF aT aM aO G N F T M O) k n (xLL b aH aM aO i) 952 [] := by
  refine x_aload_n (q := 953) C 1 dL_law_952 rfl rfl rfl ?_
  refine xl_ld (q := 959) C hX 1 hi (by omega) hLn rfl dL_law_953 dL_law_954 dL_law_956 dL_law_957 dL_law_958 rfl rfl rfl ?_
  refine x_aload_n (q := 960) C 3 dL_law_959 rfl rfl rfl ?_
  have tail : ∀ (k0 r : Int32) (G1 N1 F1 T1 M1 : St) (O1 : Nat → Int64), f3_count M (xs (i0 + 1)) = some (r, M1) → M1 0 0 = k0 → (k0 = 0 → O1 (0 : Int32).toNatClampNeg = r.toInt64) → ZR T1 N1 M1 → xV p l e room_1 s m #[Value.ref b] below meth c D A Q 9 (xLw y aH aG aN aF aT aM aO G1 N1 F1 T1 M O1) (k + 1) (n + 6) (xLL b aH aM aO i) 963 [.int k0] := by
    intro k0 r G1 N1 F1 T1 M1 O1 h2 h3 h4 R1
    refine x_istore (q := 965) C [1, 2, 3, 4, 5, 0] (xL5 b aH aM aO i k0) dL_law_963 (by decide) rfl rfl ?_
    refine x_aload_n (q := 966) C 2 dL_law_965 rfl rfl rfl ?_
    refine xl_ld (q := 972) C hX 1 hi (by omega) hLn rfl dL_law_966 dL_law_967 dL_law_969 dL_law_970 dL_law_971 rfl rfl rfl ?_
    refine x_callVi (q := 975) C (c3_count (l := l) (D := D) (y := y) (aM := aM) h2) yi_X3_count gL_law_X3_count rfl (oX3 y aM M) rfl ⟨Nat.le_of_ble_eq_true rfl, Nat.le_of_ble_eq_true rfl⟩ dL_law_972 (pl_m _ _ _) rfl rfl (Nat.le_of_ble_eq_true rfl) ⟨by omega, by omega⟩ rfl ?_
    intro rr uu hrr
    have hrr : rr = r := hrr
    subst hrr
    refine x_perm (ws' := xLw y aH aG aN aF aT aM aO G1 N1 F1 T1 M1 O1) (pl_m _ _ _).symm ?_
    refine x_istore (q := 977) C [1, 2, 3, 4, 5, 6, 0] (xL6 b aH aM aO i k0 rr) dL_law_975 (by decide) rfl rfl ?_
    refine xl_cmp 977 C (by omega) (by omega) h3 h4 (by decide) dL_law_977 dL_law_978 dL_law_981 dL_law_983 dL_law_988 dL_law_990 dL_law_993 dL_law_994 dL_law_995 dL_law_996 dL_law_998 dL_law_999 dL_law_1000 dL_law_1005 ?_
    exact x_widen (by omega) (by omega) (kk G1 N1 F1 T1 M1 O1 R1)
  rcases z_count R G F (xs (i0 + 1)) with ⟨er, M', h1, h2, h3, R1⟩ | ⟨r, M', h1, h2, h3, R1⟩
  · obtain ⟨rfl, h3⟩ := h3
    refine x_callW (q := 963) C hT (wLt_count_3 (l := l) (D := D) (y := y) (aH := aH) (aG := aG) (aN := aN) (aF := aF) (aT := aT) (aO := aO) (O := O) hT.1 h1) yw_count gL_law_L_count ⟨Nat.le_of_ble_eq_true rfl, Nat.le_of_ble_eq_true rfl⟩ dL_law_960 (pl_w _ _ _) rfl rfl (Nat.le_of_ble_eq_true rfl) ⟨by omega, by omega⟩ rfl ?_
    refine x_perm (ws' := xLw y aH aG aN aF aT aM aO G N F T M O) (pl_w _ _ _).symm ?_
    exact tail 1 0 G N F T M' O h2 h3 (fun h => absurd h (by decide)) R1
  · skip
    refine x_callW (q := 963) C hT (wLr_count (l := l) (D := D) (y := y) (aH := aH) (aG := aG) (aN := aN) (aF := aF) (aT := aT) (aO := aO) (O := O) hT.1 h1) yw_count gL_law_L_count ⟨Nat.le_of_ble_eq_true rfl, Nat.le_of_ble_eq_true rfl⟩ dL_law_960 (pl_w _ _ _) rfl rfl (Nat.le_of_ble_eq_true rfl) ⟨by omega, by omega⟩ rfl ?_
    refine x_perm (ws' := xLw y aH aG aN aF aT aM aO G N F T M (vp_updL O (0 : Int32).toNatClampNeg r.toInt64)) (pl_w _ _ _).symm ?_
    exact tail 0 r G N F T M' (vp_updL O (0 : Int32).toNatClampNeg r.toInt64) h2 h3 (fun _ => if_pos rfl) R1
set_option maxHeartbeats 4000000 in
set_option maxRecDepth 100000 in
theorem lc_pass {p : Program} {l : Launch} {e : Env} {s : State} {m : MethodId} {below : List Frame} {meth : Method} {c : Code} {Q : State → Prop} {D : va_G} {A : Nat → Prop} {b Ln : Nat} {xs : Nat → Int32} {y : Nat → ClassId} {aH : Nat} {aG aN aF aT aM aO : Nat → Nat} {G N F T M : St} {O : Nat → Int64} {k n : Nat} {i : Int32} (C : xCL p s m b meth c D A y) (hT : xT2 l s A) (hJ : xJ2 s) (hX : xS b Ln xs s A) (hLn : Ln ≤ 2048) {i0 : Nat} (hi : i = nI i0) (hlt : i0 + 3 < Ln) (hk : k + 200 ≤ room_1.cells) (hn : n + 2000 ≤ room_1.slots) (R : ZR T N M) (kk : ∀ (G N F T M : St) (O : Nat → Int64), ZR T N M → xV p l e room_1 s m #[Value.ref b] below meth c D A Q 9 (xLw y aH aG aN aF aT aM aO G N F T M O) (k + 100) (n + 1000) (xLL b aH aM aO i) 1356 []) : xV p l e room_1 s m #[Value.ref b] below meth c D A Q 9 (xLw y aH aG aN aF aT aM aO G N F T M O) k n (xLL b aH aM aO i) 1008 [] := by
  refine x_aload_n (q := 1009) C 1 dL_law_1008 rfl rfl rfl ?_
  refine xl_ld (q := 1015) C hX 1 hi (by omega) hLn rfl dL_law_1009 dL_law_1010 dL_law_1012 dL_law_1013 dL_law_1014 rfl rfl rfl ?_
  refine x_aload_n (q := 1016) C 3 dL_law_1015 rfl rfl rfl ?_
  have tail : ∀ (k0 r : Int32) (G1 N1 F1 T1 M1 : St) (O1 : Nat → Int64), f3_pass M (xs (i0 + 1)) = some (r, M1) → M1 0 0 = k0 → (k0 = 0 → O1 (0 : Int32).toNatClampNeg = r.toInt64) → ZR T1 N1 M1 → xV p l e room_1 s m #[Value.ref b] below meth c D A Q 9 (xLw y aH aG aN aF aT aM aO G1 N1 F1 T1 M O1) (k + 1) (n + 6) (xLL b aH aM aO i) 1019 [.int k0] := by
    intro k0 r G1 N1 F1 T1 M1 O1 h2 h3 h4 R1
    refine x_istore (q := 1021) C [1, 2, 3, 4, 5, 0] (xL5 b aH aM aO i k0) dL_law_1019 (by decide) rfl rfl ?_
    refine x_aload_n (q := 1022) C 2 dL_law_1021 rfl rfl rfl ?_
    refine xl_ld (q := 1028) C hX 1 hi (by omega) hLn rfl dL_law_1022 dL_law_1023 dL_law_1025 dL_law_1026 dL_law_1027 rfl rfl rfl ?_
    refine x_callVi (q := 1031) C (c3_pass (l := l) (D := D) (y := y) (aM := aM) h2) yi_X3_pass gL_law_X3_pass rfl (oX3 y aM M) rfl ⟨Nat.le_of_ble_eq_true rfl, Nat.le_of_ble_eq_true rfl⟩ dL_law_1028 (pl_m _ _ _) rfl rfl (Nat.le_of_ble_eq_true rfl) ⟨by omega, by omega⟩ rfl ?_
    intro rr uu hrr
    have hrr : rr = r := hrr
    subst hrr
    refine x_perm (ws' := xLw y aH aG aN aF aT aM aO G1 N1 F1 T1 M1 O1) (pl_m _ _ _).symm ?_
    refine x_istore (q := 1033) C [1, 2, 3, 4, 5, 6, 0] (xL6 b aH aM aO i k0 rr) dL_law_1031 (by decide) rfl rfl ?_
    refine xl_cmp 1033 C (by omega) (by omega) h3 h4 (by decide) dL_law_1033 dL_law_1034 dL_law_1037 dL_law_1039 dL_law_1044 dL_law_1046 dL_law_1049 dL_law_1050 dL_law_1051 dL_law_1052 dL_law_1054 dL_law_1055 dL_law_1056 dL_law_1061 ?_
    exact x_widen (by omega) (by omega) (kk G1 N1 F1 T1 M1 O1 R1)
  rcases z_pass R G F (xs (i0 + 1)) with ⟨er, M', h1, h2, h3, R1⟩ | ⟨r, N', M', h1, h2, h3, R1⟩
  · obtain ⟨rfl, h3⟩ := h3
    refine x_callW (q := 1019) C hT (wLt_pass_1 (l := l) (D := D) (y := y) (aH := aH) (aG := aG) (aN := aN) (aF := aF) (aT := aT) (aO := aO) (O := O) hT.1 h1) yw_pass gL_law_L_pass ⟨Nat.le_of_ble_eq_true rfl, Nat.le_of_ble_eq_true rfl⟩ dL_law_1016 (pl_w _ _ _) rfl rfl (Nat.le_of_ble_eq_true rfl) ⟨by omega, by omega⟩ rfl ?_
    refine x_perm (ws' := xLw y aH aG aN aF aT aM aO G N F T M O) (pl_w _ _ _).symm ?_
    exact tail 1 0 G N F T M' O h2 h3 (fun h => absurd h (by decide)) R1
  · skip
    refine x_callW (q := 1019) C hT (wLr_pass (l := l) (D := D) (y := y) (aH := aH) (aG := aG) (aN := aN) (aF := aF) (aT := aT) (aO := aO) (O := O) hT.1 h1) yw_pass gL_law_L_pass ⟨Nat.le_of_ble_eq_true rfl, Nat.le_of_ble_eq_true rfl⟩ dL_law_1016 (pl_w _ _ _) rfl rfl (Nat.le_of_ble_eq_true rfl) ⟨by omega, by omega⟩ rfl ?_
    refine x_perm (ws' := xLw y aH aG aN aF aT aM aO G N' F T M (vp_updL O (0 : Int32).toNatClampNeg r.toInt64)) (pl_w _ _ _).symm ?_
    exact tail 0 r G N' F T M' (vp_updL O (0 : Int32).toNatClampNeg r.toInt64) h2 h3 (fun _ => if_pos rfl) R1
set_option maxHeartbeats 4000000 in
set_option maxRecDepth 100000 in
theorem lc_dawn {p : Program} {l : Launch} {e : Env} {s : State} {m : MethodId} {below : List Frame} {meth : Method} {c : Code} {Q : State → Prop} {D : va_G} {A : Nat → Prop} {b Ln : Nat} {xs : Nat → Int32} {y : Nat → ClassId} {aH : Nat} {aG aN aF aT aM aO : Nat → Nat} {G N F T M : St} {O : Nat → Int64} {k n : Nat} {i : Int32} (C : xCL p s m b meth c D A y) (hT : xT2 l s A) (hJ : xJ2 s) (hX : xS b Ln xs s A) (hLn : Ln ≤ 2048) {i0 : Nat} (hi : i = nI i0) (hlt : i0 + 3 < Ln) (hk : k + 200 ≤ room_1.cells) (hn : n + 2000 ≤ room_1.slots) (R : ZR T N M) (kk : ∀ (G N F T M : St) (O : Nat → Int64), ZR T N M → xV p l e room_1 s m #[Value.ref b] below meth c D A Q 9 (xLw y aH aG aN aF aT aM aO G N F T M O) (k + 100) (n + 1000) (xLL b aH aM aO i) 1356 []) : xV p l e room_1 s m #[Value.ref b] below meth c D A Q 9 (xLw y aH aG aN aF aT aM aO G N F T M O) k n (xLL b aH aM aO i) 1064 [] := by
  refine x_aload_n (q := 1065) C 1 dL_law_1064 rfl rfl rfl ?_
  refine x_aload_n (q := 1066) C 3 dL_law_1065 rfl rfl rfl ?_
  have tail : ∀ (k0 r : Int32) (G1 N1 F1 T1 M1 : St) (O1 : Nat → Int64), f3_dawn M = some (r, M1) → M1 0 0 = k0 → (k0 = 0 → O1 (0 : Int32).toNatClampNeg = r.toInt64) → ZR T1 N1 M1 → xV p l e room_1 s m #[Value.ref b] below meth c D A Q 9 (xLw y aH aG aN aF aT aM aO G1 N1 F1 T1 M O1) (k + 1) (n + 6) (xLL b aH aM aO i) 1069 [.int k0] := by
    intro k0 r G1 N1 F1 T1 M1 O1 h2 h3 h4 R1
    refine x_istore (q := 1071) C [1, 2, 3, 4, 5, 0] (xL5 b aH aM aO i k0) dL_law_1069 (by decide) rfl rfl ?_
    refine x_aload_n (q := 1072) C 2 dL_law_1071 rfl rfl rfl ?_
    refine x_callVi (q := 1075) C (c3_dawn (l := l) (D := D) (y := y) (aM := aM) h2) yi_X3_dawn gL_law_X3_dawn rfl (oX3 y aM M) rfl ⟨Nat.le_of_ble_eq_true rfl, Nat.le_of_ble_eq_true rfl⟩ dL_law_1072 (pl_m _ _ _) rfl rfl (Nat.le_of_ble_eq_true rfl) ⟨by omega, by omega⟩ rfl ?_
    intro rr uu hrr
    have hrr : rr = r := hrr
    subst hrr
    refine x_perm (ws' := xLw y aH aG aN aF aT aM aO G1 N1 F1 T1 M1 O1) (pl_m _ _ _).symm ?_
    refine x_istore (q := 1077) C [1, 2, 3, 4, 5, 6, 0] (xL6 b aH aM aO i k0 rr) dL_law_1075 (by decide) rfl rfl ?_
    refine xl_cmp 1077 C (by omega) (by omega) h3 h4 (by decide) dL_law_1077 dL_law_1078 dL_law_1081 dL_law_1083 dL_law_1088 dL_law_1090 dL_law_1093 dL_law_1094 dL_law_1095 dL_law_1096 dL_law_1098 dL_law_1099 dL_law_1100 dL_law_1105 ?_
    exact x_widen (by omega) (by omega) (kk G1 N1 F1 T1 M1 O1 R1)
  rcases z_dawn R G F with ⟨er, M', h1, h2, h3, R1⟩ | ⟨r, N', M', h1, h2, h3, R1⟩
  · obtain ⟨rfl, h3⟩ := h3
    refine x_callW (q := 1069) C hT (wLt_dawn_2 (l := l) (D := D) (y := y) (aH := aH) (aG := aG) (aN := aN) (aF := aF) (aT := aT) (aO := aO) (O := O) hT.1 h1) yw_dawn gL_law_L_dawn ⟨Nat.le_of_ble_eq_true rfl, Nat.le_of_ble_eq_true rfl⟩ dL_law_1066 (pl_w _ _ _) rfl rfl (Nat.le_of_ble_eq_true rfl) ⟨by omega, by omega⟩ rfl ?_
    refine x_perm (ws' := xLw y aH aG aN aF aT aM aO G N F T M O) (pl_w _ _ _).symm ?_
    exact tail 1 0 G N F T M' O h2 h3 (fun h => absurd h (by decide)) R1
  · skip
    refine x_callW (q := 1069) C hT (wLr_dawn (l := l) (D := D) (y := y) (aH := aH) (aG := aG) (aN := aN) (aF := aF) (aT := aT) (aO := aO) (O := O) hT.1 h1) yw_dawn gL_law_L_dawn ⟨Nat.le_of_ble_eq_true rfl, Nat.le_of_ble_eq_true rfl⟩ dL_law_1066 (pl_w _ _ _) rfl rfl (Nat.le_of_ble_eq_true rfl) ⟨by omega, by omega⟩ rfl ?_
    refine x_perm (ws' := xLw y aH aG aN aF aT aM aO G N' F T M (vp_updL O (0 : Int32).toNatClampNeg r.toInt64)) (pl_w _ _ _).symm ?_
    exact tail 0 r G N' F T M' (vp_updL O (0 : Int32).toNatClampNeg r.toInt64) h2 h3 (fun _ => if_pos rfl) R1
set_option maxHeartbeats 4000000 in
set_option maxRecDepth 100000 in
theorem lc_comes {p : Program} {l : Launch} {e : Env} {s : State} {m : MethodId} {below : List Frame} {meth : Method} {c : Code} {Q : State → Prop} {D : va_G} {A : Nat → Prop} {b Ln : Nat} {xs : Nat → Int32} {y : Nat → ClassId} {aH : Nat} {aG aN aF aT aM aO : Nat → Nat} {G N F T M : St} {O : Nat → Int64} {k n : Nat} {i : Int32} (C : xCL p s m b meth c D A y) (hT : xT2 l s A) (hJ : xJ2 s) (hX : xS b Ln xs s A) (hLn : Ln ≤ 2048) {i0 : Nat} (hi : i = nI i0) (hlt : i0 + 3 < Ln) (hk : k + 200 ≤ room_1.cells) (hn : n + 2000 ≤ room_1.slots) (R : ZR T N M) (kk : ∀ (G N F T M : St) (O : Nat → Int64), ZR T N M → xV p l e room_1 s m #[Value.ref b] below meth c D A Q 9 (xLw y aH aG aN aF aT aM aO G N F T M O) (k + 100) (n + 1000) (xLL b aH aM aO i) 1356 []) : xV p l e room_1 s m #[Value.ref b] below meth c D A Q 9 (xLw y aH aG aN aF aT aM aO G N F T M O) k n (xLL b aH aM aO i) 1108 [] := by
  refine x_aload_n (q := 1109) C 1 dL_law_1108 rfl rfl rfl ?_
  refine xl_ld (q := 1115) C hX 1 hi (by omega) hLn rfl dL_law_1109 dL_law_1110 dL_law_1112 dL_law_1113 dL_law_1114 rfl rfl rfl ?_
  refine x_aload_n (q := 1116) C 3 dL_law_1115 rfl rfl rfl ?_
  have tail : ∀ (k0 r : Int32) (G1 N1 F1 T1 M1 : St) (O1 : Nat → Int64), f3_comes M (xs (i0 + 1)) = some (r, M1) → M1 0 0 = k0 → (k0 = 0 → O1 (0 : Int32).toNatClampNeg = r.toInt64) → ZR T1 N1 M1 → xV p l e room_1 s m #[Value.ref b] below meth c D A Q 9 (xLw y aH aG aN aF aT aM aO G1 N1 F1 T1 M O1) (k + 1) (n + 6) (xLL b aH aM aO i) 1119 [.int k0] := by
    intro k0 r G1 N1 F1 T1 M1 O1 h2 h3 h4 R1
    refine x_istore (q := 1121) C [1, 2, 3, 4, 5, 0] (xL5 b aH aM aO i k0) dL_law_1119 (by decide) rfl rfl ?_
    refine x_aload_n (q := 1122) C 2 dL_law_1121 rfl rfl rfl ?_
    refine xl_ld (q := 1128) C hX 1 hi (by omega) hLn rfl dL_law_1122 dL_law_1123 dL_law_1125 dL_law_1126 dL_law_1127 rfl rfl rfl ?_
    refine x_callJVi (q := 1131) C hJ (c3_comes (l := l) (D := D) (y := y) (aM := aM) h2) yi_X3_comes gL_law_X3_comes rfl (oX3 y aM M) rfl ⟨Nat.le_of_ble_eq_true rfl, Nat.le_of_ble_eq_true rfl⟩ dL_law_1128 (pl_m _ _ _) rfl rfl (Nat.le_of_ble_eq_true rfl) ⟨by omega, by omega⟩ rfl ?_
    intro rr uu hrr
    have hrr : rr = r := hrr
    subst hrr
    refine x_perm (ws' := xLw y aH aG aN aF aT aM aO G1 N1 F1 T1 M1 O1) (pl_m _ _ _).symm ?_
    refine x_istore (q := 1133) C [1, 2, 3, 4, 5, 6, 0] (xL6 b aH aM aO i k0 rr) dL_law_1131 (by decide) rfl rfl ?_
    refine xl_cmp 1133 C (by omega) (by omega) h3 h4 (by decide) dL_law_1133 dL_law_1134 dL_law_1137 dL_law_1139 dL_law_1144 dL_law_1146 dL_law_1149 dL_law_1150 dL_law_1151 dL_law_1152 dL_law_1154 dL_law_1155 dL_law_1156 dL_law_1161 ?_
    exact x_widen (by omega) (by omega) (kk G1 N1 F1 T1 M1 O1 R1)
  rcases z_comes R G F (xs (i0 + 1)) with ⟨er, M', h1, h2, h3, R1⟩ | ⟨r, F', M', h1, h2, h3, R1⟩
  · obtain ⟨rfl, h3⟩ := h3
    refine x_callW (q := 1119) C hT (wLt_comes_3 (l := l) (D := D) (y := y) (aH := aH) (aG := aG) (aN := aN) (aF := aF) (aT := aT) (aO := aO) (O := O) hT.1 h1) yw_comes gL_law_L_comes ⟨Nat.le_of_ble_eq_true rfl, Nat.le_of_ble_eq_true rfl⟩ dL_law_1116 (pl_w _ _ _) rfl rfl (Nat.le_of_ble_eq_true rfl) ⟨by omega, by omega⟩ rfl ?_
    refine x_perm (ws' := xLw y aH aG aN aF aT aM aO G N F T M O) (pl_w _ _ _).symm ?_
    exact tail 1 0 G N F T M' O h2 h3 (fun h => absurd h (by decide)) R1
  · skip
    refine x_callW (q := 1119) C hT (wLr_comes (l := l) (D := D) (y := y) (aH := aH) (aG := aG) (aN := aN) (aF := aF) (aT := aT) (aO := aO) (O := O) hT.1 h1) yw_comes gL_law_L_comes ⟨Nat.le_of_ble_eq_true rfl, Nat.le_of_ble_eq_true rfl⟩ dL_law_1116 (pl_w _ _ _) rfl rfl (Nat.le_of_ble_eq_true rfl) ⟨by omega, by omega⟩ rfl ?_
    refine x_perm (ws' := xLw y aH aG aN aF aT aM aO G N F' T M (vp_updL O (0 : Int32).toNatClampNeg r.toInt64)) (pl_w _ _ _).symm ?_
    exact tail 0 r G N F' T M' (vp_updL O (0 : Int32).toNatClampNeg r.toInt64) h2 h3 (fun _ => if_pos rfl) R1
set_option maxHeartbeats 4000000 in
set_option maxRecDepth 100000 in
theorem lc_needs {p : Program} {l : Launch} {e : Env} {s : State} {m : MethodId} {below : List Frame} {meth : Method} {c : Code} {Q : State → Prop} {D : va_G} {A : Nat → Prop} {b Ln : Nat} {xs : Nat → Int32} {y : Nat → ClassId} {aH : Nat} {aG aN aF aT aM aO : Nat → Nat} {G N F T M : St} {O : Nat → Int64} {k n : Nat} {i : Int32} (C : xCL p s m b meth c D A y) (hT : xT2 l s A) (hJ : xJ2 s) (hX : xS b Ln xs s A) (hLn : Ln ≤ 2048) {i0 : Nat} (hi : i = nI i0) (hlt : i0 + 3 < Ln) (hk : k + 200 ≤ room_1.cells) (hn : n + 2000 ≤ room_1.slots) (R : ZR T N M) (kk : ∀ (G N F T M : St) (O : Nat → Int64), ZR T N M → xV p l e room_1 s m #[Value.ref b] below meth c D A Q 9 (xLw y aH aG aN aF aT aM aO G N F T M O) (k + 100) (n + 1000) (xLL b aH aM aO i) 1356 []) : xV p l e room_1 s m #[Value.ref b] below meth c D A Q 9 (xLw y aH aG aN aF aT aM aO G N F T M O) k n (xLL b aH aM aO i) 1177 [] := by
  refine x_aload_n (q := 1178) C 1 dL_law_1177 rfl rfl rfl ?_
  refine xl_ld (q := 1184) C hX 1 hi (by omega) hLn rfl dL_law_1178 dL_law_1179 dL_law_1181 dL_law_1182 dL_law_1183 rfl rfl rfl ?_
  refine x_aload_n (q := 1185) C 3 dL_law_1184 rfl rfl rfl ?_
  have tail : ∀ (k0 r : Int32) (G1 N1 F1 T1 M1 : St) (O1 : Nat → Int64), f3_needs M (xs (i0 + 1)) = some (r, M1) → M1 0 0 = k0 → (k0 = 0 → O1 (0 : Int32).toNatClampNeg = r.toInt64) → ZR T1 N1 M1 → xV p l e room_1 s m #[Value.ref b] below meth c D A Q 9 (xLw y aH aG aN aF aT aM aO G1 N1 F1 T1 M O1) (k + 1) (n + 6) (xLL b aH aM aO i) 1188 [.int k0] := by
    intro k0 r G1 N1 F1 T1 M1 O1 h2 h3 h4 R1
    refine x_istore (q := 1190) C [1, 2, 3, 4, 5, 0] (xL5 b aH aM aO i k0) dL_law_1188 (by decide) rfl rfl ?_
    refine x_aload_n (q := 1191) C 2 dL_law_1190 rfl rfl rfl ?_
    refine xl_ld (q := 1197) C hX 1 hi (by omega) hLn rfl dL_law_1191 dL_law_1192 dL_law_1194 dL_law_1195 dL_law_1196 rfl rfl rfl ?_
    refine x_callVi (q := 1200) C (c3_needs (l := l) (D := D) (y := y) (aM := aM) h2) yi_X3_needs gL_law_X3_needs rfl (oX3 y aM M) rfl ⟨Nat.le_of_ble_eq_true rfl, Nat.le_of_ble_eq_true rfl⟩ dL_law_1197 (pl_m _ _ _) rfl rfl (Nat.le_of_ble_eq_true rfl) ⟨by omega, by omega⟩ rfl ?_
    intro rr uu hrr
    have hrr : rr = r := hrr
    subst hrr
    refine x_perm (ws' := xLw y aH aG aN aF aT aM aO G1 N1 F1 T1 M1 O1) (pl_m _ _ _).symm ?_
    refine x_istore (q := 1202) C [1, 2, 3, 4, 5, 6, 0] (xL6 b aH aM aO i k0 rr) dL_law_1200 (by decide) rfl rfl ?_
    refine xl_cmp 1202 C (by omega) (by omega) h3 h4 (by decide) dL_law_1202 dL_law_1203 dL_law_1206 dL_law_1208 dL_law_1213 dL_law_1215 dL_law_1218 dL_law_1219 dL_law_1220 dL_law_1221 dL_law_1223 dL_law_1224 dL_law_1225 dL_law_1230 ?_
    exact x_widen (by omega) (by omega) (kk G1 N1 F1 T1 M1 O1 R1)
  rcases z_needs R G F (xs (i0 + 1)) with ⟨er, M', h1, h2, h3, R1⟩ | ⟨r, M', h1, h2, h3, R1⟩
  · obtain ⟨rfl, h3⟩ := h3
    refine x_callW (q := 1188) C hT (wLt_needs_3 (l := l) (D := D) (y := y) (aH := aH) (aG := aG) (aN := aN) (aF := aF) (aT := aT) (aO := aO) (O := O) hT.1 h1) yw_needs gL_law_L_needs ⟨Nat.le_of_ble_eq_true rfl, Nat.le_of_ble_eq_true rfl⟩ dL_law_1185 (pl_w _ _ _) rfl rfl (Nat.le_of_ble_eq_true rfl) ⟨by omega, by omega⟩ rfl ?_
    refine x_perm (ws' := xLw y aH aG aN aF aT aM aO G N F T M O) (pl_w _ _ _).symm ?_
    exact tail 1 0 G N F T M' O h2 h3 (fun h => absurd h (by decide)) R1
  · skip
    refine x_callW (q := 1188) C hT (wLr_needs (l := l) (D := D) (y := y) (aH := aH) (aG := aG) (aN := aN) (aF := aF) (aT := aT) (aO := aO) (O := O) hT.1 h1) yw_needs gL_law_L_needs ⟨Nat.le_of_ble_eq_true rfl, Nat.le_of_ble_eq_true rfl⟩ dL_law_1185 (pl_w _ _ _) rfl rfl (Nat.le_of_ble_eq_true rfl) ⟨by omega, by omega⟩ rfl ?_
    refine x_perm (ws' := xLw y aH aG aN aF aT aM aO G N F T M (vp_updL O (0 : Int32).toNatClampNeg r.toInt64)) (pl_w _ _ _).symm ?_
    exact tail 0 r G N F T M' (vp_updL O (0 : Int32).toNatClampNeg r.toInt64) h2 h3 (fun _ => if_pos rfl) R1
set_option maxHeartbeats 4000000 in
set_option maxRecDepth 100000 in
theorem lc_foresee {p : Program} {l : Launch} {e : Env} {s : State} {m : MethodId} {below : List Frame} {meth : Method} {c : Code} {Q : State → Prop} {D : va_G} {A : Nat → Prop} {b Ln : Nat} {xs : Nat → Int32} {y : Nat → ClassId} {aH : Nat} {aG aN aF aT aM aO : Nat → Nat} {G N F T M : St} {O : Nat → Int64} {k n : Nat} {i : Int32} (C : xCL p s m b meth c D A y) (hT : xT2 l s A) (hJ : xJ2 s) (hX : xS b Ln xs s A) (hLn : Ln ≤ 2048) {i0 : Nat} (hi : i = nI i0) (hlt : i0 + 3 < Ln) (hk : k + 200 ≤ room_1.cells) (hn : n + 2000 ≤ room_1.slots) (R : ZR T N M) (kk : ∀ (G N F T M : St) (O : Nat → Int64), ZR T N M → xV p l e room_1 s m #[Value.ref b] below meth c D A Q 9 (xLw y aH aG aN aF aT aM aO G N F T M O) (k + 100) (n + 1000) (xLL b aH aM aO i) 1356 []) : xV p l e room_1 s m #[Value.ref b] below meth c D A Q 9 (xLw y aH aG aN aF aT aM aO G N F T M O) k n (xLL b aH aM aO i) 1233 [] := by
  refine x_aload_n (q := 1234) C 1 dL_law_1233 rfl rfl rfl ?_
  refine xl_ld (q := 1240) C hX 1 hi (by omega) hLn rfl dL_law_1234 dL_law_1235 dL_law_1237 dL_law_1238 dL_law_1239 rfl rfl rfl ?_
  refine xl_ld (q := 1246) C hX 2 hi (by omega) hLn rfl dL_law_1240 dL_law_1241 dL_law_1243 dL_law_1244 dL_law_1245 rfl rfl rfl ?_
  refine x_aload_n (q := 1247) C 3 dL_law_1246 rfl rfl rfl ?_
  have tail : ∀ (k0 r : Int32) (G1 N1 F1 T1 M1 : St) (O1 : Nat → Int64), f3_foresee M (xs (i0 + 1)) (xs (i0 + 2)) = some (r, M1) → M1 0 0 = k0 → (k0 = 0 → O1 (0 : Int32).toNatClampNeg = r.toInt64) → ZR T1 N1 M1 → xV p l e room_1 s m #[Value.ref b] below meth c D A Q 9 (xLw y aH aG aN aF aT aM aO G1 N1 F1 T1 M O1) (k + 1) (n + 6) (xLL b aH aM aO i) 1250 [.int k0] := by
    intro k0 r G1 N1 F1 T1 M1 O1 h2 h3 h4 R1
    refine x_istore (q := 1252) C [1, 2, 3, 4, 5, 0] (xL5 b aH aM aO i k0) dL_law_1250 (by decide) rfl rfl ?_
    refine x_aload_n (q := 1253) C 2 dL_law_1252 rfl rfl rfl ?_
    refine xl_ld (q := 1259) C hX 1 hi (by omega) hLn rfl dL_law_1253 dL_law_1254 dL_law_1256 dL_law_1257 dL_law_1258 rfl rfl rfl ?_
    refine xl_ld (q := 1265) C hX 2 hi (by omega) hLn rfl dL_law_1259 dL_law_1260 dL_law_1262 dL_law_1263 dL_law_1264 rfl rfl rfl ?_
    refine x_callJVi (q := 1268) C hJ (c3_foresee (l := l) (D := D) (y := y) (aM := aM) h2) yi_X3_foresee gL_law_X3_foresee rfl (oX3 y aM M) rfl ⟨Nat.le_of_ble_eq_true rfl, Nat.le_of_ble_eq_true rfl⟩ dL_law_1265 (pl_m _ _ _) rfl rfl (Nat.le_of_ble_eq_true rfl) ⟨by omega, by omega⟩ rfl ?_
    intro rr uu hrr
    have hrr : rr = r := hrr
    subst hrr
    refine x_perm (ws' := xLw y aH aG aN aF aT aM aO G1 N1 F1 T1 M1 O1) (pl_m _ _ _).symm ?_
    refine x_istore (q := 1270) C [1, 2, 3, 4, 5, 6, 0] (xL6 b aH aM aO i k0 rr) dL_law_1268 (by decide) rfl rfl ?_
    refine xl_cmp 1270 C (by omega) (by omega) h3 h4 (by decide) dL_law_1270 dL_law_1271 dL_law_1274 dL_law_1276 dL_law_1281 dL_law_1283 dL_law_1286 dL_law_1287 dL_law_1288 dL_law_1289 dL_law_1291 dL_law_1292 dL_law_1293 dL_law_1298 ?_
    exact x_widen (by omega) (by omega) (kk G1 N1 F1 T1 M1 O1 R1)
  rcases z_foresee R G F (xs (i0 + 1)) (xs (i0 + 2)) with ⟨er, M', h1, h2, h3, R1⟩ | ⟨r, F', M', h1, h2, h3, R1⟩
  · rcases h3 with h3 | h3
    · obtain ⟨rfl, h3⟩ := h3
      refine x_callW (q := 1250) C hT (wLt_foresee_1 (l := l) (D := D) (y := y) (aH := aH) (aG := aG) (aN := aN) (aF := aF) (aT := aT) (aO := aO) (O := O) hT.1 h1) yw_foresee gL_law_L_foresee ⟨Nat.le_of_ble_eq_true rfl, Nat.le_of_ble_eq_true rfl⟩ dL_law_1247 (pl_w _ _ _) rfl rfl (Nat.le_of_ble_eq_true rfl) ⟨by omega, by omega⟩ rfl ?_
      refine x_perm (ws' := xLw y aH aG aN aF aT aM aO G N F T M O) (pl_w _ _ _).symm ?_
      exact tail 1 0 G N F T M' O h2 h3 (fun h => absurd h (by decide)) R1
    · obtain ⟨rfl, h3⟩ := h3
      refine x_callW (q := 1250) C hT (wLt_foresee_3 (l := l) (D := D) (y := y) (aH := aH) (aG := aG) (aN := aN) (aF := aF) (aT := aT) (aO := aO) (O := O) hT.1 h1) yw_foresee gL_law_L_foresee ⟨Nat.le_of_ble_eq_true rfl, Nat.le_of_ble_eq_true rfl⟩ dL_law_1247 (pl_w _ _ _) rfl rfl (Nat.le_of_ble_eq_true rfl) ⟨by omega, by omega⟩ rfl ?_
      refine x_perm (ws' := xLw y aH aG aN aF aT aM aO G N F T M O) (pl_w _ _ _).symm ?_
      exact tail 2 0 G N F T M' O h2 h3 (fun h => absurd h (by decide)) R1
  · skip
    refine x_callW (q := 1250) C hT (wLr_foresee (l := l) (D := D) (y := y) (aH := aH) (aG := aG) (aN := aN) (aF := aF) (aT := aT) (aO := aO) (O := O) hT.1 h1) yw_foresee gL_law_L_foresee ⟨Nat.le_of_ble_eq_true rfl, Nat.le_of_ble_eq_true rfl⟩ dL_law_1247 (pl_w _ _ _) rfl rfl (Nat.le_of_ble_eq_true rfl) ⟨by omega, by omega⟩ rfl ?_
    refine x_perm (ws' := xLw y aH aG aN aF aT aM aO G N F' T M (vp_updL O (0 : Int32).toNatClampNeg r.toInt64)) (pl_w _ _ _).symm ?_
    exact tail 0 r G N F' T M' (vp_updL O (0 : Int32).toNatClampNeg r.toInt64) h2 h3 (fun _ => if_pos rfl) R1
