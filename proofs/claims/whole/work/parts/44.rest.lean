/-! THE LAW'S CASES, the rest of them, and its loop -/
set_option maxHeartbeats 4000000 in
set_option maxRecDepth 100000 in
theorem lc_darkest {p : Program} {l : Launch} {e : Env} {s : State} {m : MethodId} {below : List Frame} {meth : Method} {c : Code} {Q : State → Prop} {D : va_G} {A : Nat → Prop} {b Ln : Nat} {xs : Nat → Int32} {y : Nat → ClassId} {aH : Nat} {aG aN aF aT aM aO : Nat → Nat} {G N F T M : St} {O : Nat → Int64} {k n : Nat} {i : Int32} (C : xCL p s m b meth c D A y) (hT : xT2 l s A) (hJ : xJ2 s) (hX : xS b Ln xs s A) (hLn : Ln ≤ 2048) {i0 : Nat} (hi : i = nI i0) (hlt : i0 + 3 < Ln) (hk : k + 200 ≤ room_1.cells) (hn : n + 2000 ≤ room_1.slots) (R : ZR T N M) (kk : ∀ (G N F T M : St) (O : Nat → Int64), ZR T N M → xV p l e room_1 s m #[Value.ref b] below meth c D A Q 9 (xLw y aH aG aN aF aT aM aO G N F T M O) (k + 100) (n + 1000) (xLL b aH aM aO i) 1356 []) : xV p l e room_1 s m #[Value.ref b] below meth c D A Q 9 (xLw y aH aG aN aF aT aM aO G N F T M O) k n (xLL b aH aM aO i) 1164 [] := by
  obtain ⟨r, G', F', M', h1, h2, R1⟩ := z_darkest R G F
  refine x_aload_n (q := 1165) C 1 dL_law_1164 rfl rfl rfl ?_
  refine x_callVi (q := 1168) (Wr := mC y aM M ++ oC y aO O) C (c2_darkest (l := l) (D := D) (y := y) (aH := aH) (aG := aG) (aN := aN) (aF := aF) (aT := aT) h1) yi_X2_darkest gL_law_X2_darkest rfl (oX2 aH aN aF aT aG).L rfl ⟨Nat.le_of_ble_eq_true rfl, Nat.le_of_ble_eq_true rfl⟩ dL_law_1165 (List.Perm.refl _) rfl rfl (Nat.le_of_ble_eq_true rfl) ⟨by omega, by omega⟩ rfl ?_
  intro rr uu hrr
  have hrr : rr = r := hrr
  subst hrr
  refine x_world (ws' := xLw y aH aG aN aF aT aM aO G' N F' T M O) rfl ?_
  refine x_aload_n (q := 1169) C 2 dL_law_1168 rfl rfl rfl ?_
  refine x_callJVi (q := 1172) (As := []) (rest := [.int rr]) C hJ (c3_darkest (l := l) (D := D) (y := y) (aM := aM) h2) yi_X3_darkest gL_law_X3_darkest rfl (oX3 y aM M) rfl ⟨Nat.le_of_ble_eq_true rfl, Nat.le_of_ble_eq_true rfl⟩ dL_law_1169 (pl_m _ _ _) rfl rfl (Nat.le_of_ble_eq_true rfl) ⟨by omega, by omega⟩ rfl ?_
  intro r2 uu hrr
  have hrr : r2 = rr := hrr
  subst hrr
  refine x_perm (ws' := xLw y aH aG aN aF aT aM aO G' N F' T M' O) (pl_m _ _ _).symm ?_
  exact x_icmp_eq (t := 1356) (q := 1175) C dL_law_1172 (by decide) rfl (fun _ => x_widen (by omega) (by omega) (kk G' N F' T M' O R1)) (fun hc => absurd rfl hc)
set_option maxHeartbeats 4000000 in
set_option maxRecDepth 100000 in
theorem lc_digest {p : Program} {l : Launch} {e : Env} {s : State} {m : MethodId} {below : List Frame} {meth : Method} {c : Code} {Q : State → Prop} {D : va_G} {A : Nat → Prop} {b Ln : Nat} {xs : Nat → Int32} {y : Nat → ClassId} {aH : Nat} {aG aN aF aT aM aO : Nat → Nat} {G N F T M : St} {O : Nat → Int64} {k n : Nat} {i : Int32} (C : xCL p s m b meth c D A y) (hT : xT2 l s A) (hJ : xJ2 s) (hX : xS b Ln xs s A) (hLn : Ln ≤ 2048) {i0 : Nat} (hi : i = nI i0) (hlt : i0 + 3 < Ln) (hk : k + 200 ≤ room_1.cells) (hn : n + 2000 ≤ room_1.slots) (R : ZR T N M) (kk : ∀ (G N F T M : St) (O : Nat → Int64), ZR T N M → xV p l e room_1 s m #[Value.ref b] below meth c D A Q 9 (xLw y aH aG aN aF aT aM aO G N F T M O) (k + 100) (n + 1000) (xLL b aH aM aO i) 1356 []) : xV p l e room_1 s m #[Value.ref b] below meth c D A Q 9 (xLw y aH aG aN aF aT aM aO G N F T M O) k n (xLL b aH aM aO i) 1342 [] := by
  obtain ⟨r, M', h1, h2, R1⟩ := z_digest R G F
  refine x_aload_n (q := 1343) C 1 dL_law_1342 rfl rfl rfl ?_
  refine x_callRVl (q := 1346) (Wr := mC y aM M ++ oC y aO O) C hT (c2_digest (l := l) (D := D) (y := y) (aH := aH) (aG := aG) (aN := aN) (aF := aF) (aT := aT) (mc := 1) (ms := 6) hT.1 (fun _ _ => ⟨Nat.le_refl _, Nat.le_refl _⟩) h1) (fun i h => nomatch h) yi_X2_digest gL_law_X2_digest rfl (oX2 aH aN aF aT aG).L rfl ⟨Nat.le_of_ble_eq_true rfl, Nat.le_of_ble_eq_true rfl⟩ dL_law_1343 (List.Perm.refl _) rfl rfl (Nat.le_of_ble_eq_true rfl) ⟨by omega, by omega⟩ rfl ?_
  intro rr uu hrr
  have hrr : r = rr := Sum.inr.inj hrr
  subst hrr
  refine x_world (ws' := xLw y aH aG aN aF aT aM aO G N F T M O) rfl ?_
  refine x_aload_n (q := 1347) C 2 dL_law_1346 rfl rfl rfl ?_
  refine x_callVl (q := 1350) (As := []) (rest := [.long r]) C (c3_digest (l := l) (D := D) (y := y) (aM := aM) h2) yi_X3_digest gL_law_X3_digest rfl (oX3 y aM M) rfl ⟨Nat.le_of_ble_eq_true rfl, Nat.le_of_ble_eq_true rfl⟩ dL_law_1347 (pl_m _ _ _) rfl rfl (Nat.le_of_ble_eq_true rfl) ⟨by omega, by omega⟩ rfl ?_
  intro r2 uu hrr
  have hrr : r2 = r := hrr
  subst hrr
  refine x_perm (ws' := xLw y aH aG aN aF aT aM aO G N F T M' O) (pl_m _ _ _).symm ?_
  refine x_lcmp (q := 1351) C dL_law_1350 rfl ?_
  exact x_if_eq (t := 1356) (q := 1354) C dL_law_1351 (by decide) rfl (fun _ => x_widen (by omega) (by omega) (kk G N F T M' O R1)) (fun hc => absurd (lg_cmp_self _) hc)
set_option maxHeartbeats 4000000 in
set_option maxRecDepth 100000 in
theorem lc_mean {p : Program} {l : Launch} {e : Env} {s : State} {m : MethodId} {below : List Frame} {meth : Method} {c : Code} {Q : State → Prop} {D : va_G} {A : Nat → Prop} {b Ln : Nat} {xs : Nat → Int32} {y : Nat → ClassId} {aH : Nat} {aG aN aF aT aM aO : Nat → Nat} {G N F T M : St} {O : Nat → Int64} {k n : Nat} {i : Int32} {d0 : Drawn} (hd0 : s.drawn.sameBut d0 lw_cs) (C : xCL p (s.setDrawn d0) m b meth c D A y) (hk : k + 200 ≤ room_1.cells) (hn : n + 2000 ≤ room_1.slots) (R : ZR T N M) (kk : ∀ (d1 : Drawn), s.drawn.sameBut d1 lw_cs → xCL p (s.setDrawn d1) m b meth c D A y → ∀ (G N F T M : St) (O : Nat → Int64), ZR T N M → xV p l e room_1 (s.setDrawn d1) m #[Value.ref b] below meth c D A Q 9 (xLw y aH aG aN aF aT aM aO G N F T M O) (k + 100) (n + 1000) (xLL b aH aM aO i) 1356 []) : xV p l e room_1 (s.setDrawn d0) m #[Value.ref b] below meth c D A Q 9 (xLw y aH aG aN aF aT aM aO G N F T M O) k n (xLL b aH aM aO i) 1301 [] := by
  obtain ⟨r, M', h1, h2, R1⟩ := z_mean R G F
  refine x_aload_n (q := 1302) C 1 dL_law_1301 rfl rfl rfl ?_
  refine x_callDV (q := 1305) (Wr := mC y aM M ++ oC y aO O) hd0 C (c2_mean (l := l) (D := D) (y := y) (aH := aH) (aG := aG) (aN := aN) (aF := aF) (aT := aT) h1) yi_X2_mean gL_law_X2_mean rfl (oX2 aH aN aF aT aG).L rfl ⟨Nat.le_of_ble_eq_true rfl, Nat.le_of_ble_eq_true rfl⟩ dL_law_1302 (List.Perm.refl _) rfl rfl (Nat.le_of_ble_eq_true rfl) ⟨by omega, by omega⟩ rfl ?_
  intro xa ua d1 hxa hd1 C
  refine x_world (ws' := xLw y aH aG aN aF aT aM aO G N F T M O) rfl ?_
  refine x_dstore (q := 1307) C [1, 2, 3, 4, 5, 0] [(0, .ref b), (1, .ref aH), (2, .ref (aM 0)), (3, .ref (aO 0)), (4, .int i), (5, .double xa)] dL_law_1305 (by decide) rfl rfl ?_
  refine x_aload_n (q := 1308) C 2 dL_law_1307 rfl rfl rfl ?_
  refine x_callDV (q := 1311) hd1 C (c3_mean (l := l) (D := D) (y := y) (aM := aM) h2) yi_X3_mean gL_law_X3_mean rfl (oX3 y aM M) rfl ⟨Nat.le_of_ble_eq_true rfl, Nat.le_of_ble_eq_true rfl⟩ dL_law_1308 (pl_m _ _ _) rfl rfl (Nat.le_of_ble_eq_true rfl) ⟨by omega, by omega⟩ rfl ?_
  intro xb ub d2 hxb hd2 C
  have hm := xmval hxa hxb
  refine x_perm (ws' := xLw y aH aG aN aF aT aM aO G N F T M' O) (pl_m _ _ _).symm ?_
  refine x_dstore (q := 1313) C [1, 2, 3, 4, 5, 6, 0] [(0, .ref b), (1, .ref aH), (2, .ref (aM 0)), (3, .ref (aO 0)), (4, .int i), (5, .double xa), (7, .double xb)] dL_law_1311 (by decide) rfl rfl ?_
  have kg : xV p l e room_1 (s.setDrawn d2) m #[Value.ref b] below meth c D A Q 9 (xLw y aH aG aN aF aT aM aO G N F T M' O) (k + 0 + 0) (n + 0 + 0) [(0, .ref b), (1, .ref aH), (2, .ref (aM 0)), (3, .ref (aO 0)), (4, .int i), (5, .double xa), (7, .double xb)] 1339 [] := by
    refine x_goto (t := 1356) C dL_law_1339 (by decide) ?_
    refine x_sub (L' := xLL b aH aM aO i) [0, 1, 2, 3, 4] rfl ?_
    exact x_widen (by omega) (by omega) (kk d2 hd2 C G N F T M' O R1)
  refine x_dload (q := 1315) C 5 dL_law_1313 rfl rfl ?_
  refine x_dload (q := 1317) C 6 dL_law_1315 rfl rfl ?_
  refine x_dcmp (q := 1318) C dL_law_1317 rfl ?_
  refine x_if_eq (t := 1339) (q := 1321) C dL_law_1318 (by decide) rfl (fun _ => kg) (fun hc => ?_)
  have hm := hm.resolve_left hc
  refine x_dload (q := 1323) C 5 dL_law_1321 rfl rfl ?_
  refine x_dload (q := 1325) C 5 dL_law_1323 rfl rfl ?_
  refine x_dcmp (q := 1326) C dL_law_1325 rfl ?_
  refine x_if_eq (t := 1337) (q := 1329) C dL_law_1326 (by decide) rfl (fun hc2 => absurd hc2 hm.1) (fun _ => ?_)
  refine x_dload (q := 1331) C 6 dL_law_1329 rfl rfl ?_
  refine x_dload (q := 1333) C 6 dL_law_1331 rfl rfl ?_
  refine x_dcmp (q := 1334) C dL_law_1333 rfl ?_
  exact x_if_ne (t := 1339) (q := 1337) C dL_law_1334 (by decide) rfl (fun _ => kg) (fun hc2 => absurd hc2 hm.2)
