/-! THE LAW'S CASES: both sides answer alike, and stay alike -/
set_option maxHeartbeats 4000000 in
set_option maxRecDepth 100000 in
theorem lc_corner {p : Program} {l : Launch} {e : Env} {s : State} {m : MethodId} {below : List Frame} {meth : Method} {c : Code} {Q : State → Prop} {D : va_G} {A : Nat → Prop} {b Ln : Nat} {xs : Nat → Int32} {y : Nat → ClassId} {aH : Nat} {aG aN aF aT aM aO : Nat → Nat} {G N F T M : St} {O : Nat → Int64} {k n : Nat} {i : Int32} (C : xCL p s m b meth c D A y) (hT : xT2 l s A) (hJ : xJ2 s) (hX : xS b Ln xs s A) (hLn : Ln ≤ 2048) {i0 : Nat} (hi : i = nI i0) (hlt : i0 + 3 < Ln) (hk : k + 200 ≤ room_1.cells) (hn : n + 2000 ≤ room_1.slots) (R : ZR T N M) (kk : ∀ (G N F T M : St) (O : Nat → Int64), ZR T N M → xV p l e room_1 s m #[Value.ref b] below meth c D A Q 9 (xLw y aH aG aN aF aT aM aO G N F T M O) (k + 100) (n + 1000) (xLL b aH aM aO i) 1356 []) : xV p l e room_1 s m #[Value.ref b] below meth c D A Q 9 (xLw y aH aG aN aF aT aM aO G N F T M O) k n (xLL b aH aM aO i) 136 [] := by
  refine x_aload_n (q := 137) C 1 dL_law_136 rfl rfl rfl ?_
  refine xl_ld (q := 143) C hX 1 hi (by omega) hLn rfl dL_law_137 dL_law_138 dL_law_140 dL_law_141 dL_law_142 rfl rfl rfl ?_
  refine x_aload_n (q := 144) C 3 dL_law_143 rfl rfl rfl ?_
  have tail : ∀ (k0 r : Int32) (G1 N1 F1 T1 M1 : St) (O1 : Nat → Int64), f3_corner M (xs (i0 + 1)) = some (r, M1) → M1 0 0 = k0 → (k0 = 0 → O1 (0 : Int32).toNatClampNeg = r.toInt64) → ZR T1 N1 M1 → xV p l e room_1 s m #[Value.ref b] below meth c D A Q 9 (xLw y aH aG aN aF aT aM aO G1 N1 F1 T1 M O1) (k + 1) (n + 6) (xLL b aH aM aO i) 147 [.int k0] := by
    intro k0 r G1 N1 F1 T1 M1 O1 h2 h3 h4 R1
    refine x_istore (q := 149) C [1, 2, 3, 4, 5, 0] (xL5 b aH aM aO i k0) dL_law_147 (by decide) rfl rfl ?_
    refine x_aload_n (q := 150) C 2 dL_law_149 rfl rfl rfl ?_
    refine xl_ld (q := 156) C hX 1 hi (by omega) hLn rfl dL_law_150 dL_law_151 dL_law_153 dL_law_154 dL_law_155 rfl rfl rfl ?_
    refine x_callVi (q := 159) C (c3_corner (l := l) (D := D) (y := y) (aM := aM) h2) yi_X3_corner gL_law_X3_corner rfl (oX3 y aM M) rfl ⟨Nat.le_of_ble_eq_true rfl, Nat.le_of_ble_eq_true rfl⟩ dL_law_156 (pl_m _ _ _) rfl rfl (Nat.le_of_ble_eq_true rfl) ⟨by omega, by omega⟩ rfl ?_
    intro rr uu hrr
    have hrr : rr = r := hrr
    subst hrr
    refine x_perm (ws' := xLw y aH aG aN aF aT aM aO G1 N1 F1 T1 M1 O1) (pl_m _ _ _).symm ?_
    refine x_istore (q := 161) C [1, 2, 3, 4, 5, 6, 0] (xL6 b aH aM aO i k0 rr) dL_law_159 (by decide) rfl rfl ?_
    refine xl_cmp 161 C (by omega) (by omega) h3 h4 (by decide) dL_law_161 dL_law_162 dL_law_165 dL_law_167 dL_law_172 dL_law_174 dL_law_177 dL_law_178 dL_law_179 dL_law_180 dL_law_182 dL_law_183 dL_law_184 dL_law_189 ?_
    exact x_widen (by omega) (by omega) (kk G1 N1 F1 T1 M1 O1 R1)
  rcases z_cornerO R G F (xs (i0 + 1)) with ⟨er, M', h1, h2, h3, R1⟩ | ⟨r, T', M', h1, h2, h3, R1⟩
  · rcases h3 with h3 | h3
    · obtain ⟨rfl, h3⟩ := h3
      refine x_callW (q := 147) C hT (wLt_corner_1 (l := l) (D := D) (y := y) (aH := aH) (aG := aG) (aN := aN) (aF := aF) (aT := aT) (aO := aO) (O := O) hT.1 h1) yw_corner gL_law_L_corner ⟨Nat.le_of_ble_eq_true rfl, Nat.le_of_ble_eq_true rfl⟩ dL_law_144 (pl_w _ _ _) rfl rfl (Nat.le_of_ble_eq_true rfl) ⟨by omega, by omega⟩ rfl ?_
      refine x_perm (ws' := xLw y aH aG aN aF aT aM aO G N F T M O) (pl_w _ _ _).symm ?_
      exact tail 1 0 G N F T M' O h2 h3 (fun h => absurd h (by decide)) R1
    · obtain ⟨rfl, h3⟩ := h3
      refine x_callW (q := 147) C hT (wLt_corner_2 (l := l) (D := D) (y := y) (aH := aH) (aG := aG) (aN := aN) (aF := aF) (aT := aT) (aO := aO) (O := O) hT.1 h1) yw_corner gL_law_L_corner ⟨Nat.le_of_ble_eq_true rfl, Nat.le_of_ble_eq_true rfl⟩ dL_law_144 (pl_w _ _ _) rfl rfl (Nat.le_of_ble_eq_true rfl) ⟨by omega, by omega⟩ rfl ?_
      refine x_perm (ws' := xLw y aH aG aN aF aT aM aO G N F T M O) (pl_w _ _ _).symm ?_
      exact tail 2 0 G N F T M' O h2 h3 (fun h => absurd h (by decide)) R1
  · skip
    refine x_callW (q := 147) C hT (wLr_corner (l := l) (D := D) (y := y) (aH := aH) (aG := aG) (aN := aN) (aF := aF) (aT := aT) (aO := aO) (O := O) hT.1 h1) yw_corner gL_law_L_corner ⟨Nat.le_of_ble_eq_true rfl, Nat.le_of_ble_eq_true rfl⟩ dL_law_144 (pl_w _ _ _) rfl rfl (Nat.le_of_ble_eq_true rfl) ⟨by omega, by omega⟩ rfl ?_
    refine x_perm (ws' := xLw y aH aG aN aF aT aM aO G N F T' M (vp_updL O (0 : Int32).toNatClampNeg r.toInt64)) (pl_w _ _ _).symm ?_
    exact tail 0 r G N F T' M' (vp_updL O (0 : Int32).toNatClampNeg r.toInt64) h2 h3 (fun _ => if_pos rfl) R1
set_option maxHeartbeats 4000000 in
set_option maxRecDepth 100000 in
theorem lc_street {p : Program} {l : Launch} {e : Env} {s : State} {m : MethodId} {below : List Frame} {meth : Method} {c : Code} {Q : State → Prop} {D : va_G} {A : Nat → Prop} {b Ln : Nat} {xs : Nat → Int32} {y : Nat → ClassId} {aH : Nat} {aG aN aF aT aM aO : Nat → Nat} {G N F T M : St} {O : Nat → Int64} {k n : Nat} {i : Int32} (C : xCL p s m b meth c D A y) (hT : xT2 l s A) (hJ : xJ2 s) (hX : xS b Ln xs s A) (hLn : Ln ≤ 2048) {i0 : Nat} (hi : i = nI i0) (hlt : i0 + 3 < Ln) (hk : k + 200 ≤ room_1.cells) (hn : n + 2000 ≤ room_1.slots) (R : ZR T N M) (kk : ∀ (G N F T M : St) (O : Nat → Int64), ZR T N M → xV p l e room_1 s m #[Value.ref b] below meth c D A Q 9 (xLw y aH aG aN aF aT aM aO G N F T M O) (k + 100) (n + 1000) (xLL b aH aM aO i) 1356 []) : xV p l e room_1 s m #[Value.ref b] below meth c D A Q 9 (xLw y aH aG aN aF aT aM aO G N F T M O) k n (xLL b aH aM aO i) 192 [] := by
  refine x_aload_n (q := 193) C 1 dL_law_192 rfl rfl rfl ?_
  refine xl_ld (q := 199) C hX 1 hi (by omega) hLn rfl dL_law_193 dL_law_194 dL_law_196 dL_law_197 dL_law_198 rfl rfl rfl ?_
  refine xl_ld (q := 205) C hX 2 hi (by omega) hLn rfl dL_law_199 dL_law_200 dL_law_202 dL_law_203 dL_law_204 rfl rfl rfl ?_
  refine xl_ld (q := 211) C hX 3 hi (by omega) hLn rfl dL_law_205 dL_law_206 dL_law_208 dL_law_209 dL_law_210 rfl rfl rfl ?_
  refine x_aload_n (q := 212) C 3 dL_law_211 rfl rfl rfl ?_
  have tail : ∀ (k0 r : Int32) (G1 N1 F1 T1 M1 : St) (O1 : Nat → Int64), f3_street M (xs (i0 + 1)) (xs (i0 + 2)) (xs (i0 + 3)) = some (r, M1) → M1 0 0 = k0 → (k0 = 0 → O1 (0 : Int32).toNatClampNeg = r.toInt64) → ZR T1 N1 M1 → xV p l e room_1 s m #[Value.ref b] below meth c D A Q 9 (xLw y aH aG aN aF aT aM aO G1 N1 F1 T1 M O1) (k + 1) (n + 6) (xLL b aH aM aO i) 215 [.int k0] := by
    intro k0 r G1 N1 F1 T1 M1 O1 h2 h3 h4 R1
    refine x_istore (q := 217) C [1, 2, 3, 4, 5, 0] (xL5 b aH aM aO i k0) dL_law_215 (by decide) rfl rfl ?_
    refine x_aload_n (q := 218) C 2 dL_law_217 rfl rfl rfl ?_
    refine xl_ld (q := 224) C hX 1 hi (by omega) hLn rfl dL_law_218 dL_law_219 dL_law_221 dL_law_222 dL_law_223 rfl rfl rfl ?_
    refine xl_ld (q := 230) C hX 2 hi (by omega) hLn rfl dL_law_224 dL_law_225 dL_law_227 dL_law_228 dL_law_229 rfl rfl rfl ?_
    refine xl_ld (q := 236) C hX 3 hi (by omega) hLn rfl dL_law_230 dL_law_231 dL_law_233 dL_law_234 dL_law_235 rfl rfl rfl ?_
    refine x_callVi (q := 239) C (c3_street (l := l) (D := D) (y := y) (aM := aM) h2) yi_X3_street gL_law_X3_street rfl (oX3 y aM M) rfl ⟨Nat.le_of_ble_eq_true rfl, Nat.le_of_ble_eq_true rfl⟩ dL_law_236 (pl_m _ _ _) rfl rfl (Nat.le_of_ble_eq_true rfl) ⟨by omega, by omega⟩ rfl ?_
    intro rr uu hrr
    have hrr : rr = r := hrr
    subst hrr
    refine x_perm (ws' := xLw y aH aG aN aF aT aM aO G1 N1 F1 T1 M1 O1) (pl_m _ _ _).symm ?_
    refine x_istore (q := 241) C [1, 2, 3, 4, 5, 6, 0] (xL6 b aH aM aO i k0 rr) dL_law_239 (by decide) rfl rfl ?_
    refine xl_cmp 241 C (by omega) (by omega) h3 h4 (by decide) dL_law_241 dL_law_242 dL_law_245 dL_law_247 dL_law_252 dL_law_254 dL_law_257 dL_law_258 dL_law_259 dL_law_260 dL_law_262 dL_law_263 dL_law_264 dL_law_269 ?_
    exact x_widen (by omega) (by omega) (kk G1 N1 F1 T1 M1 O1 R1)
  rcases z_street R G F (xs (i0 + 1)) (xs (i0 + 2)) (xs (i0 + 3)) with ⟨er, M', h1, h2, h3, R1⟩ | ⟨r, T', M', h1, h2, h3, R1⟩
  · rcases h3 with h3 | h3 | h3
    · obtain ⟨rfl, h3⟩ := h3
      refine x_callW (q := 215) C hT (wLt_street_3 (l := l) (D := D) (y := y) (aH := aH) (aG := aG) (aN := aN) (aF := aF) (aT := aT) (aO := aO) (O := O) hT.1 h1) yw_street gL_law_L_street ⟨Nat.le_of_ble_eq_true rfl, Nat.le_of_ble_eq_true rfl⟩ dL_law_212 (pl_w _ _ _) rfl rfl (Nat.le_of_ble_eq_true rfl) ⟨by omega, by omega⟩ rfl ?_
      refine x_perm (ws' := xLw y aH aG aN aF aT aM aO G N F T M O) (pl_w _ _ _).symm ?_
      exact tail 1 0 G N F T M' O h2 h3 (fun h => absurd h (by decide)) R1
    · obtain ⟨rfl, h3⟩ := h3
      refine x_callW (q := 215) C hT (wLt_street_1 (l := l) (D := D) (y := y) (aH := aH) (aG := aG) (aN := aN) (aF := aF) (aT := aT) (aO := aO) (O := O) hT.1 h1) yw_street gL_law_L_street ⟨Nat.le_of_ble_eq_true rfl, Nat.le_of_ble_eq_true rfl⟩ dL_law_212 (pl_w _ _ _) rfl rfl (Nat.le_of_ble_eq_true rfl) ⟨by omega, by omega⟩ rfl ?_
      refine x_perm (ws' := xLw y aH aG aN aF aT aM aO G N F T M O) (pl_w _ _ _).symm ?_
      exact tail 2 0 G N F T M' O h2 h3 (fun h => absurd h (by decide)) R1
    · obtain ⟨rfl, h3⟩ := h3
      refine x_callW (q := 215) C hT (wLt_street_2 (l := l) (D := D) (y := y) (aH := aH) (aG := aG) (aN := aN) (aF := aF) (aT := aT) (aO := aO) (O := O) hT.1 h1) yw_street gL_law_L_street ⟨Nat.le_of_ble_eq_true rfl, Nat.le_of_ble_eq_true rfl⟩ dL_law_212 (pl_w _ _ _) rfl rfl (Nat.le_of_ble_eq_true rfl) ⟨by omega, by omega⟩ rfl ?_
      refine x_perm (ws' := xLw y aH aG aN aF aT aM aO G N F T M O) (pl_w _ _ _).symm ?_
      exact tail 3 0 G N F T M' O h2 h3 (fun h => absurd h (by decide)) R1
  · skip
    refine x_callW (q := 215) C hT (wLr_street (l := l) (D := D) (y := y) (aH := aH) (aG := aG) (aN := aN) (aF := aF) (aT := aT) (aO := aO) (O := O) hT.1 h1) yw_street gL_law_L_street ⟨Nat.le_of_ble_eq_true rfl, Nat.le_of_ble_eq_true rfl⟩ dL_law_212 (pl_w _ _ _) rfl rfl (Nat.le_of_ble_eq_true rfl) ⟨by omega, by omega⟩ rfl ?_
    refine x_perm (ws' := xLw y aH aG aN aF aT aM aO G N F T' M (vp_updL O (0 : Int32).toNatClampNeg r.toInt64)) (pl_w _ _ _).symm ?_
    exact tail 0 r G N F T' M' (vp_updL O (0 : Int32).toNatClampNeg r.toInt64) h2 h3 (fun _ => if_pos rfl) R1
set_option maxHeartbeats 4000000 in
set_option maxRecDepth 100000 in
theorem lc_lamp {p : Program} {l : Launch} {e : Env} {s : State} {m : MethodId} {below : List Frame} {meth : Method} {c : Code} {Q : State → Prop} {D : va_G} {A : Nat → Prop} {b Ln : Nat} {xs : Nat → Int32} {y : Nat → ClassId} {aH : Nat} {aG aN aF aT aM aO : Nat → Nat} {G N F T M : St} {O : Nat → Int64} {k n : Nat} {i : Int32} (C : xCL p s m b meth c D A y) (hT : xT2 l s A) (hJ : xJ2 s) (hX : xS b Ln xs s A) (hLn : Ln ≤ 2048) {i0 : Nat} (hi : i = nI i0) (hlt : i0 + 3 < Ln) (hk : k + 200 ≤ room_1.cells) (hn : n + 2000 ≤ room_1.slots) (R : ZR T N M) (kk : ∀ (G N F T M : St) (O : Nat → Int64), ZR T N M → xV p l e room_1 s m #[Value.ref b] below meth c D A Q 9 (xLw y aH aG aN aF aT aM aO G N F T M O) (k + 100) (n + 1000) (xLL b aH aM aO i) 1356 []) : xV p l e room_1 s m #[Value.ref b] below meth c D A Q 9 (xLw y aH aG aN aF aT aM aO G N F T M O) k n (xLL b aH aM aO i) 272 [] := by
  refine x_aload_n (q := 273) C 1 dL_law_272 rfl rfl rfl ?_
  refine xl_ld (q := 279) C hX 1 hi (by omega) hLn rfl dL_law_273 dL_law_274 dL_law_276 dL_law_277 dL_law_278 rfl rfl rfl ?_
  refine xl_ld (q := 285) C hX 2 hi (by omega) hLn rfl dL_law_279 dL_law_280 dL_law_282 dL_law_283 dL_law_284 rfl rfl rfl ?_
  refine x_aload_n (q := 286) C 3 dL_law_285 rfl rfl rfl ?_
  have tail : ∀ (k0 r : Int32) (G1 N1 F1 T1 M1 : St) (O1 : Nat → Int64), f3_lamp M (xs (i0 + 1)) (xs (i0 + 2)) = some (r, M1) → M1 0 0 = k0 → (k0 = 0 → O1 (0 : Int32).toNatClampNeg = r.toInt64) → ZR T1 N1 M1 → xV p l e room_1 s m #[Value.ref b] below meth c D A Q 9 (xLw y aH aG aN aF aT aM aO G1 N1 F1 T1 M O1) (k + 1) (n + 6) (xLL b aH aM aO i) 289 [.int k0] := by
    intro k0 r G1 N1 F1 T1 M1 O1 h2 h3 h4 R1
    refine x_istore (q := 291) C [1, 2, 3, 4, 5, 0] (xL5 b aH aM aO i k0) dL_law_289 (by decide) rfl rfl ?_
    refine x_aload_n (q := 292) C 2 dL_law_291 rfl rfl rfl ?_
    refine xl_ld (q := 298) C hX 1 hi (by omega) hLn rfl dL_law_292 dL_law_293 dL_law_295 dL_law_296 dL_law_297 rfl rfl rfl ?_
    refine xl_ld (q := 304) C hX 2 hi (by omega) hLn rfl dL_law_298 dL_law_299 dL_law_301 dL_law_302 dL_law_303 rfl rfl rfl ?_
    refine x_callVi (q := 307) C (c3_lamp (l := l) (D := D) (y := y) (aM := aM) h2) yi_X3_lamp gL_law_X3_lamp rfl (oX3 y aM M) rfl ⟨Nat.le_of_ble_eq_true rfl, Nat.le_of_ble_eq_true rfl⟩ dL_law_304 (pl_m _ _ _) rfl rfl (Nat.le_of_ble_eq_true rfl) ⟨by omega, by omega⟩ rfl ?_
    intro rr uu hrr
    have hrr : rr = r := hrr
    subst hrr
    refine x_perm (ws' := xLw y aH aG aN aF aT aM aO G1 N1 F1 T1 M1 O1) (pl_m _ _ _).symm ?_
    refine x_istore (q := 309) C [1, 2, 3, 4, 5, 6, 0] (xL6 b aH aM aO i k0 rr) dL_law_307 (by decide) rfl rfl ?_
    refine xl_cmp 309 C (by omega) (by omega) h3 h4 (by decide) dL_law_309 dL_law_310 dL_law_313 dL_law_315 dL_law_320 dL_law_322 dL_law_325 dL_law_326 dL_law_327 dL_law_328 dL_law_330 dL_law_331 dL_law_332 dL_law_337 ?_
    exact x_widen (by omega) (by omega) (kk G1 N1 F1 T1 M1 O1 R1)
  rcases z_lamp R G F (xs (i0 + 1)) (xs (i0 + 2)) with ⟨er, M', h1, h2, h3, R1⟩ | ⟨r, T', M', h1, h2, h3, R1⟩
  · rcases h3 with h3 | h3 | h3
    · obtain ⟨rfl, h3⟩ := h3
      refine x_callW (q := 289) C hT (wLt_lamp_3 (l := l) (D := D) (y := y) (aH := aH) (aG := aG) (aN := aN) (aF := aF) (aT := aT) (aO := aO) (O := O) hT.1 h1) yw_lamp gL_law_L_lamp ⟨Nat.le_of_ble_eq_true rfl, Nat.le_of_ble_eq_true rfl⟩ dL_law_286 (pl_w _ _ _) rfl rfl (Nat.le_of_ble_eq_true rfl) ⟨by omega, by omega⟩ rfl ?_
      refine x_perm (ws' := xLw y aH aG aN aF aT aM aO G N F T M O) (pl_w _ _ _).symm ?_
      exact tail 1 0 G N F T M' O h2 h3 (fun h => absurd h (by decide)) R1
    · obtain ⟨rfl, h3⟩ := h3
      refine x_callW (q := 289) C hT (wLt_lamp_1 (l := l) (D := D) (y := y) (aH := aH) (aG := aG) (aN := aN) (aF := aF) (aT := aT) (aO := aO) (O := O) hT.1 h1) yw_lamp gL_law_L_lamp ⟨Nat.le_of_ble_eq_true rfl, Nat.le_of_ble_eq_true rfl⟩ dL_law_286 (pl_w _ _ _) rfl rfl (Nat.le_of_ble_eq_true rfl) ⟨by omega, by omega⟩ rfl ?_
      refine x_perm (ws' := xLw y aH aG aN aF aT aM aO G N F T M O) (pl_w _ _ _).symm ?_
      exact tail 2 0 G N F T M' O h2 h3 (fun h => absurd h (by decide)) R1
    · obtain ⟨rfl, h3⟩ := h3
      refine x_callW (q := 289) C hT (wLt_lamp_2 (l := l) (D := D) (y := y) (aH := aH) (aG := aG) (aN := aN) (aF := aF) (aT := aT) (aO := aO) (O := O) hT.1 h1) yw_lamp gL_law_L_lamp ⟨Nat.le_of_ble_eq_true rfl, Nat.le_of_ble_eq_true rfl⟩ dL_law_286 (pl_w _ _ _) rfl rfl (Nat.le_of_ble_eq_true rfl) ⟨by omega, by omega⟩ rfl ?_
      refine x_perm (ws' := xLw y aH aG aN aF aT aM aO G N F T M O) (pl_w _ _ _).symm ?_
      exact tail 3 0 G N F T M' O h2 h3 (fun h => absurd h (by decide)) R1
  · skip
    refine x_callW (q := 289) C hT (wLr_lamp (l := l) (D := D) (y := y) (aH := aH) (aG := aG) (aN := aN) (aF := aF) (aT := aT) (aO := aO) (O := O) hT.1 h1) yw_lamp gL_law_L_lamp ⟨Nat.le_of_ble_eq_true rfl, Nat.le_of_ble_eq_true rfl⟩ dL_law_286 (pl_w _ _ _) rfl rfl (Nat.le_of_ble_eq_true rfl) ⟨by omega, by omega⟩ rfl ?_
    refine x_perm (ws' := xLw y aH aG aN aF aT aM aO G N F T' M (vp_updL O (0 : Int32).toNatClampNeg r.toInt64)) (pl_w _ _ _).symm ?_
    exact tail 0 r G N F T' M' (vp_updL O (0 : Int32).toNatClampNeg r.toInt64) h2 h3 (fun _ => if_pos rfl) R1
set_option maxHeartbeats 4000000 in
set_option maxRecDepth 100000 in
theorem lc_lid {p : Program} {l : Launch} {e : Env} {s : State} {m : MethodId} {below : List Frame} {meth : Method} {c : Code} {Q : State → Prop} {D : va_G} {A : Nat → Prop} {b Ln : Nat} {xs : Nat → Int32} {y : Nat → ClassId} {aH : Nat} {aG aN aF aT aM aO : Nat → Nat} {G N F T M : St} {O : Nat → Int64} {k n : Nat} {i : Int32} (C : xCL p s m b meth c D A y) (hT : xT2 l s A) (hJ : xJ2 s) (hX : xS b Ln xs s A) (hLn : Ln ≤ 2048) {i0 : Nat} (hi : i = nI i0) (hlt : i0 + 3 < Ln) (hk : k + 200 ≤ room_1.cells) (hn : n + 2000 ≤ room_1.slots) (R : ZR T N M) (kk : ∀ (G N F T M : St) (O : Nat → Int64), ZR T N M → xV p l e room_1 s m #[Value.ref b] below meth c D A Q 9 (xLw y aH aG aN aF aT aM aO G N F T M O) (k + 100) (n + 1000) (xLL b aH aM aO i) 1356 []) : xV p l e room_1 s m #[Value.ref b] below meth c D A Q 9 (xLw y aH aG aN aF aT aM aO G N F T M O) k n (xLL b aH aM aO i) 340 [] := by
  refine x_aload_n (q := 341) C 1 dL_law_340 rfl rfl rfl ?_
  refine xl_ld (q := 347) C hX 1 hi (by omega) hLn rfl dL_law_341 dL_law_342 dL_law_344 dL_law_345 dL_law_346 rfl rfl rfl ?_
  refine xl_ld (q := 353) C hX 2 hi (by omega) hLn rfl dL_law_347 dL_law_348 dL_law_350 dL_law_351 dL_law_352 rfl rfl rfl ?_
  refine x_aload_n (q := 354) C 3 dL_law_353 rfl rfl rfl ?_
  have tail : ∀ (k0 r : Int32) (G1 N1 F1 T1 M1 : St) (O1 : Nat → Int64), f3_lid M (xs (i0 + 1)) (xs (i0 + 2)) = some (r, M1) → M1 0 0 = k0 → (k0 = 0 → O1 (0 : Int32).toNatClampNeg = r.toInt64) → ZR T1 N1 M1 → xV p l e room_1 s m #[Value.ref b] below meth c D A Q 9 (xLw y aH aG aN aF aT aM aO G1 N1 F1 T1 M O1) (k + 1) (n + 6) (xLL b aH aM aO i) 357 [.int k0] := by
    intro k0 r G1 N1 F1 T1 M1 O1 h2 h3 h4 R1
    refine x_istore (q := 359) C [1, 2, 3, 4, 5, 0] (xL5 b aH aM aO i k0) dL_law_357 (by decide) rfl rfl ?_
    refine x_aload_n (q := 360) C 2 dL_law_359 rfl rfl rfl ?_
    refine xl_ld (q := 366) C hX 1 hi (by omega) hLn rfl dL_law_360 dL_law_361 dL_law_363 dL_law_364 dL_law_365 rfl rfl rfl ?_
    refine xl_ld (q := 372) C hX 2 hi (by omega) hLn rfl dL_law_366 dL_law_367 dL_law_369 dL_law_370 dL_law_371 rfl rfl rfl ?_
    refine x_callVi (q := 375) C (c3_lid (l := l) (D := D) (y := y) (aM := aM) h2) yi_X3_lid gL_law_X3_lid rfl (oX3 y aM M) rfl ⟨Nat.le_of_ble_eq_true rfl, Nat.le_of_ble_eq_true rfl⟩ dL_law_372 (pl_m _ _ _) rfl rfl (Nat.le_of_ble_eq_true rfl) ⟨by omega, by omega⟩ rfl ?_
    intro rr uu hrr
    have hrr : rr = r := hrr
    subst hrr
    refine x_perm (ws' := xLw y aH aG aN aF aT aM aO G1 N1 F1 T1 M1 O1) (pl_m _ _ _).symm ?_
    refine x_istore (q := 377) C [1, 2, 3, 4, 5, 6, 0] (xL6 b aH aM aO i k0 rr) dL_law_375 (by decide) rfl rfl ?_
    refine xl_cmp 377 C (by omega) (by omega) h3 h4 (by decide) dL_law_377 dL_law_378 dL_law_381 dL_law_383 dL_law_388 dL_law_390 dL_law_393 dL_law_394 dL_law_395 dL_law_396 dL_law_398 dL_law_399 dL_law_400 dL_law_405 ?_
    exact x_widen (by omega) (by omega) (kk G1 N1 F1 T1 M1 O1 R1)
  rcases z_lid R G F (xs (i0 + 1)) (xs (i0 + 2)) with ⟨er, M', h1, h2, h3, R1⟩ | ⟨r, T', M', h1, h2, h3, R1⟩
  · rcases h3 with h3 | h3
    · obtain ⟨rfl, h3⟩ := h3
      refine x_callW (q := 357) C hT (wLt_lid_3 (l := l) (D := D) (y := y) (aH := aH) (aG := aG) (aN := aN) (aF := aF) (aT := aT) (aO := aO) (O := O) hT.1 h1) yw_lid gL_law_L_lid ⟨Nat.le_of_ble_eq_true rfl, Nat.le_of_ble_eq_true rfl⟩ dL_law_354 (pl_w _ _ _) rfl rfl (Nat.le_of_ble_eq_true rfl) ⟨by omega, by omega⟩ rfl ?_
      refine x_perm (ws' := xLw y aH aG aN aF aT aM aO G N F T M O) (pl_w _ _ _).symm ?_
      exact tail 1 0 G N F T M' O h2 h3 (fun h => absurd h (by decide)) R1
    · obtain ⟨rfl, h3⟩ := h3
      refine x_callW (q := 357) C hT (wLt_lid_1 (l := l) (D := D) (y := y) (aH := aH) (aG := aG) (aN := aN) (aF := aF) (aT := aT) (aO := aO) (O := O) hT.1 h1) yw_lid gL_law_L_lid ⟨Nat.le_of_ble_eq_true rfl, Nat.le_of_ble_eq_true rfl⟩ dL_law_354 (pl_w _ _ _) rfl rfl (Nat.le_of_ble_eq_true rfl) ⟨by omega, by omega⟩ rfl ?_
      refine x_perm (ws' := xLw y aH aG aN aF aT aM aO G N F T M O) (pl_w _ _ _).symm ?_
      exact tail 2 0 G N F T M' O h2 h3 (fun h => absurd h (by decide)) R1
  · skip
    refine x_callW (q := 357) C hT (wLr_lid (l := l) (D := D) (y := y) (aH := aH) (aG := aG) (aN := aN) (aF := aF) (aT := aT) (aO := aO) (O := O) hT.1 h1) yw_lid gL_law_L_lid ⟨Nat.le_of_ble_eq_true rfl, Nat.le_of_ble_eq_true rfl⟩ dL_law_354 (pl_w _ _ _) rfl rfl (Nat.le_of_ble_eq_true rfl) ⟨by omega, by omega⟩ rfl ?_
    refine x_perm (ws' := xLw y aH aG aN aF aT aM aO G N F T' M (vp_updL O (0 : Int32).toNatClampNeg r.toInt64)) (pl_w _ _ _).symm ?_
    exact tail 0 r G N F T' M' (vp_updL O (0 : Int32).toNatClampNeg r.toInt64) h2 h3 (fun _ => if_pos rfl) R1
set_option maxHeartbeats 4000000 in
set_option maxRecDepth 100000 in
theorem lc_setWind {p : Program} {l : Launch} {e : Env} {s : State} {m : MethodId} {below : List Frame} {meth : Method} {c : Code} {Q : State → Prop} {D : va_G} {A : Nat → Prop} {b Ln : Nat} {xs : Nat → Int32} {y : Nat → ClassId} {aH : Nat} {aG aN aF aT aM aO : Nat → Nat} {G N F T M : St} {O : Nat → Int64} {k n : Nat} {i : Int32} (C : xCL p s m b meth c D A y) (hT : xT2 l s A) (hJ : xJ2 s) (hX : xS b Ln xs s A) (hLn : Ln ≤ 2048) {i0 : Nat} (hi : i = nI i0) (hlt : i0 + 3 < Ln) (hk : k + 200 ≤ room_1.cells) (hn : n + 2000 ≤ room_1.slots) (R : ZR T N M) (kk : ∀ (G N F T M : St) (O : Nat → Int64), ZR T N M → xV p l e room_1 s m #[Value.ref b] below meth c D A Q 9 (xLw y aH aG aN aF aT aM aO G N F T M O) (k + 100) (n + 1000) (xLL b aH aM aO i) 1356 []) : xV p l e room_1 s m #[Value.ref b] below meth c D A Q 9 (xLw y aH aG aN aF aT aM aO G N F T M O) k n (xLL b aH aM aO i) 408 [] := by
  refine x_aload_n (q := 409) C 1 dL_law_408 rfl rfl rfl ?_
  refine xl_ld (q := 415) C hX 1 hi (by omega) hLn rfl dL_law_409 dL_law_410 dL_law_412 dL_law_413 dL_law_414 rfl rfl rfl ?_
  refine xl_ld (q := 421) C hX 2 hi (by omega) hLn rfl dL_law_415 dL_law_416 dL_law_418 dL_law_419 dL_law_420 rfl rfl rfl ?_
  refine x_aload_n (q := 422) C 3 dL_law_421 rfl rfl rfl ?_
  have tail : ∀ (k0 r : Int32) (G1 N1 F1 T1 M1 : St) (O1 : Nat → Int64), f3_setWind M (xs (i0 + 1)) (xs (i0 + 2)) = some (r, M1) → M1 0 0 = k0 → (k0 = 0 → O1 (0 : Int32).toNatClampNeg = r.toInt64) → ZR T1 N1 M1 → xV p l e room_1 s m #[Value.ref b] below meth c D A Q 9 (xLw y aH aG aN aF aT aM aO G1 N1 F1 T1 M O1) (k + 1) (n + 6) (xLL b aH aM aO i) 425 [.int k0] := by
    intro k0 r G1 N1 F1 T1 M1 O1 h2 h3 h4 R1
    refine x_istore (q := 427) C [1, 2, 3, 4, 5, 0] (xL5 b aH aM aO i k0) dL_law_425 (by decide) rfl rfl ?_
    refine x_aload_n (q := 428) C 2 dL_law_427 rfl rfl rfl ?_
    refine xl_ld (q := 434) C hX 1 hi (by omega) hLn rfl dL_law_428 dL_law_429 dL_law_431 dL_law_432 dL_law_433 rfl rfl rfl ?_
    refine xl_ld (q := 440) C hX 2 hi (by omega) hLn rfl dL_law_434 dL_law_435 dL_law_437 dL_law_438 dL_law_439 rfl rfl rfl ?_
    refine x_callVi (q := 443) C (c3_setWind (l := l) (D := D) (y := y) (aM := aM) h2) yi_X3_setWind gL_law_X3_setWind rfl (oX3 y aM M) rfl ⟨Nat.le_of_ble_eq_true rfl, Nat.le_of_ble_eq_true rfl⟩ dL_law_440 (pl_m _ _ _) rfl rfl (Nat.le_of_ble_eq_true rfl) ⟨by omega, by omega⟩ rfl ?_
    intro rr uu hrr
    have hrr : rr = r := hrr
    subst hrr
    refine x_perm (ws' := xLw y aH aG aN aF aT aM aO G1 N1 F1 T1 M1 O1) (pl_m _ _ _).symm ?_
    refine x_istore (q := 445) C [1, 2, 3, 4, 5, 6, 0] (xL6 b aH aM aO i k0 rr) dL_law_443 (by decide) rfl rfl ?_
    refine xl_cmp 445 C (by omega) (by omega) h3 h4 (by decide) dL_law_445 dL_law_446 dL_law_449 dL_law_451 dL_law_456 dL_law_458 dL_law_461 dL_law_462 dL_law_463 dL_law_464 dL_law_466 dL_law_467 dL_law_468 dL_law_473 ?_
    exact x_widen (by omega) (by omega) (kk G1 N1 F1 T1 M1 O1 R1)
  rcases z_setWind R G F (xs (i0 + 1)) (xs (i0 + 2)) with ⟨er, M', h1, h2, h3, R1⟩ | ⟨r, T', M', h1, h2, h3, R1⟩
  · rcases h3 with h3 | h3
    · obtain ⟨rfl, h3⟩ := h3
      refine x_callW (q := 425) C hT (wLt_setWind_3 (l := l) (D := D) (y := y) (aH := aH) (aG := aG) (aN := aN) (aF := aF) (aT := aT) (aO := aO) (O := O) hT.1 h1) yw_setWind gL_law_L_setWind ⟨Nat.le_of_ble_eq_true rfl, Nat.le_of_ble_eq_true rfl⟩ dL_law_422 (pl_w _ _ _) rfl rfl (Nat.le_of_ble_eq_true rfl) ⟨by omega, by omega⟩ rfl ?_
      refine x_perm (ws' := xLw y aH aG aN aF aT aM aO G N F T M O) (pl_w _ _ _).symm ?_
      exact tail 1 0 G N F T M' O h2 h3 (fun h => absurd h (by decide)) R1
    · obtain ⟨rfl, h3⟩ := h3
      refine x_callW (q := 425) C hT (wLt_setWind_1 (l := l) (D := D) (y := y) (aH := aH) (aG := aG) (aN := aN) (aF := aF) (aT := aT) (aO := aO) (O := O) hT.1 h1) yw_setWind gL_law_L_setWind ⟨Nat.le_of_ble_eq_true rfl, Nat.le_of_ble_eq_true rfl⟩ dL_law_422 (pl_w _ _ _) rfl rfl (Nat.le_of_ble_eq_true rfl) ⟨by omega, by omega⟩ rfl ?_
      refine x_perm (ws' := xLw y aH aG aN aF aT aM aO G N F T M O) (pl_w _ _ _).symm ?_
      exact tail 2 0 G N F T M' O h2 h3 (fun h => absurd h (by decide)) R1
  · skip
    refine x_callW (q := 425) C hT (wLr_setWind (l := l) (D := D) (y := y) (aH := aH) (aG := aG) (aN := aN) (aF := aF) (aT := aT) (aO := aO) (O := O) hT.1 h1) yw_setWind gL_law_L_setWind ⟨Nat.le_of_ble_eq_true rfl, Nat.le_of_ble_eq_true rfl⟩ dL_law_422 (pl_w _ _ _) rfl rfl (Nat.le_of_ble_eq_true rfl) ⟨by omega, by omega⟩ rfl ?_
    refine x_perm (ws' := xLw y aH aG aN aF aT aM aO G N F T' M (vp_updL O (0 : Int32).toNatClampNeg r.toInt64)) (pl_w _ _ _).symm ?_
    exact tail 0 r G N F T' M' (vp_updL O (0 : Int32).toNatClampNeg r.toInt64) h2 h3 (fun _ => if_pos rfl) R1
set_option maxHeartbeats 4000000 in
set_option maxRecDepth 100000 in
theorem lc_hire {p : Program} {l : Launch} {e : Env} {s : State} {m : MethodId} {below : List Frame} {meth : Method} {c : Code} {Q : State → Prop} {D : va_G} {A : Nat → Prop} {b Ln : Nat} {xs : Nat → Int32} {y : Nat → ClassId} {aH : Nat} {aG aN aF aT aM aO : Nat → Nat} {G N F T M : St} {O : Nat → Int64} {k n : Nat} {i : Int32} (C : xCL p s m b meth c D A y) (hT : xT2 l s A) (hJ : xJ2 s) (hX : xS b Ln xs s A) (hLn : Ln ≤ 2048) {i0 : Nat} (hi : i = nI i0) (hlt : i0 + 3 < Ln) (hk : k + 200 ≤ room_1.cells) (hn : n + 2000 ≤ room_1.slots) (R : ZR T N M) (kk : ∀ (G N F T M : St) (O : Nat → Int64), ZR T N M → xV p l e room_1 s m #[Value.ref b] below meth c D A Q 9 (xLw y aH aG aN aF aT aM aO G N F T M O) (k + 100) (n + 1000) (xLL b aH aM aO i) 1356 []) : xV p l e room_1 s m #[Value.ref b] below meth c D A Q 9 (xLw y aH aG aN aF aT aM aO G N F T M O) k n (xLL b aH aM aO i) 476 [] := by
  refine x_aload_n (q := 477) C 1 dL_law_476 rfl rfl rfl ?_
  refine xl_ld (q := 483) C hX 1 hi (by omega) hLn rfl dL_law_477 dL_law_478 dL_law_480 dL_law_481 dL_law_482 rfl rfl rfl ?_
  refine xl_ld (q := 489) C hX 2 hi (by omega) hLn rfl dL_law_483 dL_law_484 dL_law_486 dL_law_487 dL_law_488 rfl rfl rfl ?_
  refine xl_ld (q := 495) C hX 3 hi (by omega) hLn rfl dL_law_489 dL_law_490 dL_law_492 dL_law_493 dL_law_494 rfl rfl rfl ?_
  refine x_aload_n (q := 496) C 3 dL_law_495 rfl rfl rfl ?_
  have tail : ∀ (k0 r : Int32) (G1 N1 F1 T1 M1 : St) (O1 : Nat → Int64), f3_hire M (xs (i0 + 1)) (xs (i0 + 2)) (xs (i0 + 3)) = some (r, M1) → M1 0 0 = k0 → (k0 = 0 → O1 (0 : Int32).toNatClampNeg = r.toInt64) → ZR T1 N1 M1 → xV p l e room_1 s m #[Value.ref b] below meth c D A Q 9 (xLw y aH aG aN aF aT aM aO G1 N1 F1 T1 M O1) (k + 1) (n + 6) (xLL b aH aM aO i) 499 [.int k0] := by
    intro k0 r G1 N1 F1 T1 M1 O1 h2 h3 h4 R1
    refine x_istore (q := 501) C [1, 2, 3, 4, 5, 0] (xL5 b aH aM aO i k0) dL_law_499 (by decide) rfl rfl ?_
    refine x_aload_n (q := 502) C 2 dL_law_501 rfl rfl rfl ?_
    refine xl_ld (q := 508) C hX 1 hi (by omega) hLn rfl dL_law_502 dL_law_503 dL_law_505 dL_law_506 dL_law_507 rfl rfl rfl ?_
    refine xl_ld (q := 514) C hX 2 hi (by omega) hLn rfl dL_law_508 dL_law_509 dL_law_511 dL_law_512 dL_law_513 rfl rfl rfl ?_
    refine xl_ld (q := 520) C hX 3 hi (by omega) hLn rfl dL_law_514 dL_law_515 dL_law_517 dL_law_518 dL_law_519 rfl rfl rfl ?_
    refine x_callVi (q := 523) C (c3_hire (l := l) (D := D) (y := y) (aM := aM) h2) yi_X3_hire gL_law_X3_hire rfl (oX3 y aM M) rfl ⟨Nat.le_of_ble_eq_true rfl, Nat.le_of_ble_eq_true rfl⟩ dL_law_520 (pl_m _ _ _) rfl rfl (Nat.le_of_ble_eq_true rfl) ⟨by omega, by omega⟩ rfl ?_
    intro rr uu hrr
    have hrr : rr = r := hrr
    subst hrr
    refine x_perm (ws' := xLw y aH aG aN aF aT aM aO G1 N1 F1 T1 M1 O1) (pl_m _ _ _).symm ?_
    refine x_istore (q := 525) C [1, 2, 3, 4, 5, 6, 0] (xL6 b aH aM aO i k0 rr) dL_law_523 (by decide) rfl rfl ?_
    refine xl_cmp 525 C (by omega) (by omega) h3 h4 (by decide) dL_law_525 dL_law_526 dL_law_529 dL_law_531 dL_law_536 dL_law_538 dL_law_541 dL_law_542 dL_law_543 dL_law_544 dL_law_546 dL_law_547 dL_law_548 dL_law_553 ?_
    exact x_widen (by omega) (by omega) (kk G1 N1 F1 T1 M1 O1 R1)
  rcases z_hire R G F (xs (i0 + 1)) (xs (i0 + 2)) (xs (i0 + 3)) with ⟨er, M', h1, h2, h3, R1⟩ | ⟨r, N', T', M', h1, h2, h3, R1⟩
  · rcases h3 with h3 | h3 | h3
    · obtain ⟨rfl, h3⟩ := h3
      refine x_callW (q := 499) C hT (wLt_hire_3 (l := l) (D := D) (y := y) (aH := aH) (aG := aG) (aN := aN) (aF := aF) (aT := aT) (aO := aO) (O := O) hT.1 h1) yw_hire gL_law_L_hire ⟨Nat.le_of_ble_eq_true rfl, Nat.le_of_ble_eq_true rfl⟩ dL_law_496 (pl_w _ _ _) rfl rfl (Nat.le_of_ble_eq_true rfl) ⟨by omega, by omega⟩ rfl ?_
      refine x_perm (ws' := xLw y aH aG aN aF aT aM aO G N F T M O) (pl_w _ _ _).symm ?_
      exact tail 1 0 G N F T M' O h2 h3 (fun h => absurd h (by decide)) R1
    · obtain ⟨rfl, h3⟩ := h3
      refine x_callW (q := 499) C hT (wLt_hire_1 (l := l) (D := D) (y := y) (aH := aH) (aG := aG) (aN := aN) (aF := aF) (aT := aT) (aO := aO) (O := O) hT.1 h1) yw_hire gL_law_L_hire ⟨Nat.le_of_ble_eq_true rfl, Nat.le_of_ble_eq_true rfl⟩ dL_law_496 (pl_w _ _ _) rfl rfl (Nat.le_of_ble_eq_true rfl) ⟨by omega, by omega⟩ rfl ?_
      refine x_perm (ws' := xLw y aH aG aN aF aT aM aO G N F T M O) (pl_w _ _ _).symm ?_
      exact tail 2 0 G N F T M' O h2 h3 (fun h => absurd h (by decide)) R1
    · obtain ⟨rfl, h3⟩ := h3
      refine x_callW (q := 499) C hT (wLt_hire_2 (l := l) (D := D) (y := y) (aH := aH) (aG := aG) (aN := aN) (aF := aF) (aT := aT) (aO := aO) (O := O) hT.1 h1) yw_hire gL_law_L_hire ⟨Nat.le_of_ble_eq_true rfl, Nat.le_of_ble_eq_true rfl⟩ dL_law_496 (pl_w _ _ _) rfl rfl (Nat.le_of_ble_eq_true rfl) ⟨by omega, by omega⟩ rfl ?_
      refine x_perm (ws' := xLw y aH aG aN aF aT aM aO G N F T M O) (pl_w _ _ _).symm ?_
      exact tail 3 0 G N F T M' O h2 h3 (fun h => absurd h (by decide)) R1
  · skip
    refine x_callW (q := 499) C hT (wLr_hire (l := l) (D := D) (y := y) (aH := aH) (aG := aG) (aN := aN) (aF := aF) (aT := aT) (aO := aO) (O := O) hT.1 h1) yw_hire gL_law_L_hire ⟨Nat.le_of_ble_eq_true rfl, Nat.le_of_ble_eq_true rfl⟩ dL_law_496 (pl_w _ _ _) rfl rfl (Nat.le_of_ble_eq_true rfl) ⟨by omega, by omega⟩ rfl ?_
    refine x_perm (ws' := xLw y aH aG aN aF aT aM aO G N' F T' M (vp_updL O (0 : Int32).toNatClampNeg r.toInt64)) (pl_w _ _ _).symm ?_
    exact tail 0 r G N' F T' M' (vp_updL O (0 : Int32).toNatClampNeg r.toInt64) h2 h3 (fun _ => if_pos rfl) R1
