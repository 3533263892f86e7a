/-! THE LAST OF isSame: two means; the contracts of isSame and of build -/
theorem xnan {a : UInt64} (h : isNaN64 a = true) (b : UInt64) : FP.dcmp a b = none := by
  refine (FP.Core.dcmp_none a b).mpr (Or.inl ?_)
  rw [← FP.Core.dIsNaN_iff, FP.Core.isNaN_bits]
  have h1 := isNaN64_iff.mp h
  have e := Nat.and_two_pow_sub_one_eq_mod a.toNat 63
  rw [show (0x7fffffffffffffff : Nat) = 2 ^ 63 - 1 from rfl, e] at h1
  exact h1
theorem xalike {x q : UInt64} (h : alike64 x q = true) : x = q ∨ (isNaN64 x = true ∧ isNaN64 q = true) := by
  unfold alike64 at h
  rcases Bool.or_eq_true_iff.mp h with h | h
  · exact Or.inl (of_decide_eq_true h)
  · exact Or.inr (Bool.and_eq_true_iff.mp h)
section XLAWD
variable {p : Program} {l : Launch} {e : Env} {R : Room} {s : State} {m : MethodId} {args : Array Value} {below : List Frame} {meth : Method} {c : Code} {Q : State → Prop}
variable {D : va_G} {A : Nat → Prop} {cc : ByteArray} {own : String} {nL : Nat} {Ts : List Cond} {tys : List (ClassId × FieldType)} {rt : Option FieldType}
variable {ws ws' Wc Wr : va_W} {k n pc q mc ms rf rl idx ci b na maxL2 : Nat} {L L' : List (Nat × Value)} {st As rest : List Value} {S : Type} {y2 : MethodName} {ws2 : List Cond} {b2 : ByteArray} {ret2 : Option FieldType} {fs : List Value} {C2 : String} {T2 : u_T} {N2 : Nat}
theorem x_dcmp (C : xC p s m args meth c D A cc own nL Ts tys rt) {x y : UInt64} {op : CmpOp} (d : decode cc pc = .ok (.dcmp op, 1)) (hq : pc + 1 = q) (kk : xV p l e R s m args below meth c D A Q nL ws k n L q (.int (Op.cmpValue (FP.dcmp x y) op) :: st)) : xV p l e R s m args below meth c D A Q nL ws k n L pc (.double y :: .double x :: st) :=
  fun H locs ls hP hD hS hl => lv_dcmp C.1 C.2.1 d (hq ▸ kk H locs ls hP hD hS hl)
theorem x_callDV {d0 : Drawn} (hd0 : s.drawn.sameBut d0 lw_cs) {post : UInt64 → S → Prop} {W2 : S → va_W} (C : xC p (s.setDrawn d0) m args meth c D A cc own nL Ts tys rt) (M : xMd l y2 ws2 rf rl mc ms D tys (.ref b :: As) Wc post W2) (hy : xY y2 ws2 b2 maxL2 ret2 na) (hG : GoodIn Ts (wsV own idx C2 y2 ws2)) (hcls : y2.cls = C2) (ho : xO Wc b ci fs) (hci : vwCl[ci]? = some (C2, T2, N2)) (hR : rf + 1 ≤ R.frames ∧ 8 + (maxL2 + 11) + rl ≤ R.locals) (d : decode cc pc = .ok (.invokevirtual idx, 3)) (hpm : ws.Perm (Wc ++ Wr)) (hst : st = As.reverse ++ .ref b :: rest) (hlen : As.length = na) (hW : (rest.map fun v => v.category).sum ≤ 8) (hf : k + mc ≤ R.cells ∧ n + ms ≤ R.slots) (hq : pc + 3 = q) (kk : ∀ (r : UInt64) (u : S) (d1 : Drawn), post r u → s.drawn.sameBut d1 lw_cs → xC p (s.setDrawn d1) m args meth c D A cc own nL Ts tys rt → xV p l e R (s.setDrawn d1) m args below meth c D A Q nL (W2 u ++ Wr) (k + mc) (n + ms) L q (.double r :: rest)) : xV p l e R (s.setDrawn d0) m args below meth c D A Q nL ws k n L pc st := by
  intro H locs ls hP hD hS hl
  have C0 := C
  obtain ⟨hx, hb, hml, hown, hts, hK, hret, hlk, hA⟩ := C
  have hP2 := xP_perm hpm hP
  have hD2 := xD_perm hpm hD
  have hPc := xP_left hP2
  have hDc := xD_left hD2
  have hFc := xFree hD2 hS hA
  obtain ⟨⟨wsY, hyw⟩, hy2⟩ := hy
  obtain ⟨q0, h0⟩ := ho
  subst hst
  have hW : 2 * (F0 m pc ls (As.reverse ++ .ref b :: rest)).monitorRoom + (rest.map fun v => v.category).sum ≤ 8 := lv_room hW
  refine va_calldD hd0 (va_runV_D (As := As) (rest := rest) ⟨hx, hb, hml, hown, hts⟩ (M H.size) (cwV na hts hG hyw rfl rfl ⟨hcls, hy2.1, hy2.2.1, hy2.2.2⟩ hR) ⟨xPc_blind, va_recv hK hPc hci h0, fun U hU hW => ⟨rfl, by rw [hU], by rw [hU]; exact hPc, va_K.moved hW.alike hK, hDc.weaken (fun _ _ _ _ => trivial)⟩⟩ rfl hlen hl.1 rfl hW d hf) hS (fun q _ h => hFc q h) hFc (fun r u t H1 locs1 ht hvm hw hB hz1 hk1 hS1 d1 hd1 => ?_)
  obtain ⟨hP1, hK1, hD1⟩ := hB
  rw [ht] at hP1
  obtain ⟨hP3, hD3⟩ := xJoin hP2 hD2 hFc hk1 hP1 hD1
  exact hq ▸ kk r u d1 hw hd1 (xC_d C0 d1) H1 locs1 ls hP3 hD3 hS1 hl
def xMdi (l : Launch) (y : MethodName) (wsM : List Cond) (rf rl mc ms : Nat) (D : va_G) (tys : List (ClassId × FieldType)) (av : List Value) (Wc : va_W) {S : Type} (post : Int32 → S → Prop) (W' : S → va_W) : Prop :=
  ∀ sz : Nat, MetD lw_cs l y wsM { frames := rf, cells := mc, slots := ms, locals := rl } (xPc D tys av sz Wc) (va_Qi post (fun u t => xE D tys (va_A Wc sz) (W' u) t) (va_A Wc sz)) mc ms (va_A Wc sz)
def xQdi (D : va_G) (tys : List (ClassId × FieldType)) (A : Nat → Prop) {S : Type} (post : Int32 → S → Prop) (W' : S → va_W) (mc ms : Nat) (below : List Frame) (args : Array Value) (s : State) : State → Prop := MQD lw_cs below (va_Qi post (fun u t => xE D tys A (W' u) t) A) args s mc ms A
theorem xMdi_of {l : Launch} {y : MethodName} {wsM ws' : List Cond} {cc : ByteArray} {nL rf rl mc ms : Nat} {ret : Option FieldType} {D : va_G} {tys : List (ClassId × FieldType)} {av : List Value} {Wc : va_W} {S : Type} {post : Int32 → S → Prop} {W' : S → va_W} (L : List (Nat × Value)) (hy : plainName y.cls = true) (hw : wsM = Cond.code y cc nL ret :: ws') (hn : (lg_sl av).length ≤ nL) (hL : lv_args 0 av = L)
    (body : ∀ (p : Program) (e : Env) (s : State) (m : MethodId) (args : Array Value) (below : List Frame) (meth : Method) (c : Code) (A : Nat → Prop), xC p (s.setDrawn s.drawn) m args meth c D A cc y.cls nL wsM tys ret → s.drawn.sameBut s.drawn lw_cs → xV p l e { frames := rf, cells := mc, slots := ms, locals := rl } (s.setDrawn s.drawn) m args below meth c D A (xQdi D tys A post W' mc ms below args s) nL Wc 0 0 L 0 []) : xMdi l y wsM rf rl mc ms D tys av Wc post W' := by
  intro sz
  refine MetD.ofW (cc := cc) (maxL := nL) (ret := ret) hy hw ?_
  intro p e s m args below meth c s₁ B hml hv hd0
  obtain ⟨rfl, hsz, hP, hK, hD0⟩ := hv
  subst hsz
  have hD := hD0.self (sz := s.heap.size)
  have hl := lv_entry av hn
  rw [hL] at hl
  have key := body p e s m av.toArray below meth c (va_A Wc s.heap.size) ⟨B.exec, B.bytes, hml, findClass_of_methodNamed B.named, dr_words (atoms_spec (ws := wsM) B.pre) s.drawn, hK, B.returns, B.notSynchronized, fun q h => Or.inr h⟩ hd0 s.heap [] _ hP hD va_S.rf hl
  rw [← lg_entry_eq] at key
  exact key
theorem x_callDVi {d0 : Drawn} (hd0 : s.drawn.sameBut d0 lw_cs) {post : Int32 → S → Prop} {W2 : S → va_W} (C : xC p (s.setDrawn d0) m args meth c D A cc own nL Ts tys rt) (M : xMdi l y2 ws2 rf rl mc ms D tys (.ref b :: As) Wc post W2) (hy : xY y2 ws2 b2 maxL2 ret2 na) (hG : GoodIn Ts (wsV own idx C2 y2 ws2)) (hcls : y2.cls = C2) (ho : xO Wc b ci fs) (hci : vwCl[ci]? = some (C2, T2, N2)) (hR : rf + 1 ≤ R.frames ∧ 8 + (maxL2 + 11) + rl ≤ R.locals) (d : decode cc pc = .ok (.invokevirtual idx, 3)) (hpm : ws.Perm (Wc ++ Wr)) (hst : st = As.reverse ++ .ref b :: rest) (hlen : As.length = na) (hW : (rest.map fun v => v.category).sum ≤ 8) (hf : k + mc ≤ R.cells ∧ n + ms ≤ R.slots) (hq : pc + 3 = q) (kk : ∀ (r : Int32) (u : S) (d1 : Drawn), post r u → s.drawn.sameBut d1 lw_cs → xC p (s.setDrawn d1) m args meth c D A cc own nL Ts tys rt → xV p l e R (s.setDrawn d1) m args below meth c D A Q nL (W2 u ++ Wr) (k + mc) (n + ms) L q (.int r :: rest)) : xV p l e R (s.setDrawn d0) m args below meth c D A Q nL ws k n L pc st := by
  intro H locs ls hP hD hS hl
  have C0 := C
  obtain ⟨hx, hb, hml, hown, hts, hK, hret, hlk, hA⟩ := C
  have hP2 := xP_perm hpm hP
  have hD2 := xD_perm hpm hD
  have hPc := xP_left hP2
  have hDc := xD_left hD2
  have hFc := xFree hD2 hS hA
  obtain ⟨⟨wsY, hyw⟩, hy2⟩ := hy
  obtain ⟨q0, h0⟩ := ho
  subst hst
  have hW : 2 * (F0 m pc ls (As.reverse ++ .ref b :: rest)).monitorRoom + (rest.map fun v => v.category).sum ≤ 8 := lv_room hW
  refine va_calliD hd0 (va_runV_D (As := As) (rest := rest) ⟨hx, hb, hml, hown, hts⟩ (M H.size) (cwV na hts hG hyw rfl rfl ⟨hcls, hy2.1, hy2.2.1, hy2.2.2⟩ hR) ⟨xPc_blind, va_recv hK hPc hci h0, fun U hU hW => ⟨rfl, by rw [hU], by rw [hU]; exact hPc, va_K.moved hW.alike hK, hDc.weaken (fun _ _ _ _ => trivial)⟩⟩ rfl hlen hl.1 rfl hW d hf) hS (fun q _ h => hFc q h) hFc (fun r u t H1 locs1 ht hvm hw hB hz1 hk1 hS1 d1 hd1 => ?_)
  obtain ⟨hP1, hK1, hD1⟩ := hB
  rw [ht] at hP1
  obtain ⟨hP3, hD3⟩ := xJoin hP2 hD2 hFc hk1 hP1 hD1
  exact hq ▸ kk r u d1 hw hd1 (xC_d C0 d1) H1 locs1 ls hP3 hD3 hS1 hl
theorem x_zretD {S : Type} {post : Int32 → S → Prop} {W' : S → va_W} {v : Int32} (u : S) {d0 : Drawn} (hd0 : s.drawn.sameBut d0 lw_cs) (C : xC p (s.setDrawn d0) m args meth c D A cc own nL Ts tys ret) (d : decode cc pc = .ok (.ireturn, 1)) (hr : ret = some .boolean) (hn : narrow .boolean (.int v) = .int v) (hp : post v u) (hw : ws = W' u) (h1 : k ≤ mc) (h2 : n ≤ ms) : xV p l e R (s.setDrawn d0) m args below meth c D A (xQdi D tys A post W' mc ms below args s) nL ws k n L pc [.int v] := by
  intro H locs ls hP hD hS hl
  subst hw
  obtain ⟨hx, hb, -, hown, hts, hK, hret, hlk, hA⟩ := C
  refine W.endD hd0 (W.widen h1 h2 ?_)
  exact W.zret (v := v) hx hb (hret.trans hr) hn (fun t ht hW => ⟨⟨v, u, rfl, hp, by rw [ht]; exact hP, va_K.moved hW.alike hK, hD⟩, hS.F ht⟩) hS.2.2 d hlk
end XLAWD
theorem q_cmp {v n : Int32} {x y : UInt64} (hn : ¬ n = 0) (hx : alike64 x (FP.ddiv (FP.i2d v) (FP.i2d n)) = true) (hy : alike64 y (FP.ddiv (FP.i2d v) (FP.i2d n)) = true) : Op.cmpValue (FP.dcmp x y) .l = 0 := by
  have hz : ¬ Jvm.FP.Core.DZero (FP.i2d n) := fun h => Jvm.FP.Core.i2d_ne_zero hn ((Jvm.FP.Core.zero_bits2 _).mp h)
  have h1 := Jvm.FP.Core.ddiv_out (Jvm.FP.Core.i2d_fin v).notNaN (Jvm.FP.Core.i2d_fin n) hz
  have h2 : FP.dcmp (FP.ddiv (FP.i2d v) (FP.i2d n)) (FP.ddiv (FP.i2d v) (FP.i2d n)) = some .eq := FP.Core.dcmp_self ((Jvm.FP.Core.notNaN_iff _).mp h1)
  have h3 : ¬ isNaN64 (FP.ddiv (FP.i2d v) (FP.i2d n)) = true := fun h => by
    have := xnan h (FP.ddiv (FP.i2d v) (FP.i2d n))
    rw [h2] at this
    cases this
  have e1 := (xalike hx).elim id (fun h => absurd h.2 h3)
  have e2 := (xalike hy).elim id (fun h => absurd h.2 h3)
  rw [e1, e2, h2]
  rfl
theorem yi_X2_mean : xY yX2_mean wsX2_mean cX2_mean 1 (some .double) 0 := ⟨⟨_, rfl⟩, by decide +kernel, by decide +kernel, by decide +kernel⟩
set_option maxHeartbeats 4000000 in
theorem c6_same {l : Launch} {D : va_G} {y : Nat → ClassId} {bS aH : Nat} {aG aN aF aT aS : Nat → Nat} {G N F T : St} {Y : Nat → Nat} {S : St} {v : Int32} (hf : f6_same G N F T Y S = some ()) (hn : ¬ Int32.ofNat (Y 3) = 0) (hm : f2_mean G N F T = some (some (v, Int32.ofNat (Y 3)))) (hs : f5_sum Y S 3 = some v) : xMdi l yX3_isSame wsX3_isSame 8 133 100 600 D (xT y) [.ref bS, .ref aH] (hC aH aN aF aT aG ++ (gC y aG G ++ (nC y aN N ++ (nC y aF F ++ (tC y aT T ++ sC y bS aS Y S))))) (fun (r' : Int32) (_ : Unit) => r' = 1) (fun _ : Unit => hC aH aN aF aT aG ++ (gC y aG G ++ (nC y aN N ++ (nC y aF F ++ (tC y aT T ++ sC y bS aS Y S))))) := by
  refine xMdi_of (cc := cX3_isSame) (nL := 6) (ret := (some .boolean)) [(0, .ref bS), (1, .ref aH)] (by decide) rfl (Nat.le_of_ble_eq_true rfl) rfl ?_
  intro p e s m args below meth c A C hd0
  have C : xC p (s.setDrawn s.drawn) m args meth c D A cX3_isSame RX3 6 wsX3_isSame (xT y) (some .boolean) := C
  refine w6_same C hf ?_
  refine x_aload_n (q := 390) C 1 dX3_isSame_389 rfl rfl rfl ?_
  refine x_callDV (q := 393) (As := []) (rest := []) hd0 C (c2_mean (l := l) (D := D) (y := y) (aH := aH) (aG := aG) (aN := aN) (aF := aF) (aT := aT) hm) yi_X2_mean gX3_isSame_X2_mean rfl (oX2 aH aN aF aT aG).L rfl ⟨Nat.le_of_ble_eq_true rfl, Nat.le_of_ble_eq_true rfl⟩ dX3_isSame_390 (pm6_01234 _ _ _ _ _ _) rfl rfl (Nat.le_of_ble_eq_true rfl) ⟨Nat.le_of_ble_eq_true rfl, Nat.le_of_ble_eq_true rfl⟩ rfl ?_
  intro r1 uu d1 hr1 hd1 C
  refine x_perm (ws' := hC aH aN aF aT aG ++ (gC y aG G ++ (nC y aN N ++ (nC y aF F ++ (tC y aT T ++ sC y bS aS Y S))))) (pm6_01234 _ _ _ _ _ _).symm ?_
  refine x_aload_n (q := 394) C 0 dX3_isSame_393 rfl rfl rfl ?_
  refine x_get (q := 397) C 2 dX3_isSame_394 ((((((oX3 y bS aS Y S).R).R).R).R).R) rfl iuX3_isSame_X3 flX3_isSame_18 rfl (by decide) rfl rfl ?_
  refine x_alenr (q := 398) C 2 dX3_isSame_397 ((((((gX3_2 y bS aS Y S).R).R).R).R).R) rfl rfl ?_
  refine x_if_ne (t := 405) (q := 401) C dX3_isSame_398 (by decide) rfl (fun hc => ?_) (fun hc => absurd hc hn)
  refine x_aload_n (q := 406) C 0 dX3_isSame_405 rfl rfl rfl ?_
  refine x_iconst (v := 3) (q := 407) C dX3_isSame_406 rfl rfl ?_
  refine x_callVi (q := 410) (As := [.int 3]) (rest := [.double r1]) C (c5_sum (l := l) (D := D) (y := y) (bS := bS) (aS := aS) hs) yi_X3_sum gX3_isSame_X3_sum rfl (oX3 y bS aS Y S) rfl ⟨Nat.le_of_ble_eq_true rfl, Nat.le_of_ble_eq_true rfl⟩ dX3_isSame_407 (pm6_5 _ _ _ _ _ _) rfl rfl (Nat.le_of_ble_eq_true rfl) ⟨Nat.le_of_ble_eq_true rfl, Nat.le_of_ble_eq_true rfl⟩ rfl ?_
  intro rr u2 hrr
  have hrr : v = rr := Eq.symm hrr
  subst hrr
  refine x_perm (ws' := hC aH aN aF aT aG ++ (gC y aG G ++ (nC y aN N ++ (nC y aF F ++ (tC y aT T ++ sC y bS aS Y S))))) (pm6_5 _ _ _ _ _ _).symm ?_
  refine x_i2d (q := 411) C dX3_isSame_410 rfl ?_
  refine x_aload_n (q := 412) C 0 dX3_isSame_411 rfl rfl rfl ?_
  refine x_get (q := 415) C 2 dX3_isSame_412 ((((((oX3 y bS aS Y S).R).R).R).R).R) rfl iuX3_isSame_X3 flX3_isSame_18 rfl (by decide) rfl rfl ?_
  refine x_alenr (q := 416) C 2 dX3_isSame_415 ((((((gX3_2 y bS aS Y S).R).R).R).R).R) rfl rfl ?_
  refine x_i2d (q := 417) C dX3_isSame_416 rfl ?_
  refine x_ddiv (q := 418) hd1 C dX3_isSame_417 rfl (fun r2 d2 hr2 hd2 C => ?_)
  refine x_dcmp (q := 419) C dX3_isSame_418 rfl ?_
  refine x_topi (v := 0) (q_cmp hn hr1 hr2).symm ?_
  refine x_if_ne (t := 426) (q := 422) C dX3_isSame_419 (by decide) rfl (fun hc => absurd rfl hc) (fun hc => ?_)
  refine x_iconst (v := 1) (q := 423) C dX3_isSame_422 rfl rfl ?_
  refine x_goto (t := 427) C dX3_isSame_423 (by decide) ?_
  exact x_zretD () hd2 C dX3_isSame_427 rfl rfl rfl rfl (Nat.le_of_ble_eq_true rfl) (Nat.le_of_ble_eq_true rfl)
