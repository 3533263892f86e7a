/-! FACTS OF THE TABLES that arrays of arrays and clones want, and the contracts that carry them -/
def xJ2 (U : State) : Prop := va_Nw (.castable "[I" "java/lang/Cloneable") U ∧ va_AOA .int U ∧ va_Nw (.methodLinkNest RX2 11 yX1_init "LampHills") U ∧ va_Nw (.methodLinkNest RX2 18 yX0_init "LampHills") U
theorem xJ2.warm {s U : State} (hW : s.WarmedH U.vm) (h : xJ2 s) : xJ2 U := ⟨va_Nw.warmC hW h.1, over_moved hW.alike h.2.1, va_Nw.warmM hW h.2.2.1, va_Nw.warmM hW h.2.2.2⟩
theorem xJ2.same {u U : State} (hv : U.vm = u.vm) (h : xJ2 u) : xJ2 U := ⟨va_Nw.same rfl hv.symm h.1, over_moved (hv ▸ Vm.Alike.refl u.vm) h.2.1, va_Nw.same rfl hv.symm h.2.2.1, va_Nw.same rfl hv.symm h.2.2.2⟩
def xPj (D : va_G) (tys : List (ClassId × FieldType)) (av : List Value) (sz : Nat) (Wc : va_W) : Array Value → State → Prop :=
  va_Pc av (fun U => U.heap.size = sz ∧ va_P D vwCl Wc U.heap ∧ va_K D vwCl tys U ∧ va_D (fun _ => True) Wc ∧ xJ2 U)
theorem xPj_blind {D : va_G} {tys : List (ClassId × FieldType)} {av : List Value} {sz : Nat} {Wc : va_W} : FrameBlind (xPj D tys av sz Wc) := by
  intro a U g mk q
  obtain ⟨q0, q1, qP, qK, qD, qJ⟩ := q
  exact ⟨q0, q1, qP, va_K.moved (u := U) (U := U.calling g mk a) (Vm.Alike.refl U.vm) qK, qD, xJ2.same (u := U) (U := U.calling g mk a) rfl qJ⟩
def xMJi (l : Launch) (y : MethodName) (wsM : List Cond) (rf rl mc ms : Nat) (D : va_G) (tys : List (ClassId × FieldType)) (av : List Value) (Wc : va_W) {S : Type} (post : Int32 → S → Prop) (W' : S → va_W) : Prop :=
  ∀ sz : Nat, Met l y wsM { frames := rf, cells := mc, slots := ms, locals := rl } (xPj D tys av sz Wc) (va_Qi post (fun u t => xE D tys (va_A Wc sz) (W' u) t) (va_A Wc sz)) mc ms (va_A Wc sz)
theorem xMJi_of {l : Launch} {y : MethodName} {wsM ws' : List Cond} {cc : ByteArray} {nL rf rl mc ms : Nat} {ret : Option FieldType} {D : va_G} {tys : List (ClassId × FieldType)} {av : List Value} {Wc : va_W} {S : Type} {post : Int32 → S → Prop} {W' : S → va_W} (L : List (Nat × Value)) (hy : plainName y.cls = true) (hw : wsM = Cond.code y cc nL ret :: ws') (hn : (lg_sl av).length ≤ nL) (hL : lv_args 0 av = L)
    (body : ∀ (p : Program) (e : Env) (s : State) (m : MethodId) (args : Array Value) (below : List Frame) (meth : Method) (c : Code) (A : Nat → Prop), xC p s m args meth c D A cc y.cls nL wsM tys ret → (y.name = "<init>" → meth.name = "<init>") → xJ2 s → xV p l e { frames := rf, cells := mc, slots := ms, locals := rl } s m args below meth c D A (xQi D tys A post W' mc ms below args s) nL Wc 0 0 L 0 []) : xMJi l y wsM rf rl mc ms D tys av Wc post W' := by
  intro sz
  refine Met.ofW (cc := cc) (maxL := nL) (ret := ret) hy hw ?_
  intro p e s m args below meth c s₁ B hml hv
  obtain ⟨rfl, hsz, hP, hK, hD0, hJ⟩ := hv
  subst hsz
  have hD := hD0.self (sz := s.heap.size)
  have hl := lv_entry av hn
  rw [hL] at hl
  have key := body p e s m av.toArray below meth c (va_A Wc s.heap.size) ⟨B.exec, B.bytes, hml, findClass_of_methodNamed B.named, atoms_spec (ws := wsM) B.pre, hK, B.returns, B.notSynchronized, fun q h => Or.inr h⟩ (fun h => (name_of_methodNamed B.named B.method).1.trans h) hJ s.heap [] _ hP hD va_S.rf hl
  rw [← lg_entry_eq] at key
  exact key
def xMJv (l : Launch) (y : MethodName) (wsM : List Cond) (rf rl mc ms : Nat) (D : va_G) (tys : List (ClassId × FieldType)) (av : List Value) (Wc : va_W) {S : Type} (post : S → Prop) (W' : S → va_W) : Prop :=
  ∀ sz : Nat, Met l y wsM { frames := rf, cells := mc, slots := ms, locals := rl } (xPj D tys av sz Wc) (va_Qv post (fun u t => xE D tys (va_A Wc sz) (W' u) t) (va_A Wc sz)) mc ms (va_A Wc sz)
theorem xMJv_of {l : Launch} {y : MethodName} {wsM ws' : List Cond} {cc : ByteArray} {nL rf rl mc ms : Nat} {ret : Option FieldType} {D : va_G} {tys : List (ClassId × FieldType)} {av : List Value} {Wc : va_W} {S : Type} {post : S → Prop} {W' : S → va_W} (L : List (Nat × Value)) (hy : plainName y.cls = true) (hw : wsM = Cond.code y cc nL ret :: ws') (hn : (lg_sl av).length ≤ nL) (hL : lv_args 0 av = L)
    (body : ∀ (p : Program) (e : Env) (s : State) (m : MethodId) (args : Array Value) (below : List Frame) (meth : Method) (c : Code) (A : Nat → Prop), xC p s m args meth c D A cc y.cls nL wsM tys ret → (y.name = "<init>" → meth.name = "<init>") → xJ2 s → xV p l e { frames := rf, cells := mc, slots := ms, locals := rl } s m args below meth c D A (xQv D tys A post W' mc ms below args s) nL Wc 0 0 L 0 []) : xMJv l y wsM rf rl mc ms D tys av Wc post W' := by
  intro sz
  refine Met.ofW (cc := cc) (maxL := nL) (ret := ret) hy hw ?_
  intro p e s m args below meth c s₁ B hml hv
  obtain ⟨rfl, hsz, hP, hK, hD0, hJ⟩ := hv
  subst hsz
  have hD := hD0.self (sz := s.heap.size)
  have hl := lv_entry av hn
  rw [hL] at hl
  have key := body p e s m av.toArray below meth c (va_A Wc s.heap.size) ⟨B.exec, B.bytes, hml, findClass_of_methodNamed B.named, atoms_spec (ws := wsM) B.pre, hK, B.returns, B.notSynchronized, fun q h => Or.inr h⟩ (fun h => (name_of_methodNamed B.named B.method).1.trans h) hJ s.heap [] _ hP hD va_S.rf hl
  rw [← lg_entry_eq] at key
  exact key
def xMJr (l : Launch) (y : MethodName) (wsM : List Cond) (rf rl mc ms : Nat) (D : va_G) (tys : List (ClassId × FieldType)) (av : List Value) (Wc : va_W) {S : Type} (post : S → Prop) (W' : S → Nat → va_W) : Prop :=
  ∀ sz : Nat, Met l y wsM { frames := rf, cells := mc, slots := ms, locals := rl } (xPj D tys av sz Wc) (va_Qr post (fun u a t => xE D tys (va_A Wc sz) (W' u a) t) (va_A Wc sz)) mc ms (va_A Wc sz)
/-- what a place of a world is: an array of ints (of that class), and the world with another content there -/
theorem xMJr_of {l : Launch} {y : MethodName} {wsM ws' : List Cond} {cc : ByteArray} {nL rf rl mc ms : Nat} {ret : Option FieldType} {D : va_G} {tys : List (ClassId × FieldType)} {av : List Value} {Wc : va_W} {S : Type} {post : S → Prop} {W' : S → Nat → va_W} (L : List (Nat × Value)) (hy : plainName y.cls = true) (hw : wsM = Cond.code y cc nL ret :: ws') (hn : (lg_sl av).length ≤ nL) (hL : lv_args 0 av = L)
    (body : ∀ (p : Program) (e : Env) (s : State) (m : MethodId) (args : Array Value) (below : List Frame) (meth : Method) (c : Code) (A : Nat → Prop), xC p s m args meth c D A cc y.cls nL wsM tys ret → (y.name = "<init>" → meth.name = "<init>") → xJ2 s → xV p l e { frames := rf, cells := mc, slots := ms, locals := rl } s m args below meth c D A (xQr D tys A post W' mc ms below args s) nL Wc 0 0 L 0 []) : xMJr l y wsM rf rl mc ms D tys av Wc post W' := by
  intro sz
  refine Met.ofW (cc := cc) (maxL := nL) (ret := ret) hy hw ?_
  intro p e s m args below meth c s₁ B hml hv
  obtain ⟨rfl, hsz, hP, hK, hD0, hJ⟩ := hv
  subst hsz
  have hD := hD0.self (sz := s.heap.size)
  have hl := lv_entry av hn
  rw [hL] at hl
  have key := body p e s m av.toArray below meth c (va_A Wc s.heap.size) ⟨B.exec, B.bytes, hml, findClass_of_methodNamed B.named, atoms_spec (ws := wsM) B.pre, hK, B.returns, B.notSynchronized, fun q h => Or.inr h⟩ (fun h => (name_of_methodNamed B.named B.method).1.trans h) hJ s.heap [] _ hP hD va_S.rf hl
  rw [← lg_entry_eq] at key
  exact key
section XCALL
variable {p : Program} {l : Launch} {e : Env} {R : Room} {s : State} {m : MethodId} {args : Array Value} {below : List Frame} {meth : Method} {c : Code} {Q : State → Prop}
variable {D : va_G} {A : Nat → Prop} {cc : ByteArray} {own : String} {nL : Nat} {Ts : List Cond} {tys : List (ClassId × FieldType)} {ret : Option FieldType}
variable {ws Wc Wr : va_W} {k n pc q mc ms rf rl idx ci b na maxL2 : Nat} {L : List (Nat × Value)} {st As rest : List Value} {S : Type} {y2 : MethodName} {ws2 : List Cond} {b2 : ByteArray} {ret2 : Option FieldType} {fs : List Value} {C2 : String} {T2 : u_T} {N2 : Nat}
theorem x_callJVi {post : Int32 → S → Prop} {W2 : S → va_W} (C : xC p s m args meth c D A cc own nL Ts tys ret) (hJ : xJ2 s) (M : xMJi l y2 ws2 rf rl mc ms D tys (.ref b :: As) Wc post W2) (hy : xY y2 ws2 b2 maxL2 ret2 na) (hG : GoodIn Ts (wsV own idx C2 y2 ws2)) (hcls : y2.cls = C2) (ho : xO Wc b ci fs) (hci : vwCl[ci]? = some (C2, T2, N2)) (hR : rf + 1 ≤ R.frames ∧ 8 + (maxL2 + 11) + rl ≤ R.locals) (d : decode cc pc = .ok (.invokevirtual idx, 3)) (hpm : ws.Perm (Wc ++ Wr)) (hst : st = As.reverse ++ .ref b :: rest) (hlen : As.length = na) (hW : (rest.map fun v => v.category).sum ≤ 8) (hf : k + mc ≤ R.cells ∧ n + ms ≤ R.slots) (hq : pc + 3 = q) (kk : ∀ (r : Int32) (u : S), post r u → xV p l e R s m args below meth c D A Q nL (W2 u ++ Wr) (k + mc) (n + ms) L q (.int r :: rest)) : xV p l e R s m args below meth c D A Q nL ws k n L pc st := by
  intro H locs ls hP hD hS hl
  obtain ⟨hx, hb, hml, hown, hts, hK, hret, hlk, hA⟩ := C
  have hP2 := xP_perm hpm hP
  have hD2 := xD_perm hpm hD
  have hPc := xP_left hP2
  have hDc := xD_left hD2
  have hFc := xFree hD2 hS hA
  obtain ⟨⟨wsY, hyw⟩, hy2⟩ := hy
  obtain ⟨q0, h0⟩ := ho
  subst hst
  have hW : 2 * (F0 m pc ls (As.reverse ++ .ref b :: rest)).monitorRoom + (rest.map fun v => v.category).sum ≤ 8 := lv_room hW
  refine va_calli (va_runV (As := As) (rest := rest) ⟨hx, hb, hml, hown, hts⟩ (M H.size) (cwV na hts hG hyw rfl rfl ⟨hcls, hy2.1, hy2.2.1, hy2.2.2⟩ hR) ⟨xPj_blind, va_recv hK hPc hci h0, fun U hU hW => ⟨rfl, by rw [hU], by rw [hU]; exact hPc, va_K.moved hW.alike hK, hDc.weaken (fun _ _ _ _ => trivial), hJ.warm hW⟩⟩ rfl hlen hl.1 rfl hW d hf) hS (fun q _ h => hFc q h) hFc (fun r u t H1 locs1 ht hvm hw hB hz1 hk1 hS1 => ?_)
  obtain ⟨hP1, hK1, hD1⟩ := hB
  rw [ht] at hP1
  obtain ⟨hP3, hD3⟩ := xJoin hP2 hD2 hFc hk1 hP1 hD1
  exact hq ▸ kk r u hw H1 locs1 ls hP3 hD3 hS1 hl
theorem x_callJVr {post : S → Prop} {W2 : S → Nat → va_W} (C : xC p s m args meth c D A cc own nL Ts tys ret) (hJ : xJ2 s) (M : xMJr l y2 ws2 rf rl mc ms D tys (.ref b :: As) Wc post W2) (hy : xY y2 ws2 b2 maxL2 ret2 na) (hG : GoodIn Ts (wsV own idx C2 y2 ws2)) (hcls : y2.cls = C2) (ho : xO Wc b ci fs) (hci : vwCl[ci]? = some (C2, T2, N2)) (hR : rf + 1 ≤ R.frames ∧ 8 + (maxL2 + 11) + rl ≤ R.locals) (d : decode cc pc = .ok (.invokevirtual idx, 3)) (hpm : ws.Perm (Wc ++ Wr)) (hst : st = As.reverse ++ .ref b :: rest) (hlen : As.length = na) (hW : (rest.map fun v => v.category).sum ≤ 8) (hf : k + mc ≤ R.cells ∧ n + ms ≤ R.slots) (hq : pc + 3 = q) (kk : ∀ (u : S) (r : Nat), post u → xV p l e R s m args below meth c D A Q nL (W2 u r ++ Wr) (k + mc) (n + ms) L q (.ref r :: rest)) : xV p l e R s m args below meth c D A Q nL ws k n L pc st := by
  intro H locs ls hP hD hS hl
  obtain ⟨hx, hb, hml, hown, hts, hK, hret, hlk, hA⟩ := C
  have hP2 := xP_perm hpm hP
  have hD2 := xD_perm hpm hD
  have hPc := xP_left hP2
  have hDc := xD_left hD2
  have hFc := xFree hD2 hS hA
  obtain ⟨⟨wsY, hyw⟩, hy2⟩ := hy
  obtain ⟨q0, h0⟩ := ho
  subst hst
  have hW : 2 * (F0 m pc ls (As.reverse ++ .ref b :: rest)).monitorRoom + (rest.map fun v => v.category).sum ≤ 8 := lv_room hW
  refine va_callr (va_runV (As := As) (rest := rest) ⟨hx, hb, hml, hown, hts⟩ (M H.size) (cwV na hts hG hyw rfl rfl ⟨hcls, hy2.1, hy2.2.1, hy2.2.2⟩ hR) ⟨xPj_blind, va_recv hK hPc hci h0, fun U hU hW => ⟨rfl, by rw [hU], by rw [hU]; exact hPc, va_K.moved hW.alike hK, hDc.weaken (fun _ _ _ _ => trivial), hJ.warm hW⟩⟩ rfl hlen hl.1 rfl hW d hf) hS (fun q _ h => hFc q h) hFc (fun u r t H1 locs1 ht hvm hw hB hz1 hk1 hS1 => ?_)
  obtain ⟨hP1, hK1, hD1⟩ := hB
  rw [ht] at hP1
  obtain ⟨hP3, hD3⟩ := xJoin hP2 hD2 hFc hk1 hP1 hD1
  exact hq ▸ kk u r hw H1 locs1 ls hP3 hD3 hS1 hl
theorem x_callJIv {post : S → Prop} {W2 : S → va_W} (C : xC p s m args meth c D A cc own nL Ts tys ret) (hJ : xJ2 s) (M : xMJv l y2 ws2 rf rl mc ms D tys (.ref b :: As) Wc post W2) (hy : xY y2 ws2 b2 maxL2 none na) (hG : GoodIn Ts ws2) (hini : Cond.initialized y2.cls ∈ Ts) (hlk2 : Cond.methodLink own idx y2 ∈ Ts) (hin2 : Cond.instanceMethod y2 ∈ Ts) (hnm : y2.name = "<init>") (hR : rf + 1 ≤ R.frames ∧ 8 + (maxL2 + 11) + rl ≤ R.locals) (d : decode cc pc = .ok (.invokespecial idx, 3)) (hpm : ws.Perm (Wc ++ Wr)) (hst : st = As.reverse ++ .ref b :: rest) (hlen : As.length = na) (hW : (rest.map fun v => v.category).sum ≤ 8) (hf : k + mc ≤ R.cells ∧ n + ms ≤ R.slots) (hq : pc + 3 = q) (kk : ∀ (u : S), post u → xV p l e R s m args below meth c D A Q nL (W2 u ++ Wr) (k + mc) (n + ms) L q (rest)) : xV p l e R s m args below meth c D A Q nL ws k n L pc st := by
  intro H locs ls hP hD hS hl
  obtain ⟨hx, hb, hml, hown, hts, hK, hret, hlk, hA⟩ := C
  have hP2 := xP_perm hpm hP
  have hD2 := xD_perm hpm hD
  have hPc := xP_left hP2
  have hDc := xD_left hD2
  have hFc := xFree hD2 hS hA
  obtain ⟨⟨wsY, hyw⟩, hy2⟩ := hy
  subst hst
  have hW : 2 * (F0 m pc ls (As.reverse ++ .ref b :: rest)).monitorRoom + (rest.map fun v => v.category).sum ≤ 8 := lv_room hW
  refine va_callv (va_runI (As := As) (rest := rest) ⟨hx, hb, hml, hown, hts⟩ (M H.size) (cwI na hts hG hyw rfl rfl (hts _ hini) (hts _ hlk2) (hts _ hin2) hnm ⟨hy2.1, hy2.2.1, hy2.2.2⟩ hR) ⟨xPj_blind, fun U hU hW => ⟨rfl, by rw [hU], by rw [hU]; exact hPc, va_K.moved hW.alike hK, hDc.weaken (fun _ _ _ _ => trivial), hJ.warm hW⟩⟩ rfl hlen hl.1 rfl hW d hf) hS (fun q _ h => hFc q h) hFc (fun u t H1 locs1 ht hvm hw hB hz1 hk1 hS1 => ?_)
  obtain ⟨hP1, hK1, hD1⟩ := hB
  rw [ht] at hP1
  obtain ⟨hP3, hD3⟩ := xJoin hP2 hD2 hFc hk1 hP1 hD1
  exact hq ▸ kk u hw H1 locs1 ls hP3 hD3 hS1 hl
theorem x_callNIv {host : String} {post : S → Prop} {W2 : S → va_W} (C : xC p s m args meth c D A cc own nL Ts tys ret) (M : xMv l y2 ws2 rf rl mc ms D tys (.ref b :: As) Wc post W2) (hy : xY y2 ws2 b2 maxL2 none na) (hG : GoodIn Ts ws2) (hini : Cond.initialized y2.cls ∈ Ts) (hlk2 : va_Nw (.methodLinkNest own idx y2 host) s) (hin2 : Cond.instanceMethod y2 ∈ Ts) (hnm : y2.name = "<init>") (hR : rf + 1 ≤ R.frames ∧ 8 + (maxL2 + 11) + rl ≤ R.locals) (d : decode cc pc = .ok (.invokespecial idx, 3)) (hpm : ws.Perm (Wc ++ Wr)) (hst : st = As.reverse ++ .ref b :: rest) (hlen : As.length = na) (hW : (rest.map fun v => v.category).sum ≤ 8) (hf : k + mc ≤ R.cells ∧ n + ms ≤ R.slots) (hq : pc + 3 = q) (kk : ∀ (u : S), post u → xV p l e R s m args below meth c D A Q nL (W2 u ++ Wr) (k + mc) (n + ms) L q (rest)) : xV p l e R s m args below meth c D A Q nL ws k n L pc st := by
  intro H locs ls hP hD hS hl
  obtain ⟨hx, hb, hml, hown, hts, hK, hret, hlk, hA⟩ := C
  have hP2 := xP_perm hpm hP
  have hD2 := xD_perm hpm hD
  have hPc := xP_left hP2
  have hDc := xD_left hD2
  have hFc := xFree hD2 hS hA
  obtain ⟨⟨wsY, hyw⟩, hy2⟩ := hy
  subst hst
  have hW : 2 * (F0 m pc ls (As.reverse ++ .ref b :: rest)).monitorRoom + (rest.map fun v => v.category).sum ≤ 8 := lv_room hW
  refine va_callv (va_runIN (As := As) (rest := rest) ⟨hx, hb, hml, hown, hts⟩ (M H.size) ⟨va_cnB na hts hG hyw rfl rfl hlk2 (hts _ hini) ⟨hy2.1, hy2.2.1, hy2.2.2⟩ hR, hnm, hts _ hin2⟩ ⟨xPc_blind, fun U hU hW => ⟨rfl, by rw [hU], by rw [hU]; exact hPc, va_K.moved hW.alike hK, hDc.weaken (fun _ _ _ _ => trivial)⟩⟩ rfl hlen hl.1 rfl hW d hf) hS (fun q _ h => hFc q h) hFc (fun u t H1 locs1 ht hvm hw hB hz1 hk1 hS1 => ?_)
  obtain ⟨hP1, hK1, hD1⟩ := hB
  rw [ht] at hP1
  obtain ⟨hP3, hD3⟩ := xJoin hP2 hD2 hFc hk1 hP1 hD1
  exact hq ▸ kk u hw H1 locs1 ls hP3 hD3 hS1 hl
theorem x_callJNIv {host : String} {post : S → Prop} {W2 : S → va_W} (C : xC p s m args meth c D A cc own nL Ts tys ret) (hJ : xJ2 s) (M : xMJv l y2 ws2 rf rl mc ms D tys (.ref b :: As) Wc post W2) (hy : xY y2 ws2 b2 maxL2 none na) (hG : GoodIn Ts ws2) (hini : Cond.initialized y2.cls ∈ Ts) (hlk2 : va_Nw (.methodLinkNest own idx y2 host) s) (hin2 : Cond.instanceMethod y2 ∈ Ts) (hnm : y2.name = "<init>") (hR : rf + 1 ≤ R.frames ∧ 8 + (maxL2 + 11) + rl ≤ R.locals) (d : decode cc pc = .ok (.invokespecial idx, 3)) (hpm : ws.Perm (Wc ++ Wr)) (hst : st = As.reverse ++ .ref b :: rest) (hlen : As.length = na) (hW : (rest.map fun v => v.category).sum ≤ 8) (hf : k + mc ≤ R.cells ∧ n + ms ≤ R.slots) (hq : pc + 3 = q) (kk : ∀ (u : S), post u → xV p l e R s m args below meth c D A Q nL (W2 u ++ Wr) (k + mc) (n + ms) L q (rest)) : xV p l e R s m args below meth c D A Q nL ws k n L pc st := by
  intro H locs ls hP hD hS hl
  obtain ⟨hx, hb, hml, hown, hts, hK, hret, hlk, hA⟩ := C
  have hP2 := xP_perm hpm hP
  have hD2 := xD_perm hpm hD
  have hPc := xP_left hP2
  have hDc := xD_left hD2
  have hFc := xFree hD2 hS hA
  obtain ⟨⟨wsY, hyw⟩, hy2⟩ := hy
  subst hst
  have hW : 2 * (F0 m pc ls (As.reverse ++ .ref b :: rest)).monitorRoom + (rest.map fun v => v.category).sum ≤ 8 := lv_room hW
  refine va_callv (va_runIN (As := As) (rest := rest) ⟨hx, hb, hml, hown, hts⟩ (M H.size) ⟨va_cnB na hts hG hyw rfl rfl hlk2 (hts _ hini) ⟨hy2.1, hy2.2.1, hy2.2.2⟩ hR, hnm, hts _ hin2⟩ ⟨xPj_blind, fun U hU hW => ⟨rfl, by rw [hU], by rw [hU]; exact hPc, va_K.moved hW.alike hK, hDc.weaken (fun _ _ _ _ => trivial), hJ.warm hW⟩⟩ rfl hlen hl.1 rfl hW d hf) hS (fun q _ h => hFc q h) hFc (fun u t H1 locs1 ht hvm hw hB hz1 hk1 hS1 => ?_)
  obtain ⟨hP1, hK1, hD1⟩ := hB
  rw [ht] at hP1
  obtain ⟨hP3, hD3⟩ := xJoin hP2 hD2 hFc hk1 hP1 hD1
  exact hq ▸ kk u hw H1 locs1 ls hP3 hD3 hS1 hl
end XCALL
def xRs (ws : va_W) (a : Nat) (cA : ClassId) (n : Nat) (f : Nat → Option Nat) (G : (Nat → Option Nat) → va_W) : Prop :=
  ∃ q0 : Nat, ws[q0]? = some (a, .inl (cA, n, .inr (.inr (.inr (.inr f))))) ∧ ∀ f' : Nat → Option Nat, ws.set q0 (a, .inl (cA, n, .inr (.inr (.inr (.inr f'))))) = G f'
theorem xRs.L {ws R : va_W} {a : Nat} {cA : ClassId} {n : Nat} {f : Nat → Option Nat} {G : (Nat → Option Nat) → va_W} (h : xRs ws a cA n f G) : xRs (ws ++ R) a cA n f (fun f' => G f' ++ R) := by
  obtain ⟨q0, h1, h2⟩ := h
  have hl := (List.getElem?_eq_some_iff.mp h1).1
  exact ⟨q0, by rw [List.getElem?_append_left hl]; exact h1, fun f' => by rw [List.set_append_left _ _ hl, h2]⟩
theorem xRs.R {ws X : va_W} {a : Nat} {cA : ClassId} {n : Nat} {f : Nat → Option Nat} {G : (Nat → Option Nat) → va_W} (h : xRs ws a cA n f G) : xRs (X ++ ws) a cA n f (fun f' => X ++ G f') := by
  obtain ⟨q0, h1, h2⟩ := h
  exact ⟨X.length + q0, by rw [List.getElem?_append_right (Nat.le_add_right _ _), Nat.add_sub_cancel_left]; exact h1, fun f' => by rw [List.set_append_right _ _ (Nat.le_add_right _ _), Nat.add_sub_cancel_left, h2]⟩
section XJK
variable {p : Program} {l : Launch} {e : Env} {R : Room} {s : State} {m : MethodId} {args : Array Value} {below : List Frame} {meth : Method} {c : Code} {Q : State → Prop}
variable {D : va_G} {A : Nat → Prop} {cc : ByteArray} {own : String} {nL : Nat} {Ts : List Cond} {tys : List (ClassId × FieldType)} {ret : Option FieldType}
variable {ws ws' : va_W} {k n pc q : Nat} {L L' : List (Nat × Value)} {st : List Value}
theorem x_anewr (C : xC p s m args meth c D A cc own nL Ts tys ret) (hJ : xJ2 s) {idx : Nat} {c2 : ClassId} {nn : Int32} (N : Nat) (d : decode cc pc = .ok (.anewarray idx, 3)) (hm : Cond.classLink own idx "[I" ∈ Ts) (ht : tys[2]? = some (c2, .array .int)) (hn : ¬ nn < 0) (hN : nn.toNatClampNeg = N) (hby : N * 4 ≤ 536870912) (hc : k + 1 ≤ R.cells) (hs : n + N ≤ R.slots) (hq : pc + 3 = q) (kk : ∀ a : Nat, xV p l e R s m args below meth c D A Q nL (ws ++ [(a, .inl (c2, N, .inr (.inr (.inr (.inr (fun _ => none))))))]) (k + 1) (n + N) L q (.ref a :: st)) : xV p l e R s m args below meth c D A Q nL ws k n L pc (.int nn :: st) := by
  intro H locs ls hP hD hS hl
  obtain ⟨hx, hb, hml, hown, hts, hK, hret, hlk, hA⟩ := C
  subst hN
  refine W.anewA (t := .int) hx hb hown (hts _ hm) (va_AOA.use hJ.2.1) rfl d rfl hn hby hc hs fun cA kA comp f1 f2 f3 f4 => ?_
  have e1 : cA = c2 := Option.some.inj (f1.symm.trans (hK.2 2 _ ht).2)
  subst e1
  generalize hH1 : H.push ({ cls := cA, slots := Array.replicate nn.toNatClampNeg .null, vm := .none } : Cell) = H1
  have z1 : H1.size = H.size + 1 := by rw [← hH1, Array.size_push]
  have e2 : H1[H.size]? = some (arrV cA nn.toNatClampNeg (fun _ => .null)) := by rw [← hH1, Array.getElem?_push_size, ← arrV_new]
  have o1 : ∀ q : Nat, q < H.size → H1[q]? = H[q]? := fun q hq => by rw [← hH1, Array.getElem?_push, if_neg (Nat.ne_of_lt hq)]
  have hk : ∀ (j : Nat) (x : Nat × va_E), ws[j]? = some x → H1[x.1]? = H[x.1]? := fun j x hx => o1 x.1 ((hP j x hx).lt)
  refine W.eq (g2 := F0 m q ls (.ref H.size :: st)) (by rw [← hq]) ?_
  exact kk H.size H1 locs ls ((hP.kept hk).app (fun j x hx => by
      have hj : j = 0 := by
        have := (List.getElem?_eq_some_iff.mp hx).1
        simp only [List.length_cons, List.length_nil] at this
        omega
      subst hj
      cases hx
      exact e2)) (hD.push hP rfl (hA _ hS.1)) ⟨Nat.le_trans hS.1 (by omega), fun x h1 h2 => (o1 x (Nat.lt_of_lt_of_le h1 hS.1)).trans (hS.2.1 x h1 h2), hS.2.2⟩ hl
theorem x_clone (C : xC p s m args meth c D A cc own nL Ts tys ret) (hJ : xJ2 s) {idx a N : Nat} {c0 : ClassId} {f : Nat → Int32} {G : (Nat → Int32) → va_W} (d : decode cc pc = .ok (.invokevirtual idx, 3)) (hm : ∀ w ∈ ([.methodLink own idx ⟨"[I", "clone", "()Ljava/lang/Object;"⟩, .sameMethod "[I" "java/lang/Object" "clone" "()Ljava/lang/Object;", .native ⟨"java/lang/Object", "clone", "()Ljava/lang/Object;"⟩, .instanceMethod ⟨"java/lang/Object", "clone", "()Ljava/lang/Object;"⟩, .selects "[I" ⟨"[I", "clone", "()Ljava/lang/Object;"⟩ ⟨"java/lang/Object", "clone", "()Ljava/lang/Object;"⟩] : List Cond), w ∈ Ts) (ho : xA ws a c0 N f G) (ht : tys[0]? = some (c0, .int)) (hfr : 1 ≤ R.frames) (hlo : (st.map fun v => v.category).sum + 14 ≤ R.locals) (hc : k + 1 ≤ R.cells) (hs : n + N ≤ R.slots) (hq : pc + 3 = q) (kk : ∀ b : Nat, xV p l e R s m args below meth c D A Q nL (ws ++ [(b, .inl (c0, N, .inl f))]) (k + 1) (n + N) L q (.ref b :: st)) : xV p l e R s m args below meth c D A Q nL ws k n L pc (.ref a :: st) := by
  intro H locs ls hP hD hS hl
  obtain ⟨hx, hb, hml, hown, hts, hK, hret, hlk, hA⟩ := C
  obtain ⟨q0, h0, -⟩ := ho
  refine va_clone hx hb (hml.trans hl.1.symm) hown (hts _ (hm _ (by simp))) (hts _ (hm _ (by simp))) (hts _ (hm _ (by simp))) (hts _ (hm _ (by simp))) (hts _ (hm _ (by simp))) hJ.1 hK hP hD hS hA q0 0 h0 ht (hK.2 0 _ ht).2 ?_ hfr hlo hc hs d (fun b H1 hK1 hP1 hD1 hS1 => hq ▸ kk b H1 locs ls hP1 hD1 hS1 hl)
  intro i v hv
  rw [vp_cell_i] at hv
  have hi : i < N := by
    have := (Array.getElem?_eq_some_iff.mp hv).1
    rw [arrV_size] at this
    exact this
  rw [arrV_read _ _ hi] at hv
  cases hv
  rfl
theorem x_castA (C : xC p s m args meth c D A cc own nL Ts tys ret) {idx a N : Nat} {c0 : ClassId} {f : Nat → Int32} {G : (Nat → Int32) → va_W} (d : decode cc pc = .ok (.checkcast idx, 3)) (hm : Cond.classLink own idx "[I" ∈ Ts) (ho : xA ws a c0 N f G) (ht : tys[0]? = some (c0, .int)) (hq : pc + 3 = q) (kk : xV p l e R s m args below meth c D A Q nL ws k n L q (.ref a :: st)) : xV p l e R s m args below meth c D A Q nL ws k n L pc (.ref a :: st) := by
  intro H locs ls hP hD hS hl
  obtain ⟨hx, hb, hml, hown, hts, hK, hret, hlk, hA⟩ := C
  obtain ⟨q0, h0, -⟩ := ho
  exact va_castA hx hb hown (hts _ hm) hP q0 h0 (hK.2 0 _ ht).2 d (hq ▸ kk H locs ls hP hD hS hl)
theorem x_aast (C : xC p s m args meth c D A cc own nL Ts tys ret) (hJ : xJ2 s) {a v n0 n1 : Nat} {c0 c2 : ClassId} {f : Nat → Option Nat} {G : (Nat → Option Nat) → va_W} {f1 : Nat → Int32} {G1 : (Nat → Int32) → va_W} {i : Int32} (d : decode cc pc = .ok (.aastore, 1)) (ho : xRs ws a c2 n0 f G) (ho1 : xA ws v c0 n1 f1 G1) (ht0 : tys[0]? = some (c0, .int)) (ht : tys[2]? = some (c2, .array .int)) (hi : xin i n0 = true) (hw : G (va_up f i.toNatClampNeg (some v)) = ws') (hq : pc + 1 = q) (kk : xV p l e R s m args below meth c D A Q nL ws' k n L q st) : xV p l e R s m args below meth c D A Q nL ws k n L pc (.ref v :: .int i :: .ref a :: st) := by
  intro H locs ls hP hD hS hl
  obtain ⟨hx, hb, hml, hown, hts, hK, hret, hlk, hA⟩ := C
  obtain ⟨q0, h0, h2⟩ := ho
  obtain ⟨q1, g0, -⟩ := ho1
  have hin := xin_of hi
  have hlt : i.toNatClampNeg < n0 := xin_lt hi
  obtain ⟨comp, cA2, kA, k3, -, k1, k2, k4⟩ := arrayOverA_spec (va_AOA.use (A := args) hJ.2.1)
  cases ((hK.2 2 _ ht).2 : s.vm.findClass ("[" ++ (FieldType.array .int).toString) = some c2).symm.trans k4
  have k5 : s.vm.findClass (FieldType.array .int).toString = some c0 := (hK.2 0 _ ht0).2
  cases k3.symm.trans k5
  obtain ⟨kE, hkE, -⟩ := Vm.findClass_spec k3
  refine W.aast hx hb (hP q0 _ h0) (fun q h => by cases h) (fun h => by cases h) k1 k2 rfl hkE ⟨fun h => hin (Or.inl h), by show _ < (arrV _ _ _).slots.size; rw [arrV_size]; exact hlt⟩ (hP q1 _ g0) (fun q h => by cases h) hkE (va_asg _ _) rfl rfl d fun H1 e1 z oq => ?_
  have hP1 := hP.set hD h0 (e := .inl (c2, n0, .inr (.inr (.inr (.inr (va_up f i.toNatClampNeg (some v))))))) (H1 := H1) (by
    show H1[a]? = some (vp_cell _ _)
    rw [e1, vp_cell_q, vp_cell_q, arrV_store]
    congr 2
    funext q
    by_cases hq : q = i.toNatClampNeg
    · subst hq
      simp [updV, va_up, va_rf]
    · simp [updV, va_up, hq]) oq
  have hD1 := hD.set (e := .inl (c2, n0, .inr (.inr (.inr (.inr (va_up f i.toNatClampNeg (some v))))))) h0
  rw [h2, hw] at hP1 hD1
  refine W.eq (g2 := F0 m q ls st) (by rw [← hq]) ?_
  exact kk H1 _ ls hP1 hD1 (hS.put z oq (hD.2 q0 _ h0)) hl
end XJK
theorem flX3_kept_19 : Cond.fieldLink RX3 19 "LampHillsModel" "lights" "[I" ∈ wsX3_kept := by decide +kernel
theorem flX3_kept_22 : Cond.fieldLink RX3 22 "LampHillsModel" "people" "[I" ∈ wsX3_kept := by decide +kernel
theorem flX3_kept_31 : Cond.fieldLink RX3 31 "LampHillsModel" "numbers" "[I" ∈ wsX3_kept := by decide +kernel
theorem iuX3_kept_X3 : ∀ w ∈ u_ws RX3 TX3 13, w ∈ wsX3_kept := fun _ h => List.mem_cons_of_mem _ (List.mem_append_right _ h)
theorem clX3_kept : Cond.classLink RX3 156 "[I" ∈ wsX3_kept := by decide +kernel
theorem cnX3_kept : ∀ w ∈ ([.methodLink RX3 157 ⟨"[I", "clone", "()Ljava/lang/Object;"⟩, .sameMethod "[I" "java/lang/Object" "clone" "()Ljava/lang/Object;", .native ⟨"java/lang/Object", "clone", "()Ljava/lang/Object;"⟩, .instanceMethod ⟨"java/lang/Object", "clone", "()Ljava/lang/Object;"⟩, .selects "[I" ⟨"[I", "clone", "()Ljava/lang/Object;"⟩ ⟨"java/lang/Object", "clone", "()Ljava/lang/Object;"⟩] : List Cond), w ∈ wsX3_kept := by decide +kernel
def oK (y : Nat → ClassId) (q : Nat) (f : Nat → Option Nat) : va_W := [(q, .inl (y 2, 3, .inr (.inr (.inr (.inr f)))))]
theorem oK_s (y : Nat → ClassId) (q : Nat) (f : Nat → Option Nat) : xRs (oK y q f) q (y 2) 3 f (fun f' => oK y q f') := ⟨0, rfl, fun _ => rfl⟩
theorem k_fun {q1 q2 q3 q : Nat} : (va_up (va_up (va_up (fun _ => none) (0 : Int32).toNatClampNeg (some q1)) (1 : Int32).toNatClampNeg (some q2)) (2 : Int32).toNatClampNeg (some q3)) = (fun i => if i < 3 then some (aKf (q1, q2, q3) q (1 + i)) else none) := by
  funext i
  match i with
  | 0 => rfl
  | 1 => rfl
  | 2 => rfl
  | n + 3 =>
    have e0 : (0 : Int32).toNatClampNeg = 0 := by decide
    have e1 : (1 : Int32).toNatClampNeg = 1 := by decide
    have e2 : (2 : Int32).toNatClampNeg = 2 := by decide
    rw [e0, e1, e2, if_neg (by omega)]
    simp [va_up]
set_option maxHeartbeats 4000000 in
set_option maxRecDepth 100000 in
theorem c3_kept {l : Launch} {D : va_G} {y : Nat → ClassId} {aM : Nat → Nat} {M : St} : xMJr l yX3_kept wsX3_kept 1 48 4 206 D (xT y) [.ref (aM 0)] (mC y aM M) (fun (_ : Nat × Nat × Nat) => True) (fun u a => mC y aM M ++ kC y (aKf u a) (kS M)) := by
  refine xMJr_of (cc := cX3_kept) (nL := 1) (ret := (some (.array (.array .int)))) [(0, .ref (aM 0))] (by decide) rfl (Nat.le_of_ble_eq_true rfl) rfl ?_
  intro p e s m args below meth c A C hin hJ
  have C : xC p s m args meth c D A cX3_kept RX3 1 wsX3_kept (xT y) (some (.array (.array .int))) := C
  refine x_iconst (q := 1) C dX3_kept_0 ki_3 rfl ?_
  refine x_anewr (q := 4) C hJ 3 dX3_kept_1 clX3_kept rfl (by decide) (by decide) (by decide) (Nat.le_of_ble_eq_true rfl) (Nat.le_of_ble_eq_true rfl) rfl (fun q => ?_)
  refine x_world (ws' := mC y aM M ++ oK y q (fun _ => none)) rfl ?_
  refine x_dup (q := 5) C dX3_kept_4 rfl rfl ?_
  refine x_iconst (q := 6) C dX3_kept_5 ki_0 rfl ?_
  refine x_aload_n (q := 7) C 0 dX3_kept_6 rfl rfl rfl ?_
  refine x_get (q := 10) C 8 dX3_kept_7 ((oX3 y aM M).L) rfl iuX3_kept_X3 flX3_kept_19 rfl (by decide) rfl rfl ?_
  refine x_clone (q := 13) C hJ dX3_kept_10 cnX3_kept ((aX3_8 y aM M).L) rfl (Nat.le_of_ble_eq_true rfl) (Nat.le_of_ble_eq_true rfl) (Nat.le_of_ble_eq_true rfl) (Nat.le_of_ble_eq_true rfl) rfl (fun q1 => ?_)
  refine x_world (ws' := mC y aM M ++ (oK y q (fun _ => none) ++ zC y q1 160 (M 8))) as2 ?_
  refine x_widen (k' := 2) (n' := 163) (Nat.le_of_ble_eq_true rfl) (Nat.le_of_ble_eq_true rfl) ?_
  refine x_castA (q := 16) C dX3_kept_13 clX3_kept ((((zA y q1 160 (M 8))).R).R) rfl rfl ?_
  refine x_aast (q := 17) (ws' := mC y aM M ++ (oK y q (va_up (fun _ => none) (0 : Int32).toNatClampNeg (some q1)) ++ zC y q1 160 (M 8))) C hJ dX3_kept_16 ((((oK_s y q (fun _ => none))).L).R) ((((zA y q1 160 (M 8))).R).R) rfl rfl (by decide) rfl rfl ?_
  refine x_dup (q := 18) C dX3_kept_17 rfl rfl ?_
  refine x_iconst (q := 19) C dX3_kept_18 ki_1 rfl ?_
  refine x_aload_n (q := 20) C 0 dX3_kept_19 rfl rfl rfl ?_
  refine x_get (q := 23) C 9 dX3_kept_20 ((oX3 y aM M).L) rfl iuX3_kept_X3 flX3_kept_22 rfl (by decide) rfl rfl ?_
  refine x_clone (q := 26) C hJ dX3_kept_23 cnX3_kept ((aX3_9 y aM M).L) rfl (Nat.le_of_ble_eq_true rfl) (Nat.le_of_ble_eq_true rfl) (Nat.le_of_ble_eq_true rfl) (Nat.le_of_ble_eq_true rfl) rfl (fun q2 => ?_)
  refine x_world (ws' := mC y aM M ++ (oK y q (va_up (fun _ => none) (0 : Int32).toNatClampNeg (some q1)) ++ (zC y q1 160 (M 8) ++ zC y q2 40 (M 9)))) as3 ?_
  refine x_widen (k' := 3) (n' := 203) (Nat.le_of_ble_eq_true rfl) (Nat.le_of_ble_eq_true rfl) ?_
  refine x_castA (q := 29) C dX3_kept_26 clX3_kept (((((zA y q2 40 (M 9))).R).R).R) rfl rfl ?_
  refine x_aast (q := 30) (ws' := mC y aM M ++ (oK y q (va_up (va_up (fun _ => none) (0 : Int32).toNatClampNeg (some q1)) (1 : Int32).toNatClampNeg (some q2)) ++ (zC y q1 160 (M 8) ++ zC y q2 40 (M 9)))) C hJ dX3_kept_29 ((((oK_s y q (va_up (fun _ => none) (0 : Int32).toNatClampNeg (some q1)))).L).R) (((((zA y q2 40 (M 9))).R).R).R) rfl rfl (by decide) rfl rfl ?_
  refine x_dup (q := 31) C dX3_kept_30 rfl rfl ?_
  refine x_iconst (q := 32) C dX3_kept_31 ki_2 rfl ?_
  refine x_aload_n (q := 33) C 0 dX3_kept_32 rfl rfl rfl ?_
  refine x_get (q := 36) C 12 dX3_kept_33 ((oX3 y aM M).L) rfl iuX3_kept_X3 flX3_kept_31 rfl (by decide) rfl rfl ?_
  refine x_clone (q := 39) C hJ dX3_kept_36 cnX3_kept ((aX3_12 y aM M).L) rfl (Nat.le_of_ble_eq_true rfl) (Nat.le_of_ble_eq_true rfl) (Nat.le_of_ble_eq_true rfl) (Nat.le_of_ble_eq_true rfl) rfl (fun q3 => ?_)
  refine x_world (ws' := mC y aM M ++ (oK y q (va_up (va_up (fun _ => none) (0 : Int32).toNatClampNeg (some q1)) (1 : Int32).toNatClampNeg (some q2)) ++ (zC y q1 160 (M 8) ++ (zC y q2 40 (M 9) ++ zC y q3 3 (M 12))))) as4 ?_
  refine x_widen (k' := 4) (n' := 206) (Nat.le_of_ble_eq_true rfl) (Nat.le_of_ble_eq_true rfl) ?_
  refine x_castA (q := 42) C dX3_kept_39 clX3_kept ((((((zA y q3 3 (M 12))).R).R).R).R) rfl rfl ?_
  refine x_aast (q := 43) (ws' := mC y aM M ++ (oK y q (va_up (va_up (va_up (fun _ => none) (0 : Int32).toNatClampNeg (some q1)) (1 : Int32).toNatClampNeg (some q2)) (2 : Int32).toNatClampNeg (some q3)) ++ (zC y q1 160 (M 8) ++ (zC y q2 40 (M 9) ++ zC y q3 3 (M 12))))) C hJ dX3_kept_42 ((((oK_s y q (va_up (va_up (fun _ => none) (0 : Int32).toNatClampNeg (some q1)) (1 : Int32).toNatClampNeg (some q2)))).L).R) ((((((zA y q3 3 (M 12))).R).R).R).R) rfl rfl (by decide) rfl rfl ?_
  refine x_world (ws' := mC y aM M ++ kC y (aKf (q1, q2, q3) q) (kS M)) ?_ ?_
  · rw [k_fun (q := q)]; rfl
  exact x_aret (q1, q2, q3) C dX3_kept_43 rfl (Or.inr ⟨_, rfl⟩) trivial rfl (Nat.le_of_ble_eq_true rfl) (Nat.le_of_ble_eq_true rfl)
theorem yi_X3_kept : xY yX3_kept wsX3_kept cX3_kept 1 (some (.array (.array .int))) 0 := ⟨⟨_, rfl⟩, by decide +kernel, by decide +kernel, by decide +kernel⟩
