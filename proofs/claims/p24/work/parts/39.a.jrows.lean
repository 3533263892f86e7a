/-! FACTS OF THE TABLES that arrays of arrays and clones want, and the contracts that carry them -/
def xJ2 (U : State) : Prop := va_Nw (.methodLinkNest RL 11 yX3_init "LampHillsLaw") U ∧ va_AOA .int U ∧ va_Nw (.methodLinkNest RX2 11 yX1_init "LampHills") U ∧ va_Nw (.methodLinkNest RX2 18 yX0_init "LampHills") U
theorem xJ2.warm {s U : State} (hW : s.WarmedH U.vm) (h : xJ2 s) : xJ2 U := ⟨va_Nw.warmM hW h.1, over_moved hW.alike h.2.1, va_Nw.warmM hW h.2.2.1, va_Nw.warmM hW h.2.2.2⟩
theorem xJ2.same {u U : State} (hv : U.vm = u.vm) (h : xJ2 u) : xJ2 U := ⟨va_Nw.same rfl hv.symm h.1, over_moved (hv ▸ Vm.Alike.refl u.vm) h.2.1, va_Nw.same rfl hv.symm h.2.2.1, va_Nw.same rfl hv.symm h.2.2.2⟩
def xPj (D : va_G) (tys : List (ClassId × FieldType)) (av : List Value) (sz : Nat) (Wc : va_W) : Array Value → State → Prop :=
  va_Pc av (fun U => U.heap.size = sz ∧ va_P D vwCl Wc U.heap ∧ va_K D vwCl tys U ∧ va_D (fun _ => True) Wc ∧ xJ2 U)
theorem xPj_blind {D : va_G} {tys : List (ClassId × FieldType)} {av : List Value} {sz : Nat} {Wc : va_W} : FrameBlind (xPj D tys av sz Wc) := by
  intro a U g mk q
  obtain ⟨q0, q1, qP, qK, qD, qJ⟩ := q
  exact ⟨q0, q1, qP, va_K.moved (u := U) (U := U.calling g mk a) (Vm.Alike.refl U.vm) qK, qD, xJ2.same (u := U) (U := U.calling g mk a) rfl qJ⟩
def xMJi (l : Launch) (y : MethodName) (wsM : List Cond) (rf rl mc ms : Nat) (D : va_G) (tys : List (ClassId × FieldType)) (av : List Value) (Wc : va_W) {S : Type} (post : Int32 → S → Prop) (W' : S → va_W) : Prop :=
  ∀ sz : Nat, Met l y wsM { frames := rf, cells := mc, slots := ms, locals := rl } (xPj D tys av sz Wc) (va_Qi post (fun u t => xE D tys (va_A Wc sz) (W' u) t) (va_A Wc sz)) mc ms (va_A Wc sz)
theorem xMJi_of {l : Launch} {y : MethodName} {wsM ws' : List Cond} {cc : ByteArray} {nL rf rl mc ms : Nat} {ret : Option FieldType} {D : va_G} {tys : List (ClassId × FieldType)} {av : List Value} {Wc : va_W} {S : Type} {post : Int32 → S → Prop} {W' : S → va_W} (L : List (Nat × Value)) (hy : plainName y.cls = true) (hw : wsM = Cond.code y cc nL ret :: ws') (hn : (lg_sl av).length ≤ nL) (hL : lv_args 0 av = L)
    (body : ∀ (p : Program) (e : Env) (s : State) (m : MethodId) (args : Array Value) (below : List Frame) (meth : Method) (c : Code) (A : Nat → Prop), xC p s m args meth c D A cc y.cls nL wsM tys ret → (y.name = "<init>" → meth.name = "<init>") → xJ2 s → xV p l e { frames := rf, cells := mc, slots := ms, locals := rl } s m args below meth c D A (xQi D tys A post W' mc ms below args s) nL Wc 0 0 L 0 []) : xMJi l y wsM rf rl mc ms D tys av Wc post W' := by
  intro sz
  refine Met.ofW (cc := cc) (maxL := nL) (ret := ret) hy hw ?_
  intro p e s m args below meth c s₁ B hml hv
  obtain ⟨rfl, hsz, hP, hK, hD0, hJ⟩ := hv
  subst hsz
  have hD := hD0.self (sz := s.heap.size)
  have hl := lv_entry av hn
  rw [hL] at hl
  have key := body p e s m av.toArray below meth c (va_A Wc s.heap.size) ⟨B.exec, B.bytes, hml, findClass_of_methodNamed B.named, atoms_spec (ws := wsM) B.pre, hK, B.returns, B.notSynchronized, fun q h => Or.inr h⟩ (fun h => (name_of_methodNamed B.named B.method).1.trans h) hJ s.heap [] _ hP hD va_S.rf hl
  rw [← lg_entry_eq] at key
  exact key
def xMJv (l : Launch) (y : MethodName) (wsM : List Cond) (rf rl mc ms : Nat) (D : va_G) (tys : List (ClassId × FieldType)) (av : List Value) (Wc : va_W) {S : Type} (post : S → Prop) (W' : S → va_W) : Prop :=
  ∀ sz : Nat, Met l y wsM { frames := rf, cells := mc, slots := ms, locals := rl } (xPj D tys av sz Wc) (va_Qv post (fun u t => xE D tys (va_A Wc sz) (W' u) t) (va_A Wc sz)) mc ms (va_A Wc sz)
theorem xMJv_of {l : Launch} {y : MethodName} {wsM ws' : List Cond} {cc : ByteArray} {nL rf rl mc ms : Nat} {ret : Option FieldType} {D : va_G} {tys : List (ClassId × FieldType)} {av : List Value} {Wc : va_W} {S : Type} {post : S → Prop} {W' : S → va_W} (L : List (Nat × Value)) (hy : plainName y.cls = true) (hw : wsM = Cond.code y cc nL ret :: ws') (hn : (lg_sl av).length ≤ nL) (hL : lv_args 0 av = L)
    (body : ∀ (p : Program) (e : Env) (s : State) (m : MethodId) (args : Array Value) (below : List Frame) (meth : Method) (c : Code) (A : Nat → Prop), xC p s m args meth c D A cc y.cls nL wsM tys ret → (y.name = "<init>" → meth.name = "<init>") → xJ2 s → xV p l e { frames := rf, cells := mc, slots := ms, locals := rl } s m args below meth c D A (xQv D tys A post W' mc ms below args s) nL Wc 0 0 L 0 []) : xMJv l y wsM rf rl mc ms D tys av Wc post W' := by
  intro sz
  refine Met.ofW (cc := cc) (maxL := nL) (ret := ret) hy hw ?_
  intro p e s m args below meth c s₁ B hml hv
  obtain ⟨rfl, hsz, hP, hK, hD0, hJ⟩ := hv
  subst hsz
  have hD := hD0.self (sz := s.heap.size)
  have hl := lv_entry av hn
  rw [hL] at hl
  have key := body p e s m av.toArray below meth c (va_A Wc s.heap.size) ⟨B.exec, B.bytes, hml, findClass_of_methodNamed B.named, atoms_spec (ws := wsM) B.pre, hK, B.returns, B.notSynchronized, fun q h => Or.inr h⟩ (fun h => (name_of_methodNamed B.named B.method).1.trans h) hJ s.heap [] _ hP hD va_S.rf hl
  rw [← lg_entry_eq] at key
  exact key
def xMJr (l : Launch) (y : MethodName) (wsM : List Cond) (rf rl mc ms : Nat) (D : va_G) (tys : List (ClassId × FieldType)) (av : List Value) (Wc : va_W) {S : Type} (post : S → Prop) (W' : S → Nat → va_W) : Prop :=
  ∀ sz : Nat, Met l y wsM { frames := rf, cells := mc, slots := ms, locals := rl } (xPj D tys av sz Wc) (va_Qr post (fun u a t => xE D tys (va_A Wc sz) (W' u a) t) (va_A Wc sz)) mc ms (va_A Wc sz)
/-- what a place of a world is: an array of ints (of that class), and the world with another content there -/
theorem xMJr_of {l : Launch} {y : MethodName} {wsM ws' : List Cond} {cc : ByteArray} {nL rf rl mc ms : Nat} {ret : Option FieldType} {D : va_G} {tys : List (ClassId × FieldType)} {av : List Value} {Wc : va_W} {S : Type} {post : S → Prop} {W' : S → Nat → va_W} (L : List (Nat × Value)) (hy : plainName y.cls = true) (hw : wsM = Cond.code y cc nL ret :: ws') (hn : (lg_sl av).length ≤ nL) (hL : lv_args 0 av = L)
    (body : ∀ (p : Program) (e : Env) (s : State) (m : MethodId) (args : Array Value) (below : List Frame) (meth : Method) (c : Code) (A : Nat → Prop), xC p s m args meth c D A cc y.cls nL wsM tys ret → (y.name = "<init>" → meth.name = "<init>") → xJ2 s → xV p l e { frames := rf, cells := mc, slots := ms, locals := rl } s m args below meth c D A (xQr D tys A post W' mc ms below args s) nL Wc 0 0 L 0 []) : xMJr l y wsM rf rl mc ms D tys av Wc post W' := by
  intro sz
  refine Met.ofW (cc := cc) (maxL := nL) (ret := ret) hy hw ?_
  intro p e s m args below meth c s₁ B hml hv
  obtain ⟨rfl, hsz, hP, hK, hD0, hJ⟩ := hv
  subst hsz
  have hD := hD0.self (sz := s.heap.size)
  have hl := lv_entry av hn
  rw [hL] at hl
  have key := body p e s m av.toArray below meth c (va_A Wc s.heap.size) ⟨B.exec, B.bytes, hml, findClass_of_methodNamed B.named, atoms_spec (ws := wsM) B.pre, hK, B.returns, B.notSynchronized, fun q h => Or.inr h⟩ (fun h => (name_of_methodNamed B.named B.method).1.trans h) hJ s.heap [] _ hP hD va_S.rf hl
  rw [← lg_entry_eq] at key
  exact key
section XCALL
variable {p : Program} {l : Launch} {e : Env} {R : Room} {s : State} {m : MethodId} {args : Array Value} {below : List Frame} {meth : Method} {c : Code} {Q : State → Prop}
variable {D : va_G} {A : Nat → Prop} {cc : ByteArray} {own : String} {nL : Nat} {Ts : List Cond} {tys : List (ClassId × FieldType)} {ret : Option FieldType}
variable {ws Wc Wr : va_W} {k n pc q mc ms rf rl idx ci b na maxL2 : Nat} {L : List (Nat × Value)} {st As rest : List Value} {S : Type} {y2 : MethodName} {ws2 : List Cond} {b2 : ByteArray} {ret2 : Option FieldType} {fs : List Value} {C2 : String} {T2 : u_T} {N2 : Nat}
theorem x_callJIv {post : S → Prop} {W2 : S → va_W} (C : xC p s m args meth c D A cc own nL Ts tys ret) (hJ : xJ2 s) (M : xMJv l y2 ws2 rf rl mc ms D tys (.ref b :: As) Wc post W2) (hy : xY y2 ws2 b2 maxL2 none na) (hG : GoodIn Ts ws2) (hini : Cond.initialized y2.cls ∈ Ts) (hlk2 : Cond.methodLink own idx y2 ∈ Ts) (hin2 : Cond.instanceMethod y2 ∈ Ts) (hnm : y2.name = "<init>") (hR : rf + 1 ≤ R.frames ∧ 8 + (maxL2 + 11) + rl ≤ R.locals) (d : decode cc pc = .ok (.invokespecial idx, 3)) (hpm : ws.Perm (Wc ++ Wr)) (hst : st = As.reverse ++ .ref b :: rest) (hlen : As.length = na) (hW : (rest.map fun v => v.category).sum ≤ 8) (hf : k + mc ≤ R.cells ∧ n + ms ≤ R.slots) (hq : pc + 3 = q) (kk : ∀ (u : S), post u → xV p l e R s m args below meth c D A Q nL (W2 u ++ Wr) (k + mc) (n + ms) L q (rest)) : xV p l e R s m args below meth c D A Q nL ws k n L pc st := by
  intro H locs ls hP hD hS hl
  obtain ⟨hx, hb, hml, hown, hts, hK, hret, hlk, hA⟩ := C
  have hP2 := xP_perm hpm hP
  have hD2 := xD_perm hpm hD
  have hPc := xP_left hP2
  have hDc := xD_left hD2
  have hFc := xFree hD2 hS hA
  obtain ⟨⟨wsY, hyw⟩, hy2⟩ := hy
  subst hst
  have hW : 2 * (F0 m pc ls (As.reverse ++ .ref b :: rest)).monitorRoom + (rest.map fun v => v.category).sum ≤ 8 := lv_room hW
  refine va_callv (va_runI (As := As) (rest := rest) ⟨hx, hb, hml, hown, hts⟩ (M H.size) (cwI na hts hG hyw rfl rfl (hts _ hini) (hts _ hlk2) (hts _ hin2) hnm ⟨hy2.1, hy2.2.1, hy2.2.2⟩ hR) ⟨xPj_blind, fun U hU hW => ⟨rfl, by rw [hU], by rw [hU]; exact hPc, va_K.moved hW.alike hK, hDc.weaken (fun _ _ _ _ => trivial), hJ.warm hW⟩⟩ rfl hlen hl.1 rfl hW d hf) hS (fun q _ h => hFc q h) hFc (fun u t H1 locs1 ht hvm hw hB hz1 hk1 hS1 => ?_)
  obtain ⟨hP1, hK1, hD1⟩ := hB
  rw [ht] at hP1
  obtain ⟨hP3, hD3⟩ := xJoin hP2 hD2 hFc hk1 hP1 hD1
  exact hq ▸ kk u hw H1 locs1 ls hP3 hD3 hS1 hl
theorem x_callNIv {host : String} {post : S → Prop} {W2 : S → va_W} (C : xC p s m args meth c D A cc own nL Ts tys ret) (M : xMv l y2 ws2 rf rl mc ms D tys (.ref b :: As) Wc post W2) (hy : xY y2 ws2 b2 maxL2 none na) (hG : GoodIn Ts ws2) (hini : Cond.initialized y2.cls ∈ Ts) (hlk2 : va_Nw (.methodLinkNest own idx y2 host) s) (hin2 : Cond.instanceMethod y2 ∈ Ts) (hnm : y2.name = "<init>") (hR : rf + 1 ≤ R.frames ∧ 8 + (maxL2 + 11) + rl ≤ R.locals) (d : decode cc pc = .ok (.invokespecial idx, 3)) (hpm : ws.Perm (Wc ++ Wr)) (hst : st = As.reverse ++ .ref b :: rest) (hlen : As.length = na) (hW : (rest.map fun v => v.category).sum ≤ 8) (hf : k + mc ≤ R.cells ∧ n + ms ≤ R.slots) (hq : pc + 3 = q) (kk : ∀ (u : S), post u → xV p l e R s m args below meth c D A Q nL (W2 u ++ Wr) (k + mc) (n + ms) L q (rest)) : xV p l e R s m args below meth c D A Q nL ws k n L pc st := by
  intro H locs ls hP hD hS hl
  obtain ⟨hx, hb, hml, hown, hts, hK, hret, hlk, hA⟩ := C
  have hP2 := xP_perm hpm hP
  have hD2 := xD_perm hpm hD
  have hPc := xP_left hP2
  have hDc := xD_left hD2
  have hFc := xFree hD2 hS hA
  obtain ⟨⟨wsY, hyw⟩, hy2⟩ := hy
  subst hst
  have hW : 2 * (F0 m pc ls (As.reverse ++ .ref b :: rest)).monitorRoom + (rest.map fun v => v.category).sum ≤ 8 := lv_room hW
  refine va_callv (va_runIN (As := As) (rest := rest) ⟨hx, hb, hml, hown, hts⟩ (M H.size) ⟨va_cnB na hts hG hyw rfl rfl hlk2 (hts _ hini) ⟨hy2.1, hy2.2.1, hy2.2.2⟩ hR, hnm, hts _ hin2⟩ ⟨xPc_blind, fun U hU hW => ⟨rfl, by rw [hU], by rw [hU]; exact hPc, va_K.moved hW.alike hK, hDc.weaken (fun _ _ _ _ => trivial)⟩⟩ rfl hlen hl.1 rfl hW d hf) hS (fun q _ h => hFc q h) hFc (fun u t H1 locs1 ht hvm hw hB hz1 hk1 hS1 => ?_)
  obtain ⟨hP1, hK1, hD1⟩ := hB
  rw [ht] at hP1
  obtain ⟨hP3, hD3⟩ := xJoin hP2 hD2 hFc hk1 hP1 hD1
  exact hq ▸ kk u hw H1 locs1 ls hP3 hD3 hS1 hl
theorem x_callJNIv {host : String} {post : S → Prop} {W2 : S → va_W} (C : xC p s m args meth c D A cc own nL Ts tys ret) (hJ : xJ2 s) (M : xMJv l y2 ws2 rf rl mc ms D tys (.ref b :: As) Wc post W2) (hy : xY y2 ws2 b2 maxL2 none na) (hG : GoodIn Ts ws2) (hini : Cond.initialized y2.cls ∈ Ts) (hlk2 : va_Nw (.methodLinkNest own idx y2 host) s) (hin2 : Cond.instanceMethod y2 ∈ Ts) (hnm : y2.name = "<init>") (hR : rf + 1 ≤ R.frames ∧ 8 + (maxL2 + 11) + rl ≤ R.locals) (d : decode cc pc = .ok (.invokespecial idx, 3)) (hpm : ws.Perm (Wc ++ Wr)) (hst : st = As.reverse ++ .ref b :: rest) (hlen : As.length = na) (hW : (rest.map fun v => v.category).sum ≤ 8) (hf : k + mc ≤ R.cells ∧ n + ms ≤ R.slots) (hq : pc + 3 = q) (kk : ∀ (u : S), post u → xV p l e R s m args below meth c D A Q nL (W2 u ++ Wr) (k + mc) (n + ms) L q (rest)) : xV p l e R s m args below meth c D A Q nL ws k n L pc st := by
  intro H locs ls hP hD hS hl
  obtain ⟨hx, hb, hml, hown, hts, hK, hret, hlk, hA⟩ := C
  have hP2 := xP_perm hpm hP
  have hD2 := xD_perm hpm hD
  have hPc := xP_left hP2
  have hDc := xD_left hD2
  have hFc := xFree hD2 hS hA
  obtain ⟨⟨wsY, hyw⟩, hy2⟩ := hy
  subst hst
  have hW : 2 * (F0 m pc ls (As.reverse ++ .ref b :: rest)).monitorRoom + (rest.map fun v => v.category).sum ≤ 8 := lv_room hW
  refine va_callv (va_runIN (As := As) (rest := rest) ⟨hx, hb, hml, hown, hts⟩ (M H.size) ⟨va_cnB na hts hG hyw rfl rfl hlk2 (hts _ hini) ⟨hy2.1, hy2.2.1, hy2.2.2⟩ hR, hnm, hts _ hin2⟩ ⟨xPj_blind, fun U hU hW => ⟨rfl, by rw [hU], by rw [hU]; exact hPc, va_K.moved hW.alike hK, hDc.weaken (fun _ _ _ _ => trivial), hJ.warm hW⟩⟩ rfl hlen hl.1 rfl hW d hf) hS (fun q _ h => hFc q h) hFc (fun u t H1 locs1 ht hvm hw hB hz1 hk1 hS1 => ?_)
  obtain ⟨hP1, hK1, hD1⟩ := hB
  rw [ht] at hP1
  obtain ⟨hP3, hD3⟩ := xJoin hP2 hD2 hFc hk1 hP1 hD1
  exact hq ▸ kk u hw H1 locs1 ls hP3 hD3 hS1 hl
end XCALL
def xRs (ws : va_W) (a : Nat) (cA : ClassId) (n : Nat) (f : Nat → Option Nat) (G : (Nat → Option Nat) → va_W) : Prop :=
  ∃ q0 : Nat, ws[q0]? = some (a, .inl (cA, n, .inr (.inr (.inr (.inr f))))) ∧ ∀ f' : Nat → Option Nat, ws.set q0 (a, .inl (cA, n, .inr (.inr (.inr (.inr f'))))) = G f'
theorem xRs.L {ws R : va_W} {a : Nat} {cA : ClassId} {n : Nat} {f : Nat → Option Nat} {G : (Nat → Option Nat) → va_W} (h : xRs ws a cA n f G) : xRs (ws ++ R) a cA n f (fun f' => G f' ++ R) := by
  obtain ⟨q0, h1, h2⟩ := h
  have hl := (List.getElem?_eq_some_iff.mp h1).1
  exact ⟨q0, by rw [List.getElem?_append_left hl]; exact h1, fun f' => by rw [List.set_append_left _ _ hl, h2]⟩
theorem xRs.R {ws X : va_W} {a : Nat} {cA : ClassId} {n : Nat} {f : Nat → Option Nat} {G : (Nat → Option Nat) → va_W} (h : xRs ws a cA n f G) : xRs (X ++ ws) a cA n f (fun f' => X ++ G f') := by
  obtain ⟨q0, h1, h2⟩ := h
  exact ⟨X.length + q0, by rw [List.getElem?_append_right (Nat.le_add_right _ _), Nat.add_sub_cancel_left]; exact h1, fun f' => by rw [List.set_append_right _ _ (Nat.le_add_right _ _), Nat.add_sub_cancel_left, h2]⟩
section XJK
variable {p : Program} {l : Launch} {e : Env} {R : Room} {s : State} {m : MethodId} {args : Array Value} {below : List Frame} {meth : Method} {c : Code} {Q : State → Prop}
variable {D : va_G} {A : Nat → Prop} {cc : ByteArray} {own : String} {nL : Nat} {Ts : List Cond} {tys : List (ClassId × FieldType)} {ret : Option FieldType}
variable {ws ws' : va_W} {k n pc q : Nat} {L L' : List (Nat × Value)} {st : List Value}
theorem x_anewr (C : xC p s m args meth c D A cc own nL Ts tys ret) (hJ : xJ2 s) {idx : Nat} {c2 : ClassId} {nn : Int32} (N : Nat) (d : decode cc pc = .ok (.anewarray idx, 3)) (hm : Cond.classLink own idx "[I" ∈ Ts) (ht : tys[2]? = some (c2, .array .int)) (hn : ¬ nn < 0) (hN : nn.toNatClampNeg = N) (hby : N * 4 ≤ 536870912) (hc : k + 1 ≤ R.cells) (hs : n + N ≤ R.slots) (hq : pc + 3 = q) (kk : ∀ a : Nat, xV p l e R s m args below meth c D A Q nL (ws ++ [(a, .inl (c2, N, .inr (.inr (.inr (.inr (fun _ => none))))))]) (k + 1) (n + N) L q (.ref a :: st)) : xV p l e R s m args below meth c D A Q nL ws k n L pc (.int nn :: st) := by
  intro H locs ls hP hD hS hl
  obtain ⟨hx, hb, hml, hown, hts, hK, hret, hlk, hA⟩ := C
  subst hN
  refine W.anewA (t := .int) hx hb hown (hts _ hm) (va_AOA.use hJ.2.1) rfl d rfl hn hby hc hs fun cA kA comp f1 f2 f3 f4 => ?_
  have e1 : cA = c2 := Option.some.inj (f1.symm.trans (hK.2 2 _ ht).2)
  subst e1
  generalize hH1 : H.push ({ cls := cA, slots := Array.replicate nn.toNatClampNeg .null, vm := .none } : Cell) = H1
  have z1 : H1.size = H.size + 1 := by rw [← hH1, Array.size_push]
  have e2 : H1[H.size]? = some (arrV cA nn.toNatClampNeg (fun _ => .null)) := by rw [← hH1, Array.getElem?_push_size, ← arrV_new]
  have o1 : ∀ q : Nat, q < H.size → H1[q]? = H[q]? := fun q hq => by rw [← hH1, Array.getElem?_push, if_neg (Nat.ne_of_lt hq)]
  have hk : ∀ (j : Nat) (x : Nat × va_E), ws[j]? = some x → H1[x.1]? = H[x.1]? := fun j x hx => o1 x.1 ((hP j x hx).lt)
  refine W.eq (g2 := F0 m q ls (.ref H.size :: st)) (by rw [← hq]) ?_
  exact kk H.size H1 locs ls ((hP.kept hk).app (fun j x hx => by
      have hj : j = 0 := by
        have := (List.getElem?_eq_some_iff.mp hx).1
        simp only [List.length_cons, List.length_nil] at this
        omega
      subst hj
      cases hx
      exact e2)) (hD.push hP rfl (hA _ hS.1)) ⟨Nat.le_trans hS.1 (by omega), fun x h1 h2 => (o1 x (Nat.lt_of_lt_of_le h1 hS.1)).trans (hS.2.1 x h1 h2), hS.2.2⟩ hl
theorem x_aast (C : xC p s m args meth c D A cc own nL Ts tys ret) (hJ : xJ2 s) {a v n0 n1 : Nat} {c0 c2 : ClassId} {f : Nat → Option Nat} {G : (Nat → Option Nat) → va_W} {f1 : Nat → Int32} {G1 : (Nat → Int32) → va_W} {i : Int32} (d : decode cc pc = .ok (.aastore, 1)) (ho : xRs ws a c2 n0 f G) (ho1 : xA ws v c0 n1 f1 G1) (ht0 : tys[0]? = some (c0, .int)) (ht : tys[2]? = some (c2, .array .int)) (hi : xin i n0 = true) (hw : G (va_up f i.toNatClampNeg (some v)) = ws') (hq : pc + 1 = q) (kk : xV p l e R s m args below meth c D A Q nL ws' k n L q st) : xV p l e R s m args below meth c D A Q nL ws k n L pc (.ref v :: .int i :: .ref a :: st) := by
  intro H locs ls hP hD hS hl
  obtain ⟨hx, hb, hml, hown, hts, hK, hret, hlk, hA⟩ := C
  obtain ⟨q0, h0, h2⟩ := ho
  obtain ⟨q1, g0, -⟩ := ho1
  have hin := xin_of hi
  have hlt : i.toNatClampNeg < n0 := xin_lt hi
  obtain ⟨comp, cA2, kA, k3, -, k1, k2, k4⟩ := arrayOverA_spec (va_AOA.use (A := args) hJ.2.1)
  cases ((hK.2 2 _ ht).2 : s.vm.findClass ("[" ++ (FieldType.array .int).toString) = some c2).symm.trans k4
  have k5 : s.vm.findClass (FieldType.array .int).toString = some c0 := (hK.2 0 _ ht0).2
  cases k3.symm.trans k5
  obtain ⟨kE, hkE, -⟩ := Vm.findClass_spec k3
  refine W.aast hx hb (hP q0 _ h0) (fun q h => by cases h) (fun h => by cases h) k1 k2 rfl hkE ⟨fun h => hin (Or.inl h), by show _ < (arrV _ _ _).slots.size; rw [arrV_size]; exact hlt⟩ (hP q1 _ g0) (fun q h => by cases h) hkE (va_asg _ _) rfl rfl d fun H1 e1 z oq => ?_
  have hP1 := hP.set hD h0 (e := .inl (c2, n0, .inr (.inr (.inr (.inr (va_up f i.toNatClampNeg (some v))))))) (H1 := H1) (by
    show H1[a]? = some (vp_cell _ _)
    rw [e1, vp_cell_q, vp_cell_q, arrV_store]
    congr 2
    funext q
    by_cases hq : q = i.toNatClampNeg
    · subst hq
      simp [updV, va_up, va_rf]
    · simp [updV, va_up, hq]) oq
  have hD1 := hD.set (e := .inl (c2, n0, .inr (.inr (.inr (.inr (va_up f i.toNatClampNeg (some v))))))) h0
  rw [h2, hw] at hP1 hD1
  refine W.eq (g2 := F0 m q ls st) (by rw [← hq]) ?_
  exact kk H1 _ ls hP1 hD1 (hS.put z oq (hD.2 q0 _ h0)) hl
end XJK
/-! CONTRACTS THAT KNOW THE SCRIPT and the facts of the tables -/
/-- the script, outside the world -/
def xS (b Ln : Nat) (xs : Nat → Int32) (s : State) (A : Nat → Prop) : Prop := va_X b Ln xs s s.heap ∧ b < s.heap.size ∧ ¬ A b
def xX (b Ln : Nat) (xs : Nat → Int32) (U : State) : Prop := xJ2 U ∧ va_X b Ln xs U U.heap ∧ b < U.heap.size
theorem xX.same {b Ln : Nat} {xs : Nat → Int32} {u U : State} (hv : U.vm = u.vm) (hh : U.heap = u.heap) (h : xX b Ln xs u) : xX b Ln xs U :=
  ⟨xJ2.same hv h.1, va_X.moved (u := u) (hv ▸ Vm.Alike.refl u.vm) (hh ▸ h.2.1), hh ▸ h.2.2⟩
def xPx (D : va_G) (tys : List (ClassId × FieldType)) (av : List Value) (sz : Nat) (Wc : va_W) (b Ln : Nat) (xs : Nat → Int32) : Array Value → State → Prop :=
  va_Pc av (fun U => U.heap.size = sz ∧ va_P D vwCl Wc U.heap ∧ va_K D vwCl tys U ∧ va_D (fun _ => True) Wc ∧ xX b Ln xs U ∧ ∀ q ∈ Wc, q.1 ≠ b)
theorem xPx_blind {D : va_G} {tys : List (ClassId × FieldType)} {av : List Value} {sz : Nat} {Wc : va_W} {b Ln : Nat} {xs : Nat → Int32} : FrameBlind (xPx D tys av sz Wc b Ln xs) := by
  intro a U g mk q
  obtain ⟨q0, q1, qP, qK, qD, qX, qn⟩ := q
  exact ⟨q0, q1, qP, va_K.moved (u := U) (U := U.calling g mk a) (Vm.Alike.refl U.vm) qK, qD, xX.same (u := U) (U := U.calling g mk a) rfl rfl qX, qn⟩
theorem xX_call {b Ln : Nat} {xs : Nat → Int32} {s U : State} {A : Nat → Prop} {H : Heap} {locs : List Loc} {Wc : va_W} (hJ : xJ2 s) (hX : xS b Ln xs s A) (hS : va_S A s.heap H locs) (hDc : va_D A Wc) (hU : U.heap = H) (hW : s.WarmedH U.vm) : xX b Ln xs U ∧ ∀ q ∈ Wc, q.1 ≠ b := by
  refine ⟨⟨hJ.warm hW, va_X.moved hW.alike (hU.symm ▸ va_X.kept hX.1 (hS.2.1 b hX.2.1 hX.2.2)), by rw [hU]; exact Nat.lt_of_lt_of_le hX.2.1 hS.1⟩, fun q hq e => ?_⟩
  obtain ⟨i, hi⟩ := List.getElem?_of_mem hq
  exact hX.2.2 (e ▸ hDc.2 i q hi)
theorem xX_body {b Ln : Nat} {xs : Nat → Int32} {s : State} {Wc : va_W} (h : xX b Ln xs s) (hn : ∀ q ∈ Wc, q.1 ≠ b) : xS b Ln xs s (va_A Wc s.heap.size) := by
  refine ⟨h.2.1, h.2.2, ?_⟩
  rintro (⟨k, e, hk⟩ | h2)
  · exact hn _ (List.mem_of_getElem? hk) rfl
  · exact absurd h.2.2 (Nat.not_lt.mpr h2)
/-- contracts: from the world Wc with the arguments av; for some u with post, the world W' u -/
def xMXi (l : Launch) (y : MethodName) (wsM : List Cond) (rf rl mc ms : Nat) (D : va_G) (tys : List (ClassId × FieldType)) (av : List Value) (Wc : va_W) (bX LX : Nat) (xs : Nat → Int32) {S : Type} (post : Int32 → S → Prop) (W' : S → va_W) : Prop :=
  ∀ sz : Nat, Met l y wsM { frames := rf, cells := mc, slots := ms, locals := rl } (xPx D tys av sz Wc bX LX xs) (va_Qi post (fun u t => xE D tys (va_A Wc sz) (W' u) t) (va_A Wc sz)) mc ms (va_A Wc sz)
theorem xMXi_of {l : Launch} {y : MethodName} {wsM ws' : List Cond} {cc : ByteArray} {nL rf rl mc ms : Nat} {ret : Option FieldType} {D : va_G} {tys : List (ClassId × FieldType)} {av : List Value} {Wc : va_W} {bX LX : Nat} {xs : Nat → Int32} {S : Type} {post : Int32 → S → Prop} {W' : S → va_W} (L : List (Nat × Value)) (hy : plainName y.cls = true) (hw : wsM = Cond.code y cc nL ret :: ws') (hn : (lg_sl av).length ≤ nL) (hL : lv_args 0 av = L)
    (body : ∀ (p : Program) (e : Env) (s : State) (m : MethodId) (args : Array Value) (below : List Frame) (meth : Method) (c : Code) (A : Nat → Prop), xC p s m args meth c D A cc y.cls nL wsM tys ret → xJ2 s → xS bX LX xs s A → xV p l e { frames := rf, cells := mc, slots := ms, locals := rl } s m args below meth c D A (xQi D tys A post W' mc ms below args s) nL Wc 0 0 L 0 []) : xMXi l y wsM rf rl mc ms D tys av Wc bX LX xs post W' := by
  intro sz
  refine Met.ofW (cc := cc) (maxL := nL) (ret := ret) hy hw ?_
  intro p e s m args below meth c s₁ B hml hv
  obtain ⟨rfl, hsz, hP, hK, hD0, hX, hn0⟩ := hv
  subst hsz
  have hD := hD0.self (sz := s.heap.size)
  have hl := lv_entry av hn
  rw [hL] at hl
  have key := body p e s m av.toArray below meth c (va_A Wc s.heap.size) ⟨B.exec, B.bytes, hml, findClass_of_methodNamed B.named, atoms_spec (ws := wsM) B.pre, hK, B.returns, B.notSynchronized, fun q h => Or.inr h⟩ hX.1 (xX_body hX hn0) s.heap [] _ hP hD va_S.rf hl
  rw [← lg_entry_eq] at key
  exact key
def xMXr (l : Launch) (y : MethodName) (wsM : List Cond) (rf rl mc ms : Nat) (D : va_G) (tys : List (ClassId × FieldType)) (av : List Value) (Wc : va_W) (bX LX : Nat) (xs : Nat → Int32) {S : Type} (post : S → Prop) (W' : S → Nat → va_W) : Prop :=
  ∀ sz : Nat, Met l y wsM { frames := rf, cells := mc, slots := ms, locals := rl } (xPx D tys av sz Wc bX LX xs) (va_Qr post (fun u a t => xE D tys (va_A Wc sz) (W' u a) t) (va_A Wc sz)) mc ms (va_A Wc sz)
theorem xMXr_of {l : Launch} {y : MethodName} {wsM ws' : List Cond} {cc : ByteArray} {nL rf rl mc ms : Nat} {ret : Option FieldType} {D : va_G} {tys : List (ClassId × FieldType)} {av : List Value} {Wc : va_W} {bX LX : Nat} {xs : Nat → Int32} {S : Type} {post : S → Prop} {W' : S → Nat → va_W} (L : List (Nat × Value)) (hy : plainName y.cls = true) (hw : wsM = Cond.code y cc nL ret :: ws') (hn : (lg_sl av).length ≤ nL) (hL : lv_args 0 av = L)
    (body : ∀ (p : Program) (e : Env) (s : State) (m : MethodId) (args : Array Value) (below : List Frame) (meth : Method) (c : Code) (A : Nat → Prop), xC p s m args meth c D A cc y.cls nL wsM tys ret → xJ2 s → xS bX LX xs s A → xV p l e { frames := rf, cells := mc, slots := ms, locals := rl } s m args below meth c D A (xQr D tys A post W' mc ms below args s) nL Wc 0 0 L 0 []) : xMXr l y wsM rf rl mc ms D tys av Wc bX LX xs post W' := by
  intro sz
  refine Met.ofW (cc := cc) (maxL := nL) (ret := ret) hy hw ?_
  intro p e s m args below meth c s₁ B hml hv
  obtain ⟨rfl, hsz, hP, hK, hD0, hX, hn0⟩ := hv
  subst hsz
  have hD := hD0.self (sz := s.heap.size)
  have hl := lv_entry av hn
  rw [hL] at hl
  have key := body p e s m av.toArray below meth c (va_A Wc s.heap.size) ⟨B.exec, B.bytes, hml, findClass_of_methodNamed B.named, atoms_spec (ws := wsM) B.pre, hK, B.returns, B.notSynchronized, fun q h => Or.inr h⟩ hX.1 (xX_body hX hn0) s.heap [] _ hP hD va_S.rf hl
  rw [← lg_entry_eq] at key
  exact key
section XCALLX
variable {p : Program} {l : Launch} {e : Env} {R : Room} {s : State} {m : MethodId} {args : Array Value} {below : List Frame} {meth : Method} {c : Code} {Q : State → Prop}
variable {D : va_G} {A : Nat → Prop} {cc : ByteArray} {own : String} {nL : Nat} {Ts : List Cond} {tys : List (ClassId × FieldType)} {ret : Option FieldType}
variable {ws Wc Wr : va_W} {k n pc q mc ms rf rl idx ci b na maxL2 : Nat} {L : List (Nat × Value)} {st As rest : List Value} {S : Type} {y2 : MethodName} {ws2 : List Cond} {b2 : ByteArray} {ret2 : Option FieldType} {fs : List Value} {C2 : String} {T2 : u_T} {N2 : Nat}
theorem x_callXSi {bX LX : Nat} {xs : Nat → Int32} {post : Int32 → S → Prop} {W2 : S → va_W} (C : xC p s m args meth c D A cc own nL Ts tys ret) (hJ : xJ2 s) (hX : xS bX LX xs s A) (M : xMXi l y2 ws2 rf rl mc ms D tys (As) Wc bX LX xs post W2) (hy : xY y2 ws2 b2 maxL2 ret2 na) (hG : GoodIn Ts (va_wsS own idx y2 ws2)) (hR : rf + 1 ≤ R.frames ∧ 8 + (maxL2 + 11) + rl ≤ R.locals) (d : decode cc pc = .ok (.invokestatic idx, 3)) (hpm : ws.Perm (Wc ++ Wr)) (hst : st = As.reverse ++ rest) (hlen : As.length = na) (hW : (rest.map fun v => v.category).sum ≤ 8) (hf : k + mc ≤ R.cells ∧ n + ms ≤ R.slots) (hq : pc + 3 = q) (kk : ∀ (r : Int32) (u : S), post r u → xV p l e R s m args below meth c D A Q nL (W2 u ++ Wr) (k + mc) (n + ms) L q (.int r :: rest)) : xV p l e R s m args below meth c D A Q nL ws k n L pc st := by
  intro H locs ls hP hD hS hl
  obtain ⟨hx, hb, hml, hown, hts, hK, hret, hlk, hA⟩ := C
  have hP2 := xP_perm hpm hP
  have hD2 := xD_perm hpm hD
  have hPc := xP_left hP2
  have hDc := xD_left hD2
  have hFc := xFree hD2 hS hA
  obtain ⟨⟨wsY, hyw⟩, hy2⟩ := hy
  subst hst
  have hW : 2 * (F0 m pc ls (As.reverse ++ rest)).monitorRoom + (rest.map fun v => v.category).sum ≤ 8 := lv_room hW
  refine va_calli (va_runS (As := As) (rest := rest) ⟨hx, hb, hml, hown, hts⟩ (M H.size) (va_cwS na hts hG hyw rfl rfl ⟨hy2.1, hy2.2.1, hy2.2.2⟩ hR) ⟨xPx_blind, fun U hU hW => ⟨rfl, by rw [hU], by rw [hU]; exact hPc, va_K.moved hW.alike hK, hDc.weaken (fun _ _ _ _ => trivial), xX_call hJ hX hS hDc (by rw [hU]) hW⟩⟩ rfl hlen hl.1 rfl hW d hf) hS (fun q _ h => hFc q h) hFc (fun r u t H1 locs1 ht hvm hw hB hz1 hk1 hS1 => ?_)
  obtain ⟨hP1, hK1, hD1⟩ := hB
  rw [ht] at hP1
  obtain ⟨hP3, hD3⟩ := xJoin hP2 hD2 hFc hk1 hP1 hD1
  exact hq ▸ kk r u hw H1 locs1 ls hP3 hD3 hS1 hl
theorem x_callXSr {bX LX : Nat} {xs : Nat → Int32} {post : S → Prop} {W2 : S → Nat → va_W} (C : xC p s m args meth c D A cc own nL Ts tys ret) (hJ : xJ2 s) (hX : xS bX LX xs s A) (M : xMXr l y2 ws2 rf rl mc ms D tys (As) Wc bX LX xs post W2) (hy : xY y2 ws2 b2 maxL2 ret2 na) (hG : GoodIn Ts (va_wsS own idx y2 ws2)) (hR : rf + 1 ≤ R.frames ∧ 8 + (maxL2 + 11) + rl ≤ R.locals) (d : decode cc pc = .ok (.invokestatic idx, 3)) (hpm : ws.Perm (Wc ++ Wr)) (hst : st = As.reverse ++ rest) (hlen : As.length = na) (hW : (rest.map fun v => v.category).sum ≤ 8) (hf : k + mc ≤ R.cells ∧ n + ms ≤ R.slots) (hq : pc + 3 = q) (kk : ∀ (u : S) (r : Nat), post u → xV p l e R s m args below meth c D A Q nL (W2 u r ++ Wr) (k + mc) (n + ms) L q (.ref r :: rest)) : xV p l e R s m args below meth c D A Q nL ws k n L pc st := by
  intro H locs ls hP hD hS hl
  obtain ⟨hx, hb, hml, hown, hts, hK, hret, hlk, hA⟩ := C
  have hP2 := xP_perm hpm hP
  have hD2 := xD_perm hpm hD
  have hPc := xP_left hP2
  have hDc := xD_left hD2
  have hFc := xFree hD2 hS hA
  obtain ⟨⟨wsY, hyw⟩, hy2⟩ := hy
  subst hst
  have hW : 2 * (F0 m pc ls (As.reverse ++ rest)).monitorRoom + (rest.map fun v => v.category).sum ≤ 8 := lv_room hW
  refine va_callr (va_runS (As := As) (rest := rest) ⟨hx, hb, hml, hown, hts⟩ (M H.size) (va_cwS na hts hG hyw rfl rfl ⟨hy2.1, hy2.2.1, hy2.2.2⟩ hR) ⟨xPx_blind, fun U hU hW => ⟨rfl, by rw [hU], by rw [hU]; exact hPc, va_K.moved hW.alike hK, hDc.weaken (fun _ _ _ _ => trivial), xX_call hJ hX hS hDc (by rw [hU]) hW⟩⟩ rfl hlen hl.1 rfl hW d hf) hS (fun q _ h => hFc q h) hFc (fun u r t H1 locs1 ht hvm hw hB hz1 hk1 hS1 => ?_)
  obtain ⟨hP1, hK1, hD1⟩ := hB
  rw [ht] at hP1
  obtain ⟨hP3, hD3⟩ := xJoin hP2 hD2 hFc hk1 hP1 hD1
  exact hq ▸ kk u r hw H1 locs1 ls hP3 hD3 hS1 hl
theorem x_callSr {post : S → Prop} {W2 : S → Nat → va_W} (C : xC p s m args meth c D A cc own nL Ts tys ret) (M : xMr l y2 ws2 rf rl mc ms D tys (As) Wc post W2) (hy : xY y2 ws2 b2 maxL2 ret2 na) (hG : GoodIn Ts (va_wsS own idx y2 ws2)) (hR : rf + 1 ≤ R.frames ∧ 8 + (maxL2 + 11) + rl ≤ R.locals) (d : decode cc pc = .ok (.invokestatic idx, 3)) (hpm : ws.Perm (Wc ++ Wr)) (hst : st = As.reverse ++ rest) (hlen : As.length = na) (hW : (rest.map fun v => v.category).sum ≤ 8) (hf : k + mc ≤ R.cells ∧ n + ms ≤ R.slots) (hq : pc + 3 = q) (kk : ∀ (u : S) (r : Nat), post u → xV p l e R s m args below meth c D A Q nL (W2 u r ++ Wr) (k + mc) (n + ms) L q (.ref r :: rest)) : xV p l e R s m args below meth c D A Q nL ws k n L pc st := by
  intro H locs ls hP hD hS hl
  obtain ⟨hx, hb, hml, hown, hts, hK, hret, hlk, hA⟩ := C
  have hP2 := xP_perm hpm hP
  have hD2 := xD_perm hpm hD
  have hPc := xP_left hP2
  have hDc := xD_left hD2
  have hFc := xFree hD2 hS hA
  obtain ⟨⟨wsY, hyw⟩, hy2⟩ := hy
  subst hst
  have hW : 2 * (F0 m pc ls (As.reverse ++ rest)).monitorRoom + (rest.map fun v => v.category).sum ≤ 8 := lv_room hW
  refine va_callr (va_runS (As := As) (rest := rest) ⟨hx, hb, hml, hown, hts⟩ (M H.size) (va_cwS na hts hG hyw rfl rfl ⟨hy2.1, hy2.2.1, hy2.2.2⟩ hR) ⟨xPc_blind, fun U hU hW => ⟨rfl, by rw [hU], by rw [hU]; exact hPc, va_K.moved hW.alike hK, hDc.weaken (fun _ _ _ _ => trivial)⟩⟩ rfl hlen hl.1 rfl hW d hf) hS (fun q _ h => hFc q h) hFc (fun u r t H1 locs1 ht hvm hw hB hz1 hk1 hS1 => ?_)
  obtain ⟨hP1, hK1, hD1⟩ := hB
  rw [ht] at hP1
  obtain ⟨hP3, hD3⟩ := xJoin hP2 hD2 hFc hk1 hP1 hD1
  exact hq ▸ kk u r hw H1 locs1 ls hP3 hD3 hS1 hl
theorem x_callJSr {post : S → Prop} {W2 : S → Nat → va_W} (C : xC p s m args meth c D A cc own nL Ts tys ret) (hJ : xJ2 s) (M : xMJr l y2 ws2 rf rl mc ms D tys (As) Wc post W2) (hy : xY y2 ws2 b2 maxL2 ret2 na) (hG : GoodIn Ts (va_wsS own idx y2 ws2)) (hR : rf + 1 ≤ R.frames ∧ 8 + (maxL2 + 11) + rl ≤ R.locals) (d : decode cc pc = .ok (.invokestatic idx, 3)) (hpm : ws.Perm (Wc ++ Wr)) (hst : st = As.reverse ++ rest) (hlen : As.length = na) (hW : (rest.map fun v => v.category).sum ≤ 8) (hf : k + mc ≤ R.cells ∧ n + ms ≤ R.slots) (hq : pc + 3 = q) (kk : ∀ (u : S) (r : Nat), post u → xV p l e R s m args below meth c D A Q nL (W2 u r ++ Wr) (k + mc) (n + ms) L q (.ref r :: rest)) : xV p l e R s m args below meth c D A Q nL ws k n L pc st := by
  intro H locs ls hP hD hS hl
  obtain ⟨hx, hb, hml, hown, hts, hK, hret, hlk, hA⟩ := C
  have hP2 := xP_perm hpm hP
  have hD2 := xD_perm hpm hD
  have hPc := xP_left hP2
  have hDc := xD_left hD2
  have hFc := xFree hD2 hS hA
  obtain ⟨⟨wsY, hyw⟩, hy2⟩ := hy
  subst hst
  have hW : 2 * (F0 m pc ls (As.reverse ++ rest)).monitorRoom + (rest.map fun v => v.category).sum ≤ 8 := lv_room hW
  refine va_callr (va_runS (As := As) (rest := rest) ⟨hx, hb, hml, hown, hts⟩ (M H.size) (va_cwS na hts hG hyw rfl rfl ⟨hy2.1, hy2.2.1, hy2.2.2⟩ hR) ⟨xPj_blind, fun U hU hW => ⟨rfl, by rw [hU], by rw [hU]; exact hPc, va_K.moved hW.alike hK, hDc.weaken (fun _ _ _ _ => trivial), hJ.warm hW⟩⟩ rfl hlen hl.1 rfl hW d hf) hS (fun q _ h => hFc q h) hFc (fun u r t H1 locs1 ht hvm hw hB hz1 hk1 hS1 => ?_)
  obtain ⟨hP1, hK1, hD1⟩ := hB
  rw [ht] at hP1
  obtain ⟨hP3, hD3⟩ := xJoin hP2 hD2 hFc hk1 hP1 hD1
  exact hq ▸ kk u r hw H1 locs1 ls hP3 hD3 hS1 hl
theorem x_sld (C : xC p s m args meth c D A cc own nL Ts tys ret) {b Ln : Nat} {xs : Nat → Int32} (hX : xS b Ln xs s A) {i : Int32} (hin : vp_in i Ln) (d : decode cc pc = .ok (.iaload, 1)) (hq : pc + 1 = q) (kk : xV p l e R s m args below meth c D A Q nL ws k n L q (.int (xs i.toNatClampNeg) :: st)) : xV p l e R s m args below meth c D A Q nL ws k n L pc (.int i :: .ref b :: st) :=
  fun H locs ls hP hD hS hl => va_sld C.1 C.2.1 hX.1 hX.2.1 hX.2.2 hS hin d (hq ▸ kk H locs ls hP hD hS hl)
theorem x_slen (C : xC p s m args meth c D A cc own nL Ts tys ret) {b Ln : Nat} {xs : Nat → Int32} (hX : xS b Ln xs s A) (d : decode cc pc = .ok (.arraylength, 1)) (hq : pc + 1 = q) (kk : xV p l e R s m args below meth c D A Q nL ws k n L q (.int (Int32.ofNat Ln) :: st)) : xV p l e R s m args below meth c D A Q nL ws k n L pc (.ref b :: st) :=
  fun H locs ls hP hD hS hl => va_slen C.1 C.2.1 hX.1 hX.2.1 hX.2.2 hS d (hq ▸ kk H locs ls hP hD hS hl)
end XCALLX
