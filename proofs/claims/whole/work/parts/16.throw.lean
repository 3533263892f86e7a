/-! THROWS: what a throwing method needs beside its world, its contract, and its rows -/
def xEx (n : Nat) : String := match n with
  | 1 => "java/lang/IllegalArgumentException"
  | 2 => "java/lang/IllegalStateException"
  | _ => "java/lang/IndexOutOfBoundsException"
def xStr : List (Nat × String) := [(51, "a street joins two different corners"), (95, "the lamp is in the round already"), (180, "the night is not over"), (225, "there is none of this number"), (228, "the value is out of its range"), (230, "there is no room for one more")]
def xBadD : List MethodName := [⟨"java/lang/IllegalArgumentException", "<init>", "(Ljava/lang/String;)V"⟩, ⟨"java/lang/IllegalStateException", "<init>", "(Ljava/lang/String;)V"⟩, ⟨"java/lang/IndexOutOfBoundsException", "<init>", "(Ljava/lang/String;)V"⟩, ⟨"java/lang/RuntimeException", "<init>", "(Ljava/lang/String;)V"⟩, ⟨"java/lang/Exception", "<init>", "(Ljava/lang/String;)V"⟩, ⟨"java/lang/Throwable", "<init>", "(Ljava/lang/String;)V"⟩]
def xBadN : List (String × String) := [("java/lang/IllegalArgumentException", "java/lang/IllegalStateException"), ("java/lang/IllegalArgumentException", "java/lang/IndexOutOfBoundsException"), ("java/lang/IllegalStateException", "java/lang/IllegalArgumentException"), ("java/lang/IllegalStateException", "java/lang/IndexOutOfBoundsException"), ("java/lang/IndexOutOfBoundsException", "java/lang/IllegalArgumentException"), ("java/lang/IndexOutOfBoundsException", "java/lang/IllegalStateException")]
/-- of the tables and the strings -/
def xJ (U : State) : Prop := (∀ q ∈ xStr, ∃ a, vk_R RX2 q.1 q.2 a U) ∧ (∀ E ∈ ["java/lang/IllegalArgumentException", "java/lang/IllegalStateException", "java/lang/IndexOutOfBoundsException"], va_Nw (.castable E E) U) ∧ (∀ x ∈ xBadD, va_Nw (.declares x) U) ∧ ∀ q ∈ xBadN, va_Nc q.1 q.2 U
theorem xJ.warm {s U : State} (hW : s.WarmedH U.vm) (h : xJ s) : xJ U :=
  ⟨fun q hq => let ⟨a, ha⟩ := h.1 q hq; ⟨a, ha.warm hW⟩, fun E hE => va_Nw.warmC hW (h.2.1 E hE), fun x hx => va_Nw.warmD hW (h.2.2.1 x hx), fun q hq => va_Nc.moved hW.alike (h.2.2.2 q hq)⟩
theorem xJ.same {u U : State} (hv : U.vm = u.vm) (h : xJ u) : xJ U :=
  ⟨fun q hq => let ⟨a, ha⟩ := h.1 q hq; ⟨a, ha.same hv⟩, fun E hE => va_Nw.same rfl hv.symm (h.2.1 E hE), fun x hx => va_Nw.same rfl hv.symm (h.2.2.1 x hx), fun q hq => va_Nc.moved (hv ▸ Vm.Alike.refl u.vm) (h.2.2.2 q hq)⟩
/-- of Throwable's two statics: they lie outside A -/
def xZ (A : Nat → Prop) (U : State) (H : Heap) : Prop := vx_Zq Bundle.tN "UNASSIGNED_STACK" Bundle.steD A U H ∧ vx_Zq Bundle.tN "SUPPRESSED_SENTINEL" Bundle.listD A U H
def xT2 (l : Launch) (s : State) (A : Nat → Prop) : Prop := l.stackTraces = false ∧ xJ s ∧ xZ A s s.heap
def xPt (D : va_G) (tys : List (ClassId × FieldType)) (av : List Value) (sz : Nat) (Wc : va_W) : Array Value → State → Prop :=
  va_Pc av (fun U => U.heap.size = sz ∧ va_P D vwCl Wc U.heap ∧ va_K D vwCl tys U ∧ va_D (fun _ => True) Wc ∧ xJ U ∧ xZ (va_A Wc sz) U U.heap)
theorem xPt_blind {D : va_G} {tys : List (ClassId × FieldType)} {av : List Value} {sz : Nat} {Wc : va_W} : FrameBlind (xPt D tys av sz Wc) := by
  intro a U g mk q
  obtain ⟨q0, q1, qP, qK, qD, qJ, qZ⟩ := q
  exact ⟨q0, q1, qP, va_K.moved (u := U) (U := U.calling g mk a) (Vm.Alike.refl U.vm) qK, qD, xJ.same (u := U) (U := U.calling g mk a) rfl qJ, vx_Zq.moved (u := U) (U := U.calling g mk a) (Vm.Alike.refl U.vm) qZ.1, vx_Zq.moved (u := U) (U := U.calling g mk a) (Vm.Alike.refl U.vm) qZ.2⟩
/-- what a throwing method's thrown end says: which, and the world is as it was -/
def xX {R : Type} (D : va_G) (tys : List (ClassId × FieldType)) (o : Nat ⊕ R) (A : Nat → Prop) (W0 : va_W) : String → State → State → Prop :=
  vx_X (fun n : Nat => o = .inl n) (fun E n t => E = xEx n ∧ xE D tys A W0 t) A
def xQN {R : Type} (D : va_G) (tys : List (ClassId × FieldType)) (A : Nat → Prop) (QQ : Array Value → State → Outcome → State → Prop) (o : Nat ⊕ R) (W0 : va_W) (mc ms : Nat) (below : List Frame) (args : Array Value) (s : State) : State → Prop := vx_MQ below QQ (xX D tys o A W0) args s mc ms A
def xNi (l : Launch) (y : MethodName) (wsM : List Cond) (rf rl mc ms : Nat) (D : va_G) (tys : List (ClassId × FieldType)) (av : List Value) (Wc : va_W) {R S : Type} (o : Nat ⊕ R) (mk : Int32 → S → R) (W' : S → va_W) : Prop :=
  ∀ sz : Nat, vx_Met l y wsM { frames := rf, cells := mc, slots := ms, locals := rl } (xPt D tys av sz Wc) (va_Qi (fun (r : Int32) (u : S) => o = .inr (mk r u)) (fun u t => xE D tys (va_A Wc sz) (W' u) t) (va_A Wc sz)) (xX D tys o (va_A Wc sz) Wc) mc ms (va_A Wc sz)
theorem xNi_of {l : Launch} {y : MethodName} {wsM ws' : List Cond} {cc : ByteArray} {nL rf rl mc ms : Nat} {ret : Option FieldType} {D : va_G} {tys : List (ClassId × FieldType)} {av : List Value} {Wc : va_W} {R S : Type} {o : Nat ⊕ R} {mk : Int32 → S → R} {W' : S → va_W} (L : List (Nat × Value)) (hst : l.stackTraces = false) (hy : plainName y.cls = true) (hw : wsM = Cond.code y cc nL ret :: ws') (hn : (lg_sl av).length ≤ nL) (hL : lv_args 0 av = L)
    (body : ∀ (p : Program) (e : Env) (s : State) (m : MethodId) (args : Array Value) (below : List Frame) (meth : Method) (c : Code) (A : Nat → Prop), xC p s m args meth c D A cc y.cls nL wsM tys ret → xT2 l s A → (∀ x ∈ c.exceptionTable.toList, False) → xV p l e { frames := rf, cells := mc, slots := ms, locals := rl } s m args below meth c D A (xQN D tys A (va_Qi (fun (r : Int32) (u : S) => o = .inr (mk r u)) (fun u t => xE D tys A (W' u) t) A) o Wc mc ms below args s) nL Wc 0 0 L 0 []) : xNi l y wsM rf rl mc ms D tys av Wc o mk W' := by
  intro sz
  refine vx_ofW (cc := cc) (maxL := nL) (ret := ret) hy hw ?_
  intro p e s m args below meth c s₁ B hml hE hv
  obtain ⟨rfl, hsz, hP, hK, hD0, hJ, hZ⟩ := hv
  subst hsz
  have hD := hD0.self (sz := s.heap.size)
  have hl := lv_entry av hn
  rw [hL] at hl
  have key := body p e s m av.toArray below meth c (va_A Wc s.heap.size) ⟨B.exec, B.bytes, hml, findClass_of_methodNamed B.named, atoms_spec (ws := wsM) B.pre, hK, B.returns, B.notSynchronized, fun q h => Or.inr h⟩ ⟨hst, hJ, hZ⟩ hE s.heap [] _ hP hD va_S.rf hl
  rw [← lg_entry_eq] at key
  exact key
def xNv (l : Launch) (y : MethodName) (wsM : List Cond) (rf rl mc ms : Nat) (D : va_G) (tys : List (ClassId × FieldType)) (av : List Value) (Wc : va_W) {R S : Type} (o : Nat ⊕ R) (mk : S → R) (W' : S → va_W) : Prop :=
  ∀ sz : Nat, vx_Met l y wsM { frames := rf, cells := mc, slots := ms, locals := rl } (xPt D tys av sz Wc) (va_Qv (fun (u : S) => o = .inr (mk u)) (fun u t => xE D tys (va_A Wc sz) (W' u) t) (va_A Wc sz)) (xX D tys o (va_A Wc sz) Wc) mc ms (va_A Wc sz)
theorem xNv_of {l : Launch} {y : MethodName} {wsM ws' : List Cond} {cc : ByteArray} {nL rf rl mc ms : Nat} {ret : Option FieldType} {D : va_G} {tys : List (ClassId × FieldType)} {av : List Value} {Wc : va_W} {R S : Type} {o : Nat ⊕ R} {mk : S → R} {W' : S → va_W} (L : List (Nat × Value)) (hst : l.stackTraces = false) (hy : plainName y.cls = true) (hw : wsM = Cond.code y cc nL ret :: ws') (hn : (lg_sl av).length ≤ nL) (hL : lv_args 0 av = L)
    (body : ∀ (p : Program) (e : Env) (s : State) (m : MethodId) (args : Array Value) (below : List Frame) (meth : Method) (c : Code) (A : Nat → Prop), xC p s m args meth c D A cc y.cls nL wsM tys ret → xT2 l s A → (∀ x ∈ c.exceptionTable.toList, False) → xV p l e { frames := rf, cells := mc, slots := ms, locals := rl } s m args below meth c D A (xQN D tys A (va_Qv (fun (u : S) => o = .inr (mk u)) (fun u t => xE D tys A (W' u) t) A) o Wc mc ms below args s) nL Wc 0 0 L 0 []) : xNv l y wsM rf rl mc ms D tys av Wc o mk W' := by
  intro sz
  refine vx_ofW (cc := cc) (maxL := nL) (ret := ret) hy hw ?_
  intro p e s m args below meth c s₁ B hml hE hv
  obtain ⟨rfl, hsz, hP, hK, hD0, hJ, hZ⟩ := hv
  subst hsz
  have hD := hD0.self (sz := s.heap.size)
  have hl := lv_entry av hn
  rw [hL] at hl
  have key := body p e s m av.toArray below meth c (va_A Wc s.heap.size) ⟨B.exec, B.bytes, hml, findClass_of_methodNamed B.named, atoms_spec (ws := wsM) B.pre, hK, B.returns, B.notSynchronized, fun q h => Or.inr h⟩ ⟨hst, hJ, hZ⟩ hE s.heap [] _ hP hD va_S.rf hl
  rw [← lg_entry_eq] at key
  exact key
def xNl (l : Launch) (y : MethodName) (wsM : List Cond) (rf rl mc ms : Nat) (D : va_G) (tys : List (ClassId × FieldType)) (av : List Value) (Wc : va_W) {R S : Type} (o : Nat ⊕ R) (mk : Int64 → S → R) (W' : S → va_W) : Prop :=
  ∀ sz : Nat, vx_Met l y wsM { frames := rf, cells := mc, slots := ms, locals := rl } (xPt D tys av sz Wc) (va_Ql (fun (r : Int64) (u : S) => o = .inr (mk r u)) (fun u t => xE D tys (va_A Wc sz) (W' u) t) (va_A Wc sz)) (xX D tys o (va_A Wc sz) Wc) mc ms (va_A Wc sz)
theorem xNl_of {l : Launch} {y : MethodName} {wsM ws' : List Cond} {cc : ByteArray} {nL rf rl mc ms : Nat} {ret : Option FieldType} {D : va_G} {tys : List (ClassId × FieldType)} {av : List Value} {Wc : va_W} {R S : Type} {o : Nat ⊕ R} {mk : Int64 → S → R} {W' : S → va_W} (L : List (Nat × Value)) (hst : l.stackTraces = false) (hy : plainName y.cls = true) (hw : wsM = Cond.code y cc nL ret :: ws') (hn : (lg_sl av).length ≤ nL) (hL : lv_args 0 av = L)
    (body : ∀ (p : Program) (e : Env) (s : State) (m : MethodId) (args : Array Value) (below : List Frame) (meth : Method) (c : Code) (A : Nat → Prop), xC p s m args meth c D A cc y.cls nL wsM tys ret → xT2 l s A → (∀ x ∈ c.exceptionTable.toList, False) → xV p l e { frames := rf, cells := mc, slots := ms, locals := rl } s m args below meth c D A (xQN D tys A (va_Ql (fun (r : Int64) (u : S) => o = .inr (mk r u)) (fun u t => xE D tys A (W' u) t) A) o Wc mc ms below args s) nL Wc 0 0 L 0 []) : xNl l y wsM rf rl mc ms D tys av Wc o mk W' := by
  intro sz
  refine vx_ofW (cc := cc) (maxL := nL) (ret := ret) hy hw ?_
  intro p e s m args below meth c s₁ B hml hE hv
  obtain ⟨rfl, hsz, hP, hK, hD0, hJ, hZ⟩ := hv
  subst hsz
  have hD := hD0.self (sz := s.heap.size)
  have hl := lv_entry av hn
  rw [hL] at hl
  have key := body p e s m av.toArray below meth c (va_A Wc s.heap.size) ⟨B.exec, B.bytes, hml, findClass_of_methodNamed B.named, atoms_spec (ws := wsM) B.pre, hK, B.returns, B.notSynchronized, fun q h => Or.inr h⟩ ⟨hst, hJ, hZ⟩ hE s.heap [] _ hP hD va_S.rf hl
  rw [← lg_entry_eq] at key
  exact key
section XT
variable {p : Program} {l : Launch} {e : Env} {R : Room} {s : State} {m : MethodId} {args : Array Value} {below : List Frame} {meth : Method} {c : Code}
variable {D : va_G} {A : Nat → Prop} {cc : ByteArray} {own : String} {nL : Nat} {Ts : List Cond} {tys : List (ClassId × FieldType)} {ret : Option FieldType}
variable {ws W0 : va_W} {k n pc mc ms : Nat} {L : List (Nat × Value)} {S RT : Type} {o : Nat ⊕ RT} {st : List Value}
theorem xx_iret {mk : Int32 → S → RT} {W' : S → va_W} {v : Int32} (u : S) (C : xC p s m args meth c D A cc own nL Ts tys ret) (d : decode cc pc = .ok (.ireturn, 1)) (hr : ret = some .int) (hp : o = .inr (mk v u)) (hw : ws = W' u) (h1 : k ≤ mc) (h2 : n ≤ ms) : xV p l e R s m args below meth c D A (xQN D tys A (va_Qi (fun (r : Int32) (u : S) => o = .inr (mk r u)) (fun u t => xE D tys A (W' u) t) A) o W0 mc ms below args s) nL ws k n L pc [.int v] := by
  intro H locs ls hP hD hS hl
  subst hw
  obtain ⟨hx, hb, -, hown, hts, hK, hret, hlk, hA⟩ := C
  refine vx_ret (W.widen h1 h2 ?_)
  exact W.iret (v := v) hx hb (hret.trans hr) (fun t ht hW => ⟨⟨v, u, rfl, hp, by rw [ht]; exact hP, va_K.moved hW.alike hK, hD⟩, hS.F ht⟩) hS.2.2 d hlk
theorem xx_lret {mk : Int64 → S → RT} {W' : S → va_W} {v : Int64} (u : S) (C : xC p s m args meth c D A cc own nL Ts tys ret) (d : decode cc pc = .ok (.lreturn, 1)) (hr : ret = some .long) (hp : o = .inr (mk v u)) (hw : ws = W' u) (h1 : k ≤ mc) (h2 : n ≤ ms) : xV p l e R s m args below meth c D A (xQN D tys A (va_Ql (fun (r : Int64) (u : S) => o = .inr (mk r u)) (fun u t => xE D tys A (W' u) t) A) o W0 mc ms below args s) nL ws k n L pc [.long v] := by
  intro H locs ls hP hD hS hl
  subst hw
  obtain ⟨hx, hb, -, hown, hts, hK, hret, hlk, hA⟩ := C
  refine vx_ret (W.widen h1 h2 ?_)
  exact W.lret (v := v) hx hb (hret.trans hr) (fun t ht hW => ⟨⟨v, u, rfl, hp, by rw [ht]; exact hP, va_K.moved hW.alike hK, hD⟩, hS.F ht⟩) hS.2.2 d hlk
theorem xx_vret {mk : S → RT} {W' : S → va_W} (u : S) (C : xC p s m args meth c D A cc own nL Ts tys ret) (d : decode cc pc = .ok (.return_, 1)) (hr : ret = none) (hp : o = .inr (mk u)) (hw : ws = W' u) (h1 : k ≤ mc) (h2 : n ≤ ms) : xV p l e R s m args below meth c D A (xQN D tys A (va_Qv (fun (u : S) => o = .inr (mk u)) (fun u t => xE D tys A (W' u) t) A) o W0 mc ms below args s) nL ws k n L pc [] := by
  intro H locs ls hP hD hS hl
  subst hw
  obtain ⟨hx, hb, -, hown, hts, hK, hret, hlk, hA⟩ := C
  refine vx_ret (W.widen h1 h2 ?_)
  exact W.vret hx hb (hret.trans hr) (fun t ht hW => ⟨⟨u, rfl, hp, by rw [ht]; exact hP, va_K.moved hW.alike hK, hD⟩, hS.F ht⟩) hS.2.2 d hlk
/-- new E(text) thrown -/
theorem x_throw {QQ : Array Value → State → Outcome → State → Prop} (i : Nat) {ik is ic : Nat} {text : String} (C : xC p s m args meth c D A cc RX2 nL Ts tys ret) (T : xT2 l s A) (hE : ∀ x ∈ c.exceptionTable.toList, False) (ho : o = .inl i) (hw : ws = W0)
    (hm : Cond.classLink RX2 ik (xEx i) ∈ Ts) (hi : Cond.initialized (xEx i) ∈ Ts) (hs : (is, text) ∈ xStr) (hgd : ∀ w ∈ (vx_atS RX2 ic (xEx i) ["java/lang/RuntimeException", "java/lang/Exception"]).filter goodWord, w ∈ Ts)
    (hbd : ∀ w ∈ (vx_atS RX2 ic (xEx i) ["java/lang/RuntimeException", "java/lang/Exception"]).filter (fun w => !goodWord w), w ∈ ([.castable (xEx i) (xEx i), .declares ⟨xEx i, "<init>", "(Ljava/lang/String;)V"⟩, .declares ⟨"java/lang/RuntimeException", "<init>", "(Ljava/lang/String;)V"⟩, .declares ⟨"java/lang/Exception", "<init>", "(Ljava/lang/String;)V"⟩, .declares ⟨"java/lang/Throwable", "<init>", "(Ljava/lang/String;)V"⟩] : List Cond))
    (hgood : ∀ w ∈ Cond.classLink RX2 ik (xEx i) :: Cond.initialized (xEx i) :: vx_atS RX2 ic (xEx i) ["java/lang/RuntimeException", "java/lang/Exception"], vx_ot w = true) (hcls : Bundle.fit (xEx i) = true)
    (d0 : decode cc pc = .ok (.new ik, 3)) (d3 : decode cc (pc + 3) = .ok (.dup, 1)) (d4 : decode cc (pc + 4) = .ok (.ldc is, 2)) (d6 : decode cc (pc + 6) = .ok (.invokespecial ic, 3)) (d9 : decode cc (pc + 9) = .ok (.athrow, 1))
    (hfr : 5 < R.frames) (hlo : (st.map fun v => v.category).sum + 82 ≤ R.locals) (hc : k + 1 ≤ R.cells) (hsl : n + 6 ≤ R.slots) (h1 : k + 1 ≤ mc) (h2 : n + 6 ≤ ms) : xV p l e R s m args below meth c D A (xQN D tys A QQ o W0 mc ms below args s) nL ws k n L pc st := by
  intro H locs ls hP hD hS hl
  subst hw
  obtain ⟨hx, hb, hml, hown, hts, hK, hret, hlk, hA⟩ := C
  obtain ⟨ht, hJ, hZ⟩ := T
  obtain ⟨sa, hsa⟩ := hJ.1 _ hs
  have hin : xEx i ∈ ["java/lang/IllegalArgumentException", "java/lang/IllegalStateException", "java/lang/IndexOutOfBoundsException"] := by
    unfold xEx
    split <;> simp
  have hdc : (⟨xEx i, "<init>", "(Ljava/lang/String;)V"⟩ : MethodName) ∈ xBadD := by
    unfold xEx
    split <;> simp [xBadD]
  exact vx_throwS (sa := sa) (text := text) (names := ["java/lang/RuntimeException", "java/lang/Exception"]) hx hb ht hown hcls (by decide +kernel) (hts _ hm) (hts _ hi) hsa
    (vx_hat (fun w h => hts w (hgd w h)) hbd (vx_c (va_Nw.use rfl (hJ.2.1 _ hin)) (vx_c (va_Nw.use rfl (hJ.2.2.1 _ hdc)) (vx_c (va_Nw.use rfl (hJ.2.2.1 _ (by simp [xBadD]))) (vx_c (va_Nw.use rfl (hJ.2.2.1 _ (by simp [xBadD]))) (vx_c (va_Nw.use rfl (hJ.2.2.1 _ (by simp [xBadD]))) vx_n)))))) hgood hZ.1 hZ.2 hS (hl.1.trans hml.symm) d0 d3 d4 d6 d9 (fun x hx => (hE x hx).elim) hfr hlo hc hsl hlk
    (fun t hvm hz hk => ⟨i, ho, ⟨rfl, hP.kept (fun j q hq => hk q.1 (hP j q hq).lt), va_K.moved hvm hK, hD⟩, Nat.le_trans hS.1 hz, fun q h3 h4 => (hk q (Nat.lt_of_lt_of_le h3 hS.1)).trans (hS.2.1 q h3 h4)⟩) hS.2.2 h1 h2
end XT
section XTC
variable {p : Program} {l : Launch} {e : Env} {R : Room} {s : State} {m : MethodId} {args : Array Value} {below : List Frame} {meth : Method} {c : Code} {Q : State → Prop}
variable {D : va_G} {A : Nat → Prop} {cc : ByteArray} {own : String} {nL : Nat} {Ts : List Cond} {tys : List (ClassId × FieldType)} {ret : Option FieldType}
variable {ws Wc Wr W0 : va_W} {k n pc q mc ms mcM msM rf rl idx ci b na maxL2 : Nat} {L : List (Nat × Value)} {st As rest : List Value} {S R2 RM : Type} {y2 : MethodName} {ws2 : List Cond} {b2 : ByteArray} {ret2 : Option FieldType} {fs : List Value} {C2 : String} {T2 : u_T} {N2 : Nat} {o2 : Nat ⊕ R2} {oM : Nat ⊕ RM}
theorem xZ_for {H0 H : Heap} {locs : List Loc} {B : Nat → Prop} {U : State} (hZ : xZ A s H0) (hS : va_S A H0 H locs) (hB : ∀ q, B q → A q) (hU : U.heap = H) (hW : s.WarmedH U.vm) : xZ B U U.heap := by
  rw [hU]
  exact ⟨((hZ.1.kept (fun a h1 h2 => hS.2.1 a h1 h2)).narrow hB).moved hW.alike, ((hZ.2.kept (fun a h1 h2 => hS.2.1 a h1 h2)).narrow hB).moved hW.alike⟩
theorem x_callRVi {mk : Int32 → S → R2} {W2 : S → va_W} (C : xC p s m args meth c D A cc own nL Ts tys ret) (hT : xT2 l s A) (M : xNi l y2 ws2 rf rl mc ms D tys (.ref b :: As) Wc o2 mk W2) (hno : ∀ i, o2 ≠ .inl i) (hy : xY y2 ws2 b2 maxL2 ret2 na) (hG : GoodIn Ts (wsV own idx C2 y2 ws2)) (hcls : y2.cls = C2) (ho : xO Wc b ci fs) (hci : vwCl[ci]? = some (C2, T2, N2)) (hR : rf + 1 ≤ R.frames ∧ 8 + (maxL2 + 11) + rl ≤ R.locals) (d : decode cc pc = .ok (.invokevirtual idx, 3)) (hpm : ws.Perm (Wc ++ Wr)) (hst : st = As.reverse ++ .ref b :: rest) (hlen : As.length = na) (hW : (rest.map fun v => v.category).sum ≤ 8) (hf : k + mc ≤ R.cells ∧ n + ms ≤ R.slots) (hq : pc + 3 = q) (kk : ∀ (r : Int32) (u : S), o2 = .inr (mk r u) → xV p l e R s m args below meth c D A Q nL (W2 u ++ Wr) (k + mc) (n + ms) L q (.int r :: rest)) : xV p l e R s m args below meth c D A Q nL ws k n L pc st := by
  intro H locs ls hP hD hS hl
  obtain ⟨hx, hb, hml, hown, hts, hK, hret, hlk, hA⟩ := C
  have hP2 := xP_perm hpm hP
  have hD2 := xD_perm hpm hD
  have hPc := xP_left hP2
  have hDc := xD_left hD2
  have hFc := xFree hD2 hS hA
  obtain ⟨⟨wsY, hyw⟩, hy2⟩ := hy
  obtain ⟨q0, h0⟩ := ho
  subst hst
  have hW : 2 * (F0 m pc ls (As.reverse ++ .ref b :: rest)).monitorRoom + (rest.map fun v => v.category).sum ≤ 8 := lv_room hW
  refine vx_calli (vx_runV (As := As) (rest := rest) ⟨hx, hb, hml, hown, hts⟩ (M H.size) (cwV na hts hG hyw rfl rfl ⟨hcls, hy2.1, hy2.2.1, hy2.2.2⟩ hR) ⟨xPt_blind, va_recv hK hPc hci h0, fun U hU hW => ⟨rfl, by rw [hU], by rw [hU]; exact hPc, va_K.moved hW.alike hK, hDc.weaken (fun _ _ _ _ => trivial), hT.2.1.warm hW, xZ_for hT.2.2 hS hFc hU hW⟩⟩ rfl hlen hl.1 rfl hW d hf) hS (fun q _ h => hFc q h) hFc (fun q _ h => hFc q h) (fun E ce q9 i t H1 locs1 ht hvm hpx hB hz1 hk1 hS1 hc9 hv9 hcl9 => absurd hpx (hno i)) (fun r u t H1 locs1 ht hvm hw hB hz1 hk1 hS1 => ?_)
  obtain ⟨hP1, hK1, hD1⟩ := hB
  rw [ht] at hP1
  obtain ⟨hP3, hD3⟩ := xJoin hP2 hD2 hFc hk1 hP1 hD1
  exact hq ▸ kk r u hw H1 locs1 ls hP3 hD3 hS1 hl
theorem x_callTVi {mk : Int32 → S → R2} {W2 : S → va_W} {QQ : Array Value → State → Outcome → State → Prop} (C : xC p s m args meth c D A cc own nL Ts tys ret) (hT : xT2 l s A) (M : xNi l y2 ws2 rf rl mc ms D tys (.ref b :: As) Wc o2 mk W2) {i : Nat} (hi : o2 = .inl i) (hoM : oM = .inl i) (hw0 : ws = W0) (hE : ∀ x ∈ c.exceptionTable.toList, False) (hy : xY y2 ws2 b2 maxL2 ret2 na) (hG : GoodIn Ts (wsV own idx C2 y2 ws2)) (hcls : y2.cls = C2) (ho : xO Wc b ci fs) (hci : vwCl[ci]? = some (C2, T2, N2)) (hR : rf + 1 ≤ R.frames ∧ 8 + (maxL2 + 11) + rl ≤ R.locals) (d : decode cc pc = .ok (.invokevirtual idx, 3)) (hpm : ws.Perm (Wc ++ Wr)) (hst : st = As.reverse ++ .ref b :: rest) (hlen : As.length = na) (hW : (rest.map fun v => v.category).sum ≤ 8) (hf : k + mc ≤ R.cells ∧ n + ms ≤ R.slots) (h1 : k + mc ≤ mcM) (h2 : n + ms ≤ msM) : xV p l e R s m args below meth c D A (xQN D tys A QQ oM W0 mcM msM below args s) nL ws k n L pc st := by
  intro H locs ls hP hD hS hl
  obtain ⟨hx, hb, hml, hown, hts, hK, hret, hlk, hA⟩ := C
  have hP2 := xP_perm hpm hP
  have hD2 := xD_perm hpm hD
  have hPc := xP_left hP2
  have hDc := xD_left hD2
  have hFc := xFree hD2 hS hA
  obtain ⟨⟨wsY, hyw⟩, hy2⟩ := hy
  obtain ⟨q0, h0⟩ := ho
  subst hst
  have hW : 2 * (F0 m pc ls (As.reverse ++ .ref b :: rest)).monitorRoom + (rest.map fun v => v.category).sum ≤ 8 := lv_room hW
  refine vx_calli (vx_runV (As := As) (rest := rest) ⟨hx, hb, hml, hown, hts⟩ (M H.size) (cwV na hts hG hyw rfl rfl ⟨hcls, hy2.1, hy2.2.1, hy2.2.2⟩ hR) ⟨xPt_blind, va_recv hK hPc hci h0, fun U hU hW => ⟨rfl, by rw [hU], by rw [hU]; exact hPc, va_K.moved hW.alike hK, hDc.weaken (fun _ _ _ _ => trivial), hT.2.1.warm hW, xZ_for hT.2.2 hS hFc hU hW⟩⟩ rfl hlen hl.1 rfl hW d hf) hS (fun q _ h => hFc q h) hFc (fun q _ h => hFc q h) (fun E ce q9 i2 t H1 locs1 ht hvm hpx hB hz1 hk1 hS1 hc9 hv9 hcl9 => ?_) (fun r u t H1 locs1 ht hvm hw => absurd (hi.symm.trans hw) (by simp))
  obtain ⟨hE1, hP1, hK1, hD1⟩ := hB
  rw [ht] at hP1
  obtain ⟨hP3, hD3⟩ := xJoin hP2 hD2 hFc hk1 hP1 hD1
  subst hw0
  have hP4 := xP_perm hpm.symm hP3
  have hD4 := xD_perm hpm.symm hD3
  have hij : i = i2 := Sum.inl.inj (hi.symm.trans hpx)
  subst hij
  exact vx_out (fun x hx => (hE x hx).elim) hlk hc9 hv9 hcl9 (fun t2 ht2 hvm2 => ⟨i, hoM, ⟨hE1, by rw [ht2]; exact hP4, va_K.moved hvm2 hK, hD4⟩, hS1.F ht2⟩) hS1.2.2 h1 h2
theorem x_callRVv {mk : S → R2} {W2 : S → va_W} (C : xC p s m args meth c D A cc own nL Ts tys ret) (hT : xT2 l s A) (M : xNv l y2 ws2 rf rl mc ms D tys (.ref b :: As) Wc o2 mk W2) (hno : ∀ i, o2 ≠ .inl i) (hy : xY y2 ws2 b2 maxL2 ret2 na) (hG : GoodIn Ts (wsV own idx C2 y2 ws2)) (hcls : y2.cls = C2) (ho : xO Wc b ci fs) (hci : vwCl[ci]? = some (C2, T2, N2)) (hR : rf + 1 ≤ R.frames ∧ 8 + (maxL2 + 11) + rl ≤ R.locals) (d : decode cc pc = .ok (.invokevirtual idx, 3)) (hpm : ws.Perm (Wc ++ Wr)) (hst : st = As.reverse ++ .ref b :: rest) (hlen : As.length = na) (hW : (rest.map fun v => v.category).sum ≤ 8) (hf : k + mc ≤ R.cells ∧ n + ms ≤ R.slots) (hq : pc + 3 = q) (kk : ∀ (u : S), o2 = .inr (mk u) → xV p l e R s m args below meth c D A Q nL (W2 u ++ Wr) (k + mc) (n + ms) L q (rest)) : xV p l e R s m args below meth c D A Q nL ws k n L pc st := by
  intro H locs ls hP hD hS hl
  obtain ⟨hx, hb, hml, hown, hts, hK, hret, hlk, hA⟩ := C
  have hP2 := xP_perm hpm hP
  have hD2 := xD_perm hpm hD
  have hPc := xP_left hP2
  have hDc := xD_left hD2
  have hFc := xFree hD2 hS hA
  obtain ⟨⟨wsY, hyw⟩, hy2⟩ := hy
  obtain ⟨q0, h0⟩ := ho
  subst hst
  have hW : 2 * (F0 m pc ls (As.reverse ++ .ref b :: rest)).monitorRoom + (rest.map fun v => v.category).sum ≤ 8 := lv_room hW
  refine vx_callv (vx_runV (As := As) (rest := rest) ⟨hx, hb, hml, hown, hts⟩ (M H.size) (cwV na hts hG hyw rfl rfl ⟨hcls, hy2.1, hy2.2.1, hy2.2.2⟩ hR) ⟨xPt_blind, va_recv hK hPc hci h0, fun U hU hW => ⟨rfl, by rw [hU], by rw [hU]; exact hPc, va_K.moved hW.alike hK, hDc.weaken (fun _ _ _ _ => trivial), hT.2.1.warm hW, xZ_for hT.2.2 hS hFc hU hW⟩⟩ rfl hlen hl.1 rfl hW d hf) hS (fun q _ h => hFc q h) hFc (fun q _ h => hFc q h) (fun E ce q9 i t H1 locs1 ht hvm hpx hB hz1 hk1 hS1 hc9 hv9 hcl9 => absurd hpx (hno i)) (fun u t H1 locs1 ht hvm hw hB hz1 hk1 hS1 => ?_)
  obtain ⟨hP1, hK1, hD1⟩ := hB
  rw [ht] at hP1
  obtain ⟨hP3, hD3⟩ := xJoin hP2 hD2 hFc hk1 hP1 hD1
  exact hq ▸ kk u hw H1 locs1 ls hP3 hD3 hS1 hl
theorem x_callTVv {mk : S → R2} {W2 : S → va_W} {QQ : Array Value → State → Outcome → State → Prop} (C : xC p s m args meth c D A cc own nL Ts tys ret) (hT : xT2 l s A) (M : xNv l y2 ws2 rf rl mc ms D tys (.ref b :: As) Wc o2 mk W2) {i : Nat} (hi : o2 = .inl i) (hoM : oM = .inl i) (hw0 : ws = W0) (hE : ∀ x ∈ c.exceptionTable.toList, False) (hy : xY y2 ws2 b2 maxL2 ret2 na) (hG : GoodIn Ts (wsV own idx C2 y2 ws2)) (hcls : y2.cls = C2) (ho : xO Wc b ci fs) (hci : vwCl[ci]? = some (C2, T2, N2)) (hR : rf + 1 ≤ R.frames ∧ 8 + (maxL2 + 11) + rl ≤ R.locals) (d : decode cc pc = .ok (.invokevirtual idx, 3)) (hpm : ws.Perm (Wc ++ Wr)) (hst : st = As.reverse ++ .ref b :: rest) (hlen : As.length = na) (hW : (rest.map fun v => v.category).sum ≤ 8) (hf : k + mc ≤ R.cells ∧ n + ms ≤ R.slots) (h1 : k + mc ≤ mcM) (h2 : n + ms ≤ msM) : xV p l e R s m args below meth c D A (xQN D tys A QQ oM W0 mcM msM below args s) nL ws k n L pc st := by
  intro H locs ls hP hD hS hl
  obtain ⟨hx, hb, hml, hown, hts, hK, hret, hlk, hA⟩ := C
  have hP2 := xP_perm hpm hP
  have hD2 := xD_perm hpm hD
  have hPc := xP_left hP2
  have hDc := xD_left hD2
  have hFc := xFree hD2 hS hA
  obtain ⟨⟨wsY, hyw⟩, hy2⟩ := hy
  obtain ⟨q0, h0⟩ := ho
  subst hst
  have hW : 2 * (F0 m pc ls (As.reverse ++ .ref b :: rest)).monitorRoom + (rest.map fun v => v.category).sum ≤ 8 := lv_room hW
  refine vx_callv (vx_runV (As := As) (rest := rest) ⟨hx, hb, hml, hown, hts⟩ (M H.size) (cwV na hts hG hyw rfl rfl ⟨hcls, hy2.1, hy2.2.1, hy2.2.2⟩ hR) ⟨xPt_blind, va_recv hK hPc hci h0, fun U hU hW => ⟨rfl, by rw [hU], by rw [hU]; exact hPc, va_K.moved hW.alike hK, hDc.weaken (fun _ _ _ _ => trivial), hT.2.1.warm hW, xZ_for hT.2.2 hS hFc hU hW⟩⟩ rfl hlen hl.1 rfl hW d hf) hS (fun q _ h => hFc q h) hFc (fun q _ h => hFc q h) (fun E ce q9 i2 t H1 locs1 ht hvm hpx hB hz1 hk1 hS1 hc9 hv9 hcl9 => ?_) (fun u t H1 locs1 ht hvm hw => absurd (hi.symm.trans hw) (by simp))
  obtain ⟨hE1, hP1, hK1, hD1⟩ := hB
  rw [ht] at hP1
  obtain ⟨hP3, hD3⟩ := xJoin hP2 hD2 hFc hk1 hP1 hD1
  subst hw0
  have hP4 := xP_perm hpm.symm hP3
  have hD4 := xD_perm hpm.symm hD3
  have hij : i = i2 := Sum.inl.inj (hi.symm.trans hpx)
  subst hij
  exact vx_out (fun x hx => (hE x hx).elim) hlk hc9 hv9 hcl9 (fun t2 ht2 hvm2 => ⟨i, hoM, ⟨hE1, by rw [ht2]; exact hP4, va_K.moved hvm2 hK, hD4⟩, hS1.F ht2⟩) hS1.2.2 h1 h2
theorem x_callRSv {mk : S → R2} {W2 : S → va_W} (C : xC p s m args meth c D A cc own nL Ts tys ret) (hT : xT2 l s A) (M : xNv l y2 ws2 rf rl mc ms D tys (As) Wc o2 mk W2) (hno : ∀ i, o2 ≠ .inl i) (hy : xY y2 ws2 b2 maxL2 ret2 na) (hG : GoodIn Ts (va_wsS own idx y2 ws2)) (hR : rf + 1 ≤ R.frames ∧ 8 + (maxL2 + 11) + rl ≤ R.locals) (d : decode cc pc = .ok (.invokestatic idx, 3)) (hpm : ws.Perm (Wc ++ Wr)) (hst : st = As.reverse ++ rest) (hlen : As.length = na) (hW : (rest.map fun v => v.category).sum ≤ 8) (hf : k + mc ≤ R.cells ∧ n + ms ≤ R.slots) (hq : pc + 3 = q) (kk : ∀ (u : S), o2 = .inr (mk u) → xV p l e R s m args below meth c D A Q nL (W2 u ++ Wr) (k + mc) (n + ms) L q (rest)) : xV p l e R s m args below meth c D A Q nL ws k n L pc st := by
  intro H locs ls hP hD hS hl
  obtain ⟨hx, hb, hml, hown, hts, hK, hret, hlk, hA⟩ := C
  have hP2 := xP_perm hpm hP
  have hD2 := xD_perm hpm hD
  have hPc := xP_left hP2
  have hDc := xD_left hD2
  have hFc := xFree hD2 hS hA
  obtain ⟨⟨wsY, hyw⟩, hy2⟩ := hy
  subst hst
  have hW : 2 * (F0 m pc ls (As.reverse ++ rest)).monitorRoom + (rest.map fun v => v.category).sum ≤ 8 := lv_room hW
  refine vx_callv (vx_runS (As := As) (rest := rest) ⟨hx, hb, hml, hown, hts⟩ (M H.size) (va_cwS na hts hG hyw rfl rfl ⟨hy2.1, hy2.2.1, hy2.2.2⟩ hR) ⟨xPt_blind, fun U hU hW => ⟨rfl, by rw [hU], by rw [hU]; exact hPc, va_K.moved hW.alike hK, hDc.weaken (fun _ _ _ _ => trivial), hT.2.1.warm hW, xZ_for hT.2.2 hS hFc hU hW⟩⟩ rfl hlen hl.1 rfl hW d hf) hS (fun q _ h => hFc q h) hFc (fun q _ h => hFc q h) (fun E ce q9 i t H1 locs1 ht hvm hpx hB hz1 hk1 hS1 hc9 hv9 hcl9 => absurd hpx (hno i)) (fun u t H1 locs1 ht hvm hw hB hz1 hk1 hS1 => ?_)
  obtain ⟨hP1, hK1, hD1⟩ := hB
  rw [ht] at hP1
  obtain ⟨hP3, hD3⟩ := xJoin hP2 hD2 hFc hk1 hP1 hD1
  exact hq ▸ kk u hw H1 locs1 ls hP3 hD3 hS1 hl
theorem x_callTSv {mk : S → R2} {W2 : S → va_W} {QQ : Array Value → State → Outcome → State → Prop} (C : xC p s m args meth c D A cc own nL Ts tys ret) (hT : xT2 l s A) (M : xNv l y2 ws2 rf rl mc ms D tys (As) Wc o2 mk W2) {i : Nat} (hi : o2 = .inl i) (hoM : oM = .inl i) (hw0 : ws = W0) (hE : ∀ x ∈ c.exceptionTable.toList, False) (hy : xY y2 ws2 b2 maxL2 ret2 na) (hG : GoodIn Ts (va_wsS own idx y2 ws2)) (hR : rf + 1 ≤ R.frames ∧ 8 + (maxL2 + 11) + rl ≤ R.locals) (d : decode cc pc = .ok (.invokestatic idx, 3)) (hpm : ws.Perm (Wc ++ Wr)) (hst : st = As.reverse ++ rest) (hlen : As.length = na) (hW : (rest.map fun v => v.category).sum ≤ 8) (hf : k + mc ≤ R.cells ∧ n + ms ≤ R.slots) (h1 : k + mc ≤ mcM) (h2 : n + ms ≤ msM) : xV p l e R s m args below meth c D A (xQN D tys A QQ oM W0 mcM msM below args s) nL ws k n L pc st := by
  intro H locs ls hP hD hS hl
  obtain ⟨hx, hb, hml, hown, hts, hK, hret, hlk, hA⟩ := C
  have hP2 := xP_perm hpm hP
  have hD2 := xD_perm hpm hD
  have hPc := xP_left hP2
  have hDc := xD_left hD2
  have hFc := xFree hD2 hS hA
  obtain ⟨⟨wsY, hyw⟩, hy2⟩ := hy
  subst hst
  have hW : 2 * (F0 m pc ls (As.reverse ++ rest)).monitorRoom + (rest.map fun v => v.category).sum ≤ 8 := lv_room hW
  refine vx_callv (vx_runS (As := As) (rest := rest) ⟨hx, hb, hml, hown, hts⟩ (M H.size) (va_cwS na hts hG hyw rfl rfl ⟨hy2.1, hy2.2.1, hy2.2.2⟩ hR) ⟨xPt_blind, fun U hU hW => ⟨rfl, by rw [hU], by rw [hU]; exact hPc, va_K.moved hW.alike hK, hDc.weaken (fun _ _ _ _ => trivial), hT.2.1.warm hW, xZ_for hT.2.2 hS hFc hU hW⟩⟩ rfl hlen hl.1 rfl hW d hf) hS (fun q _ h => hFc q h) hFc (fun q _ h => hFc q h) (fun E ce q9 i2 t H1 locs1 ht hvm hpx hB hz1 hk1 hS1 hc9 hv9 hcl9 => ?_) (fun u t H1 locs1 ht hvm hw => absurd (hi.symm.trans hw) (by simp))
  obtain ⟨hE1, hP1, hK1, hD1⟩ := hB
  rw [ht] at hP1
  obtain ⟨hP3, hD3⟩ := xJoin hP2 hD2 hFc hk1 hP1 hD1
  subst hw0
  have hP4 := xP_perm hpm.symm hP3
  have hD4 := xD_perm hpm.symm hD3
  have hij : i = i2 := Sum.inl.inj (hi.symm.trans hpx)
  subst hij
  exact vx_out (fun x hx => (hE x hx).elim) hlk hc9 hv9 hcl9 (fun t2 ht2 hvm2 => ⟨i, hoM, ⟨hE1, by rw [ht2]; exact hP4, va_K.moved hvm2 hK, hD4⟩, hS1.F ht2⟩) hS1.2.2 h1 h2
theorem x_callRVl {mk : Int64 → S → R2} {W2 : S → va_W} (C : xC p s m args meth c D A cc own nL Ts tys ret) (hT : xT2 l s A) (M : xNl l y2 ws2 rf rl mc ms D tys (.ref b :: As) Wc o2 mk W2) (hno : ∀ i, o2 ≠ .inl i) (hy : xY y2 ws2 b2 maxL2 ret2 na) (hG : GoodIn Ts (wsV own idx C2 y2 ws2)) (hcls : y2.cls = C2) (ho : xO Wc b ci fs) (hci : vwCl[ci]? = some (C2, T2, N2)) (hR : rf + 1 ≤ R.frames ∧ 8 + (maxL2 + 11) + rl ≤ R.locals) (d : decode cc pc = .ok (.invokevirtual idx, 3)) (hpm : ws.Perm (Wc ++ Wr)) (hst : st = As.reverse ++ .ref b :: rest) (hlen : As.length = na) (hW : (rest.map fun v => v.category).sum ≤ 8) (hf : k + mc ≤ R.cells ∧ n + ms ≤ R.slots) (hq : pc + 3 = q) (kk : ∀ (r : Int64) (u : S), o2 = .inr (mk r u) → xV p l e R s m args below meth c D A Q nL (W2 u ++ Wr) (k + mc) (n + ms) L q (.long r :: rest)) : xV p l e R s m args below meth c D A Q nL ws k n L pc st := by
  intro H locs ls hP hD hS hl
  obtain ⟨hx, hb, hml, hown, hts, hK, hret, hlk, hA⟩ := C
  have hP2 := xP_perm hpm hP
  have hD2 := xD_perm hpm hD
  have hPc := xP_left hP2
  have hDc := xD_left hD2
  have hFc := xFree hD2 hS hA
  obtain ⟨⟨wsY, hyw⟩, hy2⟩ := hy
  obtain ⟨q0, h0⟩ := ho
  subst hst
  have hW : 2 * (F0 m pc ls (As.reverse ++ .ref b :: rest)).monitorRoom + (rest.map fun v => v.category).sum ≤ 8 := lv_room hW
  refine vx_calll (vx_runV (As := As) (rest := rest) ⟨hx, hb, hml, hown, hts⟩ (M H.size) (cwV na hts hG hyw rfl rfl ⟨hcls, hy2.1, hy2.2.1, hy2.2.2⟩ hR) ⟨xPt_blind, va_recv hK hPc hci h0, fun U hU hW => ⟨rfl, by rw [hU], by rw [hU]; exact hPc, va_K.moved hW.alike hK, hDc.weaken (fun _ _ _ _ => trivial), hT.2.1.warm hW, xZ_for hT.2.2 hS hFc hU hW⟩⟩ rfl hlen hl.1 rfl hW d hf) hS (fun q _ h => hFc q h) hFc (fun q _ h => hFc q h) (fun E ce q9 i t H1 locs1 ht hvm hpx hB hz1 hk1 hS1 hc9 hv9 hcl9 => absurd hpx (hno i)) (fun r u t H1 locs1 ht hvm hw hB hz1 hk1 hS1 => ?_)
  obtain ⟨hP1, hK1, hD1⟩ := hB
  rw [ht] at hP1
  obtain ⟨hP3, hD3⟩ := xJoin hP2 hD2 hFc hk1 hP1 hD1
  exact hq ▸ kk r u hw H1 locs1 ls hP3 hD3 hS1 hl
theorem x_callTVl {mk : Int64 → S → R2} {W2 : S → va_W} {QQ : Array Value → State → Outcome → State → Prop} (C : xC p s m args meth c D A cc own nL Ts tys ret) (hT : xT2 l s A) (M : xNl l y2 ws2 rf rl mc ms D tys (.ref b :: As) Wc o2 mk W2) {i : Nat} (hi : o2 = .inl i) (hoM : oM = .inl i) (hw0 : ws = W0) (hE : ∀ x ∈ c.exceptionTable.toList, False) (hy : xY y2 ws2 b2 maxL2 ret2 na) (hG : GoodIn Ts (wsV own idx C2 y2 ws2)) (hcls : y2.cls = C2) (ho : xO Wc b ci fs) (hci : vwCl[ci]? = some (C2, T2, N2)) (hR : rf + 1 ≤ R.frames ∧ 8 + (maxL2 + 11) + rl ≤ R.locals) (d : decode cc pc = .ok (.invokevirtual idx, 3)) (hpm : ws.Perm (Wc ++ Wr)) (hst : st = As.reverse ++ .ref b :: rest) (hlen : As.length = na) (hW : (rest.map fun v => v.category).sum ≤ 8) (hf : k + mc ≤ R.cells ∧ n + ms ≤ R.slots) (h1 : k + mc ≤ mcM) (h2 : n + ms ≤ msM) : xV p l e R s m args below meth c D A (xQN D tys A QQ oM W0 mcM msM below args s) nL ws k n L pc st := by
  intro H locs ls hP hD hS hl
  obtain ⟨hx, hb, hml, hown, hts, hK, hret, hlk, hA⟩ := C
  have hP2 := xP_perm hpm hP
  have hD2 := xD_perm hpm hD
  have hPc := xP_left hP2
  have hDc := xD_left hD2
  have hFc := xFree hD2 hS hA
  obtain ⟨⟨wsY, hyw⟩, hy2⟩ := hy
  obtain ⟨q0, h0⟩ := ho
  subst hst
  have hW : 2 * (F0 m pc ls (As.reverse ++ .ref b :: rest)).monitorRoom + (rest.map fun v => v.category).sum ≤ 8 := lv_room hW
  refine vx_calll (vx_runV (As := As) (rest := rest) ⟨hx, hb, hml, hown, hts⟩ (M H.size) (cwV na hts hG hyw rfl rfl ⟨hcls, hy2.1, hy2.2.1, hy2.2.2⟩ hR) ⟨xPt_blind, va_recv hK hPc hci h0, fun U hU hW => ⟨rfl, by rw [hU], by rw [hU]; exact hPc, va_K.moved hW.alike hK, hDc.weaken (fun _ _ _ _ => trivial), hT.2.1.warm hW, xZ_for hT.2.2 hS hFc hU hW⟩⟩ rfl hlen hl.1 rfl hW d hf) hS (fun q _ h => hFc q h) hFc (fun q _ h => hFc q h) (fun E ce q9 i2 t H1 locs1 ht hvm hpx hB hz1 hk1 hS1 hc9 hv9 hcl9 => ?_) (fun r u t H1 locs1 ht hvm hw => absurd (hi.symm.trans hw) (by simp))
  obtain ⟨hE1, hP1, hK1, hD1⟩ := hB
  rw [ht] at hP1
  obtain ⟨hP3, hD3⟩ := xJoin hP2 hD2 hFc hk1 hP1 hD1
  subst hw0
  have hP4 := xP_perm hpm.symm hP3
  have hD4 := xD_perm hpm.symm hD3
  have hij : i = i2 := Sum.inl.inj (hi.symm.trans hpx)
  subst hij
  exact vx_out (fun x hx => (hE x hx).elim) hlk hc9 hv9 hcl9 (fun t2 ht2 hvm2 => ⟨i, hoM, ⟨hE1, by rw [ht2]; exact hP4, va_K.moved hvm2 hK, hD4⟩, hS1.F ht2⟩) hS1.2.2 h1 h2
end XTC
theorem xtb1 : ∀ w ∈ (vx_atS RX2 53 (xEx 1) ["java/lang/RuntimeException", "java/lang/Exception"]).filter (fun w => !goodWord w), w ∈ ([.castable (xEx 1) (xEx 1), .declares ⟨xEx 1, "<init>", "(Ljava/lang/String;)V"⟩, .declares ⟨"java/lang/RuntimeException", "<init>", "(Ljava/lang/String;)V"⟩, .declares ⟨"java/lang/Exception", "<init>", "(Ljava/lang/String;)V"⟩, .declares ⟨"java/lang/Throwable", "<init>", "(Ljava/lang/String;)V"⟩] : List Cond) := by decide +kernel
theorem xtg1 : ∀ w ∈ Cond.classLink RX2 49 (xEx 1) :: Cond.initialized (xEx 1) :: vx_atS RX2 53 (xEx 1) ["java/lang/RuntimeException", "java/lang/Exception"], vx_ot w = true := by decide +kernel
theorem xtf1 : Bundle.fit (xEx 1) = true := by decide +kernel
theorem xtb2 : ∀ w ∈ (vx_atS RX2 97 (xEx 2) ["java/lang/RuntimeException", "java/lang/Exception"]).filter (fun w => !goodWord w), w ∈ ([.castable (xEx 2) (xEx 2), .declares ⟨xEx 2, "<init>", "(Ljava/lang/String;)V"⟩, .declares ⟨"java/lang/RuntimeException", "<init>", "(Ljava/lang/String;)V"⟩, .declares ⟨"java/lang/Exception", "<init>", "(Ljava/lang/String;)V"⟩, .declares ⟨"java/lang/Throwable", "<init>", "(Ljava/lang/String;)V"⟩] : List Cond) := by decide +kernel
theorem xtg2 : ∀ w ∈ Cond.classLink RX2 93 (xEx 2) :: Cond.initialized (xEx 2) :: vx_atS RX2 97 (xEx 2) ["java/lang/RuntimeException", "java/lang/Exception"], vx_ot w = true := by decide +kernel
theorem xtf2 : Bundle.fit (xEx 2) = true := by decide +kernel
theorem xtb3 : ∀ w ∈ (vx_atS RX2 227 (xEx 3) ["java/lang/RuntimeException", "java/lang/Exception"]).filter (fun w => !goodWord w), w ∈ ([.castable (xEx 3) (xEx 3), .declares ⟨xEx 3, "<init>", "(Ljava/lang/String;)V"⟩, .declares ⟨"java/lang/RuntimeException", "<init>", "(Ljava/lang/String;)V"⟩, .declares ⟨"java/lang/Exception", "<init>", "(Ljava/lang/String;)V"⟩, .declares ⟨"java/lang/Throwable", "<init>", "(Ljava/lang/String;)V"⟩] : List Cond) := by decide +kernel
theorem xtg3 : ∀ w ∈ Cond.classLink RX2 223 (xEx 3) :: Cond.initialized (xEx 3) :: vx_atS RX2 227 (xEx 3) ["java/lang/RuntimeException", "java/lang/Exception"], vx_ot w = true := by decide +kernel
theorem xtf3 : Bundle.fit (xEx 3) = true := by decide +kernel
theorem xtab6 {x : Int32} (h0 : ¬ x = 0) (h1 : ¬ x = 1) (h2 : ¬ x = 2) (h3 : ¬ x = 3) (h4 : ¬ x = 4) (h5 : ¬ x = 5) : x.toInt < (0 : Int) ∨ (5 : Int) < x.toInt := by
  rcases Int.lt_or_le x.toInt 0 with h | h
  · exact Or.inl h
  · rcases Int.lt_or_le (5 : Int) x.toInt with q | q
    · exact Or.inr q
    · exfalso
      have h2 : x.toInt = 0 ∨ x.toInt = 1 ∨ x.toInt = 2 ∨ x.toInt = 3 ∨ x.toInt = 4 ∨ x.toInt = 5 := by omega
      rcases h2 with e | e | e | e | e | e
      · exact h0 (Int32.toInt_inj.mp e)
      · exact h1 (Int32.toInt_inj.mp e)
      · exact h2 (Int32.toInt_inj.mp e)
      · exact h3 (Int32.toInt_inj.mp e)
      · exact h4 (Int32.toInt_inj.mp e)
      · exact h5 (Int32.toInt_inj.mp e)
theorem xlk2 {x : Int32} {a b d : Int} (h0 : ¬ x = 0) (h1 : ¬ x = 1) : Op.lookupswitch.offset (#[((0 : Int), a), (1, b)] : Array (Int × Int)).toList d x.toInt = d := by
  show (if (0 : Int) = x.toInt then a else if (1 : Int) = x.toInt then b else d) = d
  rw [if_neg (fun e => h0 (Int32.toInt_inj.mp e.symm)), if_neg (fun e => h1 (Int32.toInt_inj.mp e.symm))]
def bx0 {β : Type} (a : Option (Nat ⊕ Unit)) (k : Option (Nat ⊕ β)) : Option (Nat ⊕ β) := match a with
  | some (.inl e) => some (.inl e)
  | some (.inr _) => k
  | none => none
theorem bx0_some {β : Type} {a : Option (Nat ⊕ Unit)} {k : Option (Nat ⊕ β)} {o : Nat ⊕ β} (h : bx0 a k = some o) : (∃ i, a = some (.inl i) ∧ o = .inl i) ∨ (a = some (.inr ()) ∧ k = some o) := by
  match a, h with
  | some (.inl e), h => exact Or.inl ⟨e, rfl, (Option.some.inj h).symm⟩
  | some (.inr _), h => exact Or.inr ⟨rfl, h⟩
def bx1 {α β : Type} (a : Option (Nat ⊕ α)) (k : α → Option (Nat ⊕ β)) : Option (Nat ⊕ β) := match a with
  | some (.inl e) => some (.inl e)
  | some (.inr x) => k x
  | none => none
theorem bx1_some {α β : Type} {a : Option (Nat ⊕ α)} {k : α → Option (Nat ⊕ β)} {o : Nat ⊕ β} (h : bx1 a k = some o) : (∃ i, a = some (.inl i) ∧ o = .inl i) ∨ (∃ x, a = some (.inr x) ∧ k x = some o) := by
  match a, h with
  | some (.inl e), h => exact Or.inl ⟨e, rfl, (Option.some.inj h).symm⟩
  | some (.inr x), h => exact Or.inr ⟨x, rfl, h⟩
