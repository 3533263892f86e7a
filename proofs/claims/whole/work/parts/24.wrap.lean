/-! THE LAW'S WRAPPERS: a call of the class, its answer put into a row of one long, its exception told by a number -/
def oC (y : Nat → ClassId) (a : Nat → Nat) (f : Nat → Int64) : va_W := [(a 0, .inl (y 3, 1, .inr (.inl f)))]
def xAl (ws : va_W) (a : Nat) (cA : ClassId) (n : Nat) (f : Nat → Int64) (G : (Nat → Int64) → va_W) : Prop :=
  ∃ q0 : Nat, ws[q0]? = some (a, .inl (cA, n, .inr (.inl f))) ∧ ∀ f' : Nat → Int64, ws.set q0 (a, .inl (cA, n, .inr (.inl f'))) = G f'
theorem oA (y : Nat → ClassId) (a : Nat → Nat) (f : Nat → Int64) : xAl (oC y a f) (a 0) (y 3) 1 f (fun f' => oC y a f') := ⟨0, rfl, fun _ => rfl⟩
theorem xAl.L {ws R : va_W} {a : Nat} {cA : ClassId} {n : Nat} {f : Nat → Int64} {G : (Nat → Int64) → va_W} (h : xAl ws a cA n f G) : xAl (ws ++ R) a cA n f (fun f' => G f' ++ R) := by
  obtain ⟨q0, h1, h2⟩ := h
  have hl := (List.getElem?_eq_some_iff.mp h1).1
  exact ⟨q0, by rw [List.getElem?_append_left hl]; exact h1, fun f' => by rw [List.set_append_left _ _ hl, h2]⟩
theorem xAl.R {ws X : va_W} {a : Nat} {cA : ClassId} {n : Nat} {f : Nat → Int64} {G : (Nat → Int64) → va_W} (h : xAl ws a cA n f G) : xAl (X ++ ws) a cA n f (fun f' => X ++ G f') := by
  obtain ⟨q0, h1, h2⟩ := h
  exact ⟨X.length + q0, by rw [List.getElem?_append_right (Nat.le_add_right _ _), Nat.add_sub_cancel_left]; exact h1, fun f' => by rw [List.set_append_right _ _ (Nat.le_add_right _ _), Nat.add_sub_cancel_left, h2]⟩
/-- the whole of a LampHills -/
def hW (y : Nat → ClassId) (aH : Nat) (aG aN aF aT : Nat → Nat) (G N F T : St) : va_W := hC aH aN aF aT aG ++ (gC y aG G ++ (nC y aN N ++ (nC y aF F ++ tC y aT T)))
theorem oX2W (y : Nat → ClassId) (aH : Nat) (aG aN aF aT : Nat → Nat) (G N F T : St) : xO (hW y aH aG aN aF aT G N F T) aH 2 (hF aN aF aT aG) := (oX2 aH aN aF aT aG).L
def xW (l : Launch) (y : MethodName) (wsM : List Cond) (rf rl mc ms : Nat) (D : va_G) (tys : List (ClassId × FieldType)) (av : List Value) (Wc : va_W) (r : Int32) (W' : va_W) : Prop :=
  ∀ sz : Nat, vx_Met l y wsM { frames := rf, cells := mc, slots := ms, locals := rl } (xPt D tys av sz Wc) (va_Qi (fun (r' : Int32) (_ : Unit) => r' = r) (fun _ t => xE D tys (va_A Wc sz) W' t) (va_A Wc sz)) (fun _ _ _ => False) mc ms (va_A Wc sz)
def xQW (D : va_G) (tys : List (ClassId × FieldType)) (A : Nat → Prop) (r : Int32) (W' : va_W) (mc ms : Nat) (below : List Frame) (args : Array Value) (s : State) : State → Prop := vx_MQ below (va_Qi (fun (r' : Int32) (_ : Unit) => r' = r) (fun _ t => xE D tys A W' t) A) (fun _ _ _ => False) args s mc ms A
theorem xW_of {l : Launch} {y : MethodName} {wsM ws' : List Cond} {cc : ByteArray} {nL rf rl mc ms : Nat} {ret : Option FieldType} {hh : List (Nat × Nat × Nat × Nat)} {D : va_G} {tys : List (ClassId × FieldType)} {av : List Value} {Wc W' : va_W} {r : Int32} (L : List (Nat × Value)) (hst : l.stackTraces = false) (hy : plainName y.cls = true) (hw : wsM = Cond.codeWith y cc nL ret hh :: ws') (hn : (lg_sl av).length ≤ nL) (hL : lv_args 0 av = L)
    (body : ∀ (p : Program) (e : Env) (s : State) (m : MethodId) (args : Array Value) (below : List Frame) (meth : Method) (c : Code) (A : Nat → Prop), xC p s m args meth c D A cc y.cls nL wsM tys ret → xT2 l s A → c.exceptionTable.toList = tableOf hh → xV p l e { frames := rf, cells := mc, slots := ms, locals := rl } s m args below meth c D A (xQW D tys A r W' mc ms below args s) nL Wc 0 0 L 0 []) : xW l y wsM rf rl mc ms D tys av Wc r W' := by
  intro sz
  refine vx_ofWH (cc := cc) (maxL := nL) (ret := ret) hy hw ?_
  intro p e s m args below meth c s₁ B hml hv
  obtain ⟨rfl, hsz, hP, hK, hD0, hJ, hZ⟩ := hv
  subst hsz
  have hD := hD0.self (sz := s.heap.size)
  have hl := lv_entry av hn
  rw [hL] at hl
  have hts := atoms_spec (ws := wsM) B.pre
  have key := body p e s m av.toArray below meth c (va_A Wc s.heap.size) ⟨B.exec, B.bytes, hml, findClass_of_methodNamed B.named, hts, hK, B.returns, B.notSynchronized, fun q h => Or.inr h⟩ ⟨hst, hJ, hZ⟩ (vx_table (x := y) B (hts _ (by rw [hw]; exact List.mem_cons_self))) s.heap [] _ hP hD va_S.rf hl
  rw [← lg_entry_eq] at key
  exact key
section XWR
variable {p : Program} {l : Launch} {e : Env} {R : Room} {s : State} {m : MethodId} {args : Array Value} {below : List Frame} {meth : Method} {c : Code} {Q : State → Prop}
variable {D : va_G} {A : Nat → Prop} {cc : ByteArray} {own : String} {nL : Nat} {Ts : List Cond} {tys : List (ClassId × FieldType)} {ret : Option FieldType}
variable {ws ws' Wc Wr W' : va_W} {k n pc q mc ms mcM msM rf rl idx ci b na maxL2 : Nat} {L : List (Nat × Value)} {st As rest : List Value} {S R2 : Type} {y2 : MethodName} {ws2 : List Cond} {b2 : ByteArray} {ret2 : Option FieldType} {fs : List Value} {C2 : String} {T2 : u_T} {N2 : Nat} {o2 : Nat ⊕ R2} {r : Int32}
theorem xw_iret {v : Int32} (C : xC p s m args meth c D A cc own nL Ts tys ret) (d : decode cc pc = .ok (.ireturn, 1)) (hr : ret = some .int) (hp : v = r) (hw : ws = W') (h1 : k ≤ mc) (h2 : n ≤ ms) : xV p l e R s m args below meth c D A (xQW D tys A r W' mc ms below args s) nL ws k n L pc [.int v] := by
  intro H locs ls hP hD hS hl
  subst hw
  obtain ⟨hx, hb, -, hown, hts, hK, hret, hlk, hA⟩ := C
  refine vx_ret (W.widen h1 h2 ?_)
  exact W.iret (v := v) hx hb (hret.trans hr) (fun t ht hW => ⟨⟨v, (), rfl, hp, by rw [ht]; exact hP, va_K.moved hW.alike hK, hD⟩, hS.F ht⟩) hS.2.2 d hlk
theorem x_last (C : xC p s m args meth c D A cc own nL Ts tys ret) {a n0 : Nat} {cA : ClassId} {f : Nat → Int64} {G : (Nat → Int64) → va_W} {i : Int32} {x : Int64} (t0 : Nat) (d : decode cc pc = .ok (.lastore, 1)) (ho : xAl ws a cA n0 f G) (ht : tys[t0]? = some (cA, .long)) (hi : xin i n0 = true) (hw : G (vp_updL f i.toNatClampNeg x) = ws') (hq : pc + 1 = q) (kk : xV p l e R s m args below meth c D A Q nL ws' k n L q st) : xV p l e R s m args below meth c D A Q nL ws k n L pc (.long x :: .int i :: .ref a :: st) := by
  intro H locs ls hP hD hS hl
  obtain ⟨q0, h0, h2⟩ := ho
  refine va_last C.1 C.2.1 C.2.2.2.2.2.1 hP hD hS q0 t0 h0 ht (xin_of hi) d (fun H1 locs1 hP1 hD1 hS1 => ?_)
  rw [h2, hw] at hP1 hD1
  exact hq ▸ kk H1 locs1 ls hP1 hD1 hS1 hl
theorem x_lald (C : xC p s m args meth c D A cc own nL Ts tys ret) {a n0 : Nat} {cA : ClassId} {f : Nat → Int64} {G : (Nat → Int64) → va_W} {i : Int32} (t0 : Nat) (d : decode cc pc = .ok (.laload, 1)) (ho : xAl ws a cA n0 f G) (ht : tys[t0]? = some (cA, .long)) (hi : xin i n0 = true) (hq : pc + 1 = q) (kk : xV p l e R s m args below meth c D A Q nL ws k n L q (.long (f i.toNatClampNeg) :: st)) : xV p l e R s m args below meth c D A Q nL ws k n L pc (.int i :: .ref a :: st) := by
  intro H locs ls hP hD hS hl
  obtain ⟨q0, h0, -⟩ := ho
  exact va_lald C.1 C.2.1 C.2.2.2.2.2.1 hP q0 t0 h0 ht (xin_of hi) d (hq ▸ kk H locs ls hP hD hS hl)
/-- the callee throws, this method's table catches -/
theorem x_callCVi {mk : Int32 → S → R2} {W2 : S → va_W} (C : xC p s m args meth c D A cc own nL Ts tys ret) (hT : xT2 l s A) (M : xNi l y2 ws2 rf rl mc ms D tys (.ref b :: As) Wc o2 mk W2) {i : Nat} (hi : o2 = .inl i) (pre : List ExceptionTableEntry) (x : ExceptionTableEntry) (suf : List ExceptionTableEntry) (htab : c.exceptionTable.toList = pre ++ x :: suf) (hpass : ∀ z ∈ pre, z.catchType ≠ 0 ∧ ∃ nm : String, Cond.classLink own z.catchType nm ∈ Ts ∧ (xEx i, nm) ∈ xBadN) (hx : covers x pc = true) (h0 : x.catchType ≠ 0) (hlink : Cond.classLink own x.catchType (xEx i) ∈ Ts)
    (hy : xY y2 ws2 b2 maxL2 ret2 na) (hG : GoodIn Ts (wsV own idx C2 y2 ws2)) (hcls : y2.cls = C2) (ho : xO Wc b ci fs) (hci : vwCl[ci]? = some (C2, T2, N2)) (hR : rf + 1 ≤ R.frames ∧ 8 + (maxL2 + 11) + rl ≤ R.locals) (d : decode cc pc = .ok (.invokevirtual idx, 3)) (hpm : ws.Perm (Wc ++ Wr)) (hst : st = As.reverse ++ .ref b :: rest) (hlen : As.length = na) (hW : (rest.map fun v => v.category).sum ≤ 8) (hf : k + mc ≤ R.cells ∧ n + ms ≤ R.slots) (hq : x.handlerPc = q) (kk : ∀ a : Nat, xV p l e R s m args below meth c D A Q nL ws (k + mc) (n + ms) L q [.ref a]) : xV p l e R s m args below meth c D A Q nL ws k n L pc st := by
  intro H locs ls hP hD hS hl
  obtain ⟨hx0, hb, hml, hown, hts, hK, hret, hlk, hA⟩ := C
  have hP2 := xP_perm hpm hP
  have hD2 := xD_perm hpm hD
  have hPc := xP_left hP2
  have hDc := xD_left hD2
  have hFc := xFree hD2 hS hA
  obtain ⟨⟨wsY, hyw⟩, hy2⟩ := hy
  obtain ⟨q0, h9⟩ := ho
  subst hst
  have hin : xEx i ∈ ["java/lang/IllegalArgumentException", "java/lang/IllegalStateException", "java/lang/IndexOutOfBoundsException"] := by
    unfold xEx
    split <;> simp
  have hW : 2 * (F0 m pc ls (As.reverse ++ .ref b :: rest)).monitorRoom + (rest.map fun v => v.category).sum ≤ 8 := lv_room hW
  refine vx_calli (vx_runV (As := As) (rest := rest) ⟨hx0, hb, hml, hown, hts⟩ (M H.size) (cwV na hts hG hyw rfl rfl ⟨hcls, hy2.1, hy2.2.1, hy2.2.2⟩ hR) ⟨xPt_blind, va_recv hK hPc hci h9, fun U hU hW => ⟨rfl, by rw [hU], by rw [hU]; exact hPc, va_K.moved hW.alike hK, hDc.weaken (fun _ _ _ _ => trivial), hT.2.1.warm hW, xZ_for hT.2.2 hS hFc hU hW⟩⟩ rfl hlen hl.1 rfl hW d hf) hS (fun q _ h => hFc q h) hFc (fun q _ h => hFc q h) (fun E ce q9 i2 t H1 locs1 ht hvm hpx hB hz1 hk1 hS1 hc9 hv9 hcl9 => ?_) (fun r u t H1 locs1 ht hvm hw => absurd (hi.symm.trans hw) (by simp))
  obtain ⟨hE1, hP1, hK1, hD1⟩ := hB
  rw [ht] at hP1
  obtain ⟨hP3, hD3⟩ := xJoin hP2 hD2 hFc hk1 hP1 hD1
  have hij : i = i2 := Sum.inl.inj (hi.symm.trans hpx)
  subst hij
  subst hE1
  refine vx_catch hown pre x suf htab (fun z hz => Or.inr ⟨(hpass z hz).1, ?_⟩) hx h0 (hts _ hlink) (va_Nw.use rfl (hT.2.1.2.1 _ hin)) hc9 hv9 hcl9 (W.eq (g2 := F0 m q ls [.ref q9]) (by rw [← hq]) (kk q9 H1 locs1 ls (xP_perm hpm.symm hP3) (xD_perm hpm.symm hD3) hS1 hl))
  obtain ⟨nm, h1, h2⟩ := (hpass z hz).2
  exact ⟨nm, hts _ h1, hT.2.1.2.2.2 _ h2⟩
/-- the call of a wrapper -/
theorem x_callW {hh : List (Nat × Nat × Nat × Nat)} {r2 : Int32} {W2 : va_W} (C : xC p s m args meth c D A cc own nL Ts tys ret) (hT : xT2 l s A) (M : xW l y2 ws2 rf rl mc ms D tys As Wc r2 W2) (hy : (∃ ws', ws2 = Cond.codeWith y2 b2 maxL2 ret2 hh :: ws') ∧ y2.cls ≠ "java/lang/invoke/MethodHandle" ∧ y2.cls ≠ "java/lang/invoke/VarHandle" ∧ (parseMethodDescriptor y2.desc).map (fun d => d.parameters.length) = some na) (hG : GoodIn Ts (va_wsS own idx y2 ws2)) (hR : rf + 1 ≤ R.frames ∧ 8 + (maxL2 + 11) + rl ≤ R.locals) (d : decode cc pc = .ok (.invokestatic idx, 3)) (hpm : ws.Perm (Wc ++ Wr)) (hst : st = As.reverse ++ rest) (hlen : As.length = na) (hW : (rest.map fun v => v.category).sum ≤ 8) (hf : k + mc ≤ R.cells ∧ n + ms ≤ R.slots) (hq : pc + 3 = q) (kk : xV p l e R s m args below meth c D A Q nL (W2 ++ Wr) (k + mc) (n + ms) L q (.int r2 :: rest)) : xV p l e R s m args below meth c D A Q nL ws k n L pc st := by
  intro H locs ls hP hD hS hl
  obtain ⟨hx, hb, hml, hown, hts, hK, hret, hlk, hA⟩ := C
  have hP2 := xP_perm hpm hP
  have hD2 := xD_perm hpm hD
  have hPc := xP_left hP2
  have hDc := xD_left hD2
  have hFc := xFree hD2 hS hA
  obtain ⟨⟨wsY, hyw⟩, hy2⟩ := hy
  subst hst
  have hW : 2 * (F0 m pc ls (As.reverse ++ rest)).monitorRoom + (rest.map fun v => v.category).sum ≤ 8 := lv_room hW
  have hr : vx_Run p l e R s m args below meth c H locs k n mc ms (F0 m pc ls (As.reverse ++ rest)) rest (va_Qi (fun (r' : Int32) (_ : Unit) => r' = r2) (fun _ t => xE D tys (va_A Wc H.size) W2 t) (va_A Wc H.size) As.toArray) (fun _ _ _ => False) (va_A Wc H.size) := vx_runSX (hh := hh) (As := As) (rest := rest) ⟨hx, hb, hml, hown, hts⟩ (M H.size) (vx_cwSW na hts hG hyw rfl rfl ⟨hy2.1, hy2.2.1, hy2.2.2⟩ hR) ⟨xPt_blind, fun U hU hW => ⟨rfl, by rw [hU], by rw [hU]; exact hPc, va_K.moved hW.alike hK, hDc.weaken (fun _ _ _ _ => trivial), hT.2.1.warm hW, xZ_for hT.2.2 hS hFc hU hW⟩⟩ rfl hlen hl.1 rfl hW d hf
  have hr2 : va_Run p l e R s m args below meth c H locs k n mc ms (F0 m pc ls (As.reverse ++ rest)) rest (va_Qi (fun (r' : Int32) (_ : Unit) => r' = r2) (fun _ t => xE D tys (va_A Wc H.size) W2 t) (va_A Wc H.size) As.toArray) (va_A Wc H.size) := by
    intro T hT2 X
    rcases hr T hT2 X with h | ⟨q, st₀, t, T', Lq, E, ce, h1, h2, h3, h4, h5, h6, -⟩
    · exact h
    · exact h6.elim
  refine va_calli hr2 hS (fun q _ h => hFc q h) hFc (fun r' u t H1 locs1 ht hvm hw hB hz1 hk1 hS1 => ?_)
  obtain ⟨hP1, hK1, hD1⟩ := hB
  rw [ht] at hP1
  obtain ⟨hP3, hD3⟩ := xJoin hP2 hD2 hFc hk1 hP1 hD1
  have hw : r' = r2 := hw
  subst hw
  exact hq ▸ kk H1 locs1 ls hP3 hD3 hS1 hl
end XWR
theorem yw_corner : (∃ ws', wsL_corner = Cond.codeWith yL_corner cL_corner 4 (some .int) [(0, 9, 12, 13), (0, 9, 15, 15)] :: ws') ∧ yL_corner.cls ≠ "java/lang/invoke/MethodHandle" ∧ yL_corner.cls ≠ "java/lang/invoke/VarHandle" ∧ (parseMethodDescriptor yL_corner.desc).map (fun d => d.parameters.length) = some 3 := ⟨⟨_, rfl⟩, by decide +kernel, by decide +kernel, by decide +kernel⟩
theorem yi_X2_cornerw : xY yX2_corner wsX2_corner cX2_corner 2 (some .int) 1 := ⟨⟨_, rfl⟩, by decide +kernel, by decide +kernel, by decide +kernel⟩
theorem cl_corner_13 : Cond.classLink RL 13 "java/lang/IllegalArgumentException" ∈ wsL_corner := by decide +kernel
theorem cl_corner_15 : Cond.classLink RL 15 "java/lang/IllegalStateException" ∈ wsL_corner := by decide +kernel
set_option maxHeartbeats 4000000 in
set_option maxRecDepth 100000 in
theorem wLr_corner {l : Launch} {D : va_G} {y : Nat → ClassId} {aH : Nat} {aG aN aF aT aO : Nat → Nat} {G N F T : St} {O : Nat → Int64} {p1 : Int32} {r : Int32} {T' : St} (hst : l.stackTraces = false) (hf : f2_corner G N F T p1 = some (.inr (r, T'))) : xW l yL_corner wsL_corner 8 133 1 6 D (xT y) [.ref aH, .int p1, .ref (aO 0)] (hW y aH aG aN aF aT G N F T ++ oC y aO O) 0 (hW y aH aG aN aF aT G N F T' ++ oC y aO (vp_updL O (0 : Int32).toNatClampNeg r.toInt64)) := by
  refine xW_of (cc := cL_corner) (nL := 4) (ret := some .int) (hh := [(0, 9, 12, 13), (0, 9, 15, 15)]) [(0, .ref aH), (1, .int p1), (2, .ref (aO 0))] hst (by decide) rfl (Nat.le_of_ble_eq_true rfl) rfl ?_
  intro p e s m args below meth c A C hT hE
  have C : xC p s m args meth c D A cL_corner RL 4 wsL_corner (xT y) (some .int) := C
  refine x_aload_n (q := 1) C 2 dL_corner_0 rfl rfl rfl ?_
  refine x_iconst (q := 2) C dL_corner_1 ki_0 rfl ?_
  refine x_aload_n (q := 3) C 0 dL_corner_2 rfl rfl rfl ?_
  refine x_iload_n (q := 4) C 1 dL_corner_3 rfl rfl rfl ?_
  refine x_callRVi (q := 7) (Wr := oC y aO O) C hT (c2_corner (l := l) (D := D) (y := y) (aH := aH) (aG := aG) (aN := aN) (aF := aF) (aT := aT) (mc := 0) (ms := 0) hst (fun _ h => by cases h) hf) (fun _ h => by cases h) yi_X2_cornerw gL_corner_X2_corner rfl ((oX2 aH aN aF aT aG).L) rfl ⟨(Nat.le_of_ble_eq_true rfl), (Nat.le_of_ble_eq_true rfl)⟩ dL_corner_4 (List.Perm.refl _) rfl rfl (Nat.le_of_ble_eq_true rfl) ⟨(Nat.le_of_ble_eq_true rfl), (Nat.le_of_ble_eq_true rfl)⟩ rfl ?_
  intro rr u hrr
  obtain ⟨e1, e2⟩ := Prod.mk.inj (Sum.inr.inj hrr)
  subst e1
  subst e2
  refine x_world (ws' := hW y aH aG aN aF aT G N F T' ++ oC y aO O) rfl ?_
  refine x_i2l (q := 8) C dL_corner_7 rfl ?_
  refine x_last (q := 9) (ws' := hW y aH aG aN aF aT G N F T' ++ oC y aO (vp_updL O (0 : Int32).toNatClampNeg r.toInt64)) C 3 dL_corner_8 ((oA y aO O).R) rfl (by decide) rfl rfl ?_
  refine x_goto (t := 18) C dL_corner_9 (by decide) ?_
  refine x_iconst (q := 19) C dL_corner_18 ki_0 rfl ?_
  exact xw_iret C dL_corner_19 rfl rfl rfl (Nat.le_of_ble_eq_true rfl) (Nat.le_of_ble_eq_true rfl)
set_option maxHeartbeats 4000000 in
set_option maxRecDepth 100000 in
theorem wLt_corner_1 {l : Launch} {D : va_G} {y : Nat → ClassId} {aH : Nat} {aG aN aF aT aO : Nat → Nat} {G N F T : St} {O : Nat → Int64} {p1 : Int32} (hst : l.stackTraces = false) (hf : f2_corner G N F T p1 = some (.inl 1)) : xW l yL_corner wsL_corner 8 133 1 6 D (xT y) [.ref aH, .int p1, .ref (aO 0)] (hW y aH aG aN aF aT G N F T ++ oC y aO O) 1 (hW y aH aG aN aF aT G N F T ++ oC y aO O) := by
  refine xW_of (cc := cL_corner) (nL := 4) (ret := some .int) (hh := [(0, 9, 12, 13), (0, 9, 15, 15)]) [(0, .ref aH), (1, .int p1), (2, .ref (aO 0))] hst (by decide) rfl (Nat.le_of_ble_eq_true rfl) rfl ?_
  intro p e s m args below meth c A C hT hE
  have C : xC p s m args meth c D A cL_corner RL 4 wsL_corner (xT y) (some .int) := C
  refine x_aload_n (q := 1) C 2 dL_corner_0 rfl rfl rfl ?_
  refine x_iconst (q := 2) C dL_corner_1 ki_0 rfl ?_
  refine x_aload_n (q := 3) C 0 dL_corner_2 rfl rfl rfl ?_
  refine x_iload_n (q := 4) C 1 dL_corner_3 rfl rfl rfl ?_
  refine x_callCVi (q := 12) (Wr := oC y aO O) C hT (c2_corner (l := l) (D := D) (y := y) (aH := aH) (aG := aG) (aN := aN) (aF := aF) (aT := aT) (mc := 1) (ms := 6) hst (fun _ _ => ⟨Nat.le_refl _, Nat.le_refl _⟩) hf) rfl [] ⟨0, 9, 12, 13⟩ [⟨0, 9, 15, 15⟩] (hE.trans rfl) (fun z hz => nomatch hz) (by decide) (by decide) cl_corner_13 yi_X2_cornerw gL_corner_X2_corner rfl ((oX2 aH aN aF aT aG).L) rfl ⟨(Nat.le_of_ble_eq_true rfl), (Nat.le_of_ble_eq_true rfl)⟩ dL_corner_4 (List.Perm.refl _) rfl rfl (Nat.le_of_ble_eq_true rfl) ⟨(Nat.le_of_ble_eq_true rfl), (Nat.le_of_ble_eq_true rfl)⟩ rfl ?_
  intro qa
  refine x_astore_n (q := 13) C [1, 2, 3, 0] [(0, .ref aH), (1, .int p1), (2, .ref (aO 0)), (3, .ref qa)] dL_corner_12 rfl (by decide) rfl rfl ?_
  refine x_iconst (q := 14) C dL_corner_13 ki_1 rfl ?_
  exact xw_iret C dL_corner_14 rfl rfl rfl (Nat.le_of_ble_eq_true rfl) (Nat.le_of_ble_eq_true rfl)
set_option maxHeartbeats 4000000 in
set_option maxRecDepth 100000 in
theorem wLt_corner_2 {l : Launch} {D : va_G} {y : Nat → ClassId} {aH : Nat} {aG aN aF aT aO : Nat → Nat} {G N F T : St} {O : Nat → Int64} {p1 : Int32} (hst : l.stackTraces = false) (hf : f2_corner G N F T p1 = some (.inl 2)) : xW l yL_corner wsL_corner 8 133 1 6 D (xT y) [.ref aH, .int p1, .ref (aO 0)] (hW y aH aG aN aF aT G N F T ++ oC y aO O) 2 (hW y aH aG aN aF aT G N F T ++ oC y aO O) := by
  refine xW_of (cc := cL_corner) (nL := 4) (ret := some .int) (hh := [(0, 9, 12, 13), (0, 9, 15, 15)]) [(0, .ref aH), (1, .int p1), (2, .ref (aO 0))] hst (by decide) rfl (Nat.le_of_ble_eq_true rfl) rfl ?_
  intro p e s m args below meth c A C hT hE
  have C : xC p s m args meth c D A cL_corner RL 4 wsL_corner (xT y) (some .int) := C
  refine x_aload_n (q := 1) C 2 dL_corner_0 rfl rfl rfl ?_
  refine x_iconst (q := 2) C dL_corner_1 ki_0 rfl ?_
  refine x_aload_n (q := 3) C 0 dL_corner_2 rfl rfl rfl ?_
  refine x_iload_n (q := 4) C 1 dL_corner_3 rfl rfl rfl ?_
  refine x_callCVi (q := 15) (Wr := oC y aO O) C hT (c2_corner (l := l) (D := D) (y := y) (aH := aH) (aG := aG) (aN := aN) (aF := aF) (aT := aT) (mc := 1) (ms := 6) hst (fun _ _ => ⟨Nat.le_refl _, Nat.le_refl _⟩) hf) rfl [⟨0, 9, 12, 13⟩] ⟨0, 9, 15, 15⟩ [] (hE.trans rfl) (fun z hz => by
    simp only [List.mem_cons, List.not_mem_nil, or_false] at hz
    rcases hz with rfl
    · exact ⟨by decide, _, cl_corner_13, by decide⟩) (by decide) (by decide) cl_corner_15 yi_X2_cornerw gL_corner_X2_corner rfl ((oX2 aH aN aF aT aG).L) rfl ⟨(Nat.le_of_ble_eq_true rfl), (Nat.le_of_ble_eq_true rfl)⟩ dL_corner_4 (List.Perm.refl _) rfl rfl (Nat.le_of_ble_eq_true rfl) ⟨(Nat.le_of_ble_eq_true rfl), (Nat.le_of_ble_eq_true rfl)⟩ rfl ?_
  intro qa
  refine x_astore_n (q := 16) C [1, 2, 3, 0] [(0, .ref aH), (1, .int p1), (2, .ref (aO 0)), (3, .ref qa)] dL_corner_15 rfl (by decide) rfl rfl ?_
  refine x_iconst (q := 17) C dL_corner_16 ki_2 rfl ?_
  exact xw_iret C dL_corner_17 rfl rfl rfl (Nat.le_of_ble_eq_true rfl) (Nat.le_of_ble_eq_true rfl)
theorem yw_street : (∃ ws', wsL_street = Cond.codeWith yL_street cL_street 6 (some .int) [(0, 12, 15, 21), (0, 12, 19, 13), (0, 12, 23, 15)] :: ws') ∧ yL_street.cls ≠ "java/lang/invoke/MethodHandle" ∧ yL_street.cls ≠ "java/lang/invoke/VarHandle" ∧ (parseMethodDescriptor yL_street.desc).map (fun d => d.parameters.length) = some 5 := ⟨⟨_, rfl⟩, by decide +kernel, by decide +kernel, by decide +kernel⟩
theorem yi_X2_streetw : xY yX2_street wsX2_street cX2_street 4 (some .int) 3 := ⟨⟨_, rfl⟩, by decide +kernel, by decide +kernel, by decide +kernel⟩
theorem cl_street_13 : Cond.classLink RL 13 "java/lang/IllegalArgumentException" ∈ wsL_street := by decide +kernel
theorem cl_street_15 : Cond.classLink RL 15 "java/lang/IllegalStateException" ∈ wsL_street := by decide +kernel
theorem cl_street_21 : Cond.classLink RL 21 "java/lang/IndexOutOfBoundsException" ∈ wsL_street := by decide +kernel
set_option maxHeartbeats 4000000 in
set_option maxRecDepth 100000 in
theorem wLr_street {l : Launch} {D : va_G} {y : Nat → ClassId} {aH : Nat} {aG aN aF aT aO : Nat → Nat} {G N F T : St} {O : Nat → Int64} {p1 : Int32} {p2 : Int32} {p3 : Int32} {r : Int32} {T' : St} (hst : l.stackTraces = false) (hf : f2_street G N F T p1 p2 p3 = some (.inr (r, T'))) : xW l yL_street wsL_street 8 135 1 6 D (xT y) [.ref aH, .int p1, .int p2, .int p3, .ref (aO 0)] (hW y aH aG aN aF aT G N F T ++ oC y aO O) 0 (hW y aH aG aN aF aT G N F T' ++ oC y aO (vp_updL O (0 : Int32).toNatClampNeg r.toInt64)) := by
  refine xW_of (cc := cL_street) (nL := 6) (ret := some .int) (hh := [(0, 12, 15, 21), (0, 12, 19, 13), (0, 12, 23, 15)]) [(0, .ref aH), (1, .int p1), (2, .int p2), (3, .int p3), (4, .ref (aO 0))] hst (by decide) rfl (Nat.le_of_ble_eq_true rfl) rfl ?_
  intro p e s m args below meth c A C hT hE
  have C : xC p s m args meth c D A cL_street RL 6 wsL_street (xT y) (some .int) := C
  refine x_aload (q := 2) C 4 dL_street_0 rfl rfl ?_
  refine x_iconst (q := 3) C dL_street_2 ki_0 rfl ?_
  refine x_aload_n (q := 4) C 0 dL_street_3 rfl rfl rfl ?_
  refine x_iload_n (q := 5) C 1 dL_street_4 rfl rfl rfl ?_
  refine x_iload_n (q := 6) C 2 dL_street_5 rfl rfl rfl ?_
  refine x_iload_n (q := 7) C 3 dL_street_6 rfl rfl rfl ?_
  refine x_callRVi (q := 10) (Wr := oC y aO O) C hT (c2_street (l := l) (D := D) (y := y) (aH := aH) (aG := aG) (aN := aN) (aF := aF) (aT := aT) (mc := 0) (ms := 0) hst (fun _ h => by cases h) hf) (fun _ h => by cases h) yi_X2_streetw gL_street_X2_street rfl ((oX2 aH aN aF aT aG).L) rfl ⟨(Nat.le_of_ble_eq_true rfl), (Nat.le_of_ble_eq_true rfl)⟩ dL_street_7 (List.Perm.refl _) rfl rfl (Nat.le_of_ble_eq_true rfl) ⟨(Nat.le_of_ble_eq_true rfl), (Nat.le_of_ble_eq_true rfl)⟩ rfl ?_
  intro rr u hrr
  obtain ⟨e1, e2⟩ := Prod.mk.inj (Sum.inr.inj hrr)
  subst e1
  subst e2
  refine x_world (ws' := hW y aH aG aN aF aT G N F T' ++ oC y aO O) rfl ?_
  refine x_i2l (q := 11) C dL_street_10 rfl ?_
  refine x_last (q := 12) (ws' := hW y aH aG aN aF aT G N F T' ++ oC y aO (vp_updL O (0 : Int32).toNatClampNeg r.toInt64)) C 3 dL_street_11 ((oA y aO O).R) rfl (by decide) rfl rfl ?_
  refine x_goto (t := 27) C dL_street_12 (by decide) ?_
  refine x_iconst (q := 28) C dL_street_27 ki_0 rfl ?_
  exact xw_iret C dL_street_28 rfl rfl rfl (Nat.le_of_ble_eq_true rfl) (Nat.le_of_ble_eq_true rfl)
set_option maxHeartbeats 4000000 in
set_option maxRecDepth 100000 in
theorem wLt_street_3 {l : Launch} {D : va_G} {y : Nat → ClassId} {aH : Nat} {aG aN aF aT aO : Nat → Nat} {G N F T : St} {O : Nat → Int64} {p1 : Int32} {p2 : Int32} {p3 : Int32} (hst : l.stackTraces = false) (hf : f2_street G N F T p1 p2 p3 = some (.inl 3)) : xW l yL_street wsL_street 8 135 1 6 D (xT y) [.ref aH, .int p1, .int p2, .int p3, .ref (aO 0)] (hW y aH aG aN aF aT G N F T ++ oC y aO O) 1 (hW y aH aG aN aF aT G N F T ++ oC y aO O) := by
  refine xW_of (cc := cL_street) (nL := 6) (ret := some .int) (hh := [(0, 12, 15, 21), (0, 12, 19, 13), (0, 12, 23, 15)]) [(0, .ref aH), (1, .int p1), (2, .int p2), (3, .int p3), (4, .ref (aO 0))] hst (by decide) rfl (Nat.le_of_ble_eq_true rfl) rfl ?_
  intro p e s m args below meth c A C hT hE
  have C : xC p s m args meth c D A cL_street RL 6 wsL_street (xT y) (some .int) := C
  refine x_aload (q := 2) C 4 dL_street_0 rfl rfl ?_
  refine x_iconst (q := 3) C dL_street_2 ki_0 rfl ?_
  refine x_aload_n (q := 4) C 0 dL_street_3 rfl rfl rfl ?_
  refine x_iload_n (q := 5) C 1 dL_street_4 rfl rfl rfl ?_
  refine x_iload_n (q := 6) C 2 dL_street_5 rfl rfl rfl ?_
  refine x_iload_n (q := 7) C 3 dL_street_6 rfl rfl rfl ?_
  refine x_callCVi (q := 15) (Wr := oC y aO O) C hT (c2_street (l := l) (D := D) (y := y) (aH := aH) (aG := aG) (aN := aN) (aF := aF) (aT := aT) (mc := 1) (ms := 6) hst (fun _ _ => ⟨Nat.le_refl _, Nat.le_refl _⟩) hf) rfl [] ⟨0, 12, 15, 21⟩ [⟨0, 12, 19, 13⟩, ⟨0, 12, 23, 15⟩] (hE.trans rfl) (fun z hz => nomatch hz) (by decide) (by decide) cl_street_21 yi_X2_streetw gL_street_X2_street rfl ((oX2 aH aN aF aT aG).L) rfl ⟨(Nat.le_of_ble_eq_true rfl), (Nat.le_of_ble_eq_true rfl)⟩ dL_street_7 (List.Perm.refl _) rfl rfl (Nat.le_of_ble_eq_true rfl) ⟨(Nat.le_of_ble_eq_true rfl), (Nat.le_of_ble_eq_true rfl)⟩ rfl ?_
  intro qa
  refine x_astore (q := 17) C [1, 2, 3, 4, 5, 0] [(0, .ref aH), (1, .int p1), (2, .int p2), (3, .int p3), (4, .ref (aO 0)), (5, .ref qa)] dL_street_15 (by decide) rfl rfl ?_
  refine x_iconst (q := 18) C dL_street_17 ki_1 rfl ?_
  exact xw_iret C dL_street_18 rfl rfl rfl (Nat.le_of_ble_eq_true rfl) (Nat.le_of_ble_eq_true rfl)
set_option maxHeartbeats 4000000 in
set_option maxRecDepth 100000 in
theorem wLt_street_1 {l : Launch} {D : va_G} {y : Nat → ClassId} {aH : Nat} {aG aN aF aT aO : Nat → Nat} {G N F T : St} {O : Nat → Int64} {p1 : Int32} {p2 : Int32} {p3 : Int32} (hst : l.stackTraces = false) (hf : f2_street G N F T p1 p2 p3 = some (.inl 1)) : xW l yL_street wsL_street 8 135 1 6 D (xT y) [.ref aH, .int p1, .int p2, .int p3, .ref (aO 0)] (hW y aH aG aN aF aT G N F T ++ oC y aO O) 2 (hW y aH aG aN aF aT G N F T ++ oC y aO O) := by
  refine xW_of (cc := cL_street) (nL := 6) (ret := some .int) (hh := [(0, 12, 15, 21), (0, 12, 19, 13), (0, 12, 23, 15)]) [(0, .ref aH), (1, .int p1), (2, .int p2), (3, .int p3), (4, .ref (aO 0))] hst (by decide) rfl (Nat.le_of_ble_eq_true rfl) rfl ?_
  intro p e s m args below meth c A C hT hE
  have C : xC p s m args meth c D A cL_street RL 6 wsL_street (xT y) (some .int) := C
  refine x_aload (q := 2) C 4 dL_street_0 rfl rfl ?_
  refine x_iconst (q := 3) C dL_street_2 ki_0 rfl ?_
  refine x_aload_n (q := 4) C 0 dL_street_3 rfl rfl rfl ?_
  refine x_iload_n (q := 5) C 1 dL_street_4 rfl rfl rfl ?_
  refine x_iload_n (q := 6) C 2 dL_street_5 rfl rfl rfl ?_
  refine x_iload_n (q := 7) C 3 dL_street_6 rfl rfl rfl ?_
  refine x_callCVi (q := 19) (Wr := oC y aO O) C hT (c2_street (l := l) (D := D) (y := y) (aH := aH) (aG := aG) (aN := aN) (aF := aF) (aT := aT) (mc := 1) (ms := 6) hst (fun _ _ => ⟨Nat.le_refl _, Nat.le_refl _⟩) hf) rfl [⟨0, 12, 15, 21⟩] ⟨0, 12, 19, 13⟩ [⟨0, 12, 23, 15⟩] (hE.trans rfl) (fun z hz => by
    simp only [List.mem_cons, List.not_mem_nil, or_false] at hz
    rcases hz with rfl
    · exact ⟨by decide, _, cl_street_21, by decide⟩) (by decide) (by decide) cl_street_13 yi_X2_streetw gL_street_X2_street rfl ((oX2 aH aN aF aT aG).L) rfl ⟨(Nat.le_of_ble_eq_true rfl), (Nat.le_of_ble_eq_true rfl)⟩ dL_street_7 (List.Perm.refl _) rfl rfl (Nat.le_of_ble_eq_true rfl) ⟨(Nat.le_of_ble_eq_true rfl), (Nat.le_of_ble_eq_true rfl)⟩ rfl ?_
  intro qa
  refine x_astore (q := 21) C [1, 2, 3, 4, 5, 0] [(0, .ref aH), (1, .int p1), (2, .int p2), (3, .int p3), (4, .ref (aO 0)), (5, .ref qa)] dL_street_19 (by decide) rfl rfl ?_
  refine x_iconst (q := 22) C dL_street_21 ki_2 rfl ?_
  exact xw_iret C dL_street_22 rfl rfl rfl (Nat.le_of_ble_eq_true rfl) (Nat.le_of_ble_eq_true rfl)
set_option maxHeartbeats 4000000 in
set_option maxRecDepth 100000 in
theorem wLt_street_2 {l : Launch} {D : va_G} {y : Nat → ClassId} {aH : Nat} {aG aN aF aT aO : Nat → Nat} {G N F T : St} {O : Nat → Int64} {p1 : Int32} {p2 : Int32} {p3 : Int32} (hst : l.stackTraces = false) (hf : f2_street G N F T p1 p2 p3 = some (.inl 2)) : xW l yL_street wsL_street 8 135 1 6 D (xT y) [.ref aH, .int p1, .int p2, .int p3, .ref (aO 0)] (hW y aH aG aN aF aT G N F T ++ oC y aO O) 3 (hW y aH aG aN aF aT G N F T ++ oC y aO O) := by
  refine xW_of (cc := cL_street) (nL := 6) (ret := some .int) (hh := [(0, 12, 15, 21), (0, 12, 19, 13), (0, 12, 23, 15)]) [(0, .ref aH), (1, .int p1), (2, .int p2), (3, .int p3), (4, .ref (aO 0))] hst (by decide) rfl (Nat.le_of_ble_eq_true rfl) rfl ?_
  intro p e s m args below meth c A C hT hE
  have C : xC p s m args meth c D A cL_street RL 6 wsL_street (xT y) (some .int) := C
  refine x_aload (q := 2) C 4 dL_street_0 rfl rfl ?_
  refine x_iconst (q := 3) C dL_street_2 ki_0 rfl ?_
  refine x_aload_n (q := 4) C 0 dL_street_3 rfl rfl rfl ?_
  refine x_iload_n (q := 5) C 1 dL_street_4 rfl rfl rfl ?_
  refine x_iload_n (q := 6) C 2 dL_street_5 rfl rfl rfl ?_
  refine x_iload_n (q := 7) C 3 dL_street_6 rfl rfl rfl ?_
  refine x_callCVi (q := 23) (Wr := oC y aO O) C hT (c2_street (l := l) (D := D) (y := y) (aH := aH) (aG := aG) (aN := aN) (aF := aF) (aT := aT) (mc := 1) (ms := 6) hst (fun _ _ => ⟨Nat.le_refl _, Nat.le_refl _⟩) hf) rfl [⟨0, 12, 15, 21⟩, ⟨0, 12, 19, 13⟩] ⟨0, 12, 23, 15⟩ [] (hE.trans rfl) (fun z hz => by
    simp only [List.mem_cons, List.not_mem_nil, or_false] at hz
    rcases hz with rfl | rfl
    · exact ⟨by decide, _, cl_street_21, by decide⟩
    · exact ⟨by decide, _, cl_street_13, by decide⟩) (by decide) (by decide) cl_street_15 yi_X2_streetw gL_street_X2_street rfl ((oX2 aH aN aF aT aG).L) rfl ⟨(Nat.le_of_ble_eq_true rfl), (Nat.le_of_ble_eq_true rfl)⟩ dL_street_7 (List.Perm.refl _) rfl rfl (Nat.le_of_ble_eq_true rfl) ⟨(Nat.le_of_ble_eq_true rfl), (Nat.le_of_ble_eq_true rfl)⟩ rfl ?_
  intro qa
  refine x_astore (q := 25) C [1, 2, 3, 4, 5, 0] [(0, .ref aH), (1, .int p1), (2, .int p2), (3, .int p3), (4, .ref (aO 0)), (5, .ref qa)] dL_street_23 (by decide) rfl rfl ?_
  refine x_iconst (q := 26) C dL_street_25 ki_3 rfl ?_
  exact xw_iret C dL_street_26 rfl rfl rfl (Nat.le_of_ble_eq_true rfl) (Nat.le_of_ble_eq_true rfl)
theorem yw_lamp : (∃ ws', wsL_lamp = Cond.codeWith yL_lamp cL_lamp 5 (some .int) [(0, 10, 13, 21), (0, 10, 17, 13), (0, 10, 21, 15)] :: ws') ∧ yL_lamp.cls ≠ "java/lang/invoke/MethodHandle" ∧ yL_lamp.cls ≠ "java/lang/invoke/VarHandle" ∧ (parseMethodDescriptor yL_lamp.desc).map (fun d => d.parameters.length) = some 4 := ⟨⟨_, rfl⟩, by decide +kernel, by decide +kernel, by decide +kernel⟩
theorem yi_X2_lampw : xY yX2_lamp wsX2_lamp cX2_lamp 3 (some .int) 2 := ⟨⟨_, rfl⟩, by decide +kernel, by decide +kernel, by decide +kernel⟩
theorem cl_lamp_13 : Cond.classLink RL 13 "java/lang/IllegalArgumentException" ∈ wsL_lamp := by decide +kernel
theorem cl_lamp_15 : Cond.classLink RL 15 "java/lang/IllegalStateException" ∈ wsL_lamp := by decide +kernel
theorem cl_lamp_21 : Cond.classLink RL 21 "java/lang/IndexOutOfBoundsException" ∈ wsL_lamp := by decide +kernel
set_option maxHeartbeats 4000000 in
set_option maxRecDepth 100000 in
theorem wLr_lamp {l : Launch} {D : va_G} {y : Nat → ClassId} {aH : Nat} {aG aN aF aT aO : Nat → Nat} {G N F T : St} {O : Nat → Int64} {p1 : Int32} {p2 : Int32} {r : Int32} {T' : St} (hst : l.stackTraces = false) (hf : f2_lamp G N F T p1 p2 = some (.inr (r, T'))) : xW l yL_lamp wsL_lamp 8 134 1 6 D (xT y) [.ref aH, .int p1, .int p2, .ref (aO 0)] (hW y aH aG aN aF aT G N F T ++ oC y aO O) 0 (hW y aH aG aN aF aT G N F T' ++ oC y aO (vp_updL O (0 : Int32).toNatClampNeg r.toInt64)) := by
  refine xW_of (cc := cL_lamp) (nL := 5) (ret := some .int) (hh := [(0, 10, 13, 21), (0, 10, 17, 13), (0, 10, 21, 15)]) [(0, .ref aH), (1, .int p1), (2, .int p2), (3, .ref (aO 0))] hst (by decide) rfl (Nat.le_of_ble_eq_true rfl) rfl ?_
  intro p e s m args below meth c A C hT hE
  have C : xC p s m args meth c D A cL_lamp RL 5 wsL_lamp (xT y) (some .int) := C
  refine x_aload_n (q := 1) C 3 dL_lamp_0 rfl rfl rfl ?_
  refine x_iconst (q := 2) C dL_lamp_1 ki_0 rfl ?_
  refine x_aload_n (q := 3) C 0 dL_lamp_2 rfl rfl rfl ?_
  refine x_iload_n (q := 4) C 1 dL_lamp_3 rfl rfl rfl ?_
  refine x_iload_n (q := 5) C 2 dL_lamp_4 rfl rfl rfl ?_
  refine x_callRVi (q := 8) (Wr := oC y aO O) C hT (c2_lamp (l := l) (D := D) (y := y) (aH := aH) (aG := aG) (aN := aN) (aF := aF) (aT := aT) (mc := 0) (ms := 0) hst (fun _ h => by cases h) hf) (fun _ h => by cases h) yi_X2_lampw gL_lamp_X2_lamp rfl ((oX2 aH aN aF aT aG).L) rfl ⟨(Nat.le_of_ble_eq_true rfl), (Nat.le_of_ble_eq_true rfl)⟩ dL_lamp_5 (List.Perm.refl _) rfl rfl (Nat.le_of_ble_eq_true rfl) ⟨(Nat.le_of_ble_eq_true rfl), (Nat.le_of_ble_eq_true rfl)⟩ rfl ?_
  intro rr u hrr
  obtain ⟨e1, e2⟩ := Prod.mk.inj (Sum.inr.inj hrr)
  subst e1
  subst e2
  refine x_world (ws' := hW y aH aG aN aF aT G N F T' ++ oC y aO O) rfl ?_
  refine x_i2l (q := 9) C dL_lamp_8 rfl ?_
  refine x_last (q := 10) (ws' := hW y aH aG aN aF aT G N F T' ++ oC y aO (vp_updL O (0 : Int32).toNatClampNeg r.toInt64)) C 3 dL_lamp_9 ((oA y aO O).R) rfl (by decide) rfl rfl ?_
  refine x_goto (t := 25) C dL_lamp_10 (by decide) ?_
  refine x_iconst (q := 26) C dL_lamp_25 ki_0 rfl ?_
  exact xw_iret C dL_lamp_26 rfl rfl rfl (Nat.le_of_ble_eq_true rfl) (Nat.le_of_ble_eq_true rfl)
set_option maxHeartbeats 4000000 in
set_option maxRecDepth 100000 in
theorem wLt_lamp_3 {l : Launch} {D : va_G} {y : Nat → ClassId} {aH : Nat} {aG aN aF aT aO : Nat → Nat} {G N F T : St} {O : Nat → Int64} {p1 : Int32} {p2 : Int32} (hst : l.stackTraces = false) (hf : f2_lamp G N F T p1 p2 = some (.inl 3)) : xW l yL_lamp wsL_lamp 8 134 1 6 D (xT y) [.ref aH, .int p1, .int p2, .ref (aO 0)] (hW y aH aG aN aF aT G N F T ++ oC y aO O) 1 (hW y aH aG aN aF aT G N F T ++ oC y aO O) := by
  refine xW_of (cc := cL_lamp) (nL := 5) (ret := some .int) (hh := [(0, 10, 13, 21), (0, 10, 17, 13), (0, 10, 21, 15)]) [(0, .ref aH), (1, .int p1), (2, .int p2), (3, .ref (aO 0))] hst (by decide) rfl (Nat.le_of_ble_eq_true rfl) rfl ?_
  intro p e s m args below meth c A C hT hE
  have C : xC p s m args meth c D A cL_lamp RL 5 wsL_lamp (xT y) (some .int) := C
  refine x_aload_n (q := 1) C 3 dL_lamp_0 rfl rfl rfl ?_
  refine x_iconst (q := 2) C dL_lamp_1 ki_0 rfl ?_
  refine x_aload_n (q := 3) C 0 dL_lamp_2 rfl rfl rfl ?_
  refine x_iload_n (q := 4) C 1 dL_lamp_3 rfl rfl rfl ?_
  refine x_iload_n (q := 5) C 2 dL_lamp_4 rfl rfl rfl ?_
  refine x_callCVi (q := 13) (Wr := oC y aO O) C hT (c2_lamp (l := l) (D := D) (y := y) (aH := aH) (aG := aG) (aN := aN) (aF := aF) (aT := aT) (mc := 1) (ms := 6) hst (fun _ _ => ⟨Nat.le_refl _, Nat.le_refl _⟩) hf) rfl [] ⟨0, 10, 13, 21⟩ [⟨0, 10, 17, 13⟩, ⟨0, 10, 21, 15⟩] (hE.trans rfl) (fun z hz => nomatch hz) (by decide) (by decide) cl_lamp_21 yi_X2_lampw gL_lamp_X2_lamp rfl ((oX2 aH aN aF aT aG).L) rfl ⟨(Nat.le_of_ble_eq_true rfl), (Nat.le_of_ble_eq_true rfl)⟩ dL_lamp_5 (List.Perm.refl _) rfl rfl (Nat.le_of_ble_eq_true rfl) ⟨(Nat.le_of_ble_eq_true rfl), (Nat.le_of_ble_eq_true rfl)⟩ rfl ?_
  intro qa
  refine x_astore (q := 15) C [1, 2, 3, 4, 0] [(0, .ref aH), (1, .int p1), (2, .int p2), (3, .ref (aO 0)), (4, .ref qa)] dL_lamp_13 (by decide) rfl rfl ?_
  refine x_iconst (q := 16) C dL_lamp_15 ki_1 rfl ?_
  exact xw_iret C dL_lamp_16 rfl rfl rfl (Nat.le_of_ble_eq_true rfl) (Nat.le_of_ble_eq_true rfl)
set_option maxHeartbeats 4000000 in
set_option maxRecDepth 100000 in
theorem wLt_lamp_1 {l : Launch} {D : va_G} {y : Nat → ClassId} {aH : Nat} {aG aN aF aT aO : Nat → Nat} {G N F T : St} {O : Nat → Int64} {p1 : Int32} {p2 : Int32} (hst : l.stackTraces = false) (hf : f2_lamp G N F T p1 p2 = some (.inl 1)) : xW l yL_lamp wsL_lamp 8 134 1 6 D (xT y) [.ref aH, .int p1, .int p2, .ref (aO 0)] (hW y aH aG aN aF aT G N F T ++ oC y aO O) 2 (hW y aH aG aN aF aT G N F T ++ oC y aO O) := by
  refine xW_of (cc := cL_lamp) (nL := 5) (ret := some .int) (hh := [(0, 10, 13, 21), (0, 10, 17, 13), (0, 10, 21, 15)]) [(0, .ref aH), (1, .int p1), (2, .int p2), (3, .ref (aO 0))] hst (by decide) rfl (Nat.le_of_ble_eq_true rfl) rfl ?_
  intro p e s m args below meth c A C hT hE
  have C : xC p s m args meth c D A cL_lamp RL 5 wsL_lamp (xT y) (some .int) := C
  refine x_aload_n (q := 1) C 3 dL_lamp_0 rfl rfl rfl ?_
  refine x_iconst (q := 2) C dL_lamp_1 ki_0 rfl ?_
  refine x_aload_n (q := 3) C 0 dL_lamp_2 rfl rfl rfl ?_
  refine x_iload_n (q := 4) C 1 dL_lamp_3 rfl rfl rfl ?_
  refine x_iload_n (q := 5) C 2 dL_lamp_4 rfl rfl rfl ?_
  refine x_callCVi (q := 17) (Wr := oC y aO O) C hT (c2_lamp (l := l) (D := D) (y := y) (aH := aH) (aG := aG) (aN := aN) (aF := aF) (aT := aT) (mc := 1) (ms := 6) hst (fun _ _ => ⟨Nat.le_refl _, Nat.le_refl _⟩) hf) rfl [⟨0, 10, 13, 21⟩] ⟨0, 10, 17, 13⟩ [⟨0, 10, 21, 15⟩] (hE.trans rfl) (fun z hz => by
    simp only [List.mem_cons, List.not_mem_nil, or_false] at hz
    rcases hz with rfl
    · exact ⟨by decide, _, cl_lamp_21, by decide⟩) (by decide) (by decide) cl_lamp_13 yi_X2_lampw gL_lamp_X2_lamp rfl ((oX2 aH aN aF aT aG).L) rfl ⟨(Nat.le_of_ble_eq_true rfl), (Nat.le_of_ble_eq_true rfl)⟩ dL_lamp_5 (List.Perm.refl _) rfl rfl (Nat.le_of_ble_eq_true rfl) ⟨(Nat.le_of_ble_eq_true rfl), (Nat.le_of_ble_eq_true rfl)⟩ rfl ?_
  intro qa
  refine x_astore (q := 19) C [1, 2, 3, 4, 0] [(0, .ref aH), (1, .int p1), (2, .int p2), (3, .ref (aO 0)), (4, .ref qa)] dL_lamp_17 (by decide) rfl rfl ?_
  refine x_iconst (q := 20) C dL_lamp_19 ki_2 rfl ?_
  exact xw_iret C dL_lamp_20 rfl rfl rfl (Nat.le_of_ble_eq_true rfl) (Nat.le_of_ble_eq_true rfl)
set_option maxHeartbeats 4000000 in
set_option maxRecDepth 100000 in
theorem wLt_lamp_2 {l : Launch} {D : va_G} {y : Nat → ClassId} {aH : Nat} {aG aN aF aT aO : Nat → Nat} {G N F T : St} {O : Nat → Int64} {p1 : Int32} {p2 : Int32} (hst : l.stackTraces = false) (hf : f2_lamp G N F T p1 p2 = some (.inl 2)) : xW l yL_lamp wsL_lamp 8 134 1 6 D (xT y) [.ref aH, .int p1, .int p2, .ref (aO 0)] (hW y aH aG aN aF aT G N F T ++ oC y aO O) 3 (hW y aH aG aN aF aT G N F T ++ oC y aO O) := by
  refine xW_of (cc := cL_lamp) (nL := 5) (ret := some .int) (hh := [(0, 10, 13, 21), (0, 10, 17, 13), (0, 10, 21, 15)]) [(0, .ref aH), (1, .int p1), (2, .int p2), (3, .ref (aO 0))] hst (by decide) rfl (Nat.le_of_ble_eq_true rfl) rfl ?_
  intro p e s m args below meth c A C hT hE
  have C : xC p s m args meth c D A cL_lamp RL 5 wsL_lamp (xT y) (some .int) := C
  refine x_aload_n (q := 1) C 3 dL_lamp_0 rfl rfl rfl ?_
  refine x_iconst (q := 2) C dL_lamp_1 ki_0 rfl ?_
  refine x_aload_n (q := 3) C 0 dL_lamp_2 rfl rfl rfl ?_
  refine x_iload_n (q := 4) C 1 dL_lamp_3 rfl rfl rfl ?_
  refine x_iload_n (q := 5) C 2 dL_lamp_4 rfl rfl rfl ?_
  refine x_callCVi (q := 21) (Wr := oC y aO O) C hT (c2_lamp (l := l) (D := D) (y := y) (aH := aH) (aG := aG) (aN := aN) (aF := aF) (aT := aT) (mc := 1) (ms := 6) hst (fun _ _ => ⟨Nat.le_refl _, Nat.le_refl _⟩) hf) rfl [⟨0, 10, 13, 21⟩, ⟨0, 10, 17, 13⟩] ⟨0, 10, 21, 15⟩ [] (hE.trans rfl) (fun z hz => by
    simp only [List.mem_cons, List.not_mem_nil, or_false] at hz
    rcases hz with rfl | rfl
    · exact ⟨by decide, _, cl_lamp_21, by decide⟩
    · exact ⟨by decide, _, cl_lamp_13, by decide⟩) (by decide) (by decide) cl_lamp_15 yi_X2_lampw gL_lamp_X2_lamp rfl ((oX2 aH aN aF aT aG).L) rfl ⟨(Nat.le_of_ble_eq_true rfl), (Nat.le_of_ble_eq_true rfl)⟩ dL_lamp_5 (List.Perm.refl _) rfl rfl (Nat.le_of_ble_eq_true rfl) ⟨(Nat.le_of_ble_eq_true rfl), (Nat.le_of_ble_eq_true rfl)⟩ rfl ?_
  intro qa
  refine x_astore (q := 23) C [1, 2, 3, 4, 0] [(0, .ref aH), (1, .int p1), (2, .int p2), (3, .ref (aO 0)), (4, .ref qa)] dL_lamp_21 (by decide) rfl rfl ?_
  refine x_iconst (q := 24) C dL_lamp_23 ki_3 rfl ?_
  exact xw_iret C dL_lamp_24 rfl rfl rfl (Nat.le_of_ble_eq_true rfl) (Nat.le_of_ble_eq_true rfl)
theorem yw_lid : (∃ ws', wsL_lid = Cond.codeWith yL_lid cL_lid 5 (some .int) [(0, 10, 13, 21), (0, 10, 17, 13)] :: ws') ∧ yL_lid.cls ≠ "java/lang/invoke/MethodHandle" ∧ yL_lid.cls ≠ "java/lang/invoke/VarHandle" ∧ (parseMethodDescriptor yL_lid.desc).map (fun d => d.parameters.length) = some 4 := ⟨⟨_, rfl⟩, by decide +kernel, by decide +kernel, by decide +kernel⟩
theorem yi_X2_lidw : xY yX2_lid wsX2_lid cX2_lid 4 (some .int) 2 := ⟨⟨_, rfl⟩, by decide +kernel, by decide +kernel, by decide +kernel⟩
theorem cl_lid_13 : Cond.classLink RL 13 "java/lang/IllegalArgumentException" ∈ wsL_lid := by decide +kernel
theorem cl_lid_21 : Cond.classLink RL 21 "java/lang/IndexOutOfBoundsException" ∈ wsL_lid := by decide +kernel
set_option maxHeartbeats 4000000 in
set_option maxRecDepth 100000 in
theorem wLr_lid {l : Launch} {D : va_G} {y : Nat → ClassId} {aH : Nat} {aG aN aF aT aO : Nat → Nat} {G N F T : St} {O : Nat → Int64} {p1 : Int32} {p2 : Int32} {r : Int32} {T' : St} (hst : l.stackTraces = false) (hf : f2_lid G N F T p1 p2 = some (.inr (r, T'))) : xW l yL_lid wsL_lid 8 135 1 6 D (xT y) [.ref aH, .int p1, .int p2, .ref (aO 0)] (hW y aH aG aN aF aT G N F T ++ oC y aO O) 0 (hW y aH aG aN aF aT G N F T' ++ oC y aO (vp_updL O (0 : Int32).toNatClampNeg r.toInt64)) := by
  refine xW_of (cc := cL_lid) (nL := 5) (ret := some .int) (hh := [(0, 10, 13, 21), (0, 10, 17, 13)]) [(0, .ref aH), (1, .int p1), (2, .int p2), (3, .ref (aO 0))] hst (by decide) rfl (Nat.le_of_ble_eq_true rfl) rfl ?_
  intro p e s m args below meth c A C hT hE
  have C : xC p s m args meth c D A cL_lid RL 5 wsL_lid (xT y) (some .int) := C
  refine x_aload_n (q := 1) C 3 dL_lid_0 rfl rfl rfl ?_
  refine x_iconst (q := 2) C dL_lid_1 ki_0 rfl ?_
  refine x_aload_n (q := 3) C 0 dL_lid_2 rfl rfl rfl ?_
  refine x_iload_n (q := 4) C 1 dL_lid_3 rfl rfl rfl ?_
  refine x_iload_n (q := 5) C 2 dL_lid_4 rfl rfl rfl ?_
  refine x_callRVi (q := 8) (Wr := oC y aO O) C hT (c2_lid (l := l) (D := D) (y := y) (aH := aH) (aG := aG) (aN := aN) (aF := aF) (aT := aT) (mc := 0) (ms := 0) hst (fun _ h => by cases h) hf) (fun _ h => by cases h) yi_X2_lidw gL_lid_X2_lid rfl ((oX2 aH aN aF aT aG).L) rfl ⟨(Nat.le_of_ble_eq_true rfl), (Nat.le_of_ble_eq_true rfl)⟩ dL_lid_5 (List.Perm.refl _) rfl rfl (Nat.le_of_ble_eq_true rfl) ⟨(Nat.le_of_ble_eq_true rfl), (Nat.le_of_ble_eq_true rfl)⟩ rfl ?_
  intro rr u hrr
  obtain ⟨e1, e2⟩ := Prod.mk.inj (Sum.inr.inj hrr)
  subst e1
  subst e2
  refine x_world (ws' := hW y aH aG aN aF aT G N F T' ++ oC y aO O) rfl ?_
  refine x_i2l (q := 9) C dL_lid_8 rfl ?_
  refine x_last (q := 10) (ws' := hW y aH aG aN aF aT G N F T' ++ oC y aO (vp_updL O (0 : Int32).toNatClampNeg r.toInt64)) C 3 dL_lid_9 ((oA y aO O).R) rfl (by decide) rfl rfl ?_
  refine x_goto (t := 21) C dL_lid_10 (by decide) ?_
  refine x_iconst (q := 22) C dL_lid_21 ki_0 rfl ?_
  exact xw_iret C dL_lid_22 rfl rfl rfl (Nat.le_of_ble_eq_true rfl) (Nat.le_of_ble_eq_true rfl)
set_option maxHeartbeats 4000000 in
set_option maxRecDepth 100000 in
theorem wLt_lid_3 {l : Launch} {D : va_G} {y : Nat → ClassId} {aH : Nat} {aG aN aF aT aO : Nat → Nat} {G N F T : St} {O : Nat → Int64} {p1 : Int32} {p2 : Int32} (hst : l.stackTraces = false) (hf : f2_lid G N F T p1 p2 = some (.inl 3)) : xW l yL_lid wsL_lid 8 135 1 6 D (xT y) [.ref aH, .int p1, .int p2, .ref (aO 0)] (hW y aH aG aN aF aT G N F T ++ oC y aO O) 1 (hW y aH aG aN aF aT G N F T ++ oC y aO O) := by
  refine xW_of (cc := cL_lid) (nL := 5) (ret := some .int) (hh := [(0, 10, 13, 21), (0, 10, 17, 13)]) [(0, .ref aH), (1, .int p1), (2, .int p2), (3, .ref (aO 0))] hst (by decide) rfl (Nat.le_of_ble_eq_true rfl) rfl ?_
  intro p e s m args below meth c A C hT hE
  have C : xC p s m args meth c D A cL_lid RL 5 wsL_lid (xT y) (some .int) := C
  refine x_aload_n (q := 1) C 3 dL_lid_0 rfl rfl rfl ?_
  refine x_iconst (q := 2) C dL_lid_1 ki_0 rfl ?_
  refine x_aload_n (q := 3) C 0 dL_lid_2 rfl rfl rfl ?_
  refine x_iload_n (q := 4) C 1 dL_lid_3 rfl rfl rfl ?_
  refine x_iload_n (q := 5) C 2 dL_lid_4 rfl rfl rfl ?_
  refine x_callCVi (q := 13) (Wr := oC y aO O) C hT (c2_lid (l := l) (D := D) (y := y) (aH := aH) (aG := aG) (aN := aN) (aF := aF) (aT := aT) (mc := 1) (ms := 6) hst (fun _ _ => ⟨Nat.le_refl _, Nat.le_refl _⟩) hf) rfl [] ⟨0, 10, 13, 21⟩ [⟨0, 10, 17, 13⟩] (hE.trans rfl) (fun z hz => nomatch hz) (by decide) (by decide) cl_lid_21 yi_X2_lidw gL_lid_X2_lid rfl ((oX2 aH aN aF aT aG).L) rfl ⟨(Nat.le_of_ble_eq_true rfl), (Nat.le_of_ble_eq_true rfl)⟩ dL_lid_5 (List.Perm.refl _) rfl rfl (Nat.le_of_ble_eq_true rfl) ⟨(Nat.le_of_ble_eq_true rfl), (Nat.le_of_ble_eq_true rfl)⟩ rfl ?_
  intro qa
  refine x_astore (q := 15) C [1, 2, 3, 4, 0] [(0, .ref aH), (1, .int p1), (2, .int p2), (3, .ref (aO 0)), (4, .ref qa)] dL_lid_13 (by decide) rfl rfl ?_
  refine x_iconst (q := 16) C dL_lid_15 ki_1 rfl ?_
  exact xw_iret C dL_lid_16 rfl rfl rfl (Nat.le_of_ble_eq_true rfl) (Nat.le_of_ble_eq_true rfl)
set_option maxHeartbeats 4000000 in
set_option maxRecDepth 100000 in
theorem wLt_lid_1 {l : Launch} {D : va_G} {y : Nat → ClassId} {aH : Nat} {aG aN aF aT aO : Nat → Nat} {G N F T : St} {O : Nat → Int64} {p1 : Int32} {p2 : Int32} (hst : l.stackTraces = false) (hf : f2_lid G N F T p1 p2 = some (.inl 1)) : xW l yL_lid wsL_lid 8 135 1 6 D (xT y) [.ref aH, .int p1, .int p2, .ref (aO 0)] (hW y aH aG aN aF aT G N F T ++ oC y aO O) 2 (hW y aH aG aN aF aT G N F T ++ oC y aO O) := by
  refine xW_of (cc := cL_lid) (nL := 5) (ret := some .int) (hh := [(0, 10, 13, 21), (0, 10, 17, 13)]) [(0, .ref aH), (1, .int p1), (2, .int p2), (3, .ref (aO 0))] hst (by decide) rfl (Nat.le_of_ble_eq_true rfl) rfl ?_
  intro p e s m args below meth c A C hT hE
  have C : xC p s m args meth c D A cL_lid RL 5 wsL_lid (xT y) (some .int) := C
  refine x_aload_n (q := 1) C 3 dL_lid_0 rfl rfl rfl ?_
  refine x_iconst (q := 2) C dL_lid_1 ki_0 rfl ?_
  refine x_aload_n (q := 3) C 0 dL_lid_2 rfl rfl rfl ?_
  refine x_iload_n (q := 4) C 1 dL_lid_3 rfl rfl rfl ?_
  refine x_iload_n (q := 5) C 2 dL_lid_4 rfl rfl rfl ?_
  refine x_callCVi (q := 17) (Wr := oC y aO O) C hT (c2_lid (l := l) (D := D) (y := y) (aH := aH) (aG := aG) (aN := aN) (aF := aF) (aT := aT) (mc := 1) (ms := 6) hst (fun _ _ => ⟨Nat.le_refl _, Nat.le_refl _⟩) hf) rfl [⟨0, 10, 13, 21⟩] ⟨0, 10, 17, 13⟩ [] (hE.trans rfl) (fun z hz => by
    simp only [List.mem_cons, List.not_mem_nil, or_false] at hz
    rcases hz with rfl
    · exact ⟨by decide, _, cl_lid_21, by decide⟩) (by decide) (by decide) cl_lid_13 yi_X2_lidw gL_lid_X2_lid rfl ((oX2 aH aN aF aT aG).L) rfl ⟨(Nat.le_of_ble_eq_true rfl), (Nat.le_of_ble_eq_true rfl)⟩ dL_lid_5 (List.Perm.refl _) rfl rfl (Nat.le_of_ble_eq_true rfl) ⟨(Nat.le_of_ble_eq_true rfl), (Nat.le_of_ble_eq_true rfl)⟩ rfl ?_
  intro qa
  refine x_astore (q := 19) C [1, 2, 3, 4, 0] [(0, .ref aH), (1, .int p1), (2, .int p2), (3, .ref (aO 0)), (4, .ref qa)] dL_lid_17 (by decide) rfl rfl ?_
  refine x_iconst (q := 20) C dL_lid_19 ki_2 rfl ?_
  exact xw_iret C dL_lid_20 rfl rfl rfl (Nat.le_of_ble_eq_true rfl) (Nat.le_of_ble_eq_true rfl)
theorem yw_setWind : (∃ ws', wsL_setWind = Cond.codeWith yL_setWind cL_setWind 5 (some .int) [(0, 10, 13, 21), (0, 10, 17, 13)] :: ws') ∧ yL_setWind.cls ≠ "java/lang/invoke/MethodHandle" ∧ yL_setWind.cls ≠ "java/lang/invoke/VarHandle" ∧ (parseMethodDescriptor yL_setWind.desc).map (fun d => d.parameters.length) = some 4 := ⟨⟨_, rfl⟩, by decide +kernel, by decide +kernel, by decide +kernel⟩
theorem yi_X2_setWindw : xY yX2_setWind wsX2_setWind cX2_setWind 4 (some .int) 2 := ⟨⟨_, rfl⟩, by decide +kernel, by decide +kernel, by decide +kernel⟩
theorem cl_setWind_13 : Cond.classLink RL 13 "java/lang/IllegalArgumentException" ∈ wsL_setWind := by decide +kernel
theorem cl_setWind_21 : Cond.classLink RL 21 "java/lang/IndexOutOfBoundsException" ∈ wsL_setWind := by decide +kernel
set_option maxHeartbeats 4000000 in
set_option maxRecDepth 100000 in
theorem wLr_setWind {l : Launch} {D : va_G} {y : Nat → ClassId} {aH : Nat} {aG aN aF aT aO : Nat → Nat} {G N F T : St} {O : Nat → Int64} {p1 : Int32} {p2 : Int32} {r : Int32} {T' : St} (hst : l.stackTraces = false) (hf : f2_setWind G N F T p1 p2 = some (.inr (r, T'))) : xW l yL_setWind wsL_setWind 8 135 1 6 D (xT y) [.ref aH, .int p1, .int p2, .ref (aO 0)] (hW y aH aG aN aF aT G N F T ++ oC y aO O) 0 (hW y aH aG aN aF aT G N F T' ++ oC y aO (vp_updL O (0 : Int32).toNatClampNeg r.toInt64)) := by
  refine xW_of (cc := cL_setWind) (nL := 5) (ret := some .int) (hh := [(0, 10, 13, 21), (0, 10, 17, 13)]) [(0, .ref aH), (1, .int p1), (2, .int p2), (3, .ref (aO 0))] hst (by decide) rfl (Nat.le_of_ble_eq_true rfl) rfl ?_
  intro p e s m args below meth c A C hT hE
  have C : xC p s m args meth c D A cL_setWind RL 5 wsL_setWind (xT y) (some .int) := C
  refine x_aload_n (q := 1) C 3 dL_setWind_0 rfl rfl rfl ?_
  refine x_iconst (q := 2) C dL_setWind_1 ki_0 rfl ?_
  refine x_aload_n (q := 3) C 0 dL_setWind_2 rfl rfl rfl ?_
  refine x_iload_n (q := 4) C 1 dL_setWind_3 rfl rfl rfl ?_
  refine x_iload_n (q := 5) C 2 dL_setWind_4 rfl rfl rfl ?_
  refine x_callRVi (q := 8) (Wr := oC y aO O) C hT (c2_setWind (l := l) (D := D) (y := y) (aH := aH) (aG := aG) (aN := aN) (aF := aF) (aT := aT) (mc := 0) (ms := 0) hst (fun _ h => by cases h) hf) (fun _ h => by cases h) yi_X2_setWindw gL_setWind_X2_setWind rfl ((oX2 aH aN aF aT aG).L) rfl ⟨(Nat.le_of_ble_eq_true rfl), (Nat.le_of_ble_eq_true rfl)⟩ dL_setWind_5 (List.Perm.refl _) rfl rfl (Nat.le_of_ble_eq_true rfl) ⟨(Nat.le_of_ble_eq_true rfl), (Nat.le_of_ble_eq_true rfl)⟩ rfl ?_
  intro rr u hrr
  obtain ⟨e1, e2⟩ := Prod.mk.inj (Sum.inr.inj hrr)
  subst e1
  subst e2
  refine x_world (ws' := hW y aH aG aN aF aT G N F T' ++ oC y aO O) rfl ?_
  refine x_i2l (q := 9) C dL_setWind_8 rfl ?_
  refine x_last (q := 10) (ws' := hW y aH aG aN aF aT G N F T' ++ oC y aO (vp_updL O (0 : Int32).toNatClampNeg r.toInt64)) C 3 dL_setWind_9 ((oA y aO O).R) rfl (by decide) rfl rfl ?_
  refine x_goto (t := 21) C dL_setWind_10 (by decide) ?_
  refine x_iconst (q := 22) C dL_setWind_21 ki_0 rfl ?_
  exact xw_iret C dL_setWind_22 rfl rfl rfl (Nat.le_of_ble_eq_true rfl) (Nat.le_of_ble_eq_true rfl)
set_option maxHeartbeats 4000000 in
set_option maxRecDepth 100000 in
theorem wLt_setWind_3 {l : Launch} {D : va_G} {y : Nat → ClassId} {aH : Nat} {aG aN aF aT aO : Nat → Nat} {G N F T : St} {O : Nat → Int64} {p1 : Int32} {p2 : Int32} (hst : l.stackTraces = false) (hf : f2_setWind G N F T p1 p2 = some (.inl 3)) : xW l yL_setWind wsL_setWind 8 135 1 6 D (xT y) [.ref aH, .int p1, .int p2, .ref (aO 0)] (hW y aH aG aN aF aT G N F T ++ oC y aO O) 1 (hW y aH aG aN aF aT G N F T ++ oC y aO O) := by
  refine xW_of (cc := cL_setWind) (nL := 5) (ret := some .int) (hh := [(0, 10, 13, 21), (0, 10, 17, 13)]) [(0, .ref aH), (1, .int p1), (2, .int p2), (3, .ref (aO 0))] hst (by decide) rfl (Nat.le_of_ble_eq_true rfl) rfl ?_
  intro p e s m args below meth c A C hT hE
  have C : xC p s m args meth c D A cL_setWind RL 5 wsL_setWind (xT y) (some .int) := C
  refine x_aload_n (q := 1) C 3 dL_setWind_0 rfl rfl rfl ?_
  refine x_iconst (q := 2) C dL_setWind_1 ki_0 rfl ?_
  refine x_aload_n (q := 3) C 0 dL_setWind_2 rfl rfl rfl ?_
  refine x_iload_n (q := 4) C 1 dL_setWind_3 rfl rfl rfl ?_
  refine x_iload_n (q := 5) C 2 dL_setWind_4 rfl rfl rfl ?_
  refine x_callCVi (q := 13) (Wr := oC y aO O) C hT (c2_setWind (l := l) (D := D) (y := y) (aH := aH) (aG := aG) (aN := aN) (aF := aF) (aT := aT) (mc := 1) (ms := 6) hst (fun _ _ => ⟨Nat.le_refl _, Nat.le_refl _⟩) hf) rfl [] ⟨0, 10, 13, 21⟩ [⟨0, 10, 17, 13⟩] (hE.trans rfl) (fun z hz => nomatch hz) (by decide) (by decide) cl_setWind_21 yi_X2_setWindw gL_setWind_X2_setWind rfl ((oX2 aH aN aF aT aG).L) rfl ⟨(Nat.le_of_ble_eq_true rfl), (Nat.le_of_ble_eq_true rfl)⟩ dL_setWind_5 (List.Perm.refl _) rfl rfl (Nat.le_of_ble_eq_true rfl) ⟨(Nat.le_of_ble_eq_true rfl), (Nat.le_of_ble_eq_true rfl)⟩ rfl ?_
  intro qa
  refine x_astore (q := 15) C [1, 2, 3, 4, 0] [(0, .ref aH), (1, .int p1), (2, .int p2), (3, .ref (aO 0)), (4, .ref qa)] dL_setWind_13 (by decide) rfl rfl ?_
  refine x_iconst (q := 16) C dL_setWind_15 ki_1 rfl ?_
  exact xw_iret C dL_setWind_16 rfl rfl rfl (Nat.le_of_ble_eq_true rfl) (Nat.le_of_ble_eq_true rfl)
set_option maxHeartbeats 4000000 in
set_option maxRecDepth 100000 in
theorem wLt_setWind_1 {l : Launch} {D : va_G} {y : Nat → ClassId} {aH : Nat} {aG aN aF aT aO : Nat → Nat} {G N F T : St} {O : Nat → Int64} {p1 : Int32} {p2 : Int32} (hst : l.stackTraces = false) (hf : f2_setWind G N F T p1 p2 = some (.inl 1)) : xW l yL_setWind wsL_setWind 8 135 1 6 D (xT y) [.ref aH, .int p1, .int p2, .ref (aO 0)] (hW y aH aG aN aF aT G N F T ++ oC y aO O) 2 (hW y aH aG aN aF aT G N F T ++ oC y aO O) := by
  refine xW_of (cc := cL_setWind) (nL := 5) (ret := some .int) (hh := [(0, 10, 13, 21), (0, 10, 17, 13)]) [(0, .ref aH), (1, .int p1), (2, .int p2), (3, .ref (aO 0))] hst (by decide) rfl (Nat.le_of_ble_eq_true rfl) rfl ?_
  intro p e s m args below meth c A C hT hE
  have C : xC p s m args meth c D A cL_setWind RL 5 wsL_setWind (xT y) (some .int) := C
  refine x_aload_n (q := 1) C 3 dL_setWind_0 rfl rfl rfl ?_
  refine x_iconst (q := 2) C dL_setWind_1 ki_0 rfl ?_
  refine x_aload_n (q := 3) C 0 dL_setWind_2 rfl rfl rfl ?_
  refine x_iload_n (q := 4) C 1 dL_setWind_3 rfl rfl rfl ?_
  refine x_iload_n (q := 5) C 2 dL_setWind_4 rfl rfl rfl ?_
  refine x_callCVi (q := 17) (Wr := oC y aO O) C hT (c2_setWind (l := l) (D := D) (y := y) (aH := aH) (aG := aG) (aN := aN) (aF := aF) (aT := aT) (mc := 1) (ms := 6) hst (fun _ _ => ⟨Nat.le_refl _, Nat.le_refl _⟩) hf) rfl [⟨0, 10, 13, 21⟩] ⟨0, 10, 17, 13⟩ [] (hE.trans rfl) (fun z hz => by
    simp only [List.mem_cons, List.not_mem_nil, or_false] at hz
    rcases hz with rfl
    · exact ⟨by decide, _, cl_setWind_21, by decide⟩) (by decide) (by decide) cl_setWind_13 yi_X2_setWindw gL_setWind_X2_setWind rfl ((oX2 aH aN aF aT aG).L) rfl ⟨(Nat.le_of_ble_eq_true rfl), (Nat.le_of_ble_eq_true rfl)⟩ dL_setWind_5 (List.Perm.refl _) rfl rfl (Nat.le_of_ble_eq_true rfl) ⟨(Nat.le_of_ble_eq_true rfl), (Nat.le_of_ble_eq_true rfl)⟩ rfl ?_
  intro qa
  refine x_astore (q := 19) C [1, 2, 3, 4, 0] [(0, .ref aH), (1, .int p1), (2, .int p2), (3, .ref (aO 0)), (4, .ref qa)] dL_setWind_17 (by decide) rfl rfl ?_
  refine x_iconst (q := 20) C dL_setWind_19 ki_2 rfl ?_
  exact xw_iret C dL_setWind_20 rfl rfl rfl (Nat.le_of_ble_eq_true rfl) (Nat.le_of_ble_eq_true rfl)
theorem yw_hire : (∃ ws', wsL_hire = Cond.codeWith yL_hire cL_hire 6 (some .int) [(0, 12, 15, 21), (0, 12, 19, 13), (0, 12, 23, 15)] :: ws') ∧ yL_hire.cls ≠ "java/lang/invoke/MethodHandle" ∧ yL_hire.cls ≠ "java/lang/invoke/VarHandle" ∧ (parseMethodDescriptor yL_hire.desc).map (fun d => d.parameters.length) = some 5 := ⟨⟨_, rfl⟩, by decide +kernel, by decide +kernel, by decide +kernel⟩
theorem yi_X2_hirew : xY yX2_hire wsX2_hire cX2_hire 5 (some .int) 3 := ⟨⟨_, rfl⟩, by decide +kernel, by decide +kernel, by decide +kernel⟩
theorem cl_hire_13 : Cond.classLink RL 13 "java/lang/IllegalArgumentException" ∈ wsL_hire := by decide +kernel
theorem cl_hire_15 : Cond.classLink RL 15 "java/lang/IllegalStateException" ∈ wsL_hire := by decide +kernel
theorem cl_hire_21 : Cond.classLink RL 21 "java/lang/IndexOutOfBoundsException" ∈ wsL_hire := by decide +kernel
set_option maxHeartbeats 4000000 in
set_option maxRecDepth 100000 in
theorem wLr_hire {l : Launch} {D : va_G} {y : Nat → ClassId} {aH : Nat} {aG aN aF aT aO : Nat → Nat} {G N F T : St} {O : Nat → Int64} {p1 : Int32} {p2 : Int32} {p3 : Int32} {r : Int32} {N' : St} {T' : St} (hst : l.stackTraces = false) (hf : f2_hire G N F T p1 p2 p3 = some (.inr (r, N', T'))) : xW l yL_hire wsL_hire 8 136 1 6 D (xT y) [.ref aH, .int p1, .int p2, .int p3, .ref (aO 0)] (hW y aH aG aN aF aT G N F T ++ oC y aO O) 0 (hW y aH aG aN aF aT G N' F T' ++ oC y aO (vp_updL O (0 : Int32).toNatClampNeg r.toInt64)) := by
  refine xW_of (cc := cL_hire) (nL := 6) (ret := some .int) (hh := [(0, 12, 15, 21), (0, 12, 19, 13), (0, 12, 23, 15)]) [(0, .ref aH), (1, .int p1), (2, .int p2), (3, .int p3), (4, .ref (aO 0))] hst (by decide) rfl (Nat.le_of_ble_eq_true rfl) rfl ?_
  intro p e s m args below meth c A C hT hE
  have C : xC p s m args meth c D A cL_hire RL 6 wsL_hire (xT y) (some .int) := C
  refine x_aload (q := 2) C 4 dL_hire_0 rfl rfl ?_
  refine x_iconst (q := 3) C dL_hire_2 ki_0 rfl ?_
  refine x_aload_n (q := 4) C 0 dL_hire_3 rfl rfl rfl ?_
  refine x_iload_n (q := 5) C 1 dL_hire_4 rfl rfl rfl ?_
  refine x_iload_n (q := 6) C 2 dL_hire_5 rfl rfl rfl ?_
  refine x_iload_n (q := 7) C 3 dL_hire_6 rfl rfl rfl ?_
  refine x_callRVi (q := 10) (Wr := oC y aO O) C hT (c2_hire (l := l) (D := D) (y := y) (aH := aH) (aG := aG) (aN := aN) (aF := aF) (aT := aT) (mc := 0) (ms := 0) hst (fun _ h => by cases h) hf) (fun _ h => by cases h) yi_X2_hirew gL_hire_X2_hire rfl ((oX2 aH aN aF aT aG).L) rfl ⟨(Nat.le_of_ble_eq_true rfl), (Nat.le_of_ble_eq_true rfl)⟩ dL_hire_7 (List.Perm.refl _) rfl rfl (Nat.le_of_ble_eq_true rfl) ⟨(Nat.le_of_ble_eq_true rfl), (Nat.le_of_ble_eq_true rfl)⟩ rfl ?_
  intro rr u hrr
  obtain ⟨e1, e2⟩ := Prod.mk.inj (Sum.inr.inj hrr)
  subst e1
  subst e2
  refine x_world (ws' := hW y aH aG aN aF aT G N' F T' ++ oC y aO O) rfl ?_
  refine x_i2l (q := 11) C dL_hire_10 rfl ?_
  refine x_last (q := 12) (ws' := hW y aH aG aN aF aT G N' F T' ++ oC y aO (vp_updL O (0 : Int32).toNatClampNeg r.toInt64)) C 3 dL_hire_11 ((oA y aO O).R) rfl (by decide) rfl rfl ?_
  refine x_goto (t := 27) C dL_hire_12 (by decide) ?_
  refine x_iconst (q := 28) C dL_hire_27 ki_0 rfl ?_
  exact xw_iret C dL_hire_28 rfl rfl rfl (Nat.le_of_ble_eq_true rfl) (Nat.le_of_ble_eq_true rfl)
set_option maxHeartbeats 4000000 in
set_option maxRecDepth 100000 in
theorem wLt_hire_3 {l : Launch} {D : va_G} {y : Nat → ClassId} {aH : Nat} {aG aN aF aT aO : Nat → Nat} {G N F T : St} {O : Nat → Int64} {p1 : Int32} {p2 : Int32} {p3 : Int32} (hst : l.stackTraces = false) (hf : f2_hire G N F T p1 p2 p3 = some (.inl 3)) : xW l yL_hire wsL_hire 8 136 1 6 D (xT y) [.ref aH, .int p1, .int p2, .int p3, .ref (aO 0)] (hW y aH aG aN aF aT G N F T ++ oC y aO O) 1 (hW y aH aG aN aF aT G N F T ++ oC y aO O) := by
  refine xW_of (cc := cL_hire) (nL := 6) (ret := some .int) (hh := [(0, 12, 15, 21), (0, 12, 19, 13), (0, 12, 23, 15)]) [(0, .ref aH), (1, .int p1), (2, .int p2), (3, .int p3), (4, .ref (aO 0))] hst (by decide) rfl (Nat.le_of_ble_eq_true rfl) rfl ?_
  intro p e s m args below meth c A C hT hE
  have C : xC p s m args meth c D A cL_hire RL 6 wsL_hire (xT y) (some .int) := C
  refine x_aload (q := 2) C 4 dL_hire_0 rfl rfl ?_
  refine x_iconst (q := 3) C dL_hire_2 ki_0 rfl ?_
  refine x_aload_n (q := 4) C 0 dL_hire_3 rfl rfl rfl ?_
  refine x_iload_n (q := 5) C 1 dL_hire_4 rfl rfl rfl ?_
  refine x_iload_n (q := 6) C 2 dL_hire_5 rfl rfl rfl ?_
  refine x_iload_n (q := 7) C 3 dL_hire_6 rfl rfl rfl ?_
  refine x_callCVi (q := 15) (Wr := oC y aO O) C hT (c2_hire (l := l) (D := D) (y := y) (aH := aH) (aG := aG) (aN := aN) (aF := aF) (aT := aT) (mc := 1) (ms := 6) hst (fun _ _ => ⟨Nat.le_refl _, Nat.le_refl _⟩) hf) rfl [] ⟨0, 12, 15, 21⟩ [⟨0, 12, 19, 13⟩, ⟨0, 12, 23, 15⟩] (hE.trans rfl) (fun z hz => nomatch hz) (by decide) (by decide) cl_hire_21 yi_X2_hirew gL_hire_X2_hire rfl ((oX2 aH aN aF aT aG).L) rfl ⟨(Nat.le_of_ble_eq_true rfl), (Nat.le_of_ble_eq_true rfl)⟩ dL_hire_7 (List.Perm.refl _) rfl rfl (Nat.le_of_ble_eq_true rfl) ⟨(Nat.le_of_ble_eq_true rfl), (Nat.le_of_ble_eq_true rfl)⟩ rfl ?_
  intro qa
  refine x_astore (q := 17) C [1, 2, 3, 4, 5, 0] [(0, .ref aH), (1, .int p1), (2, .int p2), (3, .int p3), (4, .ref (aO 0)), (5, .ref qa)] dL_hire_15 (by decide) rfl rfl ?_
  refine x_iconst (q := 18) C dL_hire_17 ki_1 rfl ?_
  exact xw_iret C dL_hire_18 rfl rfl rfl (Nat.le_of_ble_eq_true rfl) (Nat.le_of_ble_eq_true rfl)
set_option maxHeartbeats 4000000 in
set_option maxRecDepth 100000 in
theorem wLt_hire_1 {l : Launch} {D : va_G} {y : Nat → ClassId} {aH : Nat} {aG aN aF aT aO : Nat → Nat} {G N F T : St} {O : Nat → Int64} {p1 : Int32} {p2 : Int32} {p3 : Int32} (hst : l.stackTraces = false) (hf : f2_hire G N F T p1 p2 p3 = some (.inl 1)) : xW l yL_hire wsL_hire 8 136 1 6 D (xT y) [.ref aH, .int p1, .int p2, .int p3, .ref (aO 0)] (hW y aH aG aN aF aT G N F T ++ oC y aO O) 2 (hW y aH aG aN aF aT G N F T ++ oC y aO O) := by
  refine xW_of (cc := cL_hire) (nL := 6) (ret := some .int) (hh := [(0, 12, 15, 21), (0, 12, 19, 13), (0, 12, 23, 15)]) [(0, .ref aH), (1, .int p1), (2, .int p2), (3, .int p3), (4, .ref (aO 0))] hst (by decide) rfl (Nat.le_of_ble_eq_true rfl) rfl ?_
  intro p e s m args below meth c A C hT hE
  have C : xC p s m args meth c D A cL_hire RL 6 wsL_hire (xT y) (some .int) := C
  refine x_aload (q := 2) C 4 dL_hire_0 rfl rfl ?_
  refine x_iconst (q := 3) C dL_hire_2 ki_0 rfl ?_
  refine x_aload_n (q := 4) C 0 dL_hire_3 rfl rfl rfl ?_
  refine x_iload_n (q := 5) C 1 dL_hire_4 rfl rfl rfl ?_
  refine x_iload_n (q := 6) C 2 dL_hire_5 rfl rfl rfl ?_
  refine x_iload_n (q := 7) C 3 dL_hire_6 rfl rfl rfl ?_
  refine x_callCVi (q := 19) (Wr := oC y aO O) C hT (c2_hire (l := l) (D := D) (y := y) (aH := aH) (aG := aG) (aN := aN) (aF := aF) (aT := aT) (mc := 1) (ms := 6) hst (fun _ _ => ⟨Nat.le_refl _, Nat.le_refl _⟩) hf) rfl [⟨0, 12, 15, 21⟩] ⟨0, 12, 19, 13⟩ [⟨0, 12, 23, 15⟩] (hE.trans rfl) (fun z hz => by
    simp only [List.mem_cons, List.not_mem_nil, or_false] at hz
    rcases hz with rfl
    · exact ⟨by decide, _, cl_hire_21, by decide⟩) (by decide) (by decide) cl_hire_13 yi_X2_hirew gL_hire_X2_hire rfl ((oX2 aH aN aF aT aG).L) rfl ⟨(Nat.le_of_ble_eq_true rfl), (Nat.le_of_ble_eq_true rfl)⟩ dL_hire_7 (List.Perm.refl _) rfl rfl (Nat.le_of_ble_eq_true rfl) ⟨(Nat.le_of_ble_eq_true rfl), (Nat.le_of_ble_eq_true rfl)⟩ rfl ?_
  intro qa
  refine x_astore (q := 21) C [1, 2, 3, 4, 5, 0] [(0, .ref aH), (1, .int p1), (2, .int p2), (3, .int p3), (4, .ref (aO 0)), (5, .ref qa)] dL_hire_19 (by decide) rfl rfl ?_
  refine x_iconst (q := 22) C dL_hire_21 ki_2 rfl ?_
  exact xw_iret C dL_hire_22 rfl rfl rfl (Nat.le_of_ble_eq_true rfl) (Nat.le_of_ble_eq_true rfl)
set_option maxHeartbeats 4000000 in
set_option maxRecDepth 100000 in
theorem wLt_hire_2 {l : Launch} {D : va_G} {y : Nat → ClassId} {aH : Nat} {aG aN aF aT aO : Nat → Nat} {G N F T : St} {O : Nat → Int64} {p1 : Int32} {p2 : Int32} {p3 : Int32} (hst : l.stackTraces = false) (hf : f2_hire G N F T p1 p2 p3 = some (.inl 2)) : xW l yL_hire wsL_hire 8 136 1 6 D (xT y) [.ref aH, .int p1, .int p2, .int p3, .ref (aO 0)] (hW y aH aG aN aF aT G N F T ++ oC y aO O) 3 (hW y aH aG aN aF aT G N F T ++ oC y aO O) := by
  refine xW_of (cc := cL_hire) (nL := 6) (ret := some .int) (hh := [(0, 12, 15, 21), (0, 12, 19, 13), (0, 12, 23, 15)]) [(0, .ref aH), (1, .int p1), (2, .int p2), (3, .int p3), (4, .ref (aO 0))] hst (by decide) rfl (Nat.le_of_ble_eq_true rfl) rfl ?_
  intro p e s m args below meth c A C hT hE
  have C : xC p s m args meth c D A cL_hire RL 6 wsL_hire (xT y) (some .int) := C
  refine x_aload (q := 2) C 4 dL_hire_0 rfl rfl ?_
  refine x_iconst (q := 3) C dL_hire_2 ki_0 rfl ?_
  refine x_aload_n (q := 4) C 0 dL_hire_3 rfl rfl rfl ?_
  refine x_iload_n (q := 5) C 1 dL_hire_4 rfl rfl rfl ?_
  refine x_iload_n (q := 6) C 2 dL_hire_5 rfl rfl rfl ?_
  refine x_iload_n (q := 7) C 3 dL_hire_6 rfl rfl rfl ?_
  refine x_callCVi (q := 23) (Wr := oC y aO O) C hT (c2_hire (l := l) (D := D) (y := y) (aH := aH) (aG := aG) (aN := aN) (aF := aF) (aT := aT) (mc := 1) (ms := 6) hst (fun _ _ => ⟨Nat.le_refl _, Nat.le_refl _⟩) hf) rfl [⟨0, 12, 15, 21⟩, ⟨0, 12, 19, 13⟩] ⟨0, 12, 23, 15⟩ [] (hE.trans rfl) (fun z hz => by
    simp only [List.mem_cons, List.not_mem_nil, or_false] at hz
    rcases hz with rfl | rfl
    · exact ⟨by decide, _, cl_hire_21, by decide⟩
    · exact ⟨by decide, _, cl_hire_13, by decide⟩) (by decide) (by decide) cl_hire_15 yi_X2_hirew gL_hire_X2_hire rfl ((oX2 aH aN aF aT aG).L) rfl ⟨(Nat.le_of_ble_eq_true rfl), (Nat.le_of_ble_eq_true rfl)⟩ dL_hire_7 (List.Perm.refl _) rfl rfl (Nat.le_of_ble_eq_true rfl) ⟨(Nat.le_of_ble_eq_true rfl), (Nat.le_of_ble_eq_true rfl)⟩ rfl ?_
  intro qa
  refine x_astore (q := 25) C [1, 2, 3, 4, 5, 0] [(0, .ref aH), (1, .int p1), (2, .int p2), (3, .int p3), (4, .ref (aO 0)), (5, .ref qa)] dL_hire_23 (by decide) rfl rfl ?_
  refine x_iconst (q := 26) C dL_hire_25 ki_3 rfl ?_
  exact xw_iret C dL_hire_26 rfl rfl rfl (Nat.le_of_ble_eq_true rfl) (Nat.le_of_ble_eq_true rfl)
theorem yw_round : (∃ ws', wsL_round = Cond.codeWith yL_round cL_round 5 (some .int) [(0, 10, 13, 21), (0, 10, 17, 15)] :: ws') ∧ yL_round.cls ≠ "java/lang/invoke/MethodHandle" ∧ yL_round.cls ≠ "java/lang/invoke/VarHandle" ∧ (parseMethodDescriptor yL_round.desc).map (fun d => d.parameters.length) = some 4 := ⟨⟨_, rfl⟩, by decide +kernel, by decide +kernel, by decide +kernel⟩
theorem yi_X2_roundw : xY yX2_round wsX2_round cX2_round 3 (some .int) 2 := ⟨⟨_, rfl⟩, by decide +kernel, by decide +kernel, by decide +kernel⟩
theorem cl_round_15 : Cond.classLink RL 15 "java/lang/IllegalStateException" ∈ wsL_round := by decide +kernel
theorem cl_round_21 : Cond.classLink RL 21 "java/lang/IndexOutOfBoundsException" ∈ wsL_round := by decide +kernel
set_option maxHeartbeats 4000000 in
set_option maxRecDepth 100000 in
theorem wLr_round {l : Launch} {D : va_G} {y : Nat → ClassId} {aH : Nat} {aG aN aF aT aO : Nat → Nat} {G N F T : St} {O : Nat → Int64} {p1 : Int32} {p2 : Int32} {r : Int32} {T' : St} (hst : l.stackTraces = false) (hf : f2_round G N F T p1 p2 = some (.inr (r, T'))) : xW l yL_round wsL_round 8 133 1 6 D (xT y) [.ref aH, .int p1, .int p2, .ref (aO 0)] (hW y aH aG aN aF aT G N F T ++ oC y aO O) 0 (hW y aH aG aN aF aT G N F T' ++ oC y aO (vp_updL O (0 : Int32).toNatClampNeg r.toInt64)) := by
  refine xW_of (cc := cL_round) (nL := 5) (ret := some .int) (hh := [(0, 10, 13, 21), (0, 10, 17, 15)]) [(0, .ref aH), (1, .int p1), (2, .int p2), (3, .ref (aO 0))] hst (by decide) rfl (Nat.le_of_ble_eq_true rfl) rfl ?_
  intro p e s m args below meth c A C hT hE
  have C : xC p s m args meth c D A cL_round RL 5 wsL_round (xT y) (some .int) := C
  refine x_aload_n (q := 1) C 3 dL_round_0 rfl rfl rfl ?_
  refine x_iconst (q := 2) C dL_round_1 ki_0 rfl ?_
  refine x_aload_n (q := 3) C 0 dL_round_2 rfl rfl rfl ?_
  refine x_iload_n (q := 4) C 1 dL_round_3 rfl rfl rfl ?_
  refine x_iload_n (q := 5) C 2 dL_round_4 rfl rfl rfl ?_
  refine x_callRVi (q := 8) (Wr := oC y aO O) C hT (c2_round (l := l) (D := D) (y := y) (aH := aH) (aG := aG) (aN := aN) (aF := aF) (aT := aT) (mc := 0) (ms := 0) hst (fun _ h => by cases h) hf) (fun _ h => by cases h) yi_X2_roundw gL_round_X2_round rfl ((oX2 aH aN aF aT aG).L) rfl ⟨(Nat.le_of_ble_eq_true rfl), (Nat.le_of_ble_eq_true rfl)⟩ dL_round_5 (List.Perm.refl _) rfl rfl (Nat.le_of_ble_eq_true rfl) ⟨(Nat.le_of_ble_eq_true rfl), (Nat.le_of_ble_eq_true rfl)⟩ rfl ?_
  intro rr u hrr
  obtain ⟨e1, e2⟩ := Prod.mk.inj (Sum.inr.inj hrr)
  subst e1
  subst e2
  refine x_world (ws' := hW y aH aG aN aF aT G N F T' ++ oC y aO O) rfl ?_
  refine x_i2l (q := 9) C dL_round_8 rfl ?_
  refine x_last (q := 10) (ws' := hW y aH aG aN aF aT G N F T' ++ oC y aO (vp_updL O (0 : Int32).toNatClampNeg r.toInt64)) C 3 dL_round_9 ((oA y aO O).R) rfl (by decide) rfl rfl ?_
  refine x_goto (t := 21) C dL_round_10 (by decide) ?_
  refine x_iconst (q := 22) C dL_round_21 ki_0 rfl ?_
  exact xw_iret C dL_round_22 rfl rfl rfl (Nat.le_of_ble_eq_true rfl) (Nat.le_of_ble_eq_true rfl)
set_option maxHeartbeats 4000000 in
set_option maxRecDepth 100000 in
theorem wLt_round_3 {l : Launch} {D : va_G} {y : Nat → ClassId} {aH : Nat} {aG aN aF aT aO : Nat → Nat} {G N F T : St} {O : Nat → Int64} {p1 : Int32} {p2 : Int32} (hst : l.stackTraces = false) (hf : f2_round G N F T p1 p2 = some (.inl 3)) : xW l yL_round wsL_round 8 133 1 6 D (xT y) [.ref aH, .int p1, .int p2, .ref (aO 0)] (hW y aH aG aN aF aT G N F T ++ oC y aO O) 1 (hW y aH aG aN aF aT G N F T ++ oC y aO O) := by
  refine xW_of (cc := cL_round) (nL := 5) (ret := some .int) (hh := [(0, 10, 13, 21), (0, 10, 17, 15)]) [(0, .ref aH), (1, .int p1), (2, .int p2), (3, .ref (aO 0))] hst (by decide) rfl (Nat.le_of_ble_eq_true rfl) rfl ?_
  intro p e s m args below meth c A C hT hE
  have C : xC p s m args meth c D A cL_round RL 5 wsL_round (xT y) (some .int) := C
  refine x_aload_n (q := 1) C 3 dL_round_0 rfl rfl rfl ?_
  refine x_iconst (q := 2) C dL_round_1 ki_0 rfl ?_
  refine x_aload_n (q := 3) C 0 dL_round_2 rfl rfl rfl ?_
  refine x_iload_n (q := 4) C 1 dL_round_3 rfl rfl rfl ?_
  refine x_iload_n (q := 5) C 2 dL_round_4 rfl rfl rfl ?_
  refine x_callCVi (q := 13) (Wr := oC y aO O) C hT (c2_round (l := l) (D := D) (y := y) (aH := aH) (aG := aG) (aN := aN) (aF := aF) (aT := aT) (mc := 1) (ms := 6) hst (fun _ _ => ⟨Nat.le_refl _, Nat.le_refl _⟩) hf) rfl [] ⟨0, 10, 13, 21⟩ [⟨0, 10, 17, 15⟩] (hE.trans rfl) (fun z hz => nomatch hz) (by decide) (by decide) cl_round_21 yi_X2_roundw gL_round_X2_round rfl ((oX2 aH aN aF aT aG).L) rfl ⟨(Nat.le_of_ble_eq_true rfl), (Nat.le_of_ble_eq_true rfl)⟩ dL_round_5 (List.Perm.refl _) rfl rfl (Nat.le_of_ble_eq_true rfl) ⟨(Nat.le_of_ble_eq_true rfl), (Nat.le_of_ble_eq_true rfl)⟩ rfl ?_
  intro qa
  refine x_astore (q := 15) C [1, 2, 3, 4, 0] [(0, .ref aH), (1, .int p1), (2, .int p2), (3, .ref (aO 0)), (4, .ref qa)] dL_round_13 (by decide) rfl rfl ?_
  refine x_iconst (q := 16) C dL_round_15 ki_1 rfl ?_
  exact xw_iret C dL_round_16 rfl rfl rfl (Nat.le_of_ble_eq_true rfl) (Nat.le_of_ble_eq_true rfl)
set_option maxHeartbeats 4000000 in
set_option maxRecDepth 100000 in
theorem wLt_round_2 {l : Launch} {D : va_G} {y : Nat → ClassId} {aH : Nat} {aG aN aF aT aO : Nat → Nat} {G N F T : St} {O : Nat → Int64} {p1 : Int32} {p2 : Int32} (hst : l.stackTraces = false) (hf : f2_round G N F T p1 p2 = some (.inl 2)) : xW l yL_round wsL_round 8 133 1 6 D (xT y) [.ref aH, .int p1, .int p2, .ref (aO 0)] (hW y aH aG aN aF aT G N F T ++ oC y aO O) 2 (hW y aH aG aN aF aT G N F T ++ oC y aO O) := by
  refine xW_of (cc := cL_round) (nL := 5) (ret := some .int) (hh := [(0, 10, 13, 21), (0, 10, 17, 15)]) [(0, .ref aH), (1, .int p1), (2, .int p2), (3, .ref (aO 0))] hst (by decide) rfl (Nat.le_of_ble_eq_true rfl) rfl ?_
  intro p e s m args below meth c A C hT hE
  have C : xC p s m args meth c D A cL_round RL 5 wsL_round (xT y) (some .int) := C
  refine x_aload_n (q := 1) C 3 dL_round_0 rfl rfl rfl ?_
  refine x_iconst (q := 2) C dL_round_1 ki_0 rfl ?_
  refine x_aload_n (q := 3) C 0 dL_round_2 rfl rfl rfl ?_
  refine x_iload_n (q := 4) C 1 dL_round_3 rfl rfl rfl ?_
  refine x_iload_n (q := 5) C 2 dL_round_4 rfl rfl rfl ?_
  refine x_callCVi (q := 17) (Wr := oC y aO O) C hT (c2_round (l := l) (D := D) (y := y) (aH := aH) (aG := aG) (aN := aN) (aF := aF) (aT := aT) (mc := 1) (ms := 6) hst (fun _ _ => ⟨Nat.le_refl _, Nat.le_refl _⟩) hf) rfl [⟨0, 10, 13, 21⟩] ⟨0, 10, 17, 15⟩ [] (hE.trans rfl) (fun z hz => by
    simp only [List.mem_cons, List.not_mem_nil, or_false] at hz
    rcases hz with rfl
    · exact ⟨by decide, _, cl_round_21, by decide⟩) (by decide) (by decide) cl_round_15 yi_X2_roundw gL_round_X2_round rfl ((oX2 aH aN aF aT aG).L) rfl ⟨(Nat.le_of_ble_eq_true rfl), (Nat.le_of_ble_eq_true rfl)⟩ dL_round_5 (List.Perm.refl _) rfl rfl (Nat.le_of_ble_eq_true rfl) ⟨(Nat.le_of_ble_eq_true rfl), (Nat.le_of_ble_eq_true rfl)⟩ rfl ?_
  intro qa
  refine x_astore (q := 19) C [1, 2, 3, 4, 0] [(0, .ref aH), (1, .int p1), (2, .int p2), (3, .ref (aO 0)), (4, .ref qa)] dL_round_17 (by decide) rfl rfl ?_
  refine x_iconst (q := 20) C dL_round_19 ki_2 rfl ?_
  exact xw_iret C dL_round_20 rfl rfl rfl (Nat.le_of_ble_eq_true rfl) (Nat.le_of_ble_eq_true rfl)
theorem yw_fill : (∃ ws', wsL_fill = Cond.codeWith yL_fill cL_fill 5 (some .int) [(0, 10, 13, 21), (0, 10, 17, 13)] :: ws') ∧ yL_fill.cls ≠ "java/lang/invoke/MethodHandle" ∧ yL_fill.cls ≠ "java/lang/invoke/VarHandle" ∧ (parseMethodDescriptor yL_fill.desc).map (fun d => d.parameters.length) = some 4 := ⟨⟨_, rfl⟩, by decide +kernel, by decide +kernel, by decide +kernel⟩
theorem yi_X2_fillw : xY yX2_fill wsX2_fill cX2_fill 3 (some .int) 2 := ⟨⟨_, rfl⟩, by decide +kernel, by decide +kernel, by decide +kernel⟩
theorem cl_fill_13 : Cond.classLink RL 13 "java/lang/IllegalArgumentException" ∈ wsL_fill := by decide +kernel
theorem cl_fill_21 : Cond.classLink RL 21 "java/lang/IndexOutOfBoundsException" ∈ wsL_fill := by decide +kernel
set_option maxHeartbeats 4000000 in
set_option maxRecDepth 100000 in
theorem wLr_fill {l : Launch} {D : va_G} {y : Nat → ClassId} {aH : Nat} {aG aN aF aT aO : Nat → Nat} {G N F T : St} {O : Nat → Int64} {p1 : Int32} {p2 : Int32} {r : Int32} {N' : St} (hst : l.stackTraces = false) (hf : f2_fill G N F T p1 p2 = some (.inr (r, N'))) : xW l yL_fill wsL_fill 8 134 1 6 D (xT y) [.ref aH, .int p1, .int p2, .ref (aO 0)] (hW y aH aG aN aF aT G N F T ++ oC y aO O) 0 (hW y aH aG aN aF aT G N' F T ++ oC y aO (vp_updL O (0 : Int32).toNatClampNeg r.toInt64)) := by
  refine xW_of (cc := cL_fill) (nL := 5) (ret := some .int) (hh := [(0, 10, 13, 21), (0, 10, 17, 13)]) [(0, .ref aH), (1, .int p1), (2, .int p2), (3, .ref (aO 0))] hst (by decide) rfl (Nat.le_of_ble_eq_true rfl) rfl ?_
  intro p e s m args below meth c A C hT hE
  have C : xC p s m args meth c D A cL_fill RL 5 wsL_fill (xT y) (some .int) := C
  refine x_aload_n (q := 1) C 3 dL_fill_0 rfl rfl rfl ?_
  refine x_iconst (q := 2) C dL_fill_1 ki_0 rfl ?_
  refine x_aload_n (q := 3) C 0 dL_fill_2 rfl rfl rfl ?_
  refine x_iload_n (q := 4) C 1 dL_fill_3 rfl rfl rfl ?_
  refine x_iload_n (q := 5) C 2 dL_fill_4 rfl rfl rfl ?_
  refine x_callRVi (q := 8) (Wr := oC y aO O) C hT (c2_fill (l := l) (D := D) (y := y) (aH := aH) (aG := aG) (aN := aN) (aF := aF) (aT := aT) (mc := 0) (ms := 0) hst (fun _ h => by cases h) hf) (fun _ h => by cases h) yi_X2_fillw gL_fill_X2_fill rfl ((oX2 aH aN aF aT aG).L) rfl ⟨(Nat.le_of_ble_eq_true rfl), (Nat.le_of_ble_eq_true rfl)⟩ dL_fill_5 (List.Perm.refl _) rfl rfl (Nat.le_of_ble_eq_true rfl) ⟨(Nat.le_of_ble_eq_true rfl), (Nat.le_of_ble_eq_true rfl)⟩ rfl ?_
  intro rr u hrr
  obtain ⟨e1, e2⟩ := Prod.mk.inj (Sum.inr.inj hrr)
  subst e1
  subst e2
  refine x_world (ws' := hW y aH aG aN aF aT G N' F T ++ oC y aO O) rfl ?_
  refine x_i2l (q := 9) C dL_fill_8 rfl ?_
  refine x_last (q := 10) (ws' := hW y aH aG aN aF aT G N' F T ++ oC y aO (vp_updL O (0 : Int32).toNatClampNeg r.toInt64)) C 3 dL_fill_9 ((oA y aO O).R) rfl (by decide) rfl rfl ?_
  refine x_goto (t := 21) C dL_fill_10 (by decide) ?_
  refine x_iconst (q := 22) C dL_fill_21 ki_0 rfl ?_
  exact xw_iret C dL_fill_22 rfl rfl rfl (Nat.le_of_ble_eq_true rfl) (Nat.le_of_ble_eq_true rfl)
set_option maxHeartbeats 4000000 in
set_option maxRecDepth 100000 in
theorem wLt_fill_3 {l : Launch} {D : va_G} {y : Nat → ClassId} {aH : Nat} {aG aN aF aT aO : Nat → Nat} {G N F T : St} {O : Nat → Int64} {p1 : Int32} {p2 : Int32} (hst : l.stackTraces = false) (hf : f2_fill G N F T p1 p2 = some (.inl 3)) : xW l yL_fill wsL_fill 8 134 1 6 D (xT y) [.ref aH, .int p1, .int p2, .ref (aO 0)] (hW y aH aG aN aF aT G N F T ++ oC y aO O) 1 (hW y aH aG aN aF aT G N F T ++ oC y aO O) := by
  refine xW_of (cc := cL_fill) (nL := 5) (ret := some .int) (hh := [(0, 10, 13, 21), (0, 10, 17, 13)]) [(0, .ref aH), (1, .int p1), (2, .int p2), (3, .ref (aO 0))] hst (by decide) rfl (Nat.le_of_ble_eq_true rfl) rfl ?_
  intro p e s m args below meth c A C hT hE
  have C : xC p s m args meth c D A cL_fill RL 5 wsL_fill (xT y) (some .int) := C
  refine x_aload_n (q := 1) C 3 dL_fill_0 rfl rfl rfl ?_
  refine x_iconst (q := 2) C dL_fill_1 ki_0 rfl ?_
  refine x_aload_n (q := 3) C 0 dL_fill_2 rfl rfl rfl ?_
  refine x_iload_n (q := 4) C 1 dL_fill_3 rfl rfl rfl ?_
  refine x_iload_n (q := 5) C 2 dL_fill_4 rfl rfl rfl ?_
  refine x_callCVi (q := 13) (Wr := oC y aO O) C hT (c2_fill (l := l) (D := D) (y := y) (aH := aH) (aG := aG) (aN := aN) (aF := aF) (aT := aT) (mc := 1) (ms := 6) hst (fun _ _ => ⟨Nat.le_refl _, Nat.le_refl _⟩) hf) rfl [] ⟨0, 10, 13, 21⟩ [⟨0, 10, 17, 13⟩] (hE.trans rfl) (fun z hz => nomatch hz) (by decide) (by decide) cl_fill_21 yi_X2_fillw gL_fill_X2_fill rfl ((oX2 aH aN aF aT aG).L) rfl ⟨(Nat.le_of_ble_eq_true rfl), (Nat.le_of_ble_eq_true rfl)⟩ dL_fill_5 (List.Perm.refl _) rfl rfl (Nat.le_of_ble_eq_true rfl) ⟨(Nat.le_of_ble_eq_true rfl), (Nat.le_of_ble_eq_true rfl)⟩ rfl ?_
  intro qa
  refine x_astore (q := 15) C [1, 2, 3, 4, 0] [(0, .ref aH), (1, .int p1), (2, .int p2), (3, .ref (aO 0)), (4, .ref qa)] dL_fill_13 (by decide) rfl rfl ?_
  refine x_iconst (q := 16) C dL_fill_15 ki_1 rfl ?_
  exact xw_iret C dL_fill_16 rfl rfl rfl (Nat.le_of_ble_eq_true rfl) (Nat.le_of_ble_eq_true rfl)
set_option maxHeartbeats 4000000 in
set_option maxRecDepth 100000 in
theorem wLt_fill_1 {l : Launch} {D : va_G} {y : Nat → ClassId} {aH : Nat} {aG aN aF aT aO : Nat → Nat} {G N F T : St} {O : Nat → Int64} {p1 : Int32} {p2 : Int32} (hst : l.stackTraces = false) (hf : f2_fill G N F T p1 p2 = some (.inl 1)) : xW l yL_fill wsL_fill 8 134 1 6 D (xT y) [.ref aH, .int p1, .int p2, .ref (aO 0)] (hW y aH aG aN aF aT G N F T ++ oC y aO O) 2 (hW y aH aG aN aF aT G N F T ++ oC y aO O) := by
  refine xW_of (cc := cL_fill) (nL := 5) (ret := some .int) (hh := [(0, 10, 13, 21), (0, 10, 17, 13)]) [(0, .ref aH), (1, .int p1), (2, .int p2), (3, .ref (aO 0))] hst (by decide) rfl (Nat.le_of_ble_eq_true rfl) rfl ?_
  intro p e s m args below meth c A C hT hE
  have C : xC p s m args meth c D A cL_fill RL 5 wsL_fill (xT y) (some .int) := C
  refine x_aload_n (q := 1) C 3 dL_fill_0 rfl rfl rfl ?_
  refine x_iconst (q := 2) C dL_fill_1 ki_0 rfl ?_
  refine x_aload_n (q := 3) C 0 dL_fill_2 rfl rfl rfl ?_
  refine x_iload_n (q := 4) C 1 dL_fill_3 rfl rfl rfl ?_
  refine x_iload_n (q := 5) C 2 dL_fill_4 rfl rfl rfl ?_
  refine x_callCVi (q := 17) (Wr := oC y aO O) C hT (c2_fill (l := l) (D := D) (y := y) (aH := aH) (aG := aG) (aN := aN) (aF := aF) (aT := aT) (mc := 1) (ms := 6) hst (fun _ _ => ⟨Nat.le_refl _, Nat.le_refl _⟩) hf) rfl [⟨0, 10, 13, 21⟩] ⟨0, 10, 17, 13⟩ [] (hE.trans rfl) (fun z hz => by
    simp only [List.mem_cons, List.not_mem_nil, or_false] at hz
    rcases hz with rfl
    · exact ⟨by decide, _, cl_fill_21, by decide⟩) (by decide) (by decide) cl_fill_13 yi_X2_fillw gL_fill_X2_fill rfl ((oX2 aH aN aF aT aG).L) rfl ⟨(Nat.le_of_ble_eq_true rfl), (Nat.le_of_ble_eq_true rfl)⟩ dL_fill_5 (List.Perm.refl _) rfl rfl (Nat.le_of_ble_eq_true rfl) ⟨(Nat.le_of_ble_eq_true rfl), (Nat.le_of_ble_eq_true rfl)⟩ rfl ?_
  intro qa
  refine x_astore (q := 19) C [1, 2, 3, 4, 0] [(0, .ref aH), (1, .int p1), (2, .int p2), (3, .ref (aO 0)), (4, .ref qa)] dL_fill_17 (by decide) rfl rfl ?_
  refine x_iconst (q := 20) C dL_fill_19 ki_2 rfl ?_
  exact xw_iret C dL_fill_20 rfl rfl rfl (Nat.le_of_ble_eq_true rfl) (Nat.le_of_ble_eq_true rfl)
theorem yw_way : (∃ ws', wsL_way = Cond.codeWith yL_way cL_way 5 (some .int) [(0, 10, 13, 21)] :: ws') ∧ yL_way.cls ≠ "java/lang/invoke/MethodHandle" ∧ yL_way.cls ≠ "java/lang/invoke/VarHandle" ∧ (parseMethodDescriptor yL_way.desc).map (fun d => d.parameters.length) = some 4 := ⟨⟨_, rfl⟩, by decide +kernel, by decide +kernel, by decide +kernel⟩
theorem yi_X2_wayw : xY yX2_way wsX2_way cX2_way 4 (some .int) 2 := ⟨⟨_, rfl⟩, by decide +kernel, by decide +kernel, by decide +kernel⟩
theorem cl_way_21 : Cond.classLink RL 21 "java/lang/IndexOutOfBoundsException" ∈ wsL_way := by decide +kernel
set_option maxHeartbeats 4000000 in
set_option maxRecDepth 100000 in
theorem wLr_way {l : Launch} {D : va_G} {y : Nat → ClassId} {aH : Nat} {aG aN aF aT aO : Nat → Nat} {G N F T : St} {O : Nat → Int64} {p1 : Int32} {p2 : Int32} {r : Int32} (hst : l.stackTraces = false) (hf : f2_way G N F T p1 p2 = some (.inr r)) : xW l yL_way wsL_way 8 134 1 6 D (xT y) [.ref aH, .int p1, .int p2, .ref (aO 0)] (hW y aH aG aN aF aT G N F T ++ oC y aO O) 0 (hW y aH aG aN aF aT G N F T ++ oC y aO (vp_updL O (0 : Int32).toNatClampNeg r.toInt64)) := by
  refine xW_of (cc := cL_way) (nL := 5) (ret := some .int) (hh := [(0, 10, 13, 21)]) [(0, .ref aH), (1, .int p1), (2, .int p2), (3, .ref (aO 0))] hst (by decide) rfl (Nat.le_of_ble_eq_true rfl) rfl ?_
  intro p e s m args below meth c A C hT hE
  have C : xC p s m args meth c D A cL_way RL 5 wsL_way (xT y) (some .int) := C
  refine x_aload_n (q := 1) C 3 dL_way_0 rfl rfl rfl ?_
  refine x_iconst (q := 2) C dL_way_1 ki_0 rfl ?_
  refine x_aload_n (q := 3) C 0 dL_way_2 rfl rfl rfl ?_
  refine x_iload_n (q := 4) C 1 dL_way_3 rfl rfl rfl ?_
  refine x_iload_n (q := 5) C 2 dL_way_4 rfl rfl rfl ?_
  refine x_callRVi (q := 8) (Wr := oC y aO O) C hT (c2_way (l := l) (D := D) (y := y) (aH := aH) (aG := aG) (aN := aN) (aF := aF) (aT := aT) (mc := 0) (ms := 0) hst (fun _ h => by cases h) hf) (fun _ h => by cases h) yi_X2_wayw gL_way_X2_way rfl ((oX2 aH aN aF aT aG).L) rfl ⟨(Nat.le_of_ble_eq_true rfl), (Nat.le_of_ble_eq_true rfl)⟩ dL_way_5 (List.Perm.refl _) rfl rfl (Nat.le_of_ble_eq_true rfl) ⟨(Nat.le_of_ble_eq_true rfl), (Nat.le_of_ble_eq_true rfl)⟩ rfl ?_
  intro rr u hrr
  have e1 : r = rr := Sum.inr.inj hrr
  subst e1
  refine x_world (ws' := hW y aH aG aN aF aT G N F T ++ oC y aO O) rfl ?_
  refine x_i2l (q := 9) C dL_way_8 rfl ?_
  refine x_last (q := 10) (ws' := hW y aH aG aN aF aT G N F T ++ oC y aO (vp_updL O (0 : Int32).toNatClampNeg r.toInt64)) C 3 dL_way_9 ((oA y aO O).R) rfl (by decide) rfl rfl ?_
  refine x_goto (t := 17) C dL_way_10 (by decide) ?_
  refine x_iconst (q := 18) C dL_way_17 ki_0 rfl ?_
  exact xw_iret C dL_way_18 rfl rfl rfl (Nat.le_of_ble_eq_true rfl) (Nat.le_of_ble_eq_true rfl)
set_option maxHeartbeats 4000000 in
set_option maxRecDepth 100000 in
theorem wLt_way_3 {l : Launch} {D : va_G} {y : Nat → ClassId} {aH : Nat} {aG aN aF aT aO : Nat → Nat} {G N F T : St} {O : Nat → Int64} {p1 : Int32} {p2 : Int32} (hst : l.stackTraces = false) (hf : f2_way G N F T p1 p2 = some (.inl 3)) : xW l yL_way wsL_way 8 134 1 6 D (xT y) [.ref aH, .int p1, .int p2, .ref (aO 0)] (hW y aH aG aN aF aT G N F T ++ oC y aO O) 1 (hW y aH aG aN aF aT G N F T ++ oC y aO O) := by
  refine xW_of (cc := cL_way) (nL := 5) (ret := some .int) (hh := [(0, 10, 13, 21)]) [(0, .ref aH), (1, .int p1), (2, .int p2), (3, .ref (aO 0))] hst (by decide) rfl (Nat.le_of_ble_eq_true rfl) rfl ?_
  intro p e s m args below meth c A C hT hE
  have C : xC p s m args meth c D A cL_way RL 5 wsL_way (xT y) (some .int) := C
  refine x_aload_n (q := 1) C 3 dL_way_0 rfl rfl rfl ?_
  refine x_iconst (q := 2) C dL_way_1 ki_0 rfl ?_
  refine x_aload_n (q := 3) C 0 dL_way_2 rfl rfl rfl ?_
  refine x_iload_n (q := 4) C 1 dL_way_3 rfl rfl rfl ?_
  refine x_iload_n (q := 5) C 2 dL_way_4 rfl rfl rfl ?_
  refine x_callCVi (q := 13) (Wr := oC y aO O) C hT (c2_way (l := l) (D := D) (y := y) (aH := aH) (aG := aG) (aN := aN) (aF := aF) (aT := aT) (mc := 1) (ms := 6) hst (fun _ _ => ⟨Nat.le_refl _, Nat.le_refl _⟩) hf) rfl [] ⟨0, 10, 13, 21⟩ [] (hE.trans rfl) (fun z hz => nomatch hz) (by decide) (by decide) cl_way_21 yi_X2_wayw gL_way_X2_way rfl ((oX2 aH aN aF aT aG).L) rfl ⟨(Nat.le_of_ble_eq_true rfl), (Nat.le_of_ble_eq_true rfl)⟩ dL_way_5 (List.Perm.refl _) rfl rfl (Nat.le_of_ble_eq_true rfl) ⟨(Nat.le_of_ble_eq_true rfl), (Nat.le_of_ble_eq_true rfl)⟩ rfl ?_
  intro qa
  refine x_astore (q := 15) C [1, 2, 3, 4, 0] [(0, .ref aH), (1, .int p1), (2, .int p2), (3, .ref (aO 0)), (4, .ref qa)] dL_way_13 (by decide) rfl rfl ?_
  refine x_iconst (q := 16) C dL_way_15 ki_1 rfl ?_
  exact xw_iret C dL_way_16 rfl rfl rfl (Nat.le_of_ble_eq_true rfl) (Nat.le_of_ble_eq_true rfl)
theorem yw_told : (∃ ws', wsL_told = Cond.codeWith yL_told cL_told 5 (some .int) [(0, 10, 13, 21)] :: ws') ∧ yL_told.cls ≠ "java/lang/invoke/MethodHandle" ∧ yL_told.cls ≠ "java/lang/invoke/VarHandle" ∧ (parseMethodDescriptor yL_told.desc).map (fun d => d.parameters.length) = some 4 := ⟨⟨_, rfl⟩, by decide +kernel, by decide +kernel, by decide +kernel⟩
theorem cl_told_21 : Cond.classLink RL 21 "java/lang/IndexOutOfBoundsException" ∈ wsL_told := by decide +kernel
set_option maxHeartbeats 4000000 in
set_option maxRecDepth 100000 in
theorem wLr_told {l : Launch} {D : va_G} {y : Nat → ClassId} {aH : Nat} {aG aN aF aT aO : Nat → Nat} {G N F T : St} {O : Nat → Int64} {p1 : Int32} {p2 : Int32} {r : Int32} (hst : l.stackTraces = false) (hf : f2_told G N F T p1 p2 = some (.inr r)) : xW l yL_told wsL_told 8 133 1 6 D (xT y) [.ref aH, .int p1, .int p2, .ref (aO 0)] (hW y aH aG aN aF aT G N F T ++ oC y aO O) 0 (hW y aH aG aN aF aT G N F T ++ oC y aO (vp_updL O (0 : Int32).toNatClampNeg r.toInt64)) := by
  refine xW_of (cc := cL_told) (nL := 5) (ret := some .int) (hh := [(0, 10, 13, 21)]) [(0, .ref aH), (1, .int p1), (2, .int p2), (3, .ref (aO 0))] hst (by decide) rfl (Nat.le_of_ble_eq_true rfl) rfl ?_
  intro p e s m args below meth c A C hT hE
  have C : xC p s m args meth c D A cL_told RL 5 wsL_told (xT y) (some .int) := C
  refine x_aload_n (q := 1) C 3 dL_told_0 rfl rfl rfl ?_
  refine x_iconst (q := 2) C dL_told_1 ki_0 rfl ?_
  refine x_aload_n (q := 3) C 0 dL_told_2 rfl rfl rfl ?_
  refine x_iload_n (q := 4) C 1 dL_told_3 rfl rfl rfl ?_
  refine x_iload_n (q := 5) C 2 dL_told_4 rfl rfl rfl ?_
  refine x_callRVi (q := 8) (Wr := oC y aO O) C hT (c2_told (l := l) (D := D) (y := y) (aH := aH) (aG := aG) (aN := aN) (aF := aF) (aT := aT) (mc := 0) (ms := 0) hst (fun _ h => by cases h) hf) (fun _ h => by cases h) yi_X2_told gL_told_X2_told rfl ((oX2 aH aN aF aT aG).L) rfl ⟨(Nat.le_of_ble_eq_true rfl), (Nat.le_of_ble_eq_true rfl)⟩ dL_told_5 (List.Perm.refl _) rfl rfl (Nat.le_of_ble_eq_true rfl) ⟨(Nat.le_of_ble_eq_true rfl), (Nat.le_of_ble_eq_true rfl)⟩ rfl ?_
  intro rr u hrr
  have e1 : r = rr := Sum.inr.inj hrr
  subst e1
  refine x_world (ws' := hW y aH aG aN aF aT G N F T ++ oC y aO O) rfl ?_
  refine x_i2l (q := 9) C dL_told_8 rfl ?_
  refine x_last (q := 10) (ws' := hW y aH aG aN aF aT G N F T ++ oC y aO (vp_updL O (0 : Int32).toNatClampNeg r.toInt64)) C 3 dL_told_9 ((oA y aO O).R) rfl (by decide) rfl rfl ?_
  refine x_goto (t := 17) C dL_told_10 (by decide) ?_
  refine x_iconst (q := 18) C dL_told_17 ki_0 rfl ?_
  exact xw_iret C dL_told_18 rfl rfl rfl (Nat.le_of_ble_eq_true rfl) (Nat.le_of_ble_eq_true rfl)
set_option maxHeartbeats 4000000 in
set_option maxRecDepth 100000 in
theorem wLt_told_3 {l : Launch} {D : va_G} {y : Nat → ClassId} {aH : Nat} {aG aN aF aT aO : Nat → Nat} {G N F T : St} {O : Nat → Int64} {p1 : Int32} {p2 : Int32} (hst : l.stackTraces = false) (hf : f2_told G N F T p1 p2 = some (.inl 3)) : xW l yL_told wsL_told 8 133 1 6 D (xT y) [.ref aH, .int p1, .int p2, .ref (aO 0)] (hW y aH aG aN aF aT G N F T ++ oC y aO O) 1 (hW y aH aG aN aF aT G N F T ++ oC y aO O) := by
  refine xW_of (cc := cL_told) (nL := 5) (ret := some .int) (hh := [(0, 10, 13, 21)]) [(0, .ref aH), (1, .int p1), (2, .int p2), (3, .ref (aO 0))] hst (by decide) rfl (Nat.le_of_ble_eq_true rfl) rfl ?_
  intro p e s m args below meth c A C hT hE
  have C : xC p s m args meth c D A cL_told RL 5 wsL_told (xT y) (some .int) := C
  refine x_aload_n (q := 1) C 3 dL_told_0 rfl rfl rfl ?_
  refine x_iconst (q := 2) C dL_told_1 ki_0 rfl ?_
  refine x_aload_n (q := 3) C 0 dL_told_2 rfl rfl rfl ?_
  refine x_iload_n (q := 4) C 1 dL_told_3 rfl rfl rfl ?_
  refine x_iload_n (q := 5) C 2 dL_told_4 rfl rfl rfl ?_
  refine x_callCVi (q := 13) (Wr := oC y aO O) C hT (c2_told (l := l) (D := D) (y := y) (aH := aH) (aG := aG) (aN := aN) (aF := aF) (aT := aT) (mc := 1) (ms := 6) hst (fun _ _ => ⟨Nat.le_refl _, Nat.le_refl _⟩) hf) rfl [] ⟨0, 10, 13, 21⟩ [] (hE.trans rfl) (fun z hz => nomatch hz) (by decide) (by decide) cl_told_21 yi_X2_told gL_told_X2_told rfl ((oX2 aH aN aF aT aG).L) rfl ⟨(Nat.le_of_ble_eq_true rfl), (Nat.le_of_ble_eq_true rfl)⟩ dL_told_5 (List.Perm.refl _) rfl rfl (Nat.le_of_ble_eq_true rfl) ⟨(Nat.le_of_ble_eq_true rfl), (Nat.le_of_ble_eq_true rfl)⟩ rfl ?_
  intro qa
  refine x_astore (q := 15) C [1, 2, 3, 4, 0] [(0, .ref aH), (1, .int p1), (2, .int p2), (3, .ref (aO 0)), (4, .ref qa)] dL_told_13 (by decide) rfl rfl ?_
  refine x_iconst (q := 16) C dL_told_15 ki_1 rfl ?_
  exact xw_iret C dL_told_16 rfl rfl rfl (Nat.le_of_ble_eq_true rfl) (Nat.le_of_ble_eq_true rfl)
theorem yw_lighter : (∃ ws', wsL_lighter = Cond.codeWith yL_lighter cL_lighter 5 (some .int) [(0, 10, 13, 21)] :: ws') ∧ yL_lighter.cls ≠ "java/lang/invoke/MethodHandle" ∧ yL_lighter.cls ≠ "java/lang/invoke/VarHandle" ∧ (parseMethodDescriptor yL_lighter.desc).map (fun d => d.parameters.length) = some 4 := ⟨⟨_, rfl⟩, by decide +kernel, by decide +kernel, by decide +kernel⟩
theorem cl_lighter_21 : Cond.classLink RL 21 "java/lang/IndexOutOfBoundsException" ∈ wsL_lighter := by decide +kernel
set_option maxHeartbeats 4000000 in
set_option maxRecDepth 100000 in
theorem wLr_lighter {l : Launch} {D : va_G} {y : Nat → ClassId} {aH : Nat} {aG aN aF aT aO : Nat → Nat} {G N F T : St} {O : Nat → Int64} {p1 : Int32} {p2 : Int32} {r : Int32} (hst : l.stackTraces = false) (hf : f2_lighter G N F T p1 p2 = some (.inr r)) : xW l yL_lighter wsL_lighter 8 133 1 6 D (xT y) [.ref aH, .int p1, .int p2, .ref (aO 0)] (hW y aH aG aN aF aT G N F T ++ oC y aO O) 0 (hW y aH aG aN aF aT G N F T ++ oC y aO (vp_updL O (0 : Int32).toNatClampNeg r.toInt64)) := by
  refine xW_of (cc := cL_lighter) (nL := 5) (ret := some .int) (hh := [(0, 10, 13, 21)]) [(0, .ref aH), (1, .int p1), (2, .int p2), (3, .ref (aO 0))] hst (by decide) rfl (Nat.le_of_ble_eq_true rfl) rfl ?_
  intro p e s m args below meth c A C hT hE
  have C : xC p s m args meth c D A cL_lighter RL 5 wsL_lighter (xT y) (some .int) := C
  refine x_aload_n (q := 1) C 3 dL_lighter_0 rfl rfl rfl ?_
  refine x_iconst (q := 2) C dL_lighter_1 ki_0 rfl ?_
  refine x_aload_n (q := 3) C 0 dL_lighter_2 rfl rfl rfl ?_
  refine x_iload_n (q := 4) C 1 dL_lighter_3 rfl rfl rfl ?_
  refine x_iload_n (q := 5) C 2 dL_lighter_4 rfl rfl rfl ?_
  refine x_callRVi (q := 8) (Wr := oC y aO O) C hT (c2_lighter (l := l) (D := D) (y := y) (aH := aH) (aG := aG) (aN := aN) (aF := aF) (aT := aT) (mc := 0) (ms := 0) hst (fun _ h => by cases h) hf) (fun _ h => by cases h) yi_X2_lighter gL_lighter_X2_lighter rfl ((oX2 aH aN aF aT aG).L) rfl ⟨(Nat.le_of_ble_eq_true rfl), (Nat.le_of_ble_eq_true rfl)⟩ dL_lighter_5 (List.Perm.refl _) rfl rfl (Nat.le_of_ble_eq_true rfl) ⟨(Nat.le_of_ble_eq_true rfl), (Nat.le_of_ble_eq_true rfl)⟩ rfl ?_
  intro rr u hrr
  have e1 : r = rr := Sum.inr.inj hrr
  subst e1
  refine x_world (ws' := hW y aH aG aN aF aT G N F T ++ oC y aO O) rfl ?_
  refine x_i2l (q := 9) C dL_lighter_8 rfl ?_
  refine x_last (q := 10) (ws' := hW y aH aG aN aF aT G N F T ++ oC y aO (vp_updL O (0 : Int32).toNatClampNeg r.toInt64)) C 3 dL_lighter_9 ((oA y aO O).R) rfl (by decide) rfl rfl ?_
  refine x_goto (t := 17) C dL_lighter_10 (by decide) ?_
  refine x_iconst (q := 18) C dL_lighter_17 ki_0 rfl ?_
  exact xw_iret C dL_lighter_18 rfl rfl rfl (Nat.le_of_ble_eq_true rfl) (Nat.le_of_ble_eq_true rfl)
set_option maxHeartbeats 4000000 in
set_option maxRecDepth 100000 in
theorem wLt_lighter_3 {l : Launch} {D : va_G} {y : Nat → ClassId} {aH : Nat} {aG aN aF aT aO : Nat → Nat} {G N F T : St} {O : Nat → Int64} {p1 : Int32} {p2 : Int32} (hst : l.stackTraces = false) (hf : f2_lighter G N F T p1 p2 = some (.inl 3)) : xW l yL_lighter wsL_lighter 8 133 1 6 D (xT y) [.ref aH, .int p1, .int p2, .ref (aO 0)] (hW y aH aG aN aF aT G N F T ++ oC y aO O) 1 (hW y aH aG aN aF aT G N F T ++ oC y aO O) := by
  refine xW_of (cc := cL_lighter) (nL := 5) (ret := some .int) (hh := [(0, 10, 13, 21)]) [(0, .ref aH), (1, .int p1), (2, .int p2), (3, .ref (aO 0))] hst (by decide) rfl (Nat.le_of_ble_eq_true rfl) rfl ?_
  intro p e s m args below meth c A C hT hE
  have C : xC p s m args meth c D A cL_lighter RL 5 wsL_lighter (xT y) (some .int) := C
  refine x_aload_n (q := 1) C 3 dL_lighter_0 rfl rfl rfl ?_
  refine x_iconst (q := 2) C dL_lighter_1 ki_0 rfl ?_
  refine x_aload_n (q := 3) C 0 dL_lighter_2 rfl rfl rfl ?_
  refine x_iload_n (q := 4) C 1 dL_lighter_3 rfl rfl rfl ?_
  refine x_iload_n (q := 5) C 2 dL_lighter_4 rfl rfl rfl ?_
  refine x_callCVi (q := 13) (Wr := oC y aO O) C hT (c2_lighter (l := l) (D := D) (y := y) (aH := aH) (aG := aG) (aN := aN) (aF := aF) (aT := aT) (mc := 1) (ms := 6) hst (fun _ _ => ⟨Nat.le_refl _, Nat.le_refl _⟩) hf) rfl [] ⟨0, 10, 13, 21⟩ [] (hE.trans rfl) (fun z hz => nomatch hz) (by decide) (by decide) cl_lighter_21 yi_X2_lighter gL_lighter_X2_lighter rfl ((oX2 aH aN aF aT aG).L) rfl ⟨(Nat.le_of_ble_eq_true rfl), (Nat.le_of_ble_eq_true rfl)⟩ dL_lighter_5 (List.Perm.refl _) rfl rfl (Nat.le_of_ble_eq_true rfl) ⟨(Nat.le_of_ble_eq_true rfl), (Nat.le_of_ble_eq_true rfl)⟩ rfl ?_
  intro qa
  refine x_astore (q := 15) C [1, 2, 3, 4, 0] [(0, .ref aH), (1, .int p1), (2, .int p2), (3, .ref (aO 0)), (4, .ref qa)] dL_lighter_13 (by decide) rfl rfl ?_
  refine x_iconst (q := 16) C dL_lighter_15 ki_1 rfl ?_
  exact xw_iret C dL_lighter_16 rfl rfl rfl (Nat.le_of_ble_eq_true rfl) (Nat.le_of_ble_eq_true rfl)
theorem yw_burning : (∃ ws', wsL_burning = Cond.codeWith yL_burning cL_burning 4 (some .int) [(0, 9, 12, 21)] :: ws') ∧ yL_burning.cls ≠ "java/lang/invoke/MethodHandle" ∧ yL_burning.cls ≠ "java/lang/invoke/VarHandle" ∧ (parseMethodDescriptor yL_burning.desc).map (fun d => d.parameters.length) = some 3 := ⟨⟨_, rfl⟩, by decide +kernel, by decide +kernel, by decide +kernel⟩
theorem cl_burning_21 : Cond.classLink RL 21 "java/lang/IndexOutOfBoundsException" ∈ wsL_burning := by decide +kernel
set_option maxHeartbeats 4000000 in
set_option maxRecDepth 100000 in
theorem wLr_burning {l : Launch} {D : va_G} {y : Nat → ClassId} {aH : Nat} {aG aN aF aT aO : Nat → Nat} {G N F T : St} {O : Nat → Int64} {p1 : Int32} {r : Int32} (hst : l.stackTraces = false) (hf : f2_burning G N F T p1 = some (.inr r)) : xW l yL_burning wsL_burning 8 132 1 6 D (xT y) [.ref aH, .int p1, .ref (aO 0)] (hW y aH aG aN aF aT G N F T ++ oC y aO O) 0 (hW y aH aG aN aF aT G N F T ++ oC y aO (vp_updL O (0 : Int32).toNatClampNeg r.toInt64)) := by
  refine xW_of (cc := cL_burning) (nL := 4) (ret := some .int) (hh := [(0, 9, 12, 21)]) [(0, .ref aH), (1, .int p1), (2, .ref (aO 0))] hst (by decide) rfl (Nat.le_of_ble_eq_true rfl) rfl ?_
  intro p e s m args below meth c A C hT hE
  have C : xC p s m args meth c D A cL_burning RL 4 wsL_burning (xT y) (some .int) := C
  refine x_aload_n (q := 1) C 2 dL_burning_0 rfl rfl rfl ?_
  refine x_iconst (q := 2) C dL_burning_1 ki_0 rfl ?_
  refine x_aload_n (q := 3) C 0 dL_burning_2 rfl rfl rfl ?_
  refine x_iload_n (q := 4) C 1 dL_burning_3 rfl rfl rfl ?_
  refine x_callRVi (q := 7) (Wr := oC y aO O) C hT (c2_burning (l := l) (D := D) (y := y) (aH := aH) (aG := aG) (aN := aN) (aF := aF) (aT := aT) (mc := 0) (ms := 0) hst (fun _ h => by cases h) hf) (fun _ h => by cases h) yi_X2_burning gL_burning_X2_burning rfl ((oX2 aH aN aF aT aG).L) rfl ⟨(Nat.le_of_ble_eq_true rfl), (Nat.le_of_ble_eq_true rfl)⟩ dL_burning_4 (List.Perm.refl _) rfl rfl (Nat.le_of_ble_eq_true rfl) ⟨(Nat.le_of_ble_eq_true rfl), (Nat.le_of_ble_eq_true rfl)⟩ rfl ?_
  intro rr u hrr
  have e1 : r = rr := Sum.inr.inj hrr
  subst e1
  refine x_world (ws' := hW y aH aG aN aF aT G N F T ++ oC y aO O) rfl ?_
  refine x_i2l (q := 8) C dL_burning_7 rfl ?_
  refine x_last (q := 9) (ws' := hW y aH aG aN aF aT G N F T ++ oC y aO (vp_updL O (0 : Int32).toNatClampNeg r.toInt64)) C 3 dL_burning_8 ((oA y aO O).R) rfl (by decide) rfl rfl ?_
  refine x_goto (t := 15) C dL_burning_9 (by decide) ?_
  refine x_iconst (q := 16) C dL_burning_15 ki_0 rfl ?_
  exact xw_iret C dL_burning_16 rfl rfl rfl (Nat.le_of_ble_eq_true rfl) (Nat.le_of_ble_eq_true rfl)
set_option maxHeartbeats 4000000 in
set_option maxRecDepth 100000 in
theorem wLt_burning_3 {l : Launch} {D : va_G} {y : Nat → ClassId} {aH : Nat} {aG aN aF aT aO : Nat → Nat} {G N F T : St} {O : Nat → Int64} {p1 : Int32} (hst : l.stackTraces = false) (hf : f2_burning G N F T p1 = some (.inl 3)) : xW l yL_burning wsL_burning 8 132 1 6 D (xT y) [.ref aH, .int p1, .ref (aO 0)] (hW y aH aG aN aF aT G N F T ++ oC y aO O) 1 (hW y aH aG aN aF aT G N F T ++ oC y aO O) := by
  refine xW_of (cc := cL_burning) (nL := 4) (ret := some .int) (hh := [(0, 9, 12, 21)]) [(0, .ref aH), (1, .int p1), (2, .ref (aO 0))] hst (by decide) rfl (Nat.le_of_ble_eq_true rfl) rfl ?_
  intro p e s m args below meth c A C hT hE
  have C : xC p s m args meth c D A cL_burning RL 4 wsL_burning (xT y) (some .int) := C
  refine x_aload_n (q := 1) C 2 dL_burning_0 rfl rfl rfl ?_
  refine x_iconst (q := 2) C dL_burning_1 ki_0 rfl ?_
  refine x_aload_n (q := 3) C 0 dL_burning_2 rfl rfl rfl ?_
  refine x_iload_n (q := 4) C 1 dL_burning_3 rfl rfl rfl ?_
  refine x_callCVi (q := 12) (Wr := oC y aO O) C hT (c2_burning (l := l) (D := D) (y := y) (aH := aH) (aG := aG) (aN := aN) (aF := aF) (aT := aT) (mc := 1) (ms := 6) hst (fun _ _ => ⟨Nat.le_refl _, Nat.le_refl _⟩) hf) rfl [] ⟨0, 9, 12, 21⟩ [] (hE.trans rfl) (fun z hz => nomatch hz) (by decide) (by decide) cl_burning_21 yi_X2_burning gL_burning_X2_burning rfl ((oX2 aH aN aF aT aG).L) rfl ⟨(Nat.le_of_ble_eq_true rfl), (Nat.le_of_ble_eq_true rfl)⟩ dL_burning_4 (List.Perm.refl _) rfl rfl (Nat.le_of_ble_eq_true rfl) ⟨(Nat.le_of_ble_eq_true rfl), (Nat.le_of_ble_eq_true rfl)⟩ rfl ?_
  intro qa
  refine x_astore_n (q := 13) C [1, 2, 3, 0] [(0, .ref aH), (1, .int p1), (2, .ref (aO 0)), (3, .ref qa)] dL_burning_12 rfl (by decide) rfl rfl ?_
  refine x_iconst (q := 14) C dL_burning_13 ki_1 rfl ?_
  exact xw_iret C dL_burning_14 rfl rfl rfl (Nat.le_of_ble_eq_true rfl) (Nat.le_of_ble_eq_true rfl)
theorem yw_count : (∃ ws', wsL_count = Cond.codeWith yL_count cL_count 4 (some .int) [(0, 9, 12, 21)] :: ws') ∧ yL_count.cls ≠ "java/lang/invoke/MethodHandle" ∧ yL_count.cls ≠ "java/lang/invoke/VarHandle" ∧ (parseMethodDescriptor yL_count.desc).map (fun d => d.parameters.length) = some 3 := ⟨⟨_, rfl⟩, by decide +kernel, by decide +kernel, by decide +kernel⟩
theorem cl_count_21 : Cond.classLink RL 21 "java/lang/IndexOutOfBoundsException" ∈ wsL_count := by decide +kernel
set_option maxHeartbeats 4000000 in
set_option maxRecDepth 100000 in
theorem wLr_count {l : Launch} {D : va_G} {y : Nat → ClassId} {aH : Nat} {aG aN aF aT aO : Nat → Nat} {G N F T : St} {O : Nat → Int64} {p1 : Int32} {r : Int32} (hst : l.stackTraces = false) (hf : f2_count G N F T p1 = some (.inr r)) : xW l yL_count wsL_count 8 132 1 6 D (xT y) [.ref aH, .int p1, .ref (aO 0)] (hW y aH aG aN aF aT G N F T ++ oC y aO O) 0 (hW y aH aG aN aF aT G N F T ++ oC y aO (vp_updL O (0 : Int32).toNatClampNeg r.toInt64)) := by
  refine xW_of (cc := cL_count) (nL := 4) (ret := some .int) (hh := [(0, 9, 12, 21)]) [(0, .ref aH), (1, .int p1), (2, .ref (aO 0))] hst (by decide) rfl (Nat.le_of_ble_eq_true rfl) rfl ?_
  intro p e s m args below meth c A C hT hE
  have C : xC p s m args meth c D A cL_count RL 4 wsL_count (xT y) (some .int) := C
  refine x_aload_n (q := 1) C 2 dL_count_0 rfl rfl rfl ?_
  refine x_iconst (q := 2) C dL_count_1 ki_0 rfl ?_
  refine x_aload_n (q := 3) C 0 dL_count_2 rfl rfl rfl ?_
  refine x_iload_n (q := 4) C 1 dL_count_3 rfl rfl rfl ?_
  refine x_callRVi (q := 7) (Wr := oC y aO O) C hT (c2_count (l := l) (D := D) (y := y) (aH := aH) (aG := aG) (aN := aN) (aF := aF) (aT := aT) (mc := 0) (ms := 0) hst (fun _ h => by cases h) hf) (fun _ h => by cases h) yi_X2_count gL_count_X2_count rfl ((oX2 aH aN aF aT aG).L) rfl ⟨(Nat.le_of_ble_eq_true rfl), (Nat.le_of_ble_eq_true rfl)⟩ dL_count_4 (List.Perm.refl _) rfl rfl (Nat.le_of_ble_eq_true rfl) ⟨(Nat.le_of_ble_eq_true rfl), (Nat.le_of_ble_eq_true rfl)⟩ rfl ?_
  intro rr u hrr
  have e1 : r = rr := Sum.inr.inj hrr
  subst e1
  refine x_world (ws' := hW y aH aG aN aF aT G N F T ++ oC y aO O) rfl ?_
  refine x_i2l (q := 8) C dL_count_7 rfl ?_
  refine x_last (q := 9) (ws' := hW y aH aG aN aF aT G N F T ++ oC y aO (vp_updL O (0 : Int32).toNatClampNeg r.toInt64)) C 3 dL_count_8 ((oA y aO O).R) rfl (by decide) rfl rfl ?_
  refine x_goto (t := 15) C dL_count_9 (by decide) ?_
  refine x_iconst (q := 16) C dL_count_15 ki_0 rfl ?_
  exact xw_iret C dL_count_16 rfl rfl rfl (Nat.le_of_ble_eq_true rfl) (Nat.le_of_ble_eq_true rfl)
set_option maxHeartbeats 4000000 in
set_option maxRecDepth 100000 in
theorem wLt_count_3 {l : Launch} {D : va_G} {y : Nat → ClassId} {aH : Nat} {aG aN aF aT aO : Nat → Nat} {G N F T : St} {O : Nat → Int64} {p1 : Int32} (hst : l.stackTraces = false) (hf : f2_count G N F T p1 = some (.inl 3)) : xW l yL_count wsL_count 8 132 1 6 D (xT y) [.ref aH, .int p1, .ref (aO 0)] (hW y aH aG aN aF aT G N F T ++ oC y aO O) 1 (hW y aH aG aN aF aT G N F T ++ oC y aO O) := by
  refine xW_of (cc := cL_count) (nL := 4) (ret := some .int) (hh := [(0, 9, 12, 21)]) [(0, .ref aH), (1, .int p1), (2, .ref (aO 0))] hst (by decide) rfl (Nat.le_of_ble_eq_true rfl) rfl ?_
  intro p e s m args below meth c A C hT hE
  have C : xC p s m args meth c D A cL_count RL 4 wsL_count (xT y) (some .int) := C
  refine x_aload_n (q := 1) C 2 dL_count_0 rfl rfl rfl ?_
  refine x_iconst (q := 2) C dL_count_1 ki_0 rfl ?_
  refine x_aload_n (q := 3) C 0 dL_count_2 rfl rfl rfl ?_
  refine x_iload_n (q := 4) C 1 dL_count_3 rfl rfl rfl ?_
  refine x_callCVi (q := 12) (Wr := oC y aO O) C hT (c2_count (l := l) (D := D) (y := y) (aH := aH) (aG := aG) (aN := aN) (aF := aF) (aT := aT) (mc := 1) (ms := 6) hst (fun _ _ => ⟨Nat.le_refl _, Nat.le_refl _⟩) hf) rfl [] ⟨0, 9, 12, 21⟩ [] (hE.trans rfl) (fun z hz => nomatch hz) (by decide) (by decide) cl_count_21 yi_X2_count gL_count_X2_count rfl ((oX2 aH aN aF aT aG).L) rfl ⟨(Nat.le_of_ble_eq_true rfl), (Nat.le_of_ble_eq_true rfl)⟩ dL_count_4 (List.Perm.refl _) rfl rfl (Nat.le_of_ble_eq_true rfl) ⟨(Nat.le_of_ble_eq_true rfl), (Nat.le_of_ble_eq_true rfl)⟩ rfl ?_
  intro qa
  refine x_astore_n (q := 13) C [1, 2, 3, 0] [(0, .ref aH), (1, .int p1), (2, .ref (aO 0)), (3, .ref qa)] dL_count_12 rfl (by decide) rfl rfl ?_
  refine x_iconst (q := 14) C dL_count_13 ki_1 rfl ?_
  exact xw_iret C dL_count_14 rfl rfl rfl (Nat.le_of_ble_eq_true rfl) (Nat.le_of_ble_eq_true rfl)
theorem yw_pass : (∃ ws', wsL_pass = Cond.codeWith yL_pass cL_pass 4 (some .int) [(0, 9, 12, 13)] :: ws') ∧ yL_pass.cls ≠ "java/lang/invoke/MethodHandle" ∧ yL_pass.cls ≠ "java/lang/invoke/VarHandle" ∧ (parseMethodDescriptor yL_pass.desc).map (fun d => d.parameters.length) = some 3 := ⟨⟨_, rfl⟩, by decide +kernel, by decide +kernel, by decide +kernel⟩
theorem yi_X2_passw : xY yX2_pass wsX2_pass cX2_pass 2 (some .int) 1 := ⟨⟨_, rfl⟩, by decide +kernel, by decide +kernel, by decide +kernel⟩
theorem cl_pass_13 : Cond.classLink RL 13 "java/lang/IllegalArgumentException" ∈ wsL_pass := by decide +kernel
set_option maxHeartbeats 4000000 in
set_option maxRecDepth 100000 in
theorem wLr_pass {l : Launch} {D : va_G} {y : Nat → ClassId} {aH : Nat} {aG aN aF aT aO : Nat → Nat} {G N F T : St} {O : Nat → Int64} {p1 : Int32} {r : Int32} {N' : St} (hst : l.stackTraces = false) (hf : f2_pass G N F T p1 = some (.inr (r, N'))) : xW l yL_pass wsL_pass 8 166 1 6 D (xT y) [.ref aH, .int p1, .ref (aO 0)] (hW y aH aG aN aF aT G N F T ++ oC y aO O) 0 (hW y aH aG aN aF aT G N' F T ++ oC y aO (vp_updL O (0 : Int32).toNatClampNeg r.toInt64)) := by
  refine xW_of (cc := cL_pass) (nL := 4) (ret := some .int) (hh := [(0, 9, 12, 13)]) [(0, .ref aH), (1, .int p1), (2, .ref (aO 0))] hst (by decide) rfl (Nat.le_of_ble_eq_true rfl) rfl ?_
  intro p e s m args below meth c A C hT hE
  have C : xC p s m args meth c D A cL_pass RL 4 wsL_pass (xT y) (some .int) := C
  refine x_aload_n (q := 1) C 2 dL_pass_0 rfl rfl rfl ?_
  refine x_iconst (q := 2) C dL_pass_1 ki_0 rfl ?_
  refine x_aload_n (q := 3) C 0 dL_pass_2 rfl rfl rfl ?_
  refine x_iload_n (q := 4) C 1 dL_pass_3 rfl rfl rfl ?_
  refine x_callRVi (q := 7) (Wr := oC y aO O) C hT (c2_pass (l := l) (D := D) (y := y) (aH := aH) (aG := aG) (aN := aN) (aF := aF) (aT := aT) (mc := 0) (ms := 0) hst (fun _ h => by cases h) hf) (fun _ h => by cases h) yi_X2_passw gL_pass_X2_pass rfl ((oX2 aH aN aF aT aG).L) rfl ⟨(Nat.le_of_ble_eq_true rfl), (Nat.le_of_ble_eq_true rfl)⟩ dL_pass_4 (List.Perm.refl _) rfl rfl (Nat.le_of_ble_eq_true rfl) ⟨(Nat.le_of_ble_eq_true rfl), (Nat.le_of_ble_eq_true rfl)⟩ rfl ?_
  intro rr u hrr
  obtain ⟨e1, e2⟩ := Prod.mk.inj (Sum.inr.inj hrr)
  subst e1
  subst e2
  refine x_world (ws' := hW y aH aG aN aF aT G N' F T ++ oC y aO O) rfl ?_
  refine x_i2l (q := 8) C dL_pass_7 rfl ?_
  refine x_last (q := 9) (ws' := hW y aH aG aN aF aT G N' F T ++ oC y aO (vp_updL O (0 : Int32).toNatClampNeg r.toInt64)) C 3 dL_pass_8 ((oA y aO O).R) rfl (by decide) rfl rfl ?_
  refine x_goto (t := 15) C dL_pass_9 (by decide) ?_
  refine x_iconst (q := 16) C dL_pass_15 ki_0 rfl ?_
  exact xw_iret C dL_pass_16 rfl rfl rfl (Nat.le_of_ble_eq_true rfl) (Nat.le_of_ble_eq_true rfl)
set_option maxHeartbeats 4000000 in
set_option maxRecDepth 100000 in
theorem wLt_pass_1 {l : Launch} {D : va_G} {y : Nat → ClassId} {aH : Nat} {aG aN aF aT aO : Nat → Nat} {G N F T : St} {O : Nat → Int64} {p1 : Int32} (hst : l.stackTraces = false) (hf : f2_pass G N F T p1 = some (.inl 1)) : xW l yL_pass wsL_pass 8 166 1 6 D (xT y) [.ref aH, .int p1, .ref (aO 0)] (hW y aH aG aN aF aT G N F T ++ oC y aO O) 1 (hW y aH aG aN aF aT G N F T ++ oC y aO O) := by
  refine xW_of (cc := cL_pass) (nL := 4) (ret := some .int) (hh := [(0, 9, 12, 13)]) [(0, .ref aH), (1, .int p1), (2, .ref (aO 0))] hst (by decide) rfl (Nat.le_of_ble_eq_true rfl) rfl ?_
  intro p e s m args below meth c A C hT hE
  have C : xC p s m args meth c D A cL_pass RL 4 wsL_pass (xT y) (some .int) := C
  refine x_aload_n (q := 1) C 2 dL_pass_0 rfl rfl rfl ?_
  refine x_iconst (q := 2) C dL_pass_1 ki_0 rfl ?_
  refine x_aload_n (q := 3) C 0 dL_pass_2 rfl rfl rfl ?_
  refine x_iload_n (q := 4) C 1 dL_pass_3 rfl rfl rfl ?_
  refine x_callCVi (q := 12) (Wr := oC y aO O) C hT (c2_pass (l := l) (D := D) (y := y) (aH := aH) (aG := aG) (aN := aN) (aF := aF) (aT := aT) (mc := 1) (ms := 6) hst (fun _ _ => ⟨Nat.le_refl _, Nat.le_refl _⟩) hf) rfl [] ⟨0, 9, 12, 13⟩ [] (hE.trans rfl) (fun z hz => nomatch hz) (by decide) (by decide) cl_pass_13 yi_X2_passw gL_pass_X2_pass rfl ((oX2 aH aN aF aT aG).L) rfl ⟨(Nat.le_of_ble_eq_true rfl), (Nat.le_of_ble_eq_true rfl)⟩ dL_pass_4 (List.Perm.refl _) rfl rfl (Nat.le_of_ble_eq_true rfl) ⟨(Nat.le_of_ble_eq_true rfl), (Nat.le_of_ble_eq_true rfl)⟩ rfl ?_
  intro qa
  refine x_astore_n (q := 13) C [1, 2, 3, 0] [(0, .ref aH), (1, .int p1), (2, .ref (aO 0)), (3, .ref qa)] dL_pass_12 rfl (by decide) rfl rfl ?_
  refine x_iconst (q := 14) C dL_pass_13 ki_1 rfl ?_
  exact xw_iret C dL_pass_14 rfl rfl rfl (Nat.le_of_ble_eq_true rfl) (Nat.le_of_ble_eq_true rfl)
theorem yw_dawn : (∃ ws', wsL_dawn = Cond.codeWith yL_dawn cL_dawn 3 (some .int) [(0, 8, 11, 15)] :: ws') ∧ yL_dawn.cls ≠ "java/lang/invoke/MethodHandle" ∧ yL_dawn.cls ≠ "java/lang/invoke/VarHandle" ∧ (parseMethodDescriptor yL_dawn.desc).map (fun d => d.parameters.length) = some 2 := ⟨⟨_, rfl⟩, by decide +kernel, by decide +kernel, by decide +kernel⟩
theorem yi_X2_dawnw : xY yX2_dawn wsX2_dawn cX2_dawn 2 (some .int) 0 := ⟨⟨_, rfl⟩, by decide +kernel, by decide +kernel, by decide +kernel⟩
theorem cl_dawn_15 : Cond.classLink RL 15 "java/lang/IllegalStateException" ∈ wsL_dawn := by decide +kernel
set_option maxHeartbeats 4000000 in
set_option maxRecDepth 100000 in
theorem wLr_dawn {l : Launch} {D : va_G} {y : Nat → ClassId} {aH : Nat} {aG aN aF aT aO : Nat → Nat} {G N F T : St} {O : Nat → Int64} {r : Int32} {N' : St} (hst : l.stackTraces = false) (hf : f2_dawn G N F T = some (.inr (r, N'))) : xW l yL_dawn wsL_dawn 7 111 1 6 D (xT y) [.ref aH, .ref (aO 0)] (hW y aH aG aN aF aT G N F T ++ oC y aO O) 0 (hW y aH aG aN aF aT G N' F T ++ oC y aO (vp_updL O (0 : Int32).toNatClampNeg r.toInt64)) := by
  refine xW_of (cc := cL_dawn) (nL := 3) (ret := some .int) (hh := [(0, 8, 11, 15)]) [(0, .ref aH), (1, .ref (aO 0))] hst (by decide) rfl (Nat.le_of_ble_eq_true rfl) rfl ?_
  intro p e s m args below meth c A C hT hE
  have C : xC p s m args meth c D A cL_dawn RL 3 wsL_dawn (xT y) (some .int) := C
  refine x_aload_n (q := 1) C 1 dL_dawn_0 rfl rfl rfl ?_
  refine x_iconst (q := 2) C dL_dawn_1 ki_0 rfl ?_
  refine x_aload_n (q := 3) C 0 dL_dawn_2 rfl rfl rfl ?_
  refine x_callRVi (q := 6) (Wr := oC y aO O) C hT (c2_dawn (l := l) (D := D) (y := y) (aH := aH) (aG := aG) (aN := aN) (aF := aF) (aT := aT) (mc := 0) (ms := 0) hst (fun _ h => by cases h) hf) (fun _ h => by cases h) yi_X2_dawnw gL_dawn_X2_dawn rfl ((oX2 aH aN aF aT aG).L) rfl ⟨(Nat.le_of_ble_eq_true rfl), (Nat.le_of_ble_eq_true rfl)⟩ dL_dawn_3 (List.Perm.refl _) rfl rfl (Nat.le_of_ble_eq_true rfl) ⟨(Nat.le_of_ble_eq_true rfl), (Nat.le_of_ble_eq_true rfl)⟩ rfl ?_
  intro rr u hrr
  obtain ⟨e1, e2⟩ := Prod.mk.inj (Sum.inr.inj hrr)
  subst e1
  subst e2
  refine x_world (ws' := hW y aH aG aN aF aT G N' F T ++ oC y aO O) rfl ?_
  refine x_i2l (q := 7) C dL_dawn_6 rfl ?_
  refine x_last (q := 8) (ws' := hW y aH aG aN aF aT G N' F T ++ oC y aO (vp_updL O (0 : Int32).toNatClampNeg r.toInt64)) C 3 dL_dawn_7 ((oA y aO O).R) rfl (by decide) rfl rfl ?_
  refine x_goto (t := 14) C dL_dawn_8 (by decide) ?_
  refine x_iconst (q := 15) C dL_dawn_14 ki_0 rfl ?_
  exact xw_iret C dL_dawn_15 rfl rfl rfl (Nat.le_of_ble_eq_true rfl) (Nat.le_of_ble_eq_true rfl)
set_option maxHeartbeats 4000000 in
set_option maxRecDepth 100000 in
theorem wLt_dawn_2 {l : Launch} {D : va_G} {y : Nat → ClassId} {aH : Nat} {aG aN aF aT aO : Nat → Nat} {G N F T : St} {O : Nat → Int64} (hst : l.stackTraces = false) (hf : f2_dawn G N F T = some (.inl 2)) : xW l yL_dawn wsL_dawn 7 111 1 6 D (xT y) [.ref aH, .ref (aO 0)] (hW y aH aG aN aF aT G N F T ++ oC y aO O) 1 (hW y aH aG aN aF aT G N F T ++ oC y aO O) := by
  refine xW_of (cc := cL_dawn) (nL := 3) (ret := some .int) (hh := [(0, 8, 11, 15)]) [(0, .ref aH), (1, .ref (aO 0))] hst (by decide) rfl (Nat.le_of_ble_eq_true rfl) rfl ?_
  intro p e s m args below meth c A C hT hE
  have C : xC p s m args meth c D A cL_dawn RL 3 wsL_dawn (xT y) (some .int) := C
  refine x_aload_n (q := 1) C 1 dL_dawn_0 rfl rfl rfl ?_
  refine x_iconst (q := 2) C dL_dawn_1 ki_0 rfl ?_
  refine x_aload_n (q := 3) C 0 dL_dawn_2 rfl rfl rfl ?_
  refine x_callCVi (q := 11) (Wr := oC y aO O) C hT (c2_dawn (l := l) (D := D) (y := y) (aH := aH) (aG := aG) (aN := aN) (aF := aF) (aT := aT) (mc := 1) (ms := 6) hst (fun _ _ => ⟨Nat.le_refl _, Nat.le_refl _⟩) hf) rfl [] ⟨0, 8, 11, 15⟩ [] (hE.trans rfl) (fun z hz => nomatch hz) (by decide) (by decide) cl_dawn_15 yi_X2_dawnw gL_dawn_X2_dawn rfl ((oX2 aH aN aF aT aG).L) rfl ⟨(Nat.le_of_ble_eq_true rfl), (Nat.le_of_ble_eq_true rfl)⟩ dL_dawn_3 (List.Perm.refl _) rfl rfl (Nat.le_of_ble_eq_true rfl) ⟨(Nat.le_of_ble_eq_true rfl), (Nat.le_of_ble_eq_true rfl)⟩ rfl ?_
  intro qa
  refine x_astore_n (q := 12) C [1, 2, 0] [(0, .ref aH), (1, .ref (aO 0)), (2, .ref qa)] dL_dawn_11 rfl (by decide) rfl rfl ?_
  refine x_iconst (q := 13) C dL_dawn_12 ki_1 rfl ?_
  exact xw_iret C dL_dawn_13 rfl rfl rfl (Nat.le_of_ble_eq_true rfl) (Nat.le_of_ble_eq_true rfl)
theorem yw_comes : (∃ ws', wsL_comes = Cond.codeWith yL_comes cL_comes 4 (some .int) [(0, 9, 12, 21)] :: ws') ∧ yL_comes.cls ≠ "java/lang/invoke/MethodHandle" ∧ yL_comes.cls ≠ "java/lang/invoke/VarHandle" ∧ (parseMethodDescriptor yL_comes.desc).map (fun d => d.parameters.length) = some 3 := ⟨⟨_, rfl⟩, by decide +kernel, by decide +kernel, by decide +kernel⟩
theorem yi_X2_comesw : xY yX2_comes wsX2_comes cX2_comes 4 (some .int) 1 := ⟨⟨_, rfl⟩, by decide +kernel, by decide +kernel, by decide +kernel⟩
theorem cl_comes_21 : Cond.classLink RL 21 "java/lang/IndexOutOfBoundsException" ∈ wsL_comes := by decide +kernel
set_option maxHeartbeats 4000000 in
set_option maxRecDepth 100000 in
theorem wLr_comes {l : Launch} {D : va_G} {y : Nat → ClassId} {aH : Nat} {aG aN aF aT aO : Nat → Nat} {G N F T : St} {O : Nat → Int64} {p1 : Int32} {r : Int32} {F' : St} (hst : l.stackTraces = false) (hf : f2_comes G N F T p1 = some (.inr (r, F'))) : xW l yL_comes wsL_comes 8 168 1 6 D (xT y) [.ref aH, .int p1, .ref (aO 0)] (hW y aH aG aN aF aT G N F T ++ oC y aO O) 0 (hW y aH aG aN aF aT G N F' T ++ oC y aO (vp_updL O (0 : Int32).toNatClampNeg r.toInt64)) := by
  refine xW_of (cc := cL_comes) (nL := 4) (ret := some .int) (hh := [(0, 9, 12, 21)]) [(0, .ref aH), (1, .int p1), (2, .ref (aO 0))] hst (by decide) rfl (Nat.le_of_ble_eq_true rfl) rfl ?_
  intro p e s m args below meth c A C hT hE
  have C : xC p s m args meth c D A cL_comes RL 4 wsL_comes (xT y) (some .int) := C
  refine x_aload_n (q := 1) C 2 dL_comes_0 rfl rfl rfl ?_
  refine x_iconst (q := 2) C dL_comes_1 ki_0 rfl ?_
  refine x_aload_n (q := 3) C 0 dL_comes_2 rfl rfl rfl ?_
  refine x_iload_n (q := 4) C 1 dL_comes_3 rfl rfl rfl ?_
  refine x_callRVi (q := 7) (Wr := oC y aO O) C hT (c2_comes (l := l) (D := D) (y := y) (aH := aH) (aG := aG) (aN := aN) (aF := aF) (aT := aT) (mc := 0) (ms := 0) hst (fun _ h => by cases h) hf) (fun _ h => by cases h) yi_X2_comesw gL_comes_X2_comes rfl ((oX2 aH aN aF aT aG).L) rfl ⟨(Nat.le_of_ble_eq_true rfl), (Nat.le_of_ble_eq_true rfl)⟩ dL_comes_4 (List.Perm.refl _) rfl rfl (Nat.le_of_ble_eq_true rfl) ⟨(Nat.le_of_ble_eq_true rfl), (Nat.le_of_ble_eq_true rfl)⟩ rfl ?_
  intro rr u hrr
  obtain ⟨e1, e2⟩ := Prod.mk.inj (Sum.inr.inj hrr)
  subst e1
  subst e2
  refine x_world (ws' := hW y aH aG aN aF aT G N F' T ++ oC y aO O) rfl ?_
  refine x_i2l (q := 8) C dL_comes_7 rfl ?_
  refine x_last (q := 9) (ws' := hW y aH aG aN aF aT G N F' T ++ oC y aO (vp_updL O (0 : Int32).toNatClampNeg r.toInt64)) C 3 dL_comes_8 ((oA y aO O).R) rfl (by decide) rfl rfl ?_
  refine x_goto (t := 15) C dL_comes_9 (by decide) ?_
  refine x_iconst (q := 16) C dL_comes_15 ki_0 rfl ?_
  exact xw_iret C dL_comes_16 rfl rfl rfl (Nat.le_of_ble_eq_true rfl) (Nat.le_of_ble_eq_true rfl)
set_option maxHeartbeats 4000000 in
set_option maxRecDepth 100000 in
theorem wLt_comes_3 {l : Launch} {D : va_G} {y : Nat → ClassId} {aH : Nat} {aG aN aF aT aO : Nat → Nat} {G N F T : St} {O : Nat → Int64} {p1 : Int32} (hst : l.stackTraces = false) (hf : f2_comes G N F T p1 = some (.inl 3)) : xW l yL_comes wsL_comes 8 168 1 6 D (xT y) [.ref aH, .int p1, .ref (aO 0)] (hW y aH aG aN aF aT G N F T ++ oC y aO O) 1 (hW y aH aG aN aF aT G N F T ++ oC y aO O) := by
  refine xW_of (cc := cL_comes) (nL := 4) (ret := some .int) (hh := [(0, 9, 12, 21)]) [(0, .ref aH), (1, .int p1), (2, .ref (aO 0))] hst (by decide) rfl (Nat.le_of_ble_eq_true rfl) rfl ?_
  intro p e s m args below meth c A C hT hE
  have C : xC p s m args meth c D A cL_comes RL 4 wsL_comes (xT y) (some .int) := C
  refine x_aload_n (q := 1) C 2 dL_comes_0 rfl rfl rfl ?_
  refine x_iconst (q := 2) C dL_comes_1 ki_0 rfl ?_
  refine x_aload_n (q := 3) C 0 dL_comes_2 rfl rfl rfl ?_
  refine x_iload_n (q := 4) C 1 dL_comes_3 rfl rfl rfl ?_
  refine x_callCVi (q := 12) (Wr := oC y aO O) C hT (c2_comes (l := l) (D := D) (y := y) (aH := aH) (aG := aG) (aN := aN) (aF := aF) (aT := aT) (mc := 1) (ms := 6) hst (fun _ _ => ⟨Nat.le_refl _, Nat.le_refl _⟩) hf) rfl [] ⟨0, 9, 12, 21⟩ [] (hE.trans rfl) (fun z hz => nomatch hz) (by decide) (by decide) cl_comes_21 yi_X2_comesw gL_comes_X2_comes rfl ((oX2 aH aN aF aT aG).L) rfl ⟨(Nat.le_of_ble_eq_true rfl), (Nat.le_of_ble_eq_true rfl)⟩ dL_comes_4 (List.Perm.refl _) rfl rfl (Nat.le_of_ble_eq_true rfl) ⟨(Nat.le_of_ble_eq_true rfl), (Nat.le_of_ble_eq_true rfl)⟩ rfl ?_
  intro qa
  refine x_astore_n (q := 13) C [1, 2, 3, 0] [(0, .ref aH), (1, .int p1), (2, .ref (aO 0)), (3, .ref qa)] dL_comes_12 rfl (by decide) rfl rfl ?_
  refine x_iconst (q := 14) C dL_comes_13 ki_1 rfl ?_
  exact xw_iret C dL_comes_14 rfl rfl rfl (Nat.le_of_ble_eq_true rfl) (Nat.le_of_ble_eq_true rfl)
theorem yw_needs : (∃ ws', wsL_needs = Cond.codeWith yL_needs cL_needs 4 (some .int) [(0, 9, 12, 21)] :: ws') ∧ yL_needs.cls ≠ "java/lang/invoke/MethodHandle" ∧ yL_needs.cls ≠ "java/lang/invoke/VarHandle" ∧ (parseMethodDescriptor yL_needs.desc).map (fun d => d.parameters.length) = some 3 := ⟨⟨_, rfl⟩, by decide +kernel, by decide +kernel, by decide +kernel⟩
theorem yi_X2_needsw : xY yX2_needs wsX2_needs cX2_needs 4 (some .int) 1 := ⟨⟨_, rfl⟩, by decide +kernel, by decide +kernel, by decide +kernel⟩
theorem cl_needs_21 : Cond.classLink RL 21 "java/lang/IndexOutOfBoundsException" ∈ wsL_needs := by decide +kernel
set_option maxHeartbeats 4000000 in
set_option maxRecDepth 100000 in
theorem wLr_needs {l : Launch} {D : va_G} {y : Nat → ClassId} {aH : Nat} {aG aN aF aT aO : Nat → Nat} {G N F T : St} {O : Nat → Int64} {p1 : Int32} {r : Int32} (hst : l.stackTraces = false) (hf : f2_needs G N F T p1 = some (.inr r)) : xW l yL_needs wsL_needs 8 134 1 6 D (xT y) [.ref aH, .int p1, .ref (aO 0)] (hW y aH aG aN aF aT G N F T ++ oC y aO O) 0 (hW y aH aG aN aF aT G N F T ++ oC y aO (vp_updL O (0 : Int32).toNatClampNeg r.toInt64)) := by
  refine xW_of (cc := cL_needs) (nL := 4) (ret := some .int) (hh := [(0, 9, 12, 21)]) [(0, .ref aH), (1, .int p1), (2, .ref (aO 0))] hst (by decide) rfl (Nat.le_of_ble_eq_true rfl) rfl ?_
  intro p e s m args below meth c A C hT hE
  have C : xC p s m args meth c D A cL_needs RL 4 wsL_needs (xT y) (some .int) := C
  refine x_aload_n (q := 1) C 2 dL_needs_0 rfl rfl rfl ?_
  refine x_iconst (q := 2) C dL_needs_1 ki_0 rfl ?_
  refine x_aload_n (q := 3) C 0 dL_needs_2 rfl rfl rfl ?_
  refine x_iload_n (q := 4) C 1 dL_needs_3 rfl rfl rfl ?_
  refine x_callRVi (q := 7) (Wr := oC y aO O) C hT (c2_needs (l := l) (D := D) (y := y) (aH := aH) (aG := aG) (aN := aN) (aF := aF) (aT := aT) (mc := 0) (ms := 0) hst (fun _ h => by cases h) hf) (fun _ h => by cases h) yi_X2_needsw gL_needs_X2_needs rfl ((oX2 aH aN aF aT aG).L) rfl ⟨(Nat.le_of_ble_eq_true rfl), (Nat.le_of_ble_eq_true rfl)⟩ dL_needs_4 (List.Perm.refl _) rfl rfl (Nat.le_of_ble_eq_true rfl) ⟨(Nat.le_of_ble_eq_true rfl), (Nat.le_of_ble_eq_true rfl)⟩ rfl ?_
  intro rr u hrr
  have e1 : r = rr := Sum.inr.inj hrr
  subst e1
  refine x_world (ws' := hW y aH aG aN aF aT G N F T ++ oC y aO O) rfl ?_
  refine x_i2l (q := 8) C dL_needs_7 rfl ?_
  refine x_last (q := 9) (ws' := hW y aH aG aN aF aT G N F T ++ oC y aO (vp_updL O (0 : Int32).toNatClampNeg r.toInt64)) C 3 dL_needs_8 ((oA y aO O).R) rfl (by decide) rfl rfl ?_
  refine x_goto (t := 15) C dL_needs_9 (by decide) ?_
  refine x_iconst (q := 16) C dL_needs_15 ki_0 rfl ?_
  exact xw_iret C dL_needs_16 rfl rfl rfl (Nat.le_of_ble_eq_true rfl) (Nat.le_of_ble_eq_true rfl)
set_option maxHeartbeats 4000000 in
set_option maxRecDepth 100000 in
theorem wLt_needs_3 {l : Launch} {D : va_G} {y : Nat → ClassId} {aH : Nat} {aG aN aF aT aO : Nat → Nat} {G N F T : St} {O : Nat → Int64} {p1 : Int32} (hst : l.stackTraces = false) (hf : f2_needs G N F T p1 = some (.inl 3)) : xW l yL_needs wsL_needs 8 134 1 6 D (xT y) [.ref aH, .int p1, .ref (aO 0)] (hW y aH aG aN aF aT G N F T ++ oC y aO O) 1 (hW y aH aG aN aF aT G N F T ++ oC y aO O) := by
  refine xW_of (cc := cL_needs) (nL := 4) (ret := some .int) (hh := [(0, 9, 12, 21)]) [(0, .ref aH), (1, .int p1), (2, .ref (aO 0))] hst (by decide) rfl (Nat.le_of_ble_eq_true rfl) rfl ?_
  intro p e s m args below meth c A C hT hE
  have C : xC p s m args meth c D A cL_needs RL 4 wsL_needs (xT y) (some .int) := C
  refine x_aload_n (q := 1) C 2 dL_needs_0 rfl rfl rfl ?_
  refine x_iconst (q := 2) C dL_needs_1 ki_0 rfl ?_
  refine x_aload_n (q := 3) C 0 dL_needs_2 rfl rfl rfl ?_
  refine x_iload_n (q := 4) C 1 dL_needs_3 rfl rfl rfl ?_
  refine x_callCVi (q := 12) (Wr := oC y aO O) C hT (c2_needs (l := l) (D := D) (y := y) (aH := aH) (aG := aG) (aN := aN) (aF := aF) (aT := aT) (mc := 1) (ms := 6) hst (fun _ _ => ⟨Nat.le_refl _, Nat.le_refl _⟩) hf) rfl [] ⟨0, 9, 12, 21⟩ [] (hE.trans rfl) (fun z hz => nomatch hz) (by decide) (by decide) cl_needs_21 yi_X2_needsw gL_needs_X2_needs rfl ((oX2 aH aN aF aT aG).L) rfl ⟨(Nat.le_of_ble_eq_true rfl), (Nat.le_of_ble_eq_true rfl)⟩ dL_needs_4 (List.Perm.refl _) rfl rfl (Nat.le_of_ble_eq_true rfl) ⟨(Nat.le_of_ble_eq_true rfl), (Nat.le_of_ble_eq_true rfl)⟩ rfl ?_
  intro qa
  refine x_astore_n (q := 13) C [1, 2, 3, 0] [(0, .ref aH), (1, .int p1), (2, .ref (aO 0)), (3, .ref qa)] dL_needs_12 rfl (by decide) rfl rfl ?_
  refine x_iconst (q := 14) C dL_needs_13 ki_1 rfl ?_
  exact xw_iret C dL_needs_14 rfl rfl rfl (Nat.le_of_ble_eq_true rfl) (Nat.le_of_ble_eq_true rfl)
theorem yw_foresee : (∃ ws', wsL_foresee = Cond.codeWith yL_foresee cL_foresee 5 (some .int) [(0, 10, 13, 13), (0, 10, 17, 21)] :: ws') ∧ yL_foresee.cls ≠ "java/lang/invoke/MethodHandle" ∧ yL_foresee.cls ≠ "java/lang/invoke/VarHandle" ∧ (parseMethodDescriptor yL_foresee.desc).map (fun d => d.parameters.length) = some 4 := ⟨⟨_, rfl⟩, by decide +kernel, by decide +kernel, by decide +kernel⟩
theorem yi_X2_foreseew : xY yX2_foresee wsX2_foresee cX2_foresee 3 (some .int) 2 := ⟨⟨_, rfl⟩, by decide +kernel, by decide +kernel, by decide +kernel⟩
theorem cl_foresee_13 : Cond.classLink RL 13 "java/lang/IllegalArgumentException" ∈ wsL_foresee := by decide +kernel
theorem cl_foresee_21 : Cond.classLink RL 21 "java/lang/IndexOutOfBoundsException" ∈ wsL_foresee := by decide +kernel
set_option maxHeartbeats 4000000 in
set_option maxRecDepth 100000 in
theorem wLr_foresee {l : Launch} {D : va_G} {y : Nat → ClassId} {aH : Nat} {aG aN aF aT aO : Nat → Nat} {G N F T : St} {O : Nat → Int64} {p1 : Int32} {p2 : Int32} {r : Int32} {F' : St} (hst : l.stackTraces = false) (hf : f2_foresee G N F T p1 p2 = some (.inr (r, F'))) : xW l yL_foresee wsL_foresee 8 167 1 6 D (xT y) [.ref aH, .int p1, .int p2, .ref (aO 0)] (hW y aH aG aN aF aT G N F T ++ oC y aO O) 0 (hW y aH aG aN aF aT G N F' T ++ oC y aO (vp_updL O (0 : Int32).toNatClampNeg r.toInt64)) := by
  refine xW_of (cc := cL_foresee) (nL := 5) (ret := some .int) (hh := [(0, 10, 13, 13), (0, 10, 17, 21)]) [(0, .ref aH), (1, .int p1), (2, .int p2), (3, .ref (aO 0))] hst (by decide) rfl (Nat.le_of_ble_eq_true rfl) rfl ?_
  intro p e s m args below meth c A C hT hE
  have C : xC p s m args meth c D A cL_foresee RL 5 wsL_foresee (xT y) (some .int) := C
  refine x_aload_n (q := 1) C 3 dL_foresee_0 rfl rfl rfl ?_
  refine x_iconst (q := 2) C dL_foresee_1 ki_0 rfl ?_
  refine x_aload_n (q := 3) C 0 dL_foresee_2 rfl rfl rfl ?_
  refine x_iload_n (q := 4) C 1 dL_foresee_3 rfl rfl rfl ?_
  refine x_iload_n (q := 5) C 2 dL_foresee_4 rfl rfl rfl ?_
  refine x_callRVi (q := 8) (Wr := oC y aO O) C hT (c2_foresee (l := l) (D := D) (y := y) (aH := aH) (aG := aG) (aN := aN) (aF := aF) (aT := aT) (mc := 0) (ms := 0) hst (fun _ h => by cases h) hf) (fun _ h => by cases h) yi_X2_foreseew gL_foresee_X2_foresee rfl ((oX2 aH aN aF aT aG).L) rfl ⟨(Nat.le_of_ble_eq_true rfl), (Nat.le_of_ble_eq_true rfl)⟩ dL_foresee_5 (List.Perm.refl _) rfl rfl (Nat.le_of_ble_eq_true rfl) ⟨(Nat.le_of_ble_eq_true rfl), (Nat.le_of_ble_eq_true rfl)⟩ rfl ?_
  intro rr u hrr
  obtain ⟨e1, e2⟩ := Prod.mk.inj (Sum.inr.inj hrr)
  subst e1
  subst e2
  refine x_world (ws' := hW y aH aG aN aF aT G N F' T ++ oC y aO O) rfl ?_
  refine x_i2l (q := 9) C dL_foresee_8 rfl ?_
  refine x_last (q := 10) (ws' := hW y aH aG aN aF aT G N F' T ++ oC y aO (vp_updL O (0 : Int32).toNatClampNeg r.toInt64)) C 3 dL_foresee_9 ((oA y aO O).R) rfl (by decide) rfl rfl ?_
  refine x_goto (t := 21) C dL_foresee_10 (by decide) ?_
  refine x_iconst (q := 22) C dL_foresee_21 ki_0 rfl ?_
  exact xw_iret C dL_foresee_22 rfl rfl rfl (Nat.le_of_ble_eq_true rfl) (Nat.le_of_ble_eq_true rfl)
set_option maxHeartbeats 4000000 in
set_option maxRecDepth 100000 in
theorem wLt_foresee_1 {l : Launch} {D : va_G} {y : Nat → ClassId} {aH : Nat} {aG aN aF aT aO : Nat → Nat} {G N F T : St} {O : Nat → Int64} {p1 : Int32} {p2 : Int32} (hst : l.stackTraces = false) (hf : f2_foresee G N F T p1 p2 = some (.inl 1)) : xW l yL_foresee wsL_foresee 8 167 1 6 D (xT y) [.ref aH, .int p1, .int p2, .ref (aO 0)] (hW y aH aG aN aF aT G N F T ++ oC y aO O) 1 (hW y aH aG aN aF aT G N F T ++ oC y aO O) := by
  refine xW_of (cc := cL_foresee) (nL := 5) (ret := some .int) (hh := [(0, 10, 13, 13), (0, 10, 17, 21)]) [(0, .ref aH), (1, .int p1), (2, .int p2), (3, .ref (aO 0))] hst (by decide) rfl (Nat.le_of_ble_eq_true rfl) rfl ?_
  intro p e s m args below meth c A C hT hE
  have C : xC p s m args meth c D A cL_foresee RL 5 wsL_foresee (xT y) (some .int) := C
  refine x_aload_n (q := 1) C 3 dL_foresee_0 rfl rfl rfl ?_
  refine x_iconst (q := 2) C dL_foresee_1 ki_0 rfl ?_
  refine x_aload_n (q := 3) C 0 dL_foresee_2 rfl rfl rfl ?_
  refine x_iload_n (q := 4) C 1 dL_foresee_3 rfl rfl rfl ?_
  refine x_iload_n (q := 5) C 2 dL_foresee_4 rfl rfl rfl ?_
  refine x_callCVi (q := 13) (Wr := oC y aO O) C hT (c2_foresee (l := l) (D := D) (y := y) (aH := aH) (aG := aG) (aN := aN) (aF := aF) (aT := aT) (mc := 1) (ms := 6) hst (fun _ _ => ⟨Nat.le_refl _, Nat.le_refl _⟩) hf) rfl [] ⟨0, 10, 13, 13⟩ [⟨0, 10, 17, 21⟩] (hE.trans rfl) (fun z hz => nomatch hz) (by decide) (by decide) cl_foresee_13 yi_X2_foreseew gL_foresee_X2_foresee rfl ((oX2 aH aN aF aT aG).L) rfl ⟨(Nat.le_of_ble_eq_true rfl), (Nat.le_of_ble_eq_true rfl)⟩ dL_foresee_5 (List.Perm.refl _) rfl rfl (Nat.le_of_ble_eq_true rfl) ⟨(Nat.le_of_ble_eq_true rfl), (Nat.le_of_ble_eq_true rfl)⟩ rfl ?_
  intro qa
  refine x_astore (q := 15) C [1, 2, 3, 4, 0] [(0, .ref aH), (1, .int p1), (2, .int p2), (3, .ref (aO 0)), (4, .ref qa)] dL_foresee_13 (by decide) rfl rfl ?_
  refine x_iconst (q := 16) C dL_foresee_15 ki_1 rfl ?_
  exact xw_iret C dL_foresee_16 rfl rfl rfl (Nat.le_of_ble_eq_true rfl) (Nat.le_of_ble_eq_true rfl)
set_option maxHeartbeats 4000000 in
set_option maxRecDepth 100000 in
theorem wLt_foresee_3 {l : Launch} {D : va_G} {y : Nat → ClassId} {aH : Nat} {aG aN aF aT aO : Nat → Nat} {G N F T : St} {O : Nat → Int64} {p1 : Int32} {p2 : Int32} (hst : l.stackTraces = false) (hf : f2_foresee G N F T p1 p2 = some (.inl 3)) : xW l yL_foresee wsL_foresee 8 167 1 6 D (xT y) [.ref aH, .int p1, .int p2, .ref (aO 0)] (hW y aH aG aN aF aT G N F T ++ oC y aO O) 2 (hW y aH aG aN aF aT G N F T ++ oC y aO O) := by
  refine xW_of (cc := cL_foresee) (nL := 5) (ret := some .int) (hh := [(0, 10, 13, 13), (0, 10, 17, 21)]) [(0, .ref aH), (1, .int p1), (2, .int p2), (3, .ref (aO 0))] hst (by decide) rfl (Nat.le_of_ble_eq_true rfl) rfl ?_
  intro p e s m args below meth c A C hT hE
  have C : xC p s m args meth c D A cL_foresee RL 5 wsL_foresee (xT y) (some .int) := C
  refine x_aload_n (q := 1) C 3 dL_foresee_0 rfl rfl rfl ?_
  refine x_iconst (q := 2) C dL_foresee_1 ki_0 rfl ?_
  refine x_aload_n (q := 3) C 0 dL_foresee_2 rfl rfl rfl ?_
  refine x_iload_n (q := 4) C 1 dL_foresee_3 rfl rfl rfl ?_
  refine x_iload_n (q := 5) C 2 dL_foresee_4 rfl rfl rfl ?_
  refine x_callCVi (q := 17) (Wr := oC y aO O) C hT (c2_foresee (l := l) (D := D) (y := y) (aH := aH) (aG := aG) (aN := aN) (aF := aF) (aT := aT) (mc := 1) (ms := 6) hst (fun _ _ => ⟨Nat.le_refl _, Nat.le_refl _⟩) hf) rfl [⟨0, 10, 13, 13⟩] ⟨0, 10, 17, 21⟩ [] (hE.trans rfl) (fun z hz => by
    simp only [List.mem_cons, List.not_mem_nil, or_false] at hz
    rcases hz with rfl
    · exact ⟨by decide, _, cl_foresee_13, by decide⟩) (by decide) (by decide) cl_foresee_21 yi_X2_foreseew gL_foresee_X2_foresee rfl ((oX2 aH aN aF aT aG).L) rfl ⟨(Nat.le_of_ble_eq_true rfl), (Nat.le_of_ble_eq_true rfl)⟩ dL_foresee_5 (List.Perm.refl _) rfl rfl (Nat.le_of_ble_eq_true rfl) ⟨(Nat.le_of_ble_eq_true rfl), (Nat.le_of_ble_eq_true rfl)⟩ rfl ?_
  intro qa
  refine x_astore (q := 19) C [1, 2, 3, 4, 0] [(0, .ref aH), (1, .int p1), (2, .int p2), (3, .ref (aO 0)), (4, .ref qa)] dL_foresee_17 (by decide) rfl rfl ?_
  refine x_iconst (q := 20) C dL_foresee_19 ki_2 rfl ?_
  exact xw_iret C dL_foresee_20 rfl rfl rfl (Nat.le_of_ble_eq_true rfl) (Nat.le_of_ble_eq_true rfl)
