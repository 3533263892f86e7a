/-! THE LAW'S OWN ROWS: its script, doubles, the calls that may draw, its end -/
section XLAW
variable {p : Program} {l : Launch} {e : Env} {R : Room} {s : State} {m : MethodId} {args : Array Value} {below : List Frame} {meth : Method} {c : Code} {Q : State → Prop}
variable {D : va_G} {A : Nat → Prop} {cc : ByteArray} {own : String} {nL : Nat} {Ts : List Cond} {tys : List (ClassId × FieldType)} {rt : Option FieldType}
variable {ws ws' Wc Wr : va_W} {k n pc q mc ms rf rl idx ci b na maxL2 : Nat} {L L' : List (Nat × Value)} {st As rest : List Value} {S : Type} {y2 : MethodName} {ws2 : List Cond} {b2 : ByteArray} {ret2 : Option FieldType} {fs : List Value} {C2 : String} {T2 : u_T} {N2 : Nat}
/-- the script, outside the world -/
def xS (b Ln : Nat) (xs : Nat → Int32) (s : State) (A : Nat → Prop) : Prop := va_X b Ln xs s s.heap ∧ b < s.heap.size ∧ ¬ A b
theorem x_sld (C : xC p s m args meth c D A cc own nL Ts tys rt) {b Ln : Nat} {xs : Nat → Int32} (hX : xS b Ln xs s A) {i : Int32} (hin : vp_in i Ln) (d : decode cc pc = .ok (.iaload, 1)) (hq : pc + 1 = q) (kk : xV p l e R s m args below meth c D A Q nL ws k n L q (.int (xs i.toNatClampNeg) :: st)) : xV p l e R s m args below meth c D A Q nL ws k n L pc (.int i :: .ref b :: st) :=
  fun H locs ls hP hD hS hl => va_sld C.1 C.2.1 hX.1 hX.2.1 hX.2.2 hS hin d (hq ▸ kk H locs ls hP hD hS hl)
theorem x_slen (C : xC p s m args meth c D A cc own nL Ts tys rt) {b Ln : Nat} {xs : Nat → Int32} (hX : xS b Ln xs s A) (d : decode cc pc = .ok (.arraylength, 1)) (hq : pc + 1 = q) (kk : xV p l e R s m args below meth c D A Q nL ws k n L q (.int (Int32.ofNat Ln) :: st)) : xV p l e R s m args below meth c D A Q nL ws k n L pc (.ref b :: st) :=
  fun H locs ls hP hD hS hl => va_slen C.1 C.2.1 hX.1 hX.2.1 hX.2.2 hS d (hq ▸ kk H locs ls hP hD hS hl)
theorem x_dstore (C : xC p s m args meth c D A cc own nL Ts tys rt) {i : Nat} {v : UInt64} (ks : List Nat) (L' : List (Nat × Value)) (d : decode cc pc = .ok (.dstore i, 2)) (hn : i + 1 < nL) (hL : lv_pick ((i, Value.double v) :: L.filter (fun q => !(q.1 == i) && (!(q.1 == i + 1) && !(q.1 + 1 == i && q.2.category == 2)))) ks = L') (hq : pc + 2 = q) (kk : xV p l e R s m args below meth c D A Q nL ws k n L' q st) : xV p l e R s m args below meth c D A Q nL ws k n L pc (.double v :: st) :=
  fun H locs ls hP hD hS hl => lv_dstore C.1 C.2.1 d hl hn rfl (fun ls' hl' => hq ▸ kk H locs ls' hP hD hS (lv_sub hl' ks hL))
theorem x_dload (C : xC p s m args meth c D A cc own nL Ts tys rt) {i : Nat} (j : Nat) {v : UInt64} (d : decode cc pc = .ok (.dload i, 2)) (hL : L[j]? = some (i, .double v)) (hq : pc + 2 = q) (kk : xV p l e R s m args below meth c D A Q nL ws k n L q (.double v :: st)) : xV p l e R s m args below meth c D A Q nL ws k n L pc st :=
  fun H locs ls hP hD hS hl => lv_dload C.1 C.2.1 d (lv_at hl j hL) (hq ▸ kk H locs ls hP hD hS hl)
theorem x_dcmp (C : xC p s m args meth c D A cc own nL Ts tys rt) {x y : UInt64} {op : CmpOp} (d : decode cc pc = .ok (.dcmp op, 1)) (hq : pc + 1 = q) (kk : xV p l e R s m args below meth c D A Q nL ws k n L q (.int (Op.cmpValue (FP.dcmp x y) op) :: st)) : xV p l e R s m args below meth c D A Q nL ws k n L pc (.double y :: .double x :: st) :=
  fun H locs ls hP hD hS hl => lv_dcmp C.1 C.2.1 d (hq ▸ kk H locs ls hP hD hS hl)
theorem x_callDV {d0 : Drawn} (hd0 : s.drawn.sameBut d0 lw_cs) {post : UInt64 → S → Prop} {W2 : S → va_W} (C : xC p (s.setDrawn d0) m args meth c D A cc own nL Ts tys rt) (M : xMd l y2 ws2 rf rl mc ms D tys (.ref b :: As) Wc post W2) (hy : xY y2 ws2 b2 maxL2 ret2 na) (hG : GoodIn Ts (wsV own idx C2 y2 ws2)) (hcls : y2.cls = C2) (ho : xO Wc b ci fs) (hci : vwCl[ci]? = some (C2, T2, N2)) (hR : rf + 1 ≤ R.frames ∧ 8 + (maxL2 + 11) + rl ≤ R.locals) (d : decode cc pc = .ok (.invokevirtual idx, 3)) (hpm : ws.Perm (Wc ++ Wr)) (hst : st = As.reverse ++ .ref b :: rest) (hlen : As.length = na) (hW : (rest.map fun v => v.category).sum ≤ 8) (hf : k + mc ≤ R.cells ∧ n + ms ≤ R.slots) (hq : pc + 3 = q) (kk : ∀ (r : UInt64) (u : S) (d1 : Drawn), post r u → s.drawn.sameBut d1 lw_cs → xC p (s.setDrawn d1) m args meth c D A cc own nL Ts tys rt → xV p l e R (s.setDrawn d1) m args below meth c D A Q nL (W2 u ++ Wr) (k + mc) (n + ms) L q (.double r :: rest)) : xV p l e R (s.setDrawn d0) m args below meth c D A Q nL ws k n L pc st := by
  intro H locs ls hP hD hS hl
  have C0 := C
  obtain ⟨hx, hb, hml, hown, hts, hK, hret, hlk, hA⟩ := C
  have hP2 := xP_perm hpm hP
  have hD2 := xD_perm hpm hD
  have hPc := xP_left hP2
  have hDc := xD_left hD2
  have hFc := xFree hD2 hS hA
  obtain ⟨⟨wsY, hyw⟩, hy2⟩ := hy
  obtain ⟨q0, h0⟩ := ho
  subst hst
  have hW : 2 * (F0 m pc ls (As.reverse ++ .ref b :: rest)).monitorRoom + (rest.map fun v => v.category).sum ≤ 8 := lv_room hW
  refine va_calldD hd0 (va_runV_D (As := As) (rest := rest) ⟨hx, hb, hml, hown, hts⟩ (M H.size) (cwV na hts hG hyw rfl rfl ⟨hcls, hy2.1, hy2.2.1, hy2.2.2⟩ hR) ⟨xPc_blind, va_recv hK hPc hci h0, fun U hU hW => ⟨rfl, by rw [hU], by rw [hU]; exact hPc, va_K.moved hW.alike hK, hDc.weaken (fun _ _ _ _ => trivial)⟩⟩ rfl hlen hl.1 rfl hW d hf) hS (fun q _ h => hFc q h) hFc (fun r u t H1 locs1 ht hvm hw hB hz1 hk1 hS1 d1 hd1 => ?_)
  obtain ⟨hP1, hK1, hD1⟩ := hB
  rw [ht] at hP1
  obtain ⟨hP3, hD3⟩ := xJoin hP2 hD2 hFc hk1 hP1 hD1
  exact hq ▸ kk r u d1 hw hd1 (xC_d C0 d1) H1 locs1 ls hP3 hD3 hS1 hl
theorem x_newal (C : xC p s m args meth c D A cc own nL Ts tys rt) {c0 : ClassId} {nn : Int32} (N : Nat) (d : decode cc pc = .ok (.newarray .long, 2)) (hm : Cond.arrayClass .long ∈ Ts) (ht : tys[3]? = some (c0, .long)) (hn : ¬ nn < 0) (hN : nn.toNatClampNeg = N) (hby : N * 8 ≤ 536870912) (hc : k + 1 ≤ R.cells) (hs : n + N ≤ R.slots) (hq : pc + 2 = q) (kk : ∀ a : Nat, xV p l e R s m args below meth c D A Q nL (ws ++ [(a, .inl (c0, N, .inr (.inl (fun _ => 0))))]) (k + 1) (n + N) L q (.ref a :: st)) : xV p l e R s m args below meth c D A Q nL ws k n L pc (.int nn :: st) := by
  intro H locs ls hP hD hS hl
  obtain ⟨hx, hb, hml, hown, hts, hK, hret, hlk, hA⟩ := C
  refine va_newa (atype := .long) (ty := .long) (a0 := (N, .inr (.inl (fun _ => 0)))) hx hb (hts _ hm) rfl hK hP hD hS hA (fun cA => rfl) hn hN hby hc hs d (fun a cA H1 hK1 hP1 hD1 hS1 => ?_)
  have e1 := (hK.2 3 _ ht).2
  have e2 := (hK1.2 tys.length (cA, .long) (by simp)).2
  have e3 : cA = c0 := Option.some.inj (e2.symm.trans e1)
  subst e3
  exact hq ▸ kk a H1 locs ls hP1 hD1 hS1 hl
end XLAW
/-! doubles: two means of the same two numbers -/
theorem xnan {a : UInt64} (h : isNaN64 a = true) (b : UInt64) : FP.dcmp a b = none := by
  refine (FP.Core.dcmp_none a b).mpr (Or.inl ?_)
  rw [← FP.Core.dIsNaN_iff, FP.Core.isNaN_bits]
  have h1 := isNaN64_iff.mp h
  have e := Nat.and_two_pow_sub_one_eq_mod a.toNat 63
  rw [show (0x7fffffffffffffff : Nat) = 2 ^ 63 - 1 from rfl, e] at h1
  exact h1
theorem xnotnan {a : UInt64} (h : ¬ isNaN64 a = true) : FP.dcmp a a = some .eq := by
  refine FP.Core.dcmp_self (fun h2 => h ?_)
  rw [← FP.Core.dIsNaN_iff, FP.Core.isNaN_bits] at h2
  refine isNaN64_iff.mpr ?_
  have e := Nat.and_two_pow_sub_one_eq_mod a.toNat 63
  rw [show (0x7fffffffffffffff : Nat) = 2 ^ 63 - 1 from rfl, e]
  exact h2
theorem xalike {x q : UInt64} (h : alike64 x q = true) : x = q ∨ (isNaN64 x = true ∧ isNaN64 q = true) := by
  unfold alike64 at h
  rcases Bool.or_eq_true_iff.mp h with h | h
  · exact Or.inl (of_decide_eq_true h)
  · exact Or.inr (Bool.and_eq_true_iff.mp h)
theorem xcmp_alike {x y q : UInt64} (hx : alike64 x q = true) (hy : alike64 y q = true) : Op.cmpValue (FP.dcmp x y) .l = 0 ∨ (¬ Op.cmpValue (FP.dcmp x x) .l = 0 ∧ ¬ Op.cmpValue (FP.dcmp y y) .l = 0) := by
  by_cases hq : isNaN64 q = true
  · have h1 : isNaN64 x = true := (xalike hx).elim (fun h => h ▸ hq) (fun h => h.1)
    have h2 : isNaN64 y = true := (xalike hy).elim (fun h => h ▸ hq) (fun h => h.1)
    refine Or.inr ⟨?_, ?_⟩
    · rw [xnan h1]; decide
    · rw [xnan h2]; decide
  · have h1 : x = q := (xalike hx).elim id (fun h => absurd h.2 hq)
    have h2 : y = q := (xalike hy).elim id (fun h => absurd h.2 hq)
    subst h1
    subst h2
    exact Or.inl (by rw [xnotnan hq]; rfl)
theorem xmval {d : Option (Int32 × Int32)} {x y : UInt64} (hx : mval d x) (hy : mval d y) : Op.cmpValue (FP.dcmp x y) .l = 0 ∨ (¬ Op.cmpValue (FP.dcmp x x) .l = 0 ∧ ¬ Op.cmpValue (FP.dcmp y y) .l = 0) := by
  match d, hx, hy with
  | none, hx, hy => exact xcmp_alike (q := FP.dconst0) (by rw [show x = FP.dconst0 from hx]; exact alike64_refl _) (by rw [show y = FP.dconst0 from hy]; exact alike64_refl _)
  | some (a, n), hx, hy => exact xcmp_alike hx hy
theorem lg_cmp_self (x : Int64) : lg_cmp x x = 0 := by
  unfold lg_cmp
  rw [if_neg (by simp), if_pos rfl]
/-! what a caller knows of the methods that the law calls -/
theorem yi_X3_corner : xY yX3_corner wsX3_corner cX3_corner 2 (some .int) 1 := ⟨⟨_, rfl⟩, by decide +kernel, by decide +kernel, by decide +kernel⟩
theorem yi_X3_street : xY yX3_street wsX3_street cX3_street 5 (some .int) 3 := ⟨⟨_, rfl⟩, by decide +kernel, by decide +kernel, by decide +kernel⟩
theorem yi_X3_lamp : xY yX3_lamp wsX3_lamp cX3_lamp 4 (some .int) 2 := ⟨⟨_, rfl⟩, by decide +kernel, by decide +kernel, by decide +kernel⟩
theorem yi_X3_lid : xY yX3_lid wsX3_lid cX3_lid 4 (some .int) 2 := ⟨⟨_, rfl⟩, by decide +kernel, by decide +kernel, by decide +kernel⟩
theorem yi_X3_setWind : xY yX3_setWind wsX3_setWind cX3_setWind 4 (some .int) 2 := ⟨⟨_, rfl⟩, by decide +kernel, by decide +kernel, by decide +kernel⟩
theorem yi_X3_hire : xY yX3_hire wsX3_hire cX3_hire 5 (some .int) 3 := ⟨⟨_, rfl⟩, by decide +kernel, by decide +kernel, by decide +kernel⟩
theorem yi_X3_round : xY yX3_round wsX3_round cX3_round 6 (some .int) 2 := ⟨⟨_, rfl⟩, by decide +kernel, by decide +kernel, by decide +kernel⟩
theorem yi_X3_fill : xY yX3_fill wsX3_fill cX3_fill 3 (some .int) 2 := ⟨⟨_, rfl⟩, by decide +kernel, by decide +kernel, by decide +kernel⟩
theorem yi_X3_way : xY yX3_way wsX3_way cX3_way 3 (some .int) 2 := ⟨⟨_, rfl⟩, by decide +kernel, by decide +kernel, by decide +kernel⟩
theorem yi_X3_told : xY yX3_told wsX3_told cX3_told 3 (some .int) 2 := ⟨⟨_, rfl⟩, by decide +kernel, by decide +kernel, by decide +kernel⟩
theorem yi_X3_lighter : xY yX3_lighter wsX3_lighter cX3_lighter 3 (some .int) 2 := ⟨⟨_, rfl⟩, by decide +kernel, by decide +kernel, by decide +kernel⟩
theorem yi_X3_burning : xY yX3_burning wsX3_burning cX3_burning 2 (some .int) 1 := ⟨⟨_, rfl⟩, by decide +kernel, by decide +kernel, by decide +kernel⟩
theorem yi_X3_count : xY yX3_count wsX3_count cX3_count 2 (some .int) 1 := ⟨⟨_, rfl⟩, by decide +kernel, by decide +kernel, by decide +kernel⟩
theorem yi_X3_pass : xY yX3_pass wsX3_pass cX3_pass 3 (some .int) 1 := ⟨⟨_, rfl⟩, by decide +kernel, by decide +kernel, by decide +kernel⟩
theorem yi_X3_dawn : xY yX3_dawn wsX3_dawn cX3_dawn 3 (some .int) 0 := ⟨⟨_, rfl⟩, by decide +kernel, by decide +kernel, by decide +kernel⟩
theorem yi_X3_comes : xY yX3_comes wsX3_comes cX3_comes 5 (some .int) 1 := ⟨⟨_, rfl⟩, by decide +kernel, by decide +kernel, by decide +kernel⟩
theorem yi_X3_darkest : xY yX3_darkest wsX3_darkest cX3_darkest 5 (some .int) 0 := ⟨⟨_, rfl⟩, by decide +kernel, by decide +kernel, by decide +kernel⟩
theorem yi_X3_needs : xY yX3_needs wsX3_needs cX3_needs 7 (some .int) 1 := ⟨⟨_, rfl⟩, by decide +kernel, by decide +kernel, by decide +kernel⟩
theorem yi_X3_foresee : xY yX3_foresee wsX3_foresee cX3_foresee 6 (some .int) 2 := ⟨⟨_, rfl⟩, by decide +kernel, by decide +kernel, by decide +kernel⟩
theorem yi_X3_mean : xY yX3_mean wsX3_mean cX3_mean 1 (some .double) 0 := ⟨⟨_, rfl⟩, by decide +kernel, by decide +kernel, by decide +kernel⟩
theorem yi_X3_digest : xY yX3_digest wsX3_digest cX3_digest 7 (some .long) 0 := ⟨⟨_, rfl⟩, by decide +kernel, by decide +kernel, by decide +kernel⟩
theorem yi_X3_thrown : xY yX3_thrown wsX3_thrown cX3_thrown 1 (some .int) 0 := ⟨⟨_, rfl⟩, by decide +kernel, by decide +kernel, by decide +kernel⟩
theorem yi_X2_darkest : xY yX2_darkest wsX2_darkest cX2_darkest 3 (some .int) 0 := ⟨⟨_, rfl⟩, by decide +kernel, by decide +kernel, by decide +kernel⟩
theorem yi_X2_mean : xY yX2_mean wsX2_mean cX2_mean 1 (some .double) 0 := ⟨⟨_, rfl⟩, by decide +kernel, by decide +kernel, by decide +kernel⟩
theorem yi_X2_digest : xY yX2_digest wsX2_digest cX2_digest 4 (some .long) 0 := ⟨⟨_, rfl⟩, by decide +kernel, by decide +kernel, by decide +kernel⟩
/-! the law's world -/
def xLw (y : Nat → ClassId) (aH : Nat) (aG aN aF aT aM aO : Nat → Nat) (G N F T M : St) (O : Nat → Int64) : va_W := hW y aH aG aN aF aT G N F T ++ (mC y aM M ++ oC y aO O)
abbrev xLL (b aH : Nat) (aM aO : Nat → Nat) (i : Int32) : List (Nat × Value) := [(0, .ref b), (1, .ref aH), (2, .ref (aM 0)), (3, .ref (aO 0)), (4, .int i)]
abbrev xL5 (b aH : Nat) (aM aO : Nat → Nat) (i k0 : Int32) : List (Nat × Value) := [(0, .ref b), (1, .ref aH), (2, .ref (aM 0)), (3, .ref (aO 0)), (4, .int i), (5, .int k0)]
abbrev xL6 (b aH : Nat) (aM aO : Nat → Nat) (i k0 r0 : Int32) : List (Nat × Value) := [(0, .ref b), (1, .ref aH), (2, .ref (aM 0)), (3, .ref (aO 0)), (4, .int i), (5, .int k0), (6, .int r0)]
theorem pl_w {α : Type} (h m o : List α) : (h ++ (m ++ o)).Perm ((h ++ o) ++ m) := by
  classical
  exact List.perm_iff_count.mpr fun a => by simp only [List.count_append]; omega
theorem pl_m {α : Type} (h m o : List α) : (h ++ (m ++ o)).Perm (m ++ (h ++ o)) := by
  classical
  exact List.perm_iff_count.mpr fun a => by simp only [List.count_append]; omega
section XLAW2
variable {p : Program} {l : Launch} {e : Env} {s : State} {m : MethodId} {below : List Frame} {meth : Method} {c : Code} {Q : State → Prop}
variable {D : va_G} {A : Nat → Prop} {b Ln : Nat} {xs : Nat → Int32} {y : Nat → ClassId} {aH : Nat} {aG aN aF aT aM aO : Nat → Nat} {G N F T M : St} {O : Nat → Int64}
variable {ws : va_W} {k n pc q : Nat} {L : List (Nat × Value)} {st : List Value} {i : Int32}
abbrev xCL (p : Program) (s : State) (m : MethodId) (b : Nat) (meth : Method) (c : Code) (D : va_G) (A : Nat → Prop) (y : Nat → ClassId) : Prop := xC p s m #[Value.ref b] meth c D A cL_law RL 9 wsL_law (xT y) ret
/-- an int of the script -/
theorem xl_ld (C : xCL p s m b meth c D A y) (hX : xS b Ln xs s A) (j : Nat) {i0 : Nat} (hi : i = nI i0) (hlt : i0 + j < Ln) (hLn : Ln ≤ 2048) {n1 : Int} (hn1 : Int32.ofInt n1 = nI j) (d0 : decode cL_law pc = .ok (.aload_n 0, 1)) (d1 : decode cL_law (pc + 1) = .ok (.iload 4, 2)) (d3 : decode cL_law (pc + 3) = .ok (.iconst n1, 1)) (d4 : decode cL_law (pc + 4) = .ok (.iadd, 1)) (d5 : decode cL_law (pc + 5) = .ok (.iaload, 1)) (h0 : L[0]? = some (0, .ref b)) (h4 : L[4]? = some (4, .int i)) (hq : pc + 6 = q) (kk : xV p l e room_1 s m #[Value.ref b] below meth c D A Q 9 ws k n L q (.int (xs (i0 + j)) :: st)) : xV p l e room_1 s m #[Value.ref b] below meth c D A Q 9 ws k n L pc st := by
  refine x_aload_n (q := pc + 1) C 0 d0 rfl h0 rfl ?_
  refine x_iload (q := pc + 3) C 4 d1 h4 rfl ?_
  refine x_iconst (q := pc + 4) C d3 hn1 rfl ?_
  refine x_iadd (q := pc + 5) C d4 rfl ?_
  have e1 : i + nI j = nI (i0 + j) := by rw [hi]; exact z_add
  rw [e1]
  refine x_sld (q := q) C hX (vp_in_nI hlt (by omega)) d5 hq ?_
  rw [nI_clamp (by omega)]
  exact kk
/-- behind a call of both sides: what was thrown, what was answered -/
theorem xl_cmp (P : Nat) {k0 r0 : Int32} (C : xCL p s m b meth c D A y) (hk : k + 100 ≤ room_1.cells) (hn : n + 1000 ≤ room_1.slots) (hM : M 0 0 = k0) (hO : k0 = 0 → O (0 : Int32).toNatClampNeg = r0.toInt64) {off : Int} (hoff : (P : Int) + 28 + off = 1356)
    (e0 : decode cL_law P = .ok (.aload_n 2, 1)) (e1 : decode cL_law (P + 1) = .ok (.invokevirtual 83, 3)) (e4 : decode cL_law (P + 4) = .ok (.iload 5, 2)) (e6 : decode cL_law (P + 6) = .ok (.if_icmp .eq 5, 3)) (e11 : decode cL_law (P + 11) = .ok (.iload 5, 2)) (e13 : decode cL_law (P + 13) = .ok (.ifCond .ne 15, 3)) (e16 : decode cL_law (P + 16) = .ok (.aload_n 3, 1)) (e17 : decode cL_law (P + 17) = .ok (.iconst 0, 1)) (e18 : decode cL_law (P + 18) = .ok (.laload, 1)) (e19 : decode cL_law (P + 19) = .ok (.iload 6, 2)) (e21 : decode cL_law (P + 21) = .ok (.i2l, 1)) (e22 : decode cL_law (P + 22) = .ok (.lcmp, 1)) (e23 : decode cL_law (P + 23) = .ok (.ifCond .eq 5, 3)) (e28 : decode cL_law (P + 28) = .ok (.goto off, 3))
    (kk : xV p l e room_1 s m #[Value.ref b] below meth c D A Q 9 (xLw y aH aG aN aF aT aM aO G N F T M O) k n (xLL b aH aM aO i) 1356 []) : xV p l e room_1 s m #[Value.ref b] below meth c D A Q 9 (xLw y aH aG aN aF aT aM aO G N F T M O) k n (xL6 b aH aM aO i k0 r0) P [] := by
  refine x_aload_n (q := P + 1) C 2 e0 rfl rfl rfl ?_
  refine x_callVi (q := P + 4) C (c3_thrown (l := l) (D := D) (y := y) (aM := aM) (M := M) (r := M 0 0) rfl) yi_X3_thrown gL_law_X3_thrown rfl (oX3 y aM M) rfl ⟨Nat.le_of_ble_eq_true rfl, Nat.le_of_ble_eq_true rfl⟩ e1 (pl_m _ _ _) rfl rfl (Nat.le_of_ble_eq_true rfl) ⟨by omega, by omega⟩ rfl ?_
  intro rr uu hrr
  have hrr : rr = k0 := hrr.trans hM
  subst hrr
  refine x_perm (ws' := xLw y aH aG aN aF aT aM aO G N F T M O) (pl_m _ _ _).symm ?_
  refine x_iload (q := P + 6) C 5 e4 rfl rfl ?_
  refine x_icmp_eq (t := P + 11) (q := P + 9) C e6 (by omega) rfl (fun _ => ?_) (fun hc => absurd rfl hc)
  have kg : xV p l e room_1 s m #[Value.ref b] below meth c D A Q 9 (xLw y aH aG aN aF aT aM aO G N F T M O) k n (xL6 b aH aM aO i rr r0) (P + 28) [] := by
    refine x_goto (t := 1356) C e28 (by omega) ?_
    exact x_sub [0, 1, 2, 3, 4] rfl kk
  refine x_iload (q := P + 13) C 5 e11 rfl rfl ?_
  refine x_if_ne (t := P + 28) (q := P + 16) C e13 (by omega) rfl (fun _ => kg) (fun hc => ?_)
  refine x_aload_n (q := P + 17) C 3 e16 rfl rfl rfl ?_
  refine x_iconst (v := 0) (q := P + 18) C e17 rfl rfl ?_
  refine x_lald (q := P + 19) C 3 e18 (((oA y aO O).R).R) rfl rfl rfl ?_
  refine x_iload (q := P + 21) C 6 e19 rfl rfl ?_
  refine x_i2l (q := P + 22) C e21 rfl ?_
  refine x_lcmp (q := P + 23) C e22 rfl ?_
  rw [hO hc]
  exact x_if_eq (t := P + 28) (q := P + 26) C e23 (by omega) rfl (fun _ => kg) (fun h => absurd (lg_cmp_self _) h)
end XLAW2
