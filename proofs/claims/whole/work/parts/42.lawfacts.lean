/-! WHAT THE START GIVES: the kinds of arrays, the texts, what can be caught, the two statics of Throwable -/
theorem xar_of {s : State} {args : Array Value} {t : FieldType} (h : (Cond.arrayClass t).before args s = true) (hr : ∀ c : ClassId, s.vm.findClass ("[" ++ t.toString) = some c → va_RA s c t) : ∃ cA : ClassId, ArrOfT s cA t ∧ va_RA s cA t := by
  obtain ⟨c, k, comp, h1, h2, h3⟩ := Cond.arrayClass_spec h
  exact ⟨c, fun n z => ⟨fun k h => by simp [arrV] at h, k, h2, comp, h3⟩, hr c h1⟩
theorem xar_over {s : State} {args : Array Value} (h : (Cond.arrayOver (.array .int)).before args s = true) : ∃ cA : ClassId, ArrOfT s cA (.array .int) ∧ va_RA s cA (.array .int) := by
  obtain ⟨comp, c, k, -, h2, h3, h1⟩ := Cond.arrayOver_specA h
  exact ⟨c, fun n z => ⟨fun k h => by simp [arrV] at h, k, h2, comp, h3⟩, h1⟩
theorem law_xT {s : State} {args : Array Value} (hts : ∀ w ∈ lw_tbl, w.before args s = true) : ∃ y : Nat → ClassId, ∀ (k : Nat) (q : ClassId × FieldType), (xT y)[k]? = some q → ArrOfT s q.1 q.2 ∧ va_RA s q.1 q.2 := by
  obtain ⟨c0, h0⟩ := xar_of (t := .int) (hts _ (by decide +kernel)) (fun c h => h)
  obtain ⟨c1, h1⟩ := xar_of (t := .boolean) (hts _ (by decide +kernel)) (fun c h => h)
  obtain ⟨c2, h2⟩ := xar_over (s := s) (hts _ (by decide +kernel))
  obtain ⟨c3, h3⟩ := xar_of (t := .long) (hts _ (by decide +kernel)) (fun c h => h)
  refine ⟨fun k => match k with | 0 => c0 | 1 => c1 | 2 => c2 | _ => c3, ?_⟩
  intro k q hq
  match k, hq with
  | 0, hq => cases hq; exact h0
  | 1, hq => cases hq; exact h1
  | 2, hq => cases hq; exact h2
  | 3, hq => cases hq; exact h3
  | k + 4, hq => simp [xT] at hq
theorem law_decl {s : State} {args : Array Value} {x : MethodName} {bytes : ByteArray} {ml : Nat} {rt : Option FieldType} (h1 : (Cond.instanceMethod x).before args s = true) (h2 : (Cond.code x bytes ml rt).before args s = true) : va_Nw (.declares x) s := by
  obtain ⟨m, meth, a, b, c, d⟩ := Cond.instanceMethod_spec h1
  obtain ⟨meth2, cc, e1, -, -, -, -, -, -, e2⟩ := Cond.code_spec a h2
  have e3 : meth = meth2 := Option.some.inj (b.symm.trans e1)
  subst e3
  show (Cond.declares x).before #[] s = true
  simp [Cond.before, Cond.holds, Cond.value, a, b, c, e2]
theorem law_xJ {s : State} {args : Array Value} (hts : ∀ w ∈ lw_tbl, w.before args s = true) (hgv : (Jvm.Cond.and given_1 narrow_1).before args s = true) : xJ s := by
  have hs := flat_of_before _ hgv
  have hstr : ∀ (k : Nat) (tx : String), Cond.stringRef RX2 k tx ∈ lw_tbl → Cond.exactly (.string RX2 k) "java/lang/String" ∈ flatC (Jvm.Cond.and given_1 narrow_1) → ∃ a, vk_R RX2 k tx a s := fun k tx h1 h2 => by
    obtain ⟨a, c, cell, kk, q1, -⟩ := Cond.exactly_spec (hs _ h2)
    exact ⟨a, vk_R.of (hts _ h1) q1⟩
  refine ⟨?_, ?_, ?_, ?_⟩
  · intro q hq
    simp only [xStr, List.mem_cons, List.not_mem_nil, or_false] at hq
    rcases hq with rfl | rfl | rfl | rfl | rfl | rfl
    · exact hstr _ _ (by decide +kernel) (by decide +kernel)
    · exact hstr _ _ (by decide +kernel) (by decide +kernel)
    · exact hstr _ _ (by decide +kernel) (by decide +kernel)
    · exact hstr _ _ (by decide +kernel) (by decide +kernel)
    · exact hstr _ _ (by decide +kernel) (by decide +kernel)
    · exact hstr _ _ (by decide +kernel) (by decide +kernel)
  · intro E hE
    simp only [List.mem_cons, List.not_mem_nil, or_false] at hE
    rcases hE with rfl | rfl | rfl
    · exact va_Nw.of rfl (hts _ (by decide +kernel))
    · exact va_Nw.of rfl (hts _ (by decide +kernel))
    · exact va_Nw.of rfl (hts _ (by decide +kernel))
  · intro x hx
    simp only [xBadD, List.mem_cons, List.not_mem_nil, or_false] at hx
    rcases hx with rfl | rfl | rfl | rfl | rfl | rfl
    · exact law_decl (hts _ (by decide +kernel)) (hts (.code ⟨"java/lang/IllegalArgumentException", "<init>", "(Ljava/lang/String;)V"⟩ prog_8_method_2_code 2 none) (by decide +kernel))
    · exact law_decl (hts _ (by decide +kernel)) (hts (.code ⟨"java/lang/IllegalStateException", "<init>", "(Ljava/lang/String;)V"⟩ prog_9_method_2_code 2 none) (by decide +kernel))
    · exact law_decl (hts _ (by decide +kernel)) (hts (.code ⟨"java/lang/IndexOutOfBoundsException", "<init>", "(Ljava/lang/String;)V"⟩ prog_10_method_2_code 2 none) (by decide +kernel))
    · exact va_Nw.of rfl (hts _ (by decide +kernel))
    · exact va_Nw.of rfl (hts _ (by decide +kernel))
    · exact va_Nw.of rfl (hts _ (by decide +kernel))
  · intro q hq
    simp only [xBadN, List.mem_cons, List.not_mem_nil, or_false] at hq
    rcases hq with rfl | rfl | rfl | rfl | rfl | rfl
    · exact va_Nc.of (hs _ (by decide +kernel))
    · exact va_Nc.of (hs _ (by decide +kernel))
    · exact va_Nc.of (hs _ (by decide +kernel))
    · exact va_Nc.of (hs _ (by decide +kernel))
    · exact va_Nc.of (hs _ (by decide +kernel))
    · exact va_Nc.of (hs _ (by decide +kernel))
theorem law_xJ2 {s : State} {args : Array Value} (hts : ∀ w ∈ lw_tbl, w.before args s = true) : xJ2 s :=
  ⟨va_Nw.of rfl (hts _ (by decide +kernel)), over_moved (a := args) (a' := #[]) (u := s) (E := s) (t := .int) (Vm.Alike.refl s.vm) (hts _ (by decide +kernel)), va_Nw.of rfl (hts _ (by decide +kernel)), va_Nw.of rfl (hts _ (by decide +kernel))⟩
theorem law_xZ {s : State} {args : Array Value} {A : Nat → Prop} (hts : ∀ w ∈ lw_tbl, w.before args s = true) (hgv : (Jvm.Cond.and given_1 narrow_1).before args s = true) (hA : ∀ a : Nat, a < s.heap.size → ¬ A a) : xZ A s s.heap :=
  ⟨vx_Zqof (args := args) (hts _ (by decide +kernel)) (hts _ (by decide +kernel)) (flat_of_before _ hgv _ (by decide +kernel)) hA, vx_Zqof (args := args) (hts _ (by decide +kernel)) (hts _ (by decide +kernel)) (flat_of_before _ hgv _ (by decide +kernel)) hA⟩
theorem xT2_d {l : Launch} {s : State} {A : Nat → Prop} (h : xT2 l s A) (d1 : Drawn) : xT2 l (s.setDrawn d1) A :=
  ⟨h.1, xJ.same (u := s) (U := s.setDrawn d1) rfl h.2.1, vx_Zq.moved (u := s) (U := s.setDrawn d1) (Vm.Alike.refl s.vm) h.2.2.1, vx_Zq.moved (u := s) (U := s.setDrawn d1) (Vm.Alike.refl s.vm) h.2.2.2⟩
theorem xJ2_d {s : State} (h : xJ2 s) (d1 : Drawn) : xJ2 (s.setDrawn d1) := xJ2.same (u := s) (U := s.setDrawn d1) rfl h
theorem xS_d {b Ln : Nat} {xs : Nat → Int32} {s : State} {A : Nat → Prop} (h : xS b Ln xs s A) (d1 : Drawn) : xS b Ln xs (s.setDrawn d1) A := h
theorem flags_nt {l : Launch} (h : l.flags = flags0) : l.stackTraces = false := by
  unfold Launch.stackTraces
  rw [h]
  decide +kernel
theorem law_D {s : State} {args : Array Value} (hts : ∀ w ∈ lw_tbl, w.before args s = true) : ∃ D : va_G, ∀ (k : Nat) (q : vw_C), vwCl[k]? = some q → u_Kn s q.1 q.2.1 q.2.2 (D.1 k) (D.2 k) := by
  obtain ⟨c0, i0, h0⟩ := u_known (C := RX0) (T := TX0) (N := 16) (n := 16) hts inX0 (hts _ (by decide +kernel))
  obtain ⟨c1, i1, h1⟩ := u_known (C := RX1) (T := TX1) (N := 17) (n := 17) hts inX1 (hts _ (by decide +kernel))
  obtain ⟨c2, i2, h2⟩ := u_known (C := RX2) (T := TX2) (N := 4) (n := 4) hts inX2 (hts _ (by decide +kernel))
  obtain ⟨c3, i3, h3⟩ := u_known (C := RX3) (T := TX3) (N := 13) (n := 13) hts inX3 (hts _ (by decide +kernel))
  refine ⟨(fun k => match k with | 0 => c0 | 1 => c1 | 2 => c2 | _ => c3, fun k => match k with | 0 => i0 | 1 => i1 | 2 => i2 | _ => i3), ?_⟩
  intro k q hq
  match k, hq with
  | 0, hq => cases hq; exact h0
  | 1, hq => cases hq; exact h1
  | 2, hq => cases hq; exact h2
  | 3, hq => cases hq; exact h3
  | k + 4, hq => simp at hq
