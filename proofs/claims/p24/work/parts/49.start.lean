/-! WHAT THE START GIVES, and the law from its entry -/
theorem law_D {s : State} {args : Array Value} (hts : ∀ w ∈ lw_tbl, w.before args s = true) : ∃ D : va_G, ∀ (k : Nat) (q : vw_C), vwCl[k]? = some q → u_Kn s q.1 q.2.1 q.2.2 (D.1 k) (D.2 k) := by
  obtain ⟨c0, i0, h0⟩ := u_known (C := RX0) (T := TX0) (N := 16) (n := 16) hts inX0 (hts _ (by decide +kernel))
  obtain ⟨c1, i1, h1⟩ := u_known (C := RX1) (T := TX1) (N := 17) (n := 17) hts inX1 (hts _ (by decide +kernel))
  obtain ⟨c2, i2, h2⟩ := u_known (C := RX2) (T := TX2) (N := 4) (n := 4) hts inX2 (hts _ (by decide +kernel))
  obtain ⟨c3, i3, h3⟩ := u_known (C := RX3) (T := TX3) (N := 10) (n := 10) hts inX3 (hts _ (by decide +kernel))
  refine ⟨(fun k => match k with | 0 => c0 | 1 => c1 | 2 => c2 | _ => c3, fun k => match k with | 0 => i0 | 1 => i1 | 2 => i2 | _ => i3), ?_⟩
  intro k q hq
  match k, hq with
  | 0, hq => cases hq; exact h0
  | 1, hq => cases hq; exact h1
  | 2, hq => cases hq; exact h2
  | 3, hq => cases hq; exact h3
  | k + 4, hq => simp at hq
theorem xar_of {s : State} {args : Array Value} {t : FieldType} (h : (Cond.arrayClass t).before args s = true) (hr : ∀ c : ClassId, s.vm.findClass ("[" ++ t.toString) = some c → va_RA s c t) : ∃ cA : ClassId, ArrOfT s cA t ∧ va_RA s cA t := by
  obtain ⟨c, k, comp, h1, h2, h3⟩ := Cond.arrayClass_spec h
  exact ⟨c, fun n z => ⟨fun k h => by simp [arrV] at h, k, h2, comp, h3⟩, hr c h1⟩
theorem xar_over {s : State} {args : Array Value} (h : (Cond.arrayOver (.array .int)).before args s = true) : ∃ cA : ClassId, ArrOfT s cA (.array .int) ∧ va_RA s cA (.array .int) := by
  obtain ⟨comp, c, k, -, h2, h3, h1⟩ := Cond.arrayOver_specA h
  exact ⟨c, fun n z => ⟨fun k h => by simp [arrV] at h, k, h2, comp, h3⟩, h1⟩
theorem law_xT {s : State} {args : Array Value} (hts : ∀ w ∈ lw_tbl, w.before args s = true) : ∃ y : Nat → ClassId, ∀ (k : Nat) (q : ClassId × FieldType), (xT y)[k]? = some q → ArrOfT s q.1 q.2 ∧ va_RA s q.1 q.2 := by
  obtain ⟨c0, h0⟩ := xar_of (t := .int) (hts _ (by decide +kernel)) (fun c h => h)
  obtain ⟨c1, h1⟩ := xar_of (t := .boolean) (hts _ (by decide +kernel)) (fun c h => h)
  obtain ⟨c2, h2⟩ := xar_over (s := s) (hts _ (by decide +kernel))
  refine ⟨fun k => match k with | 0 => c0 | 1 => c1 | _ => c2, ?_⟩
  intro k q hq
  match k, hq with
  | 0, hq => cases hq; exact h0
  | 1, hq => cases hq; exact h1
  | 2, hq => cases hq; exact h2
  | k + 3, hq => simp [xT] at hq
theorem law_xJ2 {s : State} {args : Array Value} (hts : ∀ w ∈ lw_tbl, w.before args s = true) : xJ2 s :=
  ⟨va_Nw.of rfl (hts _ (by decide +kernel)), over_moved (a := args) (a' := #[]) (u := s) (E := s) (t := .int) (Vm.Alike.refl s.vm) (hts _ (by decide +kernel)), va_Nw.of rfl (hts _ (by decide +kernel)), va_Nw.of rfl (hts _ (by decide +kernel))⟩
theorem whole_start {p : Program} {e : Env} {s : State} {m : MethodId} {below : List Frame} {meth : Method} {c : Code} (l : Launch) (_hflags : l.flags = flags0) {b L : Nat} {xs : Nat → Int32} (hL : L ≤ 260) (C0 : lw_At p s m meth c b L xs) : W p l e room_1 s m #[Value.ref b] below meth c s.heap [] 0 0 (lw_Z below #[Value.ref b] s) (entryFrame m ([Value.ref b] : List Value).toArray 27) := by
  obtain ⟨hx, hb, hr, hml, hown, hts, hX, hbl, hlocks, hgv⟩ := C0
  obtain ⟨D, hKc⟩ := law_D hts
  obtain ⟨y, hKt⟩ := law_xT hts
  have hK : va_K D vwCl (xT y) s := ⟨hKc, hKt⟩
  have C : xCL p (s.setDrawn s.drawn) m b meth c D (fun q : Nat => s.heap.size ≤ q) y := ⟨hx, hb, hml, hown, dr_words (fun w h => hts w (wsL_law_in w h)) s.drawn, hK, hr, hlocks, fun q h => h⟩
  refine W.base ?_
  have hl : lv_has _ 27 [(0, Value.ref b)] := lv_entry ([Value.ref b]) (n := 27) (Nat.le_of_ble_eq_true rfl)
  obtain ⟨N1, T1, S1, N2, F2, T2, S2, Y1, Y2, v, f1, f2, f3, f4, f5, f6⟩ := y_all (xs := xs) hL
  have key := law_entry (l := l) (e := e) (below := below) (law_xJ2 hts) ⟨hX, hbl, Nat.not_le.mpr hbl⟩ (fun q h => h) C f1 f2 f3 f4 f5 f6 s.heap [] _ (fun k q h => by simp at h) ⟨fun i j p q h => by simp at h, fun k q h => by simp at h⟩ va_S.rf hl
  rw [← lg_entry_eq] at key
  exact key
