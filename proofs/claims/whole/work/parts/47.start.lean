theorem whole_start {p : Program} {e : Env} {s : State} {m : MethodId} {below : List Frame} {meth : Method} {c : Code} (l : Launch) (hflags : l.flags = flags0) {b L : Nat} {xs : Nat → Int32} (hL : L ≤ 2048) (C0 : lw_At p s m meth c b L xs) : W p l e room_1 s m #[Value.ref b] below meth c s.heap [] 0 0 (lw_Z below #[Value.ref b] s) (entryFrame m ([Value.ref b] : List Value).toArray 9) := by
  obtain ⟨hx, hb, hr, hml, hown, hts, hX, hbl, hlocks, hgv⟩ := C0
  obtain ⟨D, hKc⟩ := law_D hts
  obtain ⟨y, hKt⟩ := law_xT hts
  have hK : va_K D vwCl (xT y) s := ⟨hKc, hKt⟩
  have hA : ∀ a : Nat, a < s.heap.size → ¬ (fun q : Nat => s.heap.size ≤ q) a := fun a h => Nat.not_le.mpr h
  have C : xCL p (s.setDrawn s.drawn) m b meth c D (fun q : Nat => s.heap.size ≤ q) y := ⟨hx, hb, hml, hown, dr_words (fun w h => hts w (wsL_law_in w h)) s.drawn, hK, hr, hlocks, fun q h => h⟩
  refine W.base ?_
  have hl : lv_has _ 9 [(0, Value.ref b)] := lv_entry ([Value.ref b]) (n := 9) (Nat.le_of_ble_eq_true rfl)
  have key := law_entry (l := l) (e := e) (below := below) ⟨flags_nt hflags, law_xJ hts hgv, law_xZ hts hgv hA⟩ (law_xJ2 hts) ⟨hX, hbl, Nat.not_le.mpr hbl⟩ hL (fun q h => h) C s.heap [] _ (fun k q h => by simp at h) ⟨fun i j p q h => by simp at h, fun k q h => by simp at h⟩ va_S.rf hl
  rw [← lg_entry_eq] at key
  exact key
