/-! THE WALKER'S OWN ROWS: one judgement xV (a point of a walk, for any heap that holds a world and any locals that hold a list), and a row an instruction over it -/
theorem xP_mem {D : va_G} {cl : List vw_C} {ws : va_W} {H : Heap} : va_P D cl ws H ↔ ∀ q ∈ ws, va_at D cl q H := by
  constructor
  · intro h q hq
    obtain ⟨i, hi⟩ := List.getElem?_of_mem hq
    exact h i q hi
  · intro h k q hk
    exact h q (List.mem_of_getElem? hk)
theorem xP_perm {D : va_G} {cl : List vw_C} {ws ws' : va_W} {H : Heap} (hp : ws.Perm ws') (h : va_P D cl ws H) : va_P D cl ws' H :=
  xP_mem.mpr fun q hq => xP_mem.mp h q (hp.mem_iff.mpr hq)
theorem xD_nd {A : Nat → Prop} {ws : va_W} : va_D A ws ↔ (ws.map Prod.fst).Nodup ∧ ∀ q ∈ ws, A q.1 := by
  constructor
  · intro h
    refine ⟨?_, fun q hq => ?_⟩
    · unfold List.Nodup
      rw [List.pairwise_iff_getElem]
      intro i j hi hj hij e
      rw [List.length_map] at hi hj
      rw [List.getElem_map, List.getElem_map] at e
      have := h.1 i j ws[i] ws[j] (List.getElem?_eq_getElem hi) (List.getElem?_eq_getElem hj) e
      omega
    · obtain ⟨i, hi⟩ := List.getElem?_of_mem hq
      exact h.2 i q hi
  · intro h
    refine ⟨fun i j p q hi hj e => ?_, fun k q hk => h.2 q (List.mem_of_getElem? hk)⟩
    have h1 := h.1
    unfold List.Nodup at h1
    rw [List.pairwise_iff_getElem] at h1
    obtain ⟨li, ei⟩ := List.getElem?_eq_some_iff.mp hi
    obtain ⟨lj, ej⟩ := List.getElem?_eq_some_iff.mp hj
    rcases Nat.lt_trichotomy i j with x | x | x
    · exact absurd (by rw [List.getElem_map, List.getElem_map, ei, ej]; exact e) (h1 i j (by rw [List.length_map]; exact li) (by rw [List.length_map]; exact lj) x)
    · exact x
    · exact absurd (by rw [List.getElem_map, List.getElem_map, ei, ej]; exact e.symm) (h1 j i (by rw [List.length_map]; exact lj) (by rw [List.length_map]; exact li) x)
theorem xD_perm {A : Nat → Prop} {ws ws' : va_W} (hp : ws.Perm ws') (h : va_D A ws) : va_D A ws' :=
  xD_nd.mpr ⟨(hp.map Prod.fst).nodup_iff.mp (xD_nd.mp h).1, fun q hq => (xD_nd.mp h).2 q (hp.mem_iff.mpr hq)⟩
theorem xP_left {D : va_G} {cl : List vw_C} {a b : va_W} {H : Heap} (h : va_P D cl (a ++ b) H) : va_P D cl a H := xP_mem.mpr fun q hq => xP_mem.mp h q (List.mem_append_left _ hq)
theorem xP_right {D : va_G} {cl : List vw_C} {a b : va_W} {H : Heap} (h : va_P D cl (a ++ b) H) : va_P D cl b H := xP_mem.mpr fun q hq => xP_mem.mp h q (List.mem_append_right _ hq)
theorem xD_left {A : Nat → Prop} {a b : va_W} (h : va_D A (a ++ b)) : va_D A a := by
  rw [xD_nd, List.map_append, List.nodup_append] at h
  exact xD_nd.mpr ⟨h.1.1, fun q hq => h.2 q (List.mem_append_left _ hq)⟩
theorem xD_right {A : Nat → Prop} {a b : va_W} (h : va_D A (a ++ b)) : va_D A b := by
  rw [xD_nd, List.map_append, List.nodup_append] at h
  exact xD_nd.mpr ⟨h.1.2.1, fun q hq => h.2 q (List.mem_append_right _ hq)⟩
theorem xD_ne {A : Nat → Prop} {a b : va_W} (h : va_D A (a ++ b)) {x y : Nat × va_E} (hx : x ∈ a) (hy : y ∈ b) : x.1 ≠ y.1 := by
  rw [xD_nd, List.map_append, List.nodup_append] at h
  exact h.1.2.2 _ (List.mem_map.mpr ⟨x, hx, rfl⟩) _ (List.mem_map.mpr ⟨y, hy, rfl⟩)
/-- the callee's world back, beside the rest -/
theorem xJoin {A : Nat → Prop} {D : va_G} {cl : List vw_C} {wc wr w1 : va_W} {H H1 : Heap} (hP : va_P D cl (wc ++ wr) H) (hD : va_D A (wc ++ wr)) (hF : ∀ q, va_A wc H.size q → A q) (hk : ∀ q : Nat, q < H.size → ¬ va_A wc H.size q → H1[q]? = H[q]?) (hP1 : va_P D cl w1 H1) (hD1 : va_D (va_A wc H.size) w1) : va_P D cl (w1 ++ wr) H1 ∧ va_D A (w1 ++ wr) := by
  have hno : ∀ q ∈ wr, q.1 < H.size ∧ ¬ va_A wc H.size q.1 := by
    intro q hq
    have hl := (xP_mem.mp (xP_right hP) q hq).lt
    refine ⟨hl, ?_⟩
    rintro (⟨k, e, hk⟩ | h)
    · exact xD_ne hD (List.mem_of_getElem? hk) hq rfl
    · omega
  refine ⟨hP1.app ((xP_right hP).kept (fun k q hq => hk _ (hno q (List.mem_of_getElem? hq)).1 (hno q (List.mem_of_getElem? hq)).2)), ?_⟩
  refine va_D.app (hD1.weaken (fun _ _ _ h => hF _ h)) (xD_right hD) (fun i j p q hp hq e => ?_)
  exact (hno q (List.mem_of_getElem? hq)).2 (e ▸ hD1.2 i p hp)
theorem xFree {A : Nat → Prop} {wc wr : va_W} {H0 H : Heap} {locs : List Loc} (hD : va_D A (wc ++ wr)) (hS : va_S A H0 H locs) (hA : ∀ q, H0.size ≤ q → A q) : ∀ q, va_A wc H.size q → A q := by
  rintro q (⟨k, e, hk⟩ | h)
  · exact hD.2 k (q, e) (by rw [List.getElem?_append_left (List.getElem?_eq_some_iff.mp hk).1]; exact hk)
  · exact hA _ (Nat.le_trans hS.1 h)
/-- what a caller knows of a method by its tables: its words begin with its code, how many arguments -/
def xY (y : MethodName) (wsM : List Cond) (bytes : ByteArray) (maxL : Nat) (ret : Option FieldType) (n : Nat) : Prop :=
  (∃ ws', wsM = Cond.code y bytes maxL ret :: ws') ∧ y.cls ≠ "java/lang/invoke/MethodHandle" ∧ y.cls ≠ "java/lang/invoke/VarHandle" ∧ (parseMethodDescriptor y.desc).map (fun d => d.parameters.length) = some n
/-- the end of a method: its world is W' -/
def xE (D : va_G) (tys : List (ClassId × FieldType)) (A : Nat → Prop) (W' : va_W) (t : State) : Prop := va_P D vwCl W' t.heap ∧ va_K D vwCl tys t ∧ va_D A W'
def xPc (D : va_G) (tys : List (ClassId × FieldType)) (av : List Value) (sz : Nat) (Wc : va_W) : Array Value → State → Prop :=
  va_Pc av (fun U => U.heap.size = sz ∧ va_P D vwCl Wc U.heap ∧ va_K D vwCl tys U ∧ va_D (fun _ => True) Wc)
theorem xPc_blind {D : va_G} {tys : List (ClassId × FieldType)} {av : List Value} {sz : Nat} {Wc : va_W} : FrameBlind (xPc D tys av sz Wc) := by
  intro a U g mk q
  obtain ⟨q0, q1, qP, qK, qD⟩ := q
  exact ⟨q0, q1, qP, va_K.moved (u := U) (U := U.calling g mk a) (Vm.Alike.refl U.vm) qK, qD⟩
/-- contracts: from the world Wc with the arguments av; for some u with post, the world W' u -/
def xMi (l : Launch) (y : MethodName) (wsM : List Cond) (rf rl mc ms : Nat) (D : va_G) (tys : List (ClassId × FieldType)) (av : List Value) (Wc : va_W) {S : Type} (post : Int32 → S → Prop) (W' : S → va_W) : Prop :=
  ∀ sz : Nat, Met l y wsM { frames := rf, cells := mc, slots := ms, locals := rl } (xPc D tys av sz Wc) (va_Qi post (fun u t => xE D tys (va_A Wc sz) (W' u) t) (va_A Wc sz)) mc ms (va_A Wc sz)
def xMv (l : Launch) (y : MethodName) (wsM : List Cond) (rf rl mc ms : Nat) (D : va_G) (tys : List (ClassId × FieldType)) (av : List Value) (Wc : va_W) {S : Type} (post : S → Prop) (W' : S → va_W) : Prop :=
  ∀ sz : Nat, Met l y wsM { frames := rf, cells := mc, slots := ms, locals := rl } (xPc D tys av sz Wc) (va_Qv post (fun u t => xE D tys (va_A Wc sz) (W' u) t) (va_A Wc sz)) mc ms (va_A Wc sz)
def xMl (l : Launch) (y : MethodName) (wsM : List Cond) (rf rl mc ms : Nat) (D : va_G) (tys : List (ClassId × FieldType)) (av : List Value) (Wc : va_W) {S : Type} (post : Int64 → S → Prop) (W' : S → va_W) : Prop :=
  ∀ sz : Nat, Met l y wsM { frames := rf, cells := mc, slots := ms, locals := rl } (xPc D tys av sz Wc) (va_Ql post (fun u t => xE D tys (va_A Wc sz) (W' u) t) (va_A Wc sz)) mc ms (va_A Wc sz)
def xMr (l : Launch) (y : MethodName) (wsM : List Cond) (rf rl mc ms : Nat) (D : va_G) (tys : List (ClassId × FieldType)) (av : List Value) (Wc : va_W) {S : Type} (post : S → Prop) (W' : S → Nat → va_W) : Prop :=
  ∀ sz : Nat, Met l y wsM { frames := rf, cells := mc, slots := ms, locals := rl } (xPc D tys av sz Wc) (va_Qr post (fun u a t => xE D tys (va_A Wc sz) (W' u a) t) (va_A Wc sz)) mc ms (va_A Wc sz)
/-- what a place of a world is: an array of ints (of that class), and the world with another content there -/
def xA (ws : va_W) (a : Nat) (cA : ClassId) (n : Nat) (f : Nat → Int32) (G : (Nat → Int32) → va_W) : Prop :=
  ∃ q0 : Nat, ws[q0]? = some (a, .inl (cA, n, .inl f)) ∧ ∀ f' : Nat → Int32, ws.set q0 (a, .inl (cA, n, .inl f')) = G f'
/-- an array of references -/
def xR (ws : va_W) (a : Nat) (cA : ClassId) (n : Nat) (f : Nat → Option Nat) : Prop := ∃ q0 : Nat, ws[q0]? = some (a, .inl (cA, n, .inr (.inr (.inr (.inr f)))))
/-- an object -/
def xO (ws : va_W) (a ci : Nat) (fs : List Value) : Prop := ∃ q0 : Nat, ws[q0]? = some (a, .inr (ci, fs))
/-- an int field of an object, and the world with another number there -/
def xI (ws : va_W) (a ci : Nat) (fs : List Value) (k : Nat) (G : Int32 → va_W) : Prop :=
  ∃ q0 : Nat, ws[q0]? = some (a, .inr (ci, fs)) ∧ k < fs.length ∧ ∀ x : Int32, ws.set q0 (a, .inr (ci, fs.set k (.int x))) = G x
theorem xA.L {ws R : va_W} {a : Nat} {cA : ClassId} {n : Nat} {f : Nat → Int32} {G : (Nat → Int32) → va_W} (h : xA ws a cA n f G) : xA (ws ++ R) a cA n f (fun f' => G f' ++ R) := by
  obtain ⟨q0, h1, h2⟩ := h
  have hl := (List.getElem?_eq_some_iff.mp h1).1
  exact ⟨q0, by rw [List.getElem?_append_left hl]; exact h1, fun f' => by rw [List.set_append_left _ _ hl, h2]⟩
theorem xA.R {ws X : va_W} {a : Nat} {cA : ClassId} {n : Nat} {f : Nat → Int32} {G : (Nat → Int32) → va_W} (h : xA ws a cA n f G) : xA (X ++ ws) a cA n f (fun f' => X ++ G f') := by
  obtain ⟨q0, h1, h2⟩ := h
  exact ⟨X.length + q0, by rw [List.getElem?_append_right (Nat.le_add_right _ _), Nat.add_sub_cancel_left]; exact h1, fun f' => by rw [List.set_append_right _ _ (Nat.le_add_right _ _), Nat.add_sub_cancel_left, h2]⟩
theorem xR.L {ws R : va_W} {a : Nat} {cA : ClassId} {n : Nat} {f : Nat → Option Nat} (h : xR ws a cA n f) : xR (ws ++ R) a cA n f := by
  obtain ⟨q0, h1⟩ := h
  exact ⟨q0, by rw [List.getElem?_append_left (List.getElem?_eq_some_iff.mp h1).1]; exact h1⟩
theorem xR.R {ws X : va_W} {a : Nat} {cA : ClassId} {n : Nat} {f : Nat → Option Nat} (h : xR ws a cA n f) : xR (X ++ ws) a cA n f := by
  obtain ⟨q0, h1⟩ := h
  exact ⟨X.length + q0, by rw [List.getElem?_append_right (Nat.le_add_right _ _), Nat.add_sub_cancel_left]; exact h1⟩
theorem xO.L {ws R : va_W} {a ci : Nat} {fs : List Value} (h : xO ws a ci fs) : xO (ws ++ R) a ci fs := by
  obtain ⟨q0, h1⟩ := h
  exact ⟨q0, by rw [List.getElem?_append_left (List.getElem?_eq_some_iff.mp h1).1]; exact h1⟩
theorem xO.R {ws X : va_W} {a ci : Nat} {fs : List Value} (h : xO ws a ci fs) : xO (X ++ ws) a ci fs := by
  obtain ⟨q0, h1⟩ := h
  exact ⟨X.length + q0, by rw [List.getElem?_append_right (Nat.le_add_right _ _), Nat.add_sub_cancel_left]; exact h1⟩
theorem xI.L {ws R : va_W} {a ci : Nat} {fs : List Value} {k : Nat} {G : Int32 → va_W} (h : xI ws a ci fs k G) : xI (ws ++ R) a ci fs k (fun x => G x ++ R) := by
  obtain ⟨q0, h1, h3, h2⟩ := h
  have hl := (List.getElem?_eq_some_iff.mp h1).1
  exact ⟨q0, by rw [List.getElem?_append_left hl]; exact h1, h3, fun f' => by rw [List.set_append_left _ _ hl, h2]⟩
theorem xI.R {ws X : va_W} {a ci : Nat} {fs : List Value} {k : Nat} {G : Int32 → va_W} (h : xI ws a ci fs k G) : xI (X ++ ws) a ci fs k (fun x => X ++ G x) := by
  obtain ⟨q0, h1, h3, h2⟩ := h
  exact ⟨X.length + q0, by rw [List.getElem?_append_right (Nat.le_add_right _ _), Nat.add_sub_cancel_left]; exact h1, h3, fun f' => by rw [List.set_append_right _ _ (Nat.le_add_right _ _), Nat.add_sub_cancel_left, h2]⟩
/-- what the walks answer by: none where an index is out, or a loop without an end -/
def xin (i : Int32) (n : Nat) : Bool := decide (¬ (i < 0 ∨ n ≤ i.toNatClampNeg))
theorem xin_of {i : Int32} {n : Nat} (h : xin i n = true) : vp_in i n := (of_decide_eq_true h : ¬ (i < 0 ∨ n ≤ i.toNatClampNeg))
def gd {α : Type} (b : Bool) (k : Option α) : Option α := match b with
  | true => k
  | false => none
theorem gd_some {α : Type} {b : Bool} {k : Option α} {o : α} (h : gd b k = some o) : b = true ∧ k = some o := by
  cases b
  · cases h
  · exact ⟨rfl, h⟩
def lt_ {α β : Type} (a : α) (k : α → β) : β := k a
theorem lt_elim {α β : Type} {a : α} {k : α → β} {o : β} (h : lt_ a k = o) : ∃ y, y = a ∧ k y = o := ⟨a, rfl, h⟩
def bd {α β : Type} (a : Option α) (k : α → Option β) : Option β := match a with
  | some x => k x
  | none => none
theorem bd_some {α β : Type} {a : Option α} {k : α → Option β} {o : β} (h : bd a k = some o) : ∃ x, a = some x ∧ k x = some o := by
  cases a
  · cases h
  · exact ⟨_, rfl, h⟩
def up1 (N : Nat → Nat → Int32) (k : Nat) (f : Nat → Int32) : Nat → Nat → Int32 := fun k' => if k' = k then f else N k'
def up2 (N : Nat → Nat → Int32) (k i : Nat) (x : Int32) : Nat → Nat → Int32 := up1 N k (upd (N k) i x)
section XK
variable {p : Program} {l : Launch} {e : Env} {R : Room} {s : State} {m : MethodId} {args : Array Value} {below : List Frame} {meth : Method} {c : Code} {Q : State → Prop}
variable {D : va_G} {A : Nat → Prop} {cc : ByteArray} {own : String} {nL : Nat} {Ts : List Cond} {tys : List (ClassId × FieldType)} {ret : Option FieldType}
variable {ws ws' : va_W} {k n pc q : Nat} {L L' : List (Nat × Value)} {st : List Value}
def xV (p : Program) (l : Launch) (e : Env) (R : Room) (s : State) (m : MethodId) (args : Array Value) (below : List Frame) (meth : Method) (c : Code) (D : va_G) (A : Nat → Prop) (Q : State → Prop) (nL : Nat) (ws : va_W) (k n : Nat) (L : List (Nat × Value)) (pc : Nat) (st : List Value) : Prop :=
  ∀ (H : Heap) (locs : List Loc) (ls : Array Slot), va_P D vwCl ws H → va_D A ws → va_S A s.heap H locs → lv_has ls nL L → W p l e R s m args below meth c H locs k n Q (F0 m pc ls st)
def xC (p : Program) (s : State) (m : MethodId) (args : Array Value) (meth : Method) (c : Code) (D : va_G) (A : Nat → Prop) (cc : ByteArray) (own : String) (nL : Nat) (Ts : List Cond) (tys : List (ClassId × FieldType)) (ret : Option FieldType) : Prop :=
  p.tables.exec = Jvm.exec ∧ c.code = cc ∧ c.maxLocals = nL ∧ s.vm.findClass own = some m.cls ∧ (∀ w ∈ Ts, w.before args s = true) ∧ va_K D vwCl tys s ∧ meth.sig.returnType = ret ∧ meth.locks = false ∧ ∀ q, s.heap.size ≤ q → A q
theorem x_sub (ks : List Nat) (h : lv_pick L ks = L') (kk : xV p l e R s m args below meth c D A Q nL ws k n L' pc st) : xV p l e R s m args below meth c D A Q nL ws k n L pc st :=
  fun H locs ls hP hD hS hl => kk H locs ls hP hD hS (lv_sub hl ks h)
theorem x_widen {k' n' : Nat} (h1 : k ≤ k') (h2 : n ≤ n') (kk : xV p l e R s m args below meth c D A Q nL ws k' n' L pc st) : xV p l e R s m args below meth c D A Q nL ws k n L pc st :=
  fun H locs ls hP hD hS hl => W.widen h1 h2 (kk H locs ls hP hD hS hl)
theorem x_world (h : ws = ws') (kk : xV p l e R s m args below meth c D A Q nL ws' k n L pc st) : xV p l e R s m args below meth c D A Q nL ws k n L pc st := h ▸ kk
theorem x_perm (h : ws.Perm ws') (kk : xV p l e R s m args below meth c D A Q nL ws' k n L pc st) : xV p l e R s m args below meth c D A Q nL ws k n L pc st :=
  fun H locs ls hP hD hS hl => kk H locs ls (xP_perm h hP) (xD_perm h hD) hS hl
theorem x_drop {J : va_W} (kk : xV p l e R s m args below meth c D A Q nL ws k n L pc st) : xV p l e R s m args below meth c D A Q nL (ws ++ J) k n L pc st :=
  fun H locs ls hP hD hS hl => kk H locs ls (xP_left hP) (xD_left hD) hS hl
-- constants and locals
theorem x_iconst (C : xC p s m args meth c D A cc own nL Ts tys ret) {i : Int} {v : Int32} (d : decode cc pc = .ok (.iconst i, 1)) (hv : Int32.ofInt i = v) (hq : pc + 1 = q) (kk : xV p l e R s m args below meth c D A Q nL ws k n L q (.int v :: st)) : xV p l e R s m args below meth c D A Q nL ws k n L pc st :=
  fun H locs ls hP hD hS hl => lv_iconst C.1 C.2.1 d hv (hq ▸ kk H locs ls hP hD hS hl)
theorem x_bipush (C : xC p s m args meth c D A cc own nL Ts tys ret) {i : Int} {v : Int32} (d : decode cc pc = .ok (.bipush i, 2)) (hv : (Int8.ofInt i).toInt32 = v) (hq : pc + 2 = q) (kk : xV p l e R s m args below meth c D A Q nL ws k n L q (.int v :: st)) : xV p l e R s m args below meth c D A Q nL ws k n L pc st :=
  fun H locs ls hP hD hS hl => lv_bipush C.1 C.2.1 d hv (hq ▸ kk H locs ls hP hD hS hl)
theorem x_sipush (C : xC p s m args meth c D A cc own nL Ts tys ret) {i : Int} {v : Int32} (d : decode cc pc = .ok (.sipush i, 3)) (hv : (Int16.ofInt i).toInt32 = v) (hq : pc + 3 = q) (kk : xV p l e R s m args below meth c D A Q nL ws k n L q (.int v :: st)) : xV p l e R s m args below meth c D A Q nL ws k n L pc st :=
  fun H locs ls hP hD hS hl => lv_sipush C.1 C.2.1 d hv (hq ▸ kk H locs ls hP hD hS hl)
theorem x_ldc (C : xC p s m args meth c D A cc own nL Ts tys ret) {i : Nat} {v : Int32} (d : decode cc pc = .ok (.ldc i, 2)) (hm : Cond.constant own i v ∈ Ts) (hq : pc + 2 = q) (kk : xV p l e R s m args below meth c D A Q nL ws k n L q (.int v :: st)) : xV p l e R s m args below meth c D A Q nL ws k n L pc st :=
  fun H locs ls hP hD hS hl => lv_ldc C.1 C.2.1 C.2.2.2.1 (C.2.2.2.2.1 _ hm) d (hq ▸ kk H locs ls hP hD hS hl)
theorem x_ldc2 (C : xC p s m args meth c D A cc own nL Ts tys ret) {i : Nat} {v : Int64} (d : decode cc pc = .ok (.ldc2_w i, 3)) (hm : Cond.constantLong own i v ∈ Ts) (hq : pc + 3 = q) (kk : xV p l e R s m args below meth c D A Q nL ws k n L q (.long v :: st)) : xV p l e R s m args below meth c D A Q nL ws k n L pc st :=
  fun H locs ls hP hD hS hl => lv_ldc2 C.1 C.2.1 C.2.2.2.1 (C.2.2.2.2.1 _ hm) d (hq ▸ kk H locs ls hP hD hS hl)
theorem x_iload_n (C : xC p s m args meth c D A cc own nL Ts tys ret) {i : Fin 4} (j : Nat) {i' : Nat} {v : Int32} (d : decode cc pc = .ok (.iload_n i, 1)) (hi : (i : Nat) = i') (hL : L[j]? = some (i', .int v)) (hq : pc + 1 = q) (kk : xV p l e R s m args below meth c D A Q nL ws k n L q (.int v :: st)) : xV p l e R s m args below meth c D A Q nL ws k n L pc st :=
  fun H locs ls hP hD hS hl => lv_iload_n C.1 C.2.1 d hi (lv_at hl j hL) (hq ▸ kk H locs ls hP hD hS hl)
theorem x_iload (C : xC p s m args meth c D A cc own nL Ts tys ret) {i : Nat} (j : Nat) {v : Int32} (d : decode cc pc = .ok (.iload i, 2)) (hL : L[j]? = some (i, .int v)) (hq : pc + 2 = q) (kk : xV p l e R s m args below meth c D A Q nL ws k n L q (.int v :: st)) : xV p l e R s m args below meth c D A Q nL ws k n L pc st :=
  fun H locs ls hP hD hS hl => lv_iload C.1 C.2.1 d (lv_at hl j hL) (hq ▸ kk H locs ls hP hD hS hl)
theorem x_aload_n (C : xC p s m args meth c D A cc own nL Ts tys ret) {i : Fin 4} (j : Nat) {i' : Nat} {v : Nat} (d : decode cc pc = .ok (.aload_n i, 1)) (hi : (i : Nat) = i') (hL : L[j]? = some (i', .ref v)) (hq : pc + 1 = q) (kk : xV p l e R s m args below meth c D A Q nL ws k n L q (.ref v :: st)) : xV p l e R s m args below meth c D A Q nL ws k n L pc st :=
  fun H locs ls hP hD hS hl => lv_aload_n C.1 C.2.1 d hi (lv_at hl j hL) (hq ▸ kk H locs ls hP hD hS hl)
theorem x_aload (C : xC p s m args meth c D A cc own nL Ts tys ret) {i : Nat} (j : Nat) {v : Nat} (d : decode cc pc = .ok (.aload i, 2)) (hL : L[j]? = some (i, .ref v)) (hq : pc + 2 = q) (kk : xV p l e R s m args below meth c D A Q nL ws k n L q (.ref v :: st)) : xV p l e R s m args below meth c D A Q nL ws k n L pc st :=
  fun H locs ls hP hD hS hl => lv_aload C.1 C.2.1 d (lv_at hl j hL) (hq ▸ kk H locs ls hP hD hS hl)
theorem x_lload_n (C : xC p s m args meth c D A cc own nL Ts tys ret) {i : Fin 4} (j : Nat) {i' : Nat} {v : Int64} (d : decode cc pc = .ok (.lload_n i, 1)) (hi : (i : Nat) = i') (hL : L[j]? = some (i', .long v)) (hq : pc + 1 = q) (kk : xV p l e R s m args below meth c D A Q nL ws k n L q (.long v :: st)) : xV p l e R s m args below meth c D A Q nL ws k n L pc st :=
  fun H locs ls hP hD hS hl => lv_lload_n C.1 C.2.1 d hi (lv_at hl j hL) (hq ▸ kk H locs ls hP hD hS hl)
theorem x_istore_n (C : xC p s m args meth c D A cc own nL Ts tys ret) {i : Fin 4} {i' : Nat} {v : Int32} (ks : List Nat) (L' : List (Nat × Value)) (d : decode cc pc = .ok (.istore_n i, 1)) (hi : (i : Nat) = i') (hn : i' < nL) (hL : lv_pick ((i', Value.int v) :: L.filter (fun q => !(q.1 == i') && !(q.1 + 1 == i' && q.2.category == 2))) ks = L') (hq : pc + 1 = q) (kk : xV p l e R s m args below meth c D A Q nL ws k n L' q st) : xV p l e R s m args below meth c D A Q nL ws k n L pc (.int v :: st) :=
  fun H locs ls hP hD hS hl => lv_istore_n C.1 C.2.1 d hi hl hn rfl (fun ls' hl' => hq ▸ kk H locs ls' hP hD hS (lv_sub hl' ks hL))
theorem x_istore (C : xC p s m args meth c D A cc own nL Ts tys ret) {i : Nat} {v : Int32} (ks : List Nat) (L' : List (Nat × Value)) (d : decode cc pc = .ok (.istore i, 2)) (hn : i < nL) (hL : lv_pick ((i, Value.int v) :: L.filter (fun q => !(q.1 == i) && !(q.1 + 1 == i && q.2.category == 2))) ks = L') (hq : pc + 2 = q) (kk : xV p l e R s m args below meth c D A Q nL ws k n L' q st) : xV p l e R s m args below meth c D A Q nL ws k n L pc (.int v :: st) :=
  fun H locs ls hP hD hS hl => lv_istore C.1 C.2.1 d hl hn rfl (fun ls' hl' => hq ▸ kk H locs ls' hP hD hS (lv_sub hl' ks hL))
theorem x_astore_n (C : xC p s m args meth c D A cc own nL Ts tys ret) {i : Fin 4} {i' : Nat} {v : Nat} (ks : List Nat) (L' : List (Nat × Value)) (d : decode cc pc = .ok (.astore_n i, 1)) (hi : (i : Nat) = i') (hn : i' < nL) (hL : lv_pick ((i', Value.ref v) :: L.filter (fun q => !(q.1 == i') && !(q.1 + 1 == i' && q.2.category == 2))) ks = L') (hq : pc + 1 = q) (kk : xV p l e R s m args below meth c D A Q nL ws k n L' q st) : xV p l e R s m args below meth c D A Q nL ws k n L pc (.ref v :: st) :=
  fun H locs ls hP hD hS hl => lv_astore_n C.1 C.2.1 d hi hl hn rfl (fun ls' hl' => hq ▸ kk H locs ls' hP hD hS (lv_sub hl' ks hL))
theorem x_astore (C : xC p s m args meth c D A cc own nL Ts tys ret) {i : Nat} {v : Nat} (ks : List Nat) (L' : List (Nat × Value)) (d : decode cc pc = .ok (.astore i, 2)) (hn : i < nL) (hL : lv_pick ((i, Value.ref v) :: L.filter (fun q => !(q.1 == i) && !(q.1 + 1 == i && q.2.category == 2))) ks = L') (hq : pc + 2 = q) (kk : xV p l e R s m args below meth c D A Q nL ws k n L' q st) : xV p l e R s m args below meth c D A Q nL ws k n L pc (.ref v :: st) :=
  fun H locs ls hP hD hS hl => lv_astore C.1 C.2.1 d hl hn rfl (fun ls' hl' => hq ▸ kk H locs ls' hP hD hS (lv_sub hl' ks hL))
theorem x_lstore_n (C : xC p s m args meth c D A cc own nL Ts tys ret) {i : Fin 4} {i' : Nat} {v : Int64} (ks : List Nat) (L' : List (Nat × Value)) (d : decode cc pc = .ok (.lstore_n i, 1)) (hi : (i : Nat) = i') (hn : i' + 1 < nL) (hL : lv_pick ((i', Value.long v) :: L.filter (fun q => !(q.1 == i') && (!(q.1 == i' + 1) && !(q.1 + 1 == i' && q.2.category == 2)))) ks = L') (hq : pc + 1 = q) (kk : xV p l e R s m args below meth c D A Q nL ws k n L' q st) : xV p l e R s m args below meth c D A Q nL ws k n L pc (.long v :: st) :=
  fun H locs ls hP hD hS hl => lv_lstore_n C.1 C.2.1 d hi hl hn rfl (fun ls' hl' => hq ▸ kk H locs ls' hP hD hS (lv_sub hl' ks hL))
theorem x_iinc (C : xC p s m args meth c D A cc own nL Ts tys ret) {i : Nat} (j : Nat) {a : Int} {x : Int32} (v : Int32) (ks : List Nat) (L' : List (Nat × Value)) (d : decode cc pc = .ok (.iinc i a, 3)) (hk : L[j]? = some (i, .int x)) (hv : x + Int32.ofInt a = v) (hn : i < nL) (hL : lv_pick ((i, Value.int v) :: L.filter (fun q => !(q.1 == i) && !(q.1 + 1 == i && q.2.category == 2))) ks = L') (hq : pc + 3 = q) (kk : xV p l e R s m args below meth c D A Q nL ws k n L' q st) : xV p l e R s m args below meth c D A Q nL ws k n L pc st :=
  fun H locs ls hP hD hS hl => lv_iinc C.1 C.2.1 d hl hk hv hn rfl (fun ls' hl' => hq ▸ kk H locs ls' hP hD hS (lv_sub hl' ks hL))
theorem x_iadd (C : xC p s m args meth c D A cc own nL Ts tys ret) {x y : Int32} (d : decode cc pc = .ok (.iadd, 1)) (hq : pc + 1 = q) (kk : xV p l e R s m args below meth c D A Q nL ws k n L q (.int (x + y) :: st)) : xV p l e R s m args below meth c D A Q nL ws k n L pc (.int y :: .int x :: st) :=
  fun H locs ls hP hD hS hl => lv_iadd C.1 C.2.1 d (hq ▸ kk H locs ls hP hD hS hl)
theorem x_isub (C : xC p s m args meth c D A cc own nL Ts tys ret) {x y : Int32} (d : decode cc pc = .ok (.isub, 1)) (hq : pc + 1 = q) (kk : xV p l e R s m args below meth c D A Q nL ws k n L q (.int (x - y) :: st)) : xV p l e R s m args below meth c D A Q nL ws k n L pc (.int y :: .int x :: st) :=
  fun H locs ls hP hD hS hl => lv_isub C.1 C.2.1 d (hq ▸ kk H locs ls hP hD hS hl)
theorem x_imul (C : xC p s m args meth c D A cc own nL Ts tys ret) {x y : Int32} (d : decode cc pc = .ok (.imul, 1)) (hq : pc + 1 = q) (kk : xV p l e R s m args below meth c D A Q nL ws k n L q (.int (x * y) :: st)) : xV p l e R s m args below meth c D A Q nL ws k n L pc (.int y :: .int x :: st) :=
  fun H locs ls hP hD hS hl => lv_imul C.1 C.2.1 d (hq ▸ kk H locs ls hP hD hS hl)
theorem x_iand (C : xC p s m args meth c D A cc own nL Ts tys ret) {x y : Int32} (d : decode cc pc = .ok (.iand, 1)) (hq : pc + 1 = q) (kk : xV p l e R s m args below meth c D A Q nL ws k n L q (.int (x &&& y) :: st)) : xV p l e R s m args below meth c D A Q nL ws k n L pc (.int y :: .int x :: st) :=
  fun H locs ls hP hD hS hl => lv_iand C.1 C.2.1 d (hq ▸ kk H locs ls hP hD hS hl)
theorem x_ior (C : xC p s m args meth c D A cc own nL Ts tys ret) {x y : Int32} (d : decode cc pc = .ok (.ior, 1)) (hq : pc + 1 = q) (kk : xV p l e R s m args below meth c D A Q nL ws k n L q (.int (x ||| y) :: st)) : xV p l e R s m args below meth c D A Q nL ws k n L pc (.int y :: .int x :: st) :=
  fun H locs ls hP hD hS hl => lv_ior C.1 C.2.1 d (hq ▸ kk H locs ls hP hD hS hl)
theorem x_idiv (C : xC p s m args meth c D A cc own nL Ts tys ret) {x y : Int32} (d : decode cc pc = .ok (.idiv, 1)) (hne : ¬ y = 0) (hq : pc + 1 = q) (kk : xV p l e R s m args below meth c D A Q nL ws k n L q (.int (x / y) :: st)) : xV p l e R s m args below meth c D A Q nL ws k n L pc (.int y :: .int x :: st) :=
  fun H locs ls hP hD hS hl => lv_idiv C.1 C.2.1 d hne (hq ▸ kk H locs ls hP hD hS hl)
theorem x_irem (C : xC p s m args meth c D A cc own nL Ts tys ret) {x y : Int32} (d : decode cc pc = .ok (.irem, 1)) (hne : ¬ y = 0) (hq : pc + 1 = q) (kk : xV p l e R s m args below meth c D A Q nL ws k n L q (.int (x - x / y * y) :: st)) : xV p l e R s m args below meth c D A Q nL ws k n L pc (.int y :: .int x :: st) :=
  fun H locs ls hP hD hS hl => lv_irem C.1 C.2.1 d hne (hq ▸ kk H locs ls hP hD hS hl)
theorem x_ishl (C : xC p s m args meth c D A cc own nL Ts tys ret) {x y : Int32} (d : decode cc pc = .ok (.ishl, 1)) (hq : pc + 1 = q) (kk : xV p l e R s m args below meth c D A Q nL ws k n L q (.int (x <<< (y &&& 31)) :: st)) : xV p l e R s m args below meth c D A Q nL ws k n L pc (.int y :: .int x :: st) :=
  fun H locs ls hP hD hS hl => lv_ishl C.1 C.2.1 d (hq ▸ kk H locs ls hP hD hS hl)
theorem x_ishr (C : xC p s m args meth c D A cc own nL Ts tys ret) {x y : Int32} (d : decode cc pc = .ok (.ishr, 1)) (hq : pc + 1 = q) (kk : xV p l e R s m args below meth c D A Q nL ws k n L q (.int (x >>> (y &&& 31)) :: st)) : xV p l e R s m args below meth c D A Q nL ws k n L pc (.int y :: .int x :: st) :=
  fun H locs ls hP hD hS hl => lv_ishr C.1 C.2.1 d (hq ▸ kk H locs ls hP hD hS hl)
theorem x_i2l (C : xC p s m args meth c D A cc own nL Ts tys ret) {x : Int32} (d : decode cc pc = .ok (.i2l, 1)) (hq : pc + 1 = q) (kk : xV p l e R s m args below meth c D A Q nL ws k n L q (.long x.toInt64 :: st)) : xV p l e R s m args below meth c D A Q nL ws k n L pc (.int x :: st) :=
  fun H locs ls hP hD hS hl => lv_i2l C.1 C.2.1 d rfl (hq ▸ kk H locs ls hP hD hS hl)
theorem x_ladd (C : xC p s m args meth c D A cc own nL Ts tys ret) {x y : Int64} (d : decode cc pc = .ok (.ladd, 1)) (hq : pc + 1 = q) (kk : xV p l e R s m args below meth c D A Q nL ws k n L q (.long (x + y) :: st)) : xV p l e R s m args below meth c D A Q nL ws k n L pc (.long y :: .long x :: st) :=
  fun H locs ls hP hD hS hl => lv_ladd C.1 C.2.1 d (hq ▸ kk H locs ls hP hD hS hl)
theorem x_lmul (C : xC p s m args meth c D A cc own nL Ts tys ret) {x y : Int64} (d : decode cc pc = .ok (.lmul, 1)) (hq : pc + 1 = q) (kk : xV p l e R s m args below meth c D A Q nL ws k n L q (.long (x * y) :: st)) : xV p l e R s m args below meth c D A Q nL ws k n L pc (.long y :: .long x :: st) :=
  fun H locs ls hP hD hS hl => lv_lmul C.1 C.2.1 d (hq ▸ kk H locs ls hP hD hS hl)
theorem x_lcmp (C : xC p s m args meth c D A cc own nL Ts tys ret) {x y : Int64} (d : decode cc pc = .ok (.lcmp, 1)) (hq : pc + 1 = q) (kk : xV p l e R s m args below meth c D A Q nL ws k n L q (.int (lg_cmp x y) :: st)) : xV p l e R s m args below meth c D A Q nL ws k n L pc (.long y :: .long x :: st) :=
  fun H locs ls hP hD hS hl => W.lcmp C.1 C.2.1 d (hq ▸ kk H locs ls hP hD hS hl)
theorem x_dup (C : xC p s m args meth c D A cc own nL Ts tys ret) {v : Value} (d : decode cc pc = .ok (.dup, 1)) (hv : v.category = 1) (hq : pc + 1 = q) (kk : xV p l e R s m args below meth c D A Q nL ws k n L q (v :: v :: st)) : xV p l e R s m args below meth c D A Q nL ws k n L pc (v :: st) :=
  fun H locs ls hP hD hS hl => lv_dup C.1 C.2.1 d hv (hq ▸ kk H locs ls hP hD hS hl)
theorem x_dup2 (C : xC p s m args meth c D A cc own nL Ts tys ret) {v w : Value} (d : decode cc pc = .ok (.dup2, 1)) (hv : v.category = 1) (hw : w.category = 1) (hq : pc + 1 = q) (kk : xV p l e R s m args below meth c D A Q nL ws k n L q (v :: w :: v :: w :: st)) : xV p l e R s m args below meth c D A Q nL ws k n L pc (v :: w :: st) :=
  fun H locs ls hP hD hS hl => lv_dup2_11 C.1 C.2.1 d hv hw (hq ▸ kk H locs ls hP hD hS hl)
theorem x_pop (C : xC p s m args meth c D A cc own nL Ts tys ret) {v : Value} (d : decode cc pc = .ok (.pop, 1)) (hv : v.category = 1) (hq : pc + 1 = q) (kk : xV p l e R s m args below meth c D A Q nL ws k n L q st) : xV p l e R s m args below meth c D A Q nL ws k n L pc (v :: st) :=
  fun H locs ls hP hD hS hl => lv_pop C.1 C.2.1 d hv (hq ▸ kk H locs ls hP hD hS hl)
theorem x_goto (C : xC p s m args meth c D A cc own nL Ts tys ret) {off : Int} {t : Nat} (d : decode cc pc = .ok (.goto off, 3)) (ht : (pc : Int) + off = (t : Int)) (kk : xV p l e R s m args below meth c D A Q nL ws k n L t st) : xV p l e R s m args below meth c D A Q nL ws k n L pc st :=
  fun H locs ls hP hD hS hl => lv_goto C.1 C.2.1 d ht (kk H locs ls hP hD hS hl)
theorem x_icmp_eq (C : xC p s m args meth c D A cc own nL Ts tys ret) {x y : Int32} {off : Int} {t : Nat} (d : decode cc pc = .ok (.if_icmp .eq off, 3)) (ht : (pc : Int) + off = (t : Int)) (hq : pc + 3 = q) (kt : x = y → xV p l e R s m args below meth c D A Q nL ws k n L t st) (kf : ¬ x = y → xV p l e R s m args below meth c D A Q nL ws k n L q st) : xV p l e R s m args below meth c D A Q nL ws k n L pc (.int y :: .int x :: st) :=
  fun H locs ls hP hD hS hl => lv_icmp_eq C.1 C.2.1 d ht (fun h => kt h H locs ls hP hD hS hl) (fun h => hq ▸ kf h H locs ls hP hD hS hl)
theorem x_if_eq (C : xC p s m args meth c D A cc own nL Ts tys ret) {x : Int32} {off : Int} {t : Nat} (d : decode cc pc = .ok (.ifCond .eq off, 3)) (ht : (pc : Int) + off = (t : Int)) (hq : pc + 3 = q) (kt : x = 0 → xV p l e R s m args below meth c D A Q nL ws k n L t st) (kf : ¬ x = 0 → xV p l e R s m args below meth c D A Q nL ws k n L q st) : xV p l e R s m args below meth c D A Q nL ws k n L pc (.int x :: st) :=
  fun H locs ls hP hD hS hl => lv_if_eq C.1 C.2.1 d ht (fun h => kt h H locs ls hP hD hS hl) (fun h => hq ▸ kf h H locs ls hP hD hS hl)
theorem x_icmp_ne (C : xC p s m args meth c D A cc own nL Ts tys ret) {x y : Int32} {off : Int} {t : Nat} (d : decode cc pc = .ok (.if_icmp .ne off, 3)) (ht : (pc : Int) + off = (t : Int)) (hq : pc + 3 = q) (kt : ¬ x = y → xV p l e R s m args below meth c D A Q nL ws k n L t st) (kf : x = y → xV p l e R s m args below meth c D A Q nL ws k n L q st) : xV p l e R s m args below meth c D A Q nL ws k n L pc (.int y :: .int x :: st) :=
  fun H locs ls hP hD hS hl => lv_icmp_ne C.1 C.2.1 d ht (fun h => kt h H locs ls hP hD hS hl) (fun h => hq ▸ kf h H locs ls hP hD hS hl)
theorem x_if_ne (C : xC p s m args meth c D A cc own nL Ts tys ret) {x : Int32} {off : Int} {t : Nat} (d : decode cc pc = .ok (.ifCond .ne off, 3)) (ht : (pc : Int) + off = (t : Int)) (hq : pc + 3 = q) (kt : ¬ x = 0 → xV p l e R s m args below meth c D A Q nL ws k n L t st) (kf : x = 0 → xV p l e R s m args below meth c D A Q nL ws k n L q st) : xV p l e R s m args below meth c D A Q nL ws k n L pc (.int x :: st) :=
  fun H locs ls hP hD hS hl => lv_if_ne C.1 C.2.1 d ht (fun h => kt h H locs ls hP hD hS hl) (fun h => hq ▸ kf h H locs ls hP hD hS hl)
theorem x_icmp_lt (C : xC p s m args meth c D A cc own nL Ts tys ret) {x y : Int32} {off : Int} {t : Nat} (d : decode cc pc = .ok (.if_icmp .lt off, 3)) (ht : (pc : Int) + off = (t : Int)) (hq : pc + 3 = q) (kt : x < y → xV p l e R s m args below meth c D A Q nL ws k n L t st) (kf : ¬ x < y → xV p l e R s m args below meth c D A Q nL ws k n L q st) : xV p l e R s m args below meth c D A Q nL ws k n L pc (.int y :: .int x :: st) :=
  fun H locs ls hP hD hS hl => lv_icmp_lt C.1 C.2.1 d ht (fun h => kt h H locs ls hP hD hS hl) (fun h => hq ▸ kf h H locs ls hP hD hS hl)
theorem x_if_lt (C : xC p s m args meth c D A cc own nL Ts tys ret) {x : Int32} {off : Int} {t : Nat} (d : decode cc pc = .ok (.ifCond .lt off, 3)) (ht : (pc : Int) + off = (t : Int)) (hq : pc + 3 = q) (kt : x < 0 → xV p l e R s m args below meth c D A Q nL ws k n L t st) (kf : ¬ x < 0 → xV p l e R s m args below meth c D A Q nL ws k n L q st) : xV p l e R s m args below meth c D A Q nL ws k n L pc (.int x :: st) :=
  fun H locs ls hP hD hS hl => lv_if_lt C.1 C.2.1 d ht (fun h => kt h H locs ls hP hD hS hl) (fun h => hq ▸ kf h H locs ls hP hD hS hl)
theorem x_icmp_ge (C : xC p s m args meth c D A cc own nL Ts tys ret) {x y : Int32} {off : Int} {t : Nat} (d : decode cc pc = .ok (.if_icmp .ge off, 3)) (ht : (pc : Int) + off = (t : Int)) (hq : pc + 3 = q) (kt : y ≤ x → xV p l e R s m args below meth c D A Q nL ws k n L t st) (kf : ¬ y ≤ x → xV p l e R s m args below meth c D A Q nL ws k n L q st) : xV p l e R s m args below meth c D A Q nL ws k n L pc (.int y :: .int x :: st) :=
  fun H locs ls hP hD hS hl => lv_icmp_ge C.1 C.2.1 d ht (fun h => kt h H locs ls hP hD hS hl) (fun h => hq ▸ kf h H locs ls hP hD hS hl)
theorem x_if_ge (C : xC p s m args meth c D A cc own nL Ts tys ret) {x : Int32} {off : Int} {t : Nat} (d : decode cc pc = .ok (.ifCond .ge off, 3)) (ht : (pc : Int) + off = (t : Int)) (hq : pc + 3 = q) (kt : 0 ≤ x → xV p l e R s m args below meth c D A Q nL ws k n L t st) (kf : ¬ 0 ≤ x → xV p l e R s m args below meth c D A Q nL ws k n L q st) : xV p l e R s m args below meth c D A Q nL ws k n L pc (.int x :: st) :=
  fun H locs ls hP hD hS hl => lv_if_ge C.1 C.2.1 d ht (fun h => kt h H locs ls hP hD hS hl) (fun h => hq ▸ kf h H locs ls hP hD hS hl)
theorem x_icmp_gt (C : xC p s m args meth c D A cc own nL Ts tys ret) {x y : Int32} {off : Int} {t : Nat} (d : decode cc pc = .ok (.if_icmp .gt off, 3)) (ht : (pc : Int) + off = (t : Int)) (hq : pc + 3 = q) (kt : y < x → xV p l e R s m args below meth c D A Q nL ws k n L t st) (kf : ¬ y < x → xV p l e R s m args below meth c D A Q nL ws k n L q st) : xV p l e R s m args below meth c D A Q nL ws k n L pc (.int y :: .int x :: st) :=
  fun H locs ls hP hD hS hl => lv_icmp_gt C.1 C.2.1 d ht (fun h => kt h H locs ls hP hD hS hl) (fun h => hq ▸ kf h H locs ls hP hD hS hl)
theorem x_if_gt (C : xC p s m args meth c D A cc own nL Ts tys ret) {x : Int32} {off : Int} {t : Nat} (d : decode cc pc = .ok (.ifCond .gt off, 3)) (ht : (pc : Int) + off = (t : Int)) (hq : pc + 3 = q) (kt : 0 < x → xV p l e R s m args below meth c D A Q nL ws k n L t st) (kf : ¬ 0 < x → xV p l e R s m args below meth c D A Q nL ws k n L q st) : xV p l e R s m args below meth c D A Q nL ws k n L pc (.int x :: st) :=
  fun H locs ls hP hD hS hl => lv_if_gt C.1 C.2.1 d ht (fun h => kt h H locs ls hP hD hS hl) (fun h => hq ▸ kf h H locs ls hP hD hS hl)
theorem x_icmp_le (C : xC p s m args meth c D A cc own nL Ts tys ret) {x y : Int32} {off : Int} {t : Nat} (d : decode cc pc = .ok (.if_icmp .le off, 3)) (ht : (pc : Int) + off = (t : Int)) (hq : pc + 3 = q) (kt : x ≤ y → xV p l e R s m args below meth c D A Q nL ws k n L t st) (kf : ¬ x ≤ y → xV p l e R s m args below meth c D A Q nL ws k n L q st) : xV p l e R s m args below meth c D A Q nL ws k n L pc (.int y :: .int x :: st) :=
  fun H locs ls hP hD hS hl => lv_icmp_le C.1 C.2.1 d ht (fun h => kt h H locs ls hP hD hS hl) (fun h => hq ▸ kf h H locs ls hP hD hS hl)
theorem x_if_le (C : xC p s m args meth c D A cc own nL Ts tys ret) {x : Int32} {off : Int} {t : Nat} (d : decode cc pc = .ok (.ifCond .le off, 3)) (ht : (pc : Int) + off = (t : Int)) (hq : pc + 3 = q) (kt : x ≤ 0 → xV p l e R s m args below meth c D A Q nL ws k n L t st) (kf : ¬ x ≤ 0 → xV p l e R s m args below meth c D A Q nL ws k n L q st) : xV p l e R s m args below meth c D A Q nL ws k n L pc (.int x :: st) :=
  fun H locs ls hP hD hS hl => lv_if_le C.1 C.2.1 d ht (fun h => kt h H locs ls hP hD hS hl) (fun h => hq ▸ kf h H locs ls hP hD hS hl)
theorem x_tableIn (C : xC p s m args meth c D A cc own nL Ts tys ret) {dflt lo hi : Int} {offs : Array Int} {len : Nat} {x : Int32} {off : Int} {t : Nat} (d : decode cc pc = .ok (.tableswitch dflt lo hi offs, len)) (h1 : ¬ x.toInt < lo) (h2 : ¬ hi < x.toInt) (ho : offs[(x.toInt - lo).toNat]? = some off) (ht : (pc : Int) + off = (t : Int)) (kk : xV p l e R s m args below meth c D A Q nL ws k n L t st) : xV p l e R s m args below meth c D A Q nL ws k n L pc (.int x :: st) :=
  fun H locs ls hP hD hS hl => lv_tableIn C.1 C.2.1 d h1 h2 ho ht (kk H locs ls hP hD hS hl)
theorem x_tableOut (C : xC p s m args meth c D A cc own nL Ts tys ret) {dflt lo hi : Int} {offs : Array Int} {len : Nat} {x : Int32} {t : Nat} (d : decode cc pc = .ok (.tableswitch dflt lo hi offs, len)) (h : x.toInt < lo ∨ hi < x.toInt) (ht : (pc : Int) + dflt = (t : Int)) (kk : xV p l e R s m args below meth c D A Q nL ws k n L t st) : xV p l e R s m args below meth c D A Q nL ws k n L pc (.int x :: st) :=
  fun H locs ls hP hD hS hl => lv_tableOut C.1 C.2.1 d h ht (kk H locs ls hP hD hS hl)
theorem x_lookup (C : xC p s m args meth c D A cc own nL Ts tys ret) {dflt : Int} {ps : Array (Int × Int)} {len : Nat} {x : Int32} {off : Int} {t : Nat} (d : decode cc pc = .ok (.lookupswitch dflt ps, len)) (hp : (ps.toList.zip (ps.toList.drop 1)).all (fun (a, next) => a.1 < next.1) = true) (ho : Op.lookupswitch.offset ps.toList dflt x.toInt = off) (ht : (pc : Int) + off = (t : Int)) (kk : xV p l e R s m args below meth c D A Q nL ws k n L t st) : xV p l e R s m args below meth c D A Q nL ws k n L pc (.int x :: st) :=
  fun H locs ls hP hD hS hl => lv_lookup C.1 C.2.1 d hp ho ht (kk H locs ls hP hD hS hl)
-- the heap
theorem x_get (C : xC p s m args meth c D A cc own nL Ts tys ret) {a ci index : Nat} {fs : List Value} {ref Cn : String} {T : u_T} {N : Nat} (f : Nat) {v : Value} (d : decode cc pc = .ok (.getfield index, 3)) (ho : xO ws a ci fs) (hc : vwCl[ci]? = some (Cn, T, N)) (hin : ∀ w ∈ u_ws Cn T N, w ∈ Ts) (hm : Cond.fieldLink own index ref (T f).2.1 (T f).2.2.1 ∈ Ts) (href : (T f).1 = ref) (hf : f < N) (hv : fs[f]? = some v) (hq : pc + 3 = q) (kk : xV p l e R s m args below meth c D A Q nL ws k n L q (v :: st)) : xV p l e R s m args below meth c D A Q nL ws k n L pc (.ref a :: st) := by
  intro H locs ls hP hD hS hl
  obtain ⟨q0, h0⟩ := ho
  obtain ⟨hx, hb, -, hown, hts, hK, -⟩ := C
  exact va_get hx hb hts hin hown hK hP q0 h0 hc f hf (hts _ hm) (fun x h => by rw [← href]; exact h) hv d (hq ▸ kk H locs ls hP hD hS hl)
theorem x_puti (C : xC p s m args meth c D A cc own nL Ts tys ret) {a ci index : Nat} {fs : List Value} {ref Cn : String} {T : u_T} {N : Nat} {f : Nat} {x : Int32} {G : Int32 → va_W} (ty0 : Nat → FieldType) (hty : ∀ k, k < N → parseFieldDescriptor (T k).2.2.1 = some (ty0 k)) (hnm : ∀ a, a < N → ∀ b, b < N → a ≠ b → (T a).2.1 ≠ (T b).2.1) (d : decode cc pc = .ok (.putfield index, 3)) (ho : xI ws a ci fs f G) (hc : vwCl[ci]? = some (Cn, T, N)) (hin : ∀ w ∈ u_ws Cn T N, w ∈ Ts) (hm : Cond.fieldLink own index ref (T f).2.1 (T f).2.2.1 ∈ Ts) (href : (T f).1 = ref) (hf : f < N) (hfin : (T f).2.2.2 = false) (hd : parseFieldDescriptor (T f).2.2.1 = some .int) (hw : G x = ws') (hq : pc + 3 = q) (kk : xV p l e R s m args below meth c D A Q nL ws' k n L q st) : xV p l e R s m args below meth c D A Q nL ws k n L pc (.int x :: .ref a :: st) := by
  intro H locs ls hP hD hS hl
  obtain ⟨q0, h0, h1, h2⟩ := ho
  obtain ⟨hx, hb, -, hown, hts, hK, -⟩ := C
  refine va_put (ty := .int) (v := .int x) hx hb hts hin ty0 hty hnm hown hK hP hD hS q0 h0 hc f hf (hts _ hm) (fun x h => by rw [← href]; exact h) hfin hd rfl rfl h1 d (fun H1 locs1 hP1 hD1 hS1 => ?_)
  rw [h2, hw] at hP1 hD1
  exact hq ▸ kk H1 locs1 ls hP1 hD1 hS1 hl
theorem x_iald (C : xC p s m args meth c D A cc own nL Ts tys ret) {a n0 : Nat} {cA : ClassId} {f : Nat → Int32} {G : (Nat → Int32) → va_W} {i : Int32} (t0 : Nat) (d : decode cc pc = .ok (.iaload, 1)) (ho : xA ws a cA n0 f G) (ht : tys[t0]? = some (cA, .int)) (hi : xin i n0 = true) (hq : pc + 1 = q) (kk : xV p l e R s m args below meth c D A Q nL ws k n L q (.int (f i.toNatClampNeg) :: st)) : xV p l e R s m args below meth c D A Q nL ws k n L pc (.int i :: .ref a :: st) := by
  intro H locs ls hP hD hS hl
  obtain ⟨q0, h0, -⟩ := ho
  exact va_iald C.1 C.2.1 C.2.2.2.2.2.1 hP q0 t0 h0 ht (xin_of hi) d (hq ▸ kk H locs ls hP hD hS hl)
theorem x_zald (C : xC p s m args meth c D A cc own nL Ts tys ret) {a n0 : Nat} {cA : ClassId} {f : Nat → Int32} {G : (Nat → Int32) → va_W} {i : Int32} (t0 : Nat) (d : decode cc pc = .ok (.baload, 1)) (ho : xA ws a cA n0 f G) (ht : tys[t0]? = some (cA, .boolean)) (hi : xin i n0 = true) (hq : pc + 1 = q) (kk : xV p l e R s m args below meth c D A Q nL ws k n L q (.int (f i.toNatClampNeg) :: st)) : xV p l e R s m args below meth c D A Q nL ws k n L pc (.int i :: .ref a :: st) := by
  intro H locs ls hP hD hS hl
  obtain ⟨q0, h0, -⟩ := ho
  exact va_zald C.1 C.2.1 C.2.2.2.2.2.1 hP q0 t0 h0 ht (xin_of hi) d (hq ▸ kk H locs ls hP hD hS hl)
theorem x_iast (C : xC p s m args meth c D A cc own nL Ts tys ret) {a n0 : Nat} {cA : ClassId} {f : Nat → Int32} {G : (Nat → Int32) → va_W} {i x : Int32} (t0 : Nat) (d : decode cc pc = .ok (.iastore, 1)) (ho : xA ws a cA n0 f G) (ht : tys[t0]? = some (cA, .int)) (hi : xin i n0 = true) (hw : G (upd f i.toNatClampNeg x) = ws') (hq : pc + 1 = q) (kk : xV p l e R s m args below meth c D A Q nL ws' k n L q st) : xV p l e R s m args below meth c D A Q nL ws k n L pc (.int x :: .int i :: .ref a :: st) := by
  intro H locs ls hP hD hS hl
  obtain ⟨q0, h0, h2⟩ := ho
  refine va_iast C.1 C.2.1 C.2.2.2.2.2.1 hP hD hS q0 t0 h0 ht (xin_of hi) d (fun H1 locs1 hP1 hD1 hS1 => ?_)
  rw [h2, hw] at hP1 hD1
  exact hq ▸ kk H1 locs1 ls hP1 hD1 hS1 hl
theorem x_zast (C : xC p s m args meth c D A cc own nL Ts tys ret) {a n0 : Nat} {cA : ClassId} {f : Nat → Int32} {G : (Nat → Int32) → va_W} {i x : Int32} (t0 : Nat) (d : decode cc pc = .ok (.bastore, 1)) (ho : xA ws a cA n0 f G) (ht : tys[t0]? = some (cA, .boolean)) (hi : xin i n0 = true) (hw : G (upd f i.toNatClampNeg (vp_nar .boolean x)) = ws') (hq : pc + 1 = q) (kk : xV p l e R s m args below meth c D A Q nL ws' k n L q st) : xV p l e R s m args below meth c D A Q nL ws k n L pc (.int x :: .int i :: .ref a :: st) := by
  intro H locs ls hP hD hS hl
  obtain ⟨q0, h0, h2⟩ := ho
  refine va_zast C.1 C.2.1 C.2.2.2.2.2.1 hP hD hS q0 t0 h0 ht (xin_of hi) d (fun H1 locs1 hP1 hD1 hS1 => ?_)
  rw [h2, hw] at hP1 hD1
  exact hq ▸ kk H1 locs1 ls hP1 hD1 hS1 hl
/-- a row of an array of arrays -/
theorem x_aald (C : xC p s m args meth c D A cc own nL Ts tys ret) {a n0 : Nat} {cA : ClassId} {f : Nat → Option Nat} {i : Int32} {b : Nat} {ty : FieldType} (t0 : Nat) (d : decode cc pc = .ok (.aaload, 1)) (ho : xR ws a cA n0 f) (ht : tys[t0]? = some (cA, ty)) (hr : ty.isReference = true) (hi : xin i n0 = true) (hb : f i.toNatClampNeg = some b) (hq : pc + 1 = q) (kk : xV p l e R s m args below meth c D A Q nL ws k n L q (.ref b :: st)) : xV p l e R s m args below meth c D A Q nL ws k n L pc (.int i :: .ref a :: st) := by
  intro H locs ls hP hD hS hl
  obtain ⟨q0, h0⟩ := ho
  obtain ⟨hx, hbb, -, hown, hts, hK, -⟩ := C
  have hin := xin_of hi
  have hc : H[a]? = some (arrV cA n0 (fun j => va_rf (f j))) := hP q0 _ h0
  have hlt : i.toNatClampNeg < n0 := by
    rcases Nat.lt_or_ge i.toNatClampNeg n0 with h | h
    · exact h
    · exact absurd (Or.inr h) hin
  refine W.aald hx hbb hc ((hK.2 t0 _ ht).1 n0 _) hr (fun h => by cases h) (by rw [arrV_size]; exact hin) (v := .ref b) ?_ rfl rfl d (W.eq (g2 := F0 m (pc + 1) ls (.ref b :: st)) rfl (hq ▸ kk H locs ls hP hD hS hl))
  show (arrV cA n0 (fun j => va_rf (f j))).slots[i.toNatClampNeg]? = some (.ref b)
  exact (arrV_read cA _ hlt).trans (congrArg some (by show va_rf (f i.toNatClampNeg) = .ref b; rw [hb]; rfl))
theorem x_alen (C : xC p s m args meth c D A cc own nL Ts tys ret) {a n0 : Nat} {cA : ClassId} {f : Nat → Int32} {G : (Nat → Int32) → va_W} {ty : FieldType} (t0 : Nat) {v : Int32} (d : decode cc pc = .ok (.arraylength, 1)) (ho : xA ws a cA n0 f G) (ht : tys[t0]? = some (cA, ty)) (hv : Int32.ofNat n0 = v) (hq : pc + 1 = q) (kk : xV p l e R s m args below meth c D A Q nL ws k n L q (.int v :: st)) : xV p l e R s m args below meth c D A Q nL ws k n L pc (.ref a :: st) := by
  intro H locs ls hP hD hS hl
  obtain ⟨q0, h0, -⟩ := ho
  exact va_alen C.1 C.2.1 C.2.2.2.2.2.1 hP q0 t0 h0 ht hv d (hq ▸ kk H locs ls hP hD hS hl)
theorem x_mmin (C : xC p s m args meth c D A cc own nL Ts tys ret) {index : Nat} {x y : Int32} (d : decode cc pc = .ok (.invokestatic index, 3)) (hm : ∀ w ∈ ([.methodLink own index Lib.Math.min.name, .static Lib.Math.min.name, .initialized "java/lang/Math", .code Lib.Math.min.name Lib.Math.min.code 2 (some .int)] : List Cond), w ∈ Ts) (hfr : 1 ≤ R.frames) (hlo : (st.map fun v => v.category).sum + 13 ≤ R.locals) (hk : k ≤ R.cells) (hn : n ≤ R.slots) (hq : pc + 3 = q) (kk : xV p l e R s m args below meth c D A Q nL ws k n L q (.int (if y < x then y else x) :: st)) : xV p l e R s m args below meth c D A Q nL ws k n L pc (.int y :: .int x :: st) := by
  intro H locs ls hP hD hS hl
  obtain ⟨hx, hbb, hml, hown, hts, hK, -⟩ := C
  exact va_mmin hx hbb (hml.trans hl.1.symm) hown (hts _ (hm _ (by simp))) (hts _ (hm _ (by simp))) (hts _ (hm _ (by simp))) (hts _ (hm _ (by simp))) hfr hlo hk hn d (hq ▸ kk H locs ls hP hD hS hl)
theorem x_mmax (C : xC p s m args meth c D A cc own nL Ts tys ret) {index : Nat} {x y : Int32} (d : decode cc pc = .ok (.invokestatic index, 3)) (hm : ∀ w ∈ ([.methodLink own index Lib.Math.max.name, .static Lib.Math.max.name, .initialized "java/lang/Math", .code Lib.Math.max.name Lib.Math.max.code 2 (some .int)] : List Cond), w ∈ Ts) (hfr : 1 ≤ R.frames) (hlo : (st.map fun v => v.category).sum + 13 ≤ R.locals) (hk : k ≤ R.cells) (hn : n ≤ R.slots) (hq : pc + 3 = q) (kk : xV p l e R s m args below meth c D A Q nL ws k n L q (.int (if x < y then y else x) :: st)) : xV p l e R s m args below meth c D A Q nL ws k n L pc (.int y :: .int x :: st) := by
  intro H locs ls hP hD hS hl
  obtain ⟨hx, hbb, hml, hown, hts, hK, -⟩ := C
  exact va_mmax hx hbb (hml.trans hl.1.symm) hown (hts _ (hm _ (by simp))) (hts _ (hm _ (by simp))) (hts _ (hm _ (by simp))) (hts _ (hm _ (by simp))) hfr hlo hk hn d (hq ▸ kk H locs ls hP hD hS hl)
end XK
-- a method's body, from its entry
def xQi (D : va_G) (tys : List (ClassId × FieldType)) (A : Nat → Prop) {S : Type} (post : Int32 → S → Prop) (W' : S → va_W) (mc ms : Nat) (below : List Frame) (args : Array Value) (s : State) : State → Prop := MQ below (va_Qi post (fun u t => xE D tys A (W' u) t) A) args s mc ms A
def xQv (D : va_G) (tys : List (ClassId × FieldType)) (A : Nat → Prop) {S : Type} (post : S → Prop) (W' : S → va_W) (mc ms : Nat) (below : List Frame) (args : Array Value) (s : State) : State → Prop := MQ below (va_Qv post (fun u t => xE D tys A (W' u) t) A) args s mc ms A
def xQl (D : va_G) (tys : List (ClassId × FieldType)) (A : Nat → Prop) {S : Type} (post : Int64 → S → Prop) (W' : S → va_W) (mc ms : Nat) (below : List Frame) (args : Array Value) (s : State) : State → Prop := MQ below (va_Ql post (fun u t => xE D tys A (W' u) t) A) args s mc ms A
def xQr (D : va_G) (tys : List (ClassId × FieldType)) (A : Nat → Prop) {S : Type} (post : S → Prop) (W' : S → Nat → va_W) (mc ms : Nat) (below : List Frame) (args : Array Value) (s : State) : State → Prop := MQ below (va_Qr post (fun u a t => xE D tys A (W' u a) t) A) args s mc ms A
theorem xMi_of {l : Launch} {y : MethodName} {wsM ws' : List Cond} {cc : ByteArray} {nL rf rl mc ms : Nat} {ret : Option FieldType} {D : va_G} {tys : List (ClassId × FieldType)} {av : List Value} {Wc : va_W} {S : Type} {post : Int32 → S → Prop} {W' : S → va_W} (L : List (Nat × Value)) (hy : plainName y.cls = true) (hw : wsM = Cond.code y cc nL ret :: ws') (hn : (lg_sl av).length ≤ nL) (hL : lv_args 0 av = L)
    (body : ∀ (p : Program) (e : Env) (s : State) (m : MethodId) (args : Array Value) (below : List Frame) (meth : Method) (c : Code) (A : Nat → Prop), xC p s m args meth c D A cc y.cls nL wsM tys ret → (y.name = "<init>" → meth.name = "<init>") → xV p l e { frames := rf, cells := mc, slots := ms, locals := rl } s m args below meth c D A (xQi D tys A post W' mc ms below args s) nL Wc 0 0 L 0 []) : xMi l y wsM rf rl mc ms D tys av Wc post W' := by
  intro sz
  refine Met.ofW (cc := cc) (maxL := nL) (ret := ret) hy hw ?_
  intro p e s m args below meth c s₁ B hml hv
  obtain ⟨rfl, hsz, hP, hK, hD0⟩ := hv
  subst hsz
  have hD := hD0.self (sz := s.heap.size)
  have hl := lv_entry av hn
  rw [hL] at hl
  have key := body p e s m av.toArray below meth c (va_A Wc s.heap.size) ⟨B.exec, B.bytes, hml, findClass_of_methodNamed B.named, atoms_spec (ws := wsM) B.pre, hK, B.returns, B.notSynchronized, fun q h => Or.inr h⟩ (fun h => (name_of_methodNamed B.named B.method).1.trans h) s.heap [] _ hP hD va_S.rf hl
  rw [← lg_entry_eq] at key
  exact key
theorem xMv_of {l : Launch} {y : MethodName} {wsM ws' : List Cond} {cc : ByteArray} {nL rf rl mc ms : Nat} {ret : Option FieldType} {D : va_G} {tys : List (ClassId × FieldType)} {av : List Value} {Wc : va_W} {S : Type} {post : S → Prop} {W' : S → va_W} (L : List (Nat × Value)) (hy : plainName y.cls = true) (hw : wsM = Cond.code y cc nL ret :: ws') (hn : (lg_sl av).length ≤ nL) (hL : lv_args 0 av = L)
    (body : ∀ (p : Program) (e : Env) (s : State) (m : MethodId) (args : Array Value) (below : List Frame) (meth : Method) (c : Code) (A : Nat → Prop), xC p s m args meth c D A cc y.cls nL wsM tys ret → (y.name = "<init>" → meth.name = "<init>") → xV p l e { frames := rf, cells := mc, slots := ms, locals := rl } s m args below meth c D A (xQv D tys A post W' mc ms below args s) nL Wc 0 0 L 0 []) : xMv l y wsM rf rl mc ms D tys av Wc post W' := by
  intro sz
  refine Met.ofW (cc := cc) (maxL := nL) (ret := ret) hy hw ?_
  intro p e s m args below meth c s₁ B hml hv
  obtain ⟨rfl, hsz, hP, hK, hD0⟩ := hv
  subst hsz
  have hD := hD0.self (sz := s.heap.size)
  have hl := lv_entry av hn
  rw [hL] at hl
  have key := body p e s m av.toArray below meth c (va_A Wc s.heap.size) ⟨B.exec, B.bytes, hml, findClass_of_methodNamed B.named, atoms_spec (ws := wsM) B.pre, hK, B.returns, B.notSynchronized, fun q h => Or.inr h⟩ (fun h => (name_of_methodNamed B.named B.method).1.trans h) s.heap [] _ hP hD va_S.rf hl
  rw [← lg_entry_eq] at key
  exact key
theorem xMl_of {l : Launch} {y : MethodName} {wsM ws' : List Cond} {cc : ByteArray} {nL rf rl mc ms : Nat} {ret : Option FieldType} {D : va_G} {tys : List (ClassId × FieldType)} {av : List Value} {Wc : va_W} {S : Type} {post : Int64 → S → Prop} {W' : S → va_W} (L : List (Nat × Value)) (hy : plainName y.cls = true) (hw : wsM = Cond.code y cc nL ret :: ws') (hn : (lg_sl av).length ≤ nL) (hL : lv_args 0 av = L)
    (body : ∀ (p : Program) (e : Env) (s : State) (m : MethodId) (args : Array Value) (below : List Frame) (meth : Method) (c : Code) (A : Nat → Prop), xC p s m args meth c D A cc y.cls nL wsM tys ret → (y.name = "<init>" → meth.name = "<init>") → xV p l e { frames := rf, cells := mc, slots := ms, locals := rl } s m args below meth c D A (xQl D tys A post W' mc ms below args s) nL Wc 0 0 L 0 []) : xMl l y wsM rf rl mc ms D tys av Wc post W' := by
  intro sz
  refine Met.ofW (cc := cc) (maxL := nL) (ret := ret) hy hw ?_
  intro p e s m args below meth c s₁ B hml hv
  obtain ⟨rfl, hsz, hP, hK, hD0⟩ := hv
  subst hsz
  have hD := hD0.self (sz := s.heap.size)
  have hl := lv_entry av hn
  rw [hL] at hl
  have key := body p e s m av.toArray below meth c (va_A Wc s.heap.size) ⟨B.exec, B.bytes, hml, findClass_of_methodNamed B.named, atoms_spec (ws := wsM) B.pre, hK, B.returns, B.notSynchronized, fun q h => Or.inr h⟩ (fun h => (name_of_methodNamed B.named B.method).1.trans h) s.heap [] _ hP hD va_S.rf hl
  rw [← lg_entry_eq] at key
  exact key
theorem xMr_of {l : Launch} {y : MethodName} {wsM ws' : List Cond} {cc : ByteArray} {nL rf rl mc ms : Nat} {ret : Option FieldType} {D : va_G} {tys : List (ClassId × FieldType)} {av : List Value} {Wc : va_W} {S : Type} {post : S → Prop} {W' : S → Nat → va_W} (L : List (Nat × Value)) (hy : plainName y.cls = true) (hw : wsM = Cond.code y cc nL ret :: ws') (hn : (lg_sl av).length ≤ nL) (hL : lv_args 0 av = L)
    (body : ∀ (p : Program) (e : Env) (s : State) (m : MethodId) (args : Array Value) (below : List Frame) (meth : Method) (c : Code) (A : Nat → Prop), xC p s m args meth c D A cc y.cls nL wsM tys ret → (y.name = "<init>" → meth.name = "<init>") → xV p l e { frames := rf, cells := mc, slots := ms, locals := rl } s m args below meth c D A (xQr D tys A post W' mc ms below args s) nL Wc 0 0 L 0 []) : xMr l y wsM rf rl mc ms D tys av Wc post W' := by
  intro sz
  refine Met.ofW (cc := cc) (maxL := nL) (ret := ret) hy hw ?_
  intro p e s m args below meth c s₁ B hml hv
  obtain ⟨rfl, hsz, hP, hK, hD0⟩ := hv
  subst hsz
  have hD := hD0.self (sz := s.heap.size)
  have hl := lv_entry av hn
  rw [hL] at hl
  have key := body p e s m av.toArray below meth c (va_A Wc s.heap.size) ⟨B.exec, B.bytes, hml, findClass_of_methodNamed B.named, atoms_spec (ws := wsM) B.pre, hK, B.returns, B.notSynchronized, fun q h => Or.inr h⟩ (fun h => (name_of_methodNamed B.named B.method).1.trans h) s.heap [] _ hP hD va_S.rf hl
  rw [← lg_entry_eq] at key
  exact key
section XR
variable {p : Program} {l : Launch} {e : Env} {R : Room} {s : State} {m : MethodId} {args : Array Value} {below : List Frame} {meth : Method} {c : Code}
variable {D : va_G} {A : Nat → Prop} {cc : ByteArray} {own : String} {nL : Nat} {Ts : List Cond} {tys : List (ClassId × FieldType)} {ret : Option FieldType}
variable {ws : va_W} {k n pc mc ms : Nat} {L : List (Nat × Value)} {S : Type}
theorem x_iret {post : Int32 → S → Prop} {W' : S → va_W} {v : Int32} (u : S) (C : xC p s m args meth c D A cc own nL Ts tys ret) (d : decode cc pc = .ok (.ireturn, 1)) (hr : ret = some .int) (hp : post v u) (hw : ws = W' u) (h1 : k ≤ mc) (h2 : n ≤ ms) : xV p l e R s m args below meth c D A (xQi D tys A post W' mc ms below args s) nL ws k n L pc [.int v] := by
  intro H locs ls hP hD hS hl
  subst hw
  obtain ⟨hx, hb, -, hown, hts, hK, hret, hlk, hA⟩ := C
  refine W.widen h1 h2 ?_
  exact W.iret (v := v) hx hb (hret.trans hr) (fun t ht hW => ⟨⟨v, u, rfl, hp, by rw [ht]; exact hP, va_K.moved hW.alike hK, hD⟩, hS.F ht⟩) hS.2.2 d hlk
theorem x_zret {post : Int32 → S → Prop} {W' : S → va_W} {v : Int32} (u : S) (C : xC p s m args meth c D A cc own nL Ts tys ret) (d : decode cc pc = .ok (.ireturn, 1)) (hr : ret = some .boolean) (hn : narrow .boolean (.int v) = .int v) (hp : post v u) (hw : ws = W' u) (h1 : k ≤ mc) (h2 : n ≤ ms) : xV p l e R s m args below meth c D A (xQi D tys A post W' mc ms below args s) nL ws k n L pc [.int v] := by
  intro H locs ls hP hD hS hl
  subst hw
  obtain ⟨hx, hb, -, hown, hts, hK, hret, hlk, hA⟩ := C
  refine W.widen h1 h2 ?_
  exact W.zret (v := v) hx hb (hret.trans hr) hn (fun t ht hW => ⟨⟨v, u, rfl, hp, by rw [ht]; exact hP, va_K.moved hW.alike hK, hD⟩, hS.F ht⟩) hS.2.2 d hlk
theorem x_lret {post : Int64 → S → Prop} {W' : S → va_W} {v : Int64} (u : S) (C : xC p s m args meth c D A cc own nL Ts tys ret) (d : decode cc pc = .ok (.lreturn, 1)) (hr : ret = some .long) (hp : post v u) (hw : ws = W' u) (h1 : k ≤ mc) (h2 : n ≤ ms) : xV p l e R s m args below meth c D A (xQl D tys A post W' mc ms below args s) nL ws k n L pc [.long v] := by
  intro H locs ls hP hD hS hl
  subst hw
  obtain ⟨hx, hb, -, hown, hts, hK, hret, hlk, hA⟩ := C
  refine W.widen h1 h2 ?_
  exact W.lret (v := v) hx hb (hret.trans hr) (fun t ht hW => ⟨⟨v, u, rfl, hp, by rw [ht]; exact hP, va_K.moved hW.alike hK, hD⟩, hS.F ht⟩) hS.2.2 d hlk
theorem x_vret {post : S → Prop} {W' : S → va_W} (u : S) (C : xC p s m args meth c D A cc own nL Ts tys ret) (d : decode cc pc = .ok (.return_, 1)) (hr : ret = none) (hp : post u) (hw : ws = W' u) (h1 : k ≤ mc) (h2 : n ≤ ms) : xV p l e R s m args below meth c D A (xQv D tys A post W' mc ms below args s) nL ws k n L pc [] := by
  intro H locs ls hP hD hS hl
  subst hw
  obtain ⟨hx, hb, -, hown, hts, hK, hret, hlk, hA⟩ := C
  refine W.widen h1 h2 ?_
  exact W.vret hx hb (hret.trans hr) (fun t ht hW => ⟨⟨u, rfl, hp, by rw [ht]; exact hP, va_K.moved hW.alike hK, hD⟩, hS.F ht⟩) hS.2.2 d hlk
theorem x_aret {post : S → Prop} {W' : S → Nat → va_W} {a : Nat} {rt : FieldType} (u : S) (C : xC p s m args meth c D A cc own nL Ts tys ret) (d : decode cc pc = .ok (.areturn, 1)) (hr : ret = some rt) (hrt : (∃ n, rt = .object n) ∨ ∃ t, rt = .array t) (hp : post u) (hw : ws = W' u a) (h1 : k ≤ mc) (h2 : n ≤ ms) : xV p l e R s m args below meth c D A (xQr D tys A post W' mc ms below args s) nL ws k n L pc [.ref a] := by
  intro H locs ls hP hD hS hl
  subst hw
  obtain ⟨hx, hb, -, hown, hts, hK, hret, hlk, hA⟩ := C
  refine W.widen h1 h2 ?_
  exact W.aret (v := .ref a) hx hb (hret.trans hr) hrt (Or.inr ⟨a, rfl⟩) (fun t ht hW => ⟨⟨u, a, rfl, hp, by rw [ht]; exact hP, va_K.moved hW.alike hK, hD⟩, hS.F ht⟩) hS.2.2 d hlk
end XR
section XCALL
variable {p : Program} {l : Launch} {e : Env} {R : Room} {s : State} {m : MethodId} {args : Array Value} {below : List Frame} {meth : Method} {c : Code} {Q : State → Prop}
variable {D : va_G} {A : Nat → Prop} {cc : ByteArray} {own : String} {nL : Nat} {Ts : List Cond} {tys : List (ClassId × FieldType)} {ret : Option FieldType}
variable {ws Wc Wr : va_W} {k n pc q mc ms rf rl idx ci b na maxL2 : Nat} {L : List (Nat × Value)} {st As rest : List Value} {S : Type} {y2 : MethodName} {ws2 : List Cond} {b2 : ByteArray} {ret2 : Option FieldType} {fs : List Value} {C2 : String} {T2 : u_T} {N2 : Nat}
theorem x_callVi {post : Int32 → S → Prop} {W2 : S → va_W} (C : xC p s m args meth c D A cc own nL Ts tys ret) (M : xMi l y2 ws2 rf rl mc ms D tys (.ref b :: As) Wc post W2) (hy : xY y2 ws2 b2 maxL2 ret2 na) (hG : GoodIn Ts (wsV own idx C2 y2 ws2)) (hcls : y2.cls = C2) (ho : xO Wc b ci fs) (hci : vwCl[ci]? = some (C2, T2, N2)) (hR : rf + 1 ≤ R.frames ∧ 8 + (maxL2 + 11) + rl ≤ R.locals) (d : decode cc pc = .ok (.invokevirtual idx, 3)) (hpm : ws.Perm (Wc ++ Wr)) (hst : st = As.reverse ++ .ref b :: rest) (hlen : As.length = na) (hW : (rest.map fun v => v.category).sum ≤ 8) (hf : k + mc ≤ R.cells ∧ n + ms ≤ R.slots) (hq : pc + 3 = q) (kk : ∀ (r : Int32) (u : S), post r u → xV p l e R s m args below meth c D A Q nL (W2 u ++ Wr) (k + mc) (n + ms) L q (.int r :: rest)) : xV p l e R s m args below meth c D A Q nL ws k n L pc st := by
  intro H locs ls hP hD hS hl
  obtain ⟨hx, hb, hml, hown, hts, hK, hret, hlk, hA⟩ := C
  have hP2 := xP_perm hpm hP
  have hD2 := xD_perm hpm hD
  have hPc := xP_left hP2
  have hDc := xD_left hD2
  have hFc := xFree hD2 hS hA
  obtain ⟨⟨wsY, hyw⟩, hy2⟩ := hy
  obtain ⟨q0, h0⟩ := ho
  subst hst
  have hW : 2 * (F0 m pc ls (As.reverse ++ .ref b :: rest)).monitorRoom + (rest.map fun v => v.category).sum ≤ 8 := lv_room hW
  refine va_calli (va_runV (As := As) (rest := rest) ⟨hx, hb, hml, hown, hts⟩ (M H.size) (cwV na hts hG hyw rfl rfl ⟨hcls, hy2.1, hy2.2.1, hy2.2.2⟩ hR) ⟨xPc_blind, va_recv hK hPc hci h0, fun U hU hW => ⟨rfl, by rw [hU], by rw [hU]; exact hPc, va_K.moved hW.alike hK, hDc.weaken (fun _ _ _ _ => trivial)⟩⟩ rfl hlen hl.1 rfl hW d hf) hS (fun q _ h => hFc q h) hFc (fun r u t H1 locs1 ht hvm hw hB hz1 hk1 hS1 => ?_)
  obtain ⟨hP1, hK1, hD1⟩ := hB
  rw [ht] at hP1
  obtain ⟨hP3, hD3⟩ := xJoin hP2 hD2 hFc hk1 hP1 hD1
  exact hq ▸ kk r u hw H1 locs1 ls hP3 hD3 hS1 hl
theorem x_callSi {post : Int32 → S → Prop} {W2 : S → va_W} (C : xC p s m args meth c D A cc own nL Ts tys ret) (M : xMi l y2 ws2 rf rl mc ms D tys (As) Wc post W2) (hy : xY y2 ws2 b2 maxL2 ret2 na) (hG : GoodIn Ts (va_wsS own idx y2 ws2)) (hR : rf + 1 ≤ R.frames ∧ 8 + (maxL2 + 11) + rl ≤ R.locals) (d : decode cc pc = .ok (.invokestatic idx, 3)) (hpm : ws.Perm (Wc ++ Wr)) (hst : st = As.reverse ++ rest) (hlen : As.length = na) (hW : (rest.map fun v => v.category).sum ≤ 8) (hf : k + mc ≤ R.cells ∧ n + ms ≤ R.slots) (hq : pc + 3 = q) (kk : ∀ (r : Int32) (u : S), post r u → xV p l e R s m args below meth c D A Q nL (W2 u ++ Wr) (k + mc) (n + ms) L q (.int r :: rest)) : xV p l e R s m args below meth c D A Q nL ws k n L pc st := by
  intro H locs ls hP hD hS hl
  obtain ⟨hx, hb, hml, hown, hts, hK, hret, hlk, hA⟩ := C
  have hP2 := xP_perm hpm hP
  have hD2 := xD_perm hpm hD
  have hPc := xP_left hP2
  have hDc := xD_left hD2
  have hFc := xFree hD2 hS hA
  obtain ⟨⟨wsY, hyw⟩, hy2⟩ := hy
  subst hst
  have hW : 2 * (F0 m pc ls (As.reverse ++ rest)).monitorRoom + (rest.map fun v => v.category).sum ≤ 8 := lv_room hW
  refine va_calli (va_runS (As := As) (rest := rest) ⟨hx, hb, hml, hown, hts⟩ (M H.size) (va_cwS na hts hG hyw rfl rfl ⟨hy2.1, hy2.2.1, hy2.2.2⟩ hR) ⟨xPc_blind, fun U hU hW => ⟨rfl, by rw [hU], by rw [hU]; exact hPc, va_K.moved hW.alike hK, hDc.weaken (fun _ _ _ _ => trivial)⟩⟩ rfl hlen hl.1 rfl hW d hf) hS (fun q _ h => hFc q h) hFc (fun r u t H1 locs1 ht hvm hw hB hz1 hk1 hS1 => ?_)
  obtain ⟨hP1, hK1, hD1⟩ := hB
  rw [ht] at hP1
  obtain ⟨hP3, hD3⟩ := xJoin hP2 hD2 hFc hk1 hP1 hD1
  exact hq ▸ kk r u hw H1 locs1 ls hP3 hD3 hS1 hl
theorem x_callVv {post : S → Prop} {W2 : S → va_W} (C : xC p s m args meth c D A cc own nL Ts tys ret) (M : xMv l y2 ws2 rf rl mc ms D tys (.ref b :: As) Wc post W2) (hy : xY y2 ws2 b2 maxL2 ret2 na) (hG : GoodIn Ts (wsV own idx C2 y2 ws2)) (hcls : y2.cls = C2) (ho : xO Wc b ci fs) (hci : vwCl[ci]? = some (C2, T2, N2)) (hR : rf + 1 ≤ R.frames ∧ 8 + (maxL2 + 11) + rl ≤ R.locals) (d : decode cc pc = .ok (.invokevirtual idx, 3)) (hpm : ws.Perm (Wc ++ Wr)) (hst : st = As.reverse ++ .ref b :: rest) (hlen : As.length = na) (hW : (rest.map fun v => v.category).sum ≤ 8) (hf : k + mc ≤ R.cells ∧ n + ms ≤ R.slots) (hq : pc + 3 = q) (kk : ∀ (u : S), post u → xV p l e R s m args below meth c D A Q nL (W2 u ++ Wr) (k + mc) (n + ms) L q (rest)) : xV p l e R s m args below meth c D A Q nL ws k n L pc st := by
  intro H locs ls hP hD hS hl
  obtain ⟨hx, hb, hml, hown, hts, hK, hret, hlk, hA⟩ := C
  have hP2 := xP_perm hpm hP
  have hD2 := xD_perm hpm hD
  have hPc := xP_left hP2
  have hDc := xD_left hD2
  have hFc := xFree hD2 hS hA
  obtain ⟨⟨wsY, hyw⟩, hy2⟩ := hy
  obtain ⟨q0, h0⟩ := ho
  subst hst
  have hW : 2 * (F0 m pc ls (As.reverse ++ .ref b :: rest)).monitorRoom + (rest.map fun v => v.category).sum ≤ 8 := lv_room hW
  refine va_callv (va_runV (As := As) (rest := rest) ⟨hx, hb, hml, hown, hts⟩ (M H.size) (cwV na hts hG hyw rfl rfl ⟨hcls, hy2.1, hy2.2.1, hy2.2.2⟩ hR) ⟨xPc_blind, va_recv hK hPc hci h0, fun U hU hW => ⟨rfl, by rw [hU], by rw [hU]; exact hPc, va_K.moved hW.alike hK, hDc.weaken (fun _ _ _ _ => trivial)⟩⟩ rfl hlen hl.1 rfl hW d hf) hS (fun q _ h => hFc q h) hFc (fun u t H1 locs1 ht hvm hw hB hz1 hk1 hS1 => ?_)
  obtain ⟨hP1, hK1, hD1⟩ := hB
  rw [ht] at hP1
  obtain ⟨hP3, hD3⟩ := xJoin hP2 hD2 hFc hk1 hP1 hD1
  exact hq ▸ kk u hw H1 locs1 ls hP3 hD3 hS1 hl
theorem x_callSv {post : S → Prop} {W2 : S → va_W} (C : xC p s m args meth c D A cc own nL Ts tys ret) (M : xMv l y2 ws2 rf rl mc ms D tys (As) Wc post W2) (hy : xY y2 ws2 b2 maxL2 ret2 na) (hG : GoodIn Ts (va_wsS own idx y2 ws2)) (hR : rf + 1 ≤ R.frames ∧ 8 + (maxL2 + 11) + rl ≤ R.locals) (d : decode cc pc = .ok (.invokestatic idx, 3)) (hpm : ws.Perm (Wc ++ Wr)) (hst : st = As.reverse ++ rest) (hlen : As.length = na) (hW : (rest.map fun v => v.category).sum ≤ 8) (hf : k + mc ≤ R.cells ∧ n + ms ≤ R.slots) (hq : pc + 3 = q) (kk : ∀ (u : S), post u → xV p l e R s m args below meth c D A Q nL (W2 u ++ Wr) (k + mc) (n + ms) L q (rest)) : xV p l e R s m args below meth c D A Q nL ws k n L pc st := by
  intro H locs ls hP hD hS hl
  obtain ⟨hx, hb, hml, hown, hts, hK, hret, hlk, hA⟩ := C
  have hP2 := xP_perm hpm hP
  have hD2 := xD_perm hpm hD
  have hPc := xP_left hP2
  have hDc := xD_left hD2
  have hFc := xFree hD2 hS hA
  obtain ⟨⟨wsY, hyw⟩, hy2⟩ := hy
  subst hst
  have hW : 2 * (F0 m pc ls (As.reverse ++ rest)).monitorRoom + (rest.map fun v => v.category).sum ≤ 8 := lv_room hW
  refine va_callv (va_runS (As := As) (rest := rest) ⟨hx, hb, hml, hown, hts⟩ (M H.size) (va_cwS na hts hG hyw rfl rfl ⟨hy2.1, hy2.2.1, hy2.2.2⟩ hR) ⟨xPc_blind, fun U hU hW => ⟨rfl, by rw [hU], by rw [hU]; exact hPc, va_K.moved hW.alike hK, hDc.weaken (fun _ _ _ _ => trivial)⟩⟩ rfl hlen hl.1 rfl hW d hf) hS (fun q _ h => hFc q h) hFc (fun u t H1 locs1 ht hvm hw hB hz1 hk1 hS1 => ?_)
  obtain ⟨hP1, hK1, hD1⟩ := hB
  rw [ht] at hP1
  obtain ⟨hP3, hD3⟩ := xJoin hP2 hD2 hFc hk1 hP1 hD1
  exact hq ▸ kk u hw H1 locs1 ls hP3 hD3 hS1 hl
theorem x_callIv {post : S → Prop} {W2 : S → va_W} (C : xC p s m args meth c D A cc own nL Ts tys ret) (M : xMv l y2 ws2 rf rl mc ms D tys (.ref b :: As) Wc post W2) (hy : xY y2 ws2 b2 maxL2 none na) (hG : GoodIn Ts ws2) (hini : Cond.initialized y2.cls ∈ Ts) (hlk2 : Cond.methodLink own idx y2 ∈ Ts) (hin2 : Cond.instanceMethod y2 ∈ Ts) (hnm : y2.name = "<init>") (hR : rf + 1 ≤ R.frames ∧ 8 + (maxL2 + 11) + rl ≤ R.locals) (d : decode cc pc = .ok (.invokespecial idx, 3)) (hpm : ws.Perm (Wc ++ Wr)) (hst : st = As.reverse ++ .ref b :: rest) (hlen : As.length = na) (hW : (rest.map fun v => v.category).sum ≤ 8) (hf : k + mc ≤ R.cells ∧ n + ms ≤ R.slots) (hq : pc + 3 = q) (kk : ∀ (u : S), post u → xV p l e R s m args below meth c D A Q nL (W2 u ++ Wr) (k + mc) (n + ms) L q (rest)) : xV p l e R s m args below meth c D A Q nL ws k n L pc st := by
  intro H locs ls hP hD hS hl
  obtain ⟨hx, hb, hml, hown, hts, hK, hret, hlk, hA⟩ := C
  have hP2 := xP_perm hpm hP
  have hD2 := xD_perm hpm hD
  have hPc := xP_left hP2
  have hDc := xD_left hD2
  have hFc := xFree hD2 hS hA
  obtain ⟨⟨wsY, hyw⟩, hy2⟩ := hy
  subst hst
  have hW : 2 * (F0 m pc ls (As.reverse ++ .ref b :: rest)).monitorRoom + (rest.map fun v => v.category).sum ≤ 8 := lv_room hW
  refine va_callv (va_runI (As := As) (rest := rest) ⟨hx, hb, hml, hown, hts⟩ (M H.size) (cwI na hts hG hyw rfl rfl (hts _ hini) (hts _ hlk2) (hts _ hin2) hnm ⟨hy2.1, hy2.2.1, hy2.2.2⟩ hR) ⟨xPc_blind, fun U hU hW => ⟨rfl, by rw [hU], by rw [hU]; exact hPc, va_K.moved hW.alike hK, hDc.weaken (fun _ _ _ _ => trivial)⟩⟩ rfl hlen hl.1 rfl hW d hf) hS (fun q _ h => hFc q h) hFc (fun u t H1 locs1 ht hvm hw hB hz1 hk1 hS1 => ?_)
  obtain ⟨hP1, hK1, hD1⟩ := hB
  rw [ht] at hP1
  obtain ⟨hP3, hD3⟩ := xJoin hP2 hD2 hFc hk1 hP1 hD1
  exact hq ▸ kk u hw H1 locs1 ls hP3 hD3 hS1 hl
theorem x_callVl {post : Int64 → S → Prop} {W2 : S → va_W} (C : xC p s m args meth c D A cc own nL Ts tys ret) (M : xMl l y2 ws2 rf rl mc ms D tys (.ref b :: As) Wc post W2) (hy : xY y2 ws2 b2 maxL2 ret2 na) (hG : GoodIn Ts (wsV own idx C2 y2 ws2)) (hcls : y2.cls = C2) (ho : xO Wc b ci fs) (hci : vwCl[ci]? = some (C2, T2, N2)) (hR : rf + 1 ≤ R.frames ∧ 8 + (maxL2 + 11) + rl ≤ R.locals) (d : decode cc pc = .ok (.invokevirtual idx, 3)) (hpm : ws.Perm (Wc ++ Wr)) (hst : st = As.reverse ++ .ref b :: rest) (hlen : As.length = na) (hW : (rest.map fun v => v.category).sum ≤ 8) (hf : k + mc ≤ R.cells ∧ n + ms ≤ R.slots) (hq : pc + 3 = q) (kk : ∀ (r : Int64) (u : S), post r u → xV p l e R s m args below meth c D A Q nL (W2 u ++ Wr) (k + mc) (n + ms) L q (.long r :: rest)) : xV p l e R s m args below meth c D A Q nL ws k n L pc st := by
  intro H locs ls hP hD hS hl
  obtain ⟨hx, hb, hml, hown, hts, hK, hret, hlk, hA⟩ := C
  have hP2 := xP_perm hpm hP
  have hD2 := xD_perm hpm hD
  have hPc := xP_left hP2
  have hDc := xD_left hD2
  have hFc := xFree hD2 hS hA
  obtain ⟨⟨wsY, hyw⟩, hy2⟩ := hy
  obtain ⟨q0, h0⟩ := ho
  subst hst
  have hW : 2 * (F0 m pc ls (As.reverse ++ .ref b :: rest)).monitorRoom + (rest.map fun v => v.category).sum ≤ 8 := lv_room hW
  refine va_calll (va_runV (As := As) (rest := rest) ⟨hx, hb, hml, hown, hts⟩ (M H.size) (cwV na hts hG hyw rfl rfl ⟨hcls, hy2.1, hy2.2.1, hy2.2.2⟩ hR) ⟨xPc_blind, va_recv hK hPc hci h0, fun U hU hW => ⟨rfl, by rw [hU], by rw [hU]; exact hPc, va_K.moved hW.alike hK, hDc.weaken (fun _ _ _ _ => trivial)⟩⟩ rfl hlen hl.1 rfl hW d hf) hS (fun q _ h => hFc q h) hFc (fun r u t H1 locs1 ht hvm hw hB hz1 hk1 hS1 => ?_)
  obtain ⟨hP1, hK1, hD1⟩ := hB
  rw [ht] at hP1
  obtain ⟨hP3, hD3⟩ := xJoin hP2 hD2 hFc hk1 hP1 hD1
  exact hq ▸ kk r u hw H1 locs1 ls hP3 hD3 hS1 hl
theorem x_callVr {post : S → Prop} {W2 : S → Nat → va_W} (C : xC p s m args meth c D A cc own nL Ts tys ret) (M : xMr l y2 ws2 rf rl mc ms D tys (.ref b :: As) Wc post W2) (hy : xY y2 ws2 b2 maxL2 ret2 na) (hG : GoodIn Ts (wsV own idx C2 y2 ws2)) (hcls : y2.cls = C2) (ho : xO Wc b ci fs) (hci : vwCl[ci]? = some (C2, T2, N2)) (hR : rf + 1 ≤ R.frames ∧ 8 + (maxL2 + 11) + rl ≤ R.locals) (d : decode cc pc = .ok (.invokevirtual idx, 3)) (hpm : ws.Perm (Wc ++ Wr)) (hst : st = As.reverse ++ .ref b :: rest) (hlen : As.length = na) (hW : (rest.map fun v => v.category).sum ≤ 8) (hf : k + mc ≤ R.cells ∧ n + ms ≤ R.slots) (hq : pc + 3 = q) (kk : ∀ (u : S) (r : Nat), post u → xV p l e R s m args below meth c D A Q nL (W2 u r ++ Wr) (k + mc) (n + ms) L q (.ref r :: rest)) : xV p l e R s m args below meth c D A Q nL ws k n L pc st := by
  intro H locs ls hP hD hS hl
  obtain ⟨hx, hb, hml, hown, hts, hK, hret, hlk, hA⟩ := C
  have hP2 := xP_perm hpm hP
  have hD2 := xD_perm hpm hD
  have hPc := xP_left hP2
  have hDc := xD_left hD2
  have hFc := xFree hD2 hS hA
  obtain ⟨⟨wsY, hyw⟩, hy2⟩ := hy
  obtain ⟨q0, h0⟩ := ho
  subst hst
  have hW : 2 * (F0 m pc ls (As.reverse ++ .ref b :: rest)).monitorRoom + (rest.map fun v => v.category).sum ≤ 8 := lv_room hW
  refine va_callr (va_runV (As := As) (rest := rest) ⟨hx, hb, hml, hown, hts⟩ (M H.size) (cwV na hts hG hyw rfl rfl ⟨hcls, hy2.1, hy2.2.1, hy2.2.2⟩ hR) ⟨xPc_blind, va_recv hK hPc hci h0, fun U hU hW => ⟨rfl, by rw [hU], by rw [hU]; exact hPc, va_K.moved hW.alike hK, hDc.weaken (fun _ _ _ _ => trivial)⟩⟩ rfl hlen hl.1 rfl hW d hf) hS (fun q _ h => hFc q h) hFc (fun u r t H1 locs1 ht hvm hw hB hz1 hk1 hS1 => ?_)
  obtain ⟨hP1, hK1, hD1⟩ := hB
  rw [ht] at hP1
  obtain ⟨hP3, hD3⟩ := xJoin hP2 hD2 hFc hk1 hP1 hD1
  exact hq ▸ kk u r hw H1 locs1 ls hP3 hD3 hS1 hl
end XCALL
