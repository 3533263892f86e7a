/-! THE CONTRACT OF build; THE LAW FROM ITS ENTRY TO ITS END -/
theorem koB : ∀ w ∈ ([.classLink RL 9 RX3, .instantiable RX3 10, .initialized RX3] : List Cond), w ∈ wsL_build := by
  intro w hw
  simp only [List.mem_cons, List.not_mem_nil, or_false] at hw
  rcases hw with rfl | rfl | rfl
  · exact List.mem_of_getElem? (i := 1) rfl
  · exact List.mem_of_getElem? (i := 2) rfl
  · exact List.mem_of_getElem? (i := 3) rfl
theorem klB : Cond.initialized yX3_init.cls ∈ wsL_build ∧ Cond.instanceMethod yX3_init ∈ wsL_build := ⟨List.mem_of_getElem? (i := 3) rfl, List.mem_of_getElem? (i := 15) rfl⟩
theorem pl_new {α : Type} (a b c d e f : List α) : ((a ++ (b ++ (c ++ (d ++ e)))) ++ f).Perm (f ++ (a ++ (b ++ (c ++ (d ++ e))))) := List.perm_append_comm
theorem pl_new2 {α : Type} (a b c d e f : List α) : (f ++ (a ++ (b ++ (c ++ (d ++ e))))).Perm (a ++ (b ++ (c ++ (d ++ (e ++ f))))) := by
  classical
  exact List.perm_iff_count.mpr fun z => by simp only [List.count_append]; omega
theorem yi_L_build : xY yL_build wsL_build cL_build 12 (some (.object "LampHillsLaw$Sim")) 2 := ⟨⟨_, rfl⟩, by decide +kernel, by decide +kernel, by decide +kernel⟩
set_option maxHeartbeats 4000000 in
set_option maxRecDepth 100000 in
theorem c6_build {l : Launch} {D : va_G} {y : Nat → ClassId} {aH : Nat} {aG aN aF aT : Nat → Nat} {bX LX : Nat} {xs : Nat → Int32} {G N F T N' T' S' : St} {Y' : Nat → Nat} (hf : f6_build G N F T Y0 S0 xs LX = some (N', T', Y', S')) : xMXr l yL_build wsL_build 9 160 3000 90000 D (xT y) [.ref aH, .ref bX] (hC aH aN aF aT aG ++ (gC y aG G ++ (nC y aN N ++ (nC y aF F ++ tC y aT T)))) bX LX xs (fun (_ : Nat → Nat) => True) (fun u r => hC aH aN aF aT aG ++ (gC y aG G ++ (nC y aN N' ++ (nC y aF F ++ (tC y aT T' ++ sC y r u Y' S'))))) := by
  refine xMXr_of (cc := cL_build) (nL := 12) (ret := (some (.object "LampHillsLaw$Sim"))) [(0, .ref aH), (1, .ref bX)] (by decide) rfl (Nat.le_of_ble_eq_true rfl) rfl ?_
  intro p e s m args below meth c A C hJ hX
  have C : xC p s m args meth c D A cL_build RL 12 wsL_build (xT y) (some (.object "LampHillsLaw$Sim")) := C
  refine x_newo (q := 3) (ci := 3) (fs := [.null, .null, .null, .null, .null, .null, .int 0, .int 0, .int 0, .null]) C tyX3 tyX3_ok dL_build_0 iuL_build_X3 koB rfl (fun j hj => by match j, hj with | 0, _ => exact rfl | 1, _ => exact rfl | 2, _ => exact rfl | 3, _ => exact rfl | 4, _ => exact rfl | 5, _ => exact rfl | 6, _ => exact rfl | 7, _ => exact rfl | 8, _ => exact rfl | 9, _ => exact rfl | n + 10, hj => exact absurd hj (by omega)) (Nat.le_of_ble_eq_true rfl) (Nat.le_of_ble_eq_true rfl) rfl (fun bS => ?_)
  refine x_dup (q := 4) C dL_build_3 rfl rfl ?_
  refine x_callJNIv (q := 7) (As := []) (rest := [.ref bS]) C hJ (c5_init (l := l) (D := D) (y := y) (h := bS)) yi_X3_init gL_build_X3_init_n11 klB.1 hJ.1 klB.2 rfl ⟨Nat.le_of_ble_eq_true rfl, Nat.le_of_ble_eq_true rfl⟩ dL_build_4 (pl_new _ _ _ _ _ _) rfl rfl (Nat.le_of_ble_eq_true rfl) ⟨Nat.le_of_ble_eq_true rfl, Nat.le_of_ble_eq_true rfl⟩ rfl ?_
  intro aS _
  refine x_perm (ws' := hC aH aN aF aT aG ++ (gC y aG G ++ (nC y aN N ++ (nC y aF F ++ (tC y aT T ++ sC y bS aS Y0 S0))))) (pl_new2 _ _ _ _ _ _) ?_
  refine x_widen (k' := 20) (n' := 176) (Nat.le_of_ble_eq_true rfl) (Nat.le_of_ble_eq_true rfl) ?_
  refine w6_build C hJ hX hf (fun aZ => ?_)
  refine x_aload_n (q := 756) C 0 dL_build_755 rfl rfl rfl ?_
  exact x_aret aZ C dL_build_756 rfl (Or.inl ⟨_, rfl⟩) trivial rfl (Nat.le_of_ble_eq_true rfl) (Nat.le_of_ble_eq_true rfl)
section XNN
variable {p : Program} {l : Launch} {e : Env} {R : Room} {s : State} {m : MethodId} {args : Array Value} {below : List Frame} {meth : Method} {c : Code} {Q : State → Prop}
variable {D : va_G} {A : Nat → Prop} {cc : ByteArray} {own : String} {nL : Nat} {Ts : List Cond} {tys : List (ClassId × FieldType)} {ret : Option FieldType}
variable {ws : va_W} {k n pc : Nat} {L : List (Nat × Value)} {st : List Value}
theorem x_ifnn (C : xC p s m args meth c D A cc own nL Ts tys ret) {a : Nat} {off : Int} {t : Nat} (d : decode cc pc = .ok (.ifnonnull off, 3)) (ht : (pc : Int) + off = (t : Int)) (kk : xV p l e R s m args below meth c D A Q nL ws k n L t st) : xV p l e R s m args below meth c D A Q nL ws k n L pc (.ref a :: st) :=
  fun H locs ls hP hD hS hl => lv_ifnonnull C.1 C.2.1 d ht (kk H locs ls hP hD hS hl)
end XNN
abbrev xCL (p : Program) (s : State) (m : MethodId) (b : Nat) (meth : Method) (c : Code) (D : va_G) (A : Nat → Prop) (y : Nat → ClassId) : Prop := xC p s m #[Value.ref b] meth c D A cL_law RL 27 wsL_law (xT y) (some .boolean)
theorem xl_end {p : Program} {l : Launch} {e : Env} {s : State} {m : MethodId} {below : List Frame} {meth : Method} {c : Code} {D : va_G} {A : Nat → Prop} {b : Nat} {y : Nat → ClassId} {ws : va_W} {k n pc : Nat} {L : List (Nat × Value)} {d0 : Drawn} (hd0 : s.drawn.sameBut d0 lw_cs) (C : xCL p (s.setDrawn d0) m b meth c D A y) (hA : ∀ q, A q → s.heap.size ≤ q) (h1 : k ≤ 1092944) (h2 : n ≤ 5822636) (d : decode cL_law pc = .ok (.ireturn, 1)) : xV p l e room_1 (s.setDrawn d0) m #[Value.ref b] below meth c D A (lw_Z below #[Value.ref b] s) 27 ws k n L pc [.int 1] := by
  intro H locs ls hP hD hS hl
  obtain ⟨hx, hb, hml, hown, hts, hK, hret, hlk, hAA⟩ := C
  refine va_forget (fun q hq => hA _ (hS.2.2 q hq)) ?_
  refine W.widen h1 h2 ?_
  exact lw_ret hd0 hx hb hret hlk d
theorem yi_X3_isSame : xY yX3_isSame wsX3_isSame cX3_isSame 6 (some .boolean) 1 := ⟨⟨_, rfl⟩, by decide +kernel, by decide +kernel, by decide +kernel⟩
theorem koL_2 : ∀ w ∈ ([.classLink RL 23 RX2, .instantiable RX2 4, .initialized RX2] : List Cond), w ∈ wsL_law := by
  intro w hw
  simp only [List.mem_cons, List.not_mem_nil, or_false] at hw
  rcases hw with rfl | rfl | rfl
  · exact List.mem_of_getElem? (i := 0) rfl
  · exact List.mem_of_getElem? (i := 1) rfl
  · exact List.mem_of_getElem? (i := 2) rfl
theorem mL_6 : Cond.methodLink RL 98 yX2_init ∈ wsL_law := List.mem_of_getElem? (i := 6) rfl
theorem mL_7 : Cond.instanceMethod yX2_init ∈ wsL_law := List.mem_of_getElem? (i := 7) rfl
theorem mL_2 : Cond.initialized RX2 ∈ wsL_law := List.mem_of_getElem? (i := 2) rfl
theorem xJ2_d {s : State} (h : xJ2 s) (d1 : Drawn) : xJ2 (s.setDrawn d1) := xJ2.same (u := s) (U := s.setDrawn d1) rfl h
theorem xS_d {b Ln : Nat} {xs : Nat → Int32} {s : State} {A : Nat → Prop} (h : xS b Ln xs s A) (d1 : Drawn) : xS b Ln xs (s.setDrawn d1) A := h
set_option maxHeartbeats 4000000 in
set_option maxRecDepth 100000 in
theorem law_entry {p : Program} {l : Launch} {e : Env} {s : State} {m : MethodId} {below : List Frame} {meth : Method} {c : Code} {D : va_G} {A : Nat → Prop} {b Ln : Nat} {xs : Nat → Int32} {y : Nat → ClassId} (hJ0 : xJ2 s) (hX0 : xS b Ln xs s A) (hA : ∀ q, A q → s.heap.size ≤ q) (C : xCL p (s.setDrawn s.drawn) m b meth c D A y) {N1 T1 S1 N2 F2 T2 S2 : St} {Y1 Y2 : Nat → Nat} {v : Int32} (hb : f6_build S0 S0 S0 S0 Y0 S0 xs Ln = some (N1, T1, Y1, S1)) (hl : f6_law S0 N1 S0 T1 Y1 S1 xs Ln = some (N2, F2, T2, Y2, S2)) (hs1 : f6_same S0 N2 F2 T2 Y2 S2 = some ()) (hs2 : ¬ Int32.ofNat (Y2 3) = 0) (hs3 : f2_mean S0 N2 F2 T2 = some (some (v, Int32.ofNat (Y2 3)))) (hs4 : f5_sum Y2 S2 3 = some v) : xV p l e room_1 (s.setDrawn s.drawn) m #[Value.ref b] below meth c D A (lw_Z below #[Value.ref b] s) 27 [] 0 0 [(0, .ref b)] 0 [] := by
  have hd0 := Drawn.sameBut.refl s.drawn lw_cs
  have hJ := xJ2_d hJ0 s.drawn
  have hX := xS_d hX0 s.drawn
  refine x_newo (q := 3) (ci := 2) (fs := [.null, .null, .null, .null]) C tyX2 tyX2_ok dL_law_0 inlX2 koL_2 rfl (fun j hj => by match j, hj with | 0, _ => exact rfl | 1, _ => exact rfl | 2, _ => exact rfl | 3, _ => exact rfl | n + 4, hj => exact absurd hj (by omega)) (Nat.le_of_ble_eq_true rfl) (Nat.le_of_ble_eq_true rfl) rfl (fun aH => ?_)
  refine x_world (ws' := [(aH, .inr (2, [.null, .null, .null, .null]))]) rfl ?_
  refine x_dup (q := 4) C dL_law_3 rfl rfl ?_
  refine x_callJIv (q := 7) (As := []) (rest := [.ref aH]) (Wr := []) C hJ (c2_init (l := l) (D := D) (y := y) (h := aH)) yi_X2_init gL_law_X2_init mL_2 mL_6 mL_7 rfl ⟨Nat.le_of_ble_eq_true rfl, Nat.le_of_ble_eq_true rfl⟩ dL_law_4 pm_nil rfl rfl (Nat.le_of_ble_eq_true rfl) ⟨Nat.le_of_ble_eq_true rfl, Nat.le_of_ble_eq_true rfl⟩ rfl ?_
  intro u hu
  obtain ⟨aN, aF, aT, aG⟩ := u
  refine x_world (ws' := hC aH aN aF aT aG ++ (gC y aG S0 ++ (nC y aN S0 ++ (nC y aF S0 ++ tC y aT S0)))) (List.append_nil _) ?_
  refine x_widen (k' := 60) (n' := 711) (Nat.le_of_ble_eq_true rfl) (Nat.le_of_ble_eq_true rfl) ?_
  refine x_astore_n (q := 8) C [1, 0] [(0, .ref b), (1, .ref aH)] dL_law_7 rfl (by decide) rfl rfl ?_
  refine x_aload_n (q := 9) C 1 dL_law_8 rfl rfl rfl ?_
  refine x_aload_n (q := 10) C 0 dL_law_9 rfl rfl rfl ?_
  refine x_callXSr (q := 13) (As := [.ref aH, .ref b]) (rest := []) (Wr := []) C hJ hX (c6_build (l := l) (D := D) (y := y) (aH := aH) (aG := aG) (aN := aN) (aF := aF) (aT := aT) hb) yi_L_build gL_law_L_build ⟨Nat.le_of_ble_eq_true rfl, Nat.le_of_ble_eq_true rfl⟩ dL_law_10 pm_nil rfl rfl (Nat.le_of_ble_eq_true rfl) ⟨Nat.le_of_ble_eq_true rfl, Nat.le_of_ble_eq_true rfl⟩ rfl ?_
  intro aS bS _
  refine x_world (ws' := hC aH aN aF aT aG ++ (gC y aG S0 ++ (nC y aN N1 ++ (nC y aF S0 ++ (tC y aT T1 ++ sC y bS aS Y1 S1))))) (List.append_nil _) ?_
  refine x_widen (k' := 3100) (n' := 91000) (Nat.le_of_ble_eq_true rfl) (Nat.le_of_ble_eq_true rfl) ?_
  refine x_astore_n (q := 14) C [1, 2, 0] [(0, .ref b), (1, .ref aH), (2, .ref bS)] dL_law_13 rfl (by decide) rfl rfl ?_
  refine x_aload_n (q := 15) C 2 dL_law_14 rfl rfl rfl ?_
  refine x_ifnn (t := 20) C dL_law_15 (by decide) ?_
  refine w6_law C hJ hX hl (fun aZ => ?_)
  refine x_aload_n (q := 1169) C 1 dL_law_1168 rfl rfl rfl ?_
  refine x_aload_n (q := 1170) C 0 dL_law_1169 rfl rfl rfl ?_
  refine x_callDVi (q := 1173) (As := [.ref aH]) (rest := []) (Wr := []) hd0 C (c6_same (l := l) (D := D) (y := y) (bS := bS) (aH := aH) (aG := aG) (aN := aN) (aF := aF) (aT := aT) (aS := aZ) hs1 hs2 hs3 hs4) yi_X3_isSame gL_law_X3_isSame rfl ((((((oX3 y bS aZ Y2 S2).R).R).R).R).R) rfl ⟨Nat.le_of_ble_eq_true rfl, Nat.le_of_ble_eq_true rfl⟩ dL_law_1170 pm_nil rfl rfl (Nat.le_of_ble_eq_true rfl) ⟨Nat.le_of_ble_eq_true rfl, Nat.le_of_ble_eq_true rfl⟩ rfl ?_
  intro r uu d1 hr hd1 C
  subst hr
  exact xl_end hd1 C hA (Nat.le_of_ble_eq_true rfl) (Nat.le_of_ble_eq_true rfl) dL_law_1173
