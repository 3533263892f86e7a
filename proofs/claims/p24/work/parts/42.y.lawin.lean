set_option maxRecDepth 20000 in
theorem wLin_1 : ∀ w ∈ wsL_law0_r1, w ∈ lw_tbl := fun w h => (goodIn_p wsL_law0_r1 [30, 33, 38] (by decide +kernel) (by decide +kernel) w h).1
set_option maxRecDepth 20000 in
theorem wLin_2 : ∀ w ∈ wsL_law0_r2, w ∈ lw_tbl := fun w h => (goodIn_p wsL_law0_r2 [119] (by decide +kernel) (by decide +kernel) w h).1
def lin3a : List Cond := [Cond.fieldLink RX0 28 "LampHills$Night" "timesBlownOut" "[I", Cond.fieldLink RX0 31 "LampHills$Night" "at" "[I", Cond.fieldLink RX0 34 "LampHills$Night" "can" "[I", Cond.fieldLink RX0 37 "LampHills$Night" "goesTo" "[I", Cond.fieldLink RX0 40 "LampHills$Night" "goal" "[I", Cond.fieldLink RX0 43 "LampHills$Night" "minutesLeft" "[I", Cond.fieldLink RX0 46 "LampHills$Night" "latestPlace" "[I", Cond.fieldLink RX0 49 "LampHills$Night" "litBy" "[I", Cond.methodLink RL 99 yL_build, Cond.static yL_build, Cond.initialized RL]
def lin3b : List Cond := [Cond.classLink RL 9 RX3, Cond.instantiable RX3 10, Cond.initialized RX3, Cond.fieldLink RL 28 "LampHillsLaw$Sim" "height" "[I", Cond.methodLink RL 36 Lib.Math.min.name, Cond.static Lib.Math.min.name, Cond.initialized "java/lang/Math", Cond.code Lib.Math.min.name Lib.Math.min.code 2 (some .int), Cond.fieldLink RL 45 "LampHillsLaw$Sim" "streets" "[[I", Cond.fieldLink RL 58 "LampHillsLaw$Sim" "lamps" "[[I", Cond.fieldLink RL 64 "LampHillsLaw$Sim" "wind" "[I", Cond.fieldLink RL 73 "LampHillsLaw$Sim" "lighters" "[[I"]
set_option maxRecDepth 20000 in
theorem wLin_3a : ∀ w ∈ lin3a, w ∈ lw_tbl := fun w h => (goodIn_p lin3a [] (by decide +kernel) (by decide +kernel) w h).1
set_option maxRecDepth 20000 in
theorem wLin_3b : ∀ w ∈ lin3b, w ∈ lw_tbl := fun w h => (goodIn_p lin3b [361] (by decide +kernel) (by decide +kernel) w h).1
set_option maxRecDepth 20000 in
theorem wLin_3c : Cond.code yL_build cL_build 12 (some (.object "LampHillsLaw$Sim")) ∈ lw_tbl := List.mem_of_getElem? (i := 455) rfl
theorem wLin_3 : ∀ w ∈ wsL_law0_r3, w ∈ lw_tbl := by
  have e : wsL_law0_r3 = lin3a ++ (Cond.code yL_build cL_build 12 (some (.object "LampHillsLaw$Sim")) :: lin3b) := rfl
  intro w h
  rw [e] at h
  rcases List.mem_append.mp h with h | h
  · exact wLin_3a w h
  · rcases List.mem_cons.mp h with h | h
    · exact h ▸ wLin_3c
    · exact wLin_3b w h
set_option maxRecDepth 20000 in
theorem wLin_4 : ∀ w ∈ wsL_law0_r4, w ∈ lw_tbl := fun w h => (goodIn_p wsL_law0_r4 [459, 451, 447, 504] (by decide +kernel) (by decide +kernel) w h).1
set_option maxRecDepth 20000 in
theorem wLin_5 : ∀ w ∈ wsL_law0_r5, w ∈ lw_tbl := fun w h => (goodIn_p wsL_law0_r5 [307, 507, 527, 530, 535] (by decide +kernel) (by decide +kernel) w h).1
set_option maxRecDepth 20000 in
theorem wLin_6 : ∀ w ∈ wsL_law0_r6, w ∈ lw_tbl := fun w h => (goodIn_p wsL_law0_r6 [204, 540, 544, 384, 548] (by decide +kernel) (by decide +kernel) w h).1
set_option maxRecDepth 20000 in
theorem wLin_7 : ∀ w ∈ wsL_law0_r7, w ∈ lw_tbl := fun w h => (goodIn_p wsL_law0_r7 [552, 556, 560, 564, 568, 572] (by decide +kernel) (by decide +kernel) w h).1
set_option maxRecDepth 20000 in
theorem wLin_8 : ∀ w ∈ wsL_law0_r8, w ∈ lw_tbl := fun w h => (goodIn_p wsL_law0_r8 [576, 580, 584, 588] (by decide +kernel) (by decide +kernel) w h).1
set_option maxRecDepth 20000 in
theorem wLin_9 : ∀ w ∈ wsL_law0_r9, w ∈ lw_tbl := fun w h => (goodIn_p wsL_law0_r9 [358, 591, 595, 599, 604, 607] (by decide +kernel) (by decide +kernel) w h).1
set_option maxRecDepth 20000 in
theorem wLin_10 : ∀ w ∈ wsL_law0_r10, w ∈ lw_tbl := fun w h => (goodIn_p wsL_law0_r10 [611, 616, 288, 621] (by decide +kernel) (by decide +kernel) w h).1
set_option maxRecDepth 20000 in
theorem wLin_11 : ∀ w ∈ wsL_law0_r11, w ∈ lw_tbl := fun w h => (goodIn_p wsL_law0_r11 [373, 626, 435, 304, 327] (by decide +kernel) (by decide +kernel) w h).1
set_option maxRecDepth 20000 in
theorem wLin_12 : ∀ w ∈ wsL_law0_r12, w ∈ lw_tbl := fun w h => (goodIn_p wsL_law0_r12 [331, 335, 339, 276, 344] (by decide +kernel) (by decide +kernel) w h).1
set_option maxRecDepth 20000 in
theorem wLin_13 : ∀ w ∈ wsL_law0_r13, w ∈ lw_tbl := fun w h => (goodIn_p wsL_law0_r13 [348, 354, 365, 369, 377] (by decide +kernel) (by decide +kernel) w h).1
set_option maxRecDepth 20000 in
theorem wLin_14 : ∀ w ∈ wsL_law0_r14, w ∈ lw_tbl := fun w h => (goodIn_p wsL_law0_r14 [381, 403, 407, 412, 416, 284] (by decide +kernel) (by decide +kernel) w h).1
set_option maxRecDepth 20000 in
theorem wLin_15 : ∀ w ∈ wsL_law0_r15, w ∈ lw_tbl := fun w h => (goodIn_p wsL_law0_r15 [292, 296, 300, 201] (by decide +kernel) (by decide +kernel) w h).1
set_option maxRecDepth 20000 in
theorem wLin_16 : ∀ w ∈ wsL_law0_r16, w ∈ lw_tbl := fun w h => (goodIn_p wsL_law0_r16 [280, 388, 392] (by decide +kernel) (by decide +kernel) w h).1
set_option maxRecDepth 20000 in
theorem wLin_17 : ∀ w ∈ wsL_law0_r17, w ∈ lw_tbl := fun w h => (goodIn_p wsL_law0_r17 [399, 421, 427, 431, 439] (by decide +kernel) (by decide +kernel) w h).1
set_option maxRecDepth 20000 in
theorem wLin_18 : ∀ w ∈ wsL_law0_r18, w ∈ lw_tbl := fun w h => (goodIn_p wsL_law0_r18 [444] (by decide +kernel) (by decide +kernel) w h).1
set_option maxRecDepth 20000 in
theorem wLin_wsX20 : ∀ w ∈ wsX20, w ∈ lw_tbl := by decide +kernel
set_option maxRecDepth 20000 in
theorem wLin_wsX30 : ∀ w ∈ wsX30, w ∈ lw_tbl := by decide +kernel
set_option maxRecDepth 20000 in
theorem wLin_wsX10 : ∀ w ∈ wsX10, w ∈ lw_tbl := by decide +kernel
set_option maxRecDepth 20000 in
theorem wLin_wsX00 : ∀ w ∈ wsX00, w ∈ lw_tbl := by decide +kernel
theorem wsL_law_in0 : ∀ w ∈ wsL_law0, w ∈ lw_tbl := fun w h => (fun h => (List.mem_append.mp h).elim (fun h => (List.mem_append.mp h).elim (fun h => (List.mem_append.mp h).elim (fun h => (List.mem_append.mp h).elim (fun h => (List.mem_append.mp h).elim (fun h => (List.mem_append.mp h).elim (fun h => wLin_1 w h) (fun h => (List.mem_append.mp h).elim (fun h => wLin_2 w h) (fun h => (List.mem_append.mp h).elim (fun h => wLin_3 w h) (fun h => (List.mem_append.mp h).elim (fun h => wLin_4 w h) (fun h => (List.mem_append.mp h).elim (fun h => wLin_5 w h) (fun h => (List.mem_append.mp h).elim (fun h => wLin_6 w h) (fun h => (List.mem_append.mp h).elim (fun h => wLin_7 w h) (fun h => (List.mem_append.mp h).elim (fun h => wLin_8 w h) (fun h => (List.mem_append.mp h).elim (fun h => wLin_9 w h) (fun h => (List.mem_append.mp h).elim (fun h => wLin_10 w h) (fun h => (List.mem_append.mp h).elim (fun h => wLin_11 w h) (fun h => (List.mem_append.mp h).elim (fun h => wLin_12 w h) (fun h => (List.mem_append.mp h).elim (fun h => wLin_13 w h) (fun h => (List.mem_append.mp h).elim (fun h => wLin_14 w h) (fun h => (List.mem_append.mp h).elim (fun h => wLin_15 w h) (fun h => (List.mem_append.mp h).elim (fun h => wLin_16 w h) (fun h => (List.mem_append.mp h).elim (fun h => wLin_17 w h) (fun h => wLin_18 w h)))))))))))))))))) (fun h => wLin_wsX20 w h)) (fun h => wLin_wsX30 w h)) (fun h => wLin_wsX10 w h)) (fun h => wLin_wsX00 w h)) (fun h => absurd h List.not_mem_nil)) h
theorem wsL_law_in : ∀ w ∈ wsL_law, w ∈ lw_tbl := fun w h => (List.mem_append.mp h).elim (fun h => (List.mem_append.mp h).elim (fun h => (List.mem_append.mp h).elim (fun h => wsL_law_in0 w h) (fun h => wsL_law_x0 w h)) (fun h => wsL_law_x1 w h)) (fun h => wsL_law_x2 w h)
theorem inlX0 : ∀ w ∈ wsX00, w ∈ wsL_law := fun _ h => List.mem_append_left _ (List.mem_append_left _ (List.mem_append_left _ (List.mem_append_left _ (List.mem_append_right _ h))))
theorem inX0 : ∀ w ∈ wsX00, w ∈ lw_tbl := fun w h => wsL_law_in w (inlX0 w h)
theorem inlX1 : ∀ w ∈ wsX10, w ∈ wsL_law := fun _ h => List.mem_append_left _ (List.mem_append_left _ (List.mem_append_left _ (List.mem_append_left _ (List.mem_append_left _ (List.mem_append_right _ h)))))
theorem inX1 : ∀ w ∈ wsX10, w ∈ lw_tbl := fun w h => wsL_law_in w (inlX1 w h)
theorem inlX2 : ∀ w ∈ wsX20, w ∈ wsL_law := fun _ h => List.mem_append_left _ (List.mem_append_left _ (List.mem_append_left _ (List.mem_append_left _ (List.mem_append_left _ (List.mem_append_left _ (List.mem_append_left _ (List.mem_append_right _ h)))))))
theorem inX2 : ∀ w ∈ wsX20, w ∈ lw_tbl := fun w h => wsL_law_in w (inlX2 w h)
theorem inlX3 : ∀ w ∈ wsX30, w ∈ wsL_law := fun _ h => List.mem_append_left _ (List.mem_append_left _ (List.mem_append_left _ (List.mem_append_left _ (List.mem_append_left _ (List.mem_append_left _ (List.mem_append_right _ h))))))
theorem inX3 : ∀ w ∈ wsX30, w ∈ lw_tbl := fun w h => wsL_law_in w (inlX3 w h)
theorem inX4 : ∀ w ∈ wsX40, w ∈ lw_tbl := by decide +kernel
theorem inJ9 : ∀ w ∈ wsJ90, w ∈ lw_tbl := by decide +kernel
theorem inJ0 : ∀ w ∈ wsJ00, w ∈ lw_tbl := by decide +kernel
theorem inJ10 : ∀ w ∈ wsJ100, w ∈ lw_tbl := by decide +kernel

