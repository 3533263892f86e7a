section
-- ===== PART A: goes FIRST, ahead of the names: the tables' words, and 'selects' of the private methods out of them =====
/-- a private method of a class that the tables say can be made, by its rows of tables_1 -/
def lw_okq (q : MethodName × Nat) : Prop := (q.1.cls ≠ "java/lang/invoke/MethodHandle" ∧ q.1.cls ≠ "java/lang/invoke/VarHandle") ∧ Cond.instantiable q.1.cls q.2 ∈ tables_1 ∧ Cond.privateMethod q.1 ∈ tables_1 ∧ Cond.instanceMethod q.1 ∈ tables_1
theorem lw_p0 : lw_okq (⟨"LampHills", "clearDarkMinutes", "()V"⟩, 4) := ⟨⟨by decide +kernel, by decide +kernel⟩, List.mem_of_getElem? (i := 14) (by decide +kernel), List.mem_of_getElem? (i := 196) (by decide +kernel), List.mem_of_getElem? (i := 197) (by decide +kernel)⟩
theorem lw_p1 : lw_okq (⟨"LampHills$Night", "moveLighters", "(LLampHills$Town;)I"⟩, 16) := ⟨⟨by decide +kernel, by decide +kernel⟩, List.mem_of_getElem? (i := 109) (by decide +kernel), List.mem_of_getElem? (i := 211) (by decide +kernel), List.mem_of_getElem? (i := 212) (by decide +kernel)⟩
theorem lw_p2 : lw_okq (⟨"LampHills$Night", "lookForLamp", "(LLampHills$Town;I)V"⟩, 16) := ⟨⟨by decide +kernel, by decide +kernel⟩, List.mem_of_getElem? (i := 109) (by decide +kernel), List.mem_of_getElem? (i := 215) (by decide +kernel), List.mem_of_getElem? (i := 216) (by decide +kernel)⟩
theorem lw_p3 : lw_okq (⟨"LampHills$Night", "placeOfNextLamp", "(LLampHills$Town;I)I"⟩, 16) := ⟨⟨by decide +kernel, by decide +kernel⟩, List.mem_of_getElem? (i := 109) (by decide +kernel), List.mem_of_getElem? (i := 219) (by decide +kernel), List.mem_of_getElem? (i := 220) (by decide +kernel)⟩
theorem lw_p4 : lw_okq (⟨"LampHills$Night", "tendLamp", "(LLampHills$Town;I)Z"⟩, 16) := ⟨⟨by decide +kernel, by decide +kernel⟩, List.mem_of_getElem? (i := 109) (by decide +kernel), List.mem_of_getElem? (i := 237) (by decide +kernel), List.mem_of_getElem? (i := 238) (by decide +kernel)⟩
theorem lw_p5 : lw_okq (⟨"LampHills$Night", "waitFromNow", "(I)V"⟩, 16) := ⟨⟨by decide +kernel, by decide +kernel⟩, List.mem_of_getElem? (i := 109) (by decide +kernel), List.mem_of_getElem? (i := 241) (by decide +kernel), List.mem_of_getElem? (i := 242) (by decide +kernel)⟩
theorem lw_p6 : lw_okq (⟨"LampHills$Night", "burnLamps", "(LLampHills$Town;)V"⟩, 16) := ⟨⟨by decide +kernel, by decide +kernel⟩, List.mem_of_getElem? (i := 109) (by decide +kernel), List.mem_of_getElem? (i := 248) (by decide +kernel), List.mem_of_getElem? (i := 249) (by decide +kernel)⟩
theorem lw_p7 : lw_okq (⟨"LampHills$Night", "useOil", "(LLampHills$Town;I)V"⟩, 16) := ⟨⟨by decide +kernel, by decide +kernel⟩, List.mem_of_getElem? (i := 109) (by decide +kernel), List.mem_of_getElem? (i := 252) (by decide +kernel), List.mem_of_getElem? (i := 253) (by decide +kernel)⟩
theorem lw_p8 : lw_okq (⟨"LampHills$Night", "putOut", "(LLampHills$Town;I)V"⟩, 16) := ⟨⟨by decide +kernel, by decide +kernel⟩, List.mem_of_getElem? (i := 109) (by decide +kernel), List.mem_of_getElem? (i := 256) (by decide +kernel), List.mem_of_getElem? (i := 257) (by decide +kernel)⟩
theorem lw_p9 : lw_okq (⟨"LampHills$Night", "blow", "(LLampHills$Town;I)V"⟩, 16) := ⟨⟨by decide +kernel, by decide +kernel⟩, List.mem_of_getElem? (i := 109) (by decide +kernel), List.mem_of_getElem? (i := 260) (by decide +kernel), List.mem_of_getElem? (i := 261) (by decide +kernel)⟩
theorem lw_p10 : lw_okq (⟨"LampHills", "addDarkMinute", "()V"⟩, 4) := ⟨⟨by decide +kernel, by decide +kernel⟩, List.mem_of_getElem? (i := 14) (by decide +kernel), List.mem_of_getElem? (i := 271) (by decide +kernel), List.mem_of_getElem? (i := 272) (by decide +kernel)⟩
theorem lw_p11 : lw_okq (⟨"LampHills", "streetOfMostDarkMinutes", "()I"⟩, 4) := ⟨⟨by decide +kernel, by decide +kernel⟩, List.mem_of_getElem? (i := 14) (by decide +kernel), List.mem_of_getElem? (i := 279) (by decide +kernel), List.mem_of_getElem? (i := 280) (by decide +kernel)⟩
theorem lw_p12 : lw_okq (⟨"java/lang/Throwable", "fillInStackTrace", "(I)Ljava/lang/Throwable;"⟩, 6) := ⟨⟨by decide +kernel, by decide +kernel⟩, List.mem_of_getElem? (i := 342) (by decide +kernel), List.mem_of_getElem? (i := 340) (by decide +kernel), List.mem_of_getElem? (i := 341) (by decide +kernel)⟩
theorem lw_p13 : lw_okq (⟨"LampHills", "digestStreets", "(J)J"⟩, 4) := ⟨⟨by decide +kernel, by decide +kernel⟩, List.mem_of_getElem? (i := 14) (by decide +kernel), List.mem_of_getElem? (i := 381) (by decide +kernel), List.mem_of_getElem? (i := 382) (by decide +kernel)⟩
theorem lw_p14 : lw_okq (⟨"LampHills", "digestLamps", "(J)J"⟩, 4) := ⟨⟨by decide +kernel, by decide +kernel⟩, List.mem_of_getElem? (i := 14) (by decide +kernel), List.mem_of_getElem? (i := 389) (by decide +kernel), List.mem_of_getElem? (i := 390) (by decide +kernel)⟩
theorem lw_p15 : lw_okq (⟨"LampHills", "digestLighters", "(J)J"⟩, 4) := ⟨⟨by decide +kernel, by decide +kernel⟩, List.mem_of_getElem? (i := 14) (by decide +kernel), List.mem_of_getElem? (i := 398) (by decide +kernel), List.mem_of_getElem? (i := 399) (by decide +kernel)⟩
def lw_privs_1 : List (MethodName × Nat) := [(⟨"LampHills", "clearDarkMinutes", "()V"⟩, 4), (⟨"LampHills$Night", "moveLighters", "(LLampHills$Town;)I"⟩, 16), (⟨"LampHills$Night", "lookForLamp", "(LLampHills$Town;I)V"⟩, 16), (⟨"LampHills$Night", "placeOfNextLamp", "(LLampHills$Town;I)I"⟩, 16), (⟨"LampHills$Night", "tendLamp", "(LLampHills$Town;I)Z"⟩, 16), (⟨"LampHills$Night", "waitFromNow", "(I)V"⟩, 16), (⟨"LampHills$Night", "burnLamps", "(LLampHills$Town;)V"⟩, 16), (⟨"LampHills$Night", "useOil", "(LLampHills$Town;I)V"⟩, 16), (⟨"LampHills$Night", "putOut", "(LLampHills$Town;I)V"⟩, 16), (⟨"LampHills$Night", "blow", "(LLampHills$Town;I)V"⟩, 16), (⟨"LampHills", "addDarkMinute", "()V"⟩, 4), (⟨"LampHills", "streetOfMostDarkMinutes", "()I"⟩, 4), (⟨"java/lang/Throwable", "fillInStackTrace", "(I)Ljava/lang/Throwable;"⟩, 6), (⟨"LampHills", "digestStreets", "(J)J"⟩, 4), (⟨"LampHills", "digestLamps", "(J)J"⟩, 4), (⟨"LampHills", "digestLighters", "(J)J"⟩, 4)]
theorem lw_r1 : ∀ q ∈ lw_privs_1, lw_okq q := List.forall_mem_cons.mpr ⟨lw_p0, List.forall_mem_cons.mpr ⟨lw_p1, List.forall_mem_cons.mpr ⟨lw_p2, List.forall_mem_cons.mpr ⟨lw_p3, List.forall_mem_cons.mpr ⟨lw_p4, List.forall_mem_cons.mpr ⟨lw_p5, List.forall_mem_cons.mpr ⟨lw_p6, List.forall_mem_cons.mpr ⟨lw_p7, List.forall_mem_cons.mpr ⟨lw_p8, List.forall_mem_cons.mpr ⟨lw_p9, List.forall_mem_cons.mpr ⟨lw_p10, List.forall_mem_cons.mpr ⟨lw_p11, List.forall_mem_cons.mpr ⟨lw_p12, List.forall_mem_cons.mpr ⟨lw_p13, List.forall_mem_cons.mpr ⟨lw_p14, List.forall_mem_cons.mpr ⟨lw_p15, fun _ h => absurd h List.not_mem_nil⟩⟩⟩⟩⟩⟩⟩⟩⟩⟩⟩⟩⟩⟩⟩⟩
theorem lw_p16 : lw_okq (⟨"LampHills$Town", "minutesAlong", "(III)I"⟩, 17) := ⟨⟨by decide +kernel, by decide +kernel⟩, List.mem_of_getElem? (i := 22) (by decide +kernel), List.mem_of_getElem? (i := 470) (by decide +kernel), List.mem_of_getElem? (i := 471) (by decide +kernel)⟩
theorem lw_p17 : lw_okq (⟨"LampHills$Town", "shortenWays", "(III)V"⟩, 17) := ⟨⟨by decide +kernel, by decide +kernel⟩, List.mem_of_getElem? (i := 22) (by decide +kernel), List.mem_of_getElem? (i := 474) (by decide +kernel), List.mem_of_getElem? (i := 475) (by decide +kernel)⟩
theorem lw_p18 : lw_okq (⟨"LampHillsModel", "fail", "(I)I"⟩, 13) := ⟨⟨by decide +kernel, by decide +kernel⟩, List.mem_of_getElem? (i := 610) (by decide +kernel), List.mem_of_getElem? (i := 667) (by decide +kernel), List.mem_of_getElem? (i := 668) (by decide +kernel)⟩
theorem lw_p19 : lw_okq (⟨"LampHillsModel", "reckon", "()V"⟩, 13) := ⟨⟨by decide +kernel, by decide +kernel⟩, List.mem_of_getElem? (i := 610) (by decide +kernel), List.mem_of_getElem? (i := 671) (by decide +kernel), List.mem_of_getElem? (i := 672) (by decide +kernel)⟩
theorem lw_p20 : lw_okq (⟨"LampHillsModel", "ro", "(II)I"⟩, 13) := ⟨⟨by decide +kernel, by decide +kernel⟩, List.mem_of_getElem? (i := 610) (by decide +kernel), List.mem_of_getElem? (i := 675) (by decide +kernel), List.mem_of_getElem? (i := 676) (by decide +kernel)⟩
theorem lw_p21 : lw_okq (⟨"LampHillsModel", "isCorner", "(I)Z"⟩, 13) := ⟨⟨by decide +kernel, by decide +kernel⟩, List.mem_of_getElem? (i := 610) (by decide +kernel), List.mem_of_getElem? (i := 685) (by decide +kernel), List.mem_of_getElem? (i := 686) (by decide +kernel)⟩
theorem lw_p22 : lw_okq (⟨"LampHillsModel", "isStreet", "(I)Z"⟩, 13) := ⟨⟨by decide +kernel, by decide +kernel⟩, List.mem_of_getElem? (i := 610) (by decide +kernel), List.mem_of_getElem? (i := 694) (by decide +kernel), List.mem_of_getElem? (i := 695) (by decide +kernel)⟩
theorem lw_p23 : lw_okq (⟨"LampHillsModel", "isLamp", "(I)Z"⟩, 13) := ⟨⟨by decide +kernel, by decide +kernel⟩, List.mem_of_getElem? (i := 610) (by decide +kernel), List.mem_of_getElem? (i := 702) (by decide +kernel), List.mem_of_getElem? (i := 703) (by decide +kernel)⟩
theorem lw_p24 : lw_okq (⟨"LampHillsModel", "la", "(II)I"⟩, 13) := ⟨⟨by decide +kernel, by decide +kernel⟩, List.mem_of_getElem? (i := 610) (by decide +kernel), List.mem_of_getElem? (i := 706) (by decide +kernel), List.mem_of_getElem? (i := 707) (by decide +kernel)⟩
theorem lw_p25 : lw_okq (⟨"LampHillsModel", "setLamp", "(III)V"⟩, 13) := ⟨⟨by decide +kernel, by decide +kernel⟩, List.mem_of_getElem? (i := 610) (by decide +kernel), List.mem_of_getElem? (i := 710) (by decide +kernel), List.mem_of_getElem? (i := 711) (by decide +kernel)⟩
theorem lw_p26 : lw_okq (⟨"LampHillsModel", "isLighter", "(I)Z"⟩, 13) := ⟨⟨by decide +kernel, by decide +kernel⟩, List.mem_of_getElem? (i := 610) (by decide +kernel), List.mem_of_getElem? (i := 726) (by decide +kernel), List.mem_of_getElem? (i := 727) (by decide +kernel)⟩
theorem lw_p27 : lw_okq (⟨"LampHillsModel", "pe", "(II)I"⟩, 13) := ⟨⟨by decide +kernel, by decide +kernel⟩, List.mem_of_getElem? (i := 610) (by decide +kernel), List.mem_of_getElem? (i := 730) (by decide +kernel), List.mem_of_getElem? (i := 731) (by decide +kernel)⟩
theorem lw_p28 : lw_okq (⟨"LampHillsModel", "put", "(III)V"⟩, 13) := ⟨⟨by decide +kernel, by decide +kernel⟩, List.mem_of_getElem? (i := 610) (by decide +kernel), List.mem_of_getElem? (i := 734) (by decide +kernel), List.mem_of_getElem? (i := 735) (by decide +kernel)⟩
theorem lw_p29 : lw_okq (⟨"LampHillsModel", "away", "(II)I"⟩, 13) := ⟨⟨by decide +kernel, by decide +kernel⟩, List.mem_of_getElem? (i := 610) (by decide +kernel), List.mem_of_getElem? (i := 746) (by decide +kernel), List.mem_of_getElem? (i := 747) (by decide +kernel)⟩
theorem lw_p30 : lw_okq (⟨"LampHillsModel", "lampTold", "(II)I"⟩, 13) := ⟨⟨by decide +kernel, by decide +kernel⟩, List.mem_of_getElem? (i := 610) (by decide +kernel), List.mem_of_getElem? (i := 754) (by decide +kernel), List.mem_of_getElem? (i := 755) (by decide +kernel)⟩
theorem lw_p31 : lw_okq (⟨"LampHillsModel", "goer", "(I)I"⟩, 13) := ⟨⟨by decide +kernel, by decide +kernel⟩, List.mem_of_getElem? (i := 610) (by decide +kernel), List.mem_of_getElem? (i := 758) (by decide +kernel), List.mem_of_getElem? (i := 759) (by decide +kernel)⟩
def lw_privs_2 : List (MethodName × Nat) := [(⟨"LampHills$Town", "minutesAlong", "(III)I"⟩, 17), (⟨"LampHills$Town", "shortenWays", "(III)V"⟩, 17), (⟨"LampHillsModel", "fail", "(I)I"⟩, 13), (⟨"LampHillsModel", "reckon", "()V"⟩, 13), (⟨"LampHillsModel", "ro", "(II)I"⟩, 13), (⟨"LampHillsModel", "isCorner", "(I)Z"⟩, 13), (⟨"LampHillsModel", "isStreet", "(I)Z"⟩, 13), (⟨"LampHillsModel", "isLamp", "(I)Z"⟩, 13), (⟨"LampHillsModel", "la", "(II)I"⟩, 13), (⟨"LampHillsModel", "setLamp", "(III)V"⟩, 13), (⟨"LampHillsModel", "isLighter", "(I)Z"⟩, 13), (⟨"LampHillsModel", "pe", "(II)I"⟩, 13), (⟨"LampHillsModel", "put", "(III)V"⟩, 13), (⟨"LampHillsModel", "away", "(II)I"⟩, 13), (⟨"LampHillsModel", "lampTold", "(II)I"⟩, 13), (⟨"LampHillsModel", "goer", "(I)I"⟩, 13)]
theorem lw_r2 : ∀ q ∈ lw_privs_2, lw_okq q := List.forall_mem_cons.mpr ⟨lw_p16, List.forall_mem_cons.mpr ⟨lw_p17, List.forall_mem_cons.mpr ⟨lw_p18, List.forall_mem_cons.mpr ⟨lw_p19, List.forall_mem_cons.mpr ⟨lw_p20, List.forall_mem_cons.mpr ⟨lw_p21, List.forall_mem_cons.mpr ⟨lw_p22, List.forall_mem_cons.mpr ⟨lw_p23, List.forall_mem_cons.mpr ⟨lw_p24, List.forall_mem_cons.mpr ⟨lw_p25, List.forall_mem_cons.mpr ⟨lw_p26, List.forall_mem_cons.mpr ⟨lw_p27, List.forall_mem_cons.mpr ⟨lw_p28, List.forall_mem_cons.mpr ⟨lw_p29, List.forall_mem_cons.mpr ⟨lw_p30, List.forall_mem_cons.mpr ⟨lw_p31, fun _ h => absurd h List.not_mem_nil⟩⟩⟩⟩⟩⟩⟩⟩⟩⟩⟩⟩⟩⟩⟩⟩
theorem lw_p32 : lw_okq (⟨"LampHillsModel", "lighterTold", "(II)I"⟩, 13) := ⟨⟨by decide +kernel, by decide +kernel⟩, List.mem_of_getElem? (i := 610) (by decide +kernel), List.mem_of_getElem? (i := 766) (by decide +kernel), List.mem_of_getElem? (i := 767) (by decide +kernel)⟩
theorem lw_p33 : lw_okq (⟨"LampHillsModel", "burns", "(I)I"⟩, 13) := ⟨⟨by decide +kernel, by decide +kernel⟩, List.mem_of_getElem? (i := 610) (by decide +kernel), List.mem_of_getElem? (i := 774) (by decide +kernel), List.mem_of_getElem? (i := 775) (by decide +kernel)⟩
theorem lw_p34 : lw_okq (⟨"LampHillsModel", "counted", "(I)I"⟩, 13) := ⟨⟨by decide +kernel, by decide +kernel⟩, List.mem_of_getElem? (i := 610) (by decide +kernel), List.mem_of_getElem? (i := 782) (by decide +kernel), List.mem_of_getElem? (i := 783) (by decide +kernel)⟩
theorem lw_p35 : lw_okq (⟨"LampHillsModel", "all", "(I)I"⟩, 13) := ⟨⟨by decide +kernel, by decide +kernel⟩, List.mem_of_getElem? (i := 610) (by decide +kernel), List.mem_of_getElem? (i := 786) (by decide +kernel), List.mem_of_getElem? (i := 787) (by decide +kernel)⟩
theorem lw_p36 : lw_okq (⟨"LampHillsModel", "dark", "()I"⟩, 13) := ⟨⟨by decide +kernel, by decide +kernel⟩, List.mem_of_getElem? (i := 610) (by decide +kernel), List.mem_of_getElem? (i := 790) (by decide +kernel), List.mem_of_getElem? (i := 791) (by decide +kernel)⟩
theorem lw_p37 : lw_okq (⟨"LampHillsModel", "minutesOn", "(I)V"⟩, 13) := ⟨⟨by decide +kernel, by decide +kernel⟩, List.mem_of_getElem? (i := 610) (by decide +kernel), List.mem_of_getElem? (i := 798) (by decide +kernel), List.mem_of_getElem? (i := 799) (by decide +kernel)⟩
theorem lw_p38 : lw_okq (⟨"LampHillsModel", "isOver", "()Z"⟩, 13) := ⟨⟨by decide +kernel, by decide +kernel⟩, List.mem_of_getElem? (i := 610) (by decide +kernel), List.mem_of_getElem? (i := 802) (by decide +kernel), List.mem_of_getElem? (i := 803) (by decide +kernel)⟩
theorem lw_p39 : lw_okq (⟨"LampHillsModel", "minuteOn", "()I"⟩, 13) := ⟨⟨by decide +kernel, by decide +kernel⟩, List.mem_of_getElem? (i := 610) (by decide +kernel), List.mem_of_getElem? (i := 806) (by decide +kernel), List.mem_of_getElem? (i := 807) (by decide +kernel)⟩
theorem lw_p40 : lw_okq (⟨"LampHillsModel", "goOn", "(I)I"⟩, 13) := ⟨⟨by decide +kernel, by decide +kernel⟩, List.mem_of_getElem? (i := 610) (by decide +kernel), List.mem_of_getElem? (i := 810) (by decide +kernel), List.mem_of_getElem? (i := 811) (by decide +kernel)⟩
theorem lw_p41 : lw_okq (⟨"LampHillsModel", "look", "(I)V"⟩, 13) := ⟨⟨by decide +kernel, by decide +kernel⟩, List.mem_of_getElem? (i := 610) (by decide +kernel), List.mem_of_getElem? (i := 814) (by decide +kernel), List.mem_of_getElem? (i := 815) (by decide +kernel)⟩
theorem lw_p42 : lw_okq (⟨"LampHillsModel", "corner", "(II)I"⟩, 13) := ⟨⟨by decide +kernel, by decide +kernel⟩, List.mem_of_getElem? (i := 610) (by decide +kernel), List.mem_of_getElem? (i := 818) (by decide +kernel), List.mem_of_getElem? (i := 819) (by decide +kernel)⟩
theorem lw_p43 : lw_okq (⟨"LampHillsModel", "burn", "(I)V"⟩, 13) := ⟨⟨by decide +kernel, by decide +kernel⟩, List.mem_of_getElem? (i := 610) (by decide +kernel), List.mem_of_getElem? (i := 822) (by decide +kernel), List.mem_of_getElem? (i := 823) (by decide +kernel)⟩
theorem lw_p44 : lw_okq (⟨"LampHillsModel", "gust", "(II)I"⟩, 13) := ⟨⟨by decide +kernel, by decide +kernel⟩, List.mem_of_getElem? (i := 610) (by decide +kernel), List.mem_of_getElem? (i := 826) (by decide +kernel), List.mem_of_getElem? (i := 827) (by decide +kernel)⟩
theorem lw_p45 : lw_okq (⟨"LampHillsModel", "kept", "()[[I"⟩, 13) := ⟨⟨by decide +kernel, by decide +kernel⟩, List.mem_of_getElem? (i := 610) (by decide +kernel), List.mem_of_getElem? (i := 838) (by decide +kernel), List.mem_of_getElem? (i := 839) (by decide +kernel)⟩
theorem lw_p46 : lw_okq (⟨"LampHillsModel", "bringBack", "([[I)V"⟩, 13) := ⟨⟨by decide +kernel, by decide +kernel⟩, List.mem_of_getElem? (i := 610) (by decide +kernel), List.mem_of_getElem? (i := 849) (by decide +kernel), List.mem_of_getElem? (i := 850) (by decide +kernel)⟩
def lw_privs_3 : List (MethodName × Nat) := [(⟨"LampHillsModel", "lighterTold", "(II)I"⟩, 13), (⟨"LampHillsModel", "burns", "(I)I"⟩, 13), (⟨"LampHillsModel", "counted", "(I)I"⟩, 13), (⟨"LampHillsModel", "all", "(I)I"⟩, 13), (⟨"LampHillsModel", "dark", "()I"⟩, 13), (⟨"LampHillsModel", "minutesOn", "(I)V"⟩, 13), (⟨"LampHillsModel", "isOver", "()Z"⟩, 13), (⟨"LampHillsModel", "minuteOn", "()I"⟩, 13), (⟨"LampHillsModel", "goOn", "(I)I"⟩, 13), (⟨"LampHillsModel", "look", "(I)V"⟩, 13), (⟨"LampHillsModel", "corner", "(II)I"⟩, 13), (⟨"LampHillsModel", "burn", "(I)V"⟩, 13), (⟨"LampHillsModel", "gust", "(II)I"⟩, 13), (⟨"LampHillsModel", "kept", "()[[I"⟩, 13), (⟨"LampHillsModel", "bringBack", "([[I)V"⟩, 13)]
theorem lw_r3 : ∀ q ∈ lw_privs_3, lw_okq q := List.forall_mem_cons.mpr ⟨lw_p32, List.forall_mem_cons.mpr ⟨lw_p33, List.forall_mem_cons.mpr ⟨lw_p34, List.forall_mem_cons.mpr ⟨lw_p35, List.forall_mem_cons.mpr ⟨lw_p36, List.forall_mem_cons.mpr ⟨lw_p37, List.forall_mem_cons.mpr ⟨lw_p38, List.forall_mem_cons.mpr ⟨lw_p39, List.forall_mem_cons.mpr ⟨lw_p40, List.forall_mem_cons.mpr ⟨lw_p41, List.forall_mem_cons.mpr ⟨lw_p42, List.forall_mem_cons.mpr ⟨lw_p43, List.forall_mem_cons.mpr ⟨lw_p44, List.forall_mem_cons.mpr ⟨lw_p45, List.forall_mem_cons.mpr ⟨lw_p46, fun _ h => absurd h List.not_mem_nil⟩⟩⟩⟩⟩⟩⟩⟩⟩⟩⟩⟩⟩⟩⟩
def lw_privs : List (MethodName × Nat) := lw_privs_1 ++ (lw_privs_2 ++ (lw_privs_3))
def lw_tbl : List Cond := k2_sels lw_privs ++ tables_1
theorem lw_privs_ok : ∀ q ∈ lw_privs, lw_okq q := by
  show ∀ q ∈ lw_privs_1 ++ (lw_privs_2 ++ (lw_privs_3)), lw_okq q
  exact List.forall_mem_append.mpr ⟨lw_r1, List.forall_mem_append.mpr ⟨lw_r2, lw_r3⟩⟩
/-- the streams that the claim lets the run draw from -/
abbrev lw_cs : List Choice := [Jvm.Choice.named "NaN.bits"]
theorem lw_bits : nanBits ∈ lw_cs := by first | decide | exact List.mem_cons_self | simp [lw_cs, nanBits]
-- ===== end of PART A; then your names; then what follows =====
end
section
/-! ===== BEGIN words of one list among another's, by their places ===== -/
theorem goodIn_r {big : List Cond} (ws : List Cond) (ps : List Nat) (hp : ws = ps.filterMap (fun i => big[i]?)) (h : ws.all goodWord = true) : GoodIn big ws := by
  intro w hw
  have h1 := List.all_eq_true.mp h w hw
  rw [hp] at hw
  obtain ⟨i, -, hi⟩ := List.mem_filterMap.mp hw
  have hm : w ∈ big := by first | exact List.mem_of_getElem? hi | exact List.getElem?_mem hi
  exact ⟨hm, good_of_word h1⟩
theorem goodIn_app {big a b : List Cond} (ha : GoodIn big a) (hb : GoodIn big b) : GoodIn big (a ++ b) := fun w h => (List.mem_append.mp h).elim (ha w) (hb w)
theorem goodIn_ca {big a b : List Cond} {c : Cond} (ha : GoodIn big (c :: a)) (hb : GoodIn big b) : GoodIn big (c :: (a ++ b)) := fun w h => (List.mem_cons.mp h).elim (fun e => ha w (List.mem_cons.mpr (Or.inl e))) (fun h => (List.mem_append.mp h).elim (fun h => ha w (List.mem_cons.mpr (Or.inr h))) (hb w))
theorem goodIn_sub {big ws : List Cond} (hm : ∀ w ∈ ws, w ∈ big) (h : ws.all goodWord = true) : GoodIn big ws := fun w hw => ⟨hm w hw, good_of_word (List.all_eq_true.mp h w hw)⟩
/-! ===== END ===== -/

/-! ===== BEGIN new T[n][m]: the outer array a place, the inner ones among the pooled ===== -/
/-- f, but v at every address of l -/
def vr_up {α : Type} (f : Nat → α) (l : List Nat) (v : α) : Nat → α := fun a => if a ∈ l then v else f a
theorem vr_up_in {α : Type} {f : Nat → α} {l : List Nat} {v : α} {a : Nat} (h : a ∈ l) : vr_up f l v a = v := if_pos h
theorem vr_up_ne {α : Type} {f : Nat → α} {l : List Nat} {v : α} {a : Nat} (h : a ∉ l) : vr_up f l v a = f a := if_neg h
theorem vr_rows {L l : List Nat} {f : Nat → va_E} {e : va_E} (h : ∀ a, a ∈ l → a ∉ L) : va_pl L f ++ l.map (fun a => (a, e)) = va_pl (L ++ l) (vr_up f l e) := by
  unfold va_pl
  rw [List.map_append]
  congr 1
  · apply List.map_congr_left
    intro a ha
    rw [vr_up_ne (fun q => h a q ha)]
  · apply List.map_congr_left
    intro a ha
    rw [vr_up_in ha]
theorem vr_lay {X rows : va_W} {x : Nat × va_E} {pl : va_W} {D : va_G} {cl : List vw_C} {H : Heap} (hP : va_P D cl (((X ++ pl) ++ [x]) ++ rows) H) : va_P D cl ((X ++ [x]) ++ (pl ++ rows)) H := by
  rw [List.append_assoc (X ++ pl)] at hP
  have h := va_P.swap hP
  rw [← List.append_assoc X] at h
  have h2 := va_P.swap h
  rw [List.append_assoc (X ++ [x])] at h2
  exact h2
theorem vr_layD {X rows : va_W} {x : Nat × va_E} {pl : va_W} {A : Nat → Prop} (hD : va_D A (((X ++ pl) ++ [x]) ++ rows)) : va_D A ((X ++ [x]) ++ (pl ++ rows)) := by
  rw [List.append_assoc (X ++ pl)] at hD
  have h := va_D.swap hD
  rw [← List.append_assoc X] at h
  have h2 := va_D.swap h
  rw [List.append_assoc (X ++ [x])] at h2
  exact h2
theorem vr_outer (c : ClassId) (N h0 : Nat) : ∀ i : Nat, Jvm.Free.Multi.outerC c N h0 i = arrV c N (fun j => va_rf (if j < i then some (h0 + 1 + j) else none))
  | 0 => by
    show ({ cls := c, slots := Array.replicate N .null, vm := .none } : Cell) = _
    rw [arrV_new]
    refine congrArg (arrV c N) (funext fun j => ?_)
    simp [va_rf]
  | i + 1 => by
    show (Jvm.Free.Multi.outerC c N h0 i).setSlot i (.ref (h0 + 1 + i)) = _
    rw [vr_outer c N h0 i, arrV_store]
    refine congrArg (arrV c N) (funext fun j => ?_)
    by_cases e : j = i
    · subst e
      simp [updV, va_rf]
    · by_cases h : j < i
      · simp [updV, e, h, Nat.lt_succ_of_lt h]
      · simp [updV, e, h, show ¬ j < i + 1 by omega]
/-- (mine) the tables' word on arrays of arrays of t, said of a state alone; the printed row va_mna below takes it by this name -/
def va_AOA (t : FieldType) (U : State) : Prop := (Cond.arrayOver (.array t)).before #[] U = true
theorem va_AOA.use {t : FieldType} {A : Array Value} {U : State} (h : va_AOA t U) : (Cond.arrayOver (.array t)).before A U = true := h
section VGM
variable {p : Program} {l : Launch} {e : Env} {R : Room} {s : State} {m : MethodId} {args : Array Value} {below : List Frame} {meth : Method} {c : Code} {H : Heap} {locs : List Loc} {cells slots : Nat} {Q : State → Prop}
variable {cc : ByteArray} {pc : Nat} {ls : Array Slot} {rest : List Value} {D : va_G} {cl : List vw_C} {A : Nat → Prop} {a : Nat} {tys : List (ClassId × FieldType)} {ws : va_W} {H0 : Heap}
theorem va_mna {X : va_W} {L : List Nat} {f : Nat → va_E} {cc : ByteArray} (hexec : p.tables.exec = Jvm.exec) (hb : c.code = cc) {own : String} {index : Nat} {ty : FieldType} {cy : ClassId} (hown : s.vm.findClass own = some m.cls) (hclink : (Cond.classLink own index ("[" ++ (FieldType.array ty).toString)).before args s = true) (hover : va_AOA ty s) (harr : (Cond.arrayClass ty).before args s = true) (hcy : s.vm.findClass (FieldType.array ty).toString = some cy)
    (hK : va_K D cl tys s) (hP : va_P D cl (X ++ va_pl L f) H) (hD : va_D A (X ++ va_pl L f)) (hS : va_S A H0 H locs) (hA : ∀ q, H0.size ≤ q → A q) {n k : Int32} {N' K' : Nat} {z : vp_A} (hn : ¬ n < 0) (hk : ¬ k < 0) (hN : n.toNatClampNeg = N') (hM : k.toNatClampNeg = K')
    (hb1 : N' * 4 ≤ 536870912) (hb2 : K' * componentBytes ty ≤ 536870912) (hb3 : K' ≤ 536870912) (hdf : fits ty (defaultValue ty) = true) (hdd : (defaultValue ty).isDefault = true) (hcells : cells + (1 + N') ≤ R.cells) (hslots : slots + (N' + N' * K') ≤ R.slots) (hz : ∀ c : ClassId, Jvm.Free.Multi.innerC c K' (defaultValue ty) = vp_cell c z) (hdg : decode cc pc = .ok (.multianewarray index 2, 4))
    (kk : ∀ (q : Nat) (r : Nat → Nat) (cA : ClassId) (H1 : Heap), (∀ i j : Nat, i < N' → j < N' → r i = r j → i = j) → (∀ i : Nat, i < N' → r i ∉ L) → va_K D cl (tys ++ [(cA, .array ty)]) s →
      va_P D cl ((X ++ [(q, .inl (cA, N', .inr (.inr (.inr (.inr (fun i => if i < N' then some (r i) else none))))))]) ++ va_pl (L ++ (List.range N').map r) (vr_up f ((List.range N').map r) (.inl (cy, z)))) H1 → va_D A ((X ++ [(q, .inl (cA, N', .inr (.inr (.inr (.inr (fun i => if i < N' then some (r i) else none))))))]) ++ va_pl (L ++ (List.range N').map r) (vr_up f ((List.range N').map r) (.inl (cy, z)))) → va_S A H0 H1 locs →
      W p l e R s m args below meth c H1 locs (cells + 1 + N') (slots + N' + N' * K') Q (F0 m (pc + 4) ls (.ref q :: rest))) : W p l e R s m args below meth c H locs cells slots Q (F0 m pc ls (.int k :: .int n :: rest)) := by
  subst hN
  subst hM
  intro T hT Xs
  obtain ⟨vm₁, cA, comp, -, fA, fC, hO, -, X', step⟩ := Xs.multianewarray2F hexec hown hclink (va_AOA.use hover) harr (g := F0 m pc ls (.int k :: .int n :: rest)) rfl (by rw [hb]; exact hdg) rfl hn hk hb1 hb2 hb3 hdf hdd hcells hslots
  have ec : some cy = some comp := hcy.symm.trans fC
  cases ec
  generalize hF : Jvm.Free.Multi.fill (T.setVm vm₁) cA cy n.toNatClampNeg k.toNatClampNeg (defaultValue ty) n.toNatClampNeg = F at X' step
  have hTh : (T.setVm vm₁).heap = H := hT
  obtain ⟨f1, f2, -, -⟩ := Jvm.Free.Multi.fill_facts (T.setVm vm₁) cA cy n.toNatClampNeg k.toNatClampNeg (defaultValue ty) n.toNatClampNeg
  rw [hF, hTh] at f1 f2
  have hold : ∀ x : Nat, x < H.size → F.heap[x]? = H[x]? := fun x hx => by
    have := Jvm.Free.Multi.fill_old (T.setVm vm₁) cA cy n.toNatClampNeg k.toNatClampNeg (defaultValue ty) (a := x) (by rw [hTh]; exact hx) n.toNatClampNeg
    rw [hF, hTh] at this
    exact this
  have hrow : ∀ j : Nat, j < n.toNatClampNeg → F.heap[H.size + 1 + j]? = some (vp_cell cy z) := fun j hj => by
    have := Jvm.Free.Multi.fill_inner (T.setVm vm₁) cA cy n.toNatClampNeg k.toNatClampNeg (defaultValue ty) n.toNatClampNeg j hj
    rw [hF, hTh, hz] at this
    exact this
  have hout : Jvm.Free.Multi.outerC cA n.toNatClampNeg H.size n.toNatClampNeg = vp_cell cA (n.toNatClampNeg, .inr (.inr (.inr (.inr (fun i => if i < n.toNatClampNeg then some (H.size + 1 + i) else none))))) := by
    rw [vp_cell_q]
    exact vr_outer cA n.toNatClampNeg H.size n.toNatClampNeg
  rw [hout] at f2
  have hlt : ∀ a, a ∈ L → a < H.size := fun a ha => by
    obtain ⟨k9, hk9⟩ := va_pl_get (X := X) (f := f) ha
    exact (hP k9 _ hk9).lt
  have hnl : ∀ i : Nat, i < n.toNatClampNeg → H.size + 1 + i ∉ L := fun i _ h => by
    have := hlt _ h
    omega
  have hnm : ∀ a, a ∈ (List.range n.toNatClampNeg).map (fun i => H.size + 1 + i) → a ∉ L := fun a ha h => by
    obtain ⟨i, -, rfl⟩ := List.mem_map.mp ha
    have := hlt _ h
    omega
  have hP0 : va_P D cl (X ++ va_pl L f) F.heap := hP.kept (fun k9 x hx => hold x.1 ((hP k9 x hx).lt))
  have hP1 : va_P D cl ((X ++ va_pl L f) ++ [(H.size, .inl (cA, n.toNatClampNeg, .inr (.inr (.inr (.inr (fun i => if i < n.toNatClampNeg then some (H.size + 1 + i) else none))))))]) F.heap := hP0.app (fun k9 x hx => by
    have h0 : k9 < 1 := (List.getElem?_eq_some_iff.mp hx).1
    rw [show k9 = 0 by omega] at hx
    cases hx
    exact f2)
  have hP2 : va_P D cl (((X ++ va_pl L f) ++ [(H.size, .inl (cA, n.toNatClampNeg, .inr (.inr (.inr (.inr (fun i => if i < n.toNatClampNeg then some (H.size + 1 + i) else none))))))]) ++ ((List.range n.toNatClampNeg).map (fun i => H.size + 1 + i)).map (fun a => (a, .inl (cy, z)))) F.heap := hP1.app (fun k9 x hx => by
    obtain ⟨a, ha, rfl⟩ := List.mem_map.mp (List.mem_of_getElem? hx)
    obtain ⟨i, hi, rfl⟩ := List.mem_map.mp ha
    exact hrow i (List.mem_range.mp hi))
  have hD2 : va_D A (((X ++ va_pl L f) ++ [(H.size, .inl (cA, n.toNatClampNeg, .inr (.inr (.inr (.inr (fun i => if i < n.toNatClampNeg then some (H.size + 1 + i) else none))))))]) ++ ((List.range n.toNatClampNeg).map (fun i => H.size + 1 + i)).map (fun a => (a, .inl (cy, z)))) := by
    have hD1 := hD.push (e := .inl (cA, n.toNatClampNeg, .inr (.inr (.inr (.inr (fun i => if i < n.toNatClampNeg then some (H.size + 1 + i) else none)))))) hP rfl (hA _ hS.1)
    generalize hW1 : (X ++ va_pl L f) ++ [(H.size, .inl (cA, n.toNatClampNeg, .inr (.inr (.inr (.inr (fun i => if i < n.toNatClampNeg then some (H.size + 1 + i) else none))))))] = W1 at hD1 hP1 ⊢
    have hle : ∀ (k9 : Nat) (x : Nat × va_E), W1[k9]? = some x → x.1 ≤ H.size := fun k9 x hx => by
      rw [← hW1] at hx
      by_cases hl : k9 < (X ++ va_pl L f).length
      · rw [List.getElem?_append_left hl] at hx
        exact Nat.le_of_lt ((hP k9 x hx).lt)
      · rw [List.getElem?_append_right (by omega)] at hx
        have h0 : k9 - (X ++ va_pl L f).length < 1 := (List.getElem?_eq_some_iff.mp hx).1
        rw [show k9 - (X ++ va_pl L f).length = 0 by omega] at hx
        cases hx
        exact Nat.le_refl _
    have hr : ∀ (k9 : Nat) (x : Nat × va_E), (((List.range n.toNatClampNeg).map (fun i => H.size + 1 + i)).map (fun a => ((a, .inl (cy, z)) : Nat × va_E)))[k9]? = some x → x.1 = H.size + 1 + k9 := fun k9 x hx => by
      rw [List.getElem?_map, List.getElem?_map] at hx
      by_cases h9 : k9 < n.toNatClampNeg
      · rw [List.getElem?_range h9] at hx
        cases hx
        rfl
      · have hn0 : (List.range n.toNatClampNeg)[k9]? = none := List.getElem?_eq_none (by rw [List.length_range]; omega)
        rw [hn0] at hx
        cases hx
    refine ⟨fun i j x y hi hj hxy => ?_, fun k9 x hx => ?_⟩
    · by_cases h1 : i < W1.length <;> by_cases h2 : j < W1.length
      · rw [List.getElem?_append_left h1] at hi
        rw [List.getElem?_append_left h2] at hj
        exact hD1.1 i j x y hi hj hxy
      · rw [List.getElem?_append_left h1] at hi
        rw [List.getElem?_append_right (by omega)] at hj
        have := hle _ _ hi
        have := hr _ _ hj
        omega
      · rw [List.getElem?_append_right (by omega)] at hi
        rw [List.getElem?_append_left h2] at hj
        have := hle _ _ hj
        have := hr _ _ hi
        omega
      · rw [List.getElem?_append_right (by omega)] at hi hj
        have := hr _ _ hi
        have := hr _ _ hj
        omega
    · by_cases h1 : k9 < W1.length
      · rw [List.getElem?_append_left h1] at hx
        exact hD1.2 k9 x hx
      · rw [List.getElem?_append_right (by omega)] at hx
        have := hr _ _ hx
        exact hA _ (by have := hS.1; omega)
  have hAr : ArrOfT s cA (.array ty) := fun N9 z9 => by
    obtain ⟨-, k9, hk9, cm9, hkk9⟩ := (hO 0 0 0).1
    exact ⟨(fun q hq => by cases hq), k9, hk9, cm9, hkk9⟩
  have hK2 : va_K D cl (tys ++ [(cA, .array ty)]) s := ⟨hK.1, fun k9 x hx => by
    by_cases hl : k9 < tys.length
    · rw [List.getElem?_append_left hl] at hx
      exact hK.2 k9 x hx
    · rw [List.getElem?_append_right (by omega)] at hx
      have h0 : k9 - tys.length < 1 := (List.getElem?_eq_some_iff.mp hx).1
      rw [show k9 - tys.length = 0 by omega] at hx
      cases hx
      exact ⟨hAr, fA⟩⟩
  obtain ⟨t, a1, b1⟩ := kk H.size (fun i => H.size + 1 + i) cA F.heap (fun i j _ _ h => by have h9 : H.size + 1 + i = H.size + 1 + j := h; omega) hnl hK2 (by rw [← vr_rows hnm]; exact vr_lay hP2) (by rw [← vr_rows hnm]; exact vr_layD hD2) ⟨by rw [f1]; have := hS.1; omega, fun x h1 h2 => (hold x (Nat.lt_of_lt_of_le h1 hS.1)).trans (hS.2.1 x h1 h2), hS.2.2⟩ F rfl X'
  refine ⟨t, step t ?_, b1⟩
  have e : T.heap.size = H.size := by rw [hT]
  rw [e]
  exact a1
end VGM
/-! ===== END ===== -/

/-! ===== BEGIN exceptions that leave a method, and their catching by the caller (launches without stack traces) ===== -/
section VXA
/-! The laws vx_back, vx_callV, vx_callS, vx_callSW, vx_throw0, vx_throwS follow proofs of the library, with one case more: JvmDerived/Free/Laws.lean (Back.of_free), Shelf42/LK1.lean (callV, callS), Shelf/KitTraced.lean (throwNew0V, throwNewS). -/
/-- where a method has thrown q: the class by its name, the cell, what was written, the world -/
def vx_T (XC : String → State → State → Prop) (st : State) (q : Addr) (t : State) (mc ms : Nat) (free : Addr → Prop) : Prop :=
  ∃ (E : String) (ce : Cell) (L : List Loc), XC E st t ∧ t.heap[q]? = some ce ∧ ce.vm = .none ∧ st.vm.findClass E = some ce.cls ∧ st.WarmedH t.vm ∧ st.sameButNew ({ t with vm := st.vm } : State) L mc ms ∧ ∀ z ∈ L, free z.base
def vx_Q (Qc : Array Value → State → Outcome → State → Prop) (XC : String → State → State → Prop) (mc ms : Nat) (free : Addr → Prop) : Array Value → State → Outcome → State → Prop := fun a st o t =>
  (Qc a st o t ∧ ∃ L, FrameEnd st o t L mc ms ∧ ∀ q ∈ L, free q.base) ∨ ∃ q, o = .threw q ∧ vx_T XC st q t mc ms free
/-- a callee that returns or throws -/
def vx_Met (l : Launch) (y : MethodName) (ws : List Cond) (rm : Room) (Pc : Array Value → State → Prop) (Qc : Array Value → State → Outcome → State → Prop) (XC : String → State → State → Prop) (mc ms : Nat) (free : Addr → Prop) : Prop :=
  MetFree l y (headSpec ws rm) Pc (fun _ _ _ _ _ => True) (vx_Q Qc XC mc ms free)
def vx_Post (XC : String → State → State → Prop) (mc ms : Nat) (free : Addr → Prop) : Pt → Array Value → Addr → Pt → Prop := fun A a q B =>
  ∃ (g : JFrame) (mk : MethodId) (t : State) (L : List Loc) (E : String) (ce : Cell), B.U.heap = t.heap ∧ B.U.vm = t.vm ∧ XC E (A.U.calling g mk a) t ∧ t.heap[q]? = some ce ∧ ce.vm = .none ∧ A.U.vm.findClass E = some ce.cls ∧ B.locs = A.locs ++ L ∧ (∀ z ∈ L, free z.base) ∧ B.cells = A.cells + mc ∧ B.slots = A.slots + ms
def vx_Back (l : Launch) (R : Room) (p : Program) (e : Env) (below : List Frame) (s : State) (sargs : Array Value) (y : MethodName) (len W9 : Nat)
    (Pre : Pt → Array Value → Prop) (Post : Pt → Array Value → Option Value → Pt → Prop) (PostX : Pt → Array Value → Addr → Pt → Prop) : Prop :=
  ∀ (m : MethodId) (meth : Method) (c : Code) (A : Pt) (g : JFrame) (ig : Instr) (mk : MethodId) (a : Array Value),
    Stand p l e R s m sargs below meth c A.U A.locs A.cells A.slots → g.method = m → g.locals.size = c.maxLocals → decode c.code g.pc = .ok (ig, len) →
    2 * g.monitorRoom + (g.stack.map fun v => v.category).sum ≤ W9 → A.U.methodNamed? y = some mk → Pre A a →
    (∃ (v : Option Value) (B : Pt), Stand p l e R s m sargs below meth c B.U B.locs B.cells B.slots ∧ Post A a v B ∧
      Steps p.tables e below (doInvoke e (A.U.setTop g) [] mk a).1 (B.U.setTop { g with pc := g.pc + len, stack := v.toList ++ g.stack })) ∨
    (∃ (q : Addr) (B : Pt), Stand p l e R s m sargs below meth c B.U B.locs B.cells B.slots ∧ PostX A a q B ∧
      Steps p.tables e below (doInvoke e (A.U.setTop g) [] mk a).1 ((B.U.setTop g).pushFrame (.throwing q)))
section Payer
variable {l : Launch} {R : Room} {p : Program} {e : Env} {below : List Frame} {s : State} {sargs : Array Value} {y : MethodName} {len W9 : Nat}
theorem vx_back {ws : List Cond} {rm : Room} {Pc : Array Value → State → Prop} {Qc : Array Value → State → Outcome → State → Prop} {XC : String → State → State → Prop} {mc ms : Nat} {free : Addr → Prop} {bytes : ByteArray} {maxL : Nat} {ret : Option FieldType}
    (hM : vx_Met l y ws rm Pc Qc XC mc ms free) (hblind : FrameBlind Pc) (hrc : rm.cells = mc) (hrs : rm.slots = ms)
    (hframes : rm.frames + 1 ≤ R.frames) (hlocals : W9 + (maxL + 11) + rm.locals ≤ R.locals)
    (hws : ∀ w ∈ ws, ∀ a' U, s.WarmedH U.vm → w.before a' U = true) (hcode : Cond.code y bytes maxL ret ∈ ws) (hinit : ∀ a' U, s.WarmedH U.vm → (Cond.initialized y.cls).before a' U = true) :
    vx_Back l R p e below s sargs y len W9 (PreOf R mc ms Pc) (PostOf Qc mc ms free) (vx_Post XC mc ms free) := by
  intro m meth c A g ig mk a X hg hsize hdg hW hn hp
  have h1 : (headSpec ws rm).pre.before a A.U = true := atoms_intro fun w hw => hws w hw _ _ X.warmed
  have h2 : (Cond.code y bytes maxL ret).before a A.U = true := hws _ hcode _ _ X.warmed
  have h3 : (Cond.initialized y.cls).before a A.U = true := hinit _ _ X.warmed
  have h4 : A.cells + (headSpec ws rm).room.cells ≤ R.cells := by rw [show (headSpec ws rm).room.cells = mc from hrc]; exact hp.1
  have h5 : A.slots + (headSpec ws rm).room.slots ≤ R.slots := by rw [show (headSpec ws rm).room.slots = ms from hrs]; exact hp.2.1
  have hPc : Pc a (A.U.calling g mk a) := hblind _ _ _ _ hp.2.2
  obtain ⟨U, Ls, c0, s0⟩ := A
  dsimp only [Pt.U, Pt.locs, Pt.cells, Pt.slots] at h1 h2 h3 h4 h5 X hn hPc ⊢
  obtain ⟨methY, cY, hmY, hcY, -, hlY, -, -, -, -⟩ := Cond.code_spec hn h2
  obtain ⟨kY, hkY, -⟩ := className_of_methodNamed hn
  have hinitY : kY.init = .initialized := Cond.initialized_spec (findClass_of_methodNamed hn) hkY h3
  have h : At U g.method c below := by rw [hg]; exact X.here
  have hlocals9 : W9 + (maxL + 11) + (headSpec ws rm).room.locals ≤ R.locals := hlocals
  have happ : (headSpec ws rm).appliesLoose y e.platform (U.calling g mk a) = true :=
    Spec.appliesLoose_calling (g := g) h hdg hn hkY hinitY
      (X.room_calling (g := g) (R' := (headSpec ws rm).room) hsize hmY hcY hframes (by rw [hlY]; omega) h4 h5) h1
  obtain ⟨mid, hmid⟩ := h.above
  have hfr : (U.setTop g).frames = (.java g :: mid) ++ below := by rw [State.frames_setTop' g h.top, hmid]; rfl
  obtain ⟨o, s₂, hsteps, -, hend, hq⟩ := Steps.callFree hM p X.admits X.cas X.clock (acts := []) hfr happ hPc trivial
  have hq' : vx_Q Qc XC mc ms free a (U.calling g mk a) o s₂ := hq
  rw [State.frames_setTop' g h.top] at hend
  obtain ⟨g₀, hg0⟩ := Option.isSome_iff_exists.mp h.top
  obtain ⟨r, hr⟩ := State.topJava?_eq_some.mp hg0
  have hr' : (({ U with heap := s₂.heap, slotsUsed := s₂.slotsUsed } : State).setVm s₂.vm).frames = .java g₀ :: r := hr
  rcases hq' with ⟨hqc, L, hfe, hL⟩ | ⟨q, rfl, E, ce, L, hx, hce, hcv, hcl, hW₂, hsm, hL⟩
  · obtain ⟨⟨v, rfl⟩, hW₂, e2, q2, q3, q4, q5, q6⟩ := id hfe
    have e3 : s₂ = ({ (U.calling g mk a).setFrames s₂.frames with heap := s₂.heap, slotsUsed := s₂.slotsUsed } : State).setVm s₂.vm := by
      have : s₂ = ({ s₂ with vm := (U.calling g mk a).vm } : State).setVm s₂.vm := rfl
      rw [e2] at this
      exact this
    obtain ⟨c₂, i₂, len₂, hc₂, hd₂, hf₂⟩ := hend
    have hW' : U.WarmedH s₂.vm := hW₂
    have hcc : c₂ = c := by
      have h1 : s₂.code? g.method = U.code? g.method := by
        rw [State.code?_eq, State.code?_eq, hW'.alike.method?]
      exact Option.some.inj (hc₂.symm.trans (h1.trans h.code))
    subst hcc
    have hlen : len₂ = len := by rw [hdg] at hd₂; cases hd₂; rfl
    subst hlen
    have hs₂ : s₂ = (({ U with heap := s₂.heap, slotsUsed := s₂.slotsUsed } : State).setVm s₂.vm).setTop { g with pc := g.pc + len₂, stack := v.toList ++ g.stack } := by
      refine e3.trans ?_
      rw [hf₂, State.calling_eq h.top, State.setFrames_setFrames, State.setTop_of_frames _ hr', hr]
      rfl
    have hsame : U.sameButNew ({ U with heap := s₂.heap, slotsUsed := s₂.slotsUsed } : State) L mc ms := by
      refine ⟨?_, q2, q3, q4, q5, q6⟩
      obtain ⟨t, ht, -⟩ := State.frames_cons hr
      show ({ U with heap := s₂.heap, slotsUsed := s₂.slotsUsed } : State) = { U.setFrames U.frames with heap := s₂.heap, slotsUsed := s₂.slotsUsed }
      rw [State.setFrames_self ht]
    subst hg
    refine Or.inl ⟨v, ⟨(({ U with heap := s₂.heap, slotsUsed := s₂.slotsUsed } : State).setVm s₂.vm), Ls ++ L, c0 + mc, s0 + ms⟩,
      ⟨X.admits, X.cas, X.clock, X.frames, X.room, X.hears, X.method, X.code, (X.here.setHeapUsed s₂.heap s₂.slotsUsed).setVm hW'.alike, X.tail, State.WarmedH.trans X.warmed hW', X.limits, X.bytes, X.same.trans (hsame.setVm s.vm)⟩,
      ⟨g, mk, s₂, L, rfl, rfl, hqc, rfl, hL, rfl, rfl⟩, ?_⟩
    show Steps p.tables e below _ ((({ U with heap := s₂.heap, slotsUsed := s₂.slotsUsed } : State).setVm s₂.vm).setTop { g with pc := g.pc + len₂, stack := v.toList ++ g.stack })
    rw [← hs₂]
    exact hsteps
  · obtain ⟨e2, q2, q3, q4, q5, q6⟩ := id hsm
    have e3 : s₂ = ({ (U.calling g mk a).setFrames s₂.frames with heap := s₂.heap, slotsUsed := s₂.slotsUsed } : State).setVm s₂.vm := by
      have : s₂ = ({ s₂ with vm := (U.calling g mk a).vm } : State).setVm s₂.vm := rfl
      rw [e2] at this
      exact this
    have hf₂ : s₂.frames = .throwing q :: .java g :: U.frames.tail := hend
    have hW' : U.WarmedH s₂.vm := hW₂
    have hs₂ : s₂ = ((({ U with heap := s₂.heap, slotsUsed := s₂.slotsUsed } : State).setVm s₂.vm).setTop g).pushFrame (.throwing q) := by
      refine e3.trans ?_
      rw [hf₂, State.calling_eq h.top, State.setFrames_setFrames, State.pushFrame, State.frames_setTop _ hr', State.setTop_of_frames _ hr', State.setFrames_setFrames, hr]
      rfl
    have hsame : U.sameButNew ({ U with heap := s₂.heap, slotsUsed := s₂.slotsUsed } : State) L mc ms := by
      refine ⟨?_, q2, q3, q4, q5, q6⟩
      obtain ⟨t, ht, -⟩ := State.frames_cons hr
      show ({ U with heap := s₂.heap, slotsUsed := s₂.slotsUsed } : State) = { U.setFrames U.frames with heap := s₂.heap, slotsUsed := s₂.slotsUsed }
      rw [State.setFrames_self ht]
    subst hg
    refine Or.inr ⟨q, ⟨(({ U with heap := s₂.heap, slotsUsed := s₂.slotsUsed } : State).setVm s₂.vm), Ls ++ L, c0 + mc, s0 + ms⟩,
      ⟨X.admits, X.cas, X.clock, X.frames, X.room, X.hears, X.method, X.code, (X.here.setHeapUsed s₂.heap s₂.slotsUsed).setVm hW'.alike, X.tail, State.WarmedH.trans X.warmed hW', X.limits, X.bytes, X.same.trans (hsame.setVm s.vm)⟩,
      ⟨g, mk, s₂, L, E, ce, rfl, rfl, hx, hce, hcv, hcl, rfl, hL, rfl, rfl⟩, ?_⟩
    show Steps p.tables e below _ (((({ U with heap := s₂.heap, slotsUsed := s₂.slotsUsed } : State).setVm s₂.vm).setTop g).pushFrame (.throwing q))
    rw [← hs₂]
    exact hsteps
end Payer
section Calls
variable {p : Program} {l : Launch} {e : Env} {R : Room} {s : State} {m : MethodId} {args : Array Value} {below : List Frame} {meth : Method} {c : Code} {T : State} {locs : List Loc} {cells slots : Nat}
theorem vx_callV (X : Stand p l e R s m args below meth c T locs cells slots) (hexec : p.tables.exec = Jvm.exec) {own C : String} {index : Nat} {y : MethodName} {bytes : ByteArray} {maxL : Nat} {ret : Option FieldType}
    (hown : s.vm.findClass own = some m.cls) (hlink : (Cond.methodLink own index y).before args s = true) (hinst : (Cond.instanceMethod y).before args s = true) (hsel : (Cond.selects C y y).before args s = true)
    (hcode : (Cond.code y bytes maxL ret).before args s = true) (hy : y.cls ≠ "java/lang/invoke/MethodHandle" ∧ y.cls ≠ "java/lang/invoke/VarHandle")
    {W9 : Nat} {Pre : Pt → Array Value → Prop} {Post : Pt → Array Value → Option Value → Pt → Prop} {PostX : Pt → Array Value → Addr → Pt → Prop} (hK : vx_Back l R p e below s args y 3 W9 Pre Post PostX)
    {b : Addr} {cellB : Cell} (hcell : T.heap[b]? = some cellB) (hobj : cellB.vm.isStatics = false) (hcls : s.vm.findClass C = some cellB.cls)
    {g : JFrame} (hg : g.method = m) (hsize : g.locals.size = c.maxLocals) {argsL rest : List Value} (hlen : ∀ sig, parseMethodDescriptor y.desc = some sig → argsL.length = sig.parameters.length)
    (hstack : g.stack = argsL.reverse ++ .ref b :: rest) (hW : 2 * g.monitorRoom + (rest.map fun v => v.category).sum ≤ W9) (hdg : decode c.code g.pc = .ok (.invokevirtual index, 3))
    (hpre : ∀ vm₁, s.WarmedH vm₁ → Pre ⟨T.setVm vm₁, locs, cells, slots⟩ (Value.ref b :: argsL).toArray) :
    (∃ (v : Option Value) (vm₁ : Vm) (B : Pt), s.WarmedH vm₁ ∧ Stand p l e R s m args below meth c B.U B.locs B.cells B.slots ∧ Post ⟨T.setVm vm₁, locs, cells, slots⟩ (Value.ref b :: argsL).toArray v B ∧
      ∀ target, Steps p.tables e below (B.U.setTop { g with pc := g.pc + 3, stack := v.toList ++ rest }) target → Steps p.tables e below (T.setTop g) target) ∨
    (∃ (q : Addr) (vm₁ : Vm) (B : Pt), s.WarmedH vm₁ ∧ Stand p l e R s m args below meth c B.U B.locs B.cells B.slots ∧ PostX ⟨T.setVm vm₁, locs, cells, slots⟩ (Value.ref b :: argsL).toArray q B ∧
      Steps p.tables e below (T.setTop g) ((B.U.setTop { g with stack := rest }).pushFrame (.throwing q))) := by
  obtain ⟨mk, methM, hnamed, hmethM, hstM, habM⟩ := Cond.instanceMethod_spec hinst
  obtain ⟨methM', cM, hmethM', -, -, -, -, -, -, hsigM⟩ := Cond.code_spec hnamed hcode
  cases hmethM.symm.trans hmethM'
  obtain ⟨c2, r2, m2, q1, q2, q3, q4, kP, hkP, hkPi⟩ := Cond.selects_spec hsel
  cases hcls.symm.trans q1
  cases (State.methodFound?_of_named hnamed hy).symm.trans q2
  cases hnamed.symm.trans q3
  have hselP : selectMethod e.platform s.vm cellB.cls mk = .method mk := by rw [Launch.admits_selectMethod X.admits]; exact q4
  obtain ⟨vm₁, X₁, hstep₁⟩ := X.invokevirtual hexec hown hlink hnamed hmethM hstM hkP hkPi hy (a := b) (cell := cellB) hcell
    (fun z h => by rw [h] at hobj; cases hobj) hselP hmethM habM hkP hkPi (g := g) hg (argsL := argsL) (rest := rest) (hlen _ hsigM) hstack hdg
  rcases hK m meth c ⟨T.setVm vm₁, locs, cells, slots⟩ { g with stack := rest } (.invokevirtual index) mk (Value.ref b :: argsL).toArray X₁ hg hsize hdg hW (X₁.named hnamed) (hpre vm₁ X₁.warmed) with ⟨v, B, X', hpost, hsteps⟩ | ⟨q, B, X', hpost, hsteps⟩
  · exact Or.inl ⟨v, vm₁, B, X₁.warmed, X', hpost, fun target h => hstep₁ _ fun acts => by rw [doInvoke_state]; exact hsteps.trans h⟩
  · exact Or.inr ⟨q, vm₁, B, X₁.warmed, X', hpost, hstep₁ _ fun acts => by rw [doInvoke_state]; exact hsteps⟩
theorem vx_callS (X : Stand p l e R s m args below meth c T locs cells slots) (hexec : p.tables.exec = Jvm.exec) {own : String} {index : Nat} {y : MethodName} {bytes : ByteArray} {maxL : Nat} {ret : Option FieldType}
    (hown : s.vm.findClass own = some m.cls) (hlink : (Cond.methodLink own index y).before args s = true) (hstat : (Cond.static y).before args s = true) (hinit : (Cond.initialized y.cls).before args s = true)
    (hcode : (Cond.code y bytes maxL ret).before args s = true) (hy : y.cls ≠ "java/lang/invoke/MethodHandle" ∧ y.cls ≠ "java/lang/invoke/VarHandle")
    {W9 : Nat} {Pre : Pt → Array Value → Prop} {Post : Pt → Array Value → Option Value → Pt → Prop} {PostX : Pt → Array Value → Addr → Pt → Prop} (hK : vx_Back l R p e below s args y 3 W9 Pre Post PostX)
    {g : JFrame} (hg : g.method = m) (hsize : g.locals.size = c.maxLocals) {argsL rest : List Value} (hlen : ∀ sig, parseMethodDescriptor y.desc = some sig → argsL.length = sig.parameters.length)
    (hstack : g.stack = argsL.reverse ++ rest) (hW : 2 * g.monitorRoom + (rest.map fun v => v.category).sum ≤ W9) (hdg : decode c.code g.pc = .ok (.invokestatic index, 3))
    (hpre : ∀ vm₁, s.WarmedH vm₁ → Pre ⟨T.setVm vm₁, locs, cells, slots⟩ argsL.toArray) :
    (∃ (v : Option Value) (vm₁ : Vm) (B : Pt), s.WarmedH vm₁ ∧ Stand p l e R s m args below meth c B.U B.locs B.cells B.slots ∧ Post ⟨T.setVm vm₁, locs, cells, slots⟩ argsL.toArray v B ∧
      ∀ target, Steps p.tables e below (B.U.setTop { g with pc := g.pc + 3, stack := v.toList ++ rest }) target → Steps p.tables e below (T.setTop g) target) ∨
    (∃ (q : Addr) (vm₁ : Vm) (B : Pt), s.WarmedH vm₁ ∧ Stand p l e R s m args below meth c B.U B.locs B.cells B.slots ∧ PostX ⟨T.setVm vm₁, locs, cells, slots⟩ argsL.toArray q B ∧
      Steps p.tables e below (T.setTop g) ((B.U.setTop { g with stack := rest }).pushFrame (.throwing q))) := by
  obtain ⟨mk, hnamed⟩ := Cond.code_named hcode
  obtain ⟨methM, cM, hmethM, -, -, -, -, -, -, hsigM⟩ := Cond.code_spec hnamed hcode
  have hstatic : methM.isStatic = true := Cond.static_spec hnamed hmethM hstat
  obtain ⟨kP, hkP, -⟩ := className_of_methodNamed hnamed
  have hinitP : kP.init = .initialized := Cond.initialized_spec (findClass_of_methodNamed hnamed) hkP hinit
  obtain ⟨vm₁, X₁, hstep₁⟩ := X.invokestatic hexec hown hlink hnamed hmethM hstatic hkP hinitP hy (g := g) hg (argsL := argsL) (rest := rest) (hlen _ hsigM) hstack hdg
  rcases hK m meth c ⟨T.setVm vm₁, locs, cells, slots⟩ { g with stack := rest } (.invokestatic index) mk argsL.toArray X₁ hg hsize hdg hW (X₁.named hnamed) (hpre vm₁ X₁.warmed) with ⟨v, B, X', hpost, hsteps⟩ | ⟨q, B, X', hpost, hsteps⟩
  · exact Or.inl ⟨v, vm₁, B, X₁.warmed, X', hpost, fun target h => hstep₁ _ fun acts => by rw [doInvoke_state]; exact hsteps.trans h⟩
  · exact Or.inr ⟨q, vm₁, B, X₁.warmed, X', hpost, hstep₁ _ fun acts => by rw [doInvoke_state]; exact hsteps⟩
end Calls
theorem vx_cls {s : State} {T : State} {vm₁ : Vm} {E : String} {k : ClassId} (hW : s.WarmedH vm₁) (h : (T.setVm vm₁).vm.findClass E = some k) : s.vm.findClass E = some k := by
  have h1 : vm₁.findClass E = some k := h
  rw [hW.alike.findClass] at h1
  exact h1
/-- the method's frame g, with q thrown over it -/
def vx_W (p : Program) (l : Launch) (e : Env) (R : Room) (s : State) (m : MethodId) (args : Array Value) (below : List Frame) (meth : Method) (c : Code) (H : Heap) (locs : List Loc) (cells slots : Nat) (Q : State → Prop) (g : JFrame) (q : Addr) : Prop :=
  ∀ T : State, T.heap = H → Stand p l e R s m args below meth c T locs cells slots → ∃ t, Steps p.tables e below ((T.setTop g).pushFrame (.throwing q)) t ∧ Q t
def vx_Run (p : Program) (l : Launch) (e : Env) (R : Room) (s : State) (m : MethodId) (args : Array Value) (below : List Frame) (meth : Method) (c : Code) (H : Heap) (locs : List Loc) (cells slots mc ms : Nat) (g : JFrame) (rest : List Value) (Qa : State → Outcome → State → Prop) (XC : String → State → State → Prop) (free : Addr → Prop) : Prop :=
  ∀ T : State, T.heap = H → Stand p l e R s m args below meth c T locs cells slots →
    (∃ (v : Option Value) (st₀ t T' : State) (L : List Loc), st₀.heap = H ∧ Stand p l e R s m args below meth c T' (locs ++ L) (cells + mc) (slots + ms) ∧ (∀ q ∈ L, free q.base) ∧ T'.heap = t.heap ∧ T'.vm = t.vm ∧ Qa st₀ (.returned v) t ∧
      Goes p e below T g T' { g with pc := g.pc + 3, stack := v.toList ++ rest }) ∨
    (∃ (q : Addr) (st₀ t T' : State) (L : List Loc) (E : String) (ce : Cell), st₀.heap = H ∧ Stand p l e R s m args below meth c T' (locs ++ L) (cells + mc) (slots + ms) ∧ (∀ z ∈ L, free z.base) ∧ T'.heap = t.heap ∧ T'.vm = t.vm ∧ XC E st₀ t ∧ t.heap[q]? = some ce ∧ ce.vm = .none ∧ s.vm.findClass E = some ce.cls ∧
      Steps p.tables e below (T.setTop g) ((T'.setTop { g with stack := rest }).pushFrame (.throwing q)))
def vx_X {S : Type} (px : S → Prop) (B : String → S → State → Prop) (A : Nat → Prop) : String → State → State → Prop := fun E st t => ∃ u : S, px u ∧ B E u t ∧ va_F A st t
section Runs
variable {p : Program} {l : Launch} {e : Env} {R : Room} {s : State} {m : MethodId} {args : Array Value} {below : List Frame} {meth : Method} {c : Code} {H : Heap} {locs : List Loc} {cells slots : Nat}
variable {y : MethodName} {bytes cc : ByteArray} {maxL nL mc ms n index : Nat} {ret : Option FieldType} {ws : List Cond} {rm : Room} {Pc : Array Value → State → Prop} {Qc : Array Value → State → Outcome → State → Prop} {XC : String → State → State → Prop} {free : Addr → Prop} {Ts : List Cond} {own C : String} {b : Addr} {As rest : List Value} {g : JFrame}
theorem vx_callBack (cb : CallB R s args own index y bytes maxL ret ws rm mc ms n) (hM : vx_Met l y ws rm Pc Qc XC mc ms free) (hbl : FrameBlind Pc) : vx_Back l R p e below s args y 3 8 (PreOf R mc ms Pc) (PostOf Qc mc ms free) (vx_Post XC mc ms free) := by
  obtain ⟨hrc, hrs, hfr, hlo, hws, hcw, -, hini, -⟩ := cb
  exact vx_back (bytes := bytes) (maxL := maxL) (ret := ret) hM hbl hrc hrs hfr hlo hws hcw (fun a' U hW => word_at hW (Or.inl (by first | rfl | simp [Cond.onTables, Cond.keeps, Cond.steady])) hini)
theorem vx_runV (S : CallFix p m c cc nL s args Ts own) (hM : vx_Met l y ws rm Pc Qc XC mc ms free) (cw : CallW R s args own C index y bytes maxL ret ws rm mc ms n) (hp : PreV s H C b Pc As)
    (hg : g.method = m) (hn : As.length = n) (hsize : g.locals.size = nL) (hstack : g.stack = As.reverse ++ .ref b :: rest) (hW : 2 * g.monitorRoom + (rest.map fun v => v.category).sum ≤ 8) (hdg : decode cc g.pc = .ok (.invokevirtual index, 3)) (hf : cells + mc ≤ R.cells ∧ slots + ms ≤ R.slots) :
    vx_Run p l e R s m args below meth c H locs cells slots mc ms g rest (Qc (Value.ref b :: As).toArray) XC free := by
  have hK : vx_Back l R p e below s args y 3 8 (PreOf R mc ms Pc) (PostOf Qc mc ms free) (vx_Post XC mc ms free) := vx_callBack cw.1 hM hp.1
  obtain ⟨⟨-, -, -, -, -, -, hcode, -, hy, hlen, hl⟩, hin, hse⟩ := cw
  obtain ⟨hx, hb, hml, ho, -⟩ := S
  obtain ⟨-, ⟨cellB, hcB, hoB, hclB⟩, hPc⟩ := hp
  intro T hT X
  rcases vx_callV X hx (C := C) (bytes := bytes) (maxL := maxL) (ret := ret) ho hl hin hse hcode hy hK (by rw [hT]; exact hcB) hoB hclB hg (hsize.trans hml.symm) (argsL := As) (rest := rest) (fun sig h => hn.trans (hlen sig h)) hstack hW (by rw [hb]; exact hdg)
    (fun vm₁ hW₁ => ⟨hf.1, hf.2, hPc (T.setVm vm₁) hT hW₁⟩) with ⟨v, vm₁, ⟨U', l2, c2, s2⟩, hW₁, X', ⟨g', mk, t, L, e1, e2, hq, h1, hL, h2, h3⟩, st⟩ | ⟨q, vm₁, ⟨U', l2, c2, s2⟩, hW₁, X', ⟨g', mk, t, L, E, ce, e1, e2, hq, hce, hcv, hcl, h1, hL, h2, h3⟩, st⟩
  · dsimp only [Pt.U, Pt.locs, Pt.cells, Pt.slots] at X' e1 e2 h1 h2 h3 st
    subst h1; subst h2; subst h3
    exact Or.inl ⟨v, (T.setVm vm₁).calling g' mk (Value.ref b :: As).toArray, t, U', L, hT, X', hL, e1, e2, hq, st⟩
  · dsimp only [Pt.U, Pt.locs, Pt.cells, Pt.slots] at X' e1 e2 h1 h2 h3 st hcl
    subst h1; subst h2; subst h3
    exact Or.inr ⟨q, (T.setVm vm₁).calling g' mk (Value.ref b :: As).toArray, t, U', L, E, ce, hT, X', hL, e1, e2, hq, hce, hcv, vx_cls hW₁ hcl, st⟩
theorem vx_runS (S : CallFix p m c cc nL s args Ts own) (hM : vx_Met l y ws rm Pc Qc XC mc ms free) (cw : CallB R s args own index y bytes maxL ret ws rm mc ms n ∧ (Cond.static y).before args s = true) (hp : PreS s H Pc As)
    (hg : g.method = m) (hn : As.length = n) (hsize : g.locals.size = nL) (hstack : g.stack = As.reverse ++ rest) (hW : 2 * g.monitorRoom + (rest.map fun v => v.category).sum ≤ 8) (hdg : decode cc g.pc = .ok (.invokestatic index, 3)) (hf : cells + mc ≤ R.cells ∧ slots + ms ≤ R.slots) :
    vx_Run p l e R s m args below meth c H locs cells slots mc ms g rest (Qc As.toArray) XC free := by
  have hK : vx_Back l R p e below s args y 3 8 (PreOf R mc ms Pc) (PostOf Qc mc ms free) (vx_Post XC mc ms free) := vx_callBack cw.1 hM hp.1
  obtain ⟨⟨-, -, -, -, -, -, hcode, hini, hy, hlen, hl⟩, hstt⟩ := cw
  obtain ⟨hx, hb, hml, ho, -⟩ := S
  intro T hT X
  rcases vx_callS X hx (bytes := bytes) (maxL := maxL) (ret := ret) ho hl hstt hini hcode hy hK hg (hsize.trans hml.symm) (argsL := As) (rest := rest) (fun sig h => hn.trans (hlen sig h)) hstack hW (by rw [hb]; exact hdg)
    (fun vm₁ hW₁ => ⟨hf.1, hf.2, hp.2 (T.setVm vm₁) hT hW₁⟩) with ⟨v, vm₁, ⟨U', l2, c2, s2⟩, hW₁, X', ⟨g', mk, t, L, e1, e2, hq, h1, hL, h2, h3⟩, st⟩ | ⟨q, vm₁, ⟨U', l2, c2, s2⟩, hW₁, X', ⟨g', mk, t, L, E, ce, e1, e2, hq, hce, hcv, hcl, h1, hL, h2, h3⟩, st⟩
  · dsimp only [Pt.U, Pt.locs, Pt.cells, Pt.slots] at X' e1 e2 h1 h2 h3 st
    subst h1; subst h2; subst h3
    exact Or.inl ⟨v, (T.setVm vm₁).calling g' mk As.toArray, t, U', L, hT, X', hL, e1, e2, hq, st⟩
  · dsimp only [Pt.U, Pt.locs, Pt.cells, Pt.slots] at X' e1 e2 h1 h2 h3 st hcl
    subst h1; subst h2; subst h3
    exact Or.inr ⟨q, (T.setVm vm₁).calling g' mk As.toArray, t, U', L, E, ce, hT, X', hL, e1, e2, hq, hce, hcv, vx_cls hW₁ hcl, st⟩
end Runs
section Rows
variable {p : Program} {l : Launch} {e : Env} {R : Room} {s : State} {m : MethodId} {args : Array Value} {below : List Frame} {meth : Method} {c : Code} {H : Heap} {locs : List Loc} {cells slots : Nat} {Q : State → Prop}
variable {mc ms : Nat} {free : Addr → Prop} {A0 A1 : Nat → Prop} {H0 : Heap} {a : Array Value} {pc : Nat} {ls : Array Slot} {st0 rest : List Value}
theorem vx_keep {st₀ t T' : State} {L : List Loc} (h0 : st₀.heap = H) (e1 : T'.heap = t.heap) (hS : va_S A0 H0 H locs) (hA : ∀ q, q < H.size → A1 q → A0 q) (hf : ∀ q, free q → A0 q) (hL : ∀ q ∈ L, free q.base) (hF : va_F A1 st₀ t) :
    H.size ≤ T'.heap.size ∧ (∀ q : Nat, q < H.size → ¬ A1 q → T'.heap[q]? = H[q]?) ∧ va_S A0 H0 T'.heap (locs ++ L) := by
  obtain ⟨hz, hk⟩ := hF
  rw [h0] at hz hk
  exact ⟨by rw [e1]; exact hz, fun q h1 h2 => by rw [e1]; exact hk q h1 h2,
    ⟨Nat.le_trans hS.1 (by rw [e1]; exact hz), fun q h1 h2 => by rw [e1, hk q (Nat.lt_of_lt_of_le h1 hS.1) (fun z => h2 (hA q (Nat.lt_of_lt_of_le h1 hS.1) z))]; exact hS.2.1 q h1 h2, fun q hq => by
      rcases List.mem_append.mp hq with h | h
      · exact hS.2.2 q h
      · exact hf _ (hL q h)⟩⟩
theorem vx_calli {S SX : Type} {post : Int32 → S → Prop} {px : SX → Prop} {B : S → State → Prop} {BX : String → SX → State → Prop} {AX : Nat → Prop} (hr : vx_Run p l e R s m args below meth c H locs cells slots mc ms (F0 m pc ls st0) rest (va_Qi post B A1 a) (vx_X px BX AX) free) (hS : va_S A0 H0 H locs) (hA : ∀ q, q < H.size → A1 q → A0 q) (hf : ∀ q, free q → A0 q) (hAX : ∀ q, q < H.size → AX q → A0 q)
    (kx : ∀ (E : String) (ce : Cell) (q9 : Addr) (u : SX) (t : State) (H1 : Heap) (locs1 : List Loc), t.heap = H1 → s.vm.Alike t.vm → px u → BX E u t → H.size ≤ H1.size → (∀ q : Nat, q < H.size → ¬ AX q → H1[q]? = H[q]?) → va_S A0 H0 H1 locs1 → H1[q9]? = some ce → ce.vm = .none → s.vm.findClass E = some ce.cls → vx_W p l e R s m args below meth c H1 locs1 (cells + mc) (slots + ms) Q (F0 m pc ls rest) q9)
    (kk : ∀ (r : Int32) (u : S) (t : State) (H1 : Heap) (locs1 : List Loc), t.heap = H1 → s.vm.Alike t.vm → post r u → B u t → H.size ≤ H1.size → (∀ q : Nat, q < H.size → ¬ A1 q → H1[q]? = H[q]?) → va_S A0 H0 H1 locs1 → W p l e R s m args below meth c H1 locs1 (cells + mc) (slots + ms) Q (F0 m (pc + 3) ls (.int r :: rest))) : W p l e R s m args below meth c H locs cells slots Q (F0 m pc ls st0) := by
  intro T hT X
  rcases hr T hT X with ⟨v, st₀, t, T', L, h0, X', hL, e1, e2, ⟨⟨r, u, hv, hp, hb⟩, hF⟩, st⟩ | ⟨q, st₀, t, T', L, E, ce, h0, X', hL, e1, e2, ⟨u, hp, hb, hF⟩, hce, hcv, hcl, st⟩
  · cases hv
    obtain ⟨k1, k2, k3⟩ := vx_keep h0 e1 hS hA hf hL hF
    obtain ⟨t2, a1, b1⟩ := kk r u t T'.heap (locs ++ L) e1.symm (by rw [← e2]; exact X'.warmed.alike) hp hb k1 k2 k3 T' rfl X'
    exact ⟨t2, st t2 a1, b1⟩
  · obtain ⟨k1, k2, k3⟩ := vx_keep h0 e1 hS hAX hf hL hF
    obtain ⟨t2, a1, b1⟩ := kx E ce q u t T'.heap (locs ++ L) e1.symm (by rw [← e2]; exact X'.warmed.alike) hp hb k1 k2 k3 (by rw [e1]; exact hce) hcv hcl T' rfl X'
    exact ⟨t2, st.trans a1, b1⟩
theorem vx_calll {S SX : Type} {post : Int64 → S → Prop} {px : SX → Prop} {B : S → State → Prop} {BX : String → SX → State → Prop} {AX : Nat → Prop} (hr : vx_Run p l e R s m args below meth c H locs cells slots mc ms (F0 m pc ls st0) rest (va_Ql post B A1 a) (vx_X px BX AX) free) (hS : va_S A0 H0 H locs) (hA : ∀ q, q < H.size → A1 q → A0 q) (hf : ∀ q, free q → A0 q) (hAX : ∀ q, q < H.size → AX q → A0 q)
    (kx : ∀ (E : String) (ce : Cell) (q9 : Addr) (u : SX) (t : State) (H1 : Heap) (locs1 : List Loc), t.heap = H1 → s.vm.Alike t.vm → px u → BX E u t → H.size ≤ H1.size → (∀ q : Nat, q < H.size → ¬ AX q → H1[q]? = H[q]?) → va_S A0 H0 H1 locs1 → H1[q9]? = some ce → ce.vm = .none → s.vm.findClass E = some ce.cls → vx_W p l e R s m args below meth c H1 locs1 (cells + mc) (slots + ms) Q (F0 m pc ls rest) q9)
    (kk : ∀ (r : Int64) (u : S) (t : State) (H1 : Heap) (locs1 : List Loc), t.heap = H1 → s.vm.Alike t.vm → post r u → B u t → H.size ≤ H1.size → (∀ q : Nat, q < H.size → ¬ A1 q → H1[q]? = H[q]?) → va_S A0 H0 H1 locs1 → W p l e R s m args below meth c H1 locs1 (cells + mc) (slots + ms) Q (F0 m (pc + 3) ls (.long r :: rest))) : W p l e R s m args below meth c H locs cells slots Q (F0 m pc ls st0) := by
  intro T hT X
  rcases hr T hT X with ⟨v, st₀, t, T', L, h0, X', hL, e1, e2, ⟨⟨r, u, hv, hp, hb⟩, hF⟩, st⟩ | ⟨q, st₀, t, T', L, E, ce, h0, X', hL, e1, e2, ⟨u, hp, hb, hF⟩, hce, hcv, hcl, st⟩
  · cases hv
    obtain ⟨k1, k2, k3⟩ := vx_keep h0 e1 hS hA hf hL hF
    obtain ⟨t2, a1, b1⟩ := kk r u t T'.heap (locs ++ L) e1.symm (by rw [← e2]; exact X'.warmed.alike) hp hb k1 k2 k3 T' rfl X'
    exact ⟨t2, st t2 a1, b1⟩
  · obtain ⟨k1, k2, k3⟩ := vx_keep h0 e1 hS hAX hf hL hF
    obtain ⟨t2, a1, b1⟩ := kx E ce q u t T'.heap (locs ++ L) e1.symm (by rw [← e2]; exact X'.warmed.alike) hp hb k1 k2 k3 (by rw [e1]; exact hce) hcv hcl T' rfl X'
    exact ⟨t2, st.trans a1, b1⟩
theorem vx_callf {S SX : Type} {post : UInt32 → S → Prop} {px : SX → Prop} {B : S → State → Prop} {BX : String → SX → State → Prop} {AX : Nat → Prop} (hr : vx_Run p l e R s m args below meth c H locs cells slots mc ms (F0 m pc ls st0) rest (va_Qf post B A1 a) (vx_X px BX AX) free) (hS : va_S A0 H0 H locs) (hA : ∀ q, q < H.size → A1 q → A0 q) (hf : ∀ q, free q → A0 q) (hAX : ∀ q, q < H.size → AX q → A0 q)
    (kx : ∀ (E : String) (ce : Cell) (q9 : Addr) (u : SX) (t : State) (H1 : Heap) (locs1 : List Loc), t.heap = H1 → s.vm.Alike t.vm → px u → BX E u t → H.size ≤ H1.size → (∀ q : Nat, q < H.size → ¬ AX q → H1[q]? = H[q]?) → va_S A0 H0 H1 locs1 → H1[q9]? = some ce → ce.vm = .none → s.vm.findClass E = some ce.cls → vx_W p l e R s m args below meth c H1 locs1 (cells + mc) (slots + ms) Q (F0 m pc ls rest) q9)
    (kk : ∀ (r : UInt32) (u : S) (t : State) (H1 : Heap) (locs1 : List Loc), t.heap = H1 → s.vm.Alike t.vm → post r u → B u t → H.size ≤ H1.size → (∀ q : Nat, q < H.size → ¬ A1 q → H1[q]? = H[q]?) → va_S A0 H0 H1 locs1 → W p l e R s m args below meth c H1 locs1 (cells + mc) (slots + ms) Q (F0 m (pc + 3) ls (.float r :: rest))) : W p l e R s m args below meth c H locs cells slots Q (F0 m pc ls st0) := by
  intro T hT X
  rcases hr T hT X with ⟨v, st₀, t, T', L, h0, X', hL, e1, e2, ⟨⟨r, u, hv, hp, hb⟩, hF⟩, st⟩ | ⟨q, st₀, t, T', L, E, ce, h0, X', hL, e1, e2, ⟨u, hp, hb, hF⟩, hce, hcv, hcl, st⟩
  · cases hv
    obtain ⟨k1, k2, k3⟩ := vx_keep h0 e1 hS hA hf hL hF
    obtain ⟨t2, a1, b1⟩ := kk r u t T'.heap (locs ++ L) e1.symm (by rw [← e2]; exact X'.warmed.alike) hp hb k1 k2 k3 T' rfl X'
    exact ⟨t2, st t2 a1, b1⟩
  · obtain ⟨k1, k2, k3⟩ := vx_keep h0 e1 hS hAX hf hL hF
    obtain ⟨t2, a1, b1⟩ := kx E ce q u t T'.heap (locs ++ L) e1.symm (by rw [← e2]; exact X'.warmed.alike) hp hb k1 k2 k3 (by rw [e1]; exact hce) hcv hcl T' rfl X'
    exact ⟨t2, st.trans a1, b1⟩
theorem vx_calld {S SX : Type} {post : UInt64 → S → Prop} {px : SX → Prop} {B : S → State → Prop} {BX : String → SX → State → Prop} {AX : Nat → Prop} (hr : vx_Run p l e R s m args below meth c H locs cells slots mc ms (F0 m pc ls st0) rest (va_Qd post B A1 a) (vx_X px BX AX) free) (hS : va_S A0 H0 H locs) (hA : ∀ q, q < H.size → A1 q → A0 q) (hf : ∀ q, free q → A0 q) (hAX : ∀ q, q < H.size → AX q → A0 q)
    (kx : ∀ (E : String) (ce : Cell) (q9 : Addr) (u : SX) (t : State) (H1 : Heap) (locs1 : List Loc), t.heap = H1 → s.vm.Alike t.vm → px u → BX E u t → H.size ≤ H1.size → (∀ q : Nat, q < H.size → ¬ AX q → H1[q]? = H[q]?) → va_S A0 H0 H1 locs1 → H1[q9]? = some ce → ce.vm = .none → s.vm.findClass E = some ce.cls → vx_W p l e R s m args below meth c H1 locs1 (cells + mc) (slots + ms) Q (F0 m pc ls rest) q9)
    (kk : ∀ (r : UInt64) (u : S) (t : State) (H1 : Heap) (locs1 : List Loc), t.heap = H1 → s.vm.Alike t.vm → post r u → B u t → H.size ≤ H1.size → (∀ q : Nat, q < H.size → ¬ A1 q → H1[q]? = H[q]?) → va_S A0 H0 H1 locs1 → W p l e R s m args below meth c H1 locs1 (cells + mc) (slots + ms) Q (F0 m (pc + 3) ls (.double r :: rest))) : W p l e R s m args below meth c H locs cells slots Q (F0 m pc ls st0) := by
  intro T hT X
  rcases hr T hT X with ⟨v, st₀, t, T', L, h0, X', hL, e1, e2, ⟨⟨r, u, hv, hp, hb⟩, hF⟩, st⟩ | ⟨q, st₀, t, T', L, E, ce, h0, X', hL, e1, e2, ⟨u, hp, hb, hF⟩, hce, hcv, hcl, st⟩
  · cases hv
    obtain ⟨k1, k2, k3⟩ := vx_keep h0 e1 hS hA hf hL hF
    obtain ⟨t2, a1, b1⟩ := kk r u t T'.heap (locs ++ L) e1.symm (by rw [← e2]; exact X'.warmed.alike) hp hb k1 k2 k3 T' rfl X'
    exact ⟨t2, st t2 a1, b1⟩
  · obtain ⟨k1, k2, k3⟩ := vx_keep h0 e1 hS hAX hf hL hF
    obtain ⟨t2, a1, b1⟩ := kx E ce q u t T'.heap (locs ++ L) e1.symm (by rw [← e2]; exact X'.warmed.alike) hp hb k1 k2 k3 (by rw [e1]; exact hce) hcv hcl T' rfl X'
    exact ⟨t2, st.trans a1, b1⟩
theorem vx_callv {S SX : Type} {post : S → Prop} {px : SX → Prop} {B : S → State → Prop} {BX : String → SX → State → Prop} {AX : Nat → Prop} (hr : vx_Run p l e R s m args below meth c H locs cells slots mc ms (F0 m pc ls st0) rest (va_Qv post B A1 a) (vx_X px BX AX) free) (hS : va_S A0 H0 H locs) (hA : ∀ q, q < H.size → A1 q → A0 q) (hf : ∀ q, free q → A0 q) (hAX : ∀ q, q < H.size → AX q → A0 q)
    (kx : ∀ (E : String) (ce : Cell) (q9 : Addr) (u : SX) (t : State) (H1 : Heap) (locs1 : List Loc), t.heap = H1 → s.vm.Alike t.vm → px u → BX E u t → H.size ≤ H1.size → (∀ q : Nat, q < H.size → ¬ AX q → H1[q]? = H[q]?) → va_S A0 H0 H1 locs1 → H1[q9]? = some ce → ce.vm = .none → s.vm.findClass E = some ce.cls → vx_W p l e R s m args below meth c H1 locs1 (cells + mc) (slots + ms) Q (F0 m pc ls rest) q9)
    (kk : ∀ (u : S) (t : State) (H1 : Heap) (locs1 : List Loc), t.heap = H1 → s.vm.Alike t.vm → post u → B u t → H.size ≤ H1.size → (∀ q : Nat, q < H.size → ¬ A1 q → H1[q]? = H[q]?) → va_S A0 H0 H1 locs1 → W p l e R s m args below meth c H1 locs1 (cells + mc) (slots + ms) Q (F0 m (pc + 3) ls (rest))) : W p l e R s m args below meth c H locs cells slots Q (F0 m pc ls st0) := by
  intro T hT X
  rcases hr T hT X with ⟨v, st₀, t, T', L, h0, X', hL, e1, e2, ⟨⟨u, hv, hp, hb⟩, hF⟩, st⟩ | ⟨q, st₀, t, T', L, E, ce, h0, X', hL, e1, e2, ⟨u, hp, hb, hF⟩, hce, hcv, hcl, st⟩
  · cases hv
    obtain ⟨k1, k2, k3⟩ := vx_keep h0 e1 hS hA hf hL hF
    obtain ⟨t2, a1, b1⟩ := kk u t T'.heap (locs ++ L) e1.symm (by rw [← e2]; exact X'.warmed.alike) hp hb k1 k2 k3 T' rfl X'
    exact ⟨t2, st t2 a1, b1⟩
  · obtain ⟨k1, k2, k3⟩ := vx_keep h0 e1 hS hAX hf hL hF
    obtain ⟨t2, a1, b1⟩ := kx E ce q u t T'.heap (locs ++ L) e1.symm (by rw [← e2]; exact X'.warmed.alike) hp hb k1 k2 k3 (by rw [e1]; exact hce) hcv hcl T' rfl X'
    exact ⟨t2, st.trans a1, b1⟩
/-- caught by the row x of this method's table; the rows ahead don't take it -/
theorem vx_catch {own name : String} {E : String} {ce : Cell} {q : Addr} (hown : s.vm.findClass own = some m.cls) (pre : List ExceptionTableEntry) (x : ExceptionTableEntry) (suf : List ExceptionTableEntry) (hsplit : c.exceptionTable.toList = pre ++ x :: suf)
    (hpass : ∀ z ∈ pre, covers z pc = false ∨ (z.catchType ≠ 0 ∧ ∃ nm : String, (Cond.classLink own z.catchType nm).before args s = true ∧ va_Nc E nm s)) (hx : covers x pc = true) (h0 : x.catchType ≠ 0)
    (hlink : (Cond.classLink own x.catchType name).before args s = true) (hcast : (Cond.castable E name).before args s = true) (hcell : H[q]? = some ce) (hv : ce.vm = .none) (hcl : s.vm.findClass E = some ce.cls)
    (kk : W p l e R s m args below meth c H locs cells slots Q (F0 m x.handlerPc ls [.ref q])) : vx_W p l e R s m args below meth c H locs cells slots Q (F0 m pc ls rest) q := by
  intro T hT X
  have hpl : e.platform.magicAccessors = ({} : Platform).magicAccessors := by rw [X.admits.platform]
  obtain ⟨c3, c4, hc3, hc4, hasg⟩ := Cond.castable_spec hcast
  cases Option.some.inj (hc3.symm.trans hcl)
  obtain ⟨c5, hc5, hcl5⟩ := Cond.classLink_spec hown hlink e.platform hpl
  cases Option.some.inj (hc4.symm.trans hc5)
  obtain ⟨vm', X', st⟩ := X.thenCaughtThrough q (g := F0 m pc ls rest) rfl (Steps.refl _) (by rw [hT]; exact hcell) (by rw [hv]; rfl) (by obtain ⟨k9, h9, -⟩ := Vm.findClass_spec hcl; exact ⟨k9, h9⟩) pre x suf hsplit
    (fun z hz => by
      rcases hpass z hz with h | ⟨hz0, nm, hl1, hn1⟩
      · exact Or.inl h
      · obtain ⟨c6, hc6, hcl6⟩ := Cond.classLink_spec hown hl1 e.platform hpl
        obtain ⟨a8, b8, h1, h2, h3⟩ := hn1
        cases Option.some.inj (h1.symm.trans hcl)
        cases Option.some.inj (h2.symm.trans hc6)
        exact Or.inr ⟨hz0, _, hcl6, h3⟩) hx (Or.inr ⟨h0, c4, hcl5, hasg⟩)
  obtain ⟨t, a1, b1⟩ := kk (T.setVm vm') hT X'
  exact ⟨t, st.trans a1, b1⟩
end Rows
section Ends
variable {p : Program} {l : Launch} {e : Env} {R : Room} {s : State} {m : MethodId} {args : Array Value} {below : List Frame} {meth : Method} {c : Code} {H : Heap} {locs : List Loc} {cells slots : Nat} {Q : State → Prop}
variable {mc ms : Nat} {free : Addr → Prop} {A0 A1 : Nat → Prop} {H0 : Heap} {a : Array Value} {ls : Array Slot} {st0 rest : List Value}
variable {Qc : Array Value → State → Outcome → State → Prop} {XC : String → State → State → Prop}
/-- what a body that may throw owes at its end -/
def vx_MQ (below : List Frame) (Qc : Array Value → State → Outcome → State → Prop) (XC : String → State → State → Prop) (a : Array Value) (s : State) (mc ms : Nat) (free : Addr → Prop) : State → Prop := fun t =>
  ∃ o, t.status = .running ∧ Ended t below o ∧ vx_Q Qc XC mc ms free a s o t
theorem vx_ret {g : JFrame} {mc ms : Nat} (k : W p l e R s m args below meth c H locs cells slots (MQ below Qc args s mc ms free) g) : W p l e R s m args below meth c H locs cells slots (vx_MQ below Qc XC args s mc ms free) g := by
  intro T hT X
  obtain ⟨t, a1, o, b1, b2, b3, b4⟩ := k T hT X
  exact ⟨t, a1, o, b1, b2, Or.inl ⟨b3, b4⟩⟩
/-- not caught here: it goes on to the caller -/
theorem vx_widen {g : JFrame} {q : Addr} {k n : Nat} (h1 : cells ≤ k) (h2 : slots ≤ n) (kk : vx_W p l e R s m args below meth c H locs k n Q g q) : vx_W p l e R s m args below meth c H locs cells slots Q g q := fun T hT X => kk T hT (stand_widen X h1 h2)
theorem vx_out {pc : Nat} {E : String} {ce : Cell} {q : Addr} {mc ms : Nat} (hout : ∀ x ∈ c.exceptionTable.toList, covers x pc = false) (hlocks : meth.locks = false) (hcell : H[q]? = some ce) (hv : ce.vm = .none) (hcl : s.vm.findClass E = some ce.cls)
    (hx : ∀ t : State, t.heap = H → s.vm.Alike t.vm → XC E s t) (hf : ∀ z ∈ locs, free z.base) (hc : cells ≤ mc) (hs : slots ≤ ms) :
    vx_W p l e R s m args below meth c H locs cells slots (vx_MQ below Qc XC args s mc ms free) (F0 m pc ls rest) q := by
  intro T hT X
  obtain ⟨st1, hrun, hend, hW, hsm⟩ := X.leaveThrown q (g := F0 m pc ls rest) rfl rfl rfl hout hlocks
  have hcell9 : (T.setFrames (.throwing q :: below)).heap[q]? = some ce := by
    show T.heap[q]? = some ce
    rw [hT]; exact hcell
  exact ⟨_, st1, .threw q, hrun, hend, Or.inr ⟨q, rfl, E, ce, locs, hx _ hT hW.alike, hcell9, hv, hcl, hW, hsm.mono hc hs, hf⟩⟩
theorem vx_frame {U : State} {k n : Nat} (h : s.sameButNew ({ U with vm := s.vm } : State) locs k n) : s.heap.size ≤ U.heap.size ∧ ∀ q : Nat, q < s.heap.size → (∀ z ∈ locs, z.base ≠ q) → U.heap[q]? = s.heap[q]? := by
  obtain ⟨-, h2, -, -, -, h6⟩ := h
  refine ⟨h2, fun q hq hz => ?_⟩
  obtain ⟨c9, e1, e2, e3, e4⟩ := h6 q _ (Array.getElem?_eq_getElem hq)
  have hs : c9.slots = (s.heap[q]).slots := Array.ext_getElem? fun i => e4 i fun hm => hz _ hm rfl
  have h9 : c9 = s.heap[q] := by
    rw [hs] at e2
    exact e2
  have e5 : U.heap[q]? = some c9 := e1
  rw [e5, h9, Array.getElem?_eq_getElem hq]
/-- the words of a throw but the four that speak of the heap -/
def vx_no (w : Cond) : Bool := decide (w ≠ .isRef (.static Bundle.tN "UNASSIGNED_STACK" Bundle.steD)) && decide (w ≠ .isRef (.static Bundle.tN "SUPPRESSED_SENTINEL" Bundle.listD)) && decide (w ≠ .laysStatic Bundle.tN "UNASSIGNED_STACK" Bundle.steD) && decide (w ≠ .laysStatic Bundle.tN "SUPPRESSED_SENTINEL" Bundle.listD)
def vx_at0 (own : String) (ic : Nat) (X : String) (names : List String) : List Cond := (Bundle.ownAtoms0 own ic X names).filter vx_no
def vx_atS (own : String) (ic : Nat) (X : String) (names : List String) : List Cond := (Bundle.ownAtoms own ic X names).filter vx_no
/-- a word that the tables alone decide, or a good one -/
def vx_ot (w : Cond) : Bool := w.onTables || goodWord w
theorem vx_ot_at {args a' : Array Value} {s U : State} {w : Cond} (hW : s.WarmedH U.vm) (hvm : s.vm = U.vm) (hg : vx_ot w = true) (h : w.before args s = true) : w.before a' U = true := by
  simp only [vx_ot, Bool.or_eq_true] at hg
  rcases hg with hg | hg
  · exact va_tabs hg hvm h
  · exact word_at hW (good_of_word hg) h
/-- a list's words: the good ones out of the method's own list, the others by premises of their own -/
theorem vx_hat {args : Array Value} {s : State} {L B : List Cond} (h1 : ∀ w ∈ L.filter goodWord, w.before args s = true) (h2 : ∀ w ∈ L.filter (fun w => !goodWord w), w ∈ B) (h3 : ∀ w ∈ B, w.before args s = true) : ∀ w ∈ L, w.before args s = true := by
  intro w hw
  by_cases g : goodWord w = true
  · exact h1 w (List.mem_filter.mpr ⟨hw, g⟩)
  · refine h3 w (h2 w (List.mem_filter.mpr ⟨hw, ?_⟩))
    show (!goodWord w) = true
    cases hgw : goodWord w
    · rfl
    · exact absurd hgw g
theorem vx_c {args : Array Value} {s : State} {w : Cond} {B : List Cond} (h : w.before args s = true) (t : ∀ w ∈ B, w.before args s = true) : ∀ w' ∈ w :: B, w'.before args s = true := fun w' h' => (List.mem_cons.mp h').elim (fun e => by rw [e]; exact h) (t w')
theorem vx_n {args : Array Value} {s : State} : ∀ w ∈ ([] : List Cond), w.before args s = true := fun _ h => nomatch h
theorem vx_own {args : Array Value} {s : State} {L : List Cond} (h1 : ∀ w ∈ L.filter vx_no, w.before args s = true)
    (hU : (Cond.isRef (.static Bundle.tN "UNASSIGNED_STACK" Bundle.steD)).before args s = true) (hN : (Cond.isRef (.static Bundle.tN "SUPPRESSED_SENTINEL" Bundle.listD)).before args s = true)
    (lU : (Cond.laysStatic Bundle.tN "UNASSIGNED_STACK" Bundle.steD).before args s = true) (lN : (Cond.laysStatic Bundle.tN "SUPPRESSED_SENTINEL" Bundle.listD).before args s = true) : ∀ w ∈ L, w.before args s = true := by
  intro w hw
  by_cases e1 : w = .isRef (.static Bundle.tN "UNASSIGNED_STACK" Bundle.steD)
  · rw [e1]; exact hU
  · by_cases e2 : w = .isRef (.static Bundle.tN "SUPPRESSED_SENTINEL" Bundle.listD)
    · rw [e2]; exact hN
    · by_cases e3 : w = .laysStatic Bundle.tN "UNASSIGNED_STACK" Bundle.steD
      · rw [e3]; exact lU
      · by_cases e4 : w = .laysStatic Bundle.tN "SUPPRESSED_SENTINEL" Bundle.listD
        · rw [e4]; exact lN
        · exact h1 w (List.mem_filter.mpr ⟨hw, by unfold vx_no; rw [decide_eq_true e1, decide_eq_true e2, decide_eq_true e3, decide_eq_true e4]; rfl⟩)
/-- where a static field lies, its class's statics cell in H -/
def vx_L (C n d : String) (A : Nat → Prop) (U : State) (H : Heap) : Prop := ∃ (c : ClassId) (k : Class) (i : Nat) (f : Field) (a : Nat) (cell : Cell), U.vm.findClass C = some c ∧ U.fieldFound? C n d = some (c, k, i, f) ∧ f.isStatic = true ∧ k.statics = some a ∧ H[a]? = some cell ∧ cell.vm.isStatics = true ∧ cell.cls = c ∧ f.slot < cell.slots.size ∧ k.staticTypes[f.slot]? = some f.type ∧ ¬ A a
theorem vx_L.moved {C n d : String} {A : Nat → Prop} {u U : State} {H : Heap} (hvm : u.vm.Alike U.vm) (h : vx_L C n d A u H) : vx_L C n d A U H := by
  obtain ⟨c, k, i, f, a, cell, h1, h2, h3, h4, h5, h6, h7, h8, h9, h10⟩ := h
  obtain ⟨k', hi', he⟩ := State.fieldFound?_setVm hvm h2
  exact ⟨c, k', i, f, a, cell, by rw [hvm.findClass]; exact h1, hi', h3, by rw [he]; exact h4, h5, h6, h7, h8, by rw [he]; exact h9, h10⟩
theorem vx_L.kept {C n d : String} {A : Nat → Prop} {U : State} {H H1 : Heap} (h : vx_L C n d A U H) (hq : ∀ a : Nat, a < H.size → ¬ A a → H1[a]? = H[a]?) : vx_L C n d A U H1 := by
  obtain ⟨c, k, i, f, a, cell, h1, h2, h3, h4, h5, h6, h7, h8, h9, h10⟩ := h
  exact ⟨c, k, i, f, a, cell, h1, h2, h3, h4, by rw [hq a (Array.getElem?_eq_some_iff.mp h5).1 h10]; exact h5, h6, h7, h8, h9, h10⟩
theorem vx_L.narrow {C n d : String} {A B : Nat → Prop} {U : State} {H : Heap} (h : vx_L C n d A U H) (hAB : ∀ q, B q → A q) : vx_L C n d B U H := by
  obtain ⟨c, k, i, f, a, cell, h1, h2, h3, h4, h5, h6, h7, h8, h9, h10⟩ := h
  exact ⟨c, k, i, f, a, cell, h1, h2, h3, h4, h5, h6, h7, h8, h9, fun z => h10 (hAB _ z)⟩
theorem vx_L.word {C n d : String} {A : Nat → Prop} {s : State} {args : Array Value} (h : vx_L C n d A s s.heap) : (Cond.laysStatic C n d).before args s = true := by
  obtain ⟨c, k, i, f, a, cell, h1, h2, h3, h4, h5, h6, h7, h8, h9, -⟩ := h
  show (Cond.laysStatic C n d).holds args s none s [] = true
  exact Cond.laysStatic_of h1 h2 h3 h4 h5 h6 h7 h8 h9
/-- .. and what it holds: null or some reference -/
def vx_Zq (C n d : String) (A : Nat → Prop) (U : State) (H : Heap) : Prop := va_Zq C n d A U H ∧ vx_L C n d A U H
theorem vx_Zq.moved {C n d : String} {A : Nat → Prop} {u U : State} {H : Heap} (hvm : u.vm.Alike U.vm) (h : vx_Zq C n d A u H) : vx_Zq C n d A U H := ⟨va_Zq.moved hvm h.1, vx_L.moved hvm h.2⟩
theorem vx_Zq.kept {C n d : String} {A : Nat → Prop} {U : State} {H H1 : Heap} (h : vx_Zq C n d A U H) (hq : ∀ a : Nat, a < H.size → ¬ A a → H1[a]? = H[a]?) : vx_Zq C n d A U H1 := ⟨va_Zq.kept h.1 hq, vx_L.kept h.2 hq⟩
theorem vx_Zq.narrow {C n d : String} {A B : Nat → Prop} {U : State} {H : Heap} (h : vx_Zq C n d A U H) (hAB : ∀ q, B q → A q) : vx_Zq C n d B U H := ⟨va_Zq.narrow h.1 hAB, vx_L.narrow h.2 hAB⟩
theorem vx_Zqof {args : Array Value} {s : State} {C n d : String} {A : Nat → Prop} (hl : (Cond.laysStatic C n d).before args s = true) (hini : (Cond.initialized C).before args s = true) (h : (Cond.isRef (.static C n d)).before args s = true) (hA : ∀ a : Nat, a < s.heap.size → ¬ A a) : vx_Zq C n d A s s.heap := by
  refine ⟨va_Zqof hl hini h hA, ?_⟩
  obtain ⟨c, k, i, f, a, cell, h1, h2, h3, h4, h5, h6, h7, h8, h9⟩ := Cond.laysStatic_spec hl
  exact ⟨c, k, i, f, a, cell, h1, h2, h3, h4, h5, h6, h7, h8, h9, hA a (Array.getElem?_eq_some_iff.mp h5).1⟩
theorem vx_isRef {C n d : String} {v : Value} {A : Nat → Prop} {s : State} {args : Array Value} (h : va_Z C n d v A s s.heap) (hv : v.isRef = true) : (Cond.isRef (.static C n d)).before args s = true := by
  obtain ⟨cf, kf, fi, f, a, cell, h1, h2, h3, h4, h5, h6, h7, -⟩ := h
  have he : (Term.static C n d).eval args s none [] s = some v := by
    simp [Term.eval, State.fieldNamed?, h1, h2, h4, h5, h6, h7]
  simp only [Cond.before, Cond.holds, Cond.value, he]
  cases v <;> simp_all [Value.isRef]
theorem vx_isRefq {C n d : String} {A : Nat → Prop} {s : State} {args : Array Value} (h : va_Zq C n d A s s.heap) : (Cond.isRef (.static C n d)).before args s = true := by
  rcases h with h | ⟨t, h⟩
  · exact vx_isRef h rfl
  · exact vx_isRef h rfl
/-- the same frame, seen from here: as if the method were called anew in this heap -/
theorem vx_rebase {T : State} (X : Stand p l e R s m args below meth c T locs cells slots) {R' : Room} (hf : R'.frames ≤ R.frames) (hl : R'.locals ≤ R.locals) (hc : cells + R'.cells ≤ R.cells) (hs : slots + R'.slots ≤ R.slots) :
    Stand p l e R' ((T.setVm s.vm).setFrames (.invoking m args :: below)) m args below meth c T [] 0 0 := by
  have htop : (T.setVm s.vm).topJava?.isSome := X.here.top
  have hF : ((T.setVm s.vm).setFrames (.invoking m args :: below)).frames = .invoking m args :: below := State.frames_setFrames _ (State.cur_lt_of_top htop)
  obtain ⟨g₀, hg0⟩ := Option.isSome_iff_exists.mp htop
  obtain ⟨r, hr⟩ := State.topJava?_eq_some.mp hg0
  have hl9 : e.platform.stackLimits (T.setVm s.vm).me = e.platform.stackLimits s.me := X.limits
  have hb9 : (T.setVm s.vm).me.stackBytes = s.me.stackBytes := X.bytes
  refine ⟨X.admits, X.cas, X.clock, hF, ?_, X.hears, X.method, X.code, X.here, X.tail, X.warmed, ?_, ?_, ?_⟩
  · have h := X.room
    have hU : ((T.setVm s.vm).setFrames (.invoking m args :: below)).localsInUse = s.localsInUse := by
      rw [State.localsInUse_invoking hF (meth := meth) (c := c) X.method X.code, State.localsInUse_invoking X.frames X.method X.code]
    simp only [State.hasRoom, Bool.and_eq_true, decide_eq_true_eq] at h ⊢
    obtain ⟨⟨⟨⟨h1, h2, h3, h4, h5, h6⟩, h7⟩, h8⟩, h9⟩ := h
    rw [X.frames, List.length_cons] at h2 h3
    have q1 := X.heapSize
    have q2 := X.used
    simp only [hF, hU, List.length_cons, State.stackLimits_setFrames, State.stackBytes_setFrames, hl9, hb9]
    refine ⟨⟨⟨⟨by omega, by omega, by omega, by omega, by omega, h6⟩, ?_⟩, ?_⟩, X.book⟩
    · show T.heap.size + R'.cells ≤ e.platform.maxCells
      omega
    · show T.slotsUsed + R'.slots ≤ e.platform.maxSlots
      omega
  · rw [State.stackLimits_setFrames]; rfl
  · rw [State.stackBytes_setFrames]; rfl
  · refine ⟨?_, Nat.le_refl _, Nat.le_refl _, ?_, ?_, fun a c9 h9 => ⟨c9, h9, rfl, rfl, fun _ _ => rfl⟩⟩
    · obtain ⟨t, ht, -⟩ := State.frames_cons hr
      show T.setVm s.vm = { ((T.setVm s.vm).setFrames (.invoking m args :: below)).setFrames (T.setVm s.vm).frames with heap := T.heap, slotsUsed := T.slotsUsed }
      rw [State.setFrames_setFrames, State.setFrames_self ht]
      rfl
    · show T.slotsUsed = T.slotsUsed + ((T.heap.toList.drop T.heap.size).map (·.slots.size)).sum
      rw [List.drop_eq_nil_of_le (Nat.le_of_eq Array.length_toList)]
      rfl
    · show ((T.heap.toList.drop T.heap.size).map (·.slots.size)).sum ≤ 0
      rw [List.drop_eq_nil_of_le (Nat.le_of_eq Array.length_toList)]
      exact Nat.le_refl _
/-- 'throw new E()': new; dup; invokespecial; athrow -/
theorem vx_throw0 {cc : ByteArray} {pc : Nat} (hexec : p.tables.exec = Jvm.exec) (hb : c.code = cc) (hl : l.stackTraces = false) {own cls : String} {names : List String} {ik ic mc ms : Nat} {A : Nat → Prop}
    (hown : s.vm.findClass own = some m.cls) (hcls : Bundle.fit cls = true) (hnames : ∀ n ∈ names, Bundle.fit n = true)
    (hk : (Cond.classLink own ik cls).before args s = true) (hini : (Cond.initialized cls).before args s = true) (hat : ∀ w ∈ vx_at0 own ic cls names, w.before args s = true)
    (hgood : ∀ w ∈ Cond.classLink own ik cls :: Cond.initialized cls :: vx_at0 own ic cls names, vx_ot w = true)
    (hU : vx_Zq Bundle.tN "UNASSIGNED_STACK" Bundle.steD A s s.heap) (hN : vx_Zq Bundle.tN "SUPPRESSED_SENTINEL" Bundle.listD A s s.heap) (hS : va_S A s.heap H locs) (hsize : ls.size = c.maxLocals)
    (d0 : decode cc pc = .ok (.new ik, 3)) (d3 : decode cc (pc + 3) = .ok (.dup, 1)) (d4 : decode cc (pc + 4) = .ok (.invokespecial ic, 3)) (d7 : decode cc (pc + 7) = .ok (.athrow, 1))
    (hout : ∀ x ∈ c.exceptionTable.toList, covers x (pc + 7) = false)
    (hRframes : names.length + 3 < R.frames) (hRlocals : (rest.map fun v => v.category).sum + (13 * (names.length + 1) + 42) ≤ R.locals) (hRcells : cells + 1 ≤ R.cells) (hRslots : slots + 6 ≤ R.slots) (hlocks : meth.locks = false)
    (hx : ∀ t : State, s.vm.Alike t.vm → H.size ≤ t.heap.size → (∀ q : Nat, q < H.size → t.heap[q]? = H[q]?) → XC cls s t)
    (hf : ∀ z ∈ locs, free z.base) (hc : cells + 1 ≤ mc) (hs : slots + 6 ≤ ms) :
    W p l e R s m args below meth c H locs cells slots (vx_MQ below Qc XC args s mc ms free) (F0 m pc ls rest) := by
  intro T hT X
  have htr : e.platform.stackTraces = false := (show e.platform.stackTraces = l.stackTraces by rw [X.admits.platform]).trans hl
  have Y := vx_rebase X (R' := { frames := R.frames, locals := R.locals, cells := 1, slots := 6 }) (Nat.le_refl _) (Nat.le_refl _) hRcells hRslots
  obtain ⟨s', hA⟩ : ∃ z, z = (T.setVm s.vm).setFrames (.invoking m args :: below) := ⟨_, rfl⟩
  rw [← hA] at Y
  have hvm : s'.vm = s.vm := by rw [hA]; rfl
  have hhp : s'.heap = H := by rw [hA]; exact hT
  have hW0 : s.WarmedH s'.vm := by rw [hvm]; exact State.WarmedH.refl s
  have hat' : ∀ w ∈ vx_at0 own ic cls names, w.before args s' = true := fun w hw => vx_ot_at hW0 hvm.symm (hgood w (List.mem_cons_of_mem _ (List.mem_cons_of_mem _ hw))) (hat w hw)
  have hk' : (Cond.classLink own ik cls).before args s' = true := vx_ot_at hW0 hvm.symm (hgood _ List.mem_cons_self) hk
  have hini' : (Cond.initialized cls).before args s' = true := vx_ot_at hW0 hvm.symm (hgood _ (List.mem_cons_of_mem _ List.mem_cons_self)) hini
  have hU' : vx_Zq Bundle.tN "UNASSIGNED_STACK" Bundle.steD A s' s'.heap := by rw [hhp]; exact vx_Zq.moved hW0.alike (hU.kept hS.2.1)
  have hN' : vx_Zq Bundle.tN "SUPPRESSED_SENTINEL" Bundle.listD A s' s'.heap := by rw [hhp]; exact vx_Zq.moved hW0.alike (hN.kept hS.2.1)
  have h : ∀ w ∈ Bundle.ownAtoms0 own ic cls names, w.before args s' = true := vx_own hat' (vx_isRefq hU'.1) (vx_isRefq hN'.1) hU'.2.word hN'.2.word
  have hown' : s'.vm.findClass own = some m.cls := by rw [hvm]; exact hown
  have hins : (Cond.instantiable cls 6).before args s' = true := h _ (by simp [Bundle.ownAtoms0])
  obtain ⟨vm₁, cX, kX, hfX, hkX, -, -, X₁, st1⟩ := Y.newCold hexec (own := own) (C := cls) (index := ik) (n := 6) hown' hk' hins hini'
    (g := F0 m pc ls rest) rfl (by rw [hb]; exact d0) (Nat.le_refl _) (Nat.le_refl _)
  generalize hT1 : (T.setVm vm₁).pushCell { cls := cX, slots := kX.instanceTypes.map defaultValue, vm := .none } = T1 at X₁ st1
  have hcat : (Value.ref T.heap.size).category = 1 := rfl
  have hcellA : T1.heap[T.heap.size]? = some (freshCell cX kX) := by rw [← hT1]; exact State.heap_pushCell_size _ _
  have d3' : decode c.code (pc + 3) = .ok (.dup, 1) := by rw [hb]; exact d3
  obtain ⟨U, hsteps, hrun, hend, hW, hsame, ce, hce, hO⟩ := X₁.ctorThrow0 hexec htr (own := own) (cls := cls) (names := names) (ic := ic) hown' hcls hnames h (fun x hx => nomatch hx) hfX hkX hcellA (by rw [hhp, hT]; exact Nat.le_refl _)
    (g := { method := m, pc := pc + 4, locals := ls, stack := .ref T.heap.size :: .ref T.heap.size :: rest, locked := none }) rfl hsize rfl rfl (rest := rest) rfl
    (by rw [hb]; exact d4) (by rw [hb]; exact d7) hout hRframes (by simp only [List.map_cons, List.sum_cons, hcat]; omega) hlocks
  obtain ⟨f1, f2⟩ := vx_frame hsame
  rw [hhp] at f1 f2
  have hWs : s.WarmedH U.vm := State.WarmedH.trans hW0 hW
  have hcl : s.vm.findClass cls = some ce.cls := by
    have h9 := hO.cls
    rw [hvm] at h9
    exact h9
  have hall : s.sameButNew ({ U with vm := s.vm } : State) locs mc ms := by
    subst hA
    obtain ⟨e1, e2⟩ := hsame
    rw [State.setFrames_setFrames] at e1
    have h2 : (T.setVm s.vm).sameButNew ({ U with vm := s.vm } : State) [] (0 + 1) (0 + 6) := ⟨e1, e2⟩
    have h3 := X.same.trans h2
    rw [List.append_nil] at h3
    exact h3.mono hc hs
  refine ⟨U, ?_, .threw T.heap.size, hrun, hend, Or.inr ⟨T.heap.size, rfl, cls, ce, locs, hx U hWs.alike f1 (fun q hq => f2 q hq (fun z hz => nomatch hz)), hce, hO.vm, hcl, hWs, hall, hf⟩⟩
  refine st1 _ ?_
  show Steps p.tables e below (T1.setTop { method := m, pc := pc + 3, locals := ls, stack := .ref T.heap.size :: rest, locked := none }) _
  jvm_step X₁.here [X₁.here.top, hexec, d3', Value.category]
  exact hsteps
/-- 'throw new E("text")': new; dup; ldc; invokespecial; athrow -/
theorem vx_throwS {cc : ByteArray} {pc : Nat} (hexec : p.tables.exec = Jvm.exec) (hb : c.code = cc) (hl : l.stackTraces = false) {own cls text : String} {names : List String} {ik is ic mc ms sa : Nat} {A : Nat → Prop}
    (hown : s.vm.findClass own = some m.cls) (hcls : Bundle.fit cls = true) (hnames : ∀ n ∈ names, Bundle.fit n = true)
    (hk : (Cond.classLink own ik cls).before args s = true) (hini : (Cond.initialized cls).before args s = true) (hstr : vk_R own is text sa s) (hat : ∀ w ∈ vx_atS own ic cls names, w.before args s = true)
    (hgood : ∀ w ∈ Cond.classLink own ik cls :: Cond.initialized cls :: vx_atS own ic cls names, vx_ot w = true)
    (hU : vx_Zq Bundle.tN "UNASSIGNED_STACK" Bundle.steD A s s.heap) (hN : vx_Zq Bundle.tN "SUPPRESSED_SENTINEL" Bundle.listD A s s.heap) (hS : va_S A s.heap H locs) (hsize : ls.size = c.maxLocals)
    (d0 : decode cc pc = .ok (.new ik, 3)) (d3 : decode cc (pc + 3) = .ok (.dup, 1)) (d4 : decode cc (pc + 4) = .ok (.ldc is, 2)) (d6 : decode cc (pc + 6) = .ok (.invokespecial ic, 3)) (d9 : decode cc (pc + 9) = .ok (.athrow, 1))
    (hout : ∀ x ∈ c.exceptionTable.toList, covers x (pc + 9) = false)
    (hRframes : names.length + 3 < R.frames) (hRlocals : (rest.map fun v => v.category).sum + (13 * (names.length + 1) + 43) ≤ R.locals) (hRcells : cells + 1 ≤ R.cells) (hRslots : slots + 6 ≤ R.slots) (hlocks : meth.locks = false)
    (hx : ∀ t : State, s.vm.Alike t.vm → H.size ≤ t.heap.size → (∀ q : Nat, q < H.size → t.heap[q]? = H[q]?) → XC cls s t)
    (hf : ∀ z ∈ locs, free z.base) (hc : cells + 1 ≤ mc) (hs : slots + 6 ≤ ms) :
    W p l e R s m args below meth c H locs cells slots (vx_MQ below Qc XC args s mc ms free) (F0 m pc ls rest) := by
  intro T hT X
  have htr : e.platform.stackTraces = false := (show e.platform.stackTraces = l.stackTraces by rw [X.admits.platform]).trans hl
  have Y := vx_rebase X (R' := { frames := R.frames, locals := R.locals, cells := 1, slots := 6 }) (Nat.le_refl _) (Nat.le_refl _) hRcells hRslots
  obtain ⟨s', hA⟩ : ∃ z, z = (T.setVm s.vm).setFrames (.invoking m args :: below) := ⟨_, rfl⟩
  rw [← hA] at Y
  have hvm : s'.vm = s.vm := by rw [hA]; rfl
  have hhp : s'.heap = H := by rw [hA]; exact hT
  have hW0 : s.WarmedH s'.vm := by rw [hvm]; exact State.WarmedH.refl s
  have hat' : ∀ w ∈ vx_atS own ic cls names, w.before args s' = true := fun w hw => vx_ot_at hW0 hvm.symm (hgood w (List.mem_cons_of_mem _ (List.mem_cons_of_mem _ hw))) (hat w hw)
  have hk' : (Cond.classLink own ik cls).before args s' = true := vx_ot_at hW0 hvm.symm (hgood _ List.mem_cons_self) hk
  have hini' : (Cond.initialized cls).before args s' = true := vx_ot_at hW0 hvm.symm (hgood _ (List.mem_cons_of_mem _ List.mem_cons_self)) hini
  have hU' : vx_Zq Bundle.tN "UNASSIGNED_STACK" Bundle.steD A s' s'.heap := by rw [hhp]; exact vx_Zq.moved hW0.alike (hU.kept hS.2.1)
  have hN' : vx_Zq Bundle.tN "SUPPRESSED_SENTINEL" Bundle.listD A s' s'.heap := by rw [hhp]; exact vx_Zq.moved hW0.alike (hN.kept hS.2.1)
  have h : ∀ w ∈ Bundle.ownAtoms own ic cls names, w.before args s' = true := vx_own hat' (vx_isRefq hU'.1) (vx_isRefq hN'.1) hU'.2.word hN'.2.word
  have hown' : s'.vm.findClass own = some m.cls := by rw [hvm]; exact hown
  have hins : (Cond.instantiable cls 6).before args s' = true := h _ (by simp [Bundle.ownAtoms])
  obtain ⟨vm₁, cX, kX, hfX, hkX, -, -, X₁, st1⟩ := Y.newCold hexec (own := own) (C := cls) (index := ik) (n := 6) hown' hk' hins hini'
    (g := F0 m pc ls rest) rfl (by rw [hb]; exact d0) (Nat.le_refl _) (Nat.le_refl _)
  generalize hT1 : (T.setVm vm₁).pushCell { cls := cX, slots := kX.instanceTypes.map defaultValue, vm := .none } = T1 at X₁ st1
  have hcat : (Value.ref T.heap.size).category = 1 := rfl
  have hcellA : T1.heap[T.heap.size]? = some (freshCell cX kX) := by rw [← hT1]; exact State.heap_pushCell_size _ _
  have d3' : decode c.code (pc + 3) = .ok (.dup, 1) := by rw [hb]; exact d3
  have d4' : decode c.code (pc + 4) = .ok (.ldc is, 2) := by rw [hb]; exact d4
  have hstr' : vk_R own is text sa s' := vk_R.warm hW0 hstr
  obtain ⟨U, hsteps, hrun, hend, hW, hsame, ce, hce, hO⟩ := X₁.ctorThrowS hexec htr (own := own) (cls := cls) (names := names) (ic := ic) hown' hcls hnames h (fun x hx => nomatch hx) hfX hkX hcellA (by rw [hhp, hT]; exact Nat.le_refl _) (msg := .ref sa) rfl
    (g := { method := m, pc := pc + 6, locals := ls, stack := .ref sa :: .ref T.heap.size :: .ref T.heap.size :: rest, locked := none }) rfl hsize rfl rfl (rest := rest) rfl
    (by rw [hb]; exact d6) (by rw [hb]; exact d9) hout hRframes (by simp only [List.map_cons, List.sum_cons, hcat]; omega) hlocks
  obtain ⟨f1, f2⟩ := vx_frame hsame
  rw [hhp] at f1 f2
  have hWs : s.WarmedH U.vm := State.WarmedH.trans hW0 hW
  have hcl : s.vm.findClass cls = some ce.cls := by
    have h9 := hO.cls
    rw [hvm] at h9
    exact h9
  have hall : s.sameButNew ({ U with vm := s.vm } : State) locs mc ms := by
    subst hA
    obtain ⟨e1, e2⟩ := hsame
    rw [State.setFrames_setFrames] at e1
    have h2 : (T.setVm s.vm).sameButNew ({ U with vm := s.vm } : State) [] (0 + 1) (0 + 6) := ⟨e1, e2⟩
    have h3 := X.same.trans h2
    rw [List.append_nil] at h3
    exact h3.mono hc hs
  refine ⟨U, ?_, .threw T.heap.size, hrun, hend, Or.inr ⟨T.heap.size, rfl, cls, ce, locs, hx U hWs.alike f1 (fun q hq => f2 q hq (fun z hz => nomatch hz)), hce, hO.vm, hcl, hWs, hall, hf⟩⟩
  refine st1 _ ?_
  show Steps p.tables e below (T1.setTop { method := m, pc := pc + 3, locals := ls, stack := .ref T.heap.size :: rest, locked := none }) _
  jvm_step X₁.here [X₁.here.top, hexec, d3', Value.category]
  exact X₁.ldcString hexec (own := own) (text := text) (index := is) (a := sa) hown' hstr'.1 hstr'.2
    (g := { method := m, pc := pc + 4, locals := ls, stack := .ref T.heap.size :: .ref T.heap.size :: rest, locked := none }) rfl d4' _ hsteps
/-- 'throw new E("text")', the text by a wide index -/
theorem vx_throwSW {cc : ByteArray} {pc : Nat} (hexec : p.tables.exec = Jvm.exec) (hb : c.code = cc) (hl : l.stackTraces = false) {own cls text : String} {names : List String} {ik is ic mc ms sa : Nat} {A : Nat → Prop}
    (hown : s.vm.findClass own = some m.cls) (hcls : Bundle.fit cls = true) (hnames : ∀ n ∈ names, Bundle.fit n = true)
    (hk : (Cond.classLink own ik cls).before args s = true) (hini : (Cond.initialized cls).before args s = true) (hstr : vk_R own is text sa s) (hat : ∀ w ∈ vx_atS own ic cls names, w.before args s = true)
    (hgood : ∀ w ∈ Cond.classLink own ik cls :: Cond.initialized cls :: vx_atS own ic cls names, vx_ot w = true)
    (hU : vx_Zq Bundle.tN "UNASSIGNED_STACK" Bundle.steD A s s.heap) (hN : vx_Zq Bundle.tN "SUPPRESSED_SENTINEL" Bundle.listD A s s.heap) (hS : va_S A s.heap H locs) (hsize : ls.size = c.maxLocals)
    (d0 : decode cc pc = .ok (.new ik, 3)) (d3 : decode cc (pc + 3) = .ok (.dup, 1)) (d4 : decode cc (pc + 4) = .ok (.ldc_w is, 3)) (d7 : decode cc (pc + 7) = .ok (.invokespecial ic, 3)) (d10 : decode cc (pc + 10) = .ok (.athrow, 1))
    (hout : ∀ x ∈ c.exceptionTable.toList, covers x (pc + 10) = false)
    (hRframes : names.length + 3 < R.frames) (hRlocals : (rest.map fun v => v.category).sum + (13 * (names.length + 1) + 43) ≤ R.locals) (hRcells : cells + 1 ≤ R.cells) (hRslots : slots + 6 ≤ R.slots) (hlocks : meth.locks = false)
    (hx : ∀ t : State, s.vm.Alike t.vm → H.size ≤ t.heap.size → (∀ q : Nat, q < H.size → t.heap[q]? = H[q]?) → XC cls s t)
    (hf : ∀ z ∈ locs, free z.base) (hc : cells + 1 ≤ mc) (hs : slots + 6 ≤ ms) :
    W p l e R s m args below meth c H locs cells slots (vx_MQ below Qc XC args s mc ms free) (F0 m pc ls rest) := by
  intro T hT X
  have htr : e.platform.stackTraces = false := (show e.platform.stackTraces = l.stackTraces by rw [X.admits.platform]).trans hl
  have Y := vx_rebase X (R' := { frames := R.frames, locals := R.locals, cells := 1, slots := 6 }) (Nat.le_refl _) (Nat.le_refl _) hRcells hRslots
  obtain ⟨s', hA⟩ : ∃ z, z = (T.setVm s.vm).setFrames (.invoking m args :: below) := ⟨_, rfl⟩
  rw [← hA] at Y
  have hvm : s'.vm = s.vm := by rw [hA]; rfl
  have hhp : s'.heap = H := by rw [hA]; exact hT
  have hW0 : s.WarmedH s'.vm := by rw [hvm]; exact State.WarmedH.refl s
  have hat' : ∀ w ∈ vx_atS own ic cls names, w.before args s' = true := fun w hw => vx_ot_at hW0 hvm.symm (hgood w (List.mem_cons_of_mem _ (List.mem_cons_of_mem _ hw))) (hat w hw)
  have hk' : (Cond.classLink own ik cls).before args s' = true := vx_ot_at hW0 hvm.symm (hgood _ List.mem_cons_self) hk
  have hini' : (Cond.initialized cls).before args s' = true := vx_ot_at hW0 hvm.symm (hgood _ (List.mem_cons_of_mem _ List.mem_cons_self)) hini
  have hU' : vx_Zq Bundle.tN "UNASSIGNED_STACK" Bundle.steD A s' s'.heap := by rw [hhp]; exact vx_Zq.moved hW0.alike (hU.kept hS.2.1)
  have hN' : vx_Zq Bundle.tN "SUPPRESSED_SENTINEL" Bundle.listD A s' s'.heap := by rw [hhp]; exact vx_Zq.moved hW0.alike (hN.kept hS.2.1)
  have h : ∀ w ∈ Bundle.ownAtoms own ic cls names, w.before args s' = true := vx_own hat' (vx_isRefq hU'.1) (vx_isRefq hN'.1) hU'.2.word hN'.2.word
  have hown' : s'.vm.findClass own = some m.cls := by rw [hvm]; exact hown
  have hins : (Cond.instantiable cls 6).before args s' = true := h _ (by simp [Bundle.ownAtoms])
  obtain ⟨vm₁, cX, kX, hfX, hkX, -, -, X₁, st1⟩ := Y.newCold hexec (own := own) (C := cls) (index := ik) (n := 6) hown' hk' hins hini'
    (g := F0 m pc ls rest) rfl (by rw [hb]; exact d0) (Nat.le_refl _) (Nat.le_refl _)
  generalize hT1 : (T.setVm vm₁).pushCell { cls := cX, slots := kX.instanceTypes.map defaultValue, vm := .none } = T1 at X₁ st1
  have hcat : (Value.ref T.heap.size).category = 1 := rfl
  have hcellA : T1.heap[T.heap.size]? = some (freshCell cX kX) := by rw [← hT1]; exact State.heap_pushCell_size _ _
  have d3' : decode c.code (pc + 3) = .ok (.dup, 1) := by rw [hb]; exact d3
  have d4' : decode c.code (pc + 4) = .ok (.ldc_w is, 3) := by rw [hb]; exact d4
  have hstr' : vk_R own is text sa s' := vk_R.warm hW0 hstr
  obtain ⟨U, hsteps, hrun, hend, hW, hsame, ce, hce, hO⟩ := X₁.ctorThrowS hexec htr (own := own) (cls := cls) (names := names) (ic := ic) hown' hcls hnames h (fun x hx => nomatch hx) hfX hkX hcellA (by rw [hhp, hT]; exact Nat.le_refl _) (msg := .ref sa) rfl
    (g := { method := m, pc := pc + 7, locals := ls, stack := .ref sa :: .ref T.heap.size :: .ref T.heap.size :: rest, locked := none }) rfl hsize rfl rfl (rest := rest) rfl
    (by rw [hb]; exact d7) (by rw [hb]; exact d10) hout hRframes (by simp only [List.map_cons, List.sum_cons, hcat]; omega) hlocks
  obtain ⟨f1, f2⟩ := vx_frame hsame
  rw [hhp] at f1 f2
  have hWs : s.WarmedH U.vm := State.WarmedH.trans hW0 hW
  have hcl : s.vm.findClass cls = some ce.cls := by
    have h9 := hO.cls
    rw [hvm] at h9
    exact h9
  have hall : s.sameButNew ({ U with vm := s.vm } : State) locs mc ms := by
    subst hA
    obtain ⟨e1, e2⟩ := hsame
    rw [State.setFrames_setFrames] at e1
    have h2 : (T.setVm s.vm).sameButNew ({ U with vm := s.vm } : State) [] (0 + 1) (0 + 6) := ⟨e1, e2⟩
    have h3 := X.same.trans h2
    rw [List.append_nil] at h3
    exact h3.mono hc hs
  refine ⟨U, ?_, .threw T.heap.size, hrun, hend, Or.inr ⟨T.heap.size, rfl, cls, ce, locs, hx U hWs.alike f1 (fun q hq => f2 q hq (fun z hz => nomatch hz)), hce, hO.vm, hcl, hWs, hall, hf⟩⟩
  refine st1 _ ?_
  show Steps p.tables e below (T1.setTop { method := m, pc := pc + 3, locals := ls, stack := .ref T.heap.size :: rest, locked := none }) _
  jvm_step X₁.here [X₁.here.top, hexec, d3', Value.category]
  exact X₁.ldcStringW hexec (own := own) (text := text) (index := is) (a := sa) hown' hstr'.1 hstr'.2
    (g := { method := m, pc := pc + 4, locals := ls, stack := .ref T.heap.size :: .ref T.heap.size :: rest, locked := none }) rfl d4' _ hsteps
end Ends
section Bodies
variable {l : Launch}
theorem vx_ofW {y : MethodName} {ws ws' : List Cond} {rm : Room} {Pc : Array Value → State → Prop} {Qc : Array Value → State → Outcome → State → Prop} {XC : String → State → State → Prop} {mc ms : Nat} {free : Addr → Prop} {cc : ByteArray} {maxL : Nat} {ret : Option FieldType}
    (hy : plainName y.cls = true) (hw : ws = Cond.code y cc maxL ret :: ws')
    (body : ∀ p e s m args below meth c s₁, BodyLoose p l y (headSpec ws rm) cc maxL ret e s m args below meth c s₁ → c.maxLocals = maxL → (∀ x ∈ c.exceptionTable.toList, False) → Pc args s →
      W p l e (headSpec ws rm).room s m args below meth c s.heap [] 0 0 (vx_MQ below Qc XC args s mc ms free) (entryFrame m args maxL)) : vx_Met l y ws rm Pc Qc XC mc ms free := by
  refine MetFree.of_bodyS (code := cc) (maxLocals := maxL) (ret := ret) hy ?_ ?_
  · intro args s m h hn
    obtain ⟨meth, c, h1, h2, h3, h4, h5, h6, -, -⟩ := Cond.code_spec hn (atoms_spec (ws := ws) h _ (by rw [hw]; exact List.mem_cons_self))
    exact ⟨meth, c, h1, h2, h3, h4, h5, h6⟩
  · intro p e s m args below meth c s₁ B hml hP _
    have hh0 : s₁.heap = s.heap := by rw [B.state]; rfl
    have ht : ∀ x ∈ c.exceptionTable.toList, False := by
      obtain ⟨meth9, c9, h1, h2, -, -, -, -, h7, -⟩ := Cond.code_spec B.named (atoms_spec (ws := ws) B.pre _ (by rw [hw]; exact List.mem_cons_self))
      cases Option.some.inj (h1.symm.trans B.method)
      cases Option.some.inj (h2.symm.trans (Stand.of_body B).code)
      intro x hx
      rw [Array.isEmpty_iff.mp h7] at hx
      cases hx
    obtain ⟨t, a1, o, b1, b2, b3⟩ := body p e s m args below meth c s₁ B hml ht hP s₁ hh0 (Stand.of_body B)
    exact ⟨t, o, a1, b1, b2, b3⟩
/-- the table of a body with handlers -/
theorem vx_table {p : Program} {x y : MethodName} {S : Spec} {cc bytes : ByteArray} {maxL maxL' : Nat} {ret ret' : Option FieldType} {e : Env} {s s₁ : State} {m : MethodId} {args : Array Value} {below : List Frame} {meth : Method} {c : Code} {hh : List (Nat × Nat × Nat × Nat)}
    (B : BodyLoose p l y S cc maxL ret e s m args below meth c s₁) (h : (Cond.codeWith y bytes maxL' ret' hh).before args s = true) : c.exceptionTable.toList = tableOf hh := by
  obtain ⟨m9, meth9, c9, hn9, h1, h2, -, -, h6, -⟩ := Cond.codeWith_spec h
  cases Option.some.inj (hn9.symm.trans B.named)
  cases Option.some.inj (h1.symm.trans B.method)
  cases Option.some.inj (h2.symm.trans (Stand.of_body B).code)
  rw [← h6, table_eq]
end Bodies
end VXA
/-! ===== END ===== -/
/-! ===== BEGIN a static call of a method with an exception table ===== -/
section VXS
variable {p : Program} {l : Launch} {e : Env} {R : Room} {s : State} {m : MethodId} {args : Array Value} {below : List Frame} {meth : Method} {c : Code} {T : State} {H : Heap} {locs : List Loc} {cells slots : Nat}
abbrev vx_CSW (R : Room) (s : State) (args : Array Value) (own : String) (index : Nat) (y : MethodName) (bytes : ByteArray) (maxL : Nat) (ret : Option FieldType) (hh : List (Nat × Nat × Nat × Nat)) (ws : List Cond) (rm : Room) (mc ms n : Nat) : Prop :=
  (rm.cells = mc ∧ rm.slots = ms ∧ rm.frames + 1 ≤ R.frames ∧ 8 + (maxL + 11) + rm.locals ≤ R.locals ∧ (∀ w ∈ ws, ∀ (a' : Array Value) (U : State), s.WarmedH U.vm → w.before a' U = true) ∧ Cond.codeWith y bytes maxL ret hh ∈ ws) ∧
  (Cond.codeWith y bytes maxL ret hh).before args s = true ∧ (Cond.initialized y.cls).before args s = true ∧ (y.cls ≠ "java/lang/invoke/MethodHandle" ∧ y.cls ≠ "java/lang/invoke/VarHandle") ∧
  (∀ sig, parseMethodDescriptor y.desc = some sig → n = sig.parameters.length) ∧ (Cond.methodLink own index y).before args s = true ∧ (Cond.static y).before args s = true
theorem vx_cwSW {own : String} {index maxL mc ms : Nat} {y : MethodName} {bytes : ByteArray} {ret : Option FieldType} {hh : List (Nat × Nat × Nat × Nat)} {Ts ws ws' : List Cond} {rm : Room} (n : Nat) (ht : ∀ w ∈ Ts, w.before args s = true) (hT : GoodIn Ts (va_wsS own index y ws)) (hw : ws = Cond.codeWith y bytes maxL ret hh :: ws') (hrc : rm.cells = mc) (hrs : rm.slots = ms)
    (hd : y.cls ≠ "java/lang/invoke/MethodHandle" ∧ y.cls ≠ "java/lang/invoke/VarHandle" ∧ (parseMethodDescriptor y.desc).map (fun d => d.parameters.length) = some n) (hR : rm.frames + 1 ≤ R.frames ∧ 8 + (maxL + 11) + rm.locals ≤ R.locals) :
    vx_CSW R s args own index y bytes maxL ret hh ws rm mc ms n := by
  have ok : ∀ w ∈ va_wsS own index y ws, w.before args s = true := fun w h => ht w (hT w h).1
  have hG : GoodIn Ts ws := fun w h => hT w (by unfold va_wsS; exact List.mem_append_right _ h)
  have hc : Cond.codeWith y bytes maxL ret hh ∈ ws := by rw [hw]; exact List.mem_cons_self
  refine ⟨⟨hrc, hrs, hR.1, hR.2, pay_in ht hG, hc⟩, ht _ (hG _ hc).1, ok _ (by simp [va_wsS]), ⟨hd.1, hd.2.1⟩, fun sig h => ?_, ok _ (by simp [va_wsS]), ok _ (by simp [va_wsS])⟩
  have h2 := hd.2.2
  rw [h] at h2
  exact (Option.some.inj h2).symm
theorem vx_callSW (X : Stand p l e R s m args below meth c T locs cells slots) (hexec : p.tables.exec = Jvm.exec) {own : String} {index : Nat} {y : MethodName} {bytes : ByteArray} {maxL : Nat} {ret : Option FieldType} {hh : List (Nat × Nat × Nat × Nat)}
    (hown : s.vm.findClass own = some m.cls) (hlink : (Cond.methodLink own index y).before args s = true) (hstat : (Cond.static y).before args s = true) (hinit : (Cond.initialized y.cls).before args s = true)
    (hcode : (Cond.codeWith y bytes maxL ret hh).before args s = true) (hy : y.cls ≠ "java/lang/invoke/MethodHandle" ∧ y.cls ≠ "java/lang/invoke/VarHandle")
    {W9 : Nat} {Pre : Pt → Array Value → Prop} {Post : Pt → Array Value → Option Value → Pt → Prop} (hK : Back l R p e below s args y 3 W9 Pre Post)
    {g : JFrame} (hg : g.method = m) (hsize : g.locals.size = c.maxLocals) {argsL rest : List Value} (hlen : ∀ sig, parseMethodDescriptor y.desc = some sig → argsL.length = sig.parameters.length)
    (hstack : g.stack = argsL.reverse ++ rest) (hW : 2 * g.monitorRoom + (rest.map fun v => v.category).sum ≤ W9) (hdg : decode c.code g.pc = .ok (.invokestatic index, 3))
    (hpre : ∀ vm₁, s.WarmedH vm₁ → Pre ⟨T.setVm vm₁, locs, cells, slots⟩ argsL.toArray) :
    ∃ (v : Option Value) (vm₁ : Vm) (B : Pt), s.WarmedH vm₁ ∧ Stand p l e R s m args below meth c B.U B.locs B.cells B.slots ∧ Post ⟨T.setVm vm₁, locs, cells, slots⟩ argsL.toArray v B ∧
      ∀ target, Steps p.tables e below (B.U.setTop { g with pc := g.pc + 3, stack := v.toList ++ rest }) target → Steps p.tables e below (T.setTop g) target := by
  obtain ⟨mk, methM, cM, hnamed, hmethM, -, -, -, -, -, -, hsigM⟩ := Cond.codeWith_spec hcode
  have hstatic : methM.isStatic = true := Cond.static_spec hnamed hmethM hstat
  obtain ⟨kP, hkP, -⟩ := className_of_methodNamed hnamed
  have hinitP : kP.init = .initialized := Cond.initialized_spec (findClass_of_methodNamed hnamed) hkP hinit
  obtain ⟨vm₁, X₁, hstep₁⟩ := X.invokestatic hexec hown hlink hnamed hmethM hstatic hkP hinitP hy (g := g) hg (argsL := argsL) (rest := rest) (hlen _ hsigM) hstack hdg
  obtain ⟨v, B, X', hpost, hsteps⟩ := hK m meth c ⟨T.setVm vm₁, locs, cells, slots⟩ { g with stack := rest } (.invokestatic index) mk argsL.toArray X₁ hg hsize hdg hW (X₁.named hnamed) (hpre vm₁ X₁.warmed)
  exact ⟨v, vm₁, B, X₁.warmed, X', hpost, fun target h => hstep₁ _ fun acts => by rw [doInvoke_state]; exact hsteps.trans h⟩
theorem vx_runSW {y : MethodName} {bytes cc : ByteArray} {maxL nL mc ms n index : Nat} {ret : Option FieldType} {hh : List (Nat × Nat × Nat × Nat)} {ws : List Cond} {rm : Room} {Pc : Array Value → State → Prop} {Qc : Array Value → State → Outcome → State → Prop} {free : Addr → Prop} {Ts : List Cond} {own : String} {As rest : List Value} {g : JFrame}
    (S : CallFix p m c cc nL s args Ts own) (hM : Met l y ws rm Pc Qc mc ms free) (cw : vx_CSW R s args own index y bytes maxL ret hh ws rm mc ms n) (hp : PreS s H Pc As)
    (hg : g.method = m) (hn : As.length = n) (hsize : g.locals.size = nL) (hstack : g.stack = As.reverse ++ rest) (hW : 2 * g.monitorRoom + (rest.map fun v => v.category).sum ≤ 8) (hdg : decode cc g.pc = .ok (.invokestatic index, 3)) (hf : cells + mc ≤ R.cells ∧ slots + ms ≤ R.slots) :
    va_Run p l e R s m args below meth c H locs cells slots mc ms g rest (Qc As.toArray) (free) := by
  obtain ⟨⟨hrc, hrs, hfr, hlo, hws, hcw⟩, hcode, hini, hy, hlen, hl, hstt⟩ := cw
  have hK : Back l R p e below s args y 3 8 (PreOf R mc ms Pc) (PostOf Qc mc ms free) := va_backW (hh := hh) (bytes := bytes) (maxL := maxL) (ret := ret) hM hp.1 hrc hrs hfr hlo hws hcw (fun a' U hW => word_at hW (Or.inl (by first | rfl | simp [Cond.onTables, Cond.keeps, Cond.steady])) hini)
  obtain ⟨hx, hb, hml, ho, -⟩ := S
  intro T hT X
  obtain ⟨v, vm₁, ⟨U', l2, c2, s2⟩, hW₁, X', ⟨g', mk, t, L, e1, e2, hq, h1, hL, h2, h3⟩, st⟩ := vx_callSW X hx (hh := hh) (bytes := bytes) (maxL := maxL) (ret := ret) ho hl hstt hini hcode hy hK hg (hsize.trans hml.symm) (argsL := As) (rest := rest) (fun sig h => hn.trans (hlen sig h)) hstack hW (by rw [hb]; exact hdg)
    (fun vm₁ hW₁ => ⟨hf.1, hf.2, hp.2 (T.setVm vm₁) hT hW₁⟩)
  dsimp only [Pt.U, Pt.locs, Pt.cells, Pt.slots] at X' e1 e2 h1 h2 h3 st
  subst h1; subst h2; subst h3
  exact ⟨v, (T.setVm vm₁).calling g' mk As.toArray, t, U', L, hT, X', hL, e1, e2, hq, st⟩
/-- not caught here, past rows that name other classes: it goes on to the caller -/
theorem vx_outP {p : Program} {l : Launch} {e : Env} {R : Room} {s : State} {m : MethodId} {args : Array Value} {below : List Frame} {meth : Method} {c : Code} {H : Heap} {locs : List Loc} {cells slots : Nat} {free : Addr → Prop} {ls : Array Slot} {rest : List Value} {Qc : Array Value → State → Outcome → State → Prop} {XC : String → State → State → Prop}
    {pc : Nat} {own E : String} {ce : Cell} {q : Addr} {mc ms : Nat} (hown : s.vm.findClass own = some m.cls) (hlocks : meth.locks = false)
    (hpass : ∀ z ∈ c.exceptionTable.toList, covers z pc = false ∨ (z.catchType ≠ 0 ∧ ∃ nm : String, (Cond.classLink own z.catchType nm).before args s = true ∧ va_Nc E nm s)) (hcell : H[q]? = some ce) (hv : ce.vm = .none) (hcl : s.vm.findClass E = some ce.cls)
    (hx : ∀ t : State, t.heap = H → s.vm.Alike t.vm → XC E s t) (hf : ∀ z ∈ locs, free z.base) (hc : cells ≤ mc) (hs : slots ≤ ms) :
    vx_W p l e R s m args below meth c H locs cells slots (vx_MQ below Qc XC args s mc ms free) (F0 m pc ls rest) q := by
  intro T hT X
  have hpl : e.platform.magicAccessors = ({} : Platform).magicAccessors := by rw [X.admits.platform]
  obtain ⟨vm', hW', X', st⟩ := X.outThrough hlocks q (g := F0 m pc ls rest) rfl rfl rfl (cell := ce) (by rw [hT]; exact hcell) (by rw [hv]; rfl)
    (by obtain ⟨k9, h9, -⟩ := Vm.findClass_spec hcl; exact ⟨k9, h9⟩) (fun z hz => by
      rcases hpass z hz with h | ⟨hz0, nm, hl1, hn1⟩
      · exact Or.inl h
      · obtain ⟨c6, hc6, hcl6⟩ := Cond.classLink_spec hown hl1 e.platform hpl
        obtain ⟨a8, b8, h1, h2, h3⟩ := hn1
        cases Option.some.inj (h1.symm.trans hcl)
        cases Option.some.inj (h2.symm.trans hc6)
        exact Or.inr ⟨hz0, _, hcl6, h3⟩)
  obtain ⟨g₀, hfr⟩ := X'.frames_eq
  have hcell9 : ((T.setVm vm').setFrames (.throwing q :: below)).heap[q]? = some ce := by
    show T.heap[q]? = some ce
    rw [hT]; exact hcell
  have hend : Ended ((T.setVm vm').setFrames (.throwing q :: below)) below (.threw q) := State.frames_setFrames _ (State.cur_lt_of_frames hfr)
  refine ⟨(T.setVm vm').setFrames (.throwing q :: below), ?_, .threw q, X'.here.running, hend, Or.inr ⟨q, rfl, E, ce, locs, hx _ hT (X'.ends _).1.alike, hcell9, hv, hcl, (X'.ends _).1, (X'.ends _).2.mono hc hs, hf⟩⟩
  rw [X.pushThrowing_eq]
  exact st
/-- a thing of a world lies in the heap -/
theorem vx_lt {D : va_G} {cl : List vw_C} {ws : va_W} {H1 : Heap} (h : va_P D cl ws H1) {k : Nat} {q : Nat × va_E} (hk : ws[k]? = some q) : q.1 < H1.size := (h k q hk).lt
end VXS
/-! ===== END ===== -/
/-! ===== BEGIN methods with a table of their own: called by a name, returning or throwing ===== -/
section VXH
/-! vx_backW, vx_callVX, vx_callSX, vx_callVW, vx_runVW, vx_runVX, vx_runSX, vx_ofWH follow the same proofs as their sisters above (Free/Laws.lean, Shelf42/LK1.lean); vx_outP calls Shelf42/NT130.lean (outThrough). -/
section
variable {l : Launch} {R : Room} {p : Program} {e : Env} {below : List Frame} {s : State} {sargs : Array Value} {y : MethodName} {len W9 : Nat}
theorem vx_backW {ws : List Cond} {rm : Room} {Pc : Array Value → State → Prop} {Qc : Array Value → State → Outcome → State → Prop} {XC : String → State → State → Prop} {mc ms : Nat} {free : Addr → Prop} {bytes : ByteArray} {maxL : Nat} {ret : Option FieldType} {hh : List (Nat × Nat × Nat × Nat)}
    (hM : vx_Met l y ws rm Pc Qc XC mc ms free) (hblind : FrameBlind Pc) (hrc : rm.cells = mc) (hrs : rm.slots = ms)
    (hframes : rm.frames + 1 ≤ R.frames) (hlocals : W9 + (maxL + 11) + rm.locals ≤ R.locals)
    (hws : ∀ w ∈ ws, ∀ a' U, s.WarmedH U.vm → w.before a' U = true) (hcode : Cond.codeWith y bytes maxL ret hh ∈ ws) (hinit : ∀ a' U, s.WarmedH U.vm → (Cond.initialized y.cls).before a' U = true) :
    vx_Back l R p e below s sargs y len W9 (PreOf R mc ms Pc) (PostOf Qc mc ms free) (vx_Post XC mc ms free) := by
  intro m meth c A g ig mk a X hg hsize hdg hW hn hp
  have h1 : (headSpec ws rm).pre.before a A.U = true := atoms_intro fun w hw => hws w hw _ _ X.warmed
  have h2 : (Cond.codeWith y bytes maxL ret hh).before a A.U = true := hws _ hcode _ _ X.warmed
  have h3 : (Cond.initialized y.cls).before a A.U = true := hinit _ _ X.warmed
  have h4 : A.cells + (headSpec ws rm).room.cells ≤ R.cells := by rw [show (headSpec ws rm).room.cells = mc from hrc]; exact hp.1
  have h5 : A.slots + (headSpec ws rm).room.slots ≤ R.slots := by rw [show (headSpec ws rm).room.slots = ms from hrs]; exact hp.2.1
  have hPc : Pc a (A.U.calling g mk a) := hblind _ _ _ _ hp.2.2
  obtain ⟨U, Ls, c0, s0⟩ := A
  dsimp only [Pt.U, Pt.locs, Pt.cells, Pt.slots] at h1 h2 h3 h4 h5 X hn hPc ⊢
  obtain ⟨m9, methY, cY, hn9, hmY, hcY, -, hlY, -⟩ := Cond.codeWith_spec h2
  cases Option.some.inj (hn9.symm.trans hn)
  obtain ⟨kY, hkY, -⟩ := className_of_methodNamed hn
  have hinitY : kY.init = .initialized := Cond.initialized_spec (findClass_of_methodNamed hn) hkY h3
  have h : At U g.method c below := by rw [hg]; exact X.here
  have hlocals9 : W9 + (maxL + 11) + (headSpec ws rm).room.locals ≤ R.locals := hlocals
  have happ : (headSpec ws rm).appliesLoose y e.platform (U.calling g mk a) = true :=
    Spec.appliesLoose_calling (g := g) h hdg hn hkY hinitY
      (X.room_calling (g := g) (R' := (headSpec ws rm).room) hsize hmY hcY hframes (by rw [hlY]; omega) h4 h5) h1
  obtain ⟨mid, hmid⟩ := h.above
  have hfr : (U.setTop g).frames = (.java g :: mid) ++ below := by rw [State.frames_setTop' g h.top, hmid]; rfl
  obtain ⟨o, s₂, hsteps, -, hend, hq⟩ := Steps.callFree hM p X.admits X.cas X.clock (acts := []) hfr happ hPc trivial
  have hq' : vx_Q Qc XC mc ms free a (U.calling g mk a) o s₂ := hq
  rw [State.frames_setTop' g h.top] at hend
  obtain ⟨g₀, hg0⟩ := Option.isSome_iff_exists.mp h.top
  obtain ⟨r, hr⟩ := State.topJava?_eq_some.mp hg0
  have hr' : (({ U with heap := s₂.heap, slotsUsed := s₂.slotsUsed } : State).setVm s₂.vm).frames = .java g₀ :: r := hr
  rcases hq' with ⟨hqc, L, hfe, hL⟩ | ⟨q, rfl, E, ce, L, hx, hce, hcv, hcl, hW₂, hsm, hL⟩
  · obtain ⟨⟨v, rfl⟩, hW₂, e2, q2, q3, q4, q5, q6⟩ := id hfe
    have e3 : s₂ = ({ (U.calling g mk a).setFrames s₂.frames with heap := s₂.heap, slotsUsed := s₂.slotsUsed } : State).setVm s₂.vm := by
      have : s₂ = ({ s₂ with vm := (U.calling g mk a).vm } : State).setVm s₂.vm := rfl
      rw [e2] at this
      exact this
    obtain ⟨c₂, i₂, len₂, hc₂, hd₂, hf₂⟩ := hend
    have hW' : U.WarmedH s₂.vm := hW₂
    have hcc : c₂ = c := by
      have h1 : s₂.code? g.method = U.code? g.method := by
        rw [State.code?_eq, State.code?_eq, hW'.alike.method?]
      exact Option.some.inj (hc₂.symm.trans (h1.trans h.code))
    subst hcc
    have hlen : len₂ = len := by rw [hdg] at hd₂; cases hd₂; rfl
    subst hlen
    have hs₂ : s₂ = (({ U with heap := s₂.heap, slotsUsed := s₂.slotsUsed } : State).setVm s₂.vm).setTop { g with pc := g.pc + len₂, stack := v.toList ++ g.stack } := by
      refine e3.trans ?_
      rw [hf₂, State.calling_eq h.top, State.setFrames_setFrames, State.setTop_of_frames _ hr', hr]
      rfl
    have hsame : U.sameButNew ({ U with heap := s₂.heap, slotsUsed := s₂.slotsUsed } : State) L mc ms := by
      refine ⟨?_, q2, q3, q4, q5, q6⟩
      obtain ⟨t, ht, -⟩ := State.frames_cons hr
      show ({ U with heap := s₂.heap, slotsUsed := s₂.slotsUsed } : State) = { U.setFrames U.frames with heap := s₂.heap, slotsUsed := s₂.slotsUsed }
      rw [State.setFrames_self ht]
    subst hg
    refine Or.inl ⟨v, ⟨(({ U with heap := s₂.heap, slotsUsed := s₂.slotsUsed } : State).setVm s₂.vm), Ls ++ L, c0 + mc, s0 + ms⟩,
      ⟨X.admits, X.cas, X.clock, X.frames, X.room, X.hears, X.method, X.code, (X.here.setHeapUsed s₂.heap s₂.slotsUsed).setVm hW'.alike, X.tail, State.WarmedH.trans X.warmed hW', X.limits, X.bytes, X.same.trans (hsame.setVm s.vm)⟩,
      ⟨g, mk, s₂, L, rfl, rfl, hqc, rfl, hL, rfl, rfl⟩, ?_⟩
    show Steps p.tables e below _ ((({ U with heap := s₂.heap, slotsUsed := s₂.slotsUsed } : State).setVm s₂.vm).setTop { g with pc := g.pc + len₂, stack := v.toList ++ g.stack })
    rw [← hs₂]
    exact hsteps
  · obtain ⟨e2, q2, q3, q4, q5, q6⟩ := id hsm
    have e3 : s₂ = ({ (U.calling g mk a).setFrames s₂.frames with heap := s₂.heap, slotsUsed := s₂.slotsUsed } : State).setVm s₂.vm := by
      have : s₂ = ({ s₂ with vm := (U.calling g mk a).vm } : State).setVm s₂.vm := rfl
      rw [e2] at this
      exact this
    have hf₂ : s₂.frames = .throwing q :: .java g :: U.frames.tail := hend
    have hW' : U.WarmedH s₂.vm := hW₂
    have hs₂ : s₂ = ((({ U with heap := s₂.heap, slotsUsed := s₂.slotsUsed } : State).setVm s₂.vm).setTop g).pushFrame (.throwing q) := by
      refine e3.trans ?_
      rw [hf₂, State.calling_eq h.top, State.setFrames_setFrames, State.pushFrame, State.frames_setTop _ hr', State.setTop_of_frames _ hr', State.setFrames_setFrames, hr]
      rfl
    have hsame : U.sameButNew ({ U with heap := s₂.heap, slotsUsed := s₂.slotsUsed } : State) L mc ms := by
      refine ⟨?_, q2, q3, q4, q5, q6⟩
      obtain ⟨t, ht, -⟩ := State.frames_cons hr
      show ({ U with heap := s₂.heap, slotsUsed := s₂.slotsUsed } : State) = { U.setFrames U.frames with heap := s₂.heap, slotsUsed := s₂.slotsUsed }
      rw [State.setFrames_self ht]
    subst hg
    refine Or.inr ⟨q, ⟨(({ U with heap := s₂.heap, slotsUsed := s₂.slotsUsed } : State).setVm s₂.vm), Ls ++ L, c0 + mc, s0 + ms⟩,
      ⟨X.admits, X.cas, X.clock, X.frames, X.room, X.hears, X.method, X.code, (X.here.setHeapUsed s₂.heap s₂.slotsUsed).setVm hW'.alike, X.tail, State.WarmedH.trans X.warmed hW', X.limits, X.bytes, X.same.trans (hsame.setVm s.vm)⟩,
      ⟨g, mk, s₂, L, E, ce, rfl, rfl, hx, hce, hcv, hcl, rfl, hL, rfl, rfl⟩, ?_⟩
    show Steps p.tables e below _ (((({ U with heap := s₂.heap, slotsUsed := s₂.slotsUsed } : State).setVm s₂.vm).setTop g).pushFrame (.throwing q))
    rw [← hs₂]
    exact hsteps
end
variable {p : Program} {l : Launch} {e : Env} {R : Room} {s : State} {m : MethodId} {args : Array Value} {below : List Frame} {meth : Method} {c : Code} {T : State} {H : Heap} {locs : List Loc} {cells slots : Nat}
theorem vx_callVX (X : Stand p l e R s m args below meth c T locs cells slots) (hexec : p.tables.exec = Jvm.exec) {own C : String} {index : Nat} {y : MethodName} {bytes : ByteArray} {maxL : Nat} {ret : Option FieldType} {hh : List (Nat × Nat × Nat × Nat)}
    (hown : s.vm.findClass own = some m.cls) (hlink : (Cond.methodLink own index y).before args s = true) (hinst : (Cond.instanceMethod y).before args s = true) (hsel : (Cond.selects C y y).before args s = true)
    (hcode : (Cond.codeWith y bytes maxL ret hh).before args s = true) (hy : y.cls ≠ "java/lang/invoke/MethodHandle" ∧ y.cls ≠ "java/lang/invoke/VarHandle")
    {W9 : Nat} {Pre : Pt → Array Value → Prop} {Post : Pt → Array Value → Option Value → Pt → Prop} {PostX : Pt → Array Value → Addr → Pt → Prop} (hK : vx_Back l R p e below s args y 3 W9 Pre Post PostX)
    {b : Addr} {cellB : Cell} (hcell : T.heap[b]? = some cellB) (hobj : cellB.vm.isStatics = false) (hcls : s.vm.findClass C = some cellB.cls)
    {g : JFrame} (hg : g.method = m) (hsize : g.locals.size = c.maxLocals) {argsL rest : List Value} (hlen : ∀ sig, parseMethodDescriptor y.desc = some sig → argsL.length = sig.parameters.length)
    (hstack : g.stack = argsL.reverse ++ .ref b :: rest) (hW : 2 * g.monitorRoom + (rest.map fun v => v.category).sum ≤ W9) (hdg : decode c.code g.pc = .ok (.invokevirtual index, 3))
    (hpre : ∀ vm₁, s.WarmedH vm₁ → Pre ⟨T.setVm vm₁, locs, cells, slots⟩ (Value.ref b :: argsL).toArray) :
    (∃ (v : Option Value) (vm₁ : Vm) (B : Pt), s.WarmedH vm₁ ∧ Stand p l e R s m args below meth c B.U B.locs B.cells B.slots ∧ Post ⟨T.setVm vm₁, locs, cells, slots⟩ (Value.ref b :: argsL).toArray v B ∧
      ∀ target, Steps p.tables e below (B.U.setTop { g with pc := g.pc + 3, stack := v.toList ++ rest }) target → Steps p.tables e below (T.setTop g) target) ∨
    (∃ (q : Addr) (vm₁ : Vm) (B : Pt), s.WarmedH vm₁ ∧ Stand p l e R s m args below meth c B.U B.locs B.cells B.slots ∧ PostX ⟨T.setVm vm₁, locs, cells, slots⟩ (Value.ref b :: argsL).toArray q B ∧
      Steps p.tables e below (T.setTop g) ((B.U.setTop { g with stack := rest }).pushFrame (.throwing q))) := by
  obtain ⟨mk, methM, hnamed, hmethM, hstM, habM⟩ := Cond.instanceMethod_spec hinst
  obtain ⟨m8, methM', cM, hn8, hmethM', -, -, -, -, -, -, hsigM⟩ := Cond.codeWith_spec hcode
  cases Option.some.inj (hn8.symm.trans hnamed)
  cases hmethM.symm.trans hmethM'
  obtain ⟨c2, r2, m2, q1, q2, q3, q4, kP, hkP, hkPi⟩ := Cond.selects_spec hsel
  cases hcls.symm.trans q1
  cases (State.methodFound?_of_named hnamed hy).symm.trans q2
  cases hnamed.symm.trans q3
  have hselP : selectMethod e.platform s.vm cellB.cls mk = .method mk := by rw [Launch.admits_selectMethod X.admits]; exact q4
  obtain ⟨vm₁, X₁, hstep₁⟩ := X.invokevirtual hexec hown hlink hnamed hmethM hstM hkP hkPi hy (a := b) (cell := cellB) hcell
    (fun z h => by rw [h] at hobj; cases hobj) hselP hmethM habM hkP hkPi (g := g) hg (argsL := argsL) (rest := rest) (hlen _ hsigM) hstack hdg
  rcases hK m meth c ⟨T.setVm vm₁, locs, cells, slots⟩ { g with stack := rest } (.invokevirtual index) mk (Value.ref b :: argsL).toArray X₁ hg hsize hdg hW (X₁.named hnamed) (hpre vm₁ X₁.warmed) with ⟨v, B, X', hpost, hsteps⟩ | ⟨q, B, X', hpost, hsteps⟩
  · exact Or.inl ⟨v, vm₁, B, X₁.warmed, X', hpost, fun target h => hstep₁ _ fun acts => by rw [doInvoke_state]; exact hsteps.trans h⟩
  · exact Or.inr ⟨q, vm₁, B, X₁.warmed, X', hpost, hstep₁ _ fun acts => by rw [doInvoke_state]; exact hsteps⟩
theorem vx_callSX (X : Stand p l e R s m args below meth c T locs cells slots) (hexec : p.tables.exec = Jvm.exec) {own : String} {index : Nat} {y : MethodName} {bytes : ByteArray} {maxL : Nat} {ret : Option FieldType} {hh : List (Nat × Nat × Nat × Nat)}
    (hown : s.vm.findClass own = some m.cls) (hlink : (Cond.methodLink own index y).before args s = true) (hstat : (Cond.static y).before args s = true) (hinit : (Cond.initialized y.cls).before args s = true)
    (hcode : (Cond.codeWith y bytes maxL ret hh).before args s = true) (hy : y.cls ≠ "java/lang/invoke/MethodHandle" ∧ y.cls ≠ "java/lang/invoke/VarHandle")
    {W9 : Nat} {Pre : Pt → Array Value → Prop} {Post : Pt → Array Value → Option Value → Pt → Prop} {PostX : Pt → Array Value → Addr → Pt → Prop} (hK : vx_Back l R p e below s args y 3 W9 Pre Post PostX)
    {g : JFrame} (hg : g.method = m) (hsize : g.locals.size = c.maxLocals) {argsL rest : List Value} (hlen : ∀ sig, parseMethodDescriptor y.desc = some sig → argsL.length = sig.parameters.length)
    (hstack : g.stack = argsL.reverse ++ rest) (hW : 2 * g.monitorRoom + (rest.map fun v => v.category).sum ≤ W9) (hdg : decode c.code g.pc = .ok (.invokestatic index, 3))
    (hpre : ∀ vm₁, s.WarmedH vm₁ → Pre ⟨T.setVm vm₁, locs, cells, slots⟩ argsL.toArray) :
    (∃ (v : Option Value) (vm₁ : Vm) (B : Pt), s.WarmedH vm₁ ∧ Stand p l e R s m args below meth c B.U B.locs B.cells B.slots ∧ Post ⟨T.setVm vm₁, locs, cells, slots⟩ argsL.toArray v B ∧
      ∀ target, Steps p.tables e below (B.U.setTop { g with pc := g.pc + 3, stack := v.toList ++ rest }) target → Steps p.tables e below (T.setTop g) target) ∨
    (∃ (q : Addr) (vm₁ : Vm) (B : Pt), s.WarmedH vm₁ ∧ Stand p l e R s m args below meth c B.U B.locs B.cells B.slots ∧ PostX ⟨T.setVm vm₁, locs, cells, slots⟩ argsL.toArray q B ∧
      Steps p.tables e below (T.setTop g) ((B.U.setTop { g with stack := rest }).pushFrame (.throwing q))) := by
  obtain ⟨mk, methM, cM, hnamed, hmethM, -, -, -, -, -, -, hsigM⟩ := Cond.codeWith_spec hcode
  have hstatic : methM.isStatic = true := Cond.static_spec hnamed hmethM hstat
  obtain ⟨kP, hkP, -⟩ := className_of_methodNamed hnamed
  have hinitP : kP.init = .initialized := Cond.initialized_spec (findClass_of_methodNamed hnamed) hkP hinit
  obtain ⟨vm₁, X₁, hstep₁⟩ := X.invokestatic hexec hown hlink hnamed hmethM hstatic hkP hinitP hy (g := g) hg (argsL := argsL) (rest := rest) (hlen _ hsigM) hstack hdg
  rcases hK m meth c ⟨T.setVm vm₁, locs, cells, slots⟩ { g with stack := rest } (.invokestatic index) mk argsL.toArray X₁ hg hsize hdg hW (X₁.named hnamed) (hpre vm₁ X₁.warmed) with ⟨v, B, X', hpost, hsteps⟩ | ⟨q, B, X', hpost, hsteps⟩
  · exact Or.inl ⟨v, vm₁, B, X₁.warmed, X', hpost, fun target h => hstep₁ _ fun acts => by rw [doInvoke_state]; exact hsteps.trans h⟩
  · exact Or.inr ⟨q, vm₁, B, X₁.warmed, X', hpost, hstep₁ _ fun acts => by rw [doInvoke_state]; exact hsteps⟩
theorem vx_callVW (X : Stand p l e R s m args below meth c T locs cells slots) (hexec : p.tables.exec = Jvm.exec) {own C : String} {index : Nat} {y : MethodName} {bytes : ByteArray} {maxL : Nat} {ret : Option FieldType} {hh : List (Nat × Nat × Nat × Nat)}
    (hown : s.vm.findClass own = some m.cls) (hlink : (Cond.methodLink own index y).before args s = true) (hinst : (Cond.instanceMethod y).before args s = true) (hsel : (Cond.selects C y y).before args s = true)
    (hcode : (Cond.codeWith y bytes maxL ret hh).before args s = true) (hy : y.cls ≠ "java/lang/invoke/MethodHandle" ∧ y.cls ≠ "java/lang/invoke/VarHandle")
    {W9 : Nat} {Pre : Pt → Array Value → Prop} {Post : Pt → Array Value → Option Value → Pt → Prop} (hK : Back l R p e below s args y 3 W9 Pre Post)
    {b : Addr} {cellB : Cell} (hcell : T.heap[b]? = some cellB) (hobj : cellB.vm.isStatics = false) (hcls : s.vm.findClass C = some cellB.cls)
    {g : JFrame} (hg : g.method = m) (hsize : g.locals.size = c.maxLocals) {argsL rest : List Value} (hlen : ∀ sig, parseMethodDescriptor y.desc = some sig → argsL.length = sig.parameters.length)
    (hstack : g.stack = argsL.reverse ++ .ref b :: rest) (hW : 2 * g.monitorRoom + (rest.map fun v => v.category).sum ≤ W9) (hdg : decode c.code g.pc = .ok (.invokevirtual index, 3))
    (hpre : ∀ vm₁, s.WarmedH vm₁ → Pre ⟨T.setVm vm₁, locs, cells, slots⟩ (Value.ref b :: argsL).toArray) :
    ∃ (v : Option Value) (vm₁ : Vm) (B : Pt), s.WarmedH vm₁ ∧ Stand p l e R s m args below meth c B.U B.locs B.cells B.slots ∧ Post ⟨T.setVm vm₁, locs, cells, slots⟩ (Value.ref b :: argsL).toArray v B ∧
      ∀ target, Steps p.tables e below (B.U.setTop { g with pc := g.pc + 3, stack := v.toList ++ rest }) target → Steps p.tables e below (T.setTop g) target := by
  obtain ⟨mk, methM, hnamed, hmethM, hstM, habM⟩ := Cond.instanceMethod_spec hinst
  obtain ⟨m8, methM', cM, hn8, hmethM', -, -, -, -, -, -, hsigM⟩ := Cond.codeWith_spec hcode
  cases Option.some.inj (hn8.symm.trans hnamed)
  cases hmethM.symm.trans hmethM'
  obtain ⟨c2, r2, m2, q1, q2, q3, q4, kP, hkP, hkPi⟩ := Cond.selects_spec hsel
  cases hcls.symm.trans q1
  cases (State.methodFound?_of_named hnamed hy).symm.trans q2
  cases hnamed.symm.trans q3
  have hselP : selectMethod e.platform s.vm cellB.cls mk = .method mk := by rw [Launch.admits_selectMethod X.admits]; exact q4
  obtain ⟨vm₁, X₁, hstep₁⟩ := X.invokevirtual hexec hown hlink hnamed hmethM hstM hkP hkPi hy (a := b) (cell := cellB) hcell
    (fun z h => by rw [h] at hobj; cases hobj) hselP hmethM habM hkP hkPi (g := g) hg (argsL := argsL) (rest := rest) (hlen _ hsigM) hstack hdg
  obtain ⟨v, B, X', hpost, hsteps⟩ := hK m meth c ⟨T.setVm vm₁, locs, cells, slots⟩ { g with stack := rest } (.invokevirtual index) mk (Value.ref b :: argsL).toArray X₁ hg hsize hdg hW (X₁.named hnamed) (hpre vm₁ X₁.warmed)
  exact ⟨v, vm₁, B, X₁.warmed, X', hpost, fun target h => hstep₁ _ fun acts => by rw [doInvoke_state]; exact hsteps.trans h⟩
abbrev vx_CVW (R : Room) (s : State) (args : Array Value) (own C : String) (index : Nat) (y : MethodName) (bytes : ByteArray) (maxL : Nat) (ret : Option FieldType) (hh : List (Nat × Nat × Nat × Nat)) (ws : List Cond) (rm : Room) (mc ms n : Nat) : Prop :=
  (rm.cells = mc ∧ rm.slots = ms ∧ rm.frames + 1 ≤ R.frames ∧ 8 + (maxL + 11) + rm.locals ≤ R.locals ∧ (∀ w ∈ ws, ∀ (a' : Array Value) (U : State), s.WarmedH U.vm → w.before a' U = true) ∧ Cond.codeWith y bytes maxL ret hh ∈ ws) ∧
  (Cond.codeWith y bytes maxL ret hh).before args s = true ∧ (Cond.initialized y.cls).before args s = true ∧ (y.cls ≠ "java/lang/invoke/MethodHandle" ∧ y.cls ≠ "java/lang/invoke/VarHandle") ∧
  (∀ sig, parseMethodDescriptor y.desc = some sig → n = sig.parameters.length) ∧ (Cond.methodLink own index y).before args s = true ∧ (Cond.instanceMethod y).before args s = true ∧ (Cond.selects C y y).before args s = true
theorem vx_cwVW {own C : String} {index maxL mc ms : Nat} {y : MethodName} {bytes : ByteArray} {ret : Option FieldType} {hh : List (Nat × Nat × Nat × Nat)} {Ts ws ws' : List Cond} {rm : Room} (n : Nat) (ht : ∀ w ∈ Ts, w.before args s = true) (hT : GoodIn Ts (wsV own index C y ws)) (hw : ws = Cond.codeWith y bytes maxL ret hh :: ws') (hrc : rm.cells = mc) (hrs : rm.slots = ms)
    (hd : y.cls = C ∧ y.cls ≠ "java/lang/invoke/MethodHandle" ∧ y.cls ≠ "java/lang/invoke/VarHandle" ∧ (parseMethodDescriptor y.desc).map (fun d => d.parameters.length) = some n) (hR : rm.frames + 1 ≤ R.frames ∧ 8 + (maxL + 11) + rm.locals ≤ R.locals) :
    vx_CVW R s args own C index y bytes maxL ret hh ws rm mc ms n := by
  obtain ⟨hC, hd⟩ := hd
  subst hC
  have ok : ∀ w ∈ wsV own index y.cls y ws, w.before args s = true := fun w h => ht w (hT w h).1
  have hG : GoodIn Ts ws := fun w h => hT w (by unfold wsV; exact List.mem_append_right _ h)
  have hc : Cond.codeWith y bytes maxL ret hh ∈ ws := by rw [hw]; exact List.mem_cons_self
  refine ⟨⟨hrc, hrs, hR.1, hR.2, pay_in ht hG, hc⟩, ht _ (hG _ hc).1, ok _ (by simp [wsV]), ⟨hd.1, hd.2.1⟩, fun sig h => ?_, ok _ (by simp [wsV]), ok _ (by simp [wsV]), ok _ (by simp [wsV])⟩
  have h2 := hd.2.2
  rw [h] at h2
  exact (Option.some.inj h2).symm
theorem vx_runVW {y : MethodName} {bytes cc : ByteArray} {maxL nL mc ms n index : Nat} {ret : Option FieldType} {hh : List (Nat × Nat × Nat × Nat)} {ws : List Cond} {rm : Room} {Pc : Array Value → State → Prop} {Qc : Array Value → State → Outcome → State → Prop} {free : Addr → Prop} {Ts : List Cond} {own C : String} {b : Addr} {As rest : List Value} {g : JFrame}
    (S : CallFix p m c cc nL s args Ts own) (hM : Met l y ws rm Pc Qc mc ms free) (cw : vx_CVW R s args own C index y bytes maxL ret hh ws rm mc ms n) (hp : PreV s H C b Pc As)
    (hg : g.method = m) (hn : As.length = n) (hsize : g.locals.size = nL) (hstack : g.stack = As.reverse ++ .ref b :: rest) (hW : 2 * g.monitorRoom + (rest.map fun v => v.category).sum ≤ 8) (hdg : decode cc g.pc = .ok (.invokevirtual index, 3)) (hf : cells + mc ≤ R.cells ∧ slots + ms ≤ R.slots) :
    va_Run p l e R s m args below meth c H locs cells slots mc ms g rest (Qc (Value.ref b :: As).toArray) free := by
  obtain ⟨⟨hrc, hrs, hfr, hlo, hws, hcw⟩, hcode, hini, hy, hlen, hl, hin, hse⟩ := cw
  have hK : Back l R p e below s args y 3 8 (PreOf R mc ms Pc) (PostOf Qc mc ms free) := va_backW (hh := hh) (bytes := bytes) (maxL := maxL) (ret := ret) hM hp.1 hrc hrs hfr hlo hws hcw (fun a' U hW => word_at hW (Or.inl (by first | rfl | simp [Cond.onTables, Cond.keeps, Cond.steady])) hini)
  obtain ⟨hx, hb, hml, ho, -⟩ := S
  obtain ⟨-, ⟨cellB, hcB, hoB, hclB⟩, hPc⟩ := hp
  intro T hT X
  obtain ⟨v, vm₁, ⟨U', l2, c2, s2⟩, hW₁, X', ⟨g', mk, t, L, e1, e2, hq, h1, hL, h2, h3⟩, st⟩ := vx_callVW X hx (C := C) (hh := hh) (bytes := bytes) (maxL := maxL) (ret := ret) ho hl hin hse hcode hy hK (by rw [hT]; exact hcB) hoB hclB hg (hsize.trans hml.symm) (argsL := As) (rest := rest) (fun sig h => hn.trans (hlen sig h)) hstack hW (by rw [hb]; exact hdg)
    (fun vm₁ hW₁ => ⟨hf.1, hf.2, hPc (T.setVm vm₁) hT hW₁⟩)
  dsimp only [Pt.U, Pt.locs, Pt.cells, Pt.slots] at X' e1 e2 h1 h2 h3 st
  subst h1; subst h2; subst h3
  exact ⟨v, (T.setVm vm₁).calling g' mk (Value.ref b :: As).toArray, t, U', L, hT, X', hL, e1, e2, hq, st⟩
section
variable {y : MethodName} {bytes cc : ByteArray} {maxL nL mc ms n index : Nat} {ret : Option FieldType} {ws : List Cond} {rm : Room} {Pc : Array Value → State → Prop} {Qc : Array Value → State → Outcome → State → Prop} {XC : String → State → State → Prop} {free : Addr → Prop} {Ts : List Cond} {own C : String} {b : Addr} {As rest : List Value} {g : JFrame}
theorem vx_runVX {hh : List (Nat × Nat × Nat × Nat)} (S : CallFix p m c cc nL s args Ts own) (hM : vx_Met l y ws rm Pc Qc XC mc ms free) (cw : vx_CVW R s args own C index y bytes maxL ret hh ws rm mc ms n) (hp : PreV s H C b Pc As)
    (hg : g.method = m) (hn : As.length = n) (hsize : g.locals.size = nL) (hstack : g.stack = As.reverse ++ .ref b :: rest) (hW : 2 * g.monitorRoom + (rest.map fun v => v.category).sum ≤ 8) (hdg : decode cc g.pc = .ok (.invokevirtual index, 3)) (hf : cells + mc ≤ R.cells ∧ slots + ms ≤ R.slots) :
    vx_Run p l e R s m args below meth c H locs cells slots mc ms g rest (Qc (Value.ref b :: As).toArray) XC free := by
  obtain ⟨⟨hrc, hrs, hfr, hlo, hws, hcw⟩, hcode, hini, hy, hlen, hl, hin, hse⟩ := cw
  have hK : vx_Back l R p e below s args y 3 8 (PreOf R mc ms Pc) (PostOf Qc mc ms free) (vx_Post XC mc ms free) := vx_backW (hh := hh) (bytes := bytes) (maxL := maxL) (ret := ret) hM hp.1 hrc hrs hfr hlo hws hcw (fun a' U hW => word_at hW (Or.inl (by first | rfl | simp [Cond.onTables, Cond.keeps, Cond.steady])) hini)
  obtain ⟨hx, hb, hml, ho, -⟩ := S
  obtain ⟨-, ⟨cellB, hcB, hoB, hclB⟩, hPc⟩ := hp
  intro T hT X
  rcases vx_callVX X hx (C := C) (hh := hh) (bytes := bytes) (maxL := maxL) (ret := ret) ho hl hin hse hcode hy hK (by rw [hT]; exact hcB) hoB hclB hg (hsize.trans hml.symm) (argsL := As) (rest := rest) (fun sig h => hn.trans (hlen sig h)) hstack hW (by rw [hb]; exact hdg)
    (fun vm₁ hW₁ => ⟨hf.1, hf.2, hPc (T.setVm vm₁) hT hW₁⟩) with ⟨v, vm₁, ⟨U', l2, c2, s2⟩, hW₁, X', ⟨g', mk, t, L, e1, e2, hq, h1, hL, h2, h3⟩, st⟩ | ⟨q, vm₁, ⟨U', l2, c2, s2⟩, hW₁, X', ⟨g', mk, t, L, E, ce, e1, e2, hq, hce, hcv, hcl, h1, hL, h2, h3⟩, st⟩
  · dsimp only [Pt.U, Pt.locs, Pt.cells, Pt.slots] at X' e1 e2 h1 h2 h3 st
    subst h1; subst h2; subst h3
    exact Or.inl ⟨v, (T.setVm vm₁).calling g' mk (Value.ref b :: As).toArray, t, U', L, hT, X', hL, e1, e2, hq, st⟩
  · dsimp only [Pt.U, Pt.locs, Pt.cells, Pt.slots] at X' e1 e2 h1 h2 h3 st hcl
    subst h1; subst h2; subst h3
    exact Or.inr ⟨q, (T.setVm vm₁).calling g' mk (Value.ref b :: As).toArray, t, U', L, E, ce, hT, X', hL, e1, e2, hq, hce, hcv, vx_cls hW₁ hcl, st⟩
theorem vx_runSX {hh : List (Nat × Nat × Nat × Nat)} (S : CallFix p m c cc nL s args Ts own) (hM : vx_Met l y ws rm Pc Qc XC mc ms free) (cw : vx_CSW R s args own index y bytes maxL ret hh ws rm mc ms n) (hp : PreS s H Pc As)
    (hg : g.method = m) (hn : As.length = n) (hsize : g.locals.size = nL) (hstack : g.stack = As.reverse ++ rest) (hW : 2 * g.monitorRoom + (rest.map fun v => v.category).sum ≤ 8) (hdg : decode cc g.pc = .ok (.invokestatic index, 3)) (hf : cells + mc ≤ R.cells ∧ slots + ms ≤ R.slots) :
    vx_Run p l e R s m args below meth c H locs cells slots mc ms g rest (Qc As.toArray) XC free := by
  obtain ⟨⟨hrc, hrs, hfr, hlo, hws, hcw⟩, hcode, hini, hy, hlen, hl, hstt⟩ := cw
  have hK : vx_Back l R p e below s args y 3 8 (PreOf R mc ms Pc) (PostOf Qc mc ms free) (vx_Post XC mc ms free) := vx_backW (hh := hh) (bytes := bytes) (maxL := maxL) (ret := ret) hM hp.1 hrc hrs hfr hlo hws hcw (fun a' U hW => word_at hW (Or.inl (by first | rfl | simp [Cond.onTables, Cond.keeps, Cond.steady])) hini)
  obtain ⟨hx, hb, hml, ho, -⟩ := S
  intro T hT X
  rcases vx_callSX X hx (hh := hh) (bytes := bytes) (maxL := maxL) (ret := ret) ho hl hstt hini hcode hy hK hg (hsize.trans hml.symm) (argsL := As) (rest := rest) (fun sig h => hn.trans (hlen sig h)) hstack hW (by rw [hb]; exact hdg)
    (fun vm₁ hW₁ => ⟨hf.1, hf.2, hp.2 (T.setVm vm₁) hT hW₁⟩) with ⟨v, vm₁, ⟨U', l2, c2, s2⟩, hW₁, X', ⟨g', mk, t, L, e1, e2, hq, h1, hL, h2, h3⟩, st⟩ | ⟨q, vm₁, ⟨U', l2, c2, s2⟩, hW₁, X', ⟨g', mk, t, L, E, ce, e1, e2, hq, hce, hcv, hcl, h1, hL, h2, h3⟩, st⟩
  · dsimp only [Pt.U, Pt.locs, Pt.cells, Pt.slots] at X' e1 e2 h1 h2 h3 st
    subst h1; subst h2; subst h3
    exact Or.inl ⟨v, (T.setVm vm₁).calling g' mk As.toArray, t, U', L, hT, X', hL, e1, e2, hq, st⟩
  · dsimp only [Pt.U, Pt.locs, Pt.cells, Pt.slots] at X' e1 e2 h1 h2 h3 st hcl
    subst h1; subst h2; subst h3
    exact Or.inr ⟨q, (T.setVm vm₁).calling g' mk As.toArray, t, U', L, E, ce, hT, X', hL, e1, e2, hq, hce, hcv, vx_cls hW₁ hcl, st⟩
end
end VXH
theorem vx_ofWH {l : Launch} {y : MethodName} {ws ws' : List Cond} {rm : Room} {Pc : Array Value → State → Prop} {Qc : Array Value → State → Outcome → State → Prop} {XC : String → State → State → Prop} {mc ms : Nat} {free : Addr → Prop} {cc : ByteArray} {maxL : Nat} {ret : Option FieldType} {hh : List (Nat × Nat × Nat × Nat)}
    (hy : plainName y.cls = true) (hw : ws = Cond.codeWith y cc maxL ret hh :: ws')
    (body : ∀ p e s m args below meth c s₁, BodyLoose p l y (headSpec ws rm) cc maxL ret e s m args below meth c s₁ → c.maxLocals = maxL → Pc args s →
      W p l e (headSpec ws rm).room s m args below meth c s.heap [] 0 0 (vx_MQ below Qc XC args s mc ms free) (entryFrame m args maxL)) : vx_Met l y ws rm Pc Qc XC mc ms free := by
  refine MetFree.of_bodyS (code := cc) (maxLocals := maxL) (ret := ret) hy ?_ ?_
  · intro args s m h hn
    obtain ⟨m9, meth, c, hn9, h1, h2, h3, h4, -, h5, h6, -⟩ := Cond.codeWith_spec (atoms_spec (ws := ws) h _ (by rw [hw]; exact List.mem_cons_self))
    cases hn.symm.trans hn9
    exact ⟨meth, c, h1, h2, h3, h4, h5, h6⟩
  · intro p e s m args below meth c s₁ B hml hP _
    have hh0 : s₁.heap = s.heap := by rw [B.state]; rfl
    obtain ⟨t, a1, o, b1, b2, b3⟩ := body p e s m args below meth c s₁ B hml hP s₁ hh0 (Stand.of_body B)
    exact ⟨t, o, a1, b1, b2, b3⟩
/-! ===== END ===== -/
end
section
/-! ===== BEGIN printed: names, fields, word lists, decode rows ===== -/
def RX0 : String := "LampHills$Night"
def TX0 : u_T := fun k => match k with
  | 0 => ("LampHills$Night", "minute", "I", false)
  | 1 => ("LampHills$Night", "number", "I", false)
  | 2 => ("LampHills$Night", "oilUsed", "I", false)
  | 3 => ("LampHills$Night", "burningIn", "[I", true)
  | 4 => ("LampHills$Night", "oil", "[I", true)
  | 5 => ("LampHills$Night", "soot", "[I", true)
  | 6 => ("LampHills$Night", "burns", "[Z", true)
  | 7 => ("LampHills$Night", "timesLit", "[I", true)
  | 8 => ("LampHills$Night", "timesBlownOut", "[I", true)
  | 9 => ("LampHills$Night", "at", "[I", true)
  | 10 => ("LampHills$Night", "can", "[I", true)
  | 11 => ("LampHills$Night", "goesTo", "[I", true)
  | 12 => ("LampHills$Night", "goal", "[I", true)
  | 13 => ("LampHills$Night", "minutesLeft", "[I", true)
  | 14 => ("LampHills$Night", "latestPlace", "[I", true)
  | _ => ("LampHills$Night", "litBy", "[I", true)
def tyX0 : Nat → FieldType := fun k => match k with
  | 0 => .int
  | 1 => .int
  | 2 => .int
  | 3 => .array .int
  | 4 => .array .int
  | 5 => .array .int
  | 6 => .array .boolean
  | 7 => .array .int
  | 8 => .array .int
  | 9 => .array .int
  | 10 => .array .int
  | 11 => .array .int
  | 12 => .array .int
  | 13 => .array .int
  | 14 => .array .int
  | _ => .array .int
abbrev wsX00 : List Cond := u_ws RX0 TX0 16
theorem nmX0 : ∀ a, a < 16 → ∀ b, b < 16 → a ≠ b → (TX0 a).2.1 ≠ (TX0 b).2.1 := by decide +kernel
theorem tyX0_ok : ∀ k, k < 16 → parseFieldDescriptor (TX0 k).2.2.1 = some (tyX0 k) := by decide +kernel
abbrev cX0_init : ByteArray := prog_2_method_1_code
def yX0_init : MethodName := ⟨RX0, "<init>", "()V"⟩
abbrev cX0_copy : ByteArray := prog_2_method_2_code
def yX0_copy : MethodName := ⟨RX0, "copy", "(LLampHills$Night;)V"⟩
abbrev cX0_goBy : ByteArray := prog_2_method_3_code
def yX0_goBy : MethodName := ⟨RX0, "goBy", "(LLampHills$Town;I)I"⟩
abbrev cX0_beginNext : ByteArray := prog_2_method_4_code
def yX0_beginNext : MethodName := ⟨RX0, "beginNext", "(LLampHills$Town;)V"⟩
abbrev cX0_sendHome : ByteArray := prog_2_method_5_code
def yX0_sendHome : MethodName := ⟨RX0, "sendHome", "(LLampHills$Town;I)V"⟩
abbrev cX0_whoGoesTo : ByteArray := prog_2_method_6_code
def yX0_whoGoesTo : MethodName := ⟨RX0, "whoGoesTo", "(LLampHills$Town;I)I"⟩
abbrev cX0_isDark : ByteArray := prog_2_method_7_code
def yX0_isDark : MethodName := ⟨RX0, "isDark", "(I)Z"⟩
abbrev cX0_burningLamps : ByteArray := prog_2_method_8_code
def yX0_burningLamps : MethodName := ⟨RX0, "burningLamps", "(LLampHills$Town;)I"⟩
abbrev cX0_darkStreets : ByteArray := prog_2_method_9_code
def yX0_darkStreets : MethodName := ⟨RX0, "darkStreets", "(LLampHills$Town;)I"⟩
abbrev cX0_oilOfLamps : ByteArray := prog_2_method_10_code
def yX0_oilOfLamps : MethodName := ⟨RX0, "oilOfLamps", "(LLampHills$Town;)I"⟩
abbrev cX0_moveLighters : ByteArray := prog_2_method_11_code
def yX0_moveLighters : MethodName := ⟨RX0, "moveLighters", "(LLampHills$Town;)I"⟩
abbrev cX0_lookForLamp : ByteArray := prog_2_method_12_code
def yX0_lookForLamp : MethodName := ⟨RX0, "lookForLamp", "(LLampHills$Town;I)V"⟩
abbrev cX0_placeOfNextLamp : ByteArray := prog_2_method_13_code
def yX0_placeOfNextLamp : MethodName := ⟨RX0, "placeOfNextLamp", "(LLampHills$Town;I)I"⟩
abbrev cX0_tendLamp : ByteArray := prog_2_method_14_code
def yX0_tendLamp : MethodName := ⟨RX0, "tendLamp", "(LLampHills$Town;I)Z"⟩
abbrev cX0_waitFromNow : ByteArray := prog_2_method_15_code
def yX0_waitFromNow : MethodName := ⟨RX0, "waitFromNow", "(I)V"⟩
abbrev cX0_burnLamps : ByteArray := prog_2_method_16_code
def yX0_burnLamps : MethodName := ⟨RX0, "burnLamps", "(LLampHills$Town;)V"⟩
abbrev cX0_useOil : ByteArray := prog_2_method_17_code
def yX0_useOil : MethodName := ⟨RX0, "useOil", "(LLampHills$Town;I)V"⟩
abbrev cX0_blow : ByteArray := prog_2_method_18_code
def yX0_blow : MethodName := ⟨RX0, "blow", "(LLampHills$Town;I)V"⟩
abbrev cX0_putOut : ByteArray := prog_2_method_19_code
def yX0_putOut : MethodName := ⟨RX0, "putOut", "(LLampHills$Town;I)V"⟩
def RX1 : String := "LampHills$Town"
def TX1 : u_T := fun k => match k with
  | 0 => ("LampHills$Town", "corners", "I", false)
  | 1 => ("LampHills$Town", "height", "[I", true)
  | 2 => ("LampHills$Town", "ways", "[[I", true)
  | 3 => ("LampHills$Town", "streets", "I", false)
  | 4 => ("LampHills$Town", "firstEnd", "[I", true)
  | 5 => ("LampHills$Town", "secondEnd", "[I", true)
  | 6 => ("LampHills$Town", "length", "[I", true)
  | 7 => ("LampHills$Town", "lamps", "I", false)
  | 8 => ("LampHills$Town", "lampStreet", "[I", true)
  | 9 => ("LampHills$Town", "lampHeight", "[I", true)
  | 10 => ("LampHills$Town", "lid", "[I", true)
  | 11 => ("LampHills$Town", "wind", "[I", true)
  | 12 => ("LampHills$Town", "lighters", "I", false)
  | 13 => ("LampHills$Town", "home", "[I", true)
  | 14 => ("LampHills$Town", "ladder", "[I", true)
  | 15 => ("LampHills$Town", "roundSize", "[I", true)
  | _ => ("LampHills$Town", "rounds", "[[I", true)
def tyX1 : Nat → FieldType := fun k => match k with
  | 0 => .int
  | 1 => .array .int
  | 2 => .array (.array .int)
  | 3 => .int
  | 4 => .array .int
  | 5 => .array .int
  | 6 => .array .int
  | 7 => .int
  | 8 => .array .int
  | 9 => .array .int
  | 10 => .array .int
  | 11 => .array .int
  | 12 => .int
  | 13 => .array .int
  | 14 => .array .int
  | 15 => .array .int
  | _ => .array (.array .int)
abbrev wsX10 : List Cond := u_ws RX1 TX1 17
theorem nmX1 : ∀ a, a < 17 → ∀ b, b < 17 → a ≠ b → (TX1 a).2.1 ≠ (TX1 b).2.1 := by decide +kernel
theorem tyX1_ok : ∀ k, k < 17 → parseFieldDescriptor (TX1 k).2.2.1 = some (tyX1 k) := by decide +kernel
abbrev cX1_init : ByteArray := prog_3_method_1_code
def yX1_init : MethodName := ⟨RX1, "<init>", "()V"⟩
abbrev cX1_addCorner : ByteArray := prog_3_method_2_code
def yX1_addCorner : MethodName := ⟨RX1, "addCorner", "(I)I"⟩
abbrev cX1_addStreet : ByteArray := prog_3_method_3_code
def yX1_addStreet : MethodName := ⟨RX1, "addStreet", "(III)I"⟩
abbrev cX1_addLamp : ByteArray := prog_3_method_4_code
def yX1_addLamp : MethodName := ⟨RX1, "addLamp", "(II)I"⟩
abbrev cX1_addLighter : ByteArray := prog_3_method_5_code
def yX1_addLighter : MethodName := ⟨RX1, "addLighter", "(II)I"⟩
abbrev cX1_addToRound : ByteArray := prog_3_method_6_code
def yX1_addToRound : MethodName := ⟨RX1, "addToRound", "(II)I"⟩
abbrev cX1_isInRound : ByteArray := prog_3_method_7_code
def yX1_isInRound : MethodName := ⟨RX1, "isInRound", "(II)Z"⟩
abbrev cX1_minutesAlong : ByteArray := prog_3_method_8_code
def yX1_minutesAlong : MethodName := ⟨RX1, "minutesAlong", "(III)I"⟩
abbrev cX1_shortenWays : ByteArray := prog_3_method_9_code
def yX1_shortenWays : MethodName := ⟨RX1, "shortenWays", "(III)V"⟩
abbrev cX1_nearerEnd : ByteArray := prog_3_method_10_code
def yX1_nearerEnd : MethodName := ⟨RX1, "nearerEnd", "(II)I"⟩
abbrev cX1_canReach : ByteArray := prog_3_method_11_code
def yX1_canReach : MethodName := ⟨RX1, "canReach", "(III)Z"⟩
abbrev cX1_windAtLamp : ByteArray := prog_3_method_12_code
def yX1_windAtLamp : MethodName := ⟨RX1, "windAtLamp", "(II)I"⟩
def RX2 : String := "LampHills"
def TX2 : u_T := fun k => match k with
  | 0 => ("LampHills", "town", "LLampHills$Town;", true)
  | 1 => ("LampHills", "night", "LLampHills$Night;", true)
  | 2 => ("LampHills", "forecast", "LLampHills$Night;", true)
  | _ => ("LampHills", "darkMinutes", "[I", true)
def tyX2 : Nat → FieldType := fun k => match k with
  | 0 => .object "LampHills$Town"
  | 1 => .object "LampHills$Night"
  | 2 => .object "LampHills$Night"
  | _ => .array .int
abbrev wsX20 : List Cond := u_ws RX2 TX2 4
theorem nmX2 : ∀ a, a < 4 → ∀ b, b < 4 → a ≠ b → (TX2 a).2.1 ≠ (TX2 b).2.1 := by decide +kernel
theorem tyX2_ok : ∀ k, k < 4 → parseFieldDescriptor (TX2 k).2.2.1 = some (tyX2 k) := by decide +kernel
abbrev cX2_init : ByteArray := prog_1_method_1_code
def yX2_init : MethodName := ⟨RX2, "<init>", "()V"⟩
abbrev cX2_corner : ByteArray := prog_1_method_2_code
def yX2_corner : MethodName := ⟨RX2, "corner", "(I)I"⟩
abbrev cX2_street : ByteArray := prog_1_method_3_code
def yX2_street : MethodName := ⟨RX2, "street", "(III)I"⟩
abbrev cX2_lamp : ByteArray := prog_1_method_4_code
def yX2_lamp : MethodName := ⟨RX2, "lamp", "(II)I"⟩
abbrev cX2_lid : ByteArray := prog_1_method_5_code
def yX2_lid : MethodName := ⟨RX2, "lid", "(II)I"⟩
abbrev cX2_setWind : ByteArray := prog_1_method_6_code
def yX2_setWind : MethodName := ⟨RX2, "setWind", "(II)I"⟩
abbrev cX2_hire : ByteArray := prog_1_method_7_code
def yX2_hire : MethodName := ⟨RX2, "hire", "(III)I"⟩
abbrev cX2_round : ByteArray := prog_1_method_8_code
def yX2_round : MethodName := ⟨RX2, "round", "(II)I"⟩
abbrev cX2_fill : ByteArray := prog_1_method_9_code
def yX2_fill : MethodName := ⟨RX2, "fill", "(II)I"⟩
abbrev cX2_way : ByteArray := prog_1_method_10_code
def yX2_way : MethodName := ⟨RX2, "way", "(II)I"⟩
abbrev cX2_told : ByteArray := prog_1_method_11_code
def yX2_told : MethodName := ⟨RX2, "told", "(II)I"⟩
abbrev cX2_lighter : ByteArray := prog_1_method_12_code
def yX2_lighter : MethodName := ⟨RX2, "lighter", "(II)I"⟩
abbrev cX2_burning : ByteArray := prog_1_method_13_code
def yX2_burning : MethodName := ⟨RX2, "burning", "(I)I"⟩
abbrev cX2_count : ByteArray := prog_1_method_14_code
def yX2_count : MethodName := ⟨RX2, "count", "(I)I"⟩
abbrev cX2_pass : ByteArray := prog_1_method_15_code
def yX2_pass : MethodName := ⟨RX2, "pass", "(I)I"⟩
abbrev cX2_dawn : ByteArray := prog_1_method_16_code
def yX2_dawn : MethodName := ⟨RX2, "dawn", "()I"⟩
abbrev cX2_comes : ByteArray := prog_1_method_17_code
def yX2_comes : MethodName := ⟨RX2, "comes", "(I)I"⟩
abbrev cX2_darkest : ByteArray := prog_1_method_18_code
def yX2_darkest : MethodName := ⟨RX2, "darkest", "()I"⟩
abbrev cX2_needs : ByteArray := prog_1_method_19_code
def yX2_needs : MethodName := ⟨RX2, "needs", "(I)I"⟩
abbrev cX2_foresee : ByteArray := prog_1_method_20_code
def yX2_foresee : MethodName := ⟨RX2, "foresee", "(II)I"⟩
abbrev cX2_mean : ByteArray := prog_1_method_21_code
def yX2_mean : MethodName := ⟨RX2, "mean", "()D"⟩
abbrev cX2_digest : ByteArray := prog_1_method_22_code
def yX2_digest : MethodName := ⟨RX2, "digest", "()J"⟩
abbrev cX2_requireIndex : ByteArray := prog_1_method_23_code
def yX2_requireIndex : MethodName := ⟨RX2, "requireIndex", "(II)V"⟩
abbrev cX2_requireRange : ByteArray := prog_1_method_24_code
def yX2_requireRange : MethodName := ⟨RX2, "requireRange", "(III)V"⟩
abbrev cX2_requireRoom : ByteArray := prog_1_method_25_code
def yX2_requireRoom : MethodName := ⟨RX2, "requireRoom", "(II)V"⟩
abbrev cX2_clearDarkMinutes : ByteArray := prog_1_method_26_code
def yX2_clearDarkMinutes : MethodName := ⟨RX2, "clearDarkMinutes", "()V"⟩
abbrev cX2_addDarkMinute : ByteArray := prog_1_method_27_code
def yX2_addDarkMinute : MethodName := ⟨RX2, "addDarkMinute", "()V"⟩
abbrev cX2_streetOfMostDarkMinutes : ByteArray := prog_1_method_28_code
def yX2_streetOfMostDarkMinutes : MethodName := ⟨RX2, "streetOfMostDarkMinutes", "()I"⟩
abbrev cX2_digestStreets : ByteArray := prog_1_method_29_code
def yX2_digestStreets : MethodName := ⟨RX2, "digestStreets", "(J)J"⟩
abbrev cX2_digestLamps : ByteArray := prog_1_method_30_code
def yX2_digestLamps : MethodName := ⟨RX2, "digestLamps", "(J)J"⟩
abbrev cX2_digestLighters : ByteArray := prog_1_method_31_code
def yX2_digestLighters : MethodName := ⟨RX2, "digestLighters", "(J)J"⟩
def RX3 : String := "LampHillsModel"
def TX3 : u_T := fun k => match k with
  | 0 => ("LampHillsModel", "thrown", "I", false)
  | 1 => ("LampHillsModel", "corners", "I", false)
  | 2 => ("LampHillsModel", "streets", "I", false)
  | 3 => ("LampHillsModel", "lamps", "I", false)
  | 4 => ("LampHillsModel", "lighters", "I", false)
  | 5 => ("LampHillsModel", "heights", "[I", true)
  | 6 => ("LampHillsModel", "roads", "[I", true)
  | 7 => ("LampHillsModel", "ways", "[I", true)
  | 8 => ("LampHillsModel", "lights", "[I", true)
  | 9 => ("LampHillsModel", "people", "[I", true)
  | 10 => ("LampHillsModel", "rounds", "[I", true)
  | 11 => ("LampHillsModel", "winds", "[I", true)
  | _ => ("LampHillsModel", "numbers", "[I", true)
def tyX3 : Nat → FieldType := fun k => match k with
  | 0 => .int
  | 1 => .int
  | 2 => .int
  | 3 => .int
  | 4 => .int
  | 5 => .array .int
  | 6 => .array .int
  | 7 => .array .int
  | 8 => .array .int
  | 9 => .array .int
  | 10 => .array .int
  | 11 => .array .int
  | _ => .array .int
abbrev wsX30 : List Cond := u_ws RX3 TX3 13
theorem nmX3 : ∀ a, a < 13 → ∀ b, b < 13 → a ≠ b → (TX3 a).2.1 ≠ (TX3 b).2.1 := by decide +kernel
theorem tyX3_ok : ∀ k, k < 13 → parseFieldDescriptor (TX3 k).2.2.1 = some (tyX3 k) := by decide +kernel
abbrev cX3_init : ByteArray := prog_5_method_1_code
def yX3_init : MethodName := ⟨RX3, "<init>", "()V"⟩
abbrev cX3_thrown : ByteArray := prog_5_method_2_code
def yX3_thrown : MethodName := ⟨RX3, "thrown", "()I"⟩
abbrev cX3_fail : ByteArray := prog_5_method_3_code
def yX3_fail : MethodName := ⟨RX3, "fail", "(I)I"⟩
abbrev cX3_isIn : ByteArray := prog_5_method_4_code
def yX3_isIn : MethodName := ⟨RX3, "isIn", "(III)Z"⟩
abbrev cX3_isCorner : ByteArray := prog_5_method_5_code
def yX3_isCorner : MethodName := ⟨RX3, "isCorner", "(I)Z"⟩
abbrev cX3_isStreet : ByteArray := prog_5_method_6_code
def yX3_isStreet : MethodName := ⟨RX3, "isStreet", "(I)Z"⟩
abbrev cX3_isLamp : ByteArray := prog_5_method_7_code
def yX3_isLamp : MethodName := ⟨RX3, "isLamp", "(I)Z"⟩
abbrev cX3_isLighter : ByteArray := prog_5_method_8_code
def yX3_isLighter : MethodName := ⟨RX3, "isLighter", "(I)Z"⟩
abbrev cX3_ro : ByteArray := prog_5_method_9_code
def yX3_ro : MethodName := ⟨RX3, "ro", "(II)I"⟩
abbrev cX3_la : ByteArray := prog_5_method_10_code
def yX3_la : MethodName := ⟨RX3, "la", "(II)I"⟩
abbrev cX3_setLamp : ByteArray := prog_5_method_11_code
def yX3_setLamp : MethodName := ⟨RX3, "setLamp", "(III)V"⟩
abbrev cX3_pe : ByteArray := prog_5_method_12_code
def yX3_pe : MethodName := ⟨RX3, "pe", "(II)I"⟩
abbrev cX3_put : ByteArray := prog_5_method_13_code
def yX3_put : MethodName := ⟨RX3, "put", "(III)V"⟩
abbrev cX3_reckon : ByteArray := prog_5_method_14_code
def yX3_reckon : MethodName := ⟨RX3, "reckon", "()V"⟩
abbrev cX3_corner : ByteArray := prog_5_method_15_code
def yX3_corner : MethodName := ⟨RX3, "corner", "(I)I"⟩
abbrev cX3_street : ByteArray := prog_5_method_16_code
def yX3_street : MethodName := ⟨RX3, "street", "(III)I"⟩
abbrev cX3_lamp : ByteArray := prog_5_method_17_code
def yX3_lamp : MethodName := ⟨RX3, "lamp", "(II)I"⟩
abbrev cX3_lid : ByteArray := prog_5_method_18_code
def yX3_lid : MethodName := ⟨RX3, "lid", "(II)I"⟩
abbrev cX3_setWind : ByteArray := prog_5_method_19_code
def yX3_setWind : MethodName := ⟨RX3, "setWind", "(II)I"⟩
abbrev cX3_hire : ByteArray := prog_5_method_20_code
def yX3_hire : MethodName := ⟨RX3, "hire", "(III)I"⟩
abbrev cX3_round : ByteArray := prog_5_method_21_code
def yX3_round : MethodName := ⟨RX3, "round", "(II)I"⟩
abbrev cX3_fill : ByteArray := prog_5_method_22_code
def yX3_fill : MethodName := ⟨RX3, "fill", "(II)I"⟩
abbrev cX3_away : ByteArray := prog_5_method_23_code
def yX3_away : MethodName := ⟨RX3, "away", "(II)I"⟩
abbrev cX3_way : ByteArray := prog_5_method_24_code
def yX3_way : MethodName := ⟨RX3, "way", "(II)I"⟩
abbrev cX3_goer : ByteArray := prog_5_method_25_code
def yX3_goer : MethodName := ⟨RX3, "goer", "(I)I"⟩
abbrev cX3_lampTold : ByteArray := prog_5_method_26_code
def yX3_lampTold : MethodName := ⟨RX3, "lampTold", "(II)I"⟩
abbrev cX3_told : ByteArray := prog_5_method_27_code
def yX3_told : MethodName := ⟨RX3, "told", "(II)I"⟩
abbrev cX3_lighterTold : ByteArray := prog_5_method_28_code
def yX3_lighterTold : MethodName := ⟨RX3, "lighterTold", "(II)I"⟩
abbrev cX3_lighter : ByteArray := prog_5_method_29_code
def yX3_lighter : MethodName := ⟨RX3, "lighter", "(II)I"⟩
abbrev cX3_burns : ByteArray := prog_5_method_30_code
def yX3_burns : MethodName := ⟨RX3, "burns", "(I)I"⟩
abbrev cX3_burning : ByteArray := prog_5_method_31_code
def yX3_burning : MethodName := ⟨RX3, "burning", "(I)I"⟩
abbrev cX3_all : ByteArray := prog_5_method_32_code
def yX3_all : MethodName := ⟨RX3, "all", "(I)I"⟩
abbrev cX3_dark : ByteArray := prog_5_method_33_code
def yX3_dark : MethodName := ⟨RX3, "dark", "()I"⟩
abbrev cX3_counted : ByteArray := prog_5_method_34_code
def yX3_counted : MethodName := ⟨RX3, "counted", "(I)I"⟩
abbrev cX3_count : ByteArray := prog_5_method_35_code
def yX3_count : MethodName := ⟨RX3, "count", "(I)I"⟩
abbrev cX3_corner_ : ByteArray := prog_5_method_36_code
def yX3_corner_ : MethodName := ⟨RX3, "corner", "(II)I"⟩
abbrev cX3_look : ByteArray := prog_5_method_37_code
def yX3_look : MethodName := ⟨RX3, "look", "(I)V"⟩
abbrev cX3_goOn : ByteArray := prog_5_method_38_code
def yX3_goOn : MethodName := ⟨RX3, "goOn", "(I)I"⟩
abbrev cX3_gust : ByteArray := prog_5_method_39_code
def yX3_gust : MethodName := ⟨RX3, "gust", "(II)I"⟩
abbrev cX3_burn : ByteArray := prog_5_method_40_code
def yX3_burn : MethodName := ⟨RX3, "burn", "(I)V"⟩
abbrev cX3_isOver : ByteArray := prog_5_method_41_code
def yX3_isOver : MethodName := ⟨RX3, "isOver", "()Z"⟩
abbrev cX3_minuteOn : ByteArray := prog_5_method_42_code
def yX3_minuteOn : MethodName := ⟨RX3, "minuteOn", "()I"⟩
abbrev cX3_minutesOn : ByteArray := prog_5_method_43_code
def yX3_minutesOn : MethodName := ⟨RX3, "minutesOn", "(I)V"⟩
abbrev cX3_pass : ByteArray := prog_5_method_44_code
def yX3_pass : MethodName := ⟨RX3, "pass", "(I)I"⟩
abbrev cX3_dawn : ByteArray := prog_5_method_45_code
def yX3_dawn : MethodName := ⟨RX3, "dawn", "()I"⟩
abbrev cX3_kept : ByteArray := prog_5_method_46_code
def yX3_kept : MethodName := ⟨RX3, "kept", "()[[I"⟩
abbrev cX3_bringBack : ByteArray := prog_5_method_47_code
def yX3_bringBack : MethodName := ⟨RX3, "bringBack", "([[I)V"⟩
abbrev cX3_comes : ByteArray := prog_5_method_48_code
def yX3_comes : MethodName := ⟨RX3, "comes", "(I)I"⟩
abbrev cX3_darkest : ByteArray := prog_5_method_49_code
def yX3_darkest : MethodName := ⟨RX3, "darkest", "()I"⟩
abbrev cX3_needs : ByteArray := prog_5_method_50_code
def yX3_needs : MethodName := ⟨RX3, "needs", "(I)I"⟩
abbrev cX3_foresee : ByteArray := prog_5_method_51_code
def yX3_foresee : MethodName := ⟨RX3, "foresee", "(II)I"⟩
abbrev cX3_mean : ByteArray := prog_5_method_52_code
def yX3_mean : MethodName := ⟨RX3, "mean", "()D"⟩
abbrev cX3_digest : ByteArray := prog_5_method_53_code
def yX3_digest : MethodName := ⟨RX3, "digest", "()J"⟩
def RJx8e188 : String := "java/lang/Cloneable"
def TJx8e188 : u_T := fun k => match k with
  | _ => ("", "", "", false)
def tyJx8e188 : Nat → FieldType := fun k => match k with
  | _ => .int
abbrev wsJx8e1880 : List Cond := u_ws RJx8e188 TJx8e188 0
theorem nmJx8e188 : ∀ a, a < 0 → ∀ b, b < 0 → a ≠ b → (TJx8e188 a).2.1 ≠ (TJx8e188 b).2.1 := by decide +kernel
theorem tyJx8e188_ok : ∀ k, k < 0 → parseFieldDescriptor (TJx8e188 k).2.2.1 = some (tyJx8e188 k) := by decide +kernel
def RJ9 : String := "java/lang/Math"
def TJ9 : u_T := fun k => match k with
  | _ => ("", "", "", false)
def tyJ9 : Nat → FieldType := fun k => match k with
  | _ => .int
abbrev wsJ90 : List Cond := u_ws RJ9 TJ9 0
theorem nmJ9 : ∀ a, a < 0 → ∀ b, b < 0 → a ≠ b → (TJ9 a).2.1 ≠ (TJ9 b).2.1 := by decide +kernel
theorem tyJ9_ok : ∀ k, k < 0 → parseFieldDescriptor (TJ9 k).2.2.1 = some (tyJ9 k) := by decide +kernel
abbrev cJ9_max_7cf53 : ByteArray := prog_11_method_65_code
def yJ9_max_7cf53 : MethodName := ⟨RJ9, "max", "(II)I"⟩
abbrev cJ9_min_7cf53 : ByteArray := prog_11_method_69_code
def yJ9_min_7cf53 : MethodName := ⟨RJ9, "min", "(II)I"⟩
def RJ0 : String := "java/lang/String"
def TJ0 : u_T := fun k => match k with
  | _ => ("", "", "", false)
def tyJ0 : Nat → FieldType := fun k => match k with
  | _ => .int
abbrev wsJ00 : List Cond := u_ws RJ0 TJ0 0
theorem nmJ0 : ∀ a, a < 0 → ∀ b, b < 0 → a ≠ b → (TJ0 a).2.1 ≠ (TJ0 b).2.1 := by decide +kernel
theorem tyJ0_ok : ∀ k, k < 0 → parseFieldDescriptor (TJ0 k).2.2.1 = some (tyJ0 k) := by decide +kernel
def RJ10 : String := "java/lang/System"
def TJ10 : u_T := fun k => match k with
  | _ => ("", "", "", false)
def tyJ10 : Nat → FieldType := fun k => match k with
  | _ => .int
abbrev wsJ100 : List Cond := u_ws RJ10 TJ10 0
theorem nmJ10 : ∀ a, a < 0 → ∀ b, b < 0 → a ≠ b → (TJ10 a).2.1 ≠ (TJ10 b).2.1 := by decide +kernel
theorem tyJ10_ok : ∀ k, k < 0 → parseFieldDescriptor (TJ10 k).2.2.1 = some (tyJ10 k) := by decide +kernel
def RL : String := "LampHillsLaw"
abbrev cL_corner : ByteArray := method_3_code
def yL_corner : MethodName := ⟨RL, "corner", "(LLampHills;I[J)I"⟩
abbrev cL_street : ByteArray := method_4_code
def yL_street : MethodName := ⟨RL, "street", "(LLampHills;III[J)I"⟩
abbrev cL_lamp : ByteArray := method_5_code
def yL_lamp : MethodName := ⟨RL, "lamp", "(LLampHills;II[J)I"⟩
abbrev cL_lid : ByteArray := method_6_code
def yL_lid : MethodName := ⟨RL, "lid", "(LLampHills;II[J)I"⟩
abbrev cL_setWind : ByteArray := method_7_code
def yL_setWind : MethodName := ⟨RL, "setWind", "(LLampHills;II[J)I"⟩
abbrev cL_hire : ByteArray := method_8_code
def yL_hire : MethodName := ⟨RL, "hire", "(LLampHills;III[J)I"⟩
abbrev cL_round : ByteArray := method_9_code
def yL_round : MethodName := ⟨RL, "round", "(LLampHills;II[J)I"⟩
abbrev cL_fill : ByteArray := method_10_code
def yL_fill : MethodName := ⟨RL, "fill", "(LLampHills;II[J)I"⟩
abbrev cL_way : ByteArray := method_11_code
def yL_way : MethodName := ⟨RL, "way", "(LLampHills;II[J)I"⟩
abbrev cL_told : ByteArray := method_12_code
def yL_told : MethodName := ⟨RL, "told", "(LLampHills;II[J)I"⟩
abbrev cL_lighter : ByteArray := method_13_code
def yL_lighter : MethodName := ⟨RL, "lighter", "(LLampHills;II[J)I"⟩
abbrev cL_burning : ByteArray := method_14_code
def yL_burning : MethodName := ⟨RL, "burning", "(LLampHills;I[J)I"⟩
abbrev cL_count : ByteArray := method_15_code
def yL_count : MethodName := ⟨RL, "count", "(LLampHills;I[J)I"⟩
abbrev cL_pass : ByteArray := method_16_code
def yL_pass : MethodName := ⟨RL, "pass", "(LLampHills;I[J)I"⟩
abbrev cL_dawn : ByteArray := method_17_code
def yL_dawn : MethodName := ⟨RL, "dawn", "(LLampHills;[J)I"⟩
abbrev cL_comes : ByteArray := method_18_code
def yL_comes : MethodName := ⟨RL, "comes", "(LLampHills;I[J)I"⟩
abbrev cL_needs : ByteArray := method_19_code
def yL_needs : MethodName := ⟨RL, "needs", "(LLampHills;I[J)I"⟩
abbrev cL_foresee : ByteArray := method_20_code
def yL_foresee : MethodName := ⟨RL, "foresee", "(LLampHills;II[J)I"⟩
abbrev cL_law : ByteArray := code
def yL_law : MethodName := ⟨RL, "law", "([I)Z"⟩
def wsX0_init : List Cond := .code yX0_init cX0_init 1 none :: ([.methodLink RX0 3 objectInit, .instanceMethod objectInit, .code objectInit ⟨#[0xb1]⟩ 1 none, .arrayClass .int, .fieldLink RX0 9 "LampHills$Night" "burningIn" "[I", .fieldLink RX0 15 "LampHills$Night" "oil" "[I", .fieldLink RX0 18 "LampHills$Night" "soot" "[I", .arrayClass .boolean, .fieldLink RX0 21 "LampHills$Night" "burns" "[Z", .fieldLink RX0 25 "LampHills$Night" "timesLit" "[I", .fieldLink RX0 28 "LampHills$Night" "timesBlownOut" "[I", .fieldLink RX0 31 "LampHills$Night" "at" "[I", .fieldLink RX0 34 "LampHills$Night" "can" "[I", .fieldLink RX0 37 "LampHills$Night" "goesTo" "[I", .fieldLink RX0 40 "LampHills$Night" "goal" "[I", .fieldLink RX0 43 "LampHills$Night" "minutesLeft" "[I", .fieldLink RX0 46 "LampHills$Night" "latestPlace" "[I", .fieldLink RX0 49 "LampHills$Night" "litBy" "[I"] ++ wsX00)
def wsX0_copy : List Cond := .code yX0_copy cX0_copy 3 none :: ([.fieldLink RX0 52 "LampHills$Night" "minute" "I", .fieldLink RX0 56 "LampHills$Night" "number" "I", .fieldLink RX0 59 "LampHills$Night" "oilUsed" "I", .fieldLink RX0 9 "LampHills$Night" "burningIn" "[I", .methodLink RX0 62 arraycopyName, .native arraycopyName, .static arraycopyName, .initialized "java/lang/System", .fieldLink RX0 15 "LampHills$Night" "oil" "[I", .fieldLink RX0 18 "LampHills$Night" "soot" "[I", .fieldLink RX0 21 "LampHills$Night" "burns" "[Z", .fieldLink RX0 25 "LampHills$Night" "timesLit" "[I", .fieldLink RX0 28 "LampHills$Night" "timesBlownOut" "[I", .fieldLink RX0 31 "LampHills$Night" "at" "[I", .fieldLink RX0 34 "LampHills$Night" "can" "[I", .fieldLink RX0 37 "LampHills$Night" "goesTo" "[I", .fieldLink RX0 40 "LampHills$Night" "goal" "[I", .fieldLink RX0 43 "LampHills$Night" "minutesLeft" "[I", .fieldLink RX0 46 "LampHills$Night" "latestPlace" "[I", .fieldLink RX0 49 "LampHills$Night" "litBy" "[I"] ++ wsX00)
def wsX0_whoGoesTo : List Cond := .code yX0_whoGoesTo cX0_whoGoesTo 4 (some .int) :: ([.fieldLink RX0 91 "LampHills$Town" "lighters" "I", .fieldLink RX0 37 "LampHills$Night" "goesTo" "[I"] ++ wsX10 ++ wsX00)
def wsX1_nearerEnd : List Cond := .code yX1_nearerEnd cX1_nearerEnd 6 (some .int) :: ([.fieldLink RX1 29 "LampHills$Town" "lampStreet" "[I", .fieldLink RX1 20 "LampHills$Town" "firstEnd" "[I", .fieldLink RX1 23 "LampHills$Town" "secondEnd" "[I", .fieldLink RX1 17 "LampHills$Town" "ways" "[[I"] ++ wsX10)
def wsX1_canReach : List Cond := .code yX1_canReach cX1_canReach 4 (some .boolean) :: ([.fieldLink RX1 32 "LampHills$Town" "lampHeight" "[I", .fieldLink RX1 44 "LampHills$Town" "ladder" "[I", .fieldLink RX1 17 "LampHills$Town" "ways" "[[I", .constant RX1 57 (1000000), .methodLink RX1 84 yX1_nearerEnd, .instanceMethod yX1_nearerEnd, .selects RX1 yX1_nearerEnd yX1_nearerEnd, .initialized RX1, .code yX1_nearerEnd cX1_nearerEnd 6 (some .int), .fieldLink RX1 29 "LampHills$Town" "lampStreet" "[I", .fieldLink RX1 20 "LampHills$Town" "firstEnd" "[I", .fieldLink RX1 23 "LampHills$Town" "secondEnd" "[I"] ++ wsX10)
def wsX0_placeOfNextLamp_r1 : List Cond := [Cond.fieldLink RX0 133 "LampHills$Town" "roundSize" "[I", Cond.fieldLink RX0 46 "LampHills$Night" "latestPlace" "[I", Cond.fieldLink RX0 122 "LampHills$Town" "rounds" "[[I", Cond.fieldLink RX0 21 "LampHills$Night" "burns" "[Z", Cond.fieldLink RX0 31 "LampHills$Night" "at" "[I", Cond.methodLink RX0 136 yX0_whoGoesTo, Cond.instanceMethod yX0_whoGoesTo, Cond.selects RX0 yX0_whoGoesTo yX0_whoGoesTo, Cond.initialized RX0, Cond.code yX0_whoGoesTo cX0_whoGoesTo 4 (some .int), Cond.fieldLink RX0 91 "LampHills$Town" "lighters" "I", Cond.fieldLink RX0 37 "LampHills$Night" "goesTo" "[I", Cond.methodLink RX0 139 yX1_canReach, Cond.instanceMethod yX1_canReach, Cond.selects RX1 yX1_canReach yX1_canReach, Cond.initialized RX1, Cond.code yX1_canReach cX1_canReach 4 (some .boolean), Cond.fieldLink RX1 32 "LampHills$Town" "lampHeight" "[I", Cond.fieldLink RX1 44 "LampHills$Town" "ladder" "[I", Cond.fieldLink RX1 17 "LampHills$Town" "ways" "[[I", Cond.constant RX1 57 (1000000), Cond.methodLink RX1 84 yX1_nearerEnd, Cond.instanceMethod yX1_nearerEnd, Cond.selects RX1 yX1_nearerEnd yX1_nearerEnd]
def wsX0_placeOfNextLamp_r2 : List Cond := [Cond.code yX1_nearerEnd cX1_nearerEnd 6 (some .int), Cond.fieldLink RX1 29 "LampHills$Town" "lampStreet" "[I", Cond.fieldLink RX1 20 "LampHills$Town" "firstEnd" "[I", Cond.fieldLink RX1 23 "LampHills$Town" "secondEnd" "[I"]
def wsX0_placeOfNextLamp : List Cond := .code yX0_placeOfNextLamp cX0_placeOfNextLamp 7 (some .int) :: ((wsX0_placeOfNextLamp_r1 ++ wsX0_placeOfNextLamp_r2) ++ wsX10 ++ wsX00)
def wsX0_lookForLamp_r1 : List Cond := [Cond.fieldLink RX0 122 "LampHills$Town" "rounds" "[[I", Cond.fieldLink RX0 34 "LampHills$Night" "can" "[I", Cond.fieldLink RX0 15 "LampHills$Night" "oil" "[I", Cond.fieldLink RX0 37 "LampHills$Night" "goesTo" "[I", Cond.fieldLink RX0 46 "LampHills$Night" "latestPlace" "[I", Cond.fieldLink RX0 40 "LampHills$Night" "goal" "[I", Cond.fieldLink RX0 31 "LampHills$Night" "at" "[I", Cond.fieldLink RX0 43 "LampHills$Night" "minutesLeft" "[I", Cond.fieldLink RX0 130 "LampHills$Town" "ways" "[[I", Cond.methodLink RX0 118 yX0_placeOfNextLamp, Cond.instanceMethod yX0_placeOfNextLamp, Cond.selects RX0 yX0_placeOfNextLamp yX0_placeOfNextLamp, Cond.initialized RX0, Cond.code yX0_placeOfNextLamp cX0_placeOfNextLamp 7 (some .int), Cond.fieldLink RX0 133 "LampHills$Town" "roundSize" "[I", Cond.fieldLink RX0 21 "LampHills$Night" "burns" "[Z", Cond.methodLink RX0 136 yX0_whoGoesTo, Cond.instanceMethod yX0_whoGoesTo, Cond.selects RX0 yX0_whoGoesTo yX0_whoGoesTo, Cond.code yX0_whoGoesTo cX0_whoGoesTo 4 (some .int), Cond.fieldLink RX0 91 "LampHills$Town" "lighters" "I", Cond.methodLink RX0 139 yX1_canReach, Cond.instanceMethod yX1_canReach, Cond.selects RX1 yX1_canReach yX1_canReach]
def wsX0_lookForLamp_r2 : List Cond := [Cond.initialized RX1, Cond.code yX1_canReach cX1_canReach 4 (some .boolean), Cond.fieldLink RX1 32 "LampHills$Town" "lampHeight" "[I", Cond.fieldLink RX1 44 "LampHills$Town" "ladder" "[I", Cond.fieldLink RX1 17 "LampHills$Town" "ways" "[[I", Cond.constant RX1 57 (1000000), Cond.methodLink RX1 84 yX1_nearerEnd, Cond.instanceMethod yX1_nearerEnd, Cond.selects RX1 yX1_nearerEnd yX1_nearerEnd, Cond.code yX1_nearerEnd cX1_nearerEnd 6 (some .int), Cond.fieldLink RX1 29 "LampHills$Town" "lampStreet" "[I", Cond.fieldLink RX1 20 "LampHills$Town" "firstEnd" "[I", Cond.fieldLink RX1 23 "LampHills$Town" "secondEnd" "[I", Cond.methodLink RX0 126 yX1_nearerEnd]
def wsX0_lookForLamp : List Cond := .code yX0_lookForLamp cX0_lookForLamp 5 none :: ((wsX0_lookForLamp_r1 ++ wsX0_lookForLamp_r2) ++ wsX10 ++ wsX00)
def wsX0_waitFromNow : List Cond := .code yX0_waitFromNow cX0_waitFromNow 2 none :: ([.fieldLink RX0 37 "LampHills$Night" "goesTo" "[I", .fieldLink RX0 43 "LampHills$Night" "minutesLeft" "[I"] ++ wsX00)
def wsX0_tendLamp : List Cond := .code yX0_tendLamp cX0_tendLamp 5 (some .boolean) :: ([.fieldLink RX0 37 "LampHills$Night" "goesTo" "[I", .fieldLink RX0 31 "LampHills$Night" "at" "[I", .fieldLink RX0 40 "LampHills$Night" "goal" "[I", .fieldLink RX0 34 "LampHills$Night" "can" "[I", .fieldLink RX0 15 "LampHills$Night" "oil" "[I", .methodLink RX0 143 Lib.Math.min.name, .static Lib.Math.min.name, .initialized "java/lang/Math", .code Lib.Math.min.name Lib.Math.min.code 2 (some .int), .fieldLink RX0 18 "LampHills$Night" "soot" "[I", .fieldLink RX0 21 "LampHills$Night" "burns" "[Z", .fieldLink RX0 9 "LampHills$Night" "burningIn" "[I", .fieldLink RX0 148 "LampHills$Town" "lampStreet" "[I", .fieldLink RX0 25 "LampHills$Night" "timesLit" "[I", .fieldLink RX0 49 "LampHills$Night" "litBy" "[I", .methodLink RX0 100 yX0_waitFromNow, .instanceMethod yX0_waitFromNow, .selects RX0 yX0_waitFromNow yX0_waitFromNow, .initialized RX0, .code yX0_waitFromNow cX0_waitFromNow 2 none, .fieldLink RX0 43 "LampHills$Night" "minutesLeft" "[I"] ++ wsX00 ++ wsX10)
def wsX0_moveLighters_r1 : List Cond := [Cond.fieldLink RX0 91 "LampHills$Town" "lighters" "I", Cond.fieldLink RX0 37 "LampHills$Night" "goesTo" "[I", Cond.fieldLink RX0 43 "LampHills$Night" "minutesLeft" "[I", Cond.methodLink RX0 111 yX0_lookForLamp, Cond.instanceMethod yX0_lookForLamp, Cond.selects RX0 yX0_lookForLamp yX0_lookForLamp, Cond.initialized RX0, Cond.code yX0_lookForLamp cX0_lookForLamp 5 none, Cond.fieldLink RX0 122 "LampHills$Town" "rounds" "[[I", Cond.fieldLink RX0 34 "LampHills$Night" "can" "[I", Cond.fieldLink RX0 15 "LampHills$Night" "oil" "[I", Cond.fieldLink RX0 46 "LampHills$Night" "latestPlace" "[I", Cond.fieldLink RX0 40 "LampHills$Night" "goal" "[I", Cond.fieldLink RX0 31 "LampHills$Night" "at" "[I", Cond.fieldLink RX0 130 "LampHills$Town" "ways" "[[I", Cond.methodLink RX0 118 yX0_placeOfNextLamp, Cond.instanceMethod yX0_placeOfNextLamp, Cond.selects RX0 yX0_placeOfNextLamp yX0_placeOfNextLamp, Cond.code yX0_placeOfNextLamp cX0_placeOfNextLamp 7 (some .int), Cond.fieldLink RX0 133 "LampHills$Town" "roundSize" "[I", Cond.fieldLink RX0 21 "LampHills$Night" "burns" "[Z", Cond.methodLink RX0 136 yX0_whoGoesTo, Cond.instanceMethod yX0_whoGoesTo, Cond.selects RX0 yX0_whoGoesTo yX0_whoGoesTo]
def wsX0_moveLighters_r2 : List Cond := [Cond.code yX0_whoGoesTo cX0_whoGoesTo 4 (some .int), Cond.methodLink RX0 139 yX1_canReach, Cond.instanceMethod yX1_canReach, Cond.selects RX1 yX1_canReach yX1_canReach, Cond.initialized RX1, Cond.code yX1_canReach cX1_canReach 4 (some .boolean), Cond.fieldLink RX1 32 "LampHills$Town" "lampHeight" "[I", Cond.fieldLink RX1 44 "LampHills$Town" "ladder" "[I", Cond.fieldLink RX1 17 "LampHills$Town" "ways" "[[I", Cond.constant RX1 57 (1000000), Cond.methodLink RX1 84 yX1_nearerEnd, Cond.instanceMethod yX1_nearerEnd, Cond.selects RX1 yX1_nearerEnd yX1_nearerEnd, Cond.code yX1_nearerEnd cX1_nearerEnd 6 (some .int), Cond.fieldLink RX1 29 "LampHills$Town" "lampStreet" "[I", Cond.fieldLink RX1 20 "LampHills$Town" "firstEnd" "[I", Cond.fieldLink RX1 23 "LampHills$Town" "secondEnd" "[I", Cond.methodLink RX0 126 yX1_nearerEnd, Cond.methodLink RX0 114 yX0_tendLamp, Cond.instanceMethod yX0_tendLamp, Cond.selects RX0 yX0_tendLamp yX0_tendLamp, Cond.code yX0_tendLamp cX0_tendLamp 5 (some .boolean), Cond.methodLink RX0 143 Lib.Math.min.name, Cond.static Lib.Math.min.name]
def wsX0_moveLighters_r3 : List Cond := [Cond.initialized "java/lang/Math", Cond.code Lib.Math.min.name Lib.Math.min.code 2 (some .int), Cond.fieldLink RX0 18 "LampHills$Night" "soot" "[I", Cond.fieldLink RX0 9 "LampHills$Night" "burningIn" "[I", Cond.fieldLink RX0 148 "LampHills$Town" "lampStreet" "[I", Cond.fieldLink RX0 25 "LampHills$Night" "timesLit" "[I", Cond.fieldLink RX0 49 "LampHills$Night" "litBy" "[I", Cond.methodLink RX0 100 yX0_waitFromNow, Cond.instanceMethod yX0_waitFromNow, Cond.selects RX0 yX0_waitFromNow yX0_waitFromNow, Cond.code yX0_waitFromNow cX0_waitFromNow 2 none]
def wsX0_moveLighters : List Cond := .code yX0_moveLighters cX0_moveLighters 4 (some .int) :: ((wsX0_moveLighters_r1 ++ (wsX0_moveLighters_r2 ++ wsX0_moveLighters_r3)) ++ wsX10 ++ wsX00)
def wsX0_putOut : List Cond := .code yX0_putOut cX0_putOut 3 none :: ([.fieldLink RX0 21 "LampHills$Night" "burns" "[Z", .fieldLink RX0 9 "LampHills$Night" "burningIn" "[I", .fieldLink RX0 148 "LampHills$Town" "lampStreet" "[I"] ++ wsX00 ++ wsX10)
def wsX0_useOil : List Cond := .code yX0_useOil cX0_useOil 4 none :: ([.fieldLink RX0 15 "LampHills$Night" "oil" "[I", .fieldLink RX0 18 "LampHills$Night" "soot" "[I", .methodLink RX0 143 Lib.Math.min.name, .static Lib.Math.min.name, .initialized "java/lang/Math", .code Lib.Math.min.name Lib.Math.min.code 2 (some .int), .fieldLink RX0 59 "LampHills$Night" "oilUsed" "I", .methodLink RX0 88 yX0_putOut, .instanceMethod yX0_putOut, .selects RX0 yX0_putOut yX0_putOut, .initialized RX0, .code yX0_putOut cX0_putOut 3 none, .fieldLink RX0 21 "LampHills$Night" "burns" "[Z", .fieldLink RX0 9 "LampHills$Night" "burningIn" "[I", .fieldLink RX0 148 "LampHills$Town" "lampStreet" "[I"] ++ wsX00 ++ wsX10)
def wsX0_burnLamps : List Cond := .code yX0_burnLamps cX0_burnLamps 3 none :: ([.fieldLink RX0 85 "LampHills$Town" "lamps" "I", .fieldLink RX0 21 "LampHills$Night" "burns" "[Z", .fieldLink RX0 52 "LampHills$Night" "minute" "I", .fieldLink RX0 18 "LampHills$Night" "soot" "[I", .methodLink RX0 143 Lib.Math.min.name, .static Lib.Math.min.name, .initialized "java/lang/Math", .code Lib.Math.min.name Lib.Math.min.code 2 (some .int), .methodLink RX0 151 yX0_useOil, .instanceMethod yX0_useOil, .selects RX0 yX0_useOil yX0_useOil, .initialized RX0, .code yX0_useOil cX0_useOil 4 none, .fieldLink RX0 15 "LampHills$Night" "oil" "[I", .fieldLink RX0 59 "LampHills$Night" "oilUsed" "I", .methodLink RX0 88 yX0_putOut, .instanceMethod yX0_putOut, .selects RX0 yX0_putOut yX0_putOut, .code yX0_putOut cX0_putOut 3 none, .fieldLink RX0 9 "LampHills$Night" "burningIn" "[I", .fieldLink RX0 148 "LampHills$Town" "lampStreet" "[I"] ++ wsX10 ++ wsX00)
def wsX1_windAtLamp : List Cond := .code yX1_windAtLamp cX1_windAtLamp 4 (some .int) :: ([.fieldLink RX1 29 "LampHills$Town" "lampStreet" "[I", .fieldLink RX1 9 "LampHills$Town" "height" "[I", .fieldLink RX1 20 "LampHills$Town" "firstEnd" "[I", .fieldLink RX1 23 "LampHills$Town" "secondEnd" "[I", .methodLink RX1 75 Lib.Math.max.name, .static Lib.Math.max.name, .initialized "java/lang/Math", .code Lib.Math.max.name Lib.Math.max.code 2 (some .int)] ++ wsX10)
def wsX0_blow : List Cond := .code yX0_blow cX0_blow 4 none :: ([.fieldLink RX0 85 "LampHills$Town" "lamps" "I", .fieldLink RX0 21 "LampHills$Night" "burns" "[Z", .fieldLink RX0 157 "LampHills$Town" "lid" "[I", .fieldLink RX0 28 "LampHills$Night" "timesBlownOut" "[I", .methodLink RX0 154 yX1_windAtLamp, .instanceMethod yX1_windAtLamp, .selects RX1 yX1_windAtLamp yX1_windAtLamp, .initialized RX1, .code yX1_windAtLamp cX1_windAtLamp 4 (some .int), .fieldLink RX1 29 "LampHills$Town" "lampStreet" "[I", .fieldLink RX1 9 "LampHills$Town" "height" "[I", .fieldLink RX1 20 "LampHills$Town" "firstEnd" "[I", .fieldLink RX1 23 "LampHills$Town" "secondEnd" "[I", .methodLink RX1 75 Lib.Math.max.name, .static Lib.Math.max.name, .initialized "java/lang/Math", .code Lib.Math.max.name Lib.Math.max.code 2 (some .int), .methodLink RX0 88 yX0_putOut, .instanceMethod yX0_putOut, .selects RX0 yX0_putOut yX0_putOut, .initialized RX0, .code yX0_putOut cX0_putOut 3 none, .fieldLink RX0 9 "LampHills$Night" "burningIn" "[I", .fieldLink RX0 148 "LampHills$Town" "lampStreet" "[I"] ++ wsX10 ++ wsX00)
def wsX0_goBy_r1 : List Cond := [Cond.fieldLink RX0 52 "LampHills$Night" "minute" "I", Cond.fieldLink RX0 76 "LampHills$Town" "wind" "[I", Cond.methodLink RX0 68 yX0_moveLighters, Cond.instanceMethod yX0_moveLighters, Cond.selects RX0 yX0_moveLighters yX0_moveLighters, Cond.initialized RX0, Cond.code yX0_moveLighters cX0_moveLighters 4 (some .int), Cond.fieldLink RX0 91 "LampHills$Town" "lighters" "I", Cond.fieldLink RX0 37 "LampHills$Night" "goesTo" "[I", Cond.fieldLink RX0 43 "LampHills$Night" "minutesLeft" "[I", Cond.methodLink RX0 111 yX0_lookForLamp, Cond.instanceMethod yX0_lookForLamp, Cond.selects RX0 yX0_lookForLamp yX0_lookForLamp, Cond.code yX0_lookForLamp cX0_lookForLamp 5 none, Cond.fieldLink RX0 122 "LampHills$Town" "rounds" "[[I", Cond.fieldLink RX0 34 "LampHills$Night" "can" "[I", Cond.fieldLink RX0 15 "LampHills$Night" "oil" "[I", Cond.fieldLink RX0 46 "LampHills$Night" "latestPlace" "[I", Cond.fieldLink RX0 40 "LampHills$Night" "goal" "[I", Cond.fieldLink RX0 31 "LampHills$Night" "at" "[I", Cond.fieldLink RX0 130 "LampHills$Town" "ways" "[[I", Cond.methodLink RX0 118 yX0_placeOfNextLamp, Cond.instanceMethod yX0_placeOfNextLamp, Cond.selects RX0 yX0_placeOfNextLamp yX0_placeOfNextLamp]
def wsX0_goBy_r2 : List Cond := [Cond.code yX0_placeOfNextLamp cX0_placeOfNextLamp 7 (some .int), Cond.fieldLink RX0 133 "LampHills$Town" "roundSize" "[I", Cond.fieldLink RX0 21 "LampHills$Night" "burns" "[Z", Cond.methodLink RX0 136 yX0_whoGoesTo, Cond.instanceMethod yX0_whoGoesTo, Cond.selects RX0 yX0_whoGoesTo yX0_whoGoesTo, Cond.code yX0_whoGoesTo cX0_whoGoesTo 4 (some .int), Cond.methodLink RX0 139 yX1_canReach, Cond.instanceMethod yX1_canReach, Cond.selects RX1 yX1_canReach yX1_canReach, Cond.initialized RX1, Cond.code yX1_canReach cX1_canReach 4 (some .boolean), Cond.fieldLink RX1 32 "LampHills$Town" "lampHeight" "[I", Cond.fieldLink RX1 44 "LampHills$Town" "ladder" "[I", Cond.fieldLink RX1 17 "LampHills$Town" "ways" "[[I", Cond.constant RX1 57 (1000000), Cond.methodLink RX1 84 yX1_nearerEnd, Cond.instanceMethod yX1_nearerEnd, Cond.selects RX1 yX1_nearerEnd yX1_nearerEnd, Cond.code yX1_nearerEnd cX1_nearerEnd 6 (some .int), Cond.fieldLink RX1 29 "LampHills$Town" "lampStreet" "[I", Cond.fieldLink RX1 20 "LampHills$Town" "firstEnd" "[I", Cond.fieldLink RX1 23 "LampHills$Town" "secondEnd" "[I", Cond.methodLink RX0 126 yX1_nearerEnd]
def wsX0_goBy_r3 : List Cond := [Cond.methodLink RX0 114 yX0_tendLamp, Cond.instanceMethod yX0_tendLamp, Cond.selects RX0 yX0_tendLamp yX0_tendLamp, Cond.code yX0_tendLamp cX0_tendLamp 5 (some .boolean), Cond.methodLink RX0 143 Lib.Math.min.name, Cond.static Lib.Math.min.name, Cond.initialized "java/lang/Math", Cond.code Lib.Math.min.name Lib.Math.min.code 2 (some .int), Cond.fieldLink RX0 18 "LampHills$Night" "soot" "[I", Cond.fieldLink RX0 9 "LampHills$Night" "burningIn" "[I", Cond.fieldLink RX0 148 "LampHills$Town" "lampStreet" "[I", Cond.fieldLink RX0 25 "LampHills$Night" "timesLit" "[I", Cond.fieldLink RX0 49 "LampHills$Night" "litBy" "[I", Cond.methodLink RX0 100 yX0_waitFromNow, Cond.instanceMethod yX0_waitFromNow, Cond.selects RX0 yX0_waitFromNow yX0_waitFromNow, Cond.code yX0_waitFromNow cX0_waitFromNow 2 none, Cond.methodLink RX0 72 yX0_burnLamps, Cond.instanceMethod yX0_burnLamps, Cond.selects RX0 yX0_burnLamps yX0_burnLamps, Cond.code yX0_burnLamps cX0_burnLamps 3 none, Cond.fieldLink RX0 85 "LampHills$Town" "lamps" "I", Cond.methodLink RX0 151 yX0_useOil, Cond.instanceMethod yX0_useOil]
def wsX0_goBy_r4 : List Cond := [Cond.selects RX0 yX0_useOil yX0_useOil, Cond.code yX0_useOil cX0_useOil 4 none, Cond.fieldLink RX0 59 "LampHills$Night" "oilUsed" "I", Cond.methodLink RX0 88 yX0_putOut, Cond.instanceMethod yX0_putOut, Cond.selects RX0 yX0_putOut yX0_putOut, Cond.code yX0_putOut cX0_putOut 3 none, Cond.methodLink RX0 81 yX0_blow, Cond.instanceMethod yX0_blow, Cond.selects RX0 yX0_blow yX0_blow, Cond.code yX0_blow cX0_blow 4 none, Cond.fieldLink RX0 157 "LampHills$Town" "lid" "[I", Cond.fieldLink RX0 28 "LampHills$Night" "timesBlownOut" "[I", Cond.methodLink RX0 154 yX1_windAtLamp, Cond.instanceMethod yX1_windAtLamp, Cond.selects RX1 yX1_windAtLamp yX1_windAtLamp, Cond.code yX1_windAtLamp cX1_windAtLamp 4 (some .int), Cond.fieldLink RX1 9 "LampHills$Town" "height" "[I", Cond.methodLink RX1 75 Lib.Math.max.name, Cond.static Lib.Math.max.name, Cond.code Lib.Math.max.name Lib.Math.max.code 2 (some .int)]
def wsX0_goBy : List Cond := .code yX0_goBy cX0_goBy 5 (some .int) :: ((wsX0_goBy_r1 ++ (wsX0_goBy_r2 ++ (wsX0_goBy_r3 ++ wsX0_goBy_r4))) ++ wsX00 ++ wsX10)
def wsX0_sendHome : List Cond := .code yX0_sendHome cX0_sendHome 3 none :: ([.fieldLink RX0 31 "LampHills$Night" "at" "[I", .fieldLink RX0 97 "LampHills$Town" "home" "[I", .fieldLink RX0 46 "LampHills$Night" "latestPlace" "[I", .methodLink RX0 100 yX0_waitFromNow, .instanceMethod yX0_waitFromNow, .selects RX0 yX0_waitFromNow yX0_waitFromNow, .initialized RX0, .code yX0_waitFromNow cX0_waitFromNow 2 none, .fieldLink RX0 37 "LampHills$Night" "goesTo" "[I", .fieldLink RX0 43 "LampHills$Night" "minutesLeft" "[I"] ++ wsX00 ++ wsX10)
def wsX0_beginNext_r1 : List Cond := [Cond.fieldLink RX0 52 "LampHills$Night" "minute" "I", Cond.fieldLink RX0 56 "LampHills$Night" "number" "I", Cond.fieldLink RX0 85 "LampHills$Town" "lamps" "I", Cond.fieldLink RX0 21 "LampHills$Night" "burns" "[Z", Cond.fieldLink RX0 91 "LampHills$Town" "lighters" "I", Cond.methodLink RX0 88 yX0_putOut, Cond.instanceMethod yX0_putOut, Cond.selects RX0 yX0_putOut yX0_putOut, Cond.initialized RX0, Cond.code yX0_putOut cX0_putOut 3 none, Cond.fieldLink RX0 9 "LampHills$Night" "burningIn" "[I", Cond.fieldLink RX0 148 "LampHills$Town" "lampStreet" "[I", Cond.methodLink RX0 94 yX0_sendHome, Cond.instanceMethod yX0_sendHome, Cond.selects RX0 yX0_sendHome yX0_sendHome, Cond.code yX0_sendHome cX0_sendHome 3 none, Cond.fieldLink RX0 31 "LampHills$Night" "at" "[I", Cond.fieldLink RX0 97 "LampHills$Town" "home" "[I", Cond.fieldLink RX0 46 "LampHills$Night" "latestPlace" "[I", Cond.methodLink RX0 100 yX0_waitFromNow, Cond.instanceMethod yX0_waitFromNow, Cond.selects RX0 yX0_waitFromNow yX0_waitFromNow, Cond.code yX0_waitFromNow cX0_waitFromNow 2 none, Cond.fieldLink RX0 37 "LampHills$Night" "goesTo" "[I"]
def wsX0_beginNext_r2 : List Cond := [Cond.fieldLink RX0 43 "LampHills$Night" "minutesLeft" "[I"]
def wsX0_beginNext : List Cond := .code yX0_beginNext cX0_beginNext 3 none :: ((wsX0_beginNext_r1 ++ wsX0_beginNext_r2) ++ wsX00 ++ wsX10)
def wsX0_isDark : List Cond := .code yX0_isDark cX0_isDark 2 (some .boolean) :: ([.fieldLink RX0 9 "LampHills$Night" "burningIn" "[I"] ++ wsX00)
def wsX0_burningLamps : List Cond := .code yX0_burningLamps cX0_burningLamps 4 (some .int) :: ([.fieldLink RX0 104 "LampHills$Town" "streets" "I", .fieldLink RX0 9 "LampHills$Night" "burningIn" "[I"] ++ wsX10 ++ wsX00)
def wsX0_darkStreets : List Cond := .code yX0_darkStreets cX0_darkStreets 4 (some .int) :: ([.fieldLink RX0 104 "LampHills$Town" "streets" "I", .methodLink RX0 107 yX0_isDark, .instanceMethod yX0_isDark, .selects RX0 yX0_isDark yX0_isDark, .initialized RX0, .code yX0_isDark cX0_isDark 2 (some .boolean), .fieldLink RX0 9 "LampHills$Night" "burningIn" "[I"] ++ wsX10 ++ wsX00)
def wsX0_oilOfLamps : List Cond := .code yX0_oilOfLamps cX0_oilOfLamps 4 (some .int) :: ([.fieldLink RX0 85 "LampHills$Town" "lamps" "I", .fieldLink RX0 15 "LampHills$Night" "oil" "[I"] ++ wsX10 ++ wsX00)
def wsX1_init : List Cond := .code yX1_init cX1_init 1 none :: ([.methodLink RX1 3 objectInit, .instanceMethod objectInit, .code objectInit ⟨#[0xb1]⟩ 1 none, .arrayClass .int, .fieldLink RX1 9 "LampHills$Town" "height" "[I", .classLink RX1 15 "[[I", .fieldLink RX1 17 "LampHills$Town" "ways" "[[I", .fieldLink RX1 20 "LampHills$Town" "firstEnd" "[I", .fieldLink RX1 23 "LampHills$Town" "secondEnd" "[I", .fieldLink RX1 26 "LampHills$Town" "length" "[I", .fieldLink RX1 29 "LampHills$Town" "lampStreet" "[I", .fieldLink RX1 32 "LampHills$Town" "lampHeight" "[I", .fieldLink RX1 35 "LampHills$Town" "lid" "[I", .fieldLink RX1 38 "LampHills$Town" "wind" "[I", .fieldLink RX1 41 "LampHills$Town" "home" "[I", .fieldLink RX1 44 "LampHills$Town" "ladder" "[I", .fieldLink RX1 47 "LampHills$Town" "roundSize" "[I", .fieldLink RX1 50 "LampHills$Town" "rounds" "[[I"] ++ wsX10)
def wsX1_addCorner : List Cond := .code yX1_addCorner cX1_addCorner 4 (some .int) :: ([.fieldLink RX1 53 "LampHills$Town" "corners" "I", .fieldLink RX1 9 "LampHills$Town" "height" "[I", .fieldLink RX1 17 "LampHills$Town" "ways" "[[I", .constant RX1 57 (1000000)] ++ wsX10)
def wsX1_minutesAlong : List Cond := .code yX1_minutesAlong cX1_minutesAlong 4 (some .int) :: ([.fieldLink RX1 9 "LampHills$Town" "height" "[I", .methodLink RX1 75 Lib.Math.max.name, .static Lib.Math.max.name, .initialized "java/lang/Math", .code Lib.Math.max.name Lib.Math.max.code 2 (some .int)] ++ wsX10)
def wsX1_shortenWays : List Cond := .code yX1_shortenWays cX1_shortenWays 7 none :: ([.fieldLink RX1 53 "LampHills$Town" "corners" "I", .fieldLink RX1 17 "LampHills$Town" "ways" "[[I", .methodLink RX1 81 Lib.Math.min.name, .static Lib.Math.min.name, .initialized "java/lang/Math", .code Lib.Math.min.name Lib.Math.min.code 2 (some .int)] ++ wsX10)
def wsX1_addStreet : List Cond := .code yX1_addStreet cX1_addStreet 5 (some .int) :: ([.fieldLink RX1 58 "LampHills$Town" "streets" "I", .fieldLink RX1 20 "LampHills$Town" "firstEnd" "[I", .fieldLink RX1 23 "LampHills$Town" "secondEnd" "[I", .fieldLink RX1 26 "LampHills$Town" "length" "[I", .methodLink RX1 61 yX1_minutesAlong, .instanceMethod yX1_minutesAlong, .selects RX1 yX1_minutesAlong yX1_minutesAlong, .initialized RX1, .code yX1_minutesAlong cX1_minutesAlong 4 (some .int), .fieldLink RX1 9 "LampHills$Town" "height" "[I", .methodLink RX1 75 Lib.Math.max.name, .static Lib.Math.max.name, .initialized "java/lang/Math", .code Lib.Math.max.name Lib.Math.max.code 2 (some .int), .methodLink RX1 65 yX1_shortenWays, .instanceMethod yX1_shortenWays, .selects RX1 yX1_shortenWays yX1_shortenWays, .code yX1_shortenWays cX1_shortenWays 7 none, .fieldLink RX1 53 "LampHills$Town" "corners" "I", .fieldLink RX1 17 "LampHills$Town" "ways" "[[I", .methodLink RX1 81 Lib.Math.min.name, .static Lib.Math.min.name, .code Lib.Math.min.name Lib.Math.min.code 2 (some .int)] ++ wsX10)
def wsX1_addLamp : List Cond := .code yX1_addLamp cX1_addLamp 4 (some .int) :: ([.fieldLink RX1 69 "LampHills$Town" "lamps" "I", .fieldLink RX1 29 "LampHills$Town" "lampStreet" "[I", .fieldLink RX1 32 "LampHills$Town" "lampHeight" "[I"] ++ wsX10)
def wsX1_addLighter : List Cond := .code yX1_addLighter cX1_addLighter 4 (some .int) :: ([.fieldLink RX1 72 "LampHills$Town" "lighters" "I", .fieldLink RX1 41 "LampHills$Town" "home" "[I", .fieldLink RX1 44 "LampHills$Town" "ladder" "[I"] ++ wsX10)
def wsX1_addToRound : List Cond := .code yX1_addToRound cX1_addToRound 3 (some .int) :: ([.fieldLink RX1 50 "LampHills$Town" "rounds" "[[I", .fieldLink RX1 47 "LampHills$Town" "roundSize" "[I"] ++ wsX10)
def wsX1_isInRound : List Cond := .code yX1_isInRound cX1_isInRound 4 (some .boolean) :: ([.fieldLink RX1 47 "LampHills$Town" "roundSize" "[I", .fieldLink RX1 50 "LampHills$Town" "rounds" "[[I"] ++ wsX10)
def wsX2_init_r1 : List Cond := [Cond.methodLink RX2 3 objectInit, Cond.instanceMethod objectInit, Cond.code objectInit ⟨#[0xb1]⟩ 1 none, Cond.classLink RX2 9 RX1, Cond.instantiable RX1 17, Cond.initialized RX1, Cond.fieldLink RX2 12 "LampHills" "town" "LLampHills$Town;", Cond.classLink RX2 16 RX0, Cond.instantiable RX0 16, Cond.initialized RX0, Cond.fieldLink RX2 19 "LampHills" "night" "LLampHills$Night;", Cond.fieldLink RX2 23 "LampHills" "forecast" "LLampHills$Night;", Cond.arrayClass .int, Cond.fieldLink RX2 26 "LampHills" "darkMinutes" "[I", Cond.instanceMethod yX1_init, Cond.code yX1_init cX1_init 1 none, Cond.methodLink RX1 3 objectInit, Cond.fieldLink RX1 9 "LampHills$Town" "height" "[I", Cond.classLink RX1 15 "[[I", Cond.fieldLink RX1 17 "LampHills$Town" "ways" "[[I", Cond.fieldLink RX1 20 "LampHills$Town" "firstEnd" "[I", Cond.fieldLink RX1 23 "LampHills$Town" "secondEnd" "[I", Cond.fieldLink RX1 26 "LampHills$Town" "length" "[I", Cond.fieldLink RX1 29 "LampHills$Town" "lampStreet" "[I"]
def wsX2_init_r2 : List Cond := [Cond.fieldLink RX1 32 "LampHills$Town" "lampHeight" "[I", Cond.fieldLink RX1 35 "LampHills$Town" "lid" "[I", Cond.fieldLink RX1 38 "LampHills$Town" "wind" "[I", Cond.fieldLink RX1 41 "LampHills$Town" "home" "[I", Cond.fieldLink RX1 44 "LampHills$Town" "ladder" "[I", Cond.fieldLink RX1 47 "LampHills$Town" "roundSize" "[I", Cond.fieldLink RX1 50 "LampHills$Town" "rounds" "[[I", Cond.instanceMethod yX0_init, Cond.code yX0_init cX0_init 1 none, Cond.methodLink RX0 3 objectInit, Cond.fieldLink RX0 9 "LampHills$Night" "burningIn" "[I", Cond.fieldLink RX0 15 "LampHills$Night" "oil" "[I", Cond.fieldLink RX0 18 "LampHills$Night" "soot" "[I", Cond.arrayClass .boolean, Cond.fieldLink RX0 21 "LampHills$Night" "burns" "[Z", Cond.fieldLink RX0 25 "LampHills$Night" "timesLit" "[I", Cond.fieldLink RX0 28 "LampHills$Night" "timesBlownOut" "[I", Cond.fieldLink RX0 31 "LampHills$Night" "at" "[I", Cond.fieldLink RX0 34 "LampHills$Night" "can" "[I", Cond.fieldLink RX0 37 "LampHills$Night" "goesTo" "[I", Cond.fieldLink RX0 40 "LampHills$Night" "goal" "[I", Cond.fieldLink RX0 43 "LampHills$Night" "minutesLeft" "[I", Cond.fieldLink RX0 46 "LampHills$Night" "latestPlace" "[I", Cond.fieldLink RX0 49 "LampHills$Night" "litBy" "[I"]
def wsX2_init : List Cond := .code yX2_init cX2_init 1 none :: ((wsX2_init_r1 ++ wsX2_init_r2) ++ wsX10 ++ wsX20 ++ wsX00)
def wsX2_requireRange : List Cond := .code yX2_requireRange cX2_requireRange 3 none :: ([.classLink RX2 49 "java/lang/IllegalArgumentException", .initialized "java/lang/IllegalArgumentException"] ++ (vx_atS RX2 53 "java/lang/IllegalArgumentException" ["java/lang/RuntimeException", "java/lang/Exception"]).filter goodWord)
def wsX2_requireRoom : List Cond := .code yX2_requireRoom cX2_requireRoom 2 none :: ([.classLink RX2 93 "java/lang/IllegalStateException", .initialized "java/lang/IllegalStateException"] ++ (vx_atS RX2 97 "java/lang/IllegalStateException" ["java/lang/RuntimeException", "java/lang/Exception"]).filter goodWord)
def wsX2_corner : List Cond := .code yX2_corner cX2_corner 2 (some .int) :: ([.fieldLink RX2 12 "LampHills" "town" "LLampHills$Town;", .fieldLink RX2 34 "LampHills$Town" "corners" "I", .methodLink RX2 30 yX2_requireRange, .static yX2_requireRange, .initialized RX2, .code yX2_requireRange cX2_requireRange 3 none, .classLink RX2 49 "java/lang/IllegalArgumentException", .initialized "java/lang/IllegalArgumentException", .methodLink RX2 38 yX2_requireRoom, .static yX2_requireRoom, .code yX2_requireRoom cX2_requireRoom 2 none, .classLink RX2 93 "java/lang/IllegalStateException", .initialized "java/lang/IllegalStateException", .methodLink RX2 42 yX1_addCorner, .instanceMethod yX1_addCorner, .selects RX1 yX1_addCorner yX1_addCorner, .initialized RX1, .code yX1_addCorner cX1_addCorner 4 (some .int), .fieldLink RX1 53 "LampHills$Town" "corners" "I", .fieldLink RX1 9 "LampHills$Town" "height" "[I", .fieldLink RX1 17 "LampHills$Town" "ways" "[[I", .constant RX1 57 (1000000)] ++ wsX20 ++ wsX10 ++ (vx_atS RX2 53 "java/lang/IllegalArgumentException" ["java/lang/RuntimeException", "java/lang/Exception"]).filter goodWord ++ (vx_atS RX2 97 "java/lang/IllegalStateException" ["java/lang/RuntimeException", "java/lang/Exception"]).filter goodWord)
def wsX2_requireIndex : List Cond := .code yX2_requireIndex cX2_requireIndex 2 none :: ([.classLink RX2 223 "java/lang/IndexOutOfBoundsException", .initialized "java/lang/IndexOutOfBoundsException"] ++ (vx_atS RX2 227 "java/lang/IndexOutOfBoundsException" ["java/lang/RuntimeException", "java/lang/Exception"]).filter goodWord)
def wsX2_street_r1 : List Cond := [Cond.classLink RX2 49 "java/lang/IllegalArgumentException", Cond.initialized "java/lang/IllegalArgumentException", Cond.fieldLink RX2 12 "LampHills" "town" "LLampHills$Town;", Cond.fieldLink RX2 34 "LampHills$Town" "corners" "I", Cond.fieldLink RX2 56 "LampHills$Town" "streets" "I", Cond.methodLink RX2 46 yX2_requireIndex, Cond.static yX2_requireIndex, Cond.initialized RX2, Cond.code yX2_requireIndex cX2_requireIndex 2 none, Cond.classLink RX2 223 "java/lang/IndexOutOfBoundsException", Cond.initialized "java/lang/IndexOutOfBoundsException", Cond.methodLink RX2 30 yX2_requireRange, Cond.static yX2_requireRange, Cond.code yX2_requireRange cX2_requireRange 3 none, Cond.methodLink RX2 38 yX2_requireRoom, Cond.static yX2_requireRoom, Cond.code yX2_requireRoom cX2_requireRoom 2 none, Cond.classLink RX2 93 "java/lang/IllegalStateException", Cond.initialized "java/lang/IllegalStateException", Cond.methodLink RX2 59 yX1_addStreet, Cond.instanceMethod yX1_addStreet, Cond.selects RX1 yX1_addStreet yX1_addStreet, Cond.initialized RX1, Cond.code yX1_addStreet cX1_addStreet 5 (some .int)]
def wsX2_street_r2 : List Cond := [Cond.fieldLink RX1 58 "LampHills$Town" "streets" "I", Cond.fieldLink RX1 20 "LampHills$Town" "firstEnd" "[I", Cond.fieldLink RX1 23 "LampHills$Town" "secondEnd" "[I", Cond.fieldLink RX1 26 "LampHills$Town" "length" "[I", Cond.methodLink RX1 61 yX1_minutesAlong, Cond.instanceMethod yX1_minutesAlong, Cond.selects RX1 yX1_minutesAlong yX1_minutesAlong, Cond.code yX1_minutesAlong cX1_minutesAlong 4 (some .int), Cond.fieldLink RX1 9 "LampHills$Town" "height" "[I", Cond.methodLink RX1 75 Lib.Math.max.name, Cond.static Lib.Math.max.name, Cond.initialized "java/lang/Math", Cond.code Lib.Math.max.name Lib.Math.max.code 2 (some .int), Cond.methodLink RX1 65 yX1_shortenWays, Cond.instanceMethod yX1_shortenWays, Cond.selects RX1 yX1_shortenWays yX1_shortenWays, Cond.code yX1_shortenWays cX1_shortenWays 7 none, Cond.fieldLink RX1 53 "LampHills$Town" "corners" "I", Cond.fieldLink RX1 17 "LampHills$Town" "ways" "[[I", Cond.methodLink RX1 81 Lib.Math.min.name, Cond.static Lib.Math.min.name, Cond.code Lib.Math.min.name Lib.Math.min.code 2 (some .int)]
def wsX2_street : List Cond := .code yX2_street cX2_street 4 (some .int) :: ((wsX2_street_r1 ++ wsX2_street_r2) ++ wsX20 ++ wsX10 ++ (vx_atS RX2 53 "java/lang/IllegalArgumentException" ["java/lang/RuntimeException", "java/lang/Exception"]).filter goodWord ++ (vx_atS RX2 227 "java/lang/IndexOutOfBoundsException" ["java/lang/RuntimeException", "java/lang/Exception"]).filter goodWord ++ (vx_atS RX2 97 "java/lang/IllegalStateException" ["java/lang/RuntimeException", "java/lang/Exception"]).filter goodWord)
def wsX2_lamp_r1 : List Cond := [Cond.fieldLink RX2 12 "LampHills" "town" "LLampHills$Town;", Cond.fieldLink RX2 56 "LampHills$Town" "streets" "I", Cond.fieldLink RX2 63 "LampHills$Town" "lamps" "I", Cond.methodLink RX2 46 yX2_requireIndex, Cond.static yX2_requireIndex, Cond.initialized RX2, Cond.code yX2_requireIndex cX2_requireIndex 2 none, Cond.classLink RX2 223 "java/lang/IndexOutOfBoundsException", Cond.initialized "java/lang/IndexOutOfBoundsException", Cond.methodLink RX2 30 yX2_requireRange, Cond.static yX2_requireRange, Cond.code yX2_requireRange cX2_requireRange 3 none, Cond.classLink RX2 49 "java/lang/IllegalArgumentException", Cond.initialized "java/lang/IllegalArgumentException", Cond.methodLink RX2 38 yX2_requireRoom, Cond.static yX2_requireRoom, Cond.code yX2_requireRoom cX2_requireRoom 2 none, Cond.classLink RX2 93 "java/lang/IllegalStateException", Cond.initialized "java/lang/IllegalStateException", Cond.methodLink RX2 66 yX1_addLamp, Cond.instanceMethod yX1_addLamp, Cond.selects RX1 yX1_addLamp yX1_addLamp, Cond.initialized RX1, Cond.code yX1_addLamp cX1_addLamp 4 (some .int)]
def wsX2_lamp_r2 : List Cond := [Cond.fieldLink RX1 69 "LampHills$Town" "lamps" "I", Cond.fieldLink RX1 29 "LampHills$Town" "lampStreet" "[I", Cond.fieldLink RX1 32 "LampHills$Town" "lampHeight" "[I"]
def wsX2_lamp : List Cond := .code yX2_lamp cX2_lamp 3 (some .int) :: ((wsX2_lamp_r1 ++ wsX2_lamp_r2) ++ wsX20 ++ wsX10 ++ (vx_atS RX2 227 "java/lang/IndexOutOfBoundsException" ["java/lang/RuntimeException", "java/lang/Exception"]).filter goodWord ++ (vx_atS RX2 53 "java/lang/IllegalArgumentException" ["java/lang/RuntimeException", "java/lang/Exception"]).filter goodWord ++ (vx_atS RX2 97 "java/lang/IllegalStateException" ["java/lang/RuntimeException", "java/lang/Exception"]).filter goodWord)
def wsX2_lid : List Cond := .code yX2_lid cX2_lid 4 (some .int) :: ([.fieldLink RX2 12 "LampHills" "town" "LLampHills$Town;", .fieldLink RX2 63 "LampHills$Town" "lamps" "I", .fieldLink RX2 70 "LampHills$Town" "lid" "[I", .methodLink RX2 46 yX2_requireIndex, .static yX2_requireIndex, .initialized RX2, .code yX2_requireIndex cX2_requireIndex 2 none, .classLink RX2 223 "java/lang/IndexOutOfBoundsException", .initialized "java/lang/IndexOutOfBoundsException", .methodLink RX2 30 yX2_requireRange, .static yX2_requireRange, .code yX2_requireRange cX2_requireRange 3 none, .classLink RX2 49 "java/lang/IllegalArgumentException", .initialized "java/lang/IllegalArgumentException"] ++ wsX20 ++ wsX10 ++ (vx_atS RX2 227 "java/lang/IndexOutOfBoundsException" ["java/lang/RuntimeException", "java/lang/Exception"]).filter goodWord ++ (vx_atS RX2 53 "java/lang/IllegalArgumentException" ["java/lang/RuntimeException", "java/lang/Exception"]).filter goodWord)
def wsX2_setWind : List Cond := .code yX2_setWind cX2_setWind 4 (some .int) :: ([.fieldLink RX2 12 "LampHills" "town" "LLampHills$Town;", .fieldLink RX2 73 "LampHills$Town" "wind" "[I", .methodLink RX2 46 yX2_requireIndex, .static yX2_requireIndex, .initialized RX2, .code yX2_requireIndex cX2_requireIndex 2 none, .classLink RX2 223 "java/lang/IndexOutOfBoundsException", .initialized "java/lang/IndexOutOfBoundsException", .methodLink RX2 30 yX2_requireRange, .static yX2_requireRange, .code yX2_requireRange cX2_requireRange 3 none, .classLink RX2 49 "java/lang/IllegalArgumentException", .initialized "java/lang/IllegalArgumentException"] ++ wsX20 ++ wsX10 ++ (vx_atS RX2 227 "java/lang/IndexOutOfBoundsException" ["java/lang/RuntimeException", "java/lang/Exception"]).filter goodWord ++ (vx_atS RX2 53 "java/lang/IllegalArgumentException" ["java/lang/RuntimeException", "java/lang/Exception"]).filter goodWord)
def wsX2_hire_r1 : List Cond := [Cond.fieldLink RX2 12 "LampHills" "town" "LLampHills$Town;", Cond.fieldLink RX2 34 "LampHills$Town" "corners" "I", Cond.fieldLink RX2 76 "LampHills$Town" "lighters" "I", Cond.fieldLink RX2 19 "LampHills" "night" "LLampHills$Night;", Cond.fieldLink RX2 82 "LampHills$Night" "can" "[I", Cond.methodLink RX2 46 yX2_requireIndex, Cond.static yX2_requireIndex, Cond.initialized RX2, Cond.code yX2_requireIndex cX2_requireIndex 2 none, Cond.classLink RX2 223 "java/lang/IndexOutOfBoundsException", Cond.initialized "java/lang/IndexOutOfBoundsException", Cond.methodLink RX2 30 yX2_requireRange, Cond.static yX2_requireRange, Cond.code yX2_requireRange cX2_requireRange 3 none, Cond.classLink RX2 49 "java/lang/IllegalArgumentException", Cond.initialized "java/lang/IllegalArgumentException", Cond.methodLink RX2 38 yX2_requireRoom, Cond.static yX2_requireRoom, Cond.code yX2_requireRoom cX2_requireRoom 2 none, Cond.classLink RX2 93 "java/lang/IllegalStateException", Cond.initialized "java/lang/IllegalStateException", Cond.methodLink RX2 79 yX1_addLighter, Cond.instanceMethod yX1_addLighter, Cond.selects RX1 yX1_addLighter yX1_addLighter]
def wsX2_hire_r2 : List Cond := [Cond.initialized RX1, Cond.code yX1_addLighter cX1_addLighter 4 (some .int), Cond.fieldLink RX1 72 "LampHills$Town" "lighters" "I", Cond.fieldLink RX1 41 "LampHills$Town" "home" "[I", Cond.fieldLink RX1 44 "LampHills$Town" "ladder" "[I", Cond.methodLink RX2 85 yX0_sendHome, Cond.instanceMethod yX0_sendHome, Cond.selects RX0 yX0_sendHome yX0_sendHome, Cond.initialized RX0, Cond.code yX0_sendHome cX0_sendHome 3 none, Cond.fieldLink RX0 31 "LampHills$Night" "at" "[I", Cond.fieldLink RX0 97 "LampHills$Town" "home" "[I", Cond.fieldLink RX0 46 "LampHills$Night" "latestPlace" "[I", Cond.methodLink RX0 100 yX0_waitFromNow, Cond.instanceMethod yX0_waitFromNow, Cond.selects RX0 yX0_waitFromNow yX0_waitFromNow, Cond.code yX0_waitFromNow cX0_waitFromNow 2 none, Cond.fieldLink RX0 37 "LampHills$Night" "goesTo" "[I", Cond.fieldLink RX0 43 "LampHills$Night" "minutesLeft" "[I"]
def wsX2_hire : List Cond := .code yX2_hire cX2_hire 5 (some .int) :: ((wsX2_hire_r1 ++ wsX2_hire_r2) ++ wsX20 ++ wsX10 ++ wsX00 ++ (vx_atS RX2 227 "java/lang/IndexOutOfBoundsException" ["java/lang/RuntimeException", "java/lang/Exception"]).filter goodWord ++ (vx_atS RX2 53 "java/lang/IllegalArgumentException" ["java/lang/RuntimeException", "java/lang/Exception"]).filter goodWord ++ (vx_atS RX2 97 "java/lang/IllegalStateException" ["java/lang/RuntimeException", "java/lang/Exception"]).filter goodWord)
def wsX2_round_r1 : List Cond := [Cond.classLink RX2 93 "java/lang/IllegalStateException", Cond.initialized "java/lang/IllegalStateException", Cond.fieldLink RX2 12 "LampHills" "town" "LLampHills$Town;", Cond.fieldLink RX2 76 "LampHills$Town" "lighters" "I", Cond.fieldLink RX2 63 "LampHills$Town" "lamps" "I", Cond.fieldLink RX2 98 "LampHills$Town" "roundSize" "[I", Cond.methodLink RX2 46 yX2_requireIndex, Cond.static yX2_requireIndex, Cond.initialized RX2, Cond.code yX2_requireIndex cX2_requireIndex 2 none, Cond.classLink RX2 223 "java/lang/IndexOutOfBoundsException", Cond.initialized "java/lang/IndexOutOfBoundsException", Cond.methodLink RX2 89 yX1_isInRound, Cond.instanceMethod yX1_isInRound, Cond.selects RX1 yX1_isInRound yX1_isInRound, Cond.initialized RX1, Cond.code yX1_isInRound cX1_isInRound 4 (some .boolean), Cond.fieldLink RX1 47 "LampHills$Town" "roundSize" "[I", Cond.fieldLink RX1 50 "LampHills$Town" "rounds" "[[I", Cond.methodLink RX2 38 yX2_requireRoom, Cond.static yX2_requireRoom, Cond.code yX2_requireRoom cX2_requireRoom 2 none, Cond.methodLink RX2 101 yX1_addToRound, Cond.instanceMethod yX1_addToRound]
def wsX2_round_r2 : List Cond := [Cond.selects RX1 yX1_addToRound yX1_addToRound, Cond.code yX1_addToRound cX1_addToRound 3 (some .int)]
def wsX2_round : List Cond := .code yX2_round cX2_round 3 (some .int) :: ((wsX2_round_r1 ++ wsX2_round_r2) ++ wsX20 ++ wsX10 ++ (vx_atS RX2 97 "java/lang/IllegalStateException" ["java/lang/RuntimeException", "java/lang/Exception"]).filter goodWord ++ (vx_atS RX2 227 "java/lang/IndexOutOfBoundsException" ["java/lang/RuntimeException", "java/lang/Exception"]).filter goodWord)
def wsX2_fill : List Cond := .code yX2_fill cX2_fill 3 (some .int) :: ([.fieldLink RX2 12 "LampHills" "town" "LLampHills$Town;", .fieldLink RX2 76 "LampHills$Town" "lighters" "I", .fieldLink RX2 19 "LampHills" "night" "LLampHills$Night;", .fieldLink RX2 82 "LampHills$Night" "can" "[I", .methodLink RX2 104 Lib.Math.min.name, .static Lib.Math.min.name, .initialized "java/lang/Math", .code Lib.Math.min.name Lib.Math.min.code 2 (some .int), .methodLink RX2 46 yX2_requireIndex, .static yX2_requireIndex, .initialized RX2, .code yX2_requireIndex cX2_requireIndex 2 none, .classLink RX2 223 "java/lang/IndexOutOfBoundsException", .initialized "java/lang/IndexOutOfBoundsException", .methodLink RX2 30 yX2_requireRange, .static yX2_requireRange, .code yX2_requireRange cX2_requireRange 3 none, .classLink RX2 49 "java/lang/IllegalArgumentException", .initialized "java/lang/IllegalArgumentException"] ++ wsX20 ++ wsX10 ++ wsX00 ++ (vx_atS RX2 227 "java/lang/IndexOutOfBoundsException" ["java/lang/RuntimeException", "java/lang/Exception"]).filter goodWord ++ (vx_atS RX2 53 "java/lang/IllegalArgumentException" ["java/lang/RuntimeException", "java/lang/Exception"]).filter goodWord)
def wsX2_way : List Cond := .code yX2_way cX2_way 4 (some .int) :: ([.fieldLink RX2 12 "LampHills" "town" "LLampHills$Town;", .fieldLink RX2 34 "LampHills$Town" "corners" "I", .fieldLink RX2 109 "LampHills$Town" "ways" "[[I", .constant RX2 113 (1000000), .methodLink RX2 46 yX2_requireIndex, .static yX2_requireIndex, .initialized RX2, .code yX2_requireIndex cX2_requireIndex 2 none, .classLink RX2 223 "java/lang/IndexOutOfBoundsException", .initialized "java/lang/IndexOutOfBoundsException"] ++ wsX20 ++ wsX10 ++ (vx_atS RX2 227 "java/lang/IndexOutOfBoundsException" ["java/lang/RuntimeException", "java/lang/Exception"]).filter goodWord)
def wsX2_told : List Cond := .code yX2_told cX2_told 3 (some .int) :: ([.fieldLink RX2 12 "LampHills" "town" "LLampHills$Town;", .fieldLink RX2 63 "LampHills$Town" "lamps" "I", .fieldLink RX2 114 "LampHills$Town" "lampStreet" "[I", .fieldLink RX2 117 "LampHills$Town" "lampHeight" "[I", .fieldLink RX2 70 "LampHills$Town" "lid" "[I", .fieldLink RX2 19 "LampHills" "night" "LLampHills$Night;", .fieldLink RX2 120 "LampHills$Night" "oil" "[I", .fieldLink RX2 123 "LampHills$Night" "soot" "[I", .fieldLink RX2 126 "LampHills$Night" "burns" "[Z", .fieldLink RX2 134 "LampHills$Night" "timesLit" "[I", .fieldLink RX2 137 "LampHills$Night" "timesBlownOut" "[I", .methodLink RX2 46 yX2_requireIndex, .static yX2_requireIndex, .initialized RX2, .code yX2_requireIndex cX2_requireIndex 2 none, .classLink RX2 223 "java/lang/IndexOutOfBoundsException", .initialized "java/lang/IndexOutOfBoundsException", .methodLink RX2 130 yX0_whoGoesTo, .instanceMethod yX0_whoGoesTo, .selects RX0 yX0_whoGoesTo yX0_whoGoesTo, .initialized RX0, .code yX0_whoGoesTo cX0_whoGoesTo 4 (some .int), .fieldLink RX0 91 "LampHills$Town" "lighters" "I", .fieldLink RX0 37 "LampHills$Night" "goesTo" "[I"] ++ wsX20 ++ wsX10 ++ wsX00 ++ (vx_atS RX2 227 "java/lang/IndexOutOfBoundsException" ["java/lang/RuntimeException", "java/lang/Exception"]).filter goodWord)
def wsX2_lighter : List Cond := .code yX2_lighter cX2_lighter 3 (some .int) :: ([.fieldLink RX2 12 "LampHills" "town" "LLampHills$Town;", .fieldLink RX2 76 "LampHills$Town" "lighters" "I", .fieldLink RX2 19 "LampHills" "night" "LLampHills$Night;", .fieldLink RX2 140 "LampHills$Night" "at" "[I", .fieldLink RX2 143 "LampHills$Town" "ladder" "[I", .fieldLink RX2 82 "LampHills$Night" "can" "[I", .fieldLink RX2 98 "LampHills$Town" "roundSize" "[I", .fieldLink RX2 146 "LampHills$Night" "goesTo" "[I", .fieldLink RX2 149 "LampHills$Night" "minutesLeft" "[I", .fieldLink RX2 152 "LampHills$Night" "litBy" "[I", .methodLink RX2 46 yX2_requireIndex, .static yX2_requireIndex, .initialized RX2, .code yX2_requireIndex cX2_requireIndex 2 none, .classLink RX2 223 "java/lang/IndexOutOfBoundsException", .initialized "java/lang/IndexOutOfBoundsException"] ++ wsX20 ++ wsX10 ++ wsX00 ++ (vx_atS RX2 227 "java/lang/IndexOutOfBoundsException" ["java/lang/RuntimeException", "java/lang/Exception"]).filter goodWord)
def wsX2_burning : List Cond := .code yX2_burning cX2_burning 2 (some .int) :: ([.fieldLink RX2 12 "LampHills" "town" "LLampHills$Town;", .fieldLink RX2 56 "LampHills$Town" "streets" "I", .fieldLink RX2 19 "LampHills" "night" "LLampHills$Night;", .fieldLink RX2 155 "LampHills$Night" "burningIn" "[I", .methodLink RX2 46 yX2_requireIndex, .static yX2_requireIndex, .initialized RX2, .code yX2_requireIndex cX2_requireIndex 2 none, .classLink RX2 223 "java/lang/IndexOutOfBoundsException", .initialized "java/lang/IndexOutOfBoundsException"] ++ wsX20 ++ wsX10 ++ wsX00 ++ (vx_atS RX2 227 "java/lang/IndexOutOfBoundsException" ["java/lang/RuntimeException", "java/lang/Exception"]).filter goodWord)
def wsX2_count_r1 : List Cond := [Cond.fieldLink RX2 19 "LampHills" "night" "LLampHills$Night;", Cond.fieldLink RX2 158 "LampHills$Night" "minute" "I", Cond.fieldLink RX2 161 "LampHills$Night" "number" "I", Cond.fieldLink RX2 12 "LampHills" "town" "LLampHills$Town;", Cond.fieldLink RX2 34 "LampHills$Town" "corners" "I", Cond.fieldLink RX2 56 "LampHills$Town" "streets" "I", Cond.fieldLink RX2 63 "LampHills$Town" "lamps" "I", Cond.fieldLink RX2 76 "LampHills$Town" "lighters" "I", Cond.fieldLink RX2 174 "LampHills$Night" "oilUsed" "I", Cond.methodLink RX2 46 yX2_requireIndex, Cond.static yX2_requireIndex, Cond.initialized RX2, Cond.code yX2_requireIndex cX2_requireIndex 2 none, Cond.classLink RX2 223 "java/lang/IndexOutOfBoundsException", Cond.initialized "java/lang/IndexOutOfBoundsException", Cond.methodLink RX2 164 yX0_burningLamps, Cond.instanceMethod yX0_burningLamps, Cond.selects RX0 yX0_burningLamps yX0_burningLamps, Cond.initialized RX0, Cond.code yX0_burningLamps cX0_burningLamps 4 (some .int), Cond.fieldLink RX0 104 "LampHills$Town" "streets" "I", Cond.fieldLink RX0 9 "LampHills$Night" "burningIn" "[I", Cond.methodLink RX2 168 yX0_darkStreets, Cond.instanceMethod yX0_darkStreets]
def wsX2_count_r2 : List Cond := [Cond.selects RX0 yX0_darkStreets yX0_darkStreets, Cond.code yX0_darkStreets cX0_darkStreets 4 (some .int), Cond.methodLink RX0 107 yX0_isDark, Cond.instanceMethod yX0_isDark, Cond.selects RX0 yX0_isDark yX0_isDark, Cond.code yX0_isDark cX0_isDark 2 (some .boolean), Cond.methodLink RX2 171 yX0_oilOfLamps, Cond.instanceMethod yX0_oilOfLamps, Cond.selects RX0 yX0_oilOfLamps yX0_oilOfLamps, Cond.code yX0_oilOfLamps cX0_oilOfLamps 4 (some .int), Cond.fieldLink RX0 85 "LampHills$Town" "lamps" "I", Cond.fieldLink RX0 15 "LampHills$Night" "oil" "[I"]
def wsX2_count : List Cond := .code yX2_count cX2_count 2 (some .int) :: ((wsX2_count_r1 ++ wsX2_count_r2) ++ wsX20 ++ wsX00 ++ wsX10 ++ (vx_atS RX2 227 "java/lang/IndexOutOfBoundsException" ["java/lang/RuntimeException", "java/lang/Exception"]).filter goodWord)
def wsX2_pass_r1 : List Cond := [Cond.fieldLink RX2 19 "LampHills" "night" "LLampHills$Night;", Cond.fieldLink RX2 12 "LampHills" "town" "LLampHills$Town;", Cond.methodLink RX2 30 yX2_requireRange, Cond.static yX2_requireRange, Cond.initialized RX2, Cond.code yX2_requireRange cX2_requireRange 3 none, Cond.classLink RX2 49 "java/lang/IllegalArgumentException", Cond.initialized "java/lang/IllegalArgumentException", Cond.methodLink RX2 177 yX0_goBy, Cond.instanceMethod yX0_goBy, Cond.selects RX0 yX0_goBy yX0_goBy, Cond.initialized RX0, Cond.code yX0_goBy cX0_goBy 5 (some .int), Cond.fieldLink RX0 52 "LampHills$Night" "minute" "I", Cond.fieldLink RX0 76 "LampHills$Town" "wind" "[I", Cond.methodLink RX0 68 yX0_moveLighters, Cond.instanceMethod yX0_moveLighters, Cond.selects RX0 yX0_moveLighters yX0_moveLighters, Cond.code yX0_moveLighters cX0_moveLighters 4 (some .int), Cond.fieldLink RX0 91 "LampHills$Town" "lighters" "I", Cond.fieldLink RX0 37 "LampHills$Night" "goesTo" "[I", Cond.fieldLink RX0 43 "LampHills$Night" "minutesLeft" "[I", Cond.methodLink RX0 111 yX0_lookForLamp, Cond.instanceMethod yX0_lookForLamp]
def wsX2_pass_r2 : List Cond := [Cond.selects RX0 yX0_lookForLamp yX0_lookForLamp, Cond.code yX0_lookForLamp cX0_lookForLamp 5 none, Cond.fieldLink RX0 122 "LampHills$Town" "rounds" "[[I", Cond.fieldLink RX0 34 "LampHills$Night" "can" "[I", Cond.fieldLink RX0 15 "LampHills$Night" "oil" "[I", Cond.fieldLink RX0 46 "LampHills$Night" "latestPlace" "[I", Cond.fieldLink RX0 40 "LampHills$Night" "goal" "[I", Cond.fieldLink RX0 31 "LampHills$Night" "at" "[I", Cond.fieldLink RX0 130 "LampHills$Town" "ways" "[[I", Cond.methodLink RX0 118 yX0_placeOfNextLamp, Cond.instanceMethod yX0_placeOfNextLamp, Cond.selects RX0 yX0_placeOfNextLamp yX0_placeOfNextLamp, Cond.code yX0_placeOfNextLamp cX0_placeOfNextLamp 7 (some .int), Cond.fieldLink RX0 133 "LampHills$Town" "roundSize" "[I", Cond.fieldLink RX0 21 "LampHills$Night" "burns" "[Z", Cond.methodLink RX0 136 yX0_whoGoesTo, Cond.instanceMethod yX0_whoGoesTo, Cond.selects RX0 yX0_whoGoesTo yX0_whoGoesTo, Cond.code yX0_whoGoesTo cX0_whoGoesTo 4 (some .int), Cond.methodLink RX0 139 yX1_canReach, Cond.instanceMethod yX1_canReach, Cond.selects RX1 yX1_canReach yX1_canReach, Cond.initialized RX1, Cond.code yX1_canReach cX1_canReach 4 (some .boolean)]
def wsX2_pass_r3 : List Cond := [Cond.fieldLink RX1 32 "LampHills$Town" "lampHeight" "[I", Cond.fieldLink RX1 44 "LampHills$Town" "ladder" "[I", Cond.fieldLink RX1 17 "LampHills$Town" "ways" "[[I", Cond.constant RX1 57 (1000000), Cond.methodLink RX1 84 yX1_nearerEnd, Cond.instanceMethod yX1_nearerEnd, Cond.selects RX1 yX1_nearerEnd yX1_nearerEnd, Cond.code yX1_nearerEnd cX1_nearerEnd 6 (some .int), Cond.fieldLink RX1 29 "LampHills$Town" "lampStreet" "[I", Cond.fieldLink RX1 20 "LampHills$Town" "firstEnd" "[I", Cond.fieldLink RX1 23 "LampHills$Town" "secondEnd" "[I", Cond.methodLink RX0 126 yX1_nearerEnd, Cond.methodLink RX0 114 yX0_tendLamp, Cond.instanceMethod yX0_tendLamp, Cond.selects RX0 yX0_tendLamp yX0_tendLamp, Cond.code yX0_tendLamp cX0_tendLamp 5 (some .boolean), Cond.methodLink RX0 143 Lib.Math.min.name, Cond.static Lib.Math.min.name, Cond.initialized "java/lang/Math", Cond.code Lib.Math.min.name Lib.Math.min.code 2 (some .int), Cond.fieldLink RX0 18 "LampHills$Night" "soot" "[I", Cond.fieldLink RX0 9 "LampHills$Night" "burningIn" "[I", Cond.fieldLink RX0 148 "LampHills$Town" "lampStreet" "[I", Cond.fieldLink RX0 25 "LampHills$Night" "timesLit" "[I"]
def wsX2_pass_r4 : List Cond := [Cond.fieldLink RX0 49 "LampHills$Night" "litBy" "[I", Cond.methodLink RX0 100 yX0_waitFromNow, Cond.instanceMethod yX0_waitFromNow, Cond.selects RX0 yX0_waitFromNow yX0_waitFromNow, Cond.code yX0_waitFromNow cX0_waitFromNow 2 none, Cond.methodLink RX0 72 yX0_burnLamps, Cond.instanceMethod yX0_burnLamps, Cond.selects RX0 yX0_burnLamps yX0_burnLamps, Cond.code yX0_burnLamps cX0_burnLamps 3 none, Cond.fieldLink RX0 85 "LampHills$Town" "lamps" "I", Cond.methodLink RX0 151 yX0_useOil, Cond.instanceMethod yX0_useOil, Cond.selects RX0 yX0_useOil yX0_useOil, Cond.code yX0_useOil cX0_useOil 4 none, Cond.fieldLink RX0 59 "LampHills$Night" "oilUsed" "I", Cond.methodLink RX0 88 yX0_putOut, Cond.instanceMethod yX0_putOut, Cond.selects RX0 yX0_putOut yX0_putOut, Cond.code yX0_putOut cX0_putOut 3 none, Cond.methodLink RX0 81 yX0_blow, Cond.instanceMethod yX0_blow, Cond.selects RX0 yX0_blow yX0_blow, Cond.code yX0_blow cX0_blow 4 none, Cond.fieldLink RX0 157 "LampHills$Town" "lid" "[I"]
def wsX2_pass_r5 : List Cond := [Cond.fieldLink RX0 28 "LampHills$Night" "timesBlownOut" "[I", Cond.methodLink RX0 154 yX1_windAtLamp, Cond.instanceMethod yX1_windAtLamp, Cond.selects RX1 yX1_windAtLamp yX1_windAtLamp, Cond.code yX1_windAtLamp cX1_windAtLamp 4 (some .int), Cond.fieldLink RX1 9 "LampHills$Town" "height" "[I", Cond.methodLink RX1 75 Lib.Math.max.name, Cond.static Lib.Math.max.name, Cond.code Lib.Math.max.name Lib.Math.max.code 2 (some .int)]
def wsX2_pass : List Cond := .code yX2_pass cX2_pass 2 (some .int) :: ((wsX2_pass_r1 ++ (wsX2_pass_r2 ++ (wsX2_pass_r3 ++ (wsX2_pass_r4 ++ wsX2_pass_r5)))) ++ wsX20 ++ wsX00 ++ wsX10 ++ (vx_atS RX2 53 "java/lang/IllegalArgumentException" ["java/lang/RuntimeException", "java/lang/Exception"]).filter goodWord)
def wsX2_dawn_r1 : List Cond := [Cond.classLink RX2 93 "java/lang/IllegalStateException", Cond.initialized "java/lang/IllegalStateException", Cond.fieldLink RX2 19 "LampHills" "night" "LLampHills$Night;", Cond.fieldLink RX2 158 "LampHills$Night" "minute" "I", Cond.fieldLink RX2 12 "LampHills" "town" "LLampHills$Town;", Cond.methodLink RX2 164 yX0_burningLamps, Cond.instanceMethod yX0_burningLamps, Cond.selects RX0 yX0_burningLamps yX0_burningLamps, Cond.initialized RX0, Cond.code yX0_burningLamps cX0_burningLamps 4 (some .int), Cond.fieldLink RX0 104 "LampHills$Town" "streets" "I", Cond.fieldLink RX0 9 "LampHills$Night" "burningIn" "[I", Cond.methodLink RX2 182 yX0_beginNext, Cond.instanceMethod yX0_beginNext, Cond.selects RX0 yX0_beginNext yX0_beginNext, Cond.code yX0_beginNext cX0_beginNext 3 none, Cond.fieldLink RX0 52 "LampHills$Night" "minute" "I", Cond.fieldLink RX0 56 "LampHills$Night" "number" "I", Cond.fieldLink RX0 85 "LampHills$Town" "lamps" "I", Cond.fieldLink RX0 21 "LampHills$Night" "burns" "[Z", Cond.fieldLink RX0 91 "LampHills$Town" "lighters" "I", Cond.methodLink RX0 88 yX0_putOut, Cond.instanceMethod yX0_putOut, Cond.selects RX0 yX0_putOut yX0_putOut]
def wsX2_dawn_r2 : List Cond := [Cond.code yX0_putOut cX0_putOut 3 none, Cond.fieldLink RX0 148 "LampHills$Town" "lampStreet" "[I", Cond.methodLink RX0 94 yX0_sendHome, Cond.instanceMethod yX0_sendHome, Cond.selects RX0 yX0_sendHome yX0_sendHome, Cond.code yX0_sendHome cX0_sendHome 3 none, Cond.fieldLink RX0 31 "LampHills$Night" "at" "[I", Cond.fieldLink RX0 97 "LampHills$Town" "home" "[I", Cond.fieldLink RX0 46 "LampHills$Night" "latestPlace" "[I", Cond.methodLink RX0 100 yX0_waitFromNow, Cond.instanceMethod yX0_waitFromNow, Cond.selects RX0 yX0_waitFromNow yX0_waitFromNow, Cond.code yX0_waitFromNow cX0_waitFromNow 2 none, Cond.fieldLink RX0 37 "LampHills$Night" "goesTo" "[I", Cond.fieldLink RX0 43 "LampHills$Night" "minutesLeft" "[I"]
def wsX2_dawn : List Cond := .code yX2_dawn cX2_dawn 2 (some .int) :: ((wsX2_dawn_r1 ++ wsX2_dawn_r2) ++ wsX20 ++ wsX00 ++ wsX10 ++ (vx_atS RX2 97 "java/lang/IllegalStateException" ["java/lang/RuntimeException", "java/lang/Exception"]).filter goodWord)
def wsX2_comes_r1 : List Cond := [Cond.fieldLink RX2 12 "LampHills" "town" "LLampHills$Town;", Cond.fieldLink RX2 63 "LampHills$Town" "lamps" "I", Cond.fieldLink RX2 23 "LampHills" "forecast" "LLampHills$Night;", Cond.fieldLink RX2 19 "LampHills" "night" "LLampHills$Night;", Cond.fieldLink RX2 158 "LampHills$Night" "minute" "I", Cond.fieldLink RX2 134 "LampHills$Night" "timesLit" "[I", Cond.methodLink RX2 46 yX2_requireIndex, Cond.static yX2_requireIndex, Cond.initialized RX2, Cond.code yX2_requireIndex cX2_requireIndex 2 none, Cond.classLink RX2 223 "java/lang/IndexOutOfBoundsException", Cond.initialized "java/lang/IndexOutOfBoundsException", Cond.methodLink RX2 186 yX0_copy, Cond.instanceMethod yX0_copy, Cond.selects RX0 yX0_copy yX0_copy, Cond.initialized RX0, Cond.code yX0_copy cX0_copy 3 none, Cond.fieldLink RX0 52 "LampHills$Night" "minute" "I", Cond.fieldLink RX0 56 "LampHills$Night" "number" "I", Cond.fieldLink RX0 59 "LampHills$Night" "oilUsed" "I", Cond.fieldLink RX0 9 "LampHills$Night" "burningIn" "[I", Cond.methodLink RX0 62 arraycopyName, Cond.native arraycopyName, Cond.static arraycopyName]
def wsX2_comes_r2 : List Cond := [Cond.initialized "java/lang/System", Cond.fieldLink RX0 15 "LampHills$Night" "oil" "[I", Cond.fieldLink RX0 18 "LampHills$Night" "soot" "[I", Cond.fieldLink RX0 21 "LampHills$Night" "burns" "[Z", Cond.fieldLink RX0 25 "LampHills$Night" "timesLit" "[I", Cond.fieldLink RX0 28 "LampHills$Night" "timesBlownOut" "[I", Cond.fieldLink RX0 31 "LampHills$Night" "at" "[I", Cond.fieldLink RX0 34 "LampHills$Night" "can" "[I", Cond.fieldLink RX0 37 "LampHills$Night" "goesTo" "[I", Cond.fieldLink RX0 40 "LampHills$Night" "goal" "[I", Cond.fieldLink RX0 43 "LampHills$Night" "minutesLeft" "[I", Cond.fieldLink RX0 46 "LampHills$Night" "latestPlace" "[I", Cond.fieldLink RX0 49 "LampHills$Night" "litBy" "[I", Cond.methodLink RX2 177 yX0_goBy, Cond.instanceMethod yX0_goBy, Cond.selects RX0 yX0_goBy yX0_goBy, Cond.code yX0_goBy cX0_goBy 5 (some .int), Cond.fieldLink RX0 76 "LampHills$Town" "wind" "[I", Cond.methodLink RX0 68 yX0_moveLighters, Cond.instanceMethod yX0_moveLighters, Cond.selects RX0 yX0_moveLighters yX0_moveLighters, Cond.code yX0_moveLighters cX0_moveLighters 4 (some .int), Cond.fieldLink RX0 91 "LampHills$Town" "lighters" "I", Cond.methodLink RX0 111 yX0_lookForLamp]
def wsX2_comes_r3 : List Cond := [Cond.instanceMethod yX0_lookForLamp, Cond.selects RX0 yX0_lookForLamp yX0_lookForLamp, Cond.code yX0_lookForLamp cX0_lookForLamp 5 none, Cond.fieldLink RX0 122 "LampHills$Town" "rounds" "[[I", Cond.fieldLink RX0 130 "LampHills$Town" "ways" "[[I", Cond.methodLink RX0 118 yX0_placeOfNextLamp, Cond.instanceMethod yX0_placeOfNextLamp, Cond.selects RX0 yX0_placeOfNextLamp yX0_placeOfNextLamp, Cond.code yX0_placeOfNextLamp cX0_placeOfNextLamp 7 (some .int), Cond.fieldLink RX0 133 "LampHills$Town" "roundSize" "[I", Cond.methodLink RX0 136 yX0_whoGoesTo, Cond.instanceMethod yX0_whoGoesTo, Cond.selects RX0 yX0_whoGoesTo yX0_whoGoesTo, Cond.code yX0_whoGoesTo cX0_whoGoesTo 4 (some .int), Cond.methodLink RX0 139 yX1_canReach, Cond.instanceMethod yX1_canReach, Cond.selects RX1 yX1_canReach yX1_canReach, Cond.initialized RX1, Cond.code yX1_canReach cX1_canReach 4 (some .boolean), Cond.fieldLink RX1 32 "LampHills$Town" "lampHeight" "[I", Cond.fieldLink RX1 44 "LampHills$Town" "ladder" "[I", Cond.fieldLink RX1 17 "LampHills$Town" "ways" "[[I", Cond.constant RX1 57 (1000000), Cond.methodLink RX1 84 yX1_nearerEnd]
def wsX2_comes_r4 : List Cond := [Cond.instanceMethod yX1_nearerEnd, Cond.selects RX1 yX1_nearerEnd yX1_nearerEnd, Cond.code yX1_nearerEnd cX1_nearerEnd 6 (some .int), Cond.fieldLink RX1 29 "LampHills$Town" "lampStreet" "[I", Cond.fieldLink RX1 20 "LampHills$Town" "firstEnd" "[I", Cond.fieldLink RX1 23 "LampHills$Town" "secondEnd" "[I", Cond.methodLink RX0 126 yX1_nearerEnd, Cond.methodLink RX0 114 yX0_tendLamp, Cond.instanceMethod yX0_tendLamp, Cond.selects RX0 yX0_tendLamp yX0_tendLamp, Cond.code yX0_tendLamp cX0_tendLamp 5 (some .boolean), Cond.methodLink RX0 143 Lib.Math.min.name, Cond.static Lib.Math.min.name, Cond.initialized "java/lang/Math", Cond.code Lib.Math.min.name Lib.Math.min.code 2 (some .int), Cond.fieldLink RX0 148 "LampHills$Town" "lampStreet" "[I", Cond.methodLink RX0 100 yX0_waitFromNow, Cond.instanceMethod yX0_waitFromNow, Cond.selects RX0 yX0_waitFromNow yX0_waitFromNow, Cond.code yX0_waitFromNow cX0_waitFromNow 2 none, Cond.methodLink RX0 72 yX0_burnLamps, Cond.instanceMethod yX0_burnLamps, Cond.selects RX0 yX0_burnLamps yX0_burnLamps, Cond.code yX0_burnLamps cX0_burnLamps 3 none]
def wsX2_comes_r5 : List Cond := [Cond.fieldLink RX0 85 "LampHills$Town" "lamps" "I", Cond.methodLink RX0 151 yX0_useOil, Cond.instanceMethod yX0_useOil, Cond.selects RX0 yX0_useOil yX0_useOil, Cond.code yX0_useOil cX0_useOil 4 none, Cond.methodLink RX0 88 yX0_putOut, Cond.instanceMethod yX0_putOut, Cond.selects RX0 yX0_putOut yX0_putOut, Cond.code yX0_putOut cX0_putOut 3 none, Cond.methodLink RX0 81 yX0_blow, Cond.instanceMethod yX0_blow, Cond.selects RX0 yX0_blow yX0_blow, Cond.code yX0_blow cX0_blow 4 none, Cond.fieldLink RX0 157 "LampHills$Town" "lid" "[I", Cond.methodLink RX0 154 yX1_windAtLamp, Cond.instanceMethod yX1_windAtLamp, Cond.selects RX1 yX1_windAtLamp yX1_windAtLamp, Cond.code yX1_windAtLamp cX1_windAtLamp 4 (some .int), Cond.fieldLink RX1 9 "LampHills$Town" "height" "[I", Cond.methodLink RX1 75 Lib.Math.max.name, Cond.static Lib.Math.max.name, Cond.code Lib.Math.max.name Lib.Math.max.code 2 (some .int)]
def wsX2_comes : List Cond := .code yX2_comes cX2_comes 4 (some .int) :: ((wsX2_comes_r1 ++ (wsX2_comes_r2 ++ (wsX2_comes_r3 ++ (wsX2_comes_r4 ++ wsX2_comes_r5)))) ++ wsX20 ++ wsX10 ++ wsX00 ++ (vx_atS RX2 227 "java/lang/IndexOutOfBoundsException" ["java/lang/RuntimeException", "java/lang/Exception"]).filter goodWord)
def wsX2_clearDarkMinutes : List Cond := .code yX2_clearDarkMinutes cX2_clearDarkMinutes 2 none :: ([.fieldLink RX2 26 "LampHills" "darkMinutes" "[I"] ++ wsX20)
def wsX2_addDarkMinute : List Cond := .code yX2_addDarkMinute cX2_addDarkMinute 2 none :: ([.fieldLink RX2 12 "LampHills" "town" "LLampHills$Town;", .fieldLink RX2 56 "LampHills$Town" "streets" "I", .fieldLink RX2 23 "LampHills" "forecast" "LLampHills$Night;", .fieldLink RX2 26 "LampHills" "darkMinutes" "[I", .methodLink RX2 232 yX0_isDark, .instanceMethod yX0_isDark, .selects RX0 yX0_isDark yX0_isDark, .initialized RX0, .code yX0_isDark cX0_isDark 2 (some .boolean), .fieldLink RX0 9 "LampHills$Night" "burningIn" "[I"] ++ wsX20 ++ wsX10 ++ wsX00)
def wsX2_streetOfMostDarkMinutes : List Cond := .code yX2_streetOfMostDarkMinutes cX2_streetOfMostDarkMinutes 4 (some .int) :: ([.fieldLink RX2 12 "LampHills" "town" "LLampHills$Town;", .fieldLink RX2 56 "LampHills$Town" "streets" "I", .fieldLink RX2 26 "LampHills" "darkMinutes" "[I"] ++ wsX20 ++ wsX10)
def wsX2_darkest_r1 : List Cond := [Cond.fieldLink RX2 23 "LampHills" "forecast" "LLampHills$Night;", Cond.fieldLink RX2 19 "LampHills" "night" "LLampHills$Night;", Cond.fieldLink RX2 158 "LampHills$Night" "minute" "I", Cond.fieldLink RX2 12 "LampHills" "town" "LLampHills$Town;", Cond.methodLink RX2 190 yX2_clearDarkMinutes, Cond.instanceMethod yX2_clearDarkMinutes, Cond.selects RX2 yX2_clearDarkMinutes yX2_clearDarkMinutes, Cond.initialized RX2, Cond.code yX2_clearDarkMinutes cX2_clearDarkMinutes 2 none, Cond.fieldLink RX2 26 "LampHills" "darkMinutes" "[I", Cond.methodLink RX2 186 yX0_copy, Cond.instanceMethod yX0_copy, Cond.selects RX0 yX0_copy yX0_copy, Cond.initialized RX0, Cond.code yX0_copy cX0_copy 3 none, Cond.fieldLink RX0 52 "LampHills$Night" "minute" "I", Cond.fieldLink RX0 56 "LampHills$Night" "number" "I", Cond.fieldLink RX0 59 "LampHills$Night" "oilUsed" "I", Cond.fieldLink RX0 9 "LampHills$Night" "burningIn" "[I", Cond.methodLink RX0 62 arraycopyName, Cond.native arraycopyName, Cond.static arraycopyName, Cond.initialized "java/lang/System", Cond.fieldLink RX0 15 "LampHills$Night" "oil" "[I"]
def wsX2_darkest_r2 : List Cond := [Cond.fieldLink RX0 18 "LampHills$Night" "soot" "[I", Cond.fieldLink RX0 21 "LampHills$Night" "burns" "[Z", Cond.fieldLink RX0 25 "LampHills$Night" "timesLit" "[I", Cond.fieldLink RX0 28 "LampHills$Night" "timesBlownOut" "[I", Cond.fieldLink RX0 31 "LampHills$Night" "at" "[I", Cond.fieldLink RX0 34 "LampHills$Night" "can" "[I", Cond.fieldLink RX0 37 "LampHills$Night" "goesTo" "[I", Cond.fieldLink RX0 40 "LampHills$Night" "goal" "[I", Cond.fieldLink RX0 43 "LampHills$Night" "minutesLeft" "[I", Cond.fieldLink RX0 46 "LampHills$Night" "latestPlace" "[I", Cond.fieldLink RX0 49 "LampHills$Night" "litBy" "[I", Cond.methodLink RX2 177 yX0_goBy, Cond.instanceMethod yX0_goBy, Cond.selects RX0 yX0_goBy yX0_goBy, Cond.code yX0_goBy cX0_goBy 5 (some .int), Cond.fieldLink RX0 76 "LampHills$Town" "wind" "[I", Cond.methodLink RX0 68 yX0_moveLighters, Cond.instanceMethod yX0_moveLighters, Cond.selects RX0 yX0_moveLighters yX0_moveLighters, Cond.code yX0_moveLighters cX0_moveLighters 4 (some .int), Cond.fieldLink RX0 91 "LampHills$Town" "lighters" "I", Cond.methodLink RX0 111 yX0_lookForLamp, Cond.instanceMethod yX0_lookForLamp, Cond.selects RX0 yX0_lookForLamp yX0_lookForLamp]
def wsX2_darkest_r3 : List Cond := [Cond.code yX0_lookForLamp cX0_lookForLamp 5 none, Cond.fieldLink RX0 122 "LampHills$Town" "rounds" "[[I", Cond.fieldLink RX0 130 "LampHills$Town" "ways" "[[I", Cond.methodLink RX0 118 yX0_placeOfNextLamp, Cond.instanceMethod yX0_placeOfNextLamp, Cond.selects RX0 yX0_placeOfNextLamp yX0_placeOfNextLamp, Cond.code yX0_placeOfNextLamp cX0_placeOfNextLamp 7 (some .int), Cond.fieldLink RX0 133 "LampHills$Town" "roundSize" "[I", Cond.methodLink RX0 136 yX0_whoGoesTo, Cond.instanceMethod yX0_whoGoesTo, Cond.selects RX0 yX0_whoGoesTo yX0_whoGoesTo, Cond.code yX0_whoGoesTo cX0_whoGoesTo 4 (some .int), Cond.methodLink RX0 139 yX1_canReach, Cond.instanceMethod yX1_canReach, Cond.selects RX1 yX1_canReach yX1_canReach, Cond.initialized RX1, Cond.code yX1_canReach cX1_canReach 4 (some .boolean), Cond.fieldLink RX1 32 "LampHills$Town" "lampHeight" "[I", Cond.fieldLink RX1 44 "LampHills$Town" "ladder" "[I", Cond.fieldLink RX1 17 "LampHills$Town" "ways" "[[I", Cond.constant RX1 57 (1000000), Cond.methodLink RX1 84 yX1_nearerEnd, Cond.instanceMethod yX1_nearerEnd, Cond.selects RX1 yX1_nearerEnd yX1_nearerEnd]
def wsX2_darkest_r4 : List Cond := [Cond.code yX1_nearerEnd cX1_nearerEnd 6 (some .int), Cond.fieldLink RX1 29 "LampHills$Town" "lampStreet" "[I", Cond.fieldLink RX1 20 "LampHills$Town" "firstEnd" "[I", Cond.fieldLink RX1 23 "LampHills$Town" "secondEnd" "[I", Cond.methodLink RX0 126 yX1_nearerEnd, Cond.methodLink RX0 114 yX0_tendLamp, Cond.instanceMethod yX0_tendLamp, Cond.selects RX0 yX0_tendLamp yX0_tendLamp, Cond.code yX0_tendLamp cX0_tendLamp 5 (some .boolean), Cond.methodLink RX0 143 Lib.Math.min.name, Cond.static Lib.Math.min.name, Cond.initialized "java/lang/Math", Cond.code Lib.Math.min.name Lib.Math.min.code 2 (some .int), Cond.fieldLink RX0 148 "LampHills$Town" "lampStreet" "[I", Cond.methodLink RX0 100 yX0_waitFromNow, Cond.instanceMethod yX0_waitFromNow, Cond.selects RX0 yX0_waitFromNow yX0_waitFromNow, Cond.code yX0_waitFromNow cX0_waitFromNow 2 none, Cond.methodLink RX0 72 yX0_burnLamps, Cond.instanceMethod yX0_burnLamps, Cond.selects RX0 yX0_burnLamps yX0_burnLamps, Cond.code yX0_burnLamps cX0_burnLamps 3 none, Cond.fieldLink RX0 85 "LampHills$Town" "lamps" "I", Cond.methodLink RX0 151 yX0_useOil]
def wsX2_darkest_r5 : List Cond := [Cond.instanceMethod yX0_useOil, Cond.selects RX0 yX0_useOil yX0_useOil, Cond.code yX0_useOil cX0_useOil 4 none, Cond.methodLink RX0 88 yX0_putOut, Cond.instanceMethod yX0_putOut, Cond.selects RX0 yX0_putOut yX0_putOut, Cond.code yX0_putOut cX0_putOut 3 none, Cond.methodLink RX0 81 yX0_blow, Cond.instanceMethod yX0_blow, Cond.selects RX0 yX0_blow yX0_blow, Cond.code yX0_blow cX0_blow 4 none, Cond.fieldLink RX0 157 "LampHills$Town" "lid" "[I", Cond.methodLink RX0 154 yX1_windAtLamp, Cond.instanceMethod yX1_windAtLamp, Cond.selects RX1 yX1_windAtLamp yX1_windAtLamp, Cond.code yX1_windAtLamp cX1_windAtLamp 4 (some .int), Cond.fieldLink RX1 9 "LampHills$Town" "height" "[I", Cond.methodLink RX1 75 Lib.Math.max.name, Cond.static Lib.Math.max.name, Cond.code Lib.Math.max.name Lib.Math.max.code 2 (some .int), Cond.methodLink RX2 193 yX2_addDarkMinute, Cond.instanceMethod yX2_addDarkMinute, Cond.selects RX2 yX2_addDarkMinute yX2_addDarkMinute, Cond.code yX2_addDarkMinute cX2_addDarkMinute 2 none]
def wsX2_darkest_r6 : List Cond := [Cond.fieldLink RX2 56 "LampHills$Town" "streets" "I", Cond.methodLink RX2 232 yX0_isDark, Cond.instanceMethod yX0_isDark, Cond.selects RX0 yX0_isDark yX0_isDark, Cond.code yX0_isDark cX0_isDark 2 (some .boolean), Cond.methodLink RX2 196 yX2_streetOfMostDarkMinutes, Cond.instanceMethod yX2_streetOfMostDarkMinutes, Cond.selects RX2 yX2_streetOfMostDarkMinutes yX2_streetOfMostDarkMinutes, Cond.code yX2_streetOfMostDarkMinutes cX2_streetOfMostDarkMinutes 4 (some .int)]
def wsX2_darkest : List Cond := .code yX2_darkest cX2_darkest 3 (some .int) :: ((wsX2_darkest_r1 ++ (wsX2_darkest_r2 ++ (wsX2_darkest_r3 ++ (wsX2_darkest_r4 ++ (wsX2_darkest_r5 ++ wsX2_darkest_r6))))) ++ wsX20 ++ wsX00 ++ wsX10)
def wsX2_needs : List Cond := .code yX2_needs cX2_needs 4 (some .int) :: ([.fieldLink RX2 12 "LampHills" "town" "LLampHills$Town;", .fieldLink RX2 63 "LampHills$Town" "lamps" "I", .fieldLink RX2 73 "LampHills$Town" "wind" "[I", .methodLink RX2 200 Lib.Math.max.name, .static Lib.Math.max.name, .initialized "java/lang/Math", .code Lib.Math.max.name Lib.Math.max.code 2 (some .int), .methodLink RX2 46 yX2_requireIndex, .static yX2_requireIndex, .initialized RX2, .code yX2_requireIndex cX2_requireIndex 2 none, .classLink RX2 223 "java/lang/IndexOutOfBoundsException", .initialized "java/lang/IndexOutOfBoundsException", .methodLink RX2 203 yX1_windAtLamp, .instanceMethod yX1_windAtLamp, .selects RX1 yX1_windAtLamp yX1_windAtLamp, .initialized RX1, .code yX1_windAtLamp cX1_windAtLamp 4 (some .int), .fieldLink RX1 29 "LampHills$Town" "lampStreet" "[I", .fieldLink RX1 9 "LampHills$Town" "height" "[I", .fieldLink RX1 20 "LampHills$Town" "firstEnd" "[I", .fieldLink RX1 23 "LampHills$Town" "secondEnd" "[I", .methodLink RX1 75 Lib.Math.max.name] ++ wsX20 ++ wsX10 ++ (vx_atS RX2 227 "java/lang/IndexOutOfBoundsException" ["java/lang/RuntimeException", "java/lang/Exception"]).filter goodWord)
def wsX2_foresee_r1 : List Cond := [Cond.fieldLink RX2 23 "LampHills" "forecast" "LLampHills$Night;", Cond.fieldLink RX2 19 "LampHills" "night" "LLampHills$Night;", Cond.fieldLink RX2 12 "LampHills" "town" "LLampHills$Town;", Cond.fieldLink RX2 174 "LampHills$Night" "oilUsed" "I", Cond.methodLink RX2 30 yX2_requireRange, Cond.static yX2_requireRange, Cond.initialized RX2, Cond.code yX2_requireRange cX2_requireRange 3 none, Cond.classLink RX2 49 "java/lang/IllegalArgumentException", Cond.initialized "java/lang/IllegalArgumentException", Cond.methodLink RX2 46 yX2_requireIndex, Cond.static yX2_requireIndex, Cond.code yX2_requireIndex cX2_requireIndex 2 none, Cond.classLink RX2 223 "java/lang/IndexOutOfBoundsException", Cond.initialized "java/lang/IndexOutOfBoundsException", Cond.methodLink RX2 186 yX0_copy, Cond.instanceMethod yX0_copy, Cond.selects RX0 yX0_copy yX0_copy, Cond.initialized RX0, Cond.code yX0_copy cX0_copy 3 none, Cond.fieldLink RX0 52 "LampHills$Night" "minute" "I", Cond.fieldLink RX0 56 "LampHills$Night" "number" "I", Cond.fieldLink RX0 59 "LampHills$Night" "oilUsed" "I", Cond.fieldLink RX0 9 "LampHills$Night" "burningIn" "[I"]
def wsX2_foresee_r2 : List Cond := [Cond.methodLink RX0 62 arraycopyName, Cond.native arraycopyName, Cond.static arraycopyName, Cond.initialized "java/lang/System", Cond.fieldLink RX0 15 "LampHills$Night" "oil" "[I", Cond.fieldLink RX0 18 "LampHills$Night" "soot" "[I", Cond.fieldLink RX0 21 "LampHills$Night" "burns" "[Z", Cond.fieldLink RX0 25 "LampHills$Night" "timesLit" "[I", Cond.fieldLink RX0 28 "LampHills$Night" "timesBlownOut" "[I", Cond.fieldLink RX0 31 "LampHills$Night" "at" "[I", Cond.fieldLink RX0 34 "LampHills$Night" "can" "[I", Cond.fieldLink RX0 37 "LampHills$Night" "goesTo" "[I", Cond.fieldLink RX0 40 "LampHills$Night" "goal" "[I", Cond.fieldLink RX0 43 "LampHills$Night" "minutesLeft" "[I", Cond.fieldLink RX0 46 "LampHills$Night" "latestPlace" "[I", Cond.fieldLink RX0 49 "LampHills$Night" "litBy" "[I", Cond.methodLink RX2 177 yX0_goBy, Cond.instanceMethod yX0_goBy, Cond.selects RX0 yX0_goBy yX0_goBy, Cond.code yX0_goBy cX0_goBy 5 (some .int), Cond.fieldLink RX0 76 "LampHills$Town" "wind" "[I", Cond.methodLink RX0 68 yX0_moveLighters, Cond.instanceMethod yX0_moveLighters, Cond.selects RX0 yX0_moveLighters yX0_moveLighters]
def wsX2_foresee_r3 : List Cond := [Cond.code yX0_moveLighters cX0_moveLighters 4 (some .int), Cond.fieldLink RX0 91 "LampHills$Town" "lighters" "I", Cond.methodLink RX0 111 yX0_lookForLamp, Cond.instanceMethod yX0_lookForLamp, Cond.selects RX0 yX0_lookForLamp yX0_lookForLamp, Cond.code yX0_lookForLamp cX0_lookForLamp 5 none, Cond.fieldLink RX0 122 "LampHills$Town" "rounds" "[[I", Cond.fieldLink RX0 130 "LampHills$Town" "ways" "[[I", Cond.methodLink RX0 118 yX0_placeOfNextLamp, Cond.instanceMethod yX0_placeOfNextLamp, Cond.selects RX0 yX0_placeOfNextLamp yX0_placeOfNextLamp, Cond.code yX0_placeOfNextLamp cX0_placeOfNextLamp 7 (some .int), Cond.fieldLink RX0 133 "LampHills$Town" "roundSize" "[I", Cond.methodLink RX0 136 yX0_whoGoesTo, Cond.instanceMethod yX0_whoGoesTo, Cond.selects RX0 yX0_whoGoesTo yX0_whoGoesTo, Cond.code yX0_whoGoesTo cX0_whoGoesTo 4 (some .int), Cond.methodLink RX0 139 yX1_canReach, Cond.instanceMethod yX1_canReach, Cond.selects RX1 yX1_canReach yX1_canReach, Cond.initialized RX1, Cond.code yX1_canReach cX1_canReach 4 (some .boolean), Cond.fieldLink RX1 32 "LampHills$Town" "lampHeight" "[I", Cond.fieldLink RX1 44 "LampHills$Town" "ladder" "[I"]
def wsX2_foresee_r4 : List Cond := [Cond.fieldLink RX1 17 "LampHills$Town" "ways" "[[I", Cond.constant RX1 57 (1000000), Cond.methodLink RX1 84 yX1_nearerEnd, Cond.instanceMethod yX1_nearerEnd, Cond.selects RX1 yX1_nearerEnd yX1_nearerEnd, Cond.code yX1_nearerEnd cX1_nearerEnd 6 (some .int), Cond.fieldLink RX1 29 "LampHills$Town" "lampStreet" "[I", Cond.fieldLink RX1 20 "LampHills$Town" "firstEnd" "[I", Cond.fieldLink RX1 23 "LampHills$Town" "secondEnd" "[I", Cond.methodLink RX0 126 yX1_nearerEnd, Cond.methodLink RX0 114 yX0_tendLamp, Cond.instanceMethod yX0_tendLamp, Cond.selects RX0 yX0_tendLamp yX0_tendLamp, Cond.code yX0_tendLamp cX0_tendLamp 5 (some .boolean), Cond.methodLink RX0 143 Lib.Math.min.name, Cond.static Lib.Math.min.name, Cond.initialized "java/lang/Math", Cond.code Lib.Math.min.name Lib.Math.min.code 2 (some .int), Cond.fieldLink RX0 148 "LampHills$Town" "lampStreet" "[I", Cond.methodLink RX0 100 yX0_waitFromNow, Cond.instanceMethod yX0_waitFromNow, Cond.selects RX0 yX0_waitFromNow yX0_waitFromNow, Cond.code yX0_waitFromNow cX0_waitFromNow 2 none, Cond.methodLink RX0 72 yX0_burnLamps]
def wsX2_foresee_r5 : List Cond := [Cond.instanceMethod yX0_burnLamps, Cond.selects RX0 yX0_burnLamps yX0_burnLamps, Cond.code yX0_burnLamps cX0_burnLamps 3 none, Cond.fieldLink RX0 85 "LampHills$Town" "lamps" "I", Cond.methodLink RX0 151 yX0_useOil, Cond.instanceMethod yX0_useOil, Cond.selects RX0 yX0_useOil yX0_useOil, Cond.code yX0_useOil cX0_useOil 4 none, Cond.methodLink RX0 88 yX0_putOut, Cond.instanceMethod yX0_putOut, Cond.selects RX0 yX0_putOut yX0_putOut, Cond.code yX0_putOut cX0_putOut 3 none, Cond.methodLink RX0 81 yX0_blow, Cond.instanceMethod yX0_blow, Cond.selects RX0 yX0_blow yX0_blow, Cond.code yX0_blow cX0_blow 4 none, Cond.fieldLink RX0 157 "LampHills$Town" "lid" "[I", Cond.methodLink RX0 154 yX1_windAtLamp, Cond.instanceMethod yX1_windAtLamp, Cond.selects RX1 yX1_windAtLamp yX1_windAtLamp, Cond.code yX1_windAtLamp cX1_windAtLamp 4 (some .int), Cond.fieldLink RX1 9 "LampHills$Town" "height" "[I", Cond.methodLink RX1 75 Lib.Math.max.name, Cond.static Lib.Math.max.name]
def wsX2_foresee_r6 : List Cond := [Cond.code Lib.Math.max.name Lib.Math.max.code 2 (some .int), Cond.methodLink RX2 164 yX0_burningLamps, Cond.instanceMethod yX0_burningLamps, Cond.selects RX0 yX0_burningLamps yX0_burningLamps, Cond.code yX0_burningLamps cX0_burningLamps 4 (some .int), Cond.fieldLink RX0 104 "LampHills$Town" "streets" "I", Cond.methodLink RX2 168 yX0_darkStreets, Cond.instanceMethod yX0_darkStreets, Cond.selects RX0 yX0_darkStreets yX0_darkStreets, Cond.code yX0_darkStreets cX0_darkStreets 4 (some .int), Cond.methodLink RX0 107 yX0_isDark, Cond.instanceMethod yX0_isDark, Cond.selects RX0 yX0_isDark yX0_isDark, Cond.code yX0_isDark cX0_isDark 2 (some .boolean)]
def wsX2_foresee : List Cond := .code yX2_foresee cX2_foresee 3 (some .int) :: ((wsX2_foresee_r1 ++ (wsX2_foresee_r2 ++ (wsX2_foresee_r3 ++ (wsX2_foresee_r4 ++ (wsX2_foresee_r5 ++ wsX2_foresee_r6))))) ++ wsX20 ++ wsX00 ++ wsX10 ++ (vx_atS RX2 53 "java/lang/IllegalArgumentException" ["java/lang/RuntimeException", "java/lang/Exception"]).filter goodWord ++ (vx_atS RX2 227 "java/lang/IndexOutOfBoundsException" ["java/lang/RuntimeException", "java/lang/Exception"]).filter goodWord)
def wsX2_mean : List Cond := .code yX2_mean cX2_mean 1 (some .double) :: ([.fieldLink RX2 12 "LampHills" "town" "LLampHills$Town;", .fieldLink RX2 63 "LampHills$Town" "lamps" "I", .fieldLink RX2 19 "LampHills" "night" "LLampHills$Night;", .methodLink RX2 171 yX0_oilOfLamps, .instanceMethod yX0_oilOfLamps, .selects RX0 yX0_oilOfLamps yX0_oilOfLamps, .initialized RX0, .code yX0_oilOfLamps cX0_oilOfLamps 4 (some .int), .fieldLink RX0 85 "LampHills$Town" "lamps" "I", .fieldLink RX0 15 "LampHills$Night" "oil" "[I"] ++ wsX20 ++ wsX10 ++ wsX00)
def wsX2_digestStreets : List Cond := .code yX2_digestStreets cX2_digestStreets 6 (some .long) :: ([.fieldLink RX2 12 "LampHills" "town" "LLampHills$Town;", .fieldLink RX2 34 "LampHills$Town" "corners" "I", .constantLong RX2 208 (31), .fieldLink RX2 236 "LampHills$Town" "height" "[I", .fieldLink RX2 56 "LampHills$Town" "streets" "I", .fieldLink RX2 239 "LampHills$Town" "firstEnd" "[I", .fieldLink RX2 242 "LampHills$Town" "secondEnd" "[I", .fieldLink RX2 245 "LampHills$Town" "length" "[I", .methodLink RX2 248 yX2_burning, .instanceMethod yX2_burning, .selects RX2 yX2_burning yX2_burning, .initialized RX2, .code yX2_burning cX2_burning 2 (some .int), .fieldLink RX2 19 "LampHills" "night" "LLampHills$Night;", .fieldLink RX2 155 "LampHills$Night" "burningIn" "[I", .methodLink RX2 46 yX2_requireIndex, .static yX2_requireIndex, .code yX2_requireIndex cX2_requireIndex 2 none, .classLink RX2 223 "java/lang/IndexOutOfBoundsException", .initialized "java/lang/IndexOutOfBoundsException"] ++ wsX20 ++ wsX10 ++ wsX00 ++ (vx_atS RX2 227 "java/lang/IndexOutOfBoundsException" ["java/lang/RuntimeException", "java/lang/Exception"]).filter goodWord)
def wsX2_digestLamps_r1 : List Cond := [Cond.fieldLink RX2 12 "LampHills" "town" "LLampHills$Town;", Cond.fieldLink RX2 63 "LampHills$Town" "lamps" "I", Cond.constantLong RX2 208 (31), Cond.methodLink RX2 251 yX2_told, Cond.instanceMethod yX2_told, Cond.selects RX2 yX2_told yX2_told, Cond.initialized RX2, Cond.code yX2_told cX2_told 3 (some .int), Cond.fieldLink RX2 114 "LampHills$Town" "lampStreet" "[I", Cond.fieldLink RX2 117 "LampHills$Town" "lampHeight" "[I", Cond.fieldLink RX2 70 "LampHills$Town" "lid" "[I", Cond.fieldLink RX2 19 "LampHills" "night" "LLampHills$Night;", Cond.fieldLink RX2 120 "LampHills$Night" "oil" "[I", Cond.fieldLink RX2 123 "LampHills$Night" "soot" "[I", Cond.fieldLink RX2 126 "LampHills$Night" "burns" "[Z", Cond.fieldLink RX2 134 "LampHills$Night" "timesLit" "[I", Cond.fieldLink RX2 137 "LampHills$Night" "timesBlownOut" "[I", Cond.methodLink RX2 46 yX2_requireIndex, Cond.static yX2_requireIndex, Cond.code yX2_requireIndex cX2_requireIndex 2 none, Cond.classLink RX2 223 "java/lang/IndexOutOfBoundsException", Cond.initialized "java/lang/IndexOutOfBoundsException", Cond.methodLink RX2 130 yX0_whoGoesTo, Cond.instanceMethod yX0_whoGoesTo]
def wsX2_digestLamps_r2 : List Cond := [Cond.selects RX0 yX0_whoGoesTo yX0_whoGoesTo, Cond.initialized RX0, Cond.code yX0_whoGoesTo cX0_whoGoesTo 4 (some .int), Cond.fieldLink RX0 91 "LampHills$Town" "lighters" "I", Cond.fieldLink RX0 37 "LampHills$Night" "goesTo" "[I"]
def wsX2_digestLamps : List Cond := .code yX2_digestLamps cX2_digestLamps 7 (some .long) :: ((wsX2_digestLamps_r1 ++ wsX2_digestLamps_r2) ++ wsX20 ++ wsX10 ++ wsX00 ++ (vx_atS RX2 227 "java/lang/IndexOutOfBoundsException" ["java/lang/RuntimeException", "java/lang/Exception"]).filter goodWord)
def wsX2_digestLighters : List Cond := .code yX2_digestLighters cX2_digestLighters 7 (some .long) :: ([.fieldLink RX2 12 "LampHills" "town" "LLampHills$Town;", .fieldLink RX2 76 "LampHills$Town" "lighters" "I", .constantLong RX2 208 (31), .fieldLink RX2 98 "LampHills$Town" "roundSize" "[I", .fieldLink RX2 257 "LampHills$Town" "rounds" "[[I", .methodLink RX2 254 yX2_lighter, .instanceMethod yX2_lighter, .selects RX2 yX2_lighter yX2_lighter, .initialized RX2, .code yX2_lighter cX2_lighter 3 (some .int), .fieldLink RX2 19 "LampHills" "night" "LLampHills$Night;", .fieldLink RX2 140 "LampHills$Night" "at" "[I", .fieldLink RX2 143 "LampHills$Town" "ladder" "[I", .fieldLink RX2 82 "LampHills$Night" "can" "[I", .fieldLink RX2 146 "LampHills$Night" "goesTo" "[I", .fieldLink RX2 149 "LampHills$Night" "minutesLeft" "[I", .fieldLink RX2 152 "LampHills$Night" "litBy" "[I", .methodLink RX2 46 yX2_requireIndex, .static yX2_requireIndex, .code yX2_requireIndex cX2_requireIndex 2 none, .classLink RX2 223 "java/lang/IndexOutOfBoundsException", .initialized "java/lang/IndexOutOfBoundsException"] ++ wsX20 ++ wsX10 ++ wsX00 ++ (vx_atS RX2 227 "java/lang/IndexOutOfBoundsException" ["java/lang/RuntimeException", "java/lang/Exception"]).filter goodWord)
def wsX2_digest_r1 : List Cond := [Cond.constantLong RX2 206 (941), Cond.constantLong RX2 208 (31), Cond.fieldLink RX2 12 "LampHills" "town" "LLampHills$Town;", Cond.fieldLink RX2 73 "LampHills$Town" "wind" "[I", Cond.methodLink RX2 210 yX2_count, Cond.instanceMethod yX2_count, Cond.selects RX2 yX2_count yX2_count, Cond.initialized RX2, Cond.code yX2_count cX2_count 2 (some .int), Cond.fieldLink RX2 19 "LampHills" "night" "LLampHills$Night;", Cond.fieldLink RX2 158 "LampHills$Night" "minute" "I", Cond.fieldLink RX2 161 "LampHills$Night" "number" "I", Cond.fieldLink RX2 34 "LampHills$Town" "corners" "I", Cond.fieldLink RX2 56 "LampHills$Town" "streets" "I", Cond.fieldLink RX2 63 "LampHills$Town" "lamps" "I", Cond.fieldLink RX2 76 "LampHills$Town" "lighters" "I", Cond.fieldLink RX2 174 "LampHills$Night" "oilUsed" "I", Cond.methodLink RX2 46 yX2_requireIndex, Cond.static yX2_requireIndex, Cond.code yX2_requireIndex cX2_requireIndex 2 none, Cond.classLink RX2 223 "java/lang/IndexOutOfBoundsException", Cond.initialized "java/lang/IndexOutOfBoundsException", Cond.methodLink RX2 164 yX0_burningLamps, Cond.instanceMethod yX0_burningLamps]
def wsX2_digest_r2 : List Cond := [Cond.selects RX0 yX0_burningLamps yX0_burningLamps, Cond.initialized RX0, Cond.code yX0_burningLamps cX0_burningLamps 4 (some .int), Cond.fieldLink RX0 104 "LampHills$Town" "streets" "I", Cond.fieldLink RX0 9 "LampHills$Night" "burningIn" "[I", Cond.methodLink RX2 168 yX0_darkStreets, Cond.instanceMethod yX0_darkStreets, Cond.selects RX0 yX0_darkStreets yX0_darkStreets, Cond.code yX0_darkStreets cX0_darkStreets 4 (some .int), Cond.methodLink RX0 107 yX0_isDark, Cond.instanceMethod yX0_isDark, Cond.selects RX0 yX0_isDark yX0_isDark, Cond.code yX0_isDark cX0_isDark 2 (some .boolean), Cond.methodLink RX2 171 yX0_oilOfLamps, Cond.instanceMethod yX0_oilOfLamps, Cond.selects RX0 yX0_oilOfLamps yX0_oilOfLamps, Cond.code yX0_oilOfLamps cX0_oilOfLamps 4 (some .int), Cond.fieldLink RX0 85 "LampHills$Town" "lamps" "I", Cond.fieldLink RX0 15 "LampHills$Night" "oil" "[I", Cond.methodLink RX2 213 yX2_digestStreets, Cond.instanceMethod yX2_digestStreets, Cond.selects RX2 yX2_digestStreets yX2_digestStreets, Cond.code yX2_digestStreets cX2_digestStreets 6 (some .long), Cond.fieldLink RX2 236 "LampHills$Town" "height" "[I"]
def wsX2_digest_r3 : List Cond := [Cond.fieldLink RX2 239 "LampHills$Town" "firstEnd" "[I", Cond.fieldLink RX2 242 "LampHills$Town" "secondEnd" "[I", Cond.fieldLink RX2 245 "LampHills$Town" "length" "[I", Cond.methodLink RX2 248 yX2_burning, Cond.instanceMethod yX2_burning, Cond.selects RX2 yX2_burning yX2_burning, Cond.code yX2_burning cX2_burning 2 (some .int), Cond.fieldLink RX2 155 "LampHills$Night" "burningIn" "[I", Cond.methodLink RX2 217 yX2_digestLamps, Cond.instanceMethod yX2_digestLamps, Cond.selects RX2 yX2_digestLamps yX2_digestLamps, Cond.code yX2_digestLamps cX2_digestLamps 7 (some .long), Cond.methodLink RX2 251 yX2_told, Cond.instanceMethod yX2_told, Cond.selects RX2 yX2_told yX2_told, Cond.code yX2_told cX2_told 3 (some .int), Cond.fieldLink RX2 114 "LampHills$Town" "lampStreet" "[I", Cond.fieldLink RX2 117 "LampHills$Town" "lampHeight" "[I", Cond.fieldLink RX2 70 "LampHills$Town" "lid" "[I", Cond.fieldLink RX2 120 "LampHills$Night" "oil" "[I", Cond.fieldLink RX2 123 "LampHills$Night" "soot" "[I", Cond.fieldLink RX2 126 "LampHills$Night" "burns" "[Z", Cond.fieldLink RX2 134 "LampHills$Night" "timesLit" "[I", Cond.fieldLink RX2 137 "LampHills$Night" "timesBlownOut" "[I"]
def wsX2_digest_r4 : List Cond := [Cond.methodLink RX2 130 yX0_whoGoesTo, Cond.instanceMethod yX0_whoGoesTo, Cond.selects RX0 yX0_whoGoesTo yX0_whoGoesTo, Cond.code yX0_whoGoesTo cX0_whoGoesTo 4 (some .int), Cond.fieldLink RX0 91 "LampHills$Town" "lighters" "I", Cond.fieldLink RX0 37 "LampHills$Night" "goesTo" "[I", Cond.methodLink RX2 220 yX2_digestLighters, Cond.instanceMethod yX2_digestLighters, Cond.selects RX2 yX2_digestLighters yX2_digestLighters, Cond.code yX2_digestLighters cX2_digestLighters 7 (some .long), Cond.fieldLink RX2 98 "LampHills$Town" "roundSize" "[I", Cond.fieldLink RX2 257 "LampHills$Town" "rounds" "[[I", Cond.methodLink RX2 254 yX2_lighter, Cond.instanceMethod yX2_lighter, Cond.selects RX2 yX2_lighter yX2_lighter, Cond.code yX2_lighter cX2_lighter 3 (some .int), Cond.fieldLink RX2 140 "LampHills$Night" "at" "[I", Cond.fieldLink RX2 143 "LampHills$Town" "ladder" "[I", Cond.fieldLink RX2 82 "LampHills$Night" "can" "[I", Cond.fieldLink RX2 146 "LampHills$Night" "goesTo" "[I", Cond.fieldLink RX2 149 "LampHills$Night" "minutesLeft" "[I", Cond.fieldLink RX2 152 "LampHills$Night" "litBy" "[I"]
def wsX2_digest : List Cond := .code yX2_digest cX2_digest 4 (some .long) :: ((wsX2_digest_r1 ++ (wsX2_digest_r2 ++ (wsX2_digest_r3 ++ wsX2_digest_r4))) ++ wsX20 ++ wsX10 ++ wsX00 ++ (vx_atS RX2 227 "java/lang/IndexOutOfBoundsException" ["java/lang/RuntimeException", "java/lang/Exception"]).filter goodWord)
def wsX3_init : List Cond := .code yX3_init cX3_init 1 none :: ([.methodLink RX3 1 objectInit, .instanceMethod objectInit, .code objectInit ⟨#[0xb1]⟩ 1 none, .arrayClass .int, .fieldLink RX3 9 "LampHillsModel" "heights" "[I", .fieldLink RX3 13 "LampHillsModel" "roads" "[I", .fieldLink RX3 16 "LampHillsModel" "ways" "[I", .fieldLink RX3 19 "LampHillsModel" "lights" "[I", .fieldLink RX3 22 "LampHillsModel" "people" "[I", .fieldLink RX3 25 "LampHillsModel" "rounds" "[I", .fieldLink RX3 28 "LampHillsModel" "winds" "[I", .fieldLink RX3 31 "LampHillsModel" "numbers" "[I"] ++ wsX30)
def wsX3_thrown : List Cond := .code yX3_thrown cX3_thrown 1 (some .int) :: ([.fieldLink RX3 34 "LampHillsModel" "thrown" "I"] ++ wsX30)
def wsX3_fail : List Cond := .code yX3_fail cX3_fail 2 (some .int) :: ([.fieldLink RX3 34 "LampHillsModel" "thrown" "I"] ++ wsX30)
def wsX3_isIn : List Cond := .code yX3_isIn cX3_isIn 3 (some .boolean) :: ([])
def wsX3_isCorner : List Cond := .code yX3_isCorner cX3_isCorner 2 (some .boolean) :: ([.fieldLink RX3 38 "LampHillsModel" "corners" "I", .methodLink RX3 41 yX3_isIn, .static yX3_isIn, .initialized RX3, .code yX3_isIn cX3_isIn 3 (some .boolean)] ++ wsX30)
def wsX3_isStreet : List Cond := .code yX3_isStreet cX3_isStreet 2 (some .boolean) :: ([.fieldLink RX3 45 "LampHillsModel" "streets" "I", .methodLink RX3 41 yX3_isIn, .static yX3_isIn, .initialized RX3, .code yX3_isIn cX3_isIn 3 (some .boolean)] ++ wsX30)
def wsX3_isLamp : List Cond := .code yX3_isLamp cX3_isLamp 2 (some .boolean) :: ([.fieldLink RX3 48 "LampHillsModel" "lamps" "I", .methodLink RX3 41 yX3_isIn, .static yX3_isIn, .initialized RX3, .code yX3_isIn cX3_isIn 3 (some .boolean)] ++ wsX30)
def wsX3_isLighter : List Cond := .code yX3_isLighter cX3_isLighter 2 (some .boolean) :: ([.fieldLink RX3 51 "LampHillsModel" "lighters" "I", .methodLink RX3 41 yX3_isIn, .static yX3_isIn, .initialized RX3, .code yX3_isIn cX3_isIn 3 (some .boolean)] ++ wsX30)
def wsX3_ro : List Cond := .code yX3_ro cX3_ro 3 (some .int) :: ([.fieldLink RX3 13 "LampHillsModel" "roads" "[I"] ++ wsX30)
def wsX3_la : List Cond := .code yX3_la cX3_la 3 (some .int) :: ([.fieldLink RX3 19 "LampHillsModel" "lights" "[I"] ++ wsX30)
def wsX3_setLamp : List Cond := .code yX3_setLamp cX3_setLamp 4 none :: ([.fieldLink RX3 19 "LampHillsModel" "lights" "[I"] ++ wsX30)
def wsX3_pe : List Cond := .code yX3_pe cX3_pe 3 (some .int) :: ([.fieldLink RX3 22 "LampHillsModel" "people" "[I"] ++ wsX30)
def wsX3_put : List Cond := .code yX3_put cX3_put 4 none :: ([.fieldLink RX3 22 "LampHillsModel" "people" "[I"] ++ wsX30)
def wsX3_reckon : List Cond := .code yX3_reckon cX3_reckon 6 none :: ([.fieldLink RX3 38 "LampHillsModel" "corners" "I", .fieldLink RX3 16 "LampHillsModel" "ways" "[I", .fieldLink RX3 45 "LampHillsModel" "streets" "I", .fieldLink RX3 9 "LampHillsModel" "heights" "[I", .methodLink RX3 58 Lib.Math.max.name, .static Lib.Math.max.name, .initialized "java/lang/Math", .code Lib.Math.max.name Lib.Math.max.code 2 (some .int), .methodLink RX3 63 Lib.Math.min.name, .static Lib.Math.min.name, .code Lib.Math.min.name Lib.Math.min.code 2 (some .int), .methodLink RX3 54 yX3_ro, .instanceMethod yX3_ro, .selects RX3 yX3_ro yX3_ro, .initialized RX3, .code yX3_ro cX3_ro 3 (some .int), .fieldLink RX3 13 "LampHillsModel" "roads" "[I"] ++ wsX30)
def wsX3_corner_r1 : List Cond := [Cond.fieldLink RX3 34 "LampHillsModel" "thrown" "I", Cond.fieldLink RX3 38 "LampHillsModel" "corners" "I", Cond.fieldLink RX3 9 "LampHillsModel" "heights" "[I", Cond.methodLink RX3 41 yX3_isIn, Cond.static yX3_isIn, Cond.initialized RX3, Cond.code yX3_isIn cX3_isIn 3 (some .boolean), Cond.methodLink RX3 66 yX3_fail, Cond.instanceMethod yX3_fail, Cond.selects RX3 yX3_fail yX3_fail, Cond.code yX3_fail cX3_fail 2 (some .int), Cond.methodLink RX3 70 yX3_reckon, Cond.instanceMethod yX3_reckon, Cond.selects RX3 yX3_reckon yX3_reckon, Cond.code yX3_reckon cX3_reckon 6 none, Cond.fieldLink RX3 16 "LampHillsModel" "ways" "[I", Cond.fieldLink RX3 45 "LampHillsModel" "streets" "I", Cond.methodLink RX3 58 Lib.Math.max.name, Cond.static Lib.Math.max.name, Cond.initialized "java/lang/Math", Cond.code Lib.Math.max.name Lib.Math.max.code 2 (some .int), Cond.methodLink RX3 63 Lib.Math.min.name, Cond.static Lib.Math.min.name, Cond.code Lib.Math.min.name Lib.Math.min.code 2 (some .int)]
def wsX3_corner_r2 : List Cond := [Cond.methodLink RX3 54 yX3_ro, Cond.instanceMethod yX3_ro, Cond.selects RX3 yX3_ro yX3_ro, Cond.code yX3_ro cX3_ro 3 (some .int), Cond.fieldLink RX3 13 "LampHillsModel" "roads" "[I"]
def wsX3_corner : List Cond := .code yX3_corner cX3_corner 2 (some .int) :: ((wsX3_corner_r1 ++ wsX3_corner_r2) ++ wsX30)
def wsX3_street_r1 : List Cond := [Cond.fieldLink RX3 34 "LampHillsModel" "thrown" "I", Cond.fieldLink RX3 45 "LampHillsModel" "streets" "I", Cond.arrayClass .int, Cond.fieldLink RX3 13 "LampHillsModel" "roads" "[I", Cond.methodLink RX3 77 arraycopyName, Cond.native arraycopyName, Cond.static arraycopyName, Cond.initialized "java/lang/System", Cond.methodLink RX3 73 yX3_isCorner, Cond.instanceMethod yX3_isCorner, Cond.selects RX3 yX3_isCorner yX3_isCorner, Cond.initialized RX3, Cond.code yX3_isCorner cX3_isCorner 2 (some .boolean), Cond.fieldLink RX3 38 "LampHillsModel" "corners" "I", Cond.methodLink RX3 41 yX3_isIn, Cond.static yX3_isIn, Cond.code yX3_isIn cX3_isIn 3 (some .boolean), Cond.methodLink RX3 66 yX3_fail, Cond.instanceMethod yX3_fail, Cond.selects RX3 yX3_fail yX3_fail, Cond.code yX3_fail cX3_fail 2 (some .int), Cond.methodLink RX3 70 yX3_reckon, Cond.instanceMethod yX3_reckon, Cond.selects RX3 yX3_reckon yX3_reckon]
def wsX3_street_r2 : List Cond := [Cond.code yX3_reckon cX3_reckon 6 none, Cond.fieldLink RX3 16 "LampHillsModel" "ways" "[I", Cond.fieldLink RX3 9 "LampHillsModel" "heights" "[I", Cond.methodLink RX3 58 Lib.Math.max.name, Cond.static Lib.Math.max.name, Cond.initialized "java/lang/Math", Cond.code Lib.Math.max.name Lib.Math.max.code 2 (some .int), Cond.methodLink RX3 63 Lib.Math.min.name, Cond.static Lib.Math.min.name, Cond.code Lib.Math.min.name Lib.Math.min.code 2 (some .int), Cond.methodLink RX3 54 yX3_ro, Cond.instanceMethod yX3_ro, Cond.selects RX3 yX3_ro yX3_ro, Cond.code yX3_ro cX3_ro 3 (some .int)]
def wsX3_street : List Cond := .code yX3_street cX3_street 5 (some .int) :: ((wsX3_street_r1 ++ wsX3_street_r2) ++ wsX30)
def wsX3_lamp : List Cond := .code yX3_lamp cX3_lamp 4 (some .int) :: ([.fieldLink RX3 34 "LampHillsModel" "thrown" "I", .fieldLink RX3 48 "LampHillsModel" "lamps" "I", .arrayClass .int, .fieldLink RX3 19 "LampHillsModel" "lights" "[I", .methodLink RX3 77 arraycopyName, .native arraycopyName, .static arraycopyName, .initialized "java/lang/System", .methodLink RX3 83 yX3_isStreet, .instanceMethod yX3_isStreet, .selects RX3 yX3_isStreet yX3_isStreet, .initialized RX3, .code yX3_isStreet cX3_isStreet 2 (some .boolean), .fieldLink RX3 45 "LampHillsModel" "streets" "I", .methodLink RX3 41 yX3_isIn, .static yX3_isIn, .code yX3_isIn cX3_isIn 3 (some .boolean), .methodLink RX3 66 yX3_fail, .instanceMethod yX3_fail, .selects RX3 yX3_fail yX3_fail, .code yX3_fail cX3_fail 2 (some .int)] ++ wsX30)
def wsX3_lid : List Cond := .code yX3_lid cX3_lid 4 (some .int) :: ([.fieldLink RX3 34 "LampHillsModel" "thrown" "I", .methodLink RX3 86 yX3_isLamp, .instanceMethod yX3_isLamp, .selects RX3 yX3_isLamp yX3_isLamp, .initialized RX3, .code yX3_isLamp cX3_isLamp 2 (some .boolean), .fieldLink RX3 48 "LampHillsModel" "lamps" "I", .methodLink RX3 41 yX3_isIn, .static yX3_isIn, .code yX3_isIn cX3_isIn 3 (some .boolean), .methodLink RX3 66 yX3_fail, .instanceMethod yX3_fail, .selects RX3 yX3_fail yX3_fail, .code yX3_fail cX3_fail 2 (some .int), .methodLink RX3 89 yX3_la, .instanceMethod yX3_la, .selects RX3 yX3_la yX3_la, .code yX3_la cX3_la 3 (some .int), .fieldLink RX3 19 "LampHillsModel" "lights" "[I", .methodLink RX3 92 yX3_setLamp, .instanceMethod yX3_setLamp, .selects RX3 yX3_setLamp yX3_setLamp, .code yX3_setLamp cX3_setLamp 4 none] ++ wsX30)
def wsX3_setWind : List Cond := .code yX3_setWind cX3_setWind 4 (some .int) :: ([.fieldLink RX3 34 "LampHillsModel" "thrown" "I", .fieldLink RX3 28 "LampHillsModel" "winds" "[I", .methodLink RX3 41 yX3_isIn, .static yX3_isIn, .initialized RX3, .code yX3_isIn cX3_isIn 3 (some .boolean), .methodLink RX3 66 yX3_fail, .instanceMethod yX3_fail, .selects RX3 yX3_fail yX3_fail, .code yX3_fail cX3_fail 2 (some .int)] ++ wsX30)
def wsX3_hire : List Cond := .code yX3_hire cX3_hire 5 (some .int) :: ([.fieldLink RX3 34 "LampHillsModel" "thrown" "I", .fieldLink RX3 51 "LampHillsModel" "lighters" "I", .arrayClass .int, .fieldLink RX3 22 "LampHillsModel" "people" "[I", .methodLink RX3 77 arraycopyName, .native arraycopyName, .static arraycopyName, .initialized "java/lang/System", .methodLink RX3 73 yX3_isCorner, .instanceMethod yX3_isCorner, .selects RX3 yX3_isCorner yX3_isCorner, .initialized RX3, .code yX3_isCorner cX3_isCorner 2 (some .boolean), .fieldLink RX3 38 "LampHillsModel" "corners" "I", .methodLink RX3 41 yX3_isIn, .static yX3_isIn, .code yX3_isIn cX3_isIn 3 (some .boolean), .methodLink RX3 66 yX3_fail, .instanceMethod yX3_fail, .selects RX3 yX3_fail yX3_fail, .code yX3_fail cX3_fail 2 (some .int)] ++ wsX30)
def wsX3_round_r1 : List Cond := [Cond.fieldLink RX3 34 "LampHillsModel" "thrown" "I", Cond.fieldLink RX3 25 "LampHillsModel" "rounds" "[I", Cond.methodLink RX3 96 yX3_isLighter, Cond.instanceMethod yX3_isLighter, Cond.selects RX3 yX3_isLighter yX3_isLighter, Cond.initialized RX3, Cond.code yX3_isLighter cX3_isLighter 2 (some .boolean), Cond.fieldLink RX3 51 "LampHillsModel" "lighters" "I", Cond.methodLink RX3 41 yX3_isIn, Cond.static yX3_isIn, Cond.code yX3_isIn cX3_isIn 3 (some .boolean), Cond.methodLink RX3 86 yX3_isLamp, Cond.instanceMethod yX3_isLamp, Cond.selects RX3 yX3_isLamp yX3_isLamp, Cond.code yX3_isLamp cX3_isLamp 2 (some .boolean), Cond.fieldLink RX3 48 "LampHillsModel" "lamps" "I", Cond.methodLink RX3 66 yX3_fail, Cond.instanceMethod yX3_fail, Cond.selects RX3 yX3_fail yX3_fail, Cond.code yX3_fail cX3_fail 2 (some .int), Cond.methodLink RX3 99 yX3_pe, Cond.instanceMethod yX3_pe, Cond.selects RX3 yX3_pe yX3_pe, Cond.code yX3_pe cX3_pe 3 (some .int)]
def wsX3_round_r2 : List Cond := [Cond.fieldLink RX3 22 "LampHillsModel" "people" "[I", Cond.methodLink RX3 102 yX3_put, Cond.instanceMethod yX3_put, Cond.selects RX3 yX3_put yX3_put, Cond.code yX3_put cX3_put 4 none]
def wsX3_round : List Cond := .code yX3_round cX3_round 6 (some .int) :: ((wsX3_round_r1 ++ wsX3_round_r2) ++ wsX30)
def wsX3_fill_r1 : List Cond := [Cond.fieldLink RX3 34 "LampHillsModel" "thrown" "I", Cond.methodLink RX3 63 Lib.Math.min.name, Cond.static Lib.Math.min.name, Cond.initialized "java/lang/Math", Cond.code Lib.Math.min.name Lib.Math.min.code 2 (some .int), Cond.methodLink RX3 96 yX3_isLighter, Cond.instanceMethod yX3_isLighter, Cond.selects RX3 yX3_isLighter yX3_isLighter, Cond.initialized RX3, Cond.code yX3_isLighter cX3_isLighter 2 (some .boolean), Cond.fieldLink RX3 51 "LampHillsModel" "lighters" "I", Cond.methodLink RX3 41 yX3_isIn, Cond.static yX3_isIn, Cond.code yX3_isIn cX3_isIn 3 (some .boolean), Cond.methodLink RX3 66 yX3_fail, Cond.instanceMethod yX3_fail, Cond.selects RX3 yX3_fail yX3_fail, Cond.code yX3_fail cX3_fail 2 (some .int), Cond.methodLink RX3 99 yX3_pe, Cond.instanceMethod yX3_pe, Cond.selects RX3 yX3_pe yX3_pe, Cond.code yX3_pe cX3_pe 3 (some .int), Cond.fieldLink RX3 22 "LampHillsModel" "people" "[I", Cond.methodLink RX3 102 yX3_put]
def wsX3_fill_r2 : List Cond := [Cond.instanceMethod yX3_put, Cond.selects RX3 yX3_put yX3_put, Cond.code yX3_put cX3_put 4 none]
def wsX3_fill : List Cond := .code yX3_fill cX3_fill 3 (some .int) :: ((wsX3_fill_r1 ++ wsX3_fill_r2) ++ wsX30)
def wsX3_away : List Cond := .code yX3_away cX3_away 3 (some .int) :: ([.fieldLink RX3 16 "LampHillsModel" "ways" "[I", .methodLink RX3 63 Lib.Math.min.name, .static Lib.Math.min.name, .initialized "java/lang/Math", .code Lib.Math.min.name Lib.Math.min.code 2 (some .int)] ++ wsX30)
def wsX3_way : List Cond := .code yX3_way cX3_way 3 (some .int) :: ([.fieldLink RX3 34 "LampHillsModel" "thrown" "I", .methodLink RX3 73 yX3_isCorner, .instanceMethod yX3_isCorner, .selects RX3 yX3_isCorner yX3_isCorner, .initialized RX3, .code yX3_isCorner cX3_isCorner 2 (some .boolean), .fieldLink RX3 38 "LampHillsModel" "corners" "I", .methodLink RX3 41 yX3_isIn, .static yX3_isIn, .code yX3_isIn cX3_isIn 3 (some .boolean), .methodLink RX3 66 yX3_fail, .instanceMethod yX3_fail, .selects RX3 yX3_fail yX3_fail, .code yX3_fail cX3_fail 2 (some .int), .methodLink RX3 105 yX3_away, .instanceMethod yX3_away, .selects RX3 yX3_away yX3_away, .code yX3_away cX3_away 3 (some .int), .fieldLink RX3 16 "LampHillsModel" "ways" "[I", .methodLink RX3 63 Lib.Math.min.name, .static Lib.Math.min.name, .initialized "java/lang/Math", .code Lib.Math.min.name Lib.Math.min.code 2 (some .int)] ++ wsX30)
def wsX3_goer : List Cond := .code yX3_goer cX3_goer 3 (some .int) :: ([.fieldLink RX3 51 "LampHillsModel" "lighters" "I", .methodLink RX3 99 yX3_pe, .instanceMethod yX3_pe, .selects RX3 yX3_pe yX3_pe, .initialized RX3, .code yX3_pe cX3_pe 3 (some .int), .fieldLink RX3 22 "LampHillsModel" "people" "[I"] ++ wsX30)
def wsX3_lampTold : List Cond := .code yX3_lampTold cX3_lampTold 3 (some .int) :: ([.methodLink RX3 89 yX3_la, .instanceMethod yX3_la, .selects RX3 yX3_la yX3_la, .initialized RX3, .code yX3_la cX3_la 3 (some .int), .fieldLink RX3 19 "LampHillsModel" "lights" "[I", .methodLink RX3 108 yX3_goer, .instanceMethod yX3_goer, .selects RX3 yX3_goer yX3_goer, .code yX3_goer cX3_goer 3 (some .int), .fieldLink RX3 51 "LampHillsModel" "lighters" "I", .methodLink RX3 99 yX3_pe, .instanceMethod yX3_pe, .selects RX3 yX3_pe yX3_pe, .code yX3_pe cX3_pe 3 (some .int), .fieldLink RX3 22 "LampHillsModel" "people" "[I"] ++ wsX30)
def wsX3_told_r1 : List Cond := [Cond.fieldLink RX3 34 "LampHillsModel" "thrown" "I", Cond.methodLink RX3 86 yX3_isLamp, Cond.instanceMethod yX3_isLamp, Cond.selects RX3 yX3_isLamp yX3_isLamp, Cond.initialized RX3, Cond.code yX3_isLamp cX3_isLamp 2 (some .boolean), Cond.fieldLink RX3 48 "LampHillsModel" "lamps" "I", Cond.methodLink RX3 41 yX3_isIn, Cond.static yX3_isIn, Cond.code yX3_isIn cX3_isIn 3 (some .boolean), Cond.methodLink RX3 111 yX3_lampTold, Cond.instanceMethod yX3_lampTold, Cond.selects RX3 yX3_lampTold yX3_lampTold, Cond.code yX3_lampTold cX3_lampTold 3 (some .int), Cond.methodLink RX3 89 yX3_la, Cond.instanceMethod yX3_la, Cond.selects RX3 yX3_la yX3_la, Cond.code yX3_la cX3_la 3 (some .int), Cond.fieldLink RX3 19 "LampHillsModel" "lights" "[I", Cond.methodLink RX3 108 yX3_goer, Cond.instanceMethod yX3_goer, Cond.selects RX3 yX3_goer yX3_goer, Cond.code yX3_goer cX3_goer 3 (some .int), Cond.fieldLink RX3 51 "LampHillsModel" "lighters" "I"]
def wsX3_told_r2 : List Cond := [Cond.methodLink RX3 99 yX3_pe, Cond.instanceMethod yX3_pe, Cond.selects RX3 yX3_pe yX3_pe, Cond.code yX3_pe cX3_pe 3 (some .int), Cond.fieldLink RX3 22 "LampHillsModel" "people" "[I", Cond.methodLink RX3 66 yX3_fail, Cond.instanceMethod yX3_fail, Cond.selects RX3 yX3_fail yX3_fail, Cond.code yX3_fail cX3_fail 2 (some .int)]
def wsX3_told : List Cond := .code yX3_told cX3_told 3 (some .int) :: ((wsX3_told_r1 ++ wsX3_told_r2) ++ wsX30)
def wsX3_lighterTold : List Cond := .code yX3_lighterTold cX3_lighterTold 4 (some .int) :: ([.arrayClass .int, .methodLink RX3 99 yX3_pe, .instanceMethod yX3_pe, .selects RX3 yX3_pe yX3_pe, .initialized RX3, .code yX3_pe cX3_pe 3 (some .int), .fieldLink RX3 22 "LampHillsModel" "people" "[I"] ++ wsX30)
def wsX3_lighter : List Cond := .code yX3_lighter cX3_lighter 3 (some .int) :: ([.fieldLink RX3 34 "LampHillsModel" "thrown" "I", .methodLink RX3 96 yX3_isLighter, .instanceMethod yX3_isLighter, .selects RX3 yX3_isLighter yX3_isLighter, .initialized RX3, .code yX3_isLighter cX3_isLighter 2 (some .boolean), .fieldLink RX3 51 "LampHillsModel" "lighters" "I", .methodLink RX3 41 yX3_isIn, .static yX3_isIn, .code yX3_isIn cX3_isIn 3 (some .boolean), .methodLink RX3 114 yX3_lighterTold, .instanceMethod yX3_lighterTold, .selects RX3 yX3_lighterTold yX3_lighterTold, .code yX3_lighterTold cX3_lighterTold 4 (some .int), .arrayClass .int, .methodLink RX3 99 yX3_pe, .instanceMethod yX3_pe, .selects RX3 yX3_pe yX3_pe, .code yX3_pe cX3_pe 3 (some .int), .fieldLink RX3 22 "LampHillsModel" "people" "[I", .methodLink RX3 66 yX3_fail, .instanceMethod yX3_fail, .selects RX3 yX3_fail yX3_fail, .code yX3_fail cX3_fail 2 (some .int)] ++ wsX30)
def wsX3_burns : List Cond := .code yX3_burns cX3_burns 4 (some .int) :: ([.fieldLink RX3 48 "LampHillsModel" "lamps" "I", .methodLink RX3 89 yX3_la, .instanceMethod yX3_la, .selects RX3 yX3_la yX3_la, .initialized RX3, .code yX3_la cX3_la 3 (some .int), .fieldLink RX3 19 "LampHillsModel" "lights" "[I"] ++ wsX30)
def wsX3_burning : List Cond := .code yX3_burning cX3_burning 2 (some .int) :: ([.fieldLink RX3 34 "LampHillsModel" "thrown" "I", .methodLink RX3 83 yX3_isStreet, .instanceMethod yX3_isStreet, .selects RX3 yX3_isStreet yX3_isStreet, .initialized RX3, .code yX3_isStreet cX3_isStreet 2 (some .boolean), .fieldLink RX3 45 "LampHillsModel" "streets" "I", .methodLink RX3 41 yX3_isIn, .static yX3_isIn, .code yX3_isIn cX3_isIn 3 (some .boolean), .methodLink RX3 117 yX3_burns, .instanceMethod yX3_burns, .selects RX3 yX3_burns yX3_burns, .code yX3_burns cX3_burns 4 (some .int), .fieldLink RX3 48 "LampHillsModel" "lamps" "I", .methodLink RX3 89 yX3_la, .instanceMethod yX3_la, .selects RX3 yX3_la yX3_la, .code yX3_la cX3_la 3 (some .int), .fieldLink RX3 19 "LampHillsModel" "lights" "[I", .methodLink RX3 66 yX3_fail, .instanceMethod yX3_fail, .selects RX3 yX3_fail yX3_fail, .code yX3_fail cX3_fail 2 (some .int)] ++ wsX30)
def wsX3_all : List Cond := .code yX3_all cX3_all 4 (some .int) :: ([.fieldLink RX3 48 "LampHillsModel" "lamps" "I", .methodLink RX3 89 yX3_la, .instanceMethod yX3_la, .selects RX3 yX3_la yX3_la, .initialized RX3, .code yX3_la cX3_la 3 (some .int), .fieldLink RX3 19 "LampHillsModel" "lights" "[I"] ++ wsX30)
def wsX3_dark : List Cond := .code yX3_dark cX3_dark 3 (some .int) :: ([.fieldLink RX3 45 "LampHillsModel" "streets" "I", .methodLink RX3 117 yX3_burns, .instanceMethod yX3_burns, .selects RX3 yX3_burns yX3_burns, .initialized RX3, .code yX3_burns cX3_burns 4 (some .int), .fieldLink RX3 48 "LampHillsModel" "lamps" "I", .methodLink RX3 89 yX3_la, .instanceMethod yX3_la, .selects RX3 yX3_la yX3_la, .code yX3_la cX3_la 3 (some .int), .fieldLink RX3 19 "LampHillsModel" "lights" "[I"] ++ wsX30)
def wsX3_counted : List Cond := .code yX3_counted cX3_counted 3 (some .int) :: ([.arrayClass .int, .fieldLink RX3 31 "LampHillsModel" "numbers" "[I", .fieldLink RX3 38 "LampHillsModel" "corners" "I", .fieldLink RX3 45 "LampHillsModel" "streets" "I", .fieldLink RX3 48 "LampHillsModel" "lamps" "I", .fieldLink RX3 51 "LampHillsModel" "lighters" "I", .methodLink RX3 120 yX3_all, .instanceMethod yX3_all, .selects RX3 yX3_all yX3_all, .initialized RX3, .code yX3_all cX3_all 4 (some .int), .methodLink RX3 89 yX3_la, .instanceMethod yX3_la, .selects RX3 yX3_la yX3_la, .code yX3_la cX3_la 3 (some .int), .fieldLink RX3 19 "LampHillsModel" "lights" "[I", .methodLink RX3 123 yX3_dark, .instanceMethod yX3_dark, .selects RX3 yX3_dark yX3_dark, .code yX3_dark cX3_dark 3 (some .int), .methodLink RX3 117 yX3_burns, .instanceMethod yX3_burns, .selects RX3 yX3_burns yX3_burns, .code yX3_burns cX3_burns 4 (some .int)] ++ wsX30)
def wsX3_count_r1 : List Cond := [Cond.fieldLink RX3 34 "LampHillsModel" "thrown" "I", Cond.methodLink RX3 41 yX3_isIn, Cond.static yX3_isIn, Cond.initialized RX3, Cond.code yX3_isIn cX3_isIn 3 (some .boolean), Cond.methodLink RX3 127 yX3_counted, Cond.instanceMethod yX3_counted, Cond.selects RX3 yX3_counted yX3_counted, Cond.code yX3_counted cX3_counted 3 (some .int), Cond.arrayClass .int, Cond.fieldLink RX3 31 "LampHillsModel" "numbers" "[I", Cond.fieldLink RX3 38 "LampHillsModel" "corners" "I", Cond.fieldLink RX3 45 "LampHillsModel" "streets" "I", Cond.fieldLink RX3 48 "LampHillsModel" "lamps" "I", Cond.fieldLink RX3 51 "LampHillsModel" "lighters" "I", Cond.methodLink RX3 120 yX3_all, Cond.instanceMethod yX3_all, Cond.selects RX3 yX3_all yX3_all, Cond.code yX3_all cX3_all 4 (some .int), Cond.methodLink RX3 89 yX3_la, Cond.instanceMethod yX3_la, Cond.selects RX3 yX3_la yX3_la, Cond.code yX3_la cX3_la 3 (some .int), Cond.fieldLink RX3 19 "LampHillsModel" "lights" "[I"]
def wsX3_count_r2 : List Cond := [Cond.methodLink RX3 123 yX3_dark, Cond.instanceMethod yX3_dark, Cond.selects RX3 yX3_dark yX3_dark, Cond.code yX3_dark cX3_dark 3 (some .int), Cond.methodLink RX3 117 yX3_burns, Cond.instanceMethod yX3_burns, Cond.selects RX3 yX3_burns yX3_burns, Cond.code yX3_burns cX3_burns 4 (some .int), Cond.methodLink RX3 66 yX3_fail, Cond.instanceMethod yX3_fail, Cond.selects RX3 yX3_fail yX3_fail, Cond.code yX3_fail cX3_fail 2 (some .int)]
def wsX3_count : List Cond := .code yX3_count cX3_count 2 (some .int) :: ((wsX3_count_r1 ++ wsX3_count_r2) ++ wsX30)
def wsX3_corner__r1 : List Cond := [Cond.methodLink RX3 89 yX3_la, Cond.instanceMethod yX3_la, Cond.selects RX3 yX3_la yX3_la, Cond.initialized RX3, Cond.code yX3_la cX3_la 3 (some .int), Cond.fieldLink RX3 19 "LampHillsModel" "lights" "[I", Cond.methodLink RX3 54 yX3_ro, Cond.instanceMethod yX3_ro, Cond.selects RX3 yX3_ro yX3_ro, Cond.code yX3_ro cX3_ro 3 (some .int), Cond.fieldLink RX3 13 "LampHillsModel" "roads" "[I", Cond.methodLink RX3 99 yX3_pe, Cond.instanceMethod yX3_pe, Cond.selects RX3 yX3_pe yX3_pe, Cond.code yX3_pe cX3_pe 3 (some .int), Cond.fieldLink RX3 22 "LampHillsModel" "people" "[I", Cond.methodLink RX3 105 yX3_away, Cond.instanceMethod yX3_away, Cond.selects RX3 yX3_away yX3_away, Cond.code yX3_away cX3_away 3 (some .int), Cond.fieldLink RX3 16 "LampHillsModel" "ways" "[I", Cond.methodLink RX3 63 Lib.Math.min.name, Cond.static Lib.Math.min.name, Cond.initialized "java/lang/Math"]
def wsX3_corner__r2 : List Cond := [Cond.code Lib.Math.min.name Lib.Math.min.code 2 (some .int)]
def wsX3_corner_ : List Cond := .code yX3_corner_ cX3_corner_ 6 (some .int) :: ((wsX3_corner__r1 ++ wsX3_corner__r2) ++ wsX30)
def wsX3_look_r1 : List Cond := [Cond.fieldLink RX3 25 "LampHillsModel" "rounds" "[I", Cond.methodLink RX3 99 yX3_pe, Cond.instanceMethod yX3_pe, Cond.selects RX3 yX3_pe yX3_pe, Cond.initialized RX3, Cond.code yX3_pe cX3_pe 3 (some .int), Cond.fieldLink RX3 22 "LampHillsModel" "people" "[I", Cond.methodLink RX3 89 yX3_la, Cond.instanceMethod yX3_la, Cond.selects RX3 yX3_la yX3_la, Cond.code yX3_la cX3_la 3 (some .int), Cond.fieldLink RX3 19 "LampHillsModel" "lights" "[I", Cond.methodLink RX3 108 yX3_goer, Cond.instanceMethod yX3_goer, Cond.selects RX3 yX3_goer yX3_goer, Cond.code yX3_goer cX3_goer 3 (some .int), Cond.fieldLink RX3 51 "LampHillsModel" "lighters" "I", Cond.methodLink RX3 130 yX3_corner_, Cond.instanceMethod yX3_corner_, Cond.selects RX3 yX3_corner_ yX3_corner_, Cond.code yX3_corner_ cX3_corner_ 6 (some .int), Cond.methodLink RX3 54 yX3_ro, Cond.instanceMethod yX3_ro, Cond.selects RX3 yX3_ro yX3_ro]
def wsX3_look_r2 : List Cond := [Cond.code yX3_ro cX3_ro 3 (some .int), Cond.fieldLink RX3 13 "LampHillsModel" "roads" "[I", Cond.methodLink RX3 105 yX3_away, Cond.instanceMethod yX3_away, Cond.selects RX3 yX3_away yX3_away, Cond.code yX3_away cX3_away 3 (some .int), Cond.fieldLink RX3 16 "LampHillsModel" "ways" "[I", Cond.methodLink RX3 63 Lib.Math.min.name, Cond.static Lib.Math.min.name, Cond.initialized "java/lang/Math", Cond.code Lib.Math.min.name Lib.Math.min.code 2 (some .int), Cond.methodLink RX3 102 yX3_put, Cond.instanceMethod yX3_put, Cond.selects RX3 yX3_put yX3_put, Cond.code yX3_put cX3_put 4 none]
def wsX3_look : List Cond := .code yX3_look cX3_look 6 none :: ((wsX3_look_r1 ++ wsX3_look_r2) ++ wsX30)
def wsX3_goOn_r1 : List Cond := [Cond.methodLink RX3 63 Lib.Math.min.name, Cond.static Lib.Math.min.name, Cond.initialized "java/lang/Math", Cond.code Lib.Math.min.name Lib.Math.min.code 2 (some .int), Cond.methodLink RX3 99 yX3_pe, Cond.instanceMethod yX3_pe, Cond.selects RX3 yX3_pe yX3_pe, Cond.initialized RX3, Cond.code yX3_pe cX3_pe 3 (some .int), Cond.fieldLink RX3 22 "LampHillsModel" "people" "[I", Cond.methodLink RX3 133 yX3_look, Cond.instanceMethod yX3_look, Cond.selects RX3 yX3_look yX3_look, Cond.code yX3_look cX3_look 6 none, Cond.fieldLink RX3 25 "LampHillsModel" "rounds" "[I", Cond.methodLink RX3 89 yX3_la, Cond.instanceMethod yX3_la, Cond.selects RX3 yX3_la yX3_la, Cond.code yX3_la cX3_la 3 (some .int), Cond.fieldLink RX3 19 "LampHillsModel" "lights" "[I", Cond.methodLink RX3 108 yX3_goer, Cond.instanceMethod yX3_goer, Cond.selects RX3 yX3_goer yX3_goer, Cond.code yX3_goer cX3_goer 3 (some .int)]
def wsX3_goOn_r2 : List Cond := [Cond.fieldLink RX3 51 "LampHillsModel" "lighters" "I", Cond.methodLink RX3 130 yX3_corner_, Cond.instanceMethod yX3_corner_, Cond.selects RX3 yX3_corner_ yX3_corner_, Cond.code yX3_corner_ cX3_corner_ 6 (some .int), Cond.methodLink RX3 54 yX3_ro, Cond.instanceMethod yX3_ro, Cond.selects RX3 yX3_ro yX3_ro, Cond.code yX3_ro cX3_ro 3 (some .int), Cond.fieldLink RX3 13 "LampHillsModel" "roads" "[I", Cond.methodLink RX3 105 yX3_away, Cond.instanceMethod yX3_away, Cond.selects RX3 yX3_away yX3_away, Cond.code yX3_away cX3_away 3 (some .int), Cond.fieldLink RX3 16 "LampHillsModel" "ways" "[I", Cond.methodLink RX3 102 yX3_put, Cond.instanceMethod yX3_put, Cond.selects RX3 yX3_put yX3_put, Cond.code yX3_put cX3_put 4 none, Cond.methodLink RX3 92 yX3_setLamp, Cond.instanceMethod yX3_setLamp, Cond.selects RX3 yX3_setLamp yX3_setLamp, Cond.code yX3_setLamp cX3_setLamp 4 none]
def wsX3_goOn : List Cond := .code yX3_goOn cX3_goOn 4 (some .int) :: ((wsX3_goOn_r1 ++ wsX3_goOn_r2) ++ wsX30)
def wsX3_gust : List Cond := .code yX3_gust cX3_gust 3 (some .int) :: ([.fieldLink RX3 9 "LampHillsModel" "heights" "[I", .methodLink RX3 58 Lib.Math.max.name, .static Lib.Math.max.name, .initialized "java/lang/Math", .code Lib.Math.max.name Lib.Math.max.code 2 (some .int), .methodLink RX3 89 yX3_la, .instanceMethod yX3_la, .selects RX3 yX3_la yX3_la, .initialized RX3, .code yX3_la cX3_la 3 (some .int), .fieldLink RX3 19 "LampHillsModel" "lights" "[I", .methodLink RX3 54 yX3_ro, .instanceMethod yX3_ro, .selects RX3 yX3_ro yX3_ro, .code yX3_ro cX3_ro 3 (some .int), .fieldLink RX3 13 "LampHillsModel" "roads" "[I"] ++ wsX30)
def wsX3_burn_r1 : List Cond := [Cond.methodLink RX3 63 Lib.Math.min.name, Cond.static Lib.Math.min.name, Cond.initialized "java/lang/Math", Cond.code Lib.Math.min.name Lib.Math.min.code 2 (some .int), Cond.fieldLink RX3 31 "LampHillsModel" "numbers" "[I", Cond.fieldLink RX3 28 "LampHillsModel" "winds" "[I", Cond.methodLink RX3 89 yX3_la, Cond.instanceMethod yX3_la, Cond.selects RX3 yX3_la yX3_la, Cond.initialized RX3, Cond.code yX3_la cX3_la 3 (some .int), Cond.fieldLink RX3 19 "LampHillsModel" "lights" "[I", Cond.methodLink RX3 92 yX3_setLamp, Cond.instanceMethod yX3_setLamp, Cond.selects RX3 yX3_setLamp yX3_setLamp, Cond.code yX3_setLamp cX3_setLamp 4 none, Cond.methodLink RX3 137 yX3_gust, Cond.instanceMethod yX3_gust, Cond.selects RX3 yX3_gust yX3_gust, Cond.code yX3_gust cX3_gust 3 (some .int), Cond.fieldLink RX3 9 "LampHillsModel" "heights" "[I", Cond.methodLink RX3 58 Lib.Math.max.name, Cond.static Lib.Math.max.name, Cond.code Lib.Math.max.name Lib.Math.max.code 2 (some .int)]
def wsX3_burn_r2 : List Cond := [Cond.methodLink RX3 54 yX3_ro, Cond.instanceMethod yX3_ro, Cond.selects RX3 yX3_ro yX3_ro, Cond.code yX3_ro cX3_ro 3 (some .int), Cond.fieldLink RX3 13 "LampHillsModel" "roads" "[I"]
def wsX3_burn : List Cond := .code yX3_burn cX3_burn 3 none :: ((wsX3_burn_r1 ++ wsX3_burn_r2) ++ wsX30)
def wsX3_isOver : List Cond := .code yX3_isOver cX3_isOver 1 (some .boolean) :: ([.fieldLink RX3 31 "LampHillsModel" "numbers" "[I"] ++ wsX30)
def wsX3_minuteOn_r1 : List Cond := [Cond.fieldLink RX3 51 "LampHillsModel" "lighters" "I", Cond.fieldLink RX3 48 "LampHillsModel" "lamps" "I", Cond.fieldLink RX3 31 "LampHillsModel" "numbers" "[I", Cond.methodLink RX3 140 yX3_goOn, Cond.instanceMethod yX3_goOn, Cond.selects RX3 yX3_goOn yX3_goOn, Cond.initialized RX3, Cond.code yX3_goOn cX3_goOn 4 (some .int), Cond.methodLink RX3 63 Lib.Math.min.name, Cond.static Lib.Math.min.name, Cond.initialized "java/lang/Math", Cond.code Lib.Math.min.name Lib.Math.min.code 2 (some .int), Cond.methodLink RX3 99 yX3_pe, Cond.instanceMethod yX3_pe, Cond.selects RX3 yX3_pe yX3_pe, Cond.code yX3_pe cX3_pe 3 (some .int), Cond.fieldLink RX3 22 "LampHillsModel" "people" "[I", Cond.methodLink RX3 133 yX3_look, Cond.instanceMethod yX3_look, Cond.selects RX3 yX3_look yX3_look, Cond.code yX3_look cX3_look 6 none, Cond.fieldLink RX3 25 "LampHillsModel" "rounds" "[I", Cond.methodLink RX3 89 yX3_la, Cond.instanceMethod yX3_la]
def wsX3_minuteOn_r2 : List Cond := [Cond.selects RX3 yX3_la yX3_la, Cond.code yX3_la cX3_la 3 (some .int), Cond.fieldLink RX3 19 "LampHillsModel" "lights" "[I", Cond.methodLink RX3 108 yX3_goer, Cond.instanceMethod yX3_goer, Cond.selects RX3 yX3_goer yX3_goer, Cond.code yX3_goer cX3_goer 3 (some .int), Cond.methodLink RX3 130 yX3_corner_, Cond.instanceMethod yX3_corner_, Cond.selects RX3 yX3_corner_ yX3_corner_, Cond.code yX3_corner_ cX3_corner_ 6 (some .int), Cond.methodLink RX3 54 yX3_ro, Cond.instanceMethod yX3_ro, Cond.selects RX3 yX3_ro yX3_ro, Cond.code yX3_ro cX3_ro 3 (some .int), Cond.fieldLink RX3 13 "LampHillsModel" "roads" "[I", Cond.methodLink RX3 105 yX3_away, Cond.instanceMethod yX3_away, Cond.selects RX3 yX3_away yX3_away, Cond.code yX3_away cX3_away 3 (some .int), Cond.fieldLink RX3 16 "LampHillsModel" "ways" "[I", Cond.methodLink RX3 102 yX3_put, Cond.instanceMethod yX3_put, Cond.selects RX3 yX3_put yX3_put]
def wsX3_minuteOn_r3 : List Cond := [Cond.code yX3_put cX3_put 4 none, Cond.methodLink RX3 92 yX3_setLamp, Cond.instanceMethod yX3_setLamp, Cond.selects RX3 yX3_setLamp yX3_setLamp, Cond.code yX3_setLamp cX3_setLamp 4 none, Cond.methodLink RX3 143 yX3_burn, Cond.instanceMethod yX3_burn, Cond.selects RX3 yX3_burn yX3_burn, Cond.code yX3_burn cX3_burn 3 none, Cond.fieldLink RX3 28 "LampHillsModel" "winds" "[I", Cond.methodLink RX3 137 yX3_gust, Cond.instanceMethod yX3_gust, Cond.selects RX3 yX3_gust yX3_gust, Cond.code yX3_gust cX3_gust 3 (some .int), Cond.fieldLink RX3 9 "LampHillsModel" "heights" "[I", Cond.methodLink RX3 58 Lib.Math.max.name, Cond.static Lib.Math.max.name, Cond.code Lib.Math.max.name Lib.Math.max.code 2 (some .int)]
def wsX3_minuteOn : List Cond := .code yX3_minuteOn cX3_minuteOn 4 (some .int) :: ((wsX3_minuteOn_r1 ++ (wsX3_minuteOn_r2 ++ wsX3_minuteOn_r3)) ++ wsX30)
def wsX3_minutesOn_r1 : List Cond := [Cond.methodLink RX3 146 yX3_isOver, Cond.instanceMethod yX3_isOver, Cond.selects RX3 yX3_isOver yX3_isOver, Cond.initialized RX3, Cond.code yX3_isOver cX3_isOver 1 (some .boolean), Cond.fieldLink RX3 31 "LampHillsModel" "numbers" "[I", Cond.methodLink RX3 150 yX3_minuteOn, Cond.instanceMethod yX3_minuteOn, Cond.selects RX3 yX3_minuteOn yX3_minuteOn, Cond.code yX3_minuteOn cX3_minuteOn 4 (some .int), Cond.fieldLink RX3 51 "LampHillsModel" "lighters" "I", Cond.fieldLink RX3 48 "LampHillsModel" "lamps" "I", Cond.methodLink RX3 140 yX3_goOn, Cond.instanceMethod yX3_goOn, Cond.selects RX3 yX3_goOn yX3_goOn, Cond.code yX3_goOn cX3_goOn 4 (some .int), Cond.methodLink RX3 63 Lib.Math.min.name, Cond.static Lib.Math.min.name, Cond.initialized "java/lang/Math", Cond.code Lib.Math.min.name Lib.Math.min.code 2 (some .int), Cond.methodLink RX3 99 yX3_pe, Cond.instanceMethod yX3_pe, Cond.selects RX3 yX3_pe yX3_pe, Cond.code yX3_pe cX3_pe 3 (some .int)]
def wsX3_minutesOn_r2 : List Cond := [Cond.fieldLink RX3 22 "LampHillsModel" "people" "[I", Cond.methodLink RX3 133 yX3_look, Cond.instanceMethod yX3_look, Cond.selects RX3 yX3_look yX3_look, Cond.code yX3_look cX3_look 6 none, Cond.fieldLink RX3 25 "LampHillsModel" "rounds" "[I", Cond.methodLink RX3 89 yX3_la, Cond.instanceMethod yX3_la, Cond.selects RX3 yX3_la yX3_la, Cond.code yX3_la cX3_la 3 (some .int), Cond.fieldLink RX3 19 "LampHillsModel" "lights" "[I", Cond.methodLink RX3 108 yX3_goer, Cond.instanceMethod yX3_goer, Cond.selects RX3 yX3_goer yX3_goer, Cond.code yX3_goer cX3_goer 3 (some .int), Cond.methodLink RX3 130 yX3_corner_, Cond.instanceMethod yX3_corner_, Cond.selects RX3 yX3_corner_ yX3_corner_, Cond.code yX3_corner_ cX3_corner_ 6 (some .int), Cond.methodLink RX3 54 yX3_ro, Cond.instanceMethod yX3_ro, Cond.selects RX3 yX3_ro yX3_ro, Cond.code yX3_ro cX3_ro 3 (some .int), Cond.fieldLink RX3 13 "LampHillsModel" "roads" "[I"]
def wsX3_minutesOn_r3 : List Cond := [Cond.methodLink RX3 105 yX3_away, Cond.instanceMethod yX3_away, Cond.selects RX3 yX3_away yX3_away, Cond.code yX3_away cX3_away 3 (some .int), Cond.fieldLink RX3 16 "LampHillsModel" "ways" "[I", Cond.methodLink RX3 102 yX3_put, Cond.instanceMethod yX3_put, Cond.selects RX3 yX3_put yX3_put, Cond.code yX3_put cX3_put 4 none, Cond.methodLink RX3 92 yX3_setLamp, Cond.instanceMethod yX3_setLamp, Cond.selects RX3 yX3_setLamp yX3_setLamp, Cond.code yX3_setLamp cX3_setLamp 4 none, Cond.methodLink RX3 143 yX3_burn, Cond.instanceMethod yX3_burn, Cond.selects RX3 yX3_burn yX3_burn, Cond.code yX3_burn cX3_burn 3 none, Cond.fieldLink RX3 28 "LampHillsModel" "winds" "[I", Cond.methodLink RX3 137 yX3_gust, Cond.instanceMethod yX3_gust, Cond.selects RX3 yX3_gust yX3_gust, Cond.code yX3_gust cX3_gust 3 (some .int), Cond.fieldLink RX3 9 "LampHillsModel" "heights" "[I", Cond.methodLink RX3 58 Lib.Math.max.name]
def wsX3_minutesOn_r4 : List Cond := [Cond.static Lib.Math.max.name, Cond.code Lib.Math.max.name Lib.Math.max.code 2 (some .int)]
def wsX3_minutesOn : List Cond := .code yX3_minutesOn cX3_minutesOn 3 none :: ((wsX3_minutesOn_r1 ++ (wsX3_minutesOn_r2 ++ (wsX3_minutesOn_r3 ++ wsX3_minutesOn_r4))) ++ wsX30)
def wsX3_pass_r1 : List Cond := [Cond.fieldLink RX3 34 "LampHillsModel" "thrown" "I", Cond.methodLink RX3 41 yX3_isIn, Cond.static yX3_isIn, Cond.initialized RX3, Cond.code yX3_isIn cX3_isIn 3 (some .boolean), Cond.methodLink RX3 66 yX3_fail, Cond.instanceMethod yX3_fail, Cond.selects RX3 yX3_fail yX3_fail, Cond.code yX3_fail cX3_fail 2 (some .int), Cond.methodLink RX3 120 yX3_all, Cond.instanceMethod yX3_all, Cond.selects RX3 yX3_all yX3_all, Cond.code yX3_all cX3_all 4 (some .int), Cond.fieldLink RX3 48 "LampHillsModel" "lamps" "I", Cond.methodLink RX3 89 yX3_la, Cond.instanceMethod yX3_la, Cond.selects RX3 yX3_la yX3_la, Cond.code yX3_la cX3_la 3 (some .int), Cond.fieldLink RX3 19 "LampHillsModel" "lights" "[I", Cond.methodLink RX3 153 yX3_minutesOn, Cond.instanceMethod yX3_minutesOn, Cond.selects RX3 yX3_minutesOn yX3_minutesOn, Cond.code yX3_minutesOn cX3_minutesOn 3 none, Cond.methodLink RX3 146 yX3_isOver]
def wsX3_pass_r2 : List Cond := [Cond.instanceMethod yX3_isOver, Cond.selects RX3 yX3_isOver yX3_isOver, Cond.code yX3_isOver cX3_isOver 1 (some .boolean), Cond.fieldLink RX3 31 "LampHillsModel" "numbers" "[I", Cond.methodLink RX3 150 yX3_minuteOn, Cond.instanceMethod yX3_minuteOn, Cond.selects RX3 yX3_minuteOn yX3_minuteOn, Cond.code yX3_minuteOn cX3_minuteOn 4 (some .int), Cond.fieldLink RX3 51 "LampHillsModel" "lighters" "I", Cond.methodLink RX3 140 yX3_goOn, Cond.instanceMethod yX3_goOn, Cond.selects RX3 yX3_goOn yX3_goOn, Cond.code yX3_goOn cX3_goOn 4 (some .int), Cond.methodLink RX3 63 Lib.Math.min.name, Cond.static Lib.Math.min.name, Cond.initialized "java/lang/Math", Cond.code Lib.Math.min.name Lib.Math.min.code 2 (some .int), Cond.methodLink RX3 99 yX3_pe, Cond.instanceMethod yX3_pe, Cond.selects RX3 yX3_pe yX3_pe, Cond.code yX3_pe cX3_pe 3 (some .int), Cond.fieldLink RX3 22 "LampHillsModel" "people" "[I", Cond.methodLink RX3 133 yX3_look, Cond.instanceMethod yX3_look]
def wsX3_pass_r3 : List Cond := [Cond.selects RX3 yX3_look yX3_look, Cond.code yX3_look cX3_look 6 none, Cond.fieldLink RX3 25 "LampHillsModel" "rounds" "[I", Cond.methodLink RX3 108 yX3_goer, Cond.instanceMethod yX3_goer, Cond.selects RX3 yX3_goer yX3_goer, Cond.code yX3_goer cX3_goer 3 (some .int), Cond.methodLink RX3 130 yX3_corner_, Cond.instanceMethod yX3_corner_, Cond.selects RX3 yX3_corner_ yX3_corner_, Cond.code yX3_corner_ cX3_corner_ 6 (some .int), Cond.methodLink RX3 54 yX3_ro, Cond.instanceMethod yX3_ro, Cond.selects RX3 yX3_ro yX3_ro, Cond.code yX3_ro cX3_ro 3 (some .int), Cond.fieldLink RX3 13 "LampHillsModel" "roads" "[I", Cond.methodLink RX3 105 yX3_away, Cond.instanceMethod yX3_away, Cond.selects RX3 yX3_away yX3_away, Cond.code yX3_away cX3_away 3 (some .int), Cond.fieldLink RX3 16 "LampHillsModel" "ways" "[I", Cond.methodLink RX3 102 yX3_put, Cond.instanceMethod yX3_put, Cond.selects RX3 yX3_put yX3_put]
def wsX3_pass_r4 : List Cond := [Cond.code yX3_put cX3_put 4 none, Cond.methodLink RX3 92 yX3_setLamp, Cond.instanceMethod yX3_setLamp, Cond.selects RX3 yX3_setLamp yX3_setLamp, Cond.code yX3_setLamp cX3_setLamp 4 none, Cond.methodLink RX3 143 yX3_burn, Cond.instanceMethod yX3_burn, Cond.selects RX3 yX3_burn yX3_burn, Cond.code yX3_burn cX3_burn 3 none, Cond.fieldLink RX3 28 "LampHillsModel" "winds" "[I", Cond.methodLink RX3 137 yX3_gust, Cond.instanceMethod yX3_gust, Cond.selects RX3 yX3_gust yX3_gust, Cond.code yX3_gust cX3_gust 3 (some .int), Cond.fieldLink RX3 9 "LampHillsModel" "heights" "[I", Cond.methodLink RX3 58 Lib.Math.max.name, Cond.static Lib.Math.max.name, Cond.code Lib.Math.max.name Lib.Math.max.code 2 (some .int)]
def wsX3_pass : List Cond := .code yX3_pass cX3_pass 3 (some .int) :: ((wsX3_pass_r1 ++ (wsX3_pass_r2 ++ (wsX3_pass_r3 ++ wsX3_pass_r4))) ++ wsX30)
def wsX3_dawn_r1 : List Cond := [Cond.fieldLink RX3 34 "LampHillsModel" "thrown" "I", Cond.fieldLink RX3 48 "LampHillsModel" "lamps" "I", Cond.fieldLink RX3 51 "LampHillsModel" "lighters" "I", Cond.fieldLink RX3 31 "LampHillsModel" "numbers" "[I", Cond.methodLink RX3 146 yX3_isOver, Cond.instanceMethod yX3_isOver, Cond.selects RX3 yX3_isOver yX3_isOver, Cond.initialized RX3, Cond.code yX3_isOver cX3_isOver 1 (some .boolean), Cond.methodLink RX3 66 yX3_fail, Cond.instanceMethod yX3_fail, Cond.selects RX3 yX3_fail yX3_fail, Cond.code yX3_fail cX3_fail 2 (some .int), Cond.methodLink RX3 120 yX3_all, Cond.instanceMethod yX3_all, Cond.selects RX3 yX3_all yX3_all, Cond.code yX3_all cX3_all 4 (some .int), Cond.methodLink RX3 89 yX3_la, Cond.instanceMethod yX3_la, Cond.selects RX3 yX3_la yX3_la, Cond.code yX3_la cX3_la 3 (some .int), Cond.fieldLink RX3 19 "LampHillsModel" "lights" "[I", Cond.methodLink RX3 92 yX3_setLamp, Cond.instanceMethod yX3_setLamp]
def wsX3_dawn_r2 : List Cond := [Cond.selects RX3 yX3_setLamp yX3_setLamp, Cond.code yX3_setLamp cX3_setLamp 4 none, Cond.methodLink RX3 99 yX3_pe, Cond.instanceMethod yX3_pe, Cond.selects RX3 yX3_pe yX3_pe, Cond.code yX3_pe cX3_pe 3 (some .int), Cond.fieldLink RX3 22 "LampHillsModel" "people" "[I", Cond.methodLink RX3 102 yX3_put, Cond.instanceMethod yX3_put, Cond.selects RX3 yX3_put yX3_put, Cond.code yX3_put cX3_put 4 none]
def wsX3_dawn : List Cond := .code yX3_dawn cX3_dawn 3 (some .int) :: ((wsX3_dawn_r1 ++ wsX3_dawn_r2) ++ wsX30)
def wsX3_kept : List Cond := .code yX3_kept cX3_kept 1 (some (.array (.array .int))) :: ([.classLink RX3 156 "[I", .fieldLink RX3 19 "LampHillsModel" "lights" "[I", .methodLink RX3 157 ⟨"[I", "clone", "()Ljava/lang/Object;"⟩, .sameMethod "[I" "java/lang/Object" "clone" "()Ljava/lang/Object;", .native ⟨"java/lang/Object", "clone", "()Ljava/lang/Object;"⟩, .instanceMethod ⟨"java/lang/Object", "clone", "()Ljava/lang/Object;"⟩, .selects "[I" ⟨"[I", "clone", "()Ljava/lang/Object;"⟩ ⟨"java/lang/Object", "clone", "()Ljava/lang/Object;"⟩, .fieldLink RX3 22 "LampHillsModel" "people" "[I", .fieldLink RX3 31 "LampHillsModel" "numbers" "[I"] ++ wsX30)
def wsX3_bringBack : List Cond := .code yX3_bringBack cX3_bringBack 2 none :: ([.fieldLink RX3 19 "LampHillsModel" "lights" "[I", .methodLink RX3 77 arraycopyName, .native arraycopyName, .static arraycopyName, .initialized "java/lang/System", .fieldLink RX3 22 "LampHillsModel" "people" "[I", .fieldLink RX3 31 "LampHillsModel" "numbers" "[I"] ++ wsX30)
def wsX3_comes_r1 : List Cond := [Cond.fieldLink RX3 34 "LampHillsModel" "thrown" "I", Cond.methodLink RX3 86 yX3_isLamp, Cond.instanceMethod yX3_isLamp, Cond.selects RX3 yX3_isLamp yX3_isLamp, Cond.initialized RX3, Cond.code yX3_isLamp cX3_isLamp 2 (some .boolean), Cond.fieldLink RX3 48 "LampHillsModel" "lamps" "I", Cond.methodLink RX3 41 yX3_isIn, Cond.static yX3_isIn, Cond.code yX3_isIn cX3_isIn 3 (some .boolean), Cond.methodLink RX3 66 yX3_fail, Cond.instanceMethod yX3_fail, Cond.selects RX3 yX3_fail yX3_fail, Cond.code yX3_fail cX3_fail 2 (some .int), Cond.methodLink RX3 161 yX3_kept, Cond.instanceMethod yX3_kept, Cond.selects RX3 yX3_kept yX3_kept, Cond.code yX3_kept cX3_kept 1 (some (.array (.array .int))), Cond.classLink RX3 156 "[I", Cond.fieldLink RX3 19 "LampHillsModel" "lights" "[I", Cond.methodLink RX3 157 ⟨"[I", "clone", "()Ljava/lang/Object;"⟩, Cond.sameMethod "[I" "java/lang/Object" "clone" "()Ljava/lang/Object;", Cond.native ⟨"java/lang/Object", "clone", "()Ljava/lang/Object;"⟩, Cond.instanceMethod ⟨"java/lang/Object", "clone", "()Ljava/lang/Object;"⟩]
def wsX3_comes_r2 : List Cond := [Cond.selects "[I" ⟨"[I", "clone", "()Ljava/lang/Object;"⟩ ⟨"java/lang/Object", "clone", "()Ljava/lang/Object;"⟩, Cond.fieldLink RX3 22 "LampHillsModel" "people" "[I", Cond.fieldLink RX3 31 "LampHillsModel" "numbers" "[I", Cond.methodLink RX3 146 yX3_isOver, Cond.instanceMethod yX3_isOver, Cond.selects RX3 yX3_isOver yX3_isOver, Cond.code yX3_isOver cX3_isOver 1 (some .boolean), Cond.methodLink RX3 150 yX3_minuteOn, Cond.instanceMethod yX3_minuteOn, Cond.selects RX3 yX3_minuteOn yX3_minuteOn, Cond.code yX3_minuteOn cX3_minuteOn 4 (some .int), Cond.fieldLink RX3 51 "LampHillsModel" "lighters" "I", Cond.methodLink RX3 140 yX3_goOn, Cond.instanceMethod yX3_goOn, Cond.selects RX3 yX3_goOn yX3_goOn, Cond.code yX3_goOn cX3_goOn 4 (some .int), Cond.methodLink RX3 63 Lib.Math.min.name, Cond.static Lib.Math.min.name, Cond.initialized "java/lang/Math", Cond.code Lib.Math.min.name Lib.Math.min.code 2 (some .int), Cond.methodLink RX3 99 yX3_pe, Cond.instanceMethod yX3_pe, Cond.selects RX3 yX3_pe yX3_pe, Cond.code yX3_pe cX3_pe 3 (some .int)]
def wsX3_comes_r3 : List Cond := [Cond.methodLink RX3 133 yX3_look, Cond.instanceMethod yX3_look, Cond.selects RX3 yX3_look yX3_look, Cond.code yX3_look cX3_look 6 none, Cond.fieldLink RX3 25 "LampHillsModel" "rounds" "[I", Cond.methodLink RX3 89 yX3_la, Cond.instanceMethod yX3_la, Cond.selects RX3 yX3_la yX3_la, Cond.code yX3_la cX3_la 3 (some .int), Cond.methodLink RX3 108 yX3_goer, Cond.instanceMethod yX3_goer, Cond.selects RX3 yX3_goer yX3_goer, Cond.code yX3_goer cX3_goer 3 (some .int), Cond.methodLink RX3 130 yX3_corner_, Cond.instanceMethod yX3_corner_, Cond.selects RX3 yX3_corner_ yX3_corner_, Cond.code yX3_corner_ cX3_corner_ 6 (some .int), Cond.methodLink RX3 54 yX3_ro, Cond.instanceMethod yX3_ro, Cond.selects RX3 yX3_ro yX3_ro, Cond.code yX3_ro cX3_ro 3 (some .int), Cond.fieldLink RX3 13 "LampHillsModel" "roads" "[I", Cond.methodLink RX3 105 yX3_away, Cond.instanceMethod yX3_away]
def wsX3_comes_r4 : List Cond := [Cond.selects RX3 yX3_away yX3_away, Cond.code yX3_away cX3_away 3 (some .int), Cond.fieldLink RX3 16 "LampHillsModel" "ways" "[I", Cond.methodLink RX3 102 yX3_put, Cond.instanceMethod yX3_put, Cond.selects RX3 yX3_put yX3_put, Cond.code yX3_put cX3_put 4 none, Cond.methodLink RX3 92 yX3_setLamp, Cond.instanceMethod yX3_setLamp, Cond.selects RX3 yX3_setLamp yX3_setLamp, Cond.code yX3_setLamp cX3_setLamp 4 none, Cond.methodLink RX3 143 yX3_burn, Cond.instanceMethod yX3_burn, Cond.selects RX3 yX3_burn yX3_burn, Cond.code yX3_burn cX3_burn 3 none, Cond.fieldLink RX3 28 "LampHillsModel" "winds" "[I", Cond.methodLink RX3 137 yX3_gust, Cond.instanceMethod yX3_gust, Cond.selects RX3 yX3_gust yX3_gust, Cond.code yX3_gust cX3_gust 3 (some .int), Cond.fieldLink RX3 9 "LampHillsModel" "heights" "[I", Cond.methodLink RX3 58 Lib.Math.max.name, Cond.static Lib.Math.max.name, Cond.code Lib.Math.max.name Lib.Math.max.code 2 (some .int)]
def wsX3_comes_r5 : List Cond := [Cond.methodLink RX3 165 yX3_bringBack, Cond.instanceMethod yX3_bringBack, Cond.selects RX3 yX3_bringBack yX3_bringBack, Cond.code yX3_bringBack cX3_bringBack 2 none, Cond.methodLink RX3 77 arraycopyName, Cond.native arraycopyName, Cond.static arraycopyName, Cond.initialized "java/lang/System"]
def wsX3_comes : List Cond := .code yX3_comes cX3_comes 5 (some .int) :: ((wsX3_comes_r1 ++ (wsX3_comes_r2 ++ (wsX3_comes_r3 ++ (wsX3_comes_r4 ++ wsX3_comes_r5)))) ++ wsX30)
def wsX3_darkest_r1 : List Cond := [Cond.fieldLink RX3 34 "LampHillsModel" "thrown" "I", Cond.arrayClass .int, Cond.fieldLink RX3 45 "LampHillsModel" "streets" "I", Cond.methodLink RX3 161 yX3_kept, Cond.instanceMethod yX3_kept, Cond.selects RX3 yX3_kept yX3_kept, Cond.initialized RX3, Cond.code yX3_kept cX3_kept 1 (some (.array (.array .int))), Cond.classLink RX3 156 "[I", Cond.fieldLink RX3 19 "LampHillsModel" "lights" "[I", Cond.methodLink RX3 157 ⟨"[I", "clone", "()Ljava/lang/Object;"⟩, Cond.sameMethod "[I" "java/lang/Object" "clone" "()Ljava/lang/Object;", Cond.native ⟨"java/lang/Object", "clone", "()Ljava/lang/Object;"⟩, Cond.instanceMethod ⟨"java/lang/Object", "clone", "()Ljava/lang/Object;"⟩, Cond.selects "[I" ⟨"[I", "clone", "()Ljava/lang/Object;"⟩ ⟨"java/lang/Object", "clone", "()Ljava/lang/Object;"⟩, Cond.fieldLink RX3 22 "LampHillsModel" "people" "[I", Cond.fieldLink RX3 31 "LampHillsModel" "numbers" "[I", Cond.methodLink RX3 146 yX3_isOver, Cond.instanceMethod yX3_isOver, Cond.selects RX3 yX3_isOver yX3_isOver, Cond.code yX3_isOver cX3_isOver 1 (some .boolean), Cond.methodLink RX3 150 yX3_minuteOn, Cond.instanceMethod yX3_minuteOn, Cond.selects RX3 yX3_minuteOn yX3_minuteOn]
def wsX3_darkest_r2 : List Cond := [Cond.code yX3_minuteOn cX3_minuteOn 4 (some .int), Cond.fieldLink RX3 51 "LampHillsModel" "lighters" "I", Cond.fieldLink RX3 48 "LampHillsModel" "lamps" "I", Cond.methodLink RX3 140 yX3_goOn, Cond.instanceMethod yX3_goOn, Cond.selects RX3 yX3_goOn yX3_goOn, Cond.code yX3_goOn cX3_goOn 4 (some .int), Cond.methodLink RX3 63 Lib.Math.min.name, Cond.static Lib.Math.min.name, Cond.initialized "java/lang/Math", Cond.code Lib.Math.min.name Lib.Math.min.code 2 (some .int), Cond.methodLink RX3 99 yX3_pe, Cond.instanceMethod yX3_pe, Cond.selects RX3 yX3_pe yX3_pe, Cond.code yX3_pe cX3_pe 3 (some .int), Cond.methodLink RX3 133 yX3_look, Cond.instanceMethod yX3_look, Cond.selects RX3 yX3_look yX3_look, Cond.code yX3_look cX3_look 6 none, Cond.fieldLink RX3 25 "LampHillsModel" "rounds" "[I", Cond.methodLink RX3 89 yX3_la, Cond.instanceMethod yX3_la, Cond.selects RX3 yX3_la yX3_la, Cond.code yX3_la cX3_la 3 (some .int)]
def wsX3_darkest_r3 : List Cond := [Cond.methodLink RX3 108 yX3_goer, Cond.instanceMethod yX3_goer, Cond.selects RX3 yX3_goer yX3_goer, Cond.code yX3_goer cX3_goer 3 (some .int), Cond.methodLink RX3 130 yX3_corner_, Cond.instanceMethod yX3_corner_, Cond.selects RX3 yX3_corner_ yX3_corner_, Cond.code yX3_corner_ cX3_corner_ 6 (some .int), Cond.methodLink RX3 54 yX3_ro, Cond.instanceMethod yX3_ro, Cond.selects RX3 yX3_ro yX3_ro, Cond.code yX3_ro cX3_ro 3 (some .int), Cond.fieldLink RX3 13 "LampHillsModel" "roads" "[I", Cond.methodLink RX3 105 yX3_away, Cond.instanceMethod yX3_away, Cond.selects RX3 yX3_away yX3_away, Cond.code yX3_away cX3_away 3 (some .int), Cond.fieldLink RX3 16 "LampHillsModel" "ways" "[I", Cond.methodLink RX3 102 yX3_put, Cond.instanceMethod yX3_put, Cond.selects RX3 yX3_put yX3_put, Cond.code yX3_put cX3_put 4 none, Cond.methodLink RX3 92 yX3_setLamp, Cond.instanceMethod yX3_setLamp]
def wsX3_darkest_r4 : List Cond := [Cond.selects RX3 yX3_setLamp yX3_setLamp, Cond.code yX3_setLamp cX3_setLamp 4 none, Cond.methodLink RX3 143 yX3_burn, Cond.instanceMethod yX3_burn, Cond.selects RX3 yX3_burn yX3_burn, Cond.code yX3_burn cX3_burn 3 none, Cond.fieldLink RX3 28 "LampHillsModel" "winds" "[I", Cond.methodLink RX3 137 yX3_gust, Cond.instanceMethod yX3_gust, Cond.selects RX3 yX3_gust yX3_gust, Cond.code yX3_gust cX3_gust 3 (some .int), Cond.fieldLink RX3 9 "LampHillsModel" "heights" "[I", Cond.methodLink RX3 58 Lib.Math.max.name, Cond.static Lib.Math.max.name, Cond.code Lib.Math.max.name Lib.Math.max.code 2 (some .int), Cond.methodLink RX3 117 yX3_burns, Cond.instanceMethod yX3_burns, Cond.selects RX3 yX3_burns yX3_burns, Cond.code yX3_burns cX3_burns 4 (some .int), Cond.methodLink RX3 165 yX3_bringBack, Cond.instanceMethod yX3_bringBack, Cond.selects RX3 yX3_bringBack yX3_bringBack, Cond.code yX3_bringBack cX3_bringBack 2 none, Cond.methodLink RX3 77 arraycopyName]
def wsX3_darkest_r5 : List Cond := [Cond.native arraycopyName, Cond.static arraycopyName, Cond.initialized "java/lang/System"]
def wsX3_darkest : List Cond := .code yX3_darkest cX3_darkest 5 (some .int) :: ((wsX3_darkest_r1 ++ (wsX3_darkest_r2 ++ (wsX3_darkest_r3 ++ (wsX3_darkest_r4 ++ wsX3_darkest_r5)))) ++ wsX30)
def wsX3_needs_r1 : List Cond := [Cond.fieldLink RX3 34 "LampHillsModel" "thrown" "I", Cond.fieldLink RX3 28 "LampHillsModel" "winds" "[I", Cond.methodLink RX3 58 Lib.Math.max.name, Cond.static Lib.Math.max.name, Cond.initialized "java/lang/Math", Cond.code Lib.Math.max.name Lib.Math.max.code 2 (some .int), Cond.methodLink RX3 86 yX3_isLamp, Cond.instanceMethod yX3_isLamp, Cond.selects RX3 yX3_isLamp yX3_isLamp, Cond.initialized RX3, Cond.code yX3_isLamp cX3_isLamp 2 (some .boolean), Cond.fieldLink RX3 48 "LampHillsModel" "lamps" "I", Cond.methodLink RX3 41 yX3_isIn, Cond.static yX3_isIn, Cond.code yX3_isIn cX3_isIn 3 (some .boolean), Cond.methodLink RX3 66 yX3_fail, Cond.instanceMethod yX3_fail, Cond.selects RX3 yX3_fail yX3_fail, Cond.code yX3_fail cX3_fail 2 (some .int), Cond.methodLink RX3 137 yX3_gust, Cond.instanceMethod yX3_gust, Cond.selects RX3 yX3_gust yX3_gust, Cond.code yX3_gust cX3_gust 3 (some .int), Cond.fieldLink RX3 9 "LampHillsModel" "heights" "[I"]
def wsX3_needs_r2 : List Cond := [Cond.methodLink RX3 89 yX3_la, Cond.instanceMethod yX3_la, Cond.selects RX3 yX3_la yX3_la, Cond.code yX3_la cX3_la 3 (some .int), Cond.fieldLink RX3 19 "LampHillsModel" "lights" "[I", Cond.methodLink RX3 54 yX3_ro, Cond.instanceMethod yX3_ro, Cond.selects RX3 yX3_ro yX3_ro, Cond.code yX3_ro cX3_ro 3 (some .int), Cond.fieldLink RX3 13 "LampHillsModel" "roads" "[I"]
def wsX3_needs : List Cond := .code yX3_needs cX3_needs 7 (some .int) :: ((wsX3_needs_r1 ++ wsX3_needs_r2) ++ wsX30)
def wsX3_foresee_r1 : List Cond := [Cond.fieldLink RX3 34 "LampHillsModel" "thrown" "I", Cond.fieldLink RX3 31 "LampHillsModel" "numbers" "[I", Cond.methodLink RX3 41 yX3_isIn, Cond.static yX3_isIn, Cond.initialized RX3, Cond.code yX3_isIn cX3_isIn 3 (some .boolean), Cond.methodLink RX3 66 yX3_fail, Cond.instanceMethod yX3_fail, Cond.selects RX3 yX3_fail yX3_fail, Cond.code yX3_fail cX3_fail 2 (some .int), Cond.methodLink RX3 161 yX3_kept, Cond.instanceMethod yX3_kept, Cond.selects RX3 yX3_kept yX3_kept, Cond.code yX3_kept cX3_kept 1 (some (.array (.array .int))), Cond.classLink RX3 156 "[I", Cond.fieldLink RX3 19 "LampHillsModel" "lights" "[I", Cond.methodLink RX3 157 ⟨"[I", "clone", "()Ljava/lang/Object;"⟩, Cond.sameMethod "[I" "java/lang/Object" "clone" "()Ljava/lang/Object;", Cond.native ⟨"java/lang/Object", "clone", "()Ljava/lang/Object;"⟩, Cond.instanceMethod ⟨"java/lang/Object", "clone", "()Ljava/lang/Object;"⟩, Cond.selects "[I" ⟨"[I", "clone", "()Ljava/lang/Object;"⟩ ⟨"java/lang/Object", "clone", "()Ljava/lang/Object;"⟩, Cond.fieldLink RX3 22 "LampHillsModel" "people" "[I", Cond.methodLink RX3 153 yX3_minutesOn, Cond.instanceMethod yX3_minutesOn]
def wsX3_foresee_r2 : List Cond := [Cond.selects RX3 yX3_minutesOn yX3_minutesOn, Cond.code yX3_minutesOn cX3_minutesOn 3 none, Cond.methodLink RX3 146 yX3_isOver, Cond.instanceMethod yX3_isOver, Cond.selects RX3 yX3_isOver yX3_isOver, Cond.code yX3_isOver cX3_isOver 1 (some .boolean), Cond.methodLink RX3 150 yX3_minuteOn, Cond.instanceMethod yX3_minuteOn, Cond.selects RX3 yX3_minuteOn yX3_minuteOn, Cond.code yX3_minuteOn cX3_minuteOn 4 (some .int), Cond.fieldLink RX3 51 "LampHillsModel" "lighters" "I", Cond.fieldLink RX3 48 "LampHillsModel" "lamps" "I", Cond.methodLink RX3 140 yX3_goOn, Cond.instanceMethod yX3_goOn, Cond.selects RX3 yX3_goOn yX3_goOn, Cond.code yX3_goOn cX3_goOn 4 (some .int), Cond.methodLink RX3 63 Lib.Math.min.name, Cond.static Lib.Math.min.name, Cond.initialized "java/lang/Math", Cond.code Lib.Math.min.name Lib.Math.min.code 2 (some .int), Cond.methodLink RX3 99 yX3_pe, Cond.instanceMethod yX3_pe, Cond.selects RX3 yX3_pe yX3_pe, Cond.code yX3_pe cX3_pe 3 (some .int)]
def wsX3_foresee_r3 : List Cond := [Cond.methodLink RX3 133 yX3_look, Cond.instanceMethod yX3_look, Cond.selects RX3 yX3_look yX3_look, Cond.code yX3_look cX3_look 6 none, Cond.fieldLink RX3 25 "LampHillsModel" "rounds" "[I", Cond.methodLink RX3 89 yX3_la, Cond.instanceMethod yX3_la, Cond.selects RX3 yX3_la yX3_la, Cond.code yX3_la cX3_la 3 (some .int), Cond.methodLink RX3 108 yX3_goer, Cond.instanceMethod yX3_goer, Cond.selects RX3 yX3_goer yX3_goer, Cond.code yX3_goer cX3_goer 3 (some .int), Cond.methodLink RX3 130 yX3_corner_, Cond.instanceMethod yX3_corner_, Cond.selects RX3 yX3_corner_ yX3_corner_, Cond.code yX3_corner_ cX3_corner_ 6 (some .int), Cond.methodLink RX3 54 yX3_ro, Cond.instanceMethod yX3_ro, Cond.selects RX3 yX3_ro yX3_ro, Cond.code yX3_ro cX3_ro 3 (some .int), Cond.fieldLink RX3 13 "LampHillsModel" "roads" "[I", Cond.methodLink RX3 105 yX3_away, Cond.instanceMethod yX3_away]
def wsX3_foresee_r4 : List Cond := [Cond.selects RX3 yX3_away yX3_away, Cond.code yX3_away cX3_away 3 (some .int), Cond.fieldLink RX3 16 "LampHillsModel" "ways" "[I", Cond.methodLink RX3 102 yX3_put, Cond.instanceMethod yX3_put, Cond.selects RX3 yX3_put yX3_put, Cond.code yX3_put cX3_put 4 none, Cond.methodLink RX3 92 yX3_setLamp, Cond.instanceMethod yX3_setLamp, Cond.selects RX3 yX3_setLamp yX3_setLamp, Cond.code yX3_setLamp cX3_setLamp 4 none, Cond.methodLink RX3 143 yX3_burn, Cond.instanceMethod yX3_burn, Cond.selects RX3 yX3_burn yX3_burn, Cond.code yX3_burn cX3_burn 3 none, Cond.fieldLink RX3 28 "LampHillsModel" "winds" "[I", Cond.methodLink RX3 137 yX3_gust, Cond.instanceMethod yX3_gust, Cond.selects RX3 yX3_gust yX3_gust, Cond.code yX3_gust cX3_gust 3 (some .int), Cond.fieldLink RX3 9 "LampHillsModel" "heights" "[I", Cond.methodLink RX3 58 Lib.Math.max.name, Cond.static Lib.Math.max.name, Cond.code Lib.Math.max.name Lib.Math.max.code 2 (some .int)]
def wsX3_foresee_r5 : List Cond := [Cond.methodLink RX3 120 yX3_all, Cond.instanceMethod yX3_all, Cond.selects RX3 yX3_all yX3_all, Cond.code yX3_all cX3_all 4 (some .int), Cond.methodLink RX3 123 yX3_dark, Cond.instanceMethod yX3_dark, Cond.selects RX3 yX3_dark yX3_dark, Cond.code yX3_dark cX3_dark 3 (some .int), Cond.fieldLink RX3 45 "LampHillsModel" "streets" "I", Cond.methodLink RX3 117 yX3_burns, Cond.instanceMethod yX3_burns, Cond.selects RX3 yX3_burns yX3_burns, Cond.code yX3_burns cX3_burns 4 (some .int), Cond.methodLink RX3 165 yX3_bringBack, Cond.instanceMethod yX3_bringBack, Cond.selects RX3 yX3_bringBack yX3_bringBack, Cond.code yX3_bringBack cX3_bringBack 2 none, Cond.methodLink RX3 77 arraycopyName, Cond.native arraycopyName, Cond.static arraycopyName, Cond.initialized "java/lang/System"]
def wsX3_foresee : List Cond := .code yX3_foresee cX3_foresee 6 (some .int) :: ((wsX3_foresee_r1 ++ (wsX3_foresee_r2 ++ (wsX3_foresee_r3 ++ (wsX3_foresee_r4 ++ wsX3_foresee_r5)))) ++ wsX30)
def wsX3_mean : List Cond := .code yX3_mean cX3_mean 1 (some .double) :: ([.fieldLink RX3 34 "LampHillsModel" "thrown" "I", .fieldLink RX3 48 "LampHillsModel" "lamps" "I", .methodLink RX3 120 yX3_all, .instanceMethod yX3_all, .selects RX3 yX3_all yX3_all, .initialized RX3, .code yX3_all cX3_all 4 (some .int), .methodLink RX3 89 yX3_la, .instanceMethod yX3_la, .selects RX3 yX3_la yX3_la, .code yX3_la cX3_la 3 (some .int), .fieldLink RX3 19 "LampHillsModel" "lights" "[I"] ++ wsX30)
def wsX3_digest_r1 : List Cond := [Cond.fieldLink RX3 34 "LampHillsModel" "thrown" "I", Cond.constantLong RX3 169 (941), Cond.constantLong RX3 171 (31), Cond.fieldLink RX3 38 "LampHillsModel" "corners" "I", Cond.fieldLink RX3 9 "LampHillsModel" "heights" "[I", Cond.fieldLink RX3 45 "LampHillsModel" "streets" "I", Cond.fieldLink RX3 48 "LampHillsModel" "lamps" "I", Cond.fieldLink RX3 51 "LampHillsModel" "lighters" "I", Cond.fieldLink RX3 25 "LampHillsModel" "rounds" "[I", Cond.fieldLink RX3 28 "LampHillsModel" "winds" "[I", Cond.methodLink RX3 127 yX3_counted, Cond.instanceMethod yX3_counted, Cond.selects RX3 yX3_counted yX3_counted, Cond.initialized RX3, Cond.code yX3_counted cX3_counted 3 (some .int), Cond.arrayClass .int, Cond.fieldLink RX3 31 "LampHillsModel" "numbers" "[I", Cond.methodLink RX3 120 yX3_all, Cond.instanceMethod yX3_all, Cond.selects RX3 yX3_all yX3_all, Cond.code yX3_all cX3_all 4 (some .int), Cond.methodLink RX3 89 yX3_la, Cond.instanceMethod yX3_la, Cond.selects RX3 yX3_la yX3_la]
def wsX3_digest_r2 : List Cond := [Cond.code yX3_la cX3_la 3 (some .int), Cond.fieldLink RX3 19 "LampHillsModel" "lights" "[I", Cond.methodLink RX3 123 yX3_dark, Cond.instanceMethod yX3_dark, Cond.selects RX3 yX3_dark yX3_dark, Cond.code yX3_dark cX3_dark 3 (some .int), Cond.methodLink RX3 117 yX3_burns, Cond.instanceMethod yX3_burns, Cond.selects RX3 yX3_burns yX3_burns, Cond.code yX3_burns cX3_burns 4 (some .int), Cond.methodLink RX3 54 yX3_ro, Cond.instanceMethod yX3_ro, Cond.selects RX3 yX3_ro yX3_ro, Cond.code yX3_ro cX3_ro 3 (some .int), Cond.fieldLink RX3 13 "LampHillsModel" "roads" "[I", Cond.methodLink RX3 111 yX3_lampTold, Cond.instanceMethod yX3_lampTold, Cond.selects RX3 yX3_lampTold yX3_lampTold, Cond.code yX3_lampTold cX3_lampTold 3 (some .int), Cond.methodLink RX3 108 yX3_goer, Cond.instanceMethod yX3_goer, Cond.selects RX3 yX3_goer yX3_goer, Cond.code yX3_goer cX3_goer 3 (some .int), Cond.methodLink RX3 99 yX3_pe]
def wsX3_digest_r3 : List Cond := [Cond.instanceMethod yX3_pe, Cond.selects RX3 yX3_pe yX3_pe, Cond.code yX3_pe cX3_pe 3 (some .int), Cond.fieldLink RX3 22 "LampHillsModel" "people" "[I", Cond.methodLink RX3 114 yX3_lighterTold, Cond.instanceMethod yX3_lighterTold, Cond.selects RX3 yX3_lighterTold yX3_lighterTold, Cond.code yX3_lighterTold cX3_lighterTold 4 (some .int)]
def wsX3_digest : List Cond := .code yX3_digest cX3_digest 7 (some .long) :: ((wsX3_digest_r1 ++ (wsX3_digest_r2 ++ wsX3_digest_r3)) ++ wsX30)
def wsJ9_max_7cf53 : List Cond := .code yJ9_max_7cf53 cJ9_max_7cf53 2 (some .int) :: ([])
def wsJ9_min_7cf53 : List Cond := .code yJ9_min_7cf53 cJ9_min_7cf53 2 (some .int) :: ([])
def wsL_corner_r1 : List Cond := [Cond.classLink RL 13 "java/lang/IllegalArgumentException", Cond.classLink RL 15 "java/lang/IllegalStateException", Cond.methodLink RL 7 yX2_corner, Cond.instanceMethod yX2_corner, Cond.selects RX2 yX2_corner yX2_corner, Cond.initialized RX2, Cond.code yX2_corner cX2_corner 2 (some .int), Cond.fieldLink RX2 12 "LampHills" "town" "LLampHills$Town;", Cond.fieldLink RX2 34 "LampHills$Town" "corners" "I", Cond.methodLink RX2 30 yX2_requireRange, Cond.static yX2_requireRange, Cond.code yX2_requireRange cX2_requireRange 3 none, Cond.classLink RX2 49 "java/lang/IllegalArgumentException", Cond.initialized "java/lang/IllegalArgumentException", Cond.methodLink RX2 38 yX2_requireRoom, Cond.static yX2_requireRoom, Cond.code yX2_requireRoom cX2_requireRoom 2 none, Cond.classLink RX2 93 "java/lang/IllegalStateException", Cond.initialized "java/lang/IllegalStateException", Cond.methodLink RX2 42 yX1_addCorner, Cond.instanceMethod yX1_addCorner, Cond.selects RX1 yX1_addCorner yX1_addCorner, Cond.initialized RX1, Cond.code yX1_addCorner cX1_addCorner 4 (some .int)]
def wsL_corner_r2 : List Cond := [Cond.fieldLink RX1 53 "LampHills$Town" "corners" "I", Cond.fieldLink RX1 9 "LampHills$Town" "height" "[I", Cond.fieldLink RX1 17 "LampHills$Town" "ways" "[[I", Cond.constant RX1 57 (1000000)]
def wsL_corner : List Cond := .codeWith yL_corner cL_corner 4 (some .int) [(0, 9, 12, 13), (0, 9, 15, 15)] :: ((wsL_corner_r1 ++ wsL_corner_r2) ++ wsX20 ++ wsX10 ++ (vx_atS RX2 53 "java/lang/IllegalArgumentException" ["java/lang/RuntimeException", "java/lang/Exception"]).filter goodWord ++ (vx_atS RX2 97 "java/lang/IllegalStateException" ["java/lang/RuntimeException", "java/lang/Exception"]).filter goodWord)
def wsL_street_r1 : List Cond := [Cond.classLink RL 21 "java/lang/IndexOutOfBoundsException", Cond.classLink RL 13 "java/lang/IllegalArgumentException", Cond.classLink RL 15 "java/lang/IllegalStateException", Cond.methodLink RL 17 yX2_street, Cond.instanceMethod yX2_street, Cond.selects RX2 yX2_street yX2_street, Cond.initialized RX2, Cond.code yX2_street cX2_street 4 (some .int), Cond.classLink RX2 49 "java/lang/IllegalArgumentException", Cond.initialized "java/lang/IllegalArgumentException", Cond.fieldLink RX2 12 "LampHills" "town" "LLampHills$Town;", Cond.fieldLink RX2 34 "LampHills$Town" "corners" "I", Cond.fieldLink RX2 56 "LampHills$Town" "streets" "I", Cond.methodLink RX2 46 yX2_requireIndex, Cond.static yX2_requireIndex, Cond.code yX2_requireIndex cX2_requireIndex 2 none, Cond.classLink RX2 223 "java/lang/IndexOutOfBoundsException", Cond.initialized "java/lang/IndexOutOfBoundsException", Cond.methodLink RX2 30 yX2_requireRange, Cond.static yX2_requireRange, Cond.code yX2_requireRange cX2_requireRange 3 none, Cond.methodLink RX2 38 yX2_requireRoom, Cond.static yX2_requireRoom, Cond.code yX2_requireRoom cX2_requireRoom 2 none]
def wsL_street_r2 : List Cond := [Cond.classLink RX2 93 "java/lang/IllegalStateException", Cond.initialized "java/lang/IllegalStateException", Cond.methodLink RX2 59 yX1_addStreet, Cond.instanceMethod yX1_addStreet, Cond.selects RX1 yX1_addStreet yX1_addStreet, Cond.initialized RX1, Cond.code yX1_addStreet cX1_addStreet 5 (some .int), Cond.fieldLink RX1 58 "LampHills$Town" "streets" "I", Cond.fieldLink RX1 20 "LampHills$Town" "firstEnd" "[I", Cond.fieldLink RX1 23 "LampHills$Town" "secondEnd" "[I", Cond.fieldLink RX1 26 "LampHills$Town" "length" "[I", Cond.methodLink RX1 61 yX1_minutesAlong, Cond.instanceMethod yX1_minutesAlong, Cond.selects RX1 yX1_minutesAlong yX1_minutesAlong, Cond.code yX1_minutesAlong cX1_minutesAlong 4 (some .int), Cond.fieldLink RX1 9 "LampHills$Town" "height" "[I", Cond.methodLink RX1 75 Lib.Math.max.name, Cond.static Lib.Math.max.name, Cond.initialized "java/lang/Math", Cond.code Lib.Math.max.name Lib.Math.max.code 2 (some .int), Cond.methodLink RX1 65 yX1_shortenWays, Cond.instanceMethod yX1_shortenWays, Cond.selects RX1 yX1_shortenWays yX1_shortenWays, Cond.code yX1_shortenWays cX1_shortenWays 7 none]
def wsL_street_r3 : List Cond := [Cond.fieldLink RX1 53 "LampHills$Town" "corners" "I", Cond.fieldLink RX1 17 "LampHills$Town" "ways" "[[I", Cond.methodLink RX1 81 Lib.Math.min.name, Cond.static Lib.Math.min.name, Cond.code Lib.Math.min.name Lib.Math.min.code 2 (some .int)]
def wsL_street : List Cond := .codeWith yL_street cL_street 6 (some .int) [(0, 12, 15, 21), (0, 12, 19, 13), (0, 12, 23, 15)] :: ((wsL_street_r1 ++ (wsL_street_r2 ++ wsL_street_r3)) ++ wsX20 ++ wsX10 ++ (vx_atS RX2 53 "java/lang/IllegalArgumentException" ["java/lang/RuntimeException", "java/lang/Exception"]).filter goodWord ++ (vx_atS RX2 227 "java/lang/IndexOutOfBoundsException" ["java/lang/RuntimeException", "java/lang/Exception"]).filter goodWord ++ (vx_atS RX2 97 "java/lang/IllegalStateException" ["java/lang/RuntimeException", "java/lang/Exception"]).filter goodWord)
def wsL_lamp_r1 : List Cond := [Cond.classLink RL 21 "java/lang/IndexOutOfBoundsException", Cond.classLink RL 13 "java/lang/IllegalArgumentException", Cond.classLink RL 15 "java/lang/IllegalStateException", Cond.methodLink RL 23 yX2_lamp, Cond.instanceMethod yX2_lamp, Cond.selects RX2 yX2_lamp yX2_lamp, Cond.initialized RX2, Cond.code yX2_lamp cX2_lamp 3 (some .int), Cond.fieldLink RX2 12 "LampHills" "town" "LLampHills$Town;", Cond.fieldLink RX2 56 "LampHills$Town" "streets" "I", Cond.fieldLink RX2 63 "LampHills$Town" "lamps" "I", Cond.methodLink RX2 46 yX2_requireIndex, Cond.static yX2_requireIndex, Cond.code yX2_requireIndex cX2_requireIndex 2 none, Cond.classLink RX2 223 "java/lang/IndexOutOfBoundsException", Cond.initialized "java/lang/IndexOutOfBoundsException", Cond.methodLink RX2 30 yX2_requireRange, Cond.static yX2_requireRange, Cond.code yX2_requireRange cX2_requireRange 3 none, Cond.classLink RX2 49 "java/lang/IllegalArgumentException", Cond.initialized "java/lang/IllegalArgumentException", Cond.methodLink RX2 38 yX2_requireRoom, Cond.static yX2_requireRoom, Cond.code yX2_requireRoom cX2_requireRoom 2 none]
def wsL_lamp_r2 : List Cond := [Cond.classLink RX2 93 "java/lang/IllegalStateException", Cond.initialized "java/lang/IllegalStateException", Cond.methodLink RX2 66 yX1_addLamp, Cond.instanceMethod yX1_addLamp, Cond.selects RX1 yX1_addLamp yX1_addLamp, Cond.initialized RX1, Cond.code yX1_addLamp cX1_addLamp 4 (some .int), Cond.fieldLink RX1 69 "LampHills$Town" "lamps" "I", Cond.fieldLink RX1 29 "LampHills$Town" "lampStreet" "[I", Cond.fieldLink RX1 32 "LampHills$Town" "lampHeight" "[I"]
def wsL_lamp : List Cond := .codeWith yL_lamp cL_lamp 5 (some .int) [(0, 10, 13, 21), (0, 10, 17, 13), (0, 10, 21, 15)] :: ((wsL_lamp_r1 ++ wsL_lamp_r2) ++ wsX20 ++ wsX10 ++ (vx_atS RX2 227 "java/lang/IndexOutOfBoundsException" ["java/lang/RuntimeException", "java/lang/Exception"]).filter goodWord ++ (vx_atS RX2 53 "java/lang/IllegalArgumentException" ["java/lang/RuntimeException", "java/lang/Exception"]).filter goodWord ++ (vx_atS RX2 97 "java/lang/IllegalStateException" ["java/lang/RuntimeException", "java/lang/Exception"]).filter goodWord)
def wsL_lid : List Cond := .codeWith yL_lid cL_lid 5 (some .int) [(0, 10, 13, 21), (0, 10, 17, 13)] :: ([.classLink RL 21 "java/lang/IndexOutOfBoundsException", .classLink RL 13 "java/lang/IllegalArgumentException", .methodLink RL 27 yX2_lid, .instanceMethod yX2_lid, .selects RX2 yX2_lid yX2_lid, .initialized RX2, .code yX2_lid cX2_lid 4 (some .int), .fieldLink RX2 12 "LampHills" "town" "LLampHills$Town;", .fieldLink RX2 63 "LampHills$Town" "lamps" "I", .fieldLink RX2 70 "LampHills$Town" "lid" "[I", .methodLink RX2 46 yX2_requireIndex, .static yX2_requireIndex, .code yX2_requireIndex cX2_requireIndex 2 none, .classLink RX2 223 "java/lang/IndexOutOfBoundsException", .initialized "java/lang/IndexOutOfBoundsException", .methodLink RX2 30 yX2_requireRange, .static yX2_requireRange, .code yX2_requireRange cX2_requireRange 3 none, .classLink RX2 49 "java/lang/IllegalArgumentException", .initialized "java/lang/IllegalArgumentException"] ++ wsX20 ++ wsX10 ++ (vx_atS RX2 227 "java/lang/IndexOutOfBoundsException" ["java/lang/RuntimeException", "java/lang/Exception"]).filter goodWord ++ (vx_atS RX2 53 "java/lang/IllegalArgumentException" ["java/lang/RuntimeException", "java/lang/Exception"]).filter goodWord)
def wsL_setWind : List Cond := .codeWith yL_setWind cL_setWind 5 (some .int) [(0, 10, 13, 21), (0, 10, 17, 13)] :: ([.classLink RL 21 "java/lang/IndexOutOfBoundsException", .classLink RL 13 "java/lang/IllegalArgumentException", .methodLink RL 30 yX2_setWind, .instanceMethod yX2_setWind, .selects RX2 yX2_setWind yX2_setWind, .initialized RX2, .code yX2_setWind cX2_setWind 4 (some .int), .fieldLink RX2 12 "LampHills" "town" "LLampHills$Town;", .fieldLink RX2 73 "LampHills$Town" "wind" "[I", .methodLink RX2 46 yX2_requireIndex, .static yX2_requireIndex, .code yX2_requireIndex cX2_requireIndex 2 none, .classLink RX2 223 "java/lang/IndexOutOfBoundsException", .initialized "java/lang/IndexOutOfBoundsException", .methodLink RX2 30 yX2_requireRange, .static yX2_requireRange, .code yX2_requireRange cX2_requireRange 3 none, .classLink RX2 49 "java/lang/IllegalArgumentException", .initialized "java/lang/IllegalArgumentException"] ++ wsX20 ++ wsX10 ++ (vx_atS RX2 227 "java/lang/IndexOutOfBoundsException" ["java/lang/RuntimeException", "java/lang/Exception"]).filter goodWord ++ (vx_atS RX2 53 "java/lang/IllegalArgumentException" ["java/lang/RuntimeException", "java/lang/Exception"]).filter goodWord)
def wsL_hire_r1 : List Cond := [Cond.classLink RL 21 "java/lang/IndexOutOfBoundsException", Cond.classLink RL 13 "java/lang/IllegalArgumentException", Cond.classLink RL 15 "java/lang/IllegalStateException", Cond.methodLink RL 33 yX2_hire, Cond.instanceMethod yX2_hire, Cond.selects RX2 yX2_hire yX2_hire, Cond.initialized RX2, Cond.code yX2_hire cX2_hire 5 (some .int), Cond.fieldLink RX2 12 "LampHills" "town" "LLampHills$Town;", Cond.fieldLink RX2 34 "LampHills$Town" "corners" "I", Cond.fieldLink RX2 76 "LampHills$Town" "lighters" "I", Cond.fieldLink RX2 19 "LampHills" "night" "LLampHills$Night;", Cond.fieldLink RX2 82 "LampHills$Night" "can" "[I", Cond.methodLink RX2 46 yX2_requireIndex, Cond.static yX2_requireIndex, Cond.code yX2_requireIndex cX2_requireIndex 2 none, Cond.classLink RX2 223 "java/lang/IndexOutOfBoundsException", Cond.initialized "java/lang/IndexOutOfBoundsException", Cond.methodLink RX2 30 yX2_requireRange, Cond.static yX2_requireRange, Cond.code yX2_requireRange cX2_requireRange 3 none, Cond.classLink RX2 49 "java/lang/IllegalArgumentException", Cond.initialized "java/lang/IllegalArgumentException", Cond.methodLink RX2 38 yX2_requireRoom]
def wsL_hire_r2 : List Cond := [Cond.static yX2_requireRoom, Cond.code yX2_requireRoom cX2_requireRoom 2 none, Cond.classLink RX2 93 "java/lang/IllegalStateException", Cond.initialized "java/lang/IllegalStateException", Cond.methodLink RX2 79 yX1_addLighter, Cond.instanceMethod yX1_addLighter, Cond.selects RX1 yX1_addLighter yX1_addLighter, Cond.initialized RX1, Cond.code yX1_addLighter cX1_addLighter 4 (some .int), Cond.fieldLink RX1 72 "LampHills$Town" "lighters" "I", Cond.fieldLink RX1 41 "LampHills$Town" "home" "[I", Cond.fieldLink RX1 44 "LampHills$Town" "ladder" "[I", Cond.methodLink RX2 85 yX0_sendHome, Cond.instanceMethod yX0_sendHome, Cond.selects RX0 yX0_sendHome yX0_sendHome, Cond.initialized RX0, Cond.code yX0_sendHome cX0_sendHome 3 none, Cond.fieldLink RX0 31 "LampHills$Night" "at" "[I", Cond.fieldLink RX0 97 "LampHills$Town" "home" "[I", Cond.fieldLink RX0 46 "LampHills$Night" "latestPlace" "[I", Cond.methodLink RX0 100 yX0_waitFromNow, Cond.instanceMethod yX0_waitFromNow, Cond.selects RX0 yX0_waitFromNow yX0_waitFromNow, Cond.code yX0_waitFromNow cX0_waitFromNow 2 none]
def wsL_hire_r3 : List Cond := [Cond.fieldLink RX0 37 "LampHills$Night" "goesTo" "[I", Cond.fieldLink RX0 43 "LampHills$Night" "minutesLeft" "[I"]
def wsL_hire : List Cond := .codeWith yL_hire cL_hire 6 (some .int) [(0, 12, 15, 21), (0, 12, 19, 13), (0, 12, 23, 15)] :: ((wsL_hire_r1 ++ (wsL_hire_r2 ++ wsL_hire_r3)) ++ wsX20 ++ wsX10 ++ wsX00 ++ (vx_atS RX2 227 "java/lang/IndexOutOfBoundsException" ["java/lang/RuntimeException", "java/lang/Exception"]).filter goodWord ++ (vx_atS RX2 53 "java/lang/IllegalArgumentException" ["java/lang/RuntimeException", "java/lang/Exception"]).filter goodWord ++ (vx_atS RX2 97 "java/lang/IllegalStateException" ["java/lang/RuntimeException", "java/lang/Exception"]).filter goodWord)
def wsL_round_r1 : List Cond := [Cond.classLink RL 21 "java/lang/IndexOutOfBoundsException", Cond.classLink RL 15 "java/lang/IllegalStateException", Cond.methodLink RL 36 yX2_round, Cond.instanceMethod yX2_round, Cond.selects RX2 yX2_round yX2_round, Cond.initialized RX2, Cond.code yX2_round cX2_round 3 (some .int), Cond.classLink RX2 93 "java/lang/IllegalStateException", Cond.initialized "java/lang/IllegalStateException", Cond.fieldLink RX2 12 "LampHills" "town" "LLampHills$Town;", Cond.fieldLink RX2 76 "LampHills$Town" "lighters" "I", Cond.fieldLink RX2 63 "LampHills$Town" "lamps" "I", Cond.fieldLink RX2 98 "LampHills$Town" "roundSize" "[I", Cond.methodLink RX2 46 yX2_requireIndex, Cond.static yX2_requireIndex, Cond.code yX2_requireIndex cX2_requireIndex 2 none, Cond.classLink RX2 223 "java/lang/IndexOutOfBoundsException", Cond.initialized "java/lang/IndexOutOfBoundsException", Cond.methodLink RX2 89 yX1_isInRound, Cond.instanceMethod yX1_isInRound, Cond.selects RX1 yX1_isInRound yX1_isInRound, Cond.initialized RX1, Cond.code yX1_isInRound cX1_isInRound 4 (some .boolean), Cond.fieldLink RX1 47 "LampHills$Town" "roundSize" "[I"]
def wsL_round_r2 : List Cond := [Cond.fieldLink RX1 50 "LampHills$Town" "rounds" "[[I", Cond.methodLink RX2 38 yX2_requireRoom, Cond.static yX2_requireRoom, Cond.code yX2_requireRoom cX2_requireRoom 2 none, Cond.methodLink RX2 101 yX1_addToRound, Cond.instanceMethod yX1_addToRound, Cond.selects RX1 yX1_addToRound yX1_addToRound, Cond.code yX1_addToRound cX1_addToRound 3 (some .int)]
def wsL_round : List Cond := .codeWith yL_round cL_round 5 (some .int) [(0, 10, 13, 21), (0, 10, 17, 15)] :: ((wsL_round_r1 ++ wsL_round_r2) ++ wsX20 ++ wsX10 ++ (vx_atS RX2 97 "java/lang/IllegalStateException" ["java/lang/RuntimeException", "java/lang/Exception"]).filter goodWord ++ (vx_atS RX2 227 "java/lang/IndexOutOfBoundsException" ["java/lang/RuntimeException", "java/lang/Exception"]).filter goodWord)
def wsL_fill_r1 : List Cond := [Cond.classLink RL 21 "java/lang/IndexOutOfBoundsException", Cond.classLink RL 13 "java/lang/IllegalArgumentException", Cond.methodLink RL 39 yX2_fill, Cond.instanceMethod yX2_fill, Cond.selects RX2 yX2_fill yX2_fill, Cond.initialized RX2, Cond.code yX2_fill cX2_fill 3 (some .int), Cond.fieldLink RX2 12 "LampHills" "town" "LLampHills$Town;", Cond.fieldLink RX2 76 "LampHills$Town" "lighters" "I", Cond.fieldLink RX2 19 "LampHills" "night" "LLampHills$Night;", Cond.fieldLink RX2 82 "LampHills$Night" "can" "[I", Cond.methodLink RX2 104 Lib.Math.min.name, Cond.static Lib.Math.min.name, Cond.initialized "java/lang/Math", Cond.code Lib.Math.min.name Lib.Math.min.code 2 (some .int), Cond.methodLink RX2 46 yX2_requireIndex, Cond.static yX2_requireIndex, Cond.code yX2_requireIndex cX2_requireIndex 2 none, Cond.classLink RX2 223 "java/lang/IndexOutOfBoundsException", Cond.initialized "java/lang/IndexOutOfBoundsException", Cond.methodLink RX2 30 yX2_requireRange, Cond.static yX2_requireRange, Cond.code yX2_requireRange cX2_requireRange 3 none, Cond.classLink RX2 49 "java/lang/IllegalArgumentException"]
def wsL_fill_r2 : List Cond := [Cond.initialized "java/lang/IllegalArgumentException"]
def wsL_fill : List Cond := .codeWith yL_fill cL_fill 5 (some .int) [(0, 10, 13, 21), (0, 10, 17, 13)] :: ((wsL_fill_r1 ++ wsL_fill_r2) ++ wsX20 ++ wsX10 ++ wsX00 ++ (vx_atS RX2 227 "java/lang/IndexOutOfBoundsException" ["java/lang/RuntimeException", "java/lang/Exception"]).filter goodWord ++ (vx_atS RX2 53 "java/lang/IllegalArgumentException" ["java/lang/RuntimeException", "java/lang/Exception"]).filter goodWord)
def wsL_way : List Cond := .codeWith yL_way cL_way 5 (some .int) [(0, 10, 13, 21)] :: ([.classLink RL 21 "java/lang/IndexOutOfBoundsException", .methodLink RL 42 yX2_way, .instanceMethod yX2_way, .selects RX2 yX2_way yX2_way, .initialized RX2, .code yX2_way cX2_way 4 (some .int), .fieldLink RX2 12 "LampHills" "town" "LLampHills$Town;", .fieldLink RX2 34 "LampHills$Town" "corners" "I", .fieldLink RX2 109 "LampHills$Town" "ways" "[[I", .constant RX2 113 (1000000), .methodLink RX2 46 yX2_requireIndex, .static yX2_requireIndex, .code yX2_requireIndex cX2_requireIndex 2 none, .classLink RX2 223 "java/lang/IndexOutOfBoundsException", .initialized "java/lang/IndexOutOfBoundsException"] ++ wsX20 ++ wsX10 ++ (vx_atS RX2 227 "java/lang/IndexOutOfBoundsException" ["java/lang/RuntimeException", "java/lang/Exception"]).filter goodWord)
def wsL_told_r1 : List Cond := [Cond.classLink RL 21 "java/lang/IndexOutOfBoundsException", Cond.methodLink RL 45 yX2_told, Cond.instanceMethod yX2_told, Cond.selects RX2 yX2_told yX2_told, Cond.initialized RX2, Cond.code yX2_told cX2_told 3 (some .int), Cond.fieldLink RX2 12 "LampHills" "town" "LLampHills$Town;", Cond.fieldLink RX2 63 "LampHills$Town" "lamps" "I", Cond.fieldLink RX2 114 "LampHills$Town" "lampStreet" "[I", Cond.fieldLink RX2 117 "LampHills$Town" "lampHeight" "[I", Cond.fieldLink RX2 70 "LampHills$Town" "lid" "[I", Cond.fieldLink RX2 19 "LampHills" "night" "LLampHills$Night;", Cond.fieldLink RX2 120 "LampHills$Night" "oil" "[I", Cond.fieldLink RX2 123 "LampHills$Night" "soot" "[I", Cond.fieldLink RX2 126 "LampHills$Night" "burns" "[Z", Cond.fieldLink RX2 134 "LampHills$Night" "timesLit" "[I", Cond.fieldLink RX2 137 "LampHills$Night" "timesBlownOut" "[I", Cond.methodLink RX2 46 yX2_requireIndex, Cond.static yX2_requireIndex, Cond.code yX2_requireIndex cX2_requireIndex 2 none, Cond.classLink RX2 223 "java/lang/IndexOutOfBoundsException", Cond.initialized "java/lang/IndexOutOfBoundsException", Cond.methodLink RX2 130 yX0_whoGoesTo, Cond.instanceMethod yX0_whoGoesTo]
def wsL_told_r2 : List Cond := [Cond.selects RX0 yX0_whoGoesTo yX0_whoGoesTo, Cond.initialized RX0, Cond.code yX0_whoGoesTo cX0_whoGoesTo 4 (some .int), Cond.fieldLink RX0 91 "LampHills$Town" "lighters" "I", Cond.fieldLink RX0 37 "LampHills$Night" "goesTo" "[I"]
def wsL_told : List Cond := .codeWith yL_told cL_told 5 (some .int) [(0, 10, 13, 21)] :: ((wsL_told_r1 ++ wsL_told_r2) ++ wsX20 ++ wsX10 ++ wsX00 ++ (vx_atS RX2 227 "java/lang/IndexOutOfBoundsException" ["java/lang/RuntimeException", "java/lang/Exception"]).filter goodWord)
def wsL_lighter : List Cond := .codeWith yL_lighter cL_lighter 5 (some .int) [(0, 10, 13, 21)] :: ([.classLink RL 21 "java/lang/IndexOutOfBoundsException", .methodLink RL 48 yX2_lighter, .instanceMethod yX2_lighter, .selects RX2 yX2_lighter yX2_lighter, .initialized RX2, .code yX2_lighter cX2_lighter 3 (some .int), .fieldLink RX2 12 "LampHills" "town" "LLampHills$Town;", .fieldLink RX2 76 "LampHills$Town" "lighters" "I", .fieldLink RX2 19 "LampHills" "night" "LLampHills$Night;", .fieldLink RX2 140 "LampHills$Night" "at" "[I", .fieldLink RX2 143 "LampHills$Town" "ladder" "[I", .fieldLink RX2 82 "LampHills$Night" "can" "[I", .fieldLink RX2 98 "LampHills$Town" "roundSize" "[I", .fieldLink RX2 146 "LampHills$Night" "goesTo" "[I", .fieldLink RX2 149 "LampHills$Night" "minutesLeft" "[I", .fieldLink RX2 152 "LampHills$Night" "litBy" "[I", .methodLink RX2 46 yX2_requireIndex, .static yX2_requireIndex, .code yX2_requireIndex cX2_requireIndex 2 none, .classLink RX2 223 "java/lang/IndexOutOfBoundsException", .initialized "java/lang/IndexOutOfBoundsException"] ++ wsX20 ++ wsX10 ++ wsX00 ++ (vx_atS RX2 227 "java/lang/IndexOutOfBoundsException" ["java/lang/RuntimeException", "java/lang/Exception"]).filter goodWord)
def wsL_burning : List Cond := .codeWith yL_burning cL_burning 4 (some .int) [(0, 9, 12, 21)] :: ([.classLink RL 21 "java/lang/IndexOutOfBoundsException", .methodLink RL 51 yX2_burning, .instanceMethod yX2_burning, .selects RX2 yX2_burning yX2_burning, .initialized RX2, .code yX2_burning cX2_burning 2 (some .int), .fieldLink RX2 12 "LampHills" "town" "LLampHills$Town;", .fieldLink RX2 56 "LampHills$Town" "streets" "I", .fieldLink RX2 19 "LampHills" "night" "LLampHills$Night;", .fieldLink RX2 155 "LampHills$Night" "burningIn" "[I", .methodLink RX2 46 yX2_requireIndex, .static yX2_requireIndex, .code yX2_requireIndex cX2_requireIndex 2 none, .classLink RX2 223 "java/lang/IndexOutOfBoundsException", .initialized "java/lang/IndexOutOfBoundsException"] ++ wsX20 ++ wsX10 ++ wsX00 ++ (vx_atS RX2 227 "java/lang/IndexOutOfBoundsException" ["java/lang/RuntimeException", "java/lang/Exception"]).filter goodWord)
def wsL_count_r1 : List Cond := [Cond.classLink RL 21 "java/lang/IndexOutOfBoundsException", Cond.methodLink RL 54 yX2_count, Cond.instanceMethod yX2_count, Cond.selects RX2 yX2_count yX2_count, Cond.initialized RX2, Cond.code yX2_count cX2_count 2 (some .int), Cond.fieldLink RX2 19 "LampHills" "night" "LLampHills$Night;", Cond.fieldLink RX2 158 "LampHills$Night" "minute" "I", Cond.fieldLink RX2 161 "LampHills$Night" "number" "I", Cond.fieldLink RX2 12 "LampHills" "town" "LLampHills$Town;", Cond.fieldLink RX2 34 "LampHills$Town" "corners" "I", Cond.fieldLink RX2 56 "LampHills$Town" "streets" "I", Cond.fieldLink RX2 63 "LampHills$Town" "lamps" "I", Cond.fieldLink RX2 76 "LampHills$Town" "lighters" "I", Cond.fieldLink RX2 174 "LampHills$Night" "oilUsed" "I", Cond.methodLink RX2 46 yX2_requireIndex, Cond.static yX2_requireIndex, Cond.code yX2_requireIndex cX2_requireIndex 2 none, Cond.classLink RX2 223 "java/lang/IndexOutOfBoundsException", Cond.initialized "java/lang/IndexOutOfBoundsException", Cond.methodLink RX2 164 yX0_burningLamps, Cond.instanceMethod yX0_burningLamps, Cond.selects RX0 yX0_burningLamps yX0_burningLamps, Cond.initialized RX0]
def wsL_count_r2 : List Cond := [Cond.code yX0_burningLamps cX0_burningLamps 4 (some .int), Cond.fieldLink RX0 104 "LampHills$Town" "streets" "I", Cond.fieldLink RX0 9 "LampHills$Night" "burningIn" "[I", Cond.methodLink RX2 168 yX0_darkStreets, Cond.instanceMethod yX0_darkStreets, Cond.selects RX0 yX0_darkStreets yX0_darkStreets, Cond.code yX0_darkStreets cX0_darkStreets 4 (some .int), Cond.methodLink RX0 107 yX0_isDark, Cond.instanceMethod yX0_isDark, Cond.selects RX0 yX0_isDark yX0_isDark, Cond.code yX0_isDark cX0_isDark 2 (some .boolean), Cond.methodLink RX2 171 yX0_oilOfLamps, Cond.instanceMethod yX0_oilOfLamps, Cond.selects RX0 yX0_oilOfLamps yX0_oilOfLamps, Cond.code yX0_oilOfLamps cX0_oilOfLamps 4 (some .int), Cond.fieldLink RX0 85 "LampHills$Town" "lamps" "I", Cond.fieldLink RX0 15 "LampHills$Night" "oil" "[I"]
def wsL_count : List Cond := .codeWith yL_count cL_count 4 (some .int) [(0, 9, 12, 21)] :: ((wsL_count_r1 ++ wsL_count_r2) ++ wsX20 ++ wsX00 ++ wsX10 ++ (vx_atS RX2 227 "java/lang/IndexOutOfBoundsException" ["java/lang/RuntimeException", "java/lang/Exception"]).filter goodWord)
def wsL_pass_r1 : List Cond := [Cond.classLink RL 13 "java/lang/IllegalArgumentException", Cond.methodLink RL 57 yX2_pass, Cond.instanceMethod yX2_pass, Cond.selects RX2 yX2_pass yX2_pass, Cond.initialized RX2, Cond.code yX2_pass cX2_pass 2 (some .int), Cond.fieldLink RX2 19 "LampHills" "night" "LLampHills$Night;", Cond.fieldLink RX2 12 "LampHills" "town" "LLampHills$Town;", Cond.methodLink RX2 30 yX2_requireRange, Cond.static yX2_requireRange, Cond.code yX2_requireRange cX2_requireRange 3 none, Cond.classLink RX2 49 "java/lang/IllegalArgumentException", Cond.initialized "java/lang/IllegalArgumentException", Cond.methodLink RX2 177 yX0_goBy, Cond.instanceMethod yX0_goBy, Cond.selects RX0 yX0_goBy yX0_goBy, Cond.initialized RX0, Cond.code yX0_goBy cX0_goBy 5 (some .int), Cond.fieldLink RX0 52 "LampHills$Night" "minute" "I", Cond.fieldLink RX0 76 "LampHills$Town" "wind" "[I", Cond.methodLink RX0 68 yX0_moveLighters, Cond.instanceMethod yX0_moveLighters, Cond.selects RX0 yX0_moveLighters yX0_moveLighters, Cond.code yX0_moveLighters cX0_moveLighters 4 (some .int)]
def wsL_pass_r2 : List Cond := [Cond.fieldLink RX0 91 "LampHills$Town" "lighters" "I", Cond.fieldLink RX0 37 "LampHills$Night" "goesTo" "[I", Cond.fieldLink RX0 43 "LampHills$Night" "minutesLeft" "[I", Cond.methodLink RX0 111 yX0_lookForLamp, Cond.instanceMethod yX0_lookForLamp, Cond.selects RX0 yX0_lookForLamp yX0_lookForLamp, Cond.code yX0_lookForLamp cX0_lookForLamp 5 none, Cond.fieldLink RX0 122 "LampHills$Town" "rounds" "[[I", Cond.fieldLink RX0 34 "LampHills$Night" "can" "[I", Cond.fieldLink RX0 15 "LampHills$Night" "oil" "[I", Cond.fieldLink RX0 46 "LampHills$Night" "latestPlace" "[I", Cond.fieldLink RX0 40 "LampHills$Night" "goal" "[I", Cond.fieldLink RX0 31 "LampHills$Night" "at" "[I", Cond.fieldLink RX0 130 "LampHills$Town" "ways" "[[I", Cond.methodLink RX0 118 yX0_placeOfNextLamp, Cond.instanceMethod yX0_placeOfNextLamp, Cond.selects RX0 yX0_placeOfNextLamp yX0_placeOfNextLamp, Cond.code yX0_placeOfNextLamp cX0_placeOfNextLamp 7 (some .int), Cond.fieldLink RX0 133 "LampHills$Town" "roundSize" "[I", Cond.fieldLink RX0 21 "LampHills$Night" "burns" "[Z", Cond.methodLink RX0 136 yX0_whoGoesTo, Cond.instanceMethod yX0_whoGoesTo, Cond.selects RX0 yX0_whoGoesTo yX0_whoGoesTo, Cond.code yX0_whoGoesTo cX0_whoGoesTo 4 (some .int)]
def wsL_pass_r3 : List Cond := [Cond.methodLink RX0 139 yX1_canReach, Cond.instanceMethod yX1_canReach, Cond.selects RX1 yX1_canReach yX1_canReach, Cond.initialized RX1, Cond.code yX1_canReach cX1_canReach 4 (some .boolean), Cond.fieldLink RX1 32 "LampHills$Town" "lampHeight" "[I", Cond.fieldLink RX1 44 "LampHills$Town" "ladder" "[I", Cond.fieldLink RX1 17 "LampHills$Town" "ways" "[[I", Cond.constant RX1 57 (1000000), Cond.methodLink RX1 84 yX1_nearerEnd, Cond.instanceMethod yX1_nearerEnd, Cond.selects RX1 yX1_nearerEnd yX1_nearerEnd, Cond.code yX1_nearerEnd cX1_nearerEnd 6 (some .int), Cond.fieldLink RX1 29 "LampHills$Town" "lampStreet" "[I", Cond.fieldLink RX1 20 "LampHills$Town" "firstEnd" "[I", Cond.fieldLink RX1 23 "LampHills$Town" "secondEnd" "[I", Cond.methodLink RX0 126 yX1_nearerEnd, Cond.methodLink RX0 114 yX0_tendLamp, Cond.instanceMethod yX0_tendLamp, Cond.selects RX0 yX0_tendLamp yX0_tendLamp, Cond.code yX0_tendLamp cX0_tendLamp 5 (some .boolean), Cond.methodLink RX0 143 Lib.Math.min.name, Cond.static Lib.Math.min.name, Cond.initialized "java/lang/Math"]
def wsL_pass_r4 : List Cond := [Cond.code Lib.Math.min.name Lib.Math.min.code 2 (some .int), Cond.fieldLink RX0 18 "LampHills$Night" "soot" "[I", Cond.fieldLink RX0 9 "LampHills$Night" "burningIn" "[I", Cond.fieldLink RX0 148 "LampHills$Town" "lampStreet" "[I", Cond.fieldLink RX0 25 "LampHills$Night" "timesLit" "[I", Cond.fieldLink RX0 49 "LampHills$Night" "litBy" "[I", Cond.methodLink RX0 100 yX0_waitFromNow, Cond.instanceMethod yX0_waitFromNow, Cond.selects RX0 yX0_waitFromNow yX0_waitFromNow, Cond.code yX0_waitFromNow cX0_waitFromNow 2 none, Cond.methodLink RX0 72 yX0_burnLamps, Cond.instanceMethod yX0_burnLamps, Cond.selects RX0 yX0_burnLamps yX0_burnLamps, Cond.code yX0_burnLamps cX0_burnLamps 3 none, Cond.fieldLink RX0 85 "LampHills$Town" "lamps" "I", Cond.methodLink RX0 151 yX0_useOil, Cond.instanceMethod yX0_useOil, Cond.selects RX0 yX0_useOil yX0_useOil, Cond.code yX0_useOil cX0_useOil 4 none, Cond.fieldLink RX0 59 "LampHills$Night" "oilUsed" "I", Cond.methodLink RX0 88 yX0_putOut, Cond.instanceMethod yX0_putOut, Cond.selects RX0 yX0_putOut yX0_putOut, Cond.code yX0_putOut cX0_putOut 3 none]
def wsL_pass_r5 : List Cond := [Cond.methodLink RX0 81 yX0_blow, Cond.instanceMethod yX0_blow, Cond.selects RX0 yX0_blow yX0_blow, Cond.code yX0_blow cX0_blow 4 none, Cond.fieldLink RX0 157 "LampHills$Town" "lid" "[I", Cond.fieldLink RX0 28 "LampHills$Night" "timesBlownOut" "[I", Cond.methodLink RX0 154 yX1_windAtLamp, Cond.instanceMethod yX1_windAtLamp, Cond.selects RX1 yX1_windAtLamp yX1_windAtLamp, Cond.code yX1_windAtLamp cX1_windAtLamp 4 (some .int), Cond.fieldLink RX1 9 "LampHills$Town" "height" "[I", Cond.methodLink RX1 75 Lib.Math.max.name, Cond.static Lib.Math.max.name, Cond.code Lib.Math.max.name Lib.Math.max.code 2 (some .int)]
def wsL_pass : List Cond := .codeWith yL_pass cL_pass 4 (some .int) [(0, 9, 12, 13)] :: ((wsL_pass_r1 ++ (wsL_pass_r2 ++ (wsL_pass_r3 ++ (wsL_pass_r4 ++ wsL_pass_r5)))) ++ wsX20 ++ wsX00 ++ wsX10 ++ (vx_atS RX2 53 "java/lang/IllegalArgumentException" ["java/lang/RuntimeException", "java/lang/Exception"]).filter goodWord)
def wsL_dawn_r1 : List Cond := [Cond.classLink RL 15 "java/lang/IllegalStateException", Cond.methodLink RL 60 yX2_dawn, Cond.instanceMethod yX2_dawn, Cond.selects RX2 yX2_dawn yX2_dawn, Cond.initialized RX2, Cond.code yX2_dawn cX2_dawn 2 (some .int), Cond.classLink RX2 93 "java/lang/IllegalStateException", Cond.initialized "java/lang/IllegalStateException", Cond.fieldLink RX2 19 "LampHills" "night" "LLampHills$Night;", Cond.fieldLink RX2 158 "LampHills$Night" "minute" "I", Cond.fieldLink RX2 12 "LampHills" "town" "LLampHills$Town;", Cond.methodLink RX2 164 yX0_burningLamps, Cond.instanceMethod yX0_burningLamps, Cond.selects RX0 yX0_burningLamps yX0_burningLamps, Cond.initialized RX0, Cond.code yX0_burningLamps cX0_burningLamps 4 (some .int), Cond.fieldLink RX0 104 "LampHills$Town" "streets" "I", Cond.fieldLink RX0 9 "LampHills$Night" "burningIn" "[I", Cond.methodLink RX2 182 yX0_beginNext, Cond.instanceMethod yX0_beginNext, Cond.selects RX0 yX0_beginNext yX0_beginNext, Cond.code yX0_beginNext cX0_beginNext 3 none, Cond.fieldLink RX0 52 "LampHills$Night" "minute" "I", Cond.fieldLink RX0 56 "LampHills$Night" "number" "I"]
def wsL_dawn_r2 : List Cond := [Cond.fieldLink RX0 85 "LampHills$Town" "lamps" "I", Cond.fieldLink RX0 21 "LampHills$Night" "burns" "[Z", Cond.fieldLink RX0 91 "LampHills$Town" "lighters" "I", Cond.methodLink RX0 88 yX0_putOut, Cond.instanceMethod yX0_putOut, Cond.selects RX0 yX0_putOut yX0_putOut, Cond.code yX0_putOut cX0_putOut 3 none, Cond.fieldLink RX0 148 "LampHills$Town" "lampStreet" "[I", Cond.methodLink RX0 94 yX0_sendHome, Cond.instanceMethod yX0_sendHome, Cond.selects RX0 yX0_sendHome yX0_sendHome, Cond.code yX0_sendHome cX0_sendHome 3 none, Cond.fieldLink RX0 31 "LampHills$Night" "at" "[I", Cond.fieldLink RX0 97 "LampHills$Town" "home" "[I", Cond.fieldLink RX0 46 "LampHills$Night" "latestPlace" "[I", Cond.methodLink RX0 100 yX0_waitFromNow, Cond.instanceMethod yX0_waitFromNow, Cond.selects RX0 yX0_waitFromNow yX0_waitFromNow, Cond.code yX0_waitFromNow cX0_waitFromNow 2 none, Cond.fieldLink RX0 37 "LampHills$Night" "goesTo" "[I", Cond.fieldLink RX0 43 "LampHills$Night" "minutesLeft" "[I"]
def wsL_dawn : List Cond := .codeWith yL_dawn cL_dawn 3 (some .int) [(0, 8, 11, 15)] :: ((wsL_dawn_r1 ++ wsL_dawn_r2) ++ wsX20 ++ wsX00 ++ wsX10 ++ (vx_atS RX2 97 "java/lang/IllegalStateException" ["java/lang/RuntimeException", "java/lang/Exception"]).filter goodWord)
def wsL_comes_r1 : List Cond := [Cond.classLink RL 21 "java/lang/IndexOutOfBoundsException", Cond.methodLink RL 64 yX2_comes, Cond.instanceMethod yX2_comes, Cond.selects RX2 yX2_comes yX2_comes, Cond.initialized RX2, Cond.code yX2_comes cX2_comes 4 (some .int), Cond.fieldLink RX2 12 "LampHills" "town" "LLampHills$Town;", Cond.fieldLink RX2 63 "LampHills$Town" "lamps" "I", Cond.fieldLink RX2 23 "LampHills" "forecast" "LLampHills$Night;", Cond.fieldLink RX2 19 "LampHills" "night" "LLampHills$Night;", Cond.fieldLink RX2 158 "LampHills$Night" "minute" "I", Cond.fieldLink RX2 134 "LampHills$Night" "timesLit" "[I", Cond.methodLink RX2 46 yX2_requireIndex, Cond.static yX2_requireIndex, Cond.code yX2_requireIndex cX2_requireIndex 2 none, Cond.classLink RX2 223 "java/lang/IndexOutOfBoundsException", Cond.initialized "java/lang/IndexOutOfBoundsException", Cond.methodLink RX2 186 yX0_copy, Cond.instanceMethod yX0_copy, Cond.selects RX0 yX0_copy yX0_copy, Cond.initialized RX0, Cond.code yX0_copy cX0_copy 3 none, Cond.fieldLink RX0 52 "LampHills$Night" "minute" "I", Cond.fieldLink RX0 56 "LampHills$Night" "number" "I"]
def wsL_comes_r2 : List Cond := [Cond.fieldLink RX0 59 "LampHills$Night" "oilUsed" "I", Cond.fieldLink RX0 9 "LampHills$Night" "burningIn" "[I", Cond.methodLink RX0 62 arraycopyName, Cond.native arraycopyName, Cond.static arraycopyName, Cond.initialized "java/lang/System", Cond.fieldLink RX0 15 "LampHills$Night" "oil" "[I", Cond.fieldLink RX0 18 "LampHills$Night" "soot" "[I", Cond.fieldLink RX0 21 "LampHills$Night" "burns" "[Z", Cond.fieldLink RX0 25 "LampHills$Night" "timesLit" "[I", Cond.fieldLink RX0 28 "LampHills$Night" "timesBlownOut" "[I", Cond.fieldLink RX0 31 "LampHills$Night" "at" "[I", Cond.fieldLink RX0 34 "LampHills$Night" "can" "[I", Cond.fieldLink RX0 37 "LampHills$Night" "goesTo" "[I", Cond.fieldLink RX0 40 "LampHills$Night" "goal" "[I", Cond.fieldLink RX0 43 "LampHills$Night" "minutesLeft" "[I", Cond.fieldLink RX0 46 "LampHills$Night" "latestPlace" "[I", Cond.fieldLink RX0 49 "LampHills$Night" "litBy" "[I", Cond.methodLink RX2 177 yX0_goBy, Cond.instanceMethod yX0_goBy, Cond.selects RX0 yX0_goBy yX0_goBy, Cond.code yX0_goBy cX0_goBy 5 (some .int), Cond.fieldLink RX0 76 "LampHills$Town" "wind" "[I", Cond.methodLink RX0 68 yX0_moveLighters]
def wsL_comes_r3 : List Cond := [Cond.instanceMethod yX0_moveLighters, Cond.selects RX0 yX0_moveLighters yX0_moveLighters, Cond.code yX0_moveLighters cX0_moveLighters 4 (some .int), Cond.fieldLink RX0 91 "LampHills$Town" "lighters" "I", Cond.methodLink RX0 111 yX0_lookForLamp, Cond.instanceMethod yX0_lookForLamp, Cond.selects RX0 yX0_lookForLamp yX0_lookForLamp, Cond.code yX0_lookForLamp cX0_lookForLamp 5 none, Cond.fieldLink RX0 122 "LampHills$Town" "rounds" "[[I", Cond.fieldLink RX0 130 "LampHills$Town" "ways" "[[I", Cond.methodLink RX0 118 yX0_placeOfNextLamp, Cond.instanceMethod yX0_placeOfNextLamp, Cond.selects RX0 yX0_placeOfNextLamp yX0_placeOfNextLamp, Cond.code yX0_placeOfNextLamp cX0_placeOfNextLamp 7 (some .int), Cond.fieldLink RX0 133 "LampHills$Town" "roundSize" "[I", Cond.methodLink RX0 136 yX0_whoGoesTo, Cond.instanceMethod yX0_whoGoesTo, Cond.selects RX0 yX0_whoGoesTo yX0_whoGoesTo, Cond.code yX0_whoGoesTo cX0_whoGoesTo 4 (some .int), Cond.methodLink RX0 139 yX1_canReach, Cond.instanceMethod yX1_canReach, Cond.selects RX1 yX1_canReach yX1_canReach, Cond.initialized RX1, Cond.code yX1_canReach cX1_canReach 4 (some .boolean)]
def wsL_comes_r4 : List Cond := [Cond.fieldLink RX1 32 "LampHills$Town" "lampHeight" "[I", Cond.fieldLink RX1 44 "LampHills$Town" "ladder" "[I", Cond.fieldLink RX1 17 "LampHills$Town" "ways" "[[I", Cond.constant RX1 57 (1000000), Cond.methodLink RX1 84 yX1_nearerEnd, Cond.instanceMethod yX1_nearerEnd, Cond.selects RX1 yX1_nearerEnd yX1_nearerEnd, Cond.code yX1_nearerEnd cX1_nearerEnd 6 (some .int), Cond.fieldLink RX1 29 "LampHills$Town" "lampStreet" "[I", Cond.fieldLink RX1 20 "LampHills$Town" "firstEnd" "[I", Cond.fieldLink RX1 23 "LampHills$Town" "secondEnd" "[I", Cond.methodLink RX0 126 yX1_nearerEnd, Cond.methodLink RX0 114 yX0_tendLamp, Cond.instanceMethod yX0_tendLamp, Cond.selects RX0 yX0_tendLamp yX0_tendLamp, Cond.code yX0_tendLamp cX0_tendLamp 5 (some .boolean), Cond.methodLink RX0 143 Lib.Math.min.name, Cond.static Lib.Math.min.name, Cond.initialized "java/lang/Math", Cond.code Lib.Math.min.name Lib.Math.min.code 2 (some .int), Cond.fieldLink RX0 148 "LampHills$Town" "lampStreet" "[I", Cond.methodLink RX0 100 yX0_waitFromNow, Cond.instanceMethod yX0_waitFromNow, Cond.selects RX0 yX0_waitFromNow yX0_waitFromNow]
def wsL_comes_r5 : List Cond := [Cond.code yX0_waitFromNow cX0_waitFromNow 2 none, Cond.methodLink RX0 72 yX0_burnLamps, Cond.instanceMethod yX0_burnLamps, Cond.selects RX0 yX0_burnLamps yX0_burnLamps, Cond.code yX0_burnLamps cX0_burnLamps 3 none, Cond.fieldLink RX0 85 "LampHills$Town" "lamps" "I", Cond.methodLink RX0 151 yX0_useOil, Cond.instanceMethod yX0_useOil, Cond.selects RX0 yX0_useOil yX0_useOil, Cond.code yX0_useOil cX0_useOil 4 none, Cond.methodLink RX0 88 yX0_putOut, Cond.instanceMethod yX0_putOut, Cond.selects RX0 yX0_putOut yX0_putOut, Cond.code yX0_putOut cX0_putOut 3 none, Cond.methodLink RX0 81 yX0_blow, Cond.instanceMethod yX0_blow, Cond.selects RX0 yX0_blow yX0_blow, Cond.code yX0_blow cX0_blow 4 none, Cond.fieldLink RX0 157 "LampHills$Town" "lid" "[I", Cond.methodLink RX0 154 yX1_windAtLamp, Cond.instanceMethod yX1_windAtLamp, Cond.selects RX1 yX1_windAtLamp yX1_windAtLamp, Cond.code yX1_windAtLamp cX1_windAtLamp 4 (some .int), Cond.fieldLink RX1 9 "LampHills$Town" "height" "[I"]
def wsL_comes_r6 : List Cond := [Cond.methodLink RX1 75 Lib.Math.max.name, Cond.static Lib.Math.max.name, Cond.code Lib.Math.max.name Lib.Math.max.code 2 (some .int)]
def wsL_comes : List Cond := .codeWith yL_comes cL_comes 4 (some .int) [(0, 9, 12, 21)] :: ((wsL_comes_r1 ++ (wsL_comes_r2 ++ (wsL_comes_r3 ++ (wsL_comes_r4 ++ (wsL_comes_r5 ++ wsL_comes_r6))))) ++ wsX20 ++ wsX10 ++ wsX00 ++ (vx_atS RX2 227 "java/lang/IndexOutOfBoundsException" ["java/lang/RuntimeException", "java/lang/Exception"]).filter goodWord)
def wsL_needs_r1 : List Cond := [Cond.classLink RL 21 "java/lang/IndexOutOfBoundsException", Cond.methodLink RL 67 yX2_needs, Cond.instanceMethod yX2_needs, Cond.selects RX2 yX2_needs yX2_needs, Cond.initialized RX2, Cond.code yX2_needs cX2_needs 4 (some .int), Cond.fieldLink RX2 12 "LampHills" "town" "LLampHills$Town;", Cond.fieldLink RX2 63 "LampHills$Town" "lamps" "I", Cond.fieldLink RX2 73 "LampHills$Town" "wind" "[I", Cond.methodLink RX2 200 Lib.Math.max.name, Cond.static Lib.Math.max.name, Cond.initialized "java/lang/Math", Cond.code Lib.Math.max.name Lib.Math.max.code 2 (some .int), Cond.methodLink RX2 46 yX2_requireIndex, Cond.static yX2_requireIndex, Cond.code yX2_requireIndex cX2_requireIndex 2 none, Cond.classLink RX2 223 "java/lang/IndexOutOfBoundsException", Cond.initialized "java/lang/IndexOutOfBoundsException", Cond.methodLink RX2 203 yX1_windAtLamp, Cond.instanceMethod yX1_windAtLamp, Cond.selects RX1 yX1_windAtLamp yX1_windAtLamp, Cond.initialized RX1, Cond.code yX1_windAtLamp cX1_windAtLamp 4 (some .int), Cond.fieldLink RX1 29 "LampHills$Town" "lampStreet" "[I"]
def wsL_needs_r2 : List Cond := [Cond.fieldLink RX1 9 "LampHills$Town" "height" "[I", Cond.fieldLink RX1 20 "LampHills$Town" "firstEnd" "[I", Cond.fieldLink RX1 23 "LampHills$Town" "secondEnd" "[I", Cond.methodLink RX1 75 Lib.Math.max.name]
def wsL_needs : List Cond := .codeWith yL_needs cL_needs 4 (some .int) [(0, 9, 12, 21)] :: ((wsL_needs_r1 ++ wsL_needs_r2) ++ wsX20 ++ wsX10 ++ (vx_atS RX2 227 "java/lang/IndexOutOfBoundsException" ["java/lang/RuntimeException", "java/lang/Exception"]).filter goodWord)
def wsL_foresee_r1 : List Cond := [Cond.classLink RL 13 "java/lang/IllegalArgumentException", Cond.classLink RL 21 "java/lang/IndexOutOfBoundsException", Cond.methodLink RL 70 yX2_foresee, Cond.instanceMethod yX2_foresee, Cond.selects RX2 yX2_foresee yX2_foresee, Cond.initialized RX2, Cond.code yX2_foresee cX2_foresee 3 (some .int), Cond.fieldLink RX2 23 "LampHills" "forecast" "LLampHills$Night;", Cond.fieldLink RX2 19 "LampHills" "night" "LLampHills$Night;", Cond.fieldLink RX2 12 "LampHills" "town" "LLampHills$Town;", Cond.fieldLink RX2 174 "LampHills$Night" "oilUsed" "I", Cond.methodLink RX2 30 yX2_requireRange, Cond.static yX2_requireRange, Cond.code yX2_requireRange cX2_requireRange 3 none, Cond.classLink RX2 49 "java/lang/IllegalArgumentException", Cond.initialized "java/lang/IllegalArgumentException", Cond.methodLink RX2 46 yX2_requireIndex, Cond.static yX2_requireIndex, Cond.code yX2_requireIndex cX2_requireIndex 2 none, Cond.classLink RX2 223 "java/lang/IndexOutOfBoundsException", Cond.initialized "java/lang/IndexOutOfBoundsException", Cond.methodLink RX2 186 yX0_copy, Cond.instanceMethod yX0_copy, Cond.selects RX0 yX0_copy yX0_copy]
def wsL_foresee_r2 : List Cond := [Cond.initialized RX0, Cond.code yX0_copy cX0_copy 3 none, Cond.fieldLink RX0 52 "LampHills$Night" "minute" "I", Cond.fieldLink RX0 56 "LampHills$Night" "number" "I", Cond.fieldLink RX0 59 "LampHills$Night" "oilUsed" "I", Cond.fieldLink RX0 9 "LampHills$Night" "burningIn" "[I", Cond.methodLink RX0 62 arraycopyName, Cond.native arraycopyName, Cond.static arraycopyName, Cond.initialized "java/lang/System", Cond.fieldLink RX0 15 "LampHills$Night" "oil" "[I", Cond.fieldLink RX0 18 "LampHills$Night" "soot" "[I", Cond.fieldLink RX0 21 "LampHills$Night" "burns" "[Z", Cond.fieldLink RX0 25 "LampHills$Night" "timesLit" "[I", Cond.fieldLink RX0 28 "LampHills$Night" "timesBlownOut" "[I", Cond.fieldLink RX0 31 "LampHills$Night" "at" "[I", Cond.fieldLink RX0 34 "LampHills$Night" "can" "[I", Cond.fieldLink RX0 37 "LampHills$Night" "goesTo" "[I", Cond.fieldLink RX0 40 "LampHills$Night" "goal" "[I", Cond.fieldLink RX0 43 "LampHills$Night" "minutesLeft" "[I", Cond.fieldLink RX0 46 "LampHills$Night" "latestPlace" "[I", Cond.fieldLink RX0 49 "LampHills$Night" "litBy" "[I", Cond.methodLink RX2 177 yX0_goBy, Cond.instanceMethod yX0_goBy]
def wsL_foresee_r3 : List Cond := [Cond.selects RX0 yX0_goBy yX0_goBy, Cond.code yX0_goBy cX0_goBy 5 (some .int), Cond.fieldLink RX0 76 "LampHills$Town" "wind" "[I", Cond.methodLink RX0 68 yX0_moveLighters, Cond.instanceMethod yX0_moveLighters, Cond.selects RX0 yX0_moveLighters yX0_moveLighters, Cond.code yX0_moveLighters cX0_moveLighters 4 (some .int), Cond.fieldLink RX0 91 "LampHills$Town" "lighters" "I", Cond.methodLink RX0 111 yX0_lookForLamp, Cond.instanceMethod yX0_lookForLamp, Cond.selects RX0 yX0_lookForLamp yX0_lookForLamp, Cond.code yX0_lookForLamp cX0_lookForLamp 5 none, Cond.fieldLink RX0 122 "LampHills$Town" "rounds" "[[I", Cond.fieldLink RX0 130 "LampHills$Town" "ways" "[[I", Cond.methodLink RX0 118 yX0_placeOfNextLamp, Cond.instanceMethod yX0_placeOfNextLamp, Cond.selects RX0 yX0_placeOfNextLamp yX0_placeOfNextLamp, Cond.code yX0_placeOfNextLamp cX0_placeOfNextLamp 7 (some .int), Cond.fieldLink RX0 133 "LampHills$Town" "roundSize" "[I", Cond.methodLink RX0 136 yX0_whoGoesTo, Cond.instanceMethod yX0_whoGoesTo, Cond.selects RX0 yX0_whoGoesTo yX0_whoGoesTo, Cond.code yX0_whoGoesTo cX0_whoGoesTo 4 (some .int), Cond.methodLink RX0 139 yX1_canReach]
def wsL_foresee_r4 : List Cond := [Cond.instanceMethod yX1_canReach, Cond.selects RX1 yX1_canReach yX1_canReach, Cond.initialized RX1, Cond.code yX1_canReach cX1_canReach 4 (some .boolean), Cond.fieldLink RX1 32 "LampHills$Town" "lampHeight" "[I", Cond.fieldLink RX1 44 "LampHills$Town" "ladder" "[I", Cond.fieldLink RX1 17 "LampHills$Town" "ways" "[[I", Cond.constant RX1 57 (1000000), Cond.methodLink RX1 84 yX1_nearerEnd, Cond.instanceMethod yX1_nearerEnd, Cond.selects RX1 yX1_nearerEnd yX1_nearerEnd, Cond.code yX1_nearerEnd cX1_nearerEnd 6 (some .int), Cond.fieldLink RX1 29 "LampHills$Town" "lampStreet" "[I", Cond.fieldLink RX1 20 "LampHills$Town" "firstEnd" "[I", Cond.fieldLink RX1 23 "LampHills$Town" "secondEnd" "[I", Cond.methodLink RX0 126 yX1_nearerEnd, Cond.methodLink RX0 114 yX0_tendLamp, Cond.instanceMethod yX0_tendLamp, Cond.selects RX0 yX0_tendLamp yX0_tendLamp, Cond.code yX0_tendLamp cX0_tendLamp 5 (some .boolean), Cond.methodLink RX0 143 Lib.Math.min.name, Cond.static Lib.Math.min.name, Cond.initialized "java/lang/Math", Cond.code Lib.Math.min.name Lib.Math.min.code 2 (some .int)]
def wsL_foresee_r5 : List Cond := [Cond.fieldLink RX0 148 "LampHills$Town" "lampStreet" "[I", Cond.methodLink RX0 100 yX0_waitFromNow, Cond.instanceMethod yX0_waitFromNow, Cond.selects RX0 yX0_waitFromNow yX0_waitFromNow, Cond.code yX0_waitFromNow cX0_waitFromNow 2 none, Cond.methodLink RX0 72 yX0_burnLamps, Cond.instanceMethod yX0_burnLamps, Cond.selects RX0 yX0_burnLamps yX0_burnLamps, Cond.code yX0_burnLamps cX0_burnLamps 3 none, Cond.fieldLink RX0 85 "LampHills$Town" "lamps" "I", Cond.methodLink RX0 151 yX0_useOil, Cond.instanceMethod yX0_useOil, Cond.selects RX0 yX0_useOil yX0_useOil, Cond.code yX0_useOil cX0_useOil 4 none, Cond.methodLink RX0 88 yX0_putOut, Cond.instanceMethod yX0_putOut, Cond.selects RX0 yX0_putOut yX0_putOut, Cond.code yX0_putOut cX0_putOut 3 none, Cond.methodLink RX0 81 yX0_blow, Cond.instanceMethod yX0_blow, Cond.selects RX0 yX0_blow yX0_blow, Cond.code yX0_blow cX0_blow 4 none, Cond.fieldLink RX0 157 "LampHills$Town" "lid" "[I", Cond.methodLink RX0 154 yX1_windAtLamp]
def wsL_foresee_r6 : List Cond := [Cond.instanceMethod yX1_windAtLamp, Cond.selects RX1 yX1_windAtLamp yX1_windAtLamp, Cond.code yX1_windAtLamp cX1_windAtLamp 4 (some .int), Cond.fieldLink RX1 9 "LampHills$Town" "height" "[I", Cond.methodLink RX1 75 Lib.Math.max.name, Cond.static Lib.Math.max.name, Cond.code Lib.Math.max.name Lib.Math.max.code 2 (some .int), Cond.methodLink RX2 164 yX0_burningLamps, Cond.instanceMethod yX0_burningLamps, Cond.selects RX0 yX0_burningLamps yX0_burningLamps, Cond.code yX0_burningLamps cX0_burningLamps 4 (some .int), Cond.fieldLink RX0 104 "LampHills$Town" "streets" "I", Cond.methodLink RX2 168 yX0_darkStreets, Cond.instanceMethod yX0_darkStreets, Cond.selects RX0 yX0_darkStreets yX0_darkStreets, Cond.code yX0_darkStreets cX0_darkStreets 4 (some .int), Cond.methodLink RX0 107 yX0_isDark, Cond.instanceMethod yX0_isDark, Cond.selects RX0 yX0_isDark yX0_isDark, Cond.code yX0_isDark cX0_isDark 2 (some .boolean)]
def wsL_foresee : List Cond := .codeWith yL_foresee cL_foresee 5 (some .int) [(0, 10, 13, 13), (0, 10, 17, 21)] :: ((wsL_foresee_r1 ++ (wsL_foresee_r2 ++ (wsL_foresee_r3 ++ (wsL_foresee_r4 ++ (wsL_foresee_r5 ++ wsL_foresee_r6))))) ++ wsX20 ++ wsX00 ++ wsX10 ++ (vx_atS RX2 53 "java/lang/IllegalArgumentException" ["java/lang/RuntimeException", "java/lang/Exception"]).filter goodWord ++ (vx_atS RX2 227 "java/lang/IndexOutOfBoundsException" ["java/lang/RuntimeException", "java/lang/Exception"]).filter goodWord)
def wsL_law0_r1 : List Cond := [Cond.classLink RL 8 RX2, Cond.instantiable RX2 4, Cond.initialized RX2, Cond.classLink RL 74 RX3, Cond.instantiable RX3 13, Cond.initialized RX3, Cond.arrayClass .long, Cond.methodLink RL 73 yX2_init, Cond.instanceMethod yX2_init, Cond.code yX2_init cX2_init 1 none, Cond.methodLink RX2 3 objectInit, Cond.instanceMethod objectInit, Cond.code objectInit ⟨#[0xb1]⟩ 1 none, Cond.classLink RX2 9 RX1, Cond.instantiable RX1 17, Cond.initialized RX1, Cond.fieldLink RX2 12 "LampHills" "town" "LLampHills$Town;", Cond.classLink RX2 16 RX0, Cond.instantiable RX0 16, Cond.initialized RX0, Cond.fieldLink RX2 19 "LampHills" "night" "LLampHills$Night;", Cond.fieldLink RX2 23 "LampHills" "forecast" "LLampHills$Night;", Cond.arrayClass .int, Cond.fieldLink RX2 26 "LampHills" "darkMinutes" "[I"]
def wsL_law0_r2 : List Cond := [Cond.instanceMethod yX1_init, Cond.code yX1_init cX1_init 1 none, Cond.methodLink RX1 3 objectInit, Cond.fieldLink RX1 9 "LampHills$Town" "height" "[I", Cond.classLink RX1 15 "[[I", Cond.fieldLink RX1 17 "LampHills$Town" "ways" "[[I", Cond.fieldLink RX1 20 "LampHills$Town" "firstEnd" "[I", Cond.fieldLink RX1 23 "LampHills$Town" "secondEnd" "[I", Cond.fieldLink RX1 26 "LampHills$Town" "length" "[I", Cond.fieldLink RX1 29 "LampHills$Town" "lampStreet" "[I", Cond.fieldLink RX1 32 "LampHills$Town" "lampHeight" "[I", Cond.fieldLink RX1 35 "LampHills$Town" "lid" "[I", Cond.fieldLink RX1 38 "LampHills$Town" "wind" "[I", Cond.fieldLink RX1 41 "LampHills$Town" "home" "[I", Cond.fieldLink RX1 44 "LampHills$Town" "ladder" "[I", Cond.fieldLink RX1 47 "LampHills$Town" "roundSize" "[I", Cond.fieldLink RX1 50 "LampHills$Town" "rounds" "[[I", Cond.instanceMethod yX0_init, Cond.code yX0_init cX0_init 1 none, Cond.methodLink RX0 3 objectInit, Cond.fieldLink RX0 9 "LampHills$Night" "burningIn" "[I", Cond.fieldLink RX0 15 "LampHills$Night" "oil" "[I", Cond.fieldLink RX0 18 "LampHills$Night" "soot" "[I", Cond.arrayClass .boolean]
def wsL_law0_r3 : List Cond := [Cond.fieldLink RX0 21 "LampHills$Night" "burns" "[Z", Cond.fieldLink RX0 25 "LampHills$Night" "timesLit" "[I", Cond.fieldLink RX0 28 "LampHills$Night" "timesBlownOut" "[I", Cond.fieldLink RX0 31 "LampHills$Night" "at" "[I", Cond.fieldLink RX0 34 "LampHills$Night" "can" "[I", Cond.fieldLink RX0 37 "LampHills$Night" "goesTo" "[I", Cond.fieldLink RX0 40 "LampHills$Night" "goal" "[I", Cond.fieldLink RX0 43 "LampHills$Night" "minutesLeft" "[I", Cond.fieldLink RX0 46 "LampHills$Night" "latestPlace" "[I", Cond.fieldLink RX0 49 "LampHills$Night" "litBy" "[I", Cond.methodLink RL 76 yX3_init, Cond.instanceMethod yX3_init, Cond.code yX3_init cX3_init 1 none, Cond.methodLink RX3 1 objectInit, Cond.fieldLink RX3 9 "LampHillsModel" "heights" "[I", Cond.fieldLink RX3 13 "LampHillsModel" "roads" "[I", Cond.fieldLink RX3 16 "LampHillsModel" "ways" "[I", Cond.fieldLink RX3 19 "LampHillsModel" "lights" "[I", Cond.fieldLink RX3 22 "LampHillsModel" "people" "[I", Cond.fieldLink RX3 25 "LampHillsModel" "rounds" "[I", Cond.fieldLink RX3 28 "LampHillsModel" "winds" "[I", Cond.fieldLink RX3 31 "LampHillsModel" "numbers" "[I", Cond.methodLink RL 77 yL_corner, Cond.static yL_corner]
def wsL_law0_r4 : List Cond := [Cond.initialized RL, Cond.codeWith yL_corner cL_corner 4 (some .int) [(0, 9, 12, 13), (0, 9, 15, 15)], Cond.classLink RL 13 "java/lang/IllegalArgumentException", Cond.classLink RL 15 "java/lang/IllegalStateException", Cond.methodLink RL 7 yX2_corner, Cond.instanceMethod yX2_corner, Cond.selects RX2 yX2_corner yX2_corner, Cond.code yX2_corner cX2_corner 2 (some .int), Cond.fieldLink RX2 34 "LampHills$Town" "corners" "I", Cond.methodLink RX2 30 yX2_requireRange, Cond.static yX2_requireRange, Cond.code yX2_requireRange cX2_requireRange 3 none, Cond.classLink RX2 49 "java/lang/IllegalArgumentException", Cond.initialized "java/lang/IllegalArgumentException", Cond.methodLink RX2 38 yX2_requireRoom, Cond.static yX2_requireRoom, Cond.code yX2_requireRoom cX2_requireRoom 2 none, Cond.classLink RX2 93 "java/lang/IllegalStateException", Cond.initialized "java/lang/IllegalStateException", Cond.methodLink RX2 42 yX1_addCorner, Cond.instanceMethod yX1_addCorner, Cond.selects RX1 yX1_addCorner yX1_addCorner, Cond.code yX1_addCorner cX1_addCorner 4 (some .int), Cond.fieldLink RX1 53 "LampHills$Town" "corners" "I"]
def wsL_law0_r5 : List Cond := [Cond.constant RX1 57 (1000000), Cond.methodLink RL 82 yX3_corner, Cond.instanceMethod yX3_corner, Cond.selects RX3 yX3_corner yX3_corner, Cond.code yX3_corner cX3_corner 2 (some .int), Cond.fieldLink RX3 34 "LampHillsModel" "thrown" "I", Cond.fieldLink RX3 38 "LampHillsModel" "corners" "I", Cond.methodLink RX3 41 yX3_isIn, Cond.static yX3_isIn, Cond.code yX3_isIn cX3_isIn 3 (some .boolean), Cond.methodLink RX3 66 yX3_fail, Cond.instanceMethod yX3_fail, Cond.selects RX3 yX3_fail yX3_fail, Cond.code yX3_fail cX3_fail 2 (some .int), Cond.methodLink RX3 70 yX3_reckon, Cond.instanceMethod yX3_reckon, Cond.selects RX3 yX3_reckon yX3_reckon, Cond.code yX3_reckon cX3_reckon 6 none, Cond.fieldLink RX3 45 "LampHillsModel" "streets" "I", Cond.methodLink RX3 58 Lib.Math.max.name, Cond.static Lib.Math.max.name, Cond.initialized "java/lang/Math", Cond.code Lib.Math.max.name Lib.Math.max.code 2 (some .int), Cond.methodLink RX3 63 Lib.Math.min.name]
def wsL_law0_r6 : List Cond := [Cond.static Lib.Math.min.name, Cond.code Lib.Math.min.name Lib.Math.min.code 2 (some .int), Cond.methodLink RX3 54 yX3_ro, Cond.instanceMethod yX3_ro, Cond.selects RX3 yX3_ro yX3_ro, Cond.code yX3_ro cX3_ro 3 (some .int), Cond.methodLink RL 83 yX3_thrown, Cond.instanceMethod yX3_thrown, Cond.selects RX3 yX3_thrown yX3_thrown, Cond.code yX3_thrown cX3_thrown 1 (some .int), Cond.methodLink RL 86 yL_street, Cond.static yL_street, Cond.codeWith yL_street cL_street 6 (some .int) [(0, 12, 15, 21), (0, 12, 19, 13), (0, 12, 23, 15)], Cond.classLink RL 21 "java/lang/IndexOutOfBoundsException", Cond.methodLink RL 17 yX2_street, Cond.instanceMethod yX2_street, Cond.selects RX2 yX2_street yX2_street, Cond.code yX2_street cX2_street 4 (some .int), Cond.fieldLink RX2 56 "LampHills$Town" "streets" "I", Cond.methodLink RX2 46 yX2_requireIndex, Cond.static yX2_requireIndex, Cond.code yX2_requireIndex cX2_requireIndex 2 none, Cond.classLink RX2 223 "java/lang/IndexOutOfBoundsException", Cond.initialized "java/lang/IndexOutOfBoundsException"]
def wsL_law0_r7 : List Cond := [Cond.methodLink RX2 59 yX1_addStreet, Cond.instanceMethod yX1_addStreet, Cond.selects RX1 yX1_addStreet yX1_addStreet, Cond.code yX1_addStreet cX1_addStreet 5 (some .int), Cond.fieldLink RX1 58 "LampHills$Town" "streets" "I", Cond.methodLink RX1 61 yX1_minutesAlong, Cond.instanceMethod yX1_minutesAlong, Cond.selects RX1 yX1_minutesAlong yX1_minutesAlong, Cond.code yX1_minutesAlong cX1_minutesAlong 4 (some .int), Cond.methodLink RX1 75 Lib.Math.max.name, Cond.methodLink RX1 65 yX1_shortenWays, Cond.instanceMethod yX1_shortenWays, Cond.selects RX1 yX1_shortenWays yX1_shortenWays, Cond.code yX1_shortenWays cX1_shortenWays 7 none, Cond.methodLink RX1 81 Lib.Math.min.name, Cond.methodLink RL 89 yX3_street, Cond.instanceMethod yX3_street, Cond.selects RX3 yX3_street yX3_street, Cond.code yX3_street cX3_street 5 (some .int), Cond.methodLink RX3 77 arraycopyName, Cond.native arraycopyName, Cond.static arraycopyName, Cond.initialized "java/lang/System", Cond.methodLink RX3 73 yX3_isCorner]
def wsL_law0_r8 : List Cond := [Cond.instanceMethod yX3_isCorner, Cond.selects RX3 yX3_isCorner yX3_isCorner, Cond.code yX3_isCorner cX3_isCorner 2 (some .boolean), Cond.methodLink RL 90 yL_lamp, Cond.static yL_lamp, Cond.codeWith yL_lamp cL_lamp 5 (some .int) [(0, 10, 13, 21), (0, 10, 17, 13), (0, 10, 21, 15)], Cond.methodLink RL 23 yX2_lamp, Cond.instanceMethod yX2_lamp, Cond.selects RX2 yX2_lamp yX2_lamp, Cond.code yX2_lamp cX2_lamp 3 (some .int), Cond.fieldLink RX2 63 "LampHills$Town" "lamps" "I", Cond.methodLink RX2 66 yX1_addLamp, Cond.instanceMethod yX1_addLamp, Cond.selects RX1 yX1_addLamp yX1_addLamp, Cond.code yX1_addLamp cX1_addLamp 4 (some .int), Cond.fieldLink RX1 69 "LampHills$Town" "lamps" "I", Cond.methodLink RL 93 yX3_lamp, Cond.instanceMethod yX3_lamp, Cond.selects RX3 yX3_lamp yX3_lamp, Cond.code yX3_lamp cX3_lamp 4 (some .int), Cond.fieldLink RX3 48 "LampHillsModel" "lamps" "I", Cond.methodLink RX3 83 yX3_isStreet, Cond.instanceMethod yX3_isStreet, Cond.selects RX3 yX3_isStreet yX3_isStreet]
def wsL_law0_r9 : List Cond := [Cond.code yX3_isStreet cX3_isStreet 2 (some .boolean), Cond.methodLink RL 94 yL_lid, Cond.static yL_lid, Cond.codeWith yL_lid cL_lid 5 (some .int) [(0, 10, 13, 21), (0, 10, 17, 13)], Cond.methodLink RL 27 yX2_lid, Cond.instanceMethod yX2_lid, Cond.selects RX2 yX2_lid yX2_lid, Cond.code yX2_lid cX2_lid 4 (some .int), Cond.fieldLink RX2 70 "LampHills$Town" "lid" "[I", Cond.methodLink RL 96 yX3_lid, Cond.instanceMethod yX3_lid, Cond.selects RX3 yX3_lid yX3_lid, Cond.code yX3_lid cX3_lid 4 (some .int), Cond.methodLink RX3 86 yX3_isLamp, Cond.instanceMethod yX3_isLamp, Cond.selects RX3 yX3_isLamp yX3_isLamp, Cond.code yX3_isLamp cX3_isLamp 2 (some .boolean), Cond.methodLink RX3 89 yX3_la, Cond.instanceMethod yX3_la, Cond.selects RX3 yX3_la yX3_la, Cond.code yX3_la cX3_la 3 (some .int), Cond.methodLink RX3 92 yX3_setLamp, Cond.instanceMethod yX3_setLamp, Cond.selects RX3 yX3_setLamp yX3_setLamp]
def wsL_law0_r10 : List Cond := [Cond.code yX3_setLamp cX3_setLamp 4 none, Cond.methodLink RL 97 yL_setWind, Cond.static yL_setWind, Cond.codeWith yL_setWind cL_setWind 5 (some .int) [(0, 10, 13, 21), (0, 10, 17, 13)], Cond.methodLink RL 30 yX2_setWind, Cond.instanceMethod yX2_setWind, Cond.selects RX2 yX2_setWind yX2_setWind, Cond.code yX2_setWind cX2_setWind 4 (some .int), Cond.fieldLink RX2 73 "LampHills$Town" "wind" "[I", Cond.methodLink RL 99 yX3_setWind, Cond.instanceMethod yX3_setWind, Cond.selects RX3 yX3_setWind yX3_setWind, Cond.code yX3_setWind cX3_setWind 4 (some .int), Cond.methodLink RL 100 yL_hire, Cond.static yL_hire, Cond.codeWith yL_hire cL_hire 6 (some .int) [(0, 12, 15, 21), (0, 12, 19, 13), (0, 12, 23, 15)], Cond.methodLink RL 33 yX2_hire, Cond.instanceMethod yX2_hire, Cond.selects RX2 yX2_hire yX2_hire, Cond.code yX2_hire cX2_hire 5 (some .int), Cond.fieldLink RX2 76 "LampHills$Town" "lighters" "I", Cond.fieldLink RX2 82 "LampHills$Night" "can" "[I", Cond.methodLink RX2 79 yX1_addLighter, Cond.instanceMethod yX1_addLighter]
def wsL_law0_r11 : List Cond := [Cond.selects RX1 yX1_addLighter yX1_addLighter, Cond.code yX1_addLighter cX1_addLighter 4 (some .int), Cond.fieldLink RX1 72 "LampHills$Town" "lighters" "I", Cond.methodLink RX2 85 yX0_sendHome, Cond.instanceMethod yX0_sendHome, Cond.selects RX0 yX0_sendHome yX0_sendHome, Cond.code yX0_sendHome cX0_sendHome 3 none, Cond.fieldLink RX0 97 "LampHills$Town" "home" "[I", Cond.methodLink RX0 100 yX0_waitFromNow, Cond.instanceMethod yX0_waitFromNow, Cond.selects RX0 yX0_waitFromNow yX0_waitFromNow, Cond.code yX0_waitFromNow cX0_waitFromNow 2 none, Cond.methodLink RL 102 yX3_hire, Cond.instanceMethod yX3_hire, Cond.selects RX3 yX3_hire yX3_hire, Cond.code yX3_hire cX3_hire 5 (some .int), Cond.fieldLink RX3 51 "LampHillsModel" "lighters" "I", Cond.methodLink RL 103 yL_round, Cond.static yL_round, Cond.codeWith yL_round cL_round 5 (some .int) [(0, 10, 13, 21), (0, 10, 17, 15)], Cond.methodLink RL 36 yX2_round, Cond.instanceMethod yX2_round, Cond.selects RX2 yX2_round yX2_round, Cond.code yX2_round cX2_round 3 (some .int)]
def wsL_law0_r12 : List Cond := [Cond.fieldLink RX2 98 "LampHills$Town" "roundSize" "[I", Cond.methodLink RX2 89 yX1_isInRound, Cond.instanceMethod yX1_isInRound, Cond.selects RX1 yX1_isInRound yX1_isInRound, Cond.code yX1_isInRound cX1_isInRound 4 (some .boolean), Cond.methodLink RX2 101 yX1_addToRound, Cond.instanceMethod yX1_addToRound, Cond.selects RX1 yX1_addToRound yX1_addToRound, Cond.code yX1_addToRound cX1_addToRound 3 (some .int), Cond.methodLink RL 105 yX3_round, Cond.instanceMethod yX3_round, Cond.selects RX3 yX3_round yX3_round, Cond.code yX3_round cX3_round 6 (some .int), Cond.methodLink RX3 96 yX3_isLighter, Cond.instanceMethod yX3_isLighter, Cond.selects RX3 yX3_isLighter yX3_isLighter, Cond.code yX3_isLighter cX3_isLighter 2 (some .boolean), Cond.methodLink RX3 99 yX3_pe, Cond.instanceMethod yX3_pe, Cond.selects RX3 yX3_pe yX3_pe, Cond.code yX3_pe cX3_pe 3 (some .int), Cond.methodLink RX3 102 yX3_put, Cond.instanceMethod yX3_put, Cond.selects RX3 yX3_put yX3_put]
def wsL_law0_r13 : List Cond := [Cond.code yX3_put cX3_put 4 none, Cond.methodLink RL 106 yL_fill, Cond.static yL_fill, Cond.codeWith yL_fill cL_fill 5 (some .int) [(0, 10, 13, 21), (0, 10, 17, 13)], Cond.methodLink RL 39 yX2_fill, Cond.instanceMethod yX2_fill, Cond.selects RX2 yX2_fill yX2_fill, Cond.code yX2_fill cX2_fill 3 (some .int), Cond.methodLink RX2 104 Lib.Math.min.name, Cond.methodLink RL 108 yX3_fill, Cond.instanceMethod yX3_fill, Cond.selects RX3 yX3_fill yX3_fill, Cond.code yX3_fill cX3_fill 3 (some .int), Cond.methodLink RL 109 yL_way, Cond.static yL_way, Cond.codeWith yL_way cL_way 5 (some .int) [(0, 10, 13, 21)], Cond.methodLink RL 42 yX2_way, Cond.instanceMethod yX2_way, Cond.selects RX2 yX2_way yX2_way, Cond.code yX2_way cX2_way 4 (some .int), Cond.fieldLink RX2 109 "LampHills$Town" "ways" "[[I", Cond.constant RX2 113 (1000000), Cond.methodLink RL 111 yX3_way, Cond.instanceMethod yX3_way]
def wsL_law0_r14 : List Cond := [Cond.selects RX3 yX3_way yX3_way, Cond.code yX3_way cX3_way 3 (some .int), Cond.methodLink RX3 105 yX3_away, Cond.instanceMethod yX3_away, Cond.selects RX3 yX3_away yX3_away, Cond.code yX3_away cX3_away 3 (some .int), Cond.methodLink RL 112 yL_told, Cond.static yL_told, Cond.codeWith yL_told cL_told 5 (some .int) [(0, 10, 13, 21)], Cond.methodLink RL 45 yX2_told, Cond.instanceMethod yX2_told, Cond.selects RX2 yX2_told yX2_told, Cond.code yX2_told cX2_told 3 (some .int), Cond.fieldLink RX2 114 "LampHills$Town" "lampStreet" "[I", Cond.fieldLink RX2 117 "LampHills$Town" "lampHeight" "[I", Cond.fieldLink RX2 120 "LampHills$Night" "oil" "[I", Cond.fieldLink RX2 123 "LampHills$Night" "soot" "[I", Cond.fieldLink RX2 126 "LampHills$Night" "burns" "[Z", Cond.fieldLink RX2 134 "LampHills$Night" "timesLit" "[I", Cond.fieldLink RX2 137 "LampHills$Night" "timesBlownOut" "[I", Cond.methodLink RX2 130 yX0_whoGoesTo, Cond.instanceMethod yX0_whoGoesTo, Cond.selects RX0 yX0_whoGoesTo yX0_whoGoesTo, Cond.code yX0_whoGoesTo cX0_whoGoesTo 4 (some .int)]
def wsL_law0_r15 : List Cond := [Cond.fieldLink RX0 91 "LampHills$Town" "lighters" "I", Cond.methodLink RL 114 yX3_told, Cond.instanceMethod yX3_told, Cond.selects RX3 yX3_told yX3_told, Cond.code yX3_told cX3_told 3 (some .int), Cond.methodLink RX3 111 yX3_lampTold, Cond.instanceMethod yX3_lampTold, Cond.selects RX3 yX3_lampTold yX3_lampTold, Cond.code yX3_lampTold cX3_lampTold 3 (some .int), Cond.methodLink RX3 108 yX3_goer, Cond.instanceMethod yX3_goer, Cond.selects RX3 yX3_goer yX3_goer, Cond.code yX3_goer cX3_goer 3 (some .int), Cond.methodLink RL 115 yL_lighter, Cond.static yL_lighter, Cond.codeWith yL_lighter cL_lighter 5 (some .int) [(0, 10, 13, 21)], Cond.methodLink RL 48 yX2_lighter, Cond.instanceMethod yX2_lighter, Cond.selects RX2 yX2_lighter yX2_lighter, Cond.code yX2_lighter cX2_lighter 3 (some .int), Cond.fieldLink RX2 140 "LampHills$Night" "at" "[I", Cond.fieldLink RX2 143 "LampHills$Town" "ladder" "[I", Cond.fieldLink RX2 146 "LampHills$Night" "goesTo" "[I", Cond.fieldLink RX2 149 "LampHills$Night" "minutesLeft" "[I"]
def wsL_law0_r16 : List Cond := [Cond.fieldLink RX2 152 "LampHills$Night" "litBy" "[I", Cond.methodLink RL 117 yX3_lighter, Cond.instanceMethod yX3_lighter, Cond.selects RX3 yX3_lighter yX3_lighter, Cond.code yX3_lighter cX3_lighter 3 (some .int), Cond.methodLink RX3 114 yX3_lighterTold, Cond.instanceMethod yX3_lighterTold, Cond.selects RX3 yX3_lighterTold yX3_lighterTold, Cond.code yX3_lighterTold cX3_lighterTold 4 (some .int), Cond.methodLink RL 118 yL_burning, Cond.static yL_burning, Cond.codeWith yL_burning cL_burning 4 (some .int) [(0, 9, 12, 21)], Cond.methodLink RL 51 yX2_burning, Cond.instanceMethod yX2_burning, Cond.selects RX2 yX2_burning yX2_burning, Cond.code yX2_burning cX2_burning 2 (some .int), Cond.fieldLink RX2 155 "LampHills$Night" "burningIn" "[I", Cond.methodLink RL 120 yX3_burning, Cond.instanceMethod yX3_burning, Cond.selects RX3 yX3_burning yX3_burning, Cond.code yX3_burning cX3_burning 2 (some .int), Cond.methodLink RX3 117 yX3_burns, Cond.instanceMethod yX3_burns, Cond.selects RX3 yX3_burns yX3_burns]
def wsL_law0_r17 : List Cond := [Cond.code yX3_burns cX3_burns 4 (some .int), Cond.methodLink RL 121 yL_count, Cond.static yL_count, Cond.codeWith yL_count cL_count 4 (some .int) [(0, 9, 12, 21)], Cond.methodLink RL 54 yX2_count, Cond.instanceMethod yX2_count, Cond.selects RX2 yX2_count yX2_count, Cond.code yX2_count cX2_count 2 (some .int), Cond.fieldLink RX2 158 "LampHills$Night" "minute" "I", Cond.fieldLink RX2 161 "LampHills$Night" "number" "I", Cond.fieldLink RX2 174 "LampHills$Night" "oilUsed" "I", Cond.methodLink RX2 164 yX0_burningLamps, Cond.instanceMethod yX0_burningLamps, Cond.selects RX0 yX0_burningLamps yX0_burningLamps, Cond.code yX0_burningLamps cX0_burningLamps 4 (some .int), Cond.fieldLink RX0 104 "LampHills$Town" "streets" "I", Cond.methodLink RX2 168 yX0_darkStreets, Cond.instanceMethod yX0_darkStreets, Cond.selects RX0 yX0_darkStreets yX0_darkStreets, Cond.code yX0_darkStreets cX0_darkStreets 4 (some .int), Cond.methodLink RX0 107 yX0_isDark, Cond.instanceMethod yX0_isDark, Cond.selects RX0 yX0_isDark yX0_isDark, Cond.code yX0_isDark cX0_isDark 2 (some .boolean)]
def wsL_law0_r18 : List Cond := [Cond.methodLink RX2 171 yX0_oilOfLamps, Cond.instanceMethod yX0_oilOfLamps, Cond.selects RX0 yX0_oilOfLamps yX0_oilOfLamps, Cond.code yX0_oilOfLamps cX0_oilOfLamps 4 (some .int), Cond.fieldLink RX0 85 "LampHills$Town" "lamps" "I", Cond.methodLink RL 123 yX3_count, Cond.instanceMethod yX3_count, Cond.selects RX3 yX3_count yX3_count, Cond.code yX3_count cX3_count 2 (some .int), Cond.methodLink RX3 127 yX3_counted, Cond.instanceMethod yX3_counted, Cond.selects RX3 yX3_counted yX3_counted, Cond.code yX3_counted cX3_counted 3 (some .int), Cond.methodLink RX3 120 yX3_all, Cond.instanceMethod yX3_all, Cond.selects RX3 yX3_all yX3_all, Cond.code yX3_all cX3_all 4 (some .int), Cond.methodLink RX3 123 yX3_dark, Cond.instanceMethod yX3_dark, Cond.selects RX3 yX3_dark yX3_dark, Cond.code yX3_dark cX3_dark 3 (some .int), Cond.methodLink RL 124 yL_pass, Cond.static yL_pass, Cond.codeWith yL_pass cL_pass 4 (some .int) [(0, 9, 12, 13)]]
def wsL_law0_r19 : List Cond := [Cond.methodLink RL 57 yX2_pass, Cond.instanceMethod yX2_pass, Cond.selects RX2 yX2_pass yX2_pass, Cond.code yX2_pass cX2_pass 2 (some .int), Cond.methodLink RX2 177 yX0_goBy, Cond.instanceMethod yX0_goBy, Cond.selects RX0 yX0_goBy yX0_goBy, Cond.code yX0_goBy cX0_goBy 5 (some .int), Cond.fieldLink RX0 52 "LampHills$Night" "minute" "I", Cond.fieldLink RX0 76 "LampHills$Town" "wind" "[I", Cond.methodLink RX0 68 yX0_moveLighters, Cond.instanceMethod yX0_moveLighters, Cond.selects RX0 yX0_moveLighters yX0_moveLighters, Cond.code yX0_moveLighters cX0_moveLighters 4 (some .int), Cond.methodLink RX0 111 yX0_lookForLamp, Cond.instanceMethod yX0_lookForLamp, Cond.selects RX0 yX0_lookForLamp yX0_lookForLamp, Cond.code yX0_lookForLamp cX0_lookForLamp 5 none, Cond.fieldLink RX0 122 "LampHills$Town" "rounds" "[[I", Cond.fieldLink RX0 130 "LampHills$Town" "ways" "[[I", Cond.methodLink RX0 118 yX0_placeOfNextLamp, Cond.instanceMethod yX0_placeOfNextLamp, Cond.selects RX0 yX0_placeOfNextLamp yX0_placeOfNextLamp, Cond.code yX0_placeOfNextLamp cX0_placeOfNextLamp 7 (some .int)]
def wsL_law0_r20 : List Cond := [Cond.fieldLink RX0 133 "LampHills$Town" "roundSize" "[I", Cond.methodLink RX0 136 yX0_whoGoesTo, Cond.methodLink RX0 139 yX1_canReach, Cond.instanceMethod yX1_canReach, Cond.selects RX1 yX1_canReach yX1_canReach, Cond.code yX1_canReach cX1_canReach 4 (some .boolean), Cond.methodLink RX1 84 yX1_nearerEnd, Cond.instanceMethod yX1_nearerEnd, Cond.selects RX1 yX1_nearerEnd yX1_nearerEnd, Cond.code yX1_nearerEnd cX1_nearerEnd 6 (some .int), Cond.methodLink RX0 126 yX1_nearerEnd, Cond.methodLink RX0 114 yX0_tendLamp, Cond.instanceMethod yX0_tendLamp, Cond.selects RX0 yX0_tendLamp yX0_tendLamp, Cond.code yX0_tendLamp cX0_tendLamp 5 (some .boolean), Cond.methodLink RX0 143 Lib.Math.min.name, Cond.fieldLink RX0 148 "LampHills$Town" "lampStreet" "[I", Cond.methodLink RX0 72 yX0_burnLamps, Cond.instanceMethod yX0_burnLamps, Cond.selects RX0 yX0_burnLamps yX0_burnLamps, Cond.code yX0_burnLamps cX0_burnLamps 3 none, Cond.methodLink RX0 151 yX0_useOil, Cond.instanceMethod yX0_useOil, Cond.selects RX0 yX0_useOil yX0_useOil]
def wsL_law0_r21 : List Cond := [Cond.code yX0_useOil cX0_useOil 4 none, Cond.fieldLink RX0 59 "LampHills$Night" "oilUsed" "I", Cond.methodLink RX0 88 yX0_putOut, Cond.instanceMethod yX0_putOut, Cond.selects RX0 yX0_putOut yX0_putOut, Cond.code yX0_putOut cX0_putOut 3 none, Cond.methodLink RX0 81 yX0_blow, Cond.instanceMethod yX0_blow, Cond.selects RX0 yX0_blow yX0_blow, Cond.code yX0_blow cX0_blow 4 none, Cond.fieldLink RX0 157 "LampHills$Town" "lid" "[I", Cond.methodLink RX0 154 yX1_windAtLamp, Cond.instanceMethod yX1_windAtLamp, Cond.selects RX1 yX1_windAtLamp yX1_windAtLamp, Cond.code yX1_windAtLamp cX1_windAtLamp 4 (some .int), Cond.methodLink RL 126 yX3_pass, Cond.instanceMethod yX3_pass, Cond.selects RX3 yX3_pass yX3_pass, Cond.code yX3_pass cX3_pass 3 (some .int), Cond.methodLink RX3 153 yX3_minutesOn, Cond.instanceMethod yX3_minutesOn, Cond.selects RX3 yX3_minutesOn yX3_minutesOn, Cond.code yX3_minutesOn cX3_minutesOn 3 none, Cond.methodLink RX3 146 yX3_isOver]
def wsL_law0_r22 : List Cond := [Cond.instanceMethod yX3_isOver, Cond.selects RX3 yX3_isOver yX3_isOver, Cond.code yX3_isOver cX3_isOver 1 (some .boolean), Cond.methodLink RX3 150 yX3_minuteOn, Cond.instanceMethod yX3_minuteOn, Cond.selects RX3 yX3_minuteOn yX3_minuteOn, Cond.code yX3_minuteOn cX3_minuteOn 4 (some .int), Cond.methodLink RX3 140 yX3_goOn, Cond.instanceMethod yX3_goOn, Cond.selects RX3 yX3_goOn yX3_goOn, Cond.code yX3_goOn cX3_goOn 4 (some .int), Cond.methodLink RX3 133 yX3_look, Cond.instanceMethod yX3_look, Cond.selects RX3 yX3_look yX3_look, Cond.code yX3_look cX3_look 6 none, Cond.methodLink RX3 130 yX3_corner_, Cond.instanceMethod yX3_corner_, Cond.selects RX3 yX3_corner_ yX3_corner_, Cond.code yX3_corner_ cX3_corner_ 6 (some .int), Cond.methodLink RX3 143 yX3_burn, Cond.instanceMethod yX3_burn, Cond.selects RX3 yX3_burn yX3_burn, Cond.code yX3_burn cX3_burn 3 none, Cond.methodLink RX3 137 yX3_gust]
def wsL_law0_r23 : List Cond := [Cond.instanceMethod yX3_gust, Cond.selects RX3 yX3_gust yX3_gust, Cond.code yX3_gust cX3_gust 3 (some .int), Cond.methodLink RL 127 yL_dawn, Cond.static yL_dawn, Cond.codeWith yL_dawn cL_dawn 3 (some .int) [(0, 8, 11, 15)], Cond.methodLink RL 60 yX2_dawn, Cond.instanceMethod yX2_dawn, Cond.selects RX2 yX2_dawn yX2_dawn, Cond.code yX2_dawn cX2_dawn 2 (some .int), Cond.methodLink RX2 182 yX0_beginNext, Cond.instanceMethod yX0_beginNext, Cond.selects RX0 yX0_beginNext yX0_beginNext, Cond.code yX0_beginNext cX0_beginNext 3 none, Cond.fieldLink RX0 56 "LampHills$Night" "number" "I", Cond.methodLink RX0 94 yX0_sendHome, Cond.methodLink RL 130 yX3_dawn, Cond.instanceMethod yX3_dawn, Cond.selects RX3 yX3_dawn yX3_dawn, Cond.code yX3_dawn cX3_dawn 3 (some .int), Cond.methodLink RL 131 yL_comes, Cond.static yL_comes, Cond.codeWith yL_comes cL_comes 4 (some .int) [(0, 9, 12, 21)], Cond.methodLink RL 64 yX2_comes]
def wsL_law0_r24 : List Cond := [Cond.instanceMethod yX2_comes, Cond.selects RX2 yX2_comes yX2_comes, Cond.code yX2_comes cX2_comes 4 (some .int), Cond.methodLink RX2 186 yX0_copy, Cond.instanceMethod yX0_copy, Cond.selects RX0 yX0_copy yX0_copy, Cond.code yX0_copy cX0_copy 3 none, Cond.methodLink RX0 62 arraycopyName, Cond.methodLink RL 133 yX3_comes, Cond.instanceMethod yX3_comes, Cond.selects RX3 yX3_comes yX3_comes, Cond.code yX3_comes cX3_comes 5 (some .int), Cond.methodLink RX3 161 yX3_kept, Cond.instanceMethod yX3_kept, Cond.selects RX3 yX3_kept yX3_kept, Cond.code yX3_kept cX3_kept 1 (some (.array (.array .int))), Cond.classLink RX3 156 "[I", Cond.methodLink RX3 157 ⟨"[I", "clone", "()Ljava/lang/Object;"⟩, Cond.sameMethod "[I" "java/lang/Object" "clone" "()Ljava/lang/Object;", Cond.native ⟨"java/lang/Object", "clone", "()Ljava/lang/Object;"⟩, Cond.instanceMethod ⟨"java/lang/Object", "clone", "()Ljava/lang/Object;"⟩, Cond.selects "[I" ⟨"[I", "clone", "()Ljava/lang/Object;"⟩ ⟨"java/lang/Object", "clone", "()Ljava/lang/Object;"⟩, Cond.methodLink RX3 165 yX3_bringBack, Cond.instanceMethod yX3_bringBack]
def wsL_law0_r25 : List Cond := [Cond.selects RX3 yX3_bringBack yX3_bringBack, Cond.code yX3_bringBack cX3_bringBack 2 none, Cond.methodLink RL 134 yX2_darkest, Cond.instanceMethod yX2_darkest, Cond.selects RX2 yX2_darkest yX2_darkest, Cond.code yX2_darkest cX2_darkest 3 (some .int), Cond.methodLink RX2 190 yX2_clearDarkMinutes, Cond.instanceMethod yX2_clearDarkMinutes, Cond.selects RX2 yX2_clearDarkMinutes yX2_clearDarkMinutes, Cond.code yX2_clearDarkMinutes cX2_clearDarkMinutes 2 none, Cond.methodLink RX2 193 yX2_addDarkMinute, Cond.instanceMethod yX2_addDarkMinute, Cond.selects RX2 yX2_addDarkMinute yX2_addDarkMinute, Cond.code yX2_addDarkMinute cX2_addDarkMinute 2 none, Cond.methodLink RX2 232 yX0_isDark, Cond.methodLink RX2 196 yX2_streetOfMostDarkMinutes, Cond.instanceMethod yX2_streetOfMostDarkMinutes, Cond.selects RX2 yX2_streetOfMostDarkMinutes yX2_streetOfMostDarkMinutes, Cond.code yX2_streetOfMostDarkMinutes cX2_streetOfMostDarkMinutes 4 (some .int), Cond.methodLink RL 137 yX3_darkest, Cond.instanceMethod yX3_darkest, Cond.selects RX3 yX3_darkest yX3_darkest, Cond.code yX3_darkest cX3_darkest 5 (some .int), Cond.methodLink RL 138 yL_needs]
def wsL_law0_r26 : List Cond := [Cond.static yL_needs, Cond.codeWith yL_needs cL_needs 4 (some .int) [(0, 9, 12, 21)], Cond.methodLink RL 67 yX2_needs, Cond.instanceMethod yX2_needs, Cond.selects RX2 yX2_needs yX2_needs, Cond.code yX2_needs cX2_needs 4 (some .int), Cond.methodLink RX2 200 Lib.Math.max.name, Cond.methodLink RX2 203 yX1_windAtLamp, Cond.methodLink RL 140 yX3_needs, Cond.instanceMethod yX3_needs, Cond.selects RX3 yX3_needs yX3_needs, Cond.code yX3_needs cX3_needs 7 (some .int), Cond.methodLink RL 141 yL_foresee, Cond.static yL_foresee, Cond.codeWith yL_foresee cL_foresee 5 (some .int) [(0, 10, 13, 13), (0, 10, 17, 21)], Cond.methodLink RL 70 yX2_foresee, Cond.instanceMethod yX2_foresee, Cond.selects RX2 yX2_foresee yX2_foresee, Cond.code yX2_foresee cX2_foresee 3 (some .int), Cond.methodLink RL 143 yX3_foresee, Cond.instanceMethod yX3_foresee, Cond.selects RX3 yX3_foresee yX3_foresee, Cond.code yX3_foresee cX3_foresee 6 (some .int), Cond.methodLink RL 144 yX2_mean]
def wsL_law0_r27 : List Cond := [Cond.instanceMethod yX2_mean, Cond.selects RX2 yX2_mean yX2_mean, Cond.code yX2_mean cX2_mean 1 (some .double), Cond.methodLink RL 148 yX3_mean, Cond.instanceMethod yX3_mean, Cond.selects RX3 yX3_mean yX3_mean, Cond.code yX3_mean cX3_mean 1 (some .double), Cond.methodLink RL 149 yX2_digest, Cond.instanceMethod yX2_digest, Cond.selects RX2 yX2_digest yX2_digest, Cond.code yX2_digest cX2_digest 4 (some .long), Cond.constantLong RX2 206 (941), Cond.constantLong RX2 208 (31), Cond.methodLink RX2 210 yX2_count, Cond.methodLink RX2 213 yX2_digestStreets, Cond.instanceMethod yX2_digestStreets, Cond.selects RX2 yX2_digestStreets yX2_digestStreets, Cond.code yX2_digestStreets cX2_digestStreets 6 (some .long), Cond.fieldLink RX2 236 "LampHills$Town" "height" "[I", Cond.fieldLink RX2 239 "LampHills$Town" "firstEnd" "[I", Cond.fieldLink RX2 242 "LampHills$Town" "secondEnd" "[I", Cond.fieldLink RX2 245 "LampHills$Town" "length" "[I", Cond.methodLink RX2 248 yX2_burning, Cond.methodLink RX2 217 yX2_digestLamps]
def wsL_law0_r28 : List Cond := [Cond.instanceMethod yX2_digestLamps, Cond.selects RX2 yX2_digestLamps yX2_digestLamps, Cond.code yX2_digestLamps cX2_digestLamps 7 (some .long), Cond.methodLink RX2 251 yX2_told, Cond.methodLink RX2 220 yX2_digestLighters, Cond.instanceMethod yX2_digestLighters, Cond.selects RX2 yX2_digestLighters yX2_digestLighters, Cond.code yX2_digestLighters cX2_digestLighters 7 (some .long), Cond.fieldLink RX2 257 "LampHills$Town" "rounds" "[[I", Cond.methodLink RX2 254 yX2_lighter, Cond.methodLink RL 153 yX3_digest, Cond.instanceMethod yX3_digest, Cond.selects RX3 yX3_digest yX3_digest, Cond.code yX3_digest cX3_digest 7 (some .long), Cond.constantLong RX3 169 (941), Cond.constantLong RX3 171 (31)]
def wsL_law0 : List Cond := (wsL_law0_r1 ++ (wsL_law0_r2 ++ (wsL_law0_r3 ++ (wsL_law0_r4 ++ (wsL_law0_r5 ++ (wsL_law0_r6 ++ (wsL_law0_r7 ++ (wsL_law0_r8 ++ (wsL_law0_r9 ++ (wsL_law0_r10 ++ (wsL_law0_r11 ++ (wsL_law0_r12 ++ (wsL_law0_r13 ++ (wsL_law0_r14 ++ (wsL_law0_r15 ++ (wsL_law0_r16 ++ (wsL_law0_r17 ++ (wsL_law0_r18 ++ (wsL_law0_r19 ++ (wsL_law0_r20 ++ (wsL_law0_r21 ++ (wsL_law0_r22 ++ (wsL_law0_r23 ++ (wsL_law0_r24 ++ (wsL_law0_r25 ++ (wsL_law0_r26 ++ (wsL_law0_r27 ++ wsL_law0_r28))))))))))))))))))))))))))) ++ wsX20 ++ wsX30 ++ wsX10 ++ wsX00 ++ ([] : List Cond)
def wsL_law : List Cond := wsL_law0 ++ (vx_atS RX2 53 "java/lang/IllegalArgumentException" ["java/lang/RuntimeException", "java/lang/Exception"]).filter goodWord ++ (vx_atS RX2 97 "java/lang/IllegalStateException" ["java/lang/RuntimeException", "java/lang/Exception"]).filter goodWord ++ (vx_atS RX2 227 "java/lang/IndexOutOfBoundsException" ["java/lang/RuntimeException", "java/lang/Exception"]).filter goodWord
theorem wsL_law_x0 : ∀ w ∈ (vx_atS RX2 53 "java/lang/IllegalArgumentException" ["java/lang/RuntimeException", "java/lang/Exception"]).filter goodWord, w ∈ lw_tbl := by decide +kernel
theorem wsL_law_x1 : ∀ w ∈ (vx_atS RX2 97 "java/lang/IllegalStateException" ["java/lang/RuntimeException", "java/lang/Exception"]).filter goodWord, w ∈ lw_tbl := by decide +kernel
theorem wsL_law_x2 : ∀ w ∈ (vx_atS RX2 227 "java/lang/IndexOutOfBoundsException" ["java/lang/RuntimeException", "java/lang/Exception"]).filter goodWord, w ∈ lw_tbl := by decide +kernel
theorem dJ9_max_7cf53_0 : decode cJ9_max_7cf53 0 = .ok (.iload_n 0, 1) := by decide +kernel
theorem dJ9_max_7cf53_1 : decode cJ9_max_7cf53 1 = .ok (.iload_n 1, 1) := by decide +kernel
theorem dJ9_max_7cf53_2 : decode cJ9_max_7cf53 2 = .ok (.if_icmp .lt 7, 3) := by decide +kernel
theorem dJ9_max_7cf53_5 : decode cJ9_max_7cf53 5 = .ok (.iload_n 0, 1) := by decide +kernel
theorem dJ9_max_7cf53_6 : decode cJ9_max_7cf53 6 = .ok (.goto 4, 3) := by decide +kernel
theorem dJ9_max_7cf53_9 : decode cJ9_max_7cf53 9 = .ok (.iload_n 1, 1) := by decide +kernel
theorem dJ9_max_7cf53_10 : decode cJ9_max_7cf53 10 = .ok (.ireturn, 1) := by decide +kernel
theorem dJ9_min_7cf53_0 : decode cJ9_min_7cf53 0 = .ok (.iload_n 0, 1) := by decide +kernel
theorem dJ9_min_7cf53_1 : decode cJ9_min_7cf53 1 = .ok (.iload_n 1, 1) := by decide +kernel
theorem dJ9_min_7cf53_2 : decode cJ9_min_7cf53 2 = .ok (.if_icmp .gt 7, 3) := by decide +kernel
theorem dJ9_min_7cf53_5 : decode cJ9_min_7cf53 5 = .ok (.iload_n 0, 1) := by decide +kernel
theorem dJ9_min_7cf53_6 : decode cJ9_min_7cf53 6 = .ok (.goto 4, 3) := by decide +kernel
theorem dJ9_min_7cf53_9 : decode cJ9_min_7cf53 9 = .ok (.iload_n 1, 1) := by decide +kernel
theorem dJ9_min_7cf53_10 : decode cJ9_min_7cf53 10 = .ok (.ireturn, 1) := by decide +kernel
abbrev vwCl : List vw_C := [(RX0, TX0, 16), (RX1, TX1, 17), (RX2, TX2, 4), (RX3, TX3, 13)]
end
section
theorem dX0_init_0 : decode cX0_init 0 = .ok (.aload_n 0, 1) := by decide +kernel
theorem dX0_init_1 : decode cX0_init 1 = .ok (.invokespecial 3, 3) := by decide +kernel
theorem dX0_init_4 : decode cX0_init 4 = .ok (.aload_n 0, 1) := by decide +kernel
theorem dX0_init_5 : decode cX0_init 5 = .ok (.bipush 18, 2) := by decide +kernel
theorem dX0_init_7 : decode cX0_init 7 = .ok (.newarray .int, 2) := by decide +kernel
theorem dX0_init_9 : decode cX0_init 9 = .ok (.putfield 9, 3) := by decide +kernel
theorem dX0_init_12 : decode cX0_init 12 = .ok (.aload_n 0, 1) := by decide +kernel
theorem dX0_init_13 : decode cX0_init 13 = .ok (.bipush 20, 2) := by decide +kernel
theorem dX0_init_15 : decode cX0_init 15 = .ok (.newarray .int, 2) := by decide +kernel
theorem dX0_init_17 : decode cX0_init 17 = .ok (.putfield 15, 3) := by decide +kernel
theorem dX0_init_20 : decode cX0_init 20 = .ok (.aload_n 0, 1) := by decide +kernel
theorem dX0_init_21 : decode cX0_init 21 = .ok (.bipush 20, 2) := by decide +kernel
theorem dX0_init_23 : decode cX0_init 23 = .ok (.newarray .int, 2) := by decide +kernel
theorem dX0_init_25 : decode cX0_init 25 = .ok (.putfield 18, 3) := by decide +kernel
theorem dX0_init_28 : decode cX0_init 28 = .ok (.aload_n 0, 1) := by decide +kernel
theorem dX0_init_29 : decode cX0_init 29 = .ok (.bipush 20, 2) := by decide +kernel
theorem dX0_init_31 : decode cX0_init 31 = .ok (.newarray .boolean, 2) := by decide +kernel
theorem dX0_init_33 : decode cX0_init 33 = .ok (.putfield 21, 3) := by decide +kernel
theorem dX0_init_36 : decode cX0_init 36 = .ok (.aload_n 0, 1) := by decide +kernel
theorem dX0_init_37 : decode cX0_init 37 = .ok (.bipush 20, 2) := by decide +kernel
theorem dX0_init_39 : decode cX0_init 39 = .ok (.newarray .int, 2) := by decide +kernel
theorem dX0_init_41 : decode cX0_init 41 = .ok (.putfield 25, 3) := by decide +kernel
theorem dX0_init_44 : decode cX0_init 44 = .ok (.aload_n 0, 1) := by decide +kernel
theorem dX0_init_45 : decode cX0_init 45 = .ok (.bipush 20, 2) := by decide +kernel
theorem dX0_init_47 : decode cX0_init 47 = .ok (.newarray .int, 2) := by decide +kernel
theorem dX0_init_49 : decode cX0_init 49 = .ok (.putfield 28, 3) := by decide +kernel
theorem dX0_init_52 : decode cX0_init 52 = .ok (.aload_n 0, 1) := by decide +kernel
theorem dX0_init_53 : decode cX0_init 53 = .ok (.iconst 4, 1) := by decide +kernel
theorem dX0_init_54 : decode cX0_init 54 = .ok (.newarray .int, 2) := by decide +kernel
theorem dX0_init_56 : decode cX0_init 56 = .ok (.putfield 31, 3) := by decide +kernel
theorem dX0_init_59 : decode cX0_init 59 = .ok (.aload_n 0, 1) := by decide +kernel
theorem dX0_init_60 : decode cX0_init 60 = .ok (.iconst 4, 1) := by decide +kernel
theorem dX0_init_61 : decode cX0_init 61 = .ok (.newarray .int, 2) := by decide +kernel
theorem dX0_init_63 : decode cX0_init 63 = .ok (.putfield 34, 3) := by decide +kernel
theorem dX0_init_66 : decode cX0_init 66 = .ok (.aload_n 0, 1) := by decide +kernel
theorem dX0_init_67 : decode cX0_init 67 = .ok (.iconst 4, 1) := by decide +kernel
theorem dX0_init_68 : decode cX0_init 68 = .ok (.newarray .int, 2) := by decide +kernel
theorem dX0_init_70 : decode cX0_init 70 = .ok (.putfield 37, 3) := by decide +kernel
theorem dX0_init_73 : decode cX0_init 73 = .ok (.aload_n 0, 1) := by decide +kernel
theorem dX0_init_74 : decode cX0_init 74 = .ok (.iconst 4, 1) := by decide +kernel
theorem dX0_init_75 : decode cX0_init 75 = .ok (.newarray .int, 2) := by decide +kernel
theorem dX0_init_77 : decode cX0_init 77 = .ok (.putfield 40, 3) := by decide +kernel
theorem dX0_init_80 : decode cX0_init 80 = .ok (.aload_n 0, 1) := by decide +kernel
theorem dX0_init_81 : decode cX0_init 81 = .ok (.iconst 4, 1) := by decide +kernel
theorem dX0_init_82 : decode cX0_init 82 = .ok (.newarray .int, 2) := by decide +kernel
theorem dX0_init_84 : decode cX0_init 84 = .ok (.putfield 43, 3) := by decide +kernel
theorem dX0_init_87 : decode cX0_init 87 = .ok (.aload_n 0, 1) := by decide +kernel
theorem dX0_init_88 : decode cX0_init 88 = .ok (.iconst 4, 1) := by decide +kernel
theorem dX0_init_89 : decode cX0_init 89 = .ok (.newarray .int, 2) := by decide +kernel
theorem dX0_init_91 : decode cX0_init 91 = .ok (.putfield 46, 3) := by decide +kernel
theorem dX0_init_94 : decode cX0_init 94 = .ok (.aload_n 0, 1) := by decide +kernel
theorem dX0_init_95 : decode cX0_init 95 = .ok (.iconst 4, 1) := by decide +kernel
theorem dX0_init_96 : decode cX0_init 96 = .ok (.newarray .int, 2) := by decide +kernel
theorem dX0_init_98 : decode cX0_init 98 = .ok (.putfield 49, 3) := by decide +kernel
theorem dX0_init_101 : decode cX0_init 101 = .ok (.return_, 1) := by decide +kernel
theorem dX0_copy_0 : decode cX0_copy 0 = .ok (.aload_n 0, 1) := by decide +kernel
theorem dX0_copy_1 : decode cX0_copy 1 = .ok (.aload_n 1, 1) := by decide +kernel
theorem dX0_copy_2 : decode cX0_copy 2 = .ok (.getfield 52, 3) := by decide +kernel
theorem dX0_copy_5 : decode cX0_copy 5 = .ok (.putfield 52, 3) := by decide +kernel
theorem dX0_copy_8 : decode cX0_copy 8 = .ok (.aload_n 0, 1) := by decide +kernel
theorem dX0_copy_9 : decode cX0_copy 9 = .ok (.aload_n 1, 1) := by decide +kernel
theorem dX0_copy_10 : decode cX0_copy 10 = .ok (.getfield 56, 3) := by decide +kernel
theorem dX0_copy_13 : decode cX0_copy 13 = .ok (.putfield 56, 3) := by decide +kernel
theorem dX0_copy_16 : decode cX0_copy 16 = .ok (.aload_n 0, 1) := by decide +kernel
theorem dX0_copy_17 : decode cX0_copy 17 = .ok (.aload_n 1, 1) := by decide +kernel
theorem dX0_copy_18 : decode cX0_copy 18 = .ok (.getfield 59, 3) := by decide +kernel
theorem dX0_copy_21 : decode cX0_copy 21 = .ok (.putfield 59, 3) := by decide +kernel
theorem dX0_copy_24 : decode cX0_copy 24 = .ok (.aload_n 1, 1) := by decide +kernel
theorem dX0_copy_25 : decode cX0_copy 25 = .ok (.getfield 9, 3) := by decide +kernel
theorem dX0_copy_28 : decode cX0_copy 28 = .ok (.iconst 0, 1) := by decide +kernel
theorem dX0_copy_29 : decode cX0_copy 29 = .ok (.aload_n 0, 1) := by decide +kernel
theorem dX0_copy_30 : decode cX0_copy 30 = .ok (.getfield 9, 3) := by decide +kernel
theorem dX0_copy_33 : decode cX0_copy 33 = .ok (.iconst 0, 1) := by decide +kernel
theorem dX0_copy_34 : decode cX0_copy 34 = .ok (.bipush 18, 2) := by decide +kernel
theorem dX0_copy_36 : decode cX0_copy 36 = .ok (.invokestatic 62, 3) := by decide +kernel
theorem dX0_copy_39 : decode cX0_copy 39 = .ok (.iconst 0, 1) := by decide +kernel
theorem dX0_copy_40 : decode cX0_copy 40 = .ok (.istore_n 2, 1) := by decide +kernel
theorem dX0_copy_41 : decode cX0_copy 41 = .ok (.iload_n 2, 1) := by decide +kernel
theorem dX0_copy_42 : decode cX0_copy 42 = .ok (.bipush 20, 2) := by decide +kernel
theorem dX0_copy_44 : decode cX0_copy 44 = .ok (.if_icmp .ge 69, 3) := by decide +kernel
theorem dX0_copy_47 : decode cX0_copy 47 = .ok (.aload_n 0, 1) := by decide +kernel
theorem dX0_copy_48 : decode cX0_copy 48 = .ok (.getfield 15, 3) := by decide +kernel
theorem dX0_copy_51 : decode cX0_copy 51 = .ok (.iload_n 2, 1) := by decide +kernel
theorem dX0_copy_52 : decode cX0_copy 52 = .ok (.aload_n 1, 1) := by decide +kernel
theorem dX0_copy_53 : decode cX0_copy 53 = .ok (.getfield 15, 3) := by decide +kernel
theorem dX0_copy_56 : decode cX0_copy 56 = .ok (.iload_n 2, 1) := by decide +kernel
theorem dX0_copy_57 : decode cX0_copy 57 = .ok (.iaload, 1) := by decide +kernel
theorem dX0_copy_58 : decode cX0_copy 58 = .ok (.iastore, 1) := by decide +kernel
theorem dX0_copy_59 : decode cX0_copy 59 = .ok (.aload_n 0, 1) := by decide +kernel
theorem dX0_copy_60 : decode cX0_copy 60 = .ok (.getfield 18, 3) := by decide +kernel
theorem dX0_copy_63 : decode cX0_copy 63 = .ok (.iload_n 2, 1) := by decide +kernel
theorem dX0_copy_64 : decode cX0_copy 64 = .ok (.aload_n 1, 1) := by decide +kernel
theorem dX0_copy_65 : decode cX0_copy 65 = .ok (.getfield 18, 3) := by decide +kernel
theorem dX0_copy_68 : decode cX0_copy 68 = .ok (.iload_n 2, 1) := by decide +kernel
theorem dX0_copy_69 : decode cX0_copy 69 = .ok (.iaload, 1) := by decide +kernel
theorem dX0_copy_70 : decode cX0_copy 70 = .ok (.iastore, 1) := by decide +kernel
theorem dX0_copy_71 : decode cX0_copy 71 = .ok (.aload_n 0, 1) := by decide +kernel
theorem dX0_copy_72 : decode cX0_copy 72 = .ok (.getfield 21, 3) := by decide +kernel
theorem dX0_copy_75 : decode cX0_copy 75 = .ok (.iload_n 2, 1) := by decide +kernel
theorem dX0_copy_76 : decode cX0_copy 76 = .ok (.aload_n 1, 1) := by decide +kernel
theorem dX0_copy_77 : decode cX0_copy 77 = .ok (.getfield 21, 3) := by decide +kernel
theorem dX0_copy_80 : decode cX0_copy 80 = .ok (.iload_n 2, 1) := by decide +kernel
theorem dX0_copy_81 : decode cX0_copy 81 = .ok (.baload, 1) := by decide +kernel
theorem dX0_copy_82 : decode cX0_copy 82 = .ok (.bastore, 1) := by decide +kernel
theorem dX0_copy_83 : decode cX0_copy 83 = .ok (.aload_n 0, 1) := by decide +kernel
theorem dX0_copy_84 : decode cX0_copy 84 = .ok (.getfield 25, 3) := by decide +kernel
theorem dX0_copy_87 : decode cX0_copy 87 = .ok (.iload_n 2, 1) := by decide +kernel
theorem dX0_copy_88 : decode cX0_copy 88 = .ok (.aload_n 1, 1) := by decide +kernel
theorem dX0_copy_89 : decode cX0_copy 89 = .ok (.getfield 25, 3) := by decide +kernel
theorem dX0_copy_92 : decode cX0_copy 92 = .ok (.iload_n 2, 1) := by decide +kernel
theorem dX0_copy_93 : decode cX0_copy 93 = .ok (.iaload, 1) := by decide +kernel
theorem dX0_copy_94 : decode cX0_copy 94 = .ok (.iastore, 1) := by decide +kernel
theorem dX0_copy_95 : decode cX0_copy 95 = .ok (.aload_n 0, 1) := by decide +kernel
theorem dX0_copy_96 : decode cX0_copy 96 = .ok (.getfield 28, 3) := by decide +kernel
theorem dX0_copy_99 : decode cX0_copy 99 = .ok (.iload_n 2, 1) := by decide +kernel
theorem dX0_copy_100 : decode cX0_copy 100 = .ok (.aload_n 1, 1) := by decide +kernel
theorem dX0_copy_101 : decode cX0_copy 101 = .ok (.getfield 28, 3) := by decide +kernel
theorem dX0_copy_104 : decode cX0_copy 104 = .ok (.iload_n 2, 1) := by decide +kernel
theorem dX0_copy_105 : decode cX0_copy 105 = .ok (.iaload, 1) := by decide +kernel
theorem dX0_copy_106 : decode cX0_copy 106 = .ok (.iastore, 1) := by decide +kernel
theorem dX0_copy_107 : decode cX0_copy 107 = .ok (.iinc 2 1, 3) := by decide +kernel
theorem dX0_copy_110 : decode cX0_copy 110 = .ok (.goto (-69), 3) := by decide +kernel
theorem dX0_copy_113 : decode cX0_copy 113 = .ok (.iconst 0, 1) := by decide +kernel
theorem dX0_copy_114 : decode cX0_copy 114 = .ok (.istore_n 2, 1) := by decide +kernel
theorem dX0_copy_115 : decode cX0_copy 115 = .ok (.iload_n 2, 1) := by decide +kernel
theorem dX0_copy_116 : decode cX0_copy 116 = .ok (.iconst 4, 1) := by decide +kernel
theorem dX0_copy_117 : decode cX0_copy 117 = .ok (.if_icmp .ge 93, 3) := by decide +kernel
theorem dX0_copy_120 : decode cX0_copy 120 = .ok (.aload_n 0, 1) := by decide +kernel
theorem dX0_copy_121 : decode cX0_copy 121 = .ok (.getfield 31, 3) := by decide +kernel
theorem dX0_copy_124 : decode cX0_copy 124 = .ok (.iload_n 2, 1) := by decide +kernel
theorem dX0_copy_125 : decode cX0_copy 125 = .ok (.aload_n 1, 1) := by decide +kernel
theorem dX0_copy_126 : decode cX0_copy 126 = .ok (.getfield 31, 3) := by decide +kernel
theorem dX0_copy_129 : decode cX0_copy 129 = .ok (.iload_n 2, 1) := by decide +kernel
theorem dX0_copy_130 : decode cX0_copy 130 = .ok (.iaload, 1) := by decide +kernel
theorem dX0_copy_131 : decode cX0_copy 131 = .ok (.iastore, 1) := by decide +kernel
theorem dX0_copy_132 : decode cX0_copy 132 = .ok (.aload_n 0, 1) := by decide +kernel
theorem dX0_copy_133 : decode cX0_copy 133 = .ok (.getfield 34, 3) := by decide +kernel
theorem dX0_copy_136 : decode cX0_copy 136 = .ok (.iload_n 2, 1) := by decide +kernel
theorem dX0_copy_137 : decode cX0_copy 137 = .ok (.aload_n 1, 1) := by decide +kernel
theorem dX0_copy_138 : decode cX0_copy 138 = .ok (.getfield 34, 3) := by decide +kernel
theorem dX0_copy_141 : decode cX0_copy 141 = .ok (.iload_n 2, 1) := by decide +kernel
theorem dX0_copy_142 : decode cX0_copy 142 = .ok (.iaload, 1) := by decide +kernel
theorem dX0_copy_143 : decode cX0_copy 143 = .ok (.iastore, 1) := by decide +kernel
theorem dX0_copy_144 : decode cX0_copy 144 = .ok (.aload_n 0, 1) := by decide +kernel
theorem dX0_copy_145 : decode cX0_copy 145 = .ok (.getfield 37, 3) := by decide +kernel
theorem dX0_copy_148 : decode cX0_copy 148 = .ok (.iload_n 2, 1) := by decide +kernel
theorem dX0_copy_149 : decode cX0_copy 149 = .ok (.aload_n 1, 1) := by decide +kernel
theorem dX0_copy_150 : decode cX0_copy 150 = .ok (.getfield 37, 3) := by decide +kernel
theorem dX0_copy_153 : decode cX0_copy 153 = .ok (.iload_n 2, 1) := by decide +kernel
theorem dX0_copy_154 : decode cX0_copy 154 = .ok (.iaload, 1) := by decide +kernel
theorem dX0_copy_155 : decode cX0_copy 155 = .ok (.iastore, 1) := by decide +kernel
theorem dX0_copy_156 : decode cX0_copy 156 = .ok (.aload_n 0, 1) := by decide +kernel
theorem dX0_copy_157 : decode cX0_copy 157 = .ok (.getfield 40, 3) := by decide +kernel
theorem dX0_copy_160 : decode cX0_copy 160 = .ok (.iload_n 2, 1) := by decide +kernel
theorem dX0_copy_161 : decode cX0_copy 161 = .ok (.aload_n 1, 1) := by decide +kernel
theorem dX0_copy_162 : decode cX0_copy 162 = .ok (.getfield 40, 3) := by decide +kernel
theorem dX0_copy_165 : decode cX0_copy 165 = .ok (.iload_n 2, 1) := by decide +kernel
theorem dX0_copy_166 : decode cX0_copy 166 = .ok (.iaload, 1) := by decide +kernel
theorem dX0_copy_167 : decode cX0_copy 167 = .ok (.iastore, 1) := by decide +kernel
theorem dX0_copy_168 : decode cX0_copy 168 = .ok (.aload_n 0, 1) := by decide +kernel
theorem dX0_copy_169 : decode cX0_copy 169 = .ok (.getfield 43, 3) := by decide +kernel
theorem dX0_copy_172 : decode cX0_copy 172 = .ok (.iload_n 2, 1) := by decide +kernel
theorem dX0_copy_173 : decode cX0_copy 173 = .ok (.aload_n 1, 1) := by decide +kernel
theorem dX0_copy_174 : decode cX0_copy 174 = .ok (.getfield 43, 3) := by decide +kernel
theorem dX0_copy_177 : decode cX0_copy 177 = .ok (.iload_n 2, 1) := by decide +kernel
theorem dX0_copy_178 : decode cX0_copy 178 = .ok (.iaload, 1) := by decide +kernel
theorem dX0_copy_179 : decode cX0_copy 179 = .ok (.iastore, 1) := by decide +kernel
theorem dX0_copy_180 : decode cX0_copy 180 = .ok (.aload_n 0, 1) := by decide +kernel
theorem dX0_copy_181 : decode cX0_copy 181 = .ok (.getfield 46, 3) := by decide +kernel
theorem dX0_copy_184 : decode cX0_copy 184 = .ok (.iload_n 2, 1) := by decide +kernel
theorem dX0_copy_185 : decode cX0_copy 185 = .ok (.aload_n 1, 1) := by decide +kernel
theorem dX0_copy_186 : decode cX0_copy 186 = .ok (.getfield 46, 3) := by decide +kernel
theorem dX0_copy_189 : decode cX0_copy 189 = .ok (.iload_n 2, 1) := by decide +kernel
theorem dX0_copy_190 : decode cX0_copy 190 = .ok (.iaload, 1) := by decide +kernel
theorem dX0_copy_191 : decode cX0_copy 191 = .ok (.iastore, 1) := by decide +kernel
theorem dX0_copy_192 : decode cX0_copy 192 = .ok (.aload_n 0, 1) := by decide +kernel
theorem dX0_copy_193 : decode cX0_copy 193 = .ok (.getfield 49, 3) := by decide +kernel
theorem dX0_copy_196 : decode cX0_copy 196 = .ok (.iload_n 2, 1) := by decide +kernel
theorem dX0_copy_197 : decode cX0_copy 197 = .ok (.aload_n 1, 1) := by decide +kernel
theorem dX0_copy_198 : decode cX0_copy 198 = .ok (.getfield 49, 3) := by decide +kernel
theorem dX0_copy_201 : decode cX0_copy 201 = .ok (.iload_n 2, 1) := by decide +kernel
theorem dX0_copy_202 : decode cX0_copy 202 = .ok (.iaload, 1) := by decide +kernel
theorem dX0_copy_203 : decode cX0_copy 203 = .ok (.iastore, 1) := by decide +kernel
theorem dX0_copy_204 : decode cX0_copy 204 = .ok (.iinc 2 1, 3) := by decide +kernel
theorem dX0_copy_207 : decode cX0_copy 207 = .ok (.goto (-92), 3) := by decide +kernel
theorem dX0_copy_210 : decode cX0_copy 210 = .ok (.return_, 1) := by decide +kernel
set_option maxRecDepth 20000 in
theorem ggX0_goBy_X0_moveLighters : GoodIn wsX0_goBy wsX0_moveLighters := goodIn_r _ [7, 8, 9, 10, 11, 12, 13, 6, 14, 15, 16, 17, 18, 19, 20, 21, 22, 23, 24, 25, 26, 27, 28, 29, 30, 31, 32, 33, 34, 35, 36, 37, 38, 39, 40, 41, 42, 43, 44, 45, 46, 47, 48, 49, 50, 51, 52, 53, 54, 55, 56, 57, 58, 59, 60, 61, 62, 63, 64, 65, 110, 111, 112, 113, 114, 115, 116, 117, 118, 119, 120, 121, 122, 123, 124, 125, 126, 94, 95, 96, 97, 98, 99, 100, 101, 102, 103, 104, 105, 106, 107, 108, 109] (by decide +kernel) (by decide +kernel)
set_option maxRecDepth 20000 in
theorem gX0_goBy_X0_moveLighters : GoodIn wsX0_goBy (wsV RX0 68 RX0 yX0_moveLighters wsX0_moveLighters) := goodIn_app (goodIn_of _ (by decide +kernel)) ggX0_goBy_X0_moveLighters
set_option maxRecDepth 20000 in
theorem ggX0_goBy_X0_burnLamps : GoodIn wsX0_goBy wsX0_burnLamps := goodIn_r _ [69, 70, 27, 1, 57, 53, 54, 55, 56, 71, 72, 73, 6, 74, 17, 75, 76, 77, 78, 79, 58, 59, 110, 111, 112, 113, 114, 115, 116, 117, 118, 119, 120, 121, 122, 123, 124, 125, 126, 94, 95, 96, 97, 98, 99, 100, 101, 102, 103, 104, 105, 106, 107, 108, 109] (by decide +kernel) (by decide +kernel)
set_option maxRecDepth 20000 in
theorem gX0_goBy_X0_burnLamps : GoodIn wsX0_goBy (wsV RX0 72 RX0 yX0_burnLamps wsX0_burnLamps) := goodIn_app (goodIn_of _ (by decide +kernel)) ggX0_goBy_X0_burnLamps
set_option maxRecDepth 20000 in
theorem ggX0_goBy_X0_blow : GoodIn wsX0_goBy wsX0_blow := goodIn_r _ [83, 70, 27, 84, 85, 86, 87, 88, 35, 89, 45, 90, 46, 47, 91, 92, 55, 93, 76, 77, 78, 6, 79, 58, 59, 110, 111, 112, 113, 114, 115, 116, 117, 118, 119, 120, 121, 122, 123, 124, 125, 126, 94, 95, 96, 97, 98, 99, 100, 101, 102, 103, 104, 105, 106, 107, 108, 109] (by decide +kernel) (by decide +kernel)
set_option maxRecDepth 20000 in
theorem gX0_goBy_X0_blow : GoodIn wsX0_goBy (wsV RX0 81 RX0 yX0_blow wsX0_blow) := goodIn_app (goodIn_of _ (by decide +kernel)) ggX0_goBy_X0_blow
theorem dX0_goBy_0 : decode cX0_goBy 0 = .ok (.iconst 0, 1) := by decide +kernel
theorem dX0_goBy_1 : decode cX0_goBy 1 = .ok (.istore_n 3, 1) := by decide +kernel
theorem dX0_goBy_2 : decode cX0_goBy 2 = .ok (.iconst 0, 1) := by decide +kernel
theorem dX0_goBy_3 : decode cX0_goBy 3 = .ok (.istore 4, 2) := by decide +kernel
theorem dX0_goBy_5 : decode cX0_goBy 5 = .ok (.iload 4, 2) := by decide +kernel
theorem dX0_goBy_7 : decode cX0_goBy 7 = .ok (.iload_n 2, 1) := by decide +kernel
theorem dX0_goBy_8 : decode cX0_goBy 8 = .ok (.if_icmp .ge 69, 3) := by decide +kernel
theorem dX0_goBy_11 : decode cX0_goBy 11 = .ok (.aload_n 0, 1) := by decide +kernel
theorem dX0_goBy_12 : decode cX0_goBy 12 = .ok (.getfield 52, 3) := by decide +kernel
theorem dX0_goBy_15 : decode cX0_goBy 15 = .ok (.sipush 600, 3) := by decide +kernel
theorem dX0_goBy_18 : decode cX0_goBy 18 = .ok (.if_icmp .ge 59, 3) := by decide +kernel
theorem dX0_goBy_21 : decode cX0_goBy 21 = .ok (.iload_n 3, 1) := by decide +kernel
theorem dX0_goBy_22 : decode cX0_goBy 22 = .ok (.aload_n 0, 1) := by decide +kernel
theorem dX0_goBy_23 : decode cX0_goBy 23 = .ok (.aload_n 1, 1) := by decide +kernel
theorem dX0_goBy_24 : decode cX0_goBy 24 = .ok (.invokevirtual 68, 3) := by decide +kernel
theorem dX0_goBy_27 : decode cX0_goBy 27 = .ok (.iadd, 1) := by decide +kernel
theorem dX0_goBy_28 : decode cX0_goBy 28 = .ok (.istore_n 3, 1) := by decide +kernel
theorem dX0_goBy_29 : decode cX0_goBy 29 = .ok (.aload_n 0, 1) := by decide +kernel
theorem dX0_goBy_30 : decode cX0_goBy 30 = .ok (.aload_n 1, 1) := by decide +kernel
theorem dX0_goBy_31 : decode cX0_goBy 31 = .ok (.invokevirtual 72, 3) := by decide +kernel
theorem dX0_goBy_34 : decode cX0_goBy 34 = .ok (.aload_n 0, 1) := by decide +kernel
theorem dX0_goBy_35 : decode cX0_goBy 35 = .ok (.getfield 52, 3) := by decide +kernel
theorem dX0_goBy_38 : decode cX0_goBy 38 = .ok (.bipush 10, 2) := by decide +kernel
theorem dX0_goBy_40 : decode cX0_goBy 40 = .ok (.irem, 1) := by decide +kernel
theorem dX0_goBy_41 : decode cX0_goBy 41 = .ok (.ifCond .ne 20, 3) := by decide +kernel
theorem dX0_goBy_44 : decode cX0_goBy 44 = .ok (.aload_n 0, 1) := by decide +kernel
theorem dX0_goBy_45 : decode cX0_goBy 45 = .ok (.aload_n 1, 1) := by decide +kernel
theorem dX0_goBy_46 : decode cX0_goBy 46 = .ok (.aload_n 1, 1) := by decide +kernel
theorem dX0_goBy_47 : decode cX0_goBy 47 = .ok (.getfield 76, 3) := by decide +kernel
theorem dX0_goBy_50 : decode cX0_goBy 50 = .ok (.aload_n 0, 1) := by decide +kernel
theorem dX0_goBy_51 : decode cX0_goBy 51 = .ok (.getfield 52, 3) := by decide +kernel
theorem dX0_goBy_54 : decode cX0_goBy 54 = .ok (.bipush 60, 2) := by decide +kernel
theorem dX0_goBy_56 : decode cX0_goBy 56 = .ok (.idiv, 1) := by decide +kernel
theorem dX0_goBy_57 : decode cX0_goBy 57 = .ok (.iaload, 1) := by decide +kernel
theorem dX0_goBy_58 : decode cX0_goBy 58 = .ok (.invokevirtual 81, 3) := by decide +kernel
theorem dX0_goBy_61 : decode cX0_goBy 61 = .ok (.aload_n 0, 1) := by decide +kernel
theorem dX0_goBy_62 : decode cX0_goBy 62 = .ok (.dup, 1) := by decide +kernel
theorem dX0_goBy_63 : decode cX0_goBy 63 = .ok (.getfield 52, 3) := by decide +kernel
theorem dX0_goBy_66 : decode cX0_goBy 66 = .ok (.iconst 1, 1) := by decide +kernel
theorem dX0_goBy_67 : decode cX0_goBy 67 = .ok (.iadd, 1) := by decide +kernel
theorem dX0_goBy_68 : decode cX0_goBy 68 = .ok (.putfield 52, 3) := by decide +kernel
theorem dX0_goBy_71 : decode cX0_goBy 71 = .ok (.iinc 4 1, 3) := by decide +kernel
theorem dX0_goBy_74 : decode cX0_goBy 74 = .ok (.goto (-69), 3) := by decide +kernel
theorem dX0_goBy_77 : decode cX0_goBy 77 = .ok (.iload_n 3, 1) := by decide +kernel
theorem dX0_goBy_78 : decode cX0_goBy 78 = .ok (.ireturn, 1) := by decide +kernel
set_option maxRecDepth 20000 in
theorem ggX0_beginNext_X0_putOut : GoodIn wsX0_beginNext wsX0_putOut := goodIn_r _ [10, 4, 11, 12, 26, 27, 28, 29, 30, 31, 32, 33, 34, 35, 36, 37, 38, 39, 40, 41, 42, 43, 44, 45, 46, 47, 48, 49, 50, 51, 52, 53, 54, 55, 56, 57, 58] (by decide +kernel) (by decide +kernel)
set_option maxRecDepth 20000 in
theorem gX0_beginNext_X0_putOut : GoodIn wsX0_beginNext (wsV RX0 88 RX0 yX0_putOut wsX0_putOut) := goodIn_app (goodIn_of _ (by decide +kernel)) ggX0_beginNext_X0_putOut
set_option maxRecDepth 20000 in
theorem ggX0_beginNext_X0_sendHome : GoodIn wsX0_beginNext wsX0_sendHome := goodIn_r _ [16, 17, 18, 19, 20, 21, 22, 9, 23, 24, 25, 26, 27, 28, 29, 30, 31, 32, 33, 34, 35, 36, 37, 38, 39, 40, 41, 42, 43, 44, 45, 46, 47, 48, 49, 50, 51, 52, 53, 54, 55, 56, 57, 58] (by decide +kernel) (by decide +kernel)
set_option maxRecDepth 20000 in
theorem gX0_beginNext_X0_sendHome : GoodIn wsX0_beginNext (wsV RX0 94 RX0 yX0_sendHome wsX0_sendHome) := goodIn_app (goodIn_of _ (by decide +kernel)) ggX0_beginNext_X0_sendHome
theorem dX0_beginNext_0 : decode cX0_beginNext 0 = .ok (.aload_n 0, 1) := by decide +kernel
theorem dX0_beginNext_1 : decode cX0_beginNext 1 = .ok (.iconst 0, 1) := by decide +kernel
theorem dX0_beginNext_2 : decode cX0_beginNext 2 = .ok (.putfield 52, 3) := by decide +kernel
theorem dX0_beginNext_5 : decode cX0_beginNext 5 = .ok (.aload_n 0, 1) := by decide +kernel
theorem dX0_beginNext_6 : decode cX0_beginNext 6 = .ok (.dup, 1) := by decide +kernel
theorem dX0_beginNext_7 : decode cX0_beginNext 7 = .ok (.getfield 56, 3) := by decide +kernel
theorem dX0_beginNext_10 : decode cX0_beginNext 10 = .ok (.iconst 1, 1) := by decide +kernel
theorem dX0_beginNext_11 : decode cX0_beginNext 11 = .ok (.iadd, 1) := by decide +kernel
theorem dX0_beginNext_12 : decode cX0_beginNext 12 = .ok (.putfield 56, 3) := by decide +kernel
theorem dX0_beginNext_15 : decode cX0_beginNext 15 = .ok (.iconst 0, 1) := by decide +kernel
theorem dX0_beginNext_16 : decode cX0_beginNext 16 = .ok (.istore_n 2, 1) := by decide +kernel
theorem dX0_beginNext_17 : decode cX0_beginNext 17 = .ok (.iload_n 2, 1) := by decide +kernel
theorem dX0_beginNext_18 : decode cX0_beginNext 18 = .ok (.aload_n 1, 1) := by decide +kernel
theorem dX0_beginNext_19 : decode cX0_beginNext 19 = .ok (.getfield 85, 3) := by decide +kernel
theorem dX0_beginNext_22 : decode cX0_beginNext 22 = .ok (.if_icmp .ge 24, 3) := by decide +kernel
theorem dX0_beginNext_25 : decode cX0_beginNext 25 = .ok (.aload_n 0, 1) := by decide +kernel
theorem dX0_beginNext_26 : decode cX0_beginNext 26 = .ok (.getfield 21, 3) := by decide +kernel
theorem dX0_beginNext_29 : decode cX0_beginNext 29 = .ok (.iload_n 2, 1) := by decide +kernel
theorem dX0_beginNext_30 : decode cX0_beginNext 30 = .ok (.baload, 1) := by decide +kernel
theorem dX0_beginNext_31 : decode cX0_beginNext 31 = .ok (.ifCond .eq 9, 3) := by decide +kernel
theorem dX0_beginNext_34 : decode cX0_beginNext 34 = .ok (.aload_n 0, 1) := by decide +kernel
theorem dX0_beginNext_35 : decode cX0_beginNext 35 = .ok (.aload_n 1, 1) := by decide +kernel
theorem dX0_beginNext_36 : decode cX0_beginNext 36 = .ok (.iload_n 2, 1) := by decide +kernel
theorem dX0_beginNext_37 : decode cX0_beginNext 37 = .ok (.invokevirtual 88, 3) := by decide +kernel
theorem dX0_beginNext_40 : decode cX0_beginNext 40 = .ok (.iinc 2 1, 3) := by decide +kernel
theorem dX0_beginNext_43 : decode cX0_beginNext 43 = .ok (.goto (-26), 3) := by decide +kernel
theorem dX0_beginNext_46 : decode cX0_beginNext 46 = .ok (.iconst 0, 1) := by decide +kernel
theorem dX0_beginNext_47 : decode cX0_beginNext 47 = .ok (.istore_n 2, 1) := by decide +kernel
theorem dX0_beginNext_48 : decode cX0_beginNext 48 = .ok (.iload_n 2, 1) := by decide +kernel
theorem dX0_beginNext_49 : decode cX0_beginNext 49 = .ok (.aload_n 1, 1) := by decide +kernel
theorem dX0_beginNext_50 : decode cX0_beginNext 50 = .ok (.getfield 91, 3) := by decide +kernel
theorem dX0_beginNext_53 : decode cX0_beginNext 53 = .ok (.if_icmp .ge 15, 3) := by decide +kernel
theorem dX0_beginNext_56 : decode cX0_beginNext 56 = .ok (.aload_n 0, 1) := by decide +kernel
theorem dX0_beginNext_57 : decode cX0_beginNext 57 = .ok (.aload_n 1, 1) := by decide +kernel
theorem dX0_beginNext_58 : decode cX0_beginNext 58 = .ok (.iload_n 2, 1) := by decide +kernel
theorem dX0_beginNext_59 : decode cX0_beginNext 59 = .ok (.invokevirtual 94, 3) := by decide +kernel
theorem dX0_beginNext_62 : decode cX0_beginNext 62 = .ok (.iinc 2 1, 3) := by decide +kernel
theorem dX0_beginNext_65 : decode cX0_beginNext 65 = .ok (.goto (-17), 3) := by decide +kernel
theorem dX0_beginNext_68 : decode cX0_beginNext 68 = .ok (.return_, 1) := by decide +kernel
set_option maxRecDepth 20000 in
theorem ggX0_sendHome_X0_waitFromNow : GoodIn wsX0_sendHome wsX0_waitFromNow := goodIn_r _ [8, 9, 10, 11, 12, 13, 14, 15, 16, 17, 18, 19, 20, 21, 22, 23, 24, 25, 26] (by decide +kernel) (by decide +kernel)
set_option maxRecDepth 20000 in
theorem gX0_sendHome_X0_waitFromNow : GoodIn wsX0_sendHome (wsV RX0 100 RX0 yX0_waitFromNow wsX0_waitFromNow) := goodIn_app (goodIn_of _ (by decide +kernel)) ggX0_sendHome_X0_waitFromNow
theorem dX0_sendHome_0 : decode cX0_sendHome 0 = .ok (.aload_n 0, 1) := by decide +kernel
theorem dX0_sendHome_1 : decode cX0_sendHome 1 = .ok (.getfield 31, 3) := by decide +kernel
theorem dX0_sendHome_4 : decode cX0_sendHome 4 = .ok (.iload_n 2, 1) := by decide +kernel
theorem dX0_sendHome_5 : decode cX0_sendHome 5 = .ok (.aload_n 1, 1) := by decide +kernel
theorem dX0_sendHome_6 : decode cX0_sendHome 6 = .ok (.getfield 97, 3) := by decide +kernel
theorem dX0_sendHome_9 : decode cX0_sendHome 9 = .ok (.iload_n 2, 1) := by decide +kernel
theorem dX0_sendHome_10 : decode cX0_sendHome 10 = .ok (.iaload, 1) := by decide +kernel
theorem dX0_sendHome_11 : decode cX0_sendHome 11 = .ok (.iastore, 1) := by decide +kernel
theorem dX0_sendHome_12 : decode cX0_sendHome 12 = .ok (.aload_n 0, 1) := by decide +kernel
theorem dX0_sendHome_13 : decode cX0_sendHome 13 = .ok (.iload_n 2, 1) := by decide +kernel
theorem dX0_sendHome_14 : decode cX0_sendHome 14 = .ok (.invokevirtual 100, 3) := by decide +kernel
theorem dX0_sendHome_17 : decode cX0_sendHome 17 = .ok (.aload_n 0, 1) := by decide +kernel
theorem dX0_sendHome_18 : decode cX0_sendHome 18 = .ok (.getfield 46, 3) := by decide +kernel
theorem dX0_sendHome_21 : decode cX0_sendHome 21 = .ok (.iload_n 2, 1) := by decide +kernel
theorem dX0_sendHome_22 : decode cX0_sendHome 22 = .ok (.iconst (-1), 1) := by decide +kernel
theorem dX0_sendHome_23 : decode cX0_sendHome 23 = .ok (.iastore, 1) := by decide +kernel
theorem dX0_sendHome_24 : decode cX0_sendHome 24 = .ok (.return_, 1) := by decide +kernel
theorem dX0_whoGoesTo_0 : decode cX0_whoGoesTo 0 = .ok (.iconst 0, 1) := by decide +kernel
theorem dX0_whoGoesTo_1 : decode cX0_whoGoesTo 1 = .ok (.istore_n 3, 1) := by decide +kernel
theorem dX0_whoGoesTo_2 : decode cX0_whoGoesTo 2 = .ok (.iload_n 3, 1) := by decide +kernel
theorem dX0_whoGoesTo_3 : decode cX0_whoGoesTo 3 = .ok (.aload_n 1, 1) := by decide +kernel
theorem dX0_whoGoesTo_4 : decode cX0_whoGoesTo 4 = .ok (.getfield 91, 3) := by decide +kernel
theorem dX0_whoGoesTo_7 : decode cX0_whoGoesTo 7 = .ok (.if_icmp .ge 21, 3) := by decide +kernel
theorem dX0_whoGoesTo_10 : decode cX0_whoGoesTo 10 = .ok (.aload_n 0, 1) := by decide +kernel
theorem dX0_whoGoesTo_11 : decode cX0_whoGoesTo 11 = .ok (.getfield 37, 3) := by decide +kernel
theorem dX0_whoGoesTo_14 : decode cX0_whoGoesTo 14 = .ok (.iload_n 3, 1) := by decide +kernel
theorem dX0_whoGoesTo_15 : decode cX0_whoGoesTo 15 = .ok (.iaload, 1) := by decide +kernel
theorem dX0_whoGoesTo_16 : decode cX0_whoGoesTo 16 = .ok (.iload_n 2, 1) := by decide +kernel
theorem dX0_whoGoesTo_17 : decode cX0_whoGoesTo 17 = .ok (.if_icmp .ne 5, 3) := by decide +kernel
theorem dX0_whoGoesTo_20 : decode cX0_whoGoesTo 20 = .ok (.iload_n 3, 1) := by decide +kernel
theorem dX0_whoGoesTo_21 : decode cX0_whoGoesTo 21 = .ok (.ireturn, 1) := by decide +kernel
theorem dX0_whoGoesTo_22 : decode cX0_whoGoesTo 22 = .ok (.iinc 3 1, 3) := by decide +kernel
theorem dX0_whoGoesTo_25 : decode cX0_whoGoesTo 25 = .ok (.goto (-23), 3) := by decide +kernel
theorem dX0_whoGoesTo_28 : decode cX0_whoGoesTo 28 = .ok (.iconst (-1), 1) := by decide +kernel
theorem dX0_whoGoesTo_29 : decode cX0_whoGoesTo 29 = .ok (.ireturn, 1) := by decide +kernel
theorem dX0_isDark_0 : decode cX0_isDark 0 = .ok (.aload_n 0, 1) := by decide +kernel
theorem dX0_isDark_1 : decode cX0_isDark 1 = .ok (.getfield 9, 3) := by decide +kernel
theorem dX0_isDark_4 : decode cX0_isDark 4 = .ok (.iload_n 1, 1) := by decide +kernel
theorem dX0_isDark_5 : decode cX0_isDark 5 = .ok (.iaload, 1) := by decide +kernel
theorem dX0_isDark_6 : decode cX0_isDark 6 = .ok (.ifCond .ne 7, 3) := by decide +kernel
theorem dX0_isDark_9 : decode cX0_isDark 9 = .ok (.iconst 1, 1) := by decide +kernel
theorem dX0_isDark_10 : decode cX0_isDark 10 = .ok (.goto 4, 3) := by decide +kernel
theorem dX0_isDark_13 : decode cX0_isDark 13 = .ok (.iconst 0, 1) := by decide +kernel
theorem dX0_isDark_14 : decode cX0_isDark 14 = .ok (.ireturn, 1) := by decide +kernel
theorem dX0_burningLamps_0 : decode cX0_burningLamps 0 = .ok (.iconst 0, 1) := by decide +kernel
theorem dX0_burningLamps_1 : decode cX0_burningLamps 1 = .ok (.istore_n 2, 1) := by decide +kernel
theorem dX0_burningLamps_2 : decode cX0_burningLamps 2 = .ok (.iconst 0, 1) := by decide +kernel
theorem dX0_burningLamps_3 : decode cX0_burningLamps 3 = .ok (.istore_n 3, 1) := by decide +kernel
theorem dX0_burningLamps_4 : decode cX0_burningLamps 4 = .ok (.iload_n 3, 1) := by decide +kernel
theorem dX0_burningLamps_5 : decode cX0_burningLamps 5 = .ok (.aload_n 1, 1) := by decide +kernel
theorem dX0_burningLamps_6 : decode cX0_burningLamps 6 = .ok (.getfield 104, 3) := by decide +kernel
theorem dX0_burningLamps_9 : decode cX0_burningLamps 9 = .ok (.if_icmp .ge 18, 3) := by decide +kernel
theorem dX0_burningLamps_12 : decode cX0_burningLamps 12 = .ok (.iload_n 2, 1) := by decide +kernel
theorem dX0_burningLamps_13 : decode cX0_burningLamps 13 = .ok (.aload_n 0, 1) := by decide +kernel
theorem dX0_burningLamps_14 : decode cX0_burningLamps 14 = .ok (.getfield 9, 3) := by decide +kernel
theorem dX0_burningLamps_17 : decode cX0_burningLamps 17 = .ok (.iload_n 3, 1) := by decide +kernel
theorem dX0_burningLamps_18 : decode cX0_burningLamps 18 = .ok (.iaload, 1) := by decide +kernel
theorem dX0_burningLamps_19 : decode cX0_burningLamps 19 = .ok (.iadd, 1) := by decide +kernel
theorem dX0_burningLamps_20 : decode cX0_burningLamps 20 = .ok (.istore_n 2, 1) := by decide +kernel
theorem dX0_burningLamps_21 : decode cX0_burningLamps 21 = .ok (.iinc 3 1, 3) := by decide +kernel
theorem dX0_burningLamps_24 : decode cX0_burningLamps 24 = .ok (.goto (-20), 3) := by decide +kernel
theorem dX0_burningLamps_27 : decode cX0_burningLamps 27 = .ok (.iload_n 2, 1) := by decide +kernel
theorem dX0_burningLamps_28 : decode cX0_burningLamps 28 = .ok (.ireturn, 1) := by decide +kernel
set_option maxRecDepth 20000 in
theorem ggX0_darkStreets_X0_isDark : GoodIn wsX0_darkStreets wsX0_isDark := goodIn_r _ [6, 7, 25, 26, 27, 28, 29, 30, 31, 32, 33, 34, 35, 36, 37, 38, 39, 40] (by decide +kernel) (by decide +kernel)
set_option maxRecDepth 20000 in
theorem gX0_darkStreets_X0_isDark : GoodIn wsX0_darkStreets (wsV RX0 107 RX0 yX0_isDark wsX0_isDark) := goodIn_app (goodIn_of _ (by decide +kernel)) ggX0_darkStreets_X0_isDark
theorem dX0_darkStreets_0 : decode cX0_darkStreets 0 = .ok (.iconst 0, 1) := by decide +kernel
theorem dX0_darkStreets_1 : decode cX0_darkStreets 1 = .ok (.istore_n 2, 1) := by decide +kernel
theorem dX0_darkStreets_2 : decode cX0_darkStreets 2 = .ok (.iconst 0, 1) := by decide +kernel
theorem dX0_darkStreets_3 : decode cX0_darkStreets 3 = .ok (.istore_n 3, 1) := by decide +kernel
theorem dX0_darkStreets_4 : decode cX0_darkStreets 4 = .ok (.iload_n 3, 1) := by decide +kernel
theorem dX0_darkStreets_5 : decode cX0_darkStreets 5 = .ok (.aload_n 1, 1) := by decide +kernel
theorem dX0_darkStreets_6 : decode cX0_darkStreets 6 = .ok (.getfield 104, 3) := by decide +kernel
theorem dX0_darkStreets_9 : decode cX0_darkStreets 9 = .ok (.if_icmp .ge 20, 3) := by decide +kernel
theorem dX0_darkStreets_12 : decode cX0_darkStreets 12 = .ok (.aload_n 0, 1) := by decide +kernel
theorem dX0_darkStreets_13 : decode cX0_darkStreets 13 = .ok (.iload_n 3, 1) := by decide +kernel
theorem dX0_darkStreets_14 : decode cX0_darkStreets 14 = .ok (.invokevirtual 107, 3) := by decide +kernel
theorem dX0_darkStreets_17 : decode cX0_darkStreets 17 = .ok (.ifCond .eq 6, 3) := by decide +kernel
theorem dX0_darkStreets_20 : decode cX0_darkStreets 20 = .ok (.iinc 2 1, 3) := by decide +kernel
theorem dX0_darkStreets_23 : decode cX0_darkStreets 23 = .ok (.iinc 3 1, 3) := by decide +kernel
theorem dX0_darkStreets_26 : decode cX0_darkStreets 26 = .ok (.goto (-22), 3) := by decide +kernel
theorem dX0_darkStreets_29 : decode cX0_darkStreets 29 = .ok (.iload_n 2, 1) := by decide +kernel
theorem dX0_darkStreets_30 : decode cX0_darkStreets 30 = .ok (.ireturn, 1) := by decide +kernel
theorem dX0_oilOfLamps_0 : decode cX0_oilOfLamps 0 = .ok (.iconst 0, 1) := by decide +kernel
theorem dX0_oilOfLamps_1 : decode cX0_oilOfLamps 1 = .ok (.istore_n 2, 1) := by decide +kernel
theorem dX0_oilOfLamps_2 : decode cX0_oilOfLamps 2 = .ok (.iconst 0, 1) := by decide +kernel
theorem dX0_oilOfLamps_3 : decode cX0_oilOfLamps 3 = .ok (.istore_n 3, 1) := by decide +kernel
theorem dX0_oilOfLamps_4 : decode cX0_oilOfLamps 4 = .ok (.iload_n 3, 1) := by decide +kernel
theorem dX0_oilOfLamps_5 : decode cX0_oilOfLamps 5 = .ok (.aload_n 1, 1) := by decide +kernel
theorem dX0_oilOfLamps_6 : decode cX0_oilOfLamps 6 = .ok (.getfield 85, 3) := by decide +kernel
theorem dX0_oilOfLamps_9 : decode cX0_oilOfLamps 9 = .ok (.if_icmp .ge 18, 3) := by decide +kernel
theorem dX0_oilOfLamps_12 : decode cX0_oilOfLamps 12 = .ok (.iload_n 2, 1) := by decide +kernel
theorem dX0_oilOfLamps_13 : decode cX0_oilOfLamps 13 = .ok (.aload_n 0, 1) := by decide +kernel
theorem dX0_oilOfLamps_14 : decode cX0_oilOfLamps 14 = .ok (.getfield 15, 3) := by decide +kernel
theorem dX0_oilOfLamps_17 : decode cX0_oilOfLamps 17 = .ok (.iload_n 3, 1) := by decide +kernel
theorem dX0_oilOfLamps_18 : decode cX0_oilOfLamps 18 = .ok (.iaload, 1) := by decide +kernel
theorem dX0_oilOfLamps_19 : decode cX0_oilOfLamps 19 = .ok (.iadd, 1) := by decide +kernel
theorem dX0_oilOfLamps_20 : decode cX0_oilOfLamps 20 = .ok (.istore_n 2, 1) := by decide +kernel
theorem dX0_oilOfLamps_21 : decode cX0_oilOfLamps 21 = .ok (.iinc 3 1, 3) := by decide +kernel
theorem dX0_oilOfLamps_24 : decode cX0_oilOfLamps 24 = .ok (.goto (-20), 3) := by decide +kernel
theorem dX0_oilOfLamps_27 : decode cX0_oilOfLamps 27 = .ok (.iload_n 2, 1) := by decide +kernel
theorem dX0_oilOfLamps_28 : decode cX0_oilOfLamps 28 = .ok (.ireturn, 1) := by decide +kernel
set_option maxRecDepth 20000 in
theorem ggX0_moveLighters_X0_lookForLamp : GoodIn wsX0_moveLighters wsX0_lookForLamp := goodIn_r _ [8, 9, 10, 11, 2, 12, 13, 14, 3, 15, 16, 17, 18, 7, 19, 20, 21, 22, 23, 24, 25, 1, 26, 27, 28, 29, 30, 31, 32, 33, 34, 35, 36, 37, 38, 39, 40, 41, 42, 60, 61, 62, 63, 64, 65, 66, 67, 68, 69, 70, 71, 72, 73, 74, 75, 76, 77, 78, 79, 80, 81, 82, 83, 84, 85, 86, 87, 88, 89, 90, 91, 92] (by decide +kernel) (by decide +kernel)
set_option maxRecDepth 20000 in
theorem gX0_moveLighters_X0_lookForLamp : GoodIn wsX0_moveLighters (wsV RX0 111 RX0 yX0_lookForLamp wsX0_lookForLamp) := goodIn_app (goodIn_of _ (by decide +kernel)) ggX0_moveLighters_X0_lookForLamp
set_option maxRecDepth 20000 in
theorem ggX0_moveLighters_X0_tendLamp : GoodIn wsX0_moveLighters wsX0_tendLamp := goodIn_r _ [46, 2, 14, 13, 10, 11, 47, 48, 49, 50, 51, 21, 52, 53, 54, 55, 56, 57, 58, 7, 59, 3, 77, 78, 79, 80, 81, 82, 83, 84, 85, 86, 87, 88, 89, 90, 91, 92, 60, 61, 62, 63, 64, 65, 66, 67, 68, 69, 70, 71, 72, 73, 74, 75, 76] (by decide +kernel) (by decide +kernel)
set_option maxRecDepth 20000 in
theorem gX0_moveLighters_X0_tendLamp : GoodIn wsX0_moveLighters (wsV RX0 114 RX0 yX0_tendLamp wsX0_tendLamp) := goodIn_app (goodIn_of _ (by decide +kernel)) ggX0_moveLighters_X0_tendLamp
theorem dX0_moveLighters_0 : decode cX0_moveLighters 0 = .ok (.iconst 0, 1) := by decide +kernel
theorem dX0_moveLighters_1 : decode cX0_moveLighters 1 = .ok (.istore_n 2, 1) := by decide +kernel
theorem dX0_moveLighters_2 : decode cX0_moveLighters 2 = .ok (.iconst 0, 1) := by decide +kernel
theorem dX0_moveLighters_3 : decode cX0_moveLighters 3 = .ok (.istore_n 3, 1) := by decide +kernel
theorem dX0_moveLighters_4 : decode cX0_moveLighters 4 = .ok (.iload_n 3, 1) := by decide +kernel
theorem dX0_moveLighters_5 : decode cX0_moveLighters 5 = .ok (.aload_n 1, 1) := by decide +kernel
theorem dX0_moveLighters_6 : decode cX0_moveLighters 6 = .ok (.getfield 91, 3) := by decide +kernel
theorem dX0_moveLighters_9 : decode cX0_moveLighters 9 = .ok (.if_icmp .ge 66, 3) := by decide +kernel
theorem dX0_moveLighters_12 : decode cX0_moveLighters 12 = .ok (.aload_n 0, 1) := by decide +kernel
theorem dX0_moveLighters_13 : decode cX0_moveLighters 13 = .ok (.getfield 37, 3) := by decide +kernel
theorem dX0_moveLighters_16 : decode cX0_moveLighters 16 = .ok (.iload_n 3, 1) := by decide +kernel
theorem dX0_moveLighters_17 : decode cX0_moveLighters 17 = .ok (.iaload, 1) := by decide +kernel
theorem dX0_moveLighters_18 : decode cX0_moveLighters 18 = .ok (.iconst (-1), 1) := by decide +kernel
theorem dX0_moveLighters_19 : decode cX0_moveLighters 19 = .ok (.if_icmp .ne 9, 3) := by decide +kernel
theorem dX0_moveLighters_22 : decode cX0_moveLighters 22 = .ok (.aload_n 0, 1) := by decide +kernel
theorem dX0_moveLighters_23 : decode cX0_moveLighters 23 = .ok (.aload_n 1, 1) := by decide +kernel
theorem dX0_moveLighters_24 : decode cX0_moveLighters 24 = .ok (.iload_n 3, 1) := by decide +kernel
theorem dX0_moveLighters_25 : decode cX0_moveLighters 25 = .ok (.invokevirtual 111, 3) := by decide +kernel
theorem dX0_moveLighters_28 : decode cX0_moveLighters 28 = .ok (.aload_n 0, 1) := by decide +kernel
theorem dX0_moveLighters_29 : decode cX0_moveLighters 29 = .ok (.getfield 37, 3) := by decide +kernel
theorem dX0_moveLighters_32 : decode cX0_moveLighters 32 = .ok (.iload_n 3, 1) := by decide +kernel
theorem dX0_moveLighters_33 : decode cX0_moveLighters 33 = .ok (.iaload, 1) := by decide +kernel
theorem dX0_moveLighters_34 : decode cX0_moveLighters 34 = .ok (.iconst (-1), 1) := by decide +kernel
theorem dX0_moveLighters_35 : decode cX0_moveLighters 35 = .ok (.if_icmp .eq 34, 3) := by decide +kernel
theorem dX0_moveLighters_38 : decode cX0_moveLighters 38 = .ok (.aload_n 0, 1) := by decide +kernel
theorem dX0_moveLighters_39 : decode cX0_moveLighters 39 = .ok (.getfield 43, 3) := by decide +kernel
theorem dX0_moveLighters_42 : decode cX0_moveLighters 42 = .ok (.iload_n 3, 1) := by decide +kernel
theorem dX0_moveLighters_43 : decode cX0_moveLighters 43 = .ok (.dup2, 1) := by decide +kernel
theorem dX0_moveLighters_44 : decode cX0_moveLighters 44 = .ok (.iaload, 1) := by decide +kernel
theorem dX0_moveLighters_45 : decode cX0_moveLighters 45 = .ok (.iconst 1, 1) := by decide +kernel
theorem dX0_moveLighters_46 : decode cX0_moveLighters 46 = .ok (.isub, 1) := by decide +kernel
theorem dX0_moveLighters_47 : decode cX0_moveLighters 47 = .ok (.iastore, 1) := by decide +kernel
theorem dX0_moveLighters_48 : decode cX0_moveLighters 48 = .ok (.aload_n 0, 1) := by decide +kernel
theorem dX0_moveLighters_49 : decode cX0_moveLighters 49 = .ok (.getfield 43, 3) := by decide +kernel
theorem dX0_moveLighters_52 : decode cX0_moveLighters 52 = .ok (.iload_n 3, 1) := by decide +kernel
theorem dX0_moveLighters_53 : decode cX0_moveLighters 53 = .ok (.iaload, 1) := by decide +kernel
theorem dX0_moveLighters_54 : decode cX0_moveLighters 54 = .ok (.ifCond .ne 15, 3) := by decide +kernel
theorem dX0_moveLighters_57 : decode cX0_moveLighters 57 = .ok (.aload_n 0, 1) := by decide +kernel
theorem dX0_moveLighters_58 : decode cX0_moveLighters 58 = .ok (.aload_n 1, 1) := by decide +kernel
theorem dX0_moveLighters_59 : decode cX0_moveLighters 59 = .ok (.iload_n 3, 1) := by decide +kernel
theorem dX0_moveLighters_60 : decode cX0_moveLighters 60 = .ok (.invokevirtual 114, 3) := by decide +kernel
theorem dX0_moveLighters_63 : decode cX0_moveLighters 63 = .ok (.ifCond .eq 6, 3) := by decide +kernel
theorem dX0_moveLighters_66 : decode cX0_moveLighters 66 = .ok (.iinc 2 1, 3) := by decide +kernel
theorem dX0_moveLighters_69 : decode cX0_moveLighters 69 = .ok (.iinc 3 1, 3) := by decide +kernel
theorem dX0_moveLighters_72 : decode cX0_moveLighters 72 = .ok (.goto (-68), 3) := by decide +kernel
theorem dX0_moveLighters_75 : decode cX0_moveLighters 75 = .ok (.iload_n 2, 1) := by decide +kernel
theorem dX0_moveLighters_76 : decode cX0_moveLighters 76 = .ok (.ireturn, 1) := by decide +kernel
set_option maxRecDepth 20000 in
theorem ggX0_lookForLamp_X0_placeOfNextLamp : GoodIn wsX0_lookForLamp wsX0_placeOfNextLamp := goodIn_r _ [14, 15, 5, 1, 16, 7, 17, 18, 19, 13, 20, 21, 4, 22, 23, 24, 25, 26, 27, 28, 29, 30, 31, 32, 33, 34, 35, 36, 37, 39, 40, 41, 42, 43, 44, 45, 46, 47, 48, 49, 50, 51, 52, 53, 54, 55, 56, 57, 58, 59, 60, 61, 62, 63, 64, 65, 66, 67, 68, 69, 70, 71] (by decide +kernel) (by decide +kernel)
set_option maxRecDepth 20000 in
theorem gX0_lookForLamp_X0_placeOfNextLamp : GoodIn wsX0_lookForLamp (wsV RX0 118 RX0 yX0_placeOfNextLamp wsX0_placeOfNextLamp) := goodIn_app (goodIn_of _ (by decide +kernel)) ggX0_lookForLamp_X0_placeOfNextLamp
set_option maxRecDepth 20000 in
theorem ggX0_lookForLamp_X1_nearerEnd : GoodIn wsX0_lookForLamp wsX1_nearerEnd := goodIn_r _ [34, 35, 36, 37, 29, 39, 40, 41, 42, 43, 44, 45, 46, 47, 48, 49, 50, 51, 52, 53, 54, 55] (by decide +kernel) (by decide +kernel)
set_option maxRecDepth 20000 in
theorem gX0_lookForLamp_X1_nearerEnd : GoodIn wsX0_lookForLamp (wsV RX0 126 RX1 yX1_nearerEnd wsX1_nearerEnd) := goodIn_app (goodIn_of _ (by decide +kernel)) ggX0_lookForLamp_X1_nearerEnd
theorem dX0_lookForLamp_0 : decode cX0_lookForLamp 0 = .ok (.aload_n 0, 1) := by decide +kernel
theorem dX0_lookForLamp_1 : decode cX0_lookForLamp 1 = .ok (.aload_n 1, 1) := by decide +kernel
theorem dX0_lookForLamp_2 : decode cX0_lookForLamp 2 = .ok (.iload_n 2, 1) := by decide +kernel
theorem dX0_lookForLamp_3 : decode cX0_lookForLamp 3 = .ok (.invokevirtual 118, 3) := by decide +kernel
theorem dX0_lookForLamp_6 : decode cX0_lookForLamp 6 = .ok (.istore_n 3, 1) := by decide +kernel
theorem dX0_lookForLamp_7 : decode cX0_lookForLamp 7 = .ok (.iload_n 3, 1) := by decide +kernel
theorem dX0_lookForLamp_8 : decode cX0_lookForLamp 8 = .ok (.iconst (-1), 1) := by decide +kernel
theorem dX0_lookForLamp_9 : decode cX0_lookForLamp 9 = .ok (.if_icmp .ne 4, 3) := by decide +kernel
theorem dX0_lookForLamp_12 : decode cX0_lookForLamp 12 = .ok (.return_, 1) := by decide +kernel
theorem dX0_lookForLamp_13 : decode cX0_lookForLamp 13 = .ok (.aload_n 1, 1) := by decide +kernel
theorem dX0_lookForLamp_14 : decode cX0_lookForLamp 14 = .ok (.getfield 122, 3) := by decide +kernel
theorem dX0_lookForLamp_17 : decode cX0_lookForLamp 17 = .ok (.iload_n 2, 1) := by decide +kernel
theorem dX0_lookForLamp_18 : decode cX0_lookForLamp 18 = .ok (.aaload, 1) := by decide +kernel
theorem dX0_lookForLamp_19 : decode cX0_lookForLamp 19 = .ok (.iload_n 3, 1) := by decide +kernel
theorem dX0_lookForLamp_20 : decode cX0_lookForLamp 20 = .ok (.iaload, 1) := by decide +kernel
theorem dX0_lookForLamp_21 : decode cX0_lookForLamp 21 = .ok (.istore 4, 2) := by decide +kernel
theorem dX0_lookForLamp_23 : decode cX0_lookForLamp 23 = .ok (.aload_n 0, 1) := by decide +kernel
theorem dX0_lookForLamp_24 : decode cX0_lookForLamp 24 = .ok (.getfield 34, 3) := by decide +kernel
theorem dX0_lookForLamp_27 : decode cX0_lookForLamp 27 = .ok (.iload_n 2, 1) := by decide +kernel
theorem dX0_lookForLamp_28 : decode cX0_lookForLamp 28 = .ok (.iaload, 1) := by decide +kernel
theorem dX0_lookForLamp_29 : decode cX0_lookForLamp 29 = .ok (.ifCond .gt 13, 3) := by decide +kernel
theorem dX0_lookForLamp_32 : decode cX0_lookForLamp 32 = .ok (.aload_n 0, 1) := by decide +kernel
theorem dX0_lookForLamp_33 : decode cX0_lookForLamp 33 = .ok (.getfield 15, 3) := by decide +kernel
theorem dX0_lookForLamp_36 : decode cX0_lookForLamp 36 = .ok (.iload 4, 2) := by decide +kernel
theorem dX0_lookForLamp_38 : decode cX0_lookForLamp 38 = .ok (.iaload, 1) := by decide +kernel
theorem dX0_lookForLamp_39 : decode cX0_lookForLamp 39 = .ok (.ifCond .le 62, 3) := by decide +kernel
theorem dX0_lookForLamp_42 : decode cX0_lookForLamp 42 = .ok (.aload_n 0, 1) := by decide +kernel
theorem dX0_lookForLamp_43 : decode cX0_lookForLamp 43 = .ok (.getfield 37, 3) := by decide +kernel
theorem dX0_lookForLamp_46 : decode cX0_lookForLamp 46 = .ok (.iload_n 2, 1) := by decide +kernel
theorem dX0_lookForLamp_47 : decode cX0_lookForLamp 47 = .ok (.iload 4, 2) := by decide +kernel
theorem dX0_lookForLamp_49 : decode cX0_lookForLamp 49 = .ok (.iastore, 1) := by decide +kernel
theorem dX0_lookForLamp_50 : decode cX0_lookForLamp 50 = .ok (.aload_n 0, 1) := by decide +kernel
theorem dX0_lookForLamp_51 : decode cX0_lookForLamp 51 = .ok (.getfield 46, 3) := by decide +kernel
theorem dX0_lookForLamp_54 : decode cX0_lookForLamp 54 = .ok (.iload_n 2, 1) := by decide +kernel
theorem dX0_lookForLamp_55 : decode cX0_lookForLamp 55 = .ok (.iload_n 3, 1) := by decide +kernel
theorem dX0_lookForLamp_56 : decode cX0_lookForLamp 56 = .ok (.iastore, 1) := by decide +kernel
theorem dX0_lookForLamp_57 : decode cX0_lookForLamp 57 = .ok (.aload_n 0, 1) := by decide +kernel
theorem dX0_lookForLamp_58 : decode cX0_lookForLamp 58 = .ok (.getfield 40, 3) := by decide +kernel
theorem dX0_lookForLamp_61 : decode cX0_lookForLamp 61 = .ok (.iload_n 2, 1) := by decide +kernel
theorem dX0_lookForLamp_62 : decode cX0_lookForLamp 62 = .ok (.aload_n 1, 1) := by decide +kernel
theorem dX0_lookForLamp_63 : decode cX0_lookForLamp 63 = .ok (.aload_n 0, 1) := by decide +kernel
theorem dX0_lookForLamp_64 : decode cX0_lookForLamp 64 = .ok (.getfield 31, 3) := by decide +kernel
theorem dX0_lookForLamp_67 : decode cX0_lookForLamp 67 = .ok (.iload_n 2, 1) := by decide +kernel
theorem dX0_lookForLamp_68 : decode cX0_lookForLamp 68 = .ok (.iaload, 1) := by decide +kernel
theorem dX0_lookForLamp_69 : decode cX0_lookForLamp 69 = .ok (.iload 4, 2) := by decide +kernel
theorem dX0_lookForLamp_71 : decode cX0_lookForLamp 71 = .ok (.invokevirtual 126, 3) := by decide +kernel
theorem dX0_lookForLamp_74 : decode cX0_lookForLamp 74 = .ok (.iastore, 1) := by decide +kernel
theorem dX0_lookForLamp_75 : decode cX0_lookForLamp 75 = .ok (.aload_n 0, 1) := by decide +kernel
theorem dX0_lookForLamp_76 : decode cX0_lookForLamp 76 = .ok (.getfield 43, 3) := by decide +kernel
theorem dX0_lookForLamp_79 : decode cX0_lookForLamp 79 = .ok (.iload_n 2, 1) := by decide +kernel
theorem dX0_lookForLamp_80 : decode cX0_lookForLamp 80 = .ok (.aload_n 1, 1) := by decide +kernel
theorem dX0_lookForLamp_81 : decode cX0_lookForLamp 81 = .ok (.getfield 130, 3) := by decide +kernel
theorem dX0_lookForLamp_84 : decode cX0_lookForLamp 84 = .ok (.aload_n 0, 1) := by decide +kernel
theorem dX0_lookForLamp_85 : decode cX0_lookForLamp 85 = .ok (.getfield 31, 3) := by decide +kernel
theorem dX0_lookForLamp_88 : decode cX0_lookForLamp 88 = .ok (.iload_n 2, 1) := by decide +kernel
theorem dX0_lookForLamp_89 : decode cX0_lookForLamp 89 = .ok (.iaload, 1) := by decide +kernel
theorem dX0_lookForLamp_90 : decode cX0_lookForLamp 90 = .ok (.aaload, 1) := by decide +kernel
theorem dX0_lookForLamp_91 : decode cX0_lookForLamp 91 = .ok (.aload_n 0, 1) := by decide +kernel
theorem dX0_lookForLamp_92 : decode cX0_lookForLamp 92 = .ok (.getfield 40, 3) := by decide +kernel
theorem dX0_lookForLamp_95 : decode cX0_lookForLamp 95 = .ok (.iload_n 2, 1) := by decide +kernel
theorem dX0_lookForLamp_96 : decode cX0_lookForLamp 96 = .ok (.iaload, 1) := by decide +kernel
theorem dX0_lookForLamp_97 : decode cX0_lookForLamp 97 = .ok (.iaload, 1) := by decide +kernel
theorem dX0_lookForLamp_98 : decode cX0_lookForLamp 98 = .ok (.iconst 3, 1) := by decide +kernel
theorem dX0_lookForLamp_99 : decode cX0_lookForLamp 99 = .ok (.iadd, 1) := by decide +kernel
theorem dX0_lookForLamp_100 : decode cX0_lookForLamp 100 = .ok (.iastore, 1) := by decide +kernel
theorem dX0_lookForLamp_101 : decode cX0_lookForLamp 101 = .ok (.return_, 1) := by decide +kernel
set_option maxRecDepth 20000 in
theorem ggX0_placeOfNextLamp_X0_whoGoesTo : GoodIn wsX0_placeOfNextLamp wsX0_whoGoesTo := goodIn_r _ [10, 11, 12, 29, 30, 31, 32, 33, 34, 35, 36, 37, 38, 39, 40, 41, 42, 43, 44, 45, 46, 47, 48, 49, 50, 51, 52, 53, 54, 55, 56, 57, 58, 59, 60, 61] (by decide +kernel) (by decide +kernel)
set_option maxRecDepth 20000 in
theorem gX0_placeOfNextLamp_X0_whoGoesTo : GoodIn wsX0_placeOfNextLamp (wsV RX0 136 RX0 yX0_whoGoesTo wsX0_whoGoesTo) := goodIn_app (goodIn_of _ (by decide +kernel)) ggX0_placeOfNextLamp_X0_whoGoesTo
set_option maxRecDepth 20000 in
theorem ggX0_placeOfNextLamp_X1_canReach : GoodIn wsX0_placeOfNextLamp wsX1_canReach := goodIn_r _ [17, 18, 19, 20, 21, 22, 23, 24, 16, 25, 26, 27, 28, 29, 30, 31, 32, 33, 34, 35, 36, 37, 38, 39, 40, 41, 42, 43, 44, 45] (by decide +kernel) (by decide +kernel)
set_option maxRecDepth 20000 in
theorem gX0_placeOfNextLamp_X1_canReach : GoodIn wsX0_placeOfNextLamp (wsV RX0 139 RX1 yX1_canReach wsX1_canReach) := goodIn_app (goodIn_of _ (by decide +kernel)) ggX0_placeOfNextLamp_X1_canReach
theorem dX0_placeOfNextLamp_0 : decode cX0_placeOfNextLamp 0 = .ok (.aload_n 1, 1) := by decide +kernel
theorem dX0_placeOfNextLamp_1 : decode cX0_placeOfNextLamp 1 = .ok (.getfield 133, 3) := by decide +kernel
theorem dX0_placeOfNextLamp_4 : decode cX0_placeOfNextLamp 4 = .ok (.iload_n 2, 1) := by decide +kernel
theorem dX0_placeOfNextLamp_5 : decode cX0_placeOfNextLamp 5 = .ok (.iaload, 1) := by decide +kernel
theorem dX0_placeOfNextLamp_6 : decode cX0_placeOfNextLamp 6 = .ok (.istore_n 3, 1) := by decide +kernel
theorem dX0_placeOfNextLamp_7 : decode cX0_placeOfNextLamp 7 = .ok (.aload_n 0, 1) := by decide +kernel
theorem dX0_placeOfNextLamp_8 : decode cX0_placeOfNextLamp 8 = .ok (.getfield 46, 3) := by decide +kernel
theorem dX0_placeOfNextLamp_11 : decode cX0_placeOfNextLamp 11 = .ok (.iload_n 2, 1) := by decide +kernel
theorem dX0_placeOfNextLamp_12 : decode cX0_placeOfNextLamp 12 = .ok (.iaload, 1) := by decide +kernel
theorem dX0_placeOfNextLamp_13 : decode cX0_placeOfNextLamp 13 = .ok (.istore 4, 2) := by decide +kernel
theorem dX0_placeOfNextLamp_15 : decode cX0_placeOfNextLamp 15 = .ok (.iconst 0, 1) := by decide +kernel
theorem dX0_placeOfNextLamp_16 : decode cX0_placeOfNextLamp 16 = .ok (.istore 5, 2) := by decide +kernel
theorem dX0_placeOfNextLamp_18 : decode cX0_placeOfNextLamp 18 = .ok (.iload 5, 2) := by decide +kernel
theorem dX0_placeOfNextLamp_20 : decode cX0_placeOfNextLamp 20 = .ok (.iload_n 3, 1) := by decide +kernel
theorem dX0_placeOfNextLamp_21 : decode cX0_placeOfNextLamp 21 = .ok (.if_icmp .ge 78, 3) := by decide +kernel
theorem dX0_placeOfNextLamp_24 : decode cX0_placeOfNextLamp 24 = .ok (.iload 4, 2) := by decide +kernel
theorem dX0_placeOfNextLamp_26 : decode cX0_placeOfNextLamp 26 = .ok (.iconst 1, 1) := by decide +kernel
theorem dX0_placeOfNextLamp_27 : decode cX0_placeOfNextLamp 27 = .ok (.iadd, 1) := by decide +kernel
theorem dX0_placeOfNextLamp_28 : decode cX0_placeOfNextLamp 28 = .ok (.iload_n 3, 1) := by decide +kernel
theorem dX0_placeOfNextLamp_29 : decode cX0_placeOfNextLamp 29 = .ok (.if_icmp .ge 10, 3) := by decide +kernel
theorem dX0_placeOfNextLamp_32 : decode cX0_placeOfNextLamp 32 = .ok (.iload 4, 2) := by decide +kernel
theorem dX0_placeOfNextLamp_34 : decode cX0_placeOfNextLamp 34 = .ok (.iconst 1, 1) := by decide +kernel
theorem dX0_placeOfNextLamp_35 : decode cX0_placeOfNextLamp 35 = .ok (.iadd, 1) := by decide +kernel
theorem dX0_placeOfNextLamp_36 : decode cX0_placeOfNextLamp 36 = .ok (.goto 4, 3) := by decide +kernel
theorem dX0_placeOfNextLamp_39 : decode cX0_placeOfNextLamp 39 = .ok (.iconst 0, 1) := by decide +kernel
theorem dX0_placeOfNextLamp_40 : decode cX0_placeOfNextLamp 40 = .ok (.istore 4, 2) := by decide +kernel
theorem dX0_placeOfNextLamp_42 : decode cX0_placeOfNextLamp 42 = .ok (.aload_n 1, 1) := by decide +kernel
theorem dX0_placeOfNextLamp_43 : decode cX0_placeOfNextLamp 43 = .ok (.getfield 122, 3) := by decide +kernel
theorem dX0_placeOfNextLamp_46 : decode cX0_placeOfNextLamp 46 = .ok (.iload_n 2, 1) := by decide +kernel
theorem dX0_placeOfNextLamp_47 : decode cX0_placeOfNextLamp 47 = .ok (.aaload, 1) := by decide +kernel
theorem dX0_placeOfNextLamp_48 : decode cX0_placeOfNextLamp 48 = .ok (.iload 4, 2) := by decide +kernel
theorem dX0_placeOfNextLamp_50 : decode cX0_placeOfNextLamp 50 = .ok (.iaload, 1) := by decide +kernel
theorem dX0_placeOfNextLamp_51 : decode cX0_placeOfNextLamp 51 = .ok (.istore 6, 2) := by decide +kernel
theorem dX0_placeOfNextLamp_53 : decode cX0_placeOfNextLamp 53 = .ok (.aload_n 0, 1) := by decide +kernel
theorem dX0_placeOfNextLamp_54 : decode cX0_placeOfNextLamp 54 = .ok (.getfield 21, 3) := by decide +kernel
theorem dX0_placeOfNextLamp_57 : decode cX0_placeOfNextLamp 57 = .ok (.iload 6, 2) := by decide +kernel
theorem dX0_placeOfNextLamp_59 : decode cX0_placeOfNextLamp 59 = .ok (.baload, 1) := by decide +kernel
theorem dX0_placeOfNextLamp_60 : decode cX0_placeOfNextLamp 60 = .ok (.ifCond .ne 33, 3) := by decide +kernel
theorem dX0_placeOfNextLamp_63 : decode cX0_placeOfNextLamp 63 = .ok (.aload_n 0, 1) := by decide +kernel
theorem dX0_placeOfNextLamp_64 : decode cX0_placeOfNextLamp 64 = .ok (.aload_n 1, 1) := by decide +kernel
theorem dX0_placeOfNextLamp_65 : decode cX0_placeOfNextLamp 65 = .ok (.iload 6, 2) := by decide +kernel
theorem dX0_placeOfNextLamp_67 : decode cX0_placeOfNextLamp 67 = .ok (.invokevirtual 136, 3) := by decide +kernel
theorem dX0_placeOfNextLamp_70 : decode cX0_placeOfNextLamp 70 = .ok (.iconst (-1), 1) := by decide +kernel
theorem dX0_placeOfNextLamp_71 : decode cX0_placeOfNextLamp 71 = .ok (.if_icmp .ne 22, 3) := by decide +kernel
theorem dX0_placeOfNextLamp_74 : decode cX0_placeOfNextLamp 74 = .ok (.aload_n 1, 1) := by decide +kernel
theorem dX0_placeOfNextLamp_75 : decode cX0_placeOfNextLamp 75 = .ok (.iload_n 2, 1) := by decide +kernel
theorem dX0_placeOfNextLamp_76 : decode cX0_placeOfNextLamp 76 = .ok (.aload_n 0, 1) := by decide +kernel
theorem dX0_placeOfNextLamp_77 : decode cX0_placeOfNextLamp 77 = .ok (.getfield 31, 3) := by decide +kernel
theorem dX0_placeOfNextLamp_80 : decode cX0_placeOfNextLamp 80 = .ok (.iload_n 2, 1) := by decide +kernel
theorem dX0_placeOfNextLamp_81 : decode cX0_placeOfNextLamp 81 = .ok (.iaload, 1) := by decide +kernel
theorem dX0_placeOfNextLamp_82 : decode cX0_placeOfNextLamp 82 = .ok (.iload 6, 2) := by decide +kernel
theorem dX0_placeOfNextLamp_84 : decode cX0_placeOfNextLamp 84 = .ok (.invokevirtual 139, 3) := by decide +kernel
theorem dX0_placeOfNextLamp_87 : decode cX0_placeOfNextLamp 87 = .ok (.ifCond .eq 6, 3) := by decide +kernel
theorem dX0_placeOfNextLamp_90 : decode cX0_placeOfNextLamp 90 = .ok (.iload 4, 2) := by decide +kernel
theorem dX0_placeOfNextLamp_92 : decode cX0_placeOfNextLamp 92 = .ok (.ireturn, 1) := by decide +kernel
theorem dX0_placeOfNextLamp_93 : decode cX0_placeOfNextLamp 93 = .ok (.iinc 5 1, 3) := by decide +kernel
theorem dX0_placeOfNextLamp_96 : decode cX0_placeOfNextLamp 96 = .ok (.goto (-78), 3) := by decide +kernel
theorem dX0_placeOfNextLamp_99 : decode cX0_placeOfNextLamp 99 = .ok (.iconst (-1), 1) := by decide +kernel
theorem dX0_placeOfNextLamp_100 : decode cX0_placeOfNextLamp 100 = .ok (.ireturn, 1) := by decide +kernel
set_option maxRecDepth 20000 in
theorem ggX0_tendLamp_X0_waitFromNow : GoodIn wsX0_tendLamp wsX0_waitFromNow := goodIn_r _ [20, 1, 21, 22, 23, 24, 25, 26, 27, 28, 29, 30, 31, 32, 33, 34, 35, 36, 37] (by decide +kernel) (by decide +kernel)
set_option maxRecDepth 20000 in
theorem gX0_tendLamp_X0_waitFromNow : GoodIn wsX0_tendLamp (wsV RX0 100 RX0 yX0_waitFromNow wsX0_waitFromNow) := goodIn_app (goodIn_of _ (by decide +kernel)) ggX0_tendLamp_X0_waitFromNow
theorem dX0_tendLamp_0 : decode cX0_tendLamp 0 = .ok (.aload_n 0, 1) := by decide +kernel
theorem dX0_tendLamp_1 : decode cX0_tendLamp 1 = .ok (.getfield 37, 3) := by decide +kernel
theorem dX0_tendLamp_4 : decode cX0_tendLamp 4 = .ok (.iload_n 2, 1) := by decide +kernel
theorem dX0_tendLamp_5 : decode cX0_tendLamp 5 = .ok (.iaload, 1) := by decide +kernel
theorem dX0_tendLamp_6 : decode cX0_tendLamp 6 = .ok (.istore_n 3, 1) := by decide +kernel
theorem dX0_tendLamp_7 : decode cX0_tendLamp 7 = .ok (.aload_n 0, 1) := by decide +kernel
theorem dX0_tendLamp_8 : decode cX0_tendLamp 8 = .ok (.getfield 31, 3) := by decide +kernel
theorem dX0_tendLamp_11 : decode cX0_tendLamp 11 = .ok (.iload_n 2, 1) := by decide +kernel
theorem dX0_tendLamp_12 : decode cX0_tendLamp 12 = .ok (.aload_n 0, 1) := by decide +kernel
theorem dX0_tendLamp_13 : decode cX0_tendLamp 13 = .ok (.getfield 40, 3) := by decide +kernel
theorem dX0_tendLamp_16 : decode cX0_tendLamp 16 = .ok (.iload_n 2, 1) := by decide +kernel
theorem dX0_tendLamp_17 : decode cX0_tendLamp 17 = .ok (.iaload, 1) := by decide +kernel
theorem dX0_tendLamp_18 : decode cX0_tendLamp 18 = .ok (.iastore, 1) := by decide +kernel
theorem dX0_tendLamp_19 : decode cX0_tendLamp 19 = .ok (.aload_n 0, 1) := by decide +kernel
theorem dX0_tendLamp_20 : decode cX0_tendLamp 20 = .ok (.iload_n 2, 1) := by decide +kernel
theorem dX0_tendLamp_21 : decode cX0_tendLamp 21 = .ok (.invokevirtual 100, 3) := by decide +kernel
theorem dX0_tendLamp_24 : decode cX0_tendLamp 24 = .ok (.aload_n 0, 1) := by decide +kernel
theorem dX0_tendLamp_25 : decode cX0_tendLamp 25 = .ok (.getfield 34, 3) := by decide +kernel
theorem dX0_tendLamp_28 : decode cX0_tendLamp 28 = .ok (.iload_n 2, 1) := by decide +kernel
theorem dX0_tendLamp_29 : decode cX0_tendLamp 29 = .ok (.iaload, 1) := by decide +kernel
theorem dX0_tendLamp_30 : decode cX0_tendLamp 30 = .ok (.sipush 300, 3) := by decide +kernel
theorem dX0_tendLamp_33 : decode cX0_tendLamp 33 = .ok (.aload_n 0, 1) := by decide +kernel
theorem dX0_tendLamp_34 : decode cX0_tendLamp 34 = .ok (.getfield 15, 3) := by decide +kernel
theorem dX0_tendLamp_37 : decode cX0_tendLamp 37 = .ok (.iload_n 3, 1) := by decide +kernel
theorem dX0_tendLamp_38 : decode cX0_tendLamp 38 = .ok (.iaload, 1) := by decide +kernel
theorem dX0_tendLamp_39 : decode cX0_tendLamp 39 = .ok (.isub, 1) := by decide +kernel
theorem dX0_tendLamp_40 : decode cX0_tendLamp 40 = .ok (.invokestatic 143, 3) := by decide +kernel
theorem dX0_tendLamp_43 : decode cX0_tendLamp 43 = .ok (.istore 4, 2) := by decide +kernel
theorem dX0_tendLamp_45 : decode cX0_tendLamp 45 = .ok (.aload_n 0, 1) := by decide +kernel
theorem dX0_tendLamp_46 : decode cX0_tendLamp 46 = .ok (.getfield 34, 3) := by decide +kernel
theorem dX0_tendLamp_49 : decode cX0_tendLamp 49 = .ok (.iload_n 2, 1) := by decide +kernel
theorem dX0_tendLamp_50 : decode cX0_tendLamp 50 = .ok (.dup2, 1) := by decide +kernel
theorem dX0_tendLamp_51 : decode cX0_tendLamp 51 = .ok (.iaload, 1) := by decide +kernel
theorem dX0_tendLamp_52 : decode cX0_tendLamp 52 = .ok (.iload 4, 2) := by decide +kernel
theorem dX0_tendLamp_54 : decode cX0_tendLamp 54 = .ok (.isub, 1) := by decide +kernel
theorem dX0_tendLamp_55 : decode cX0_tendLamp 55 = .ok (.iastore, 1) := by decide +kernel
theorem dX0_tendLamp_56 : decode cX0_tendLamp 56 = .ok (.aload_n 0, 1) := by decide +kernel
theorem dX0_tendLamp_57 : decode cX0_tendLamp 57 = .ok (.getfield 15, 3) := by decide +kernel
theorem dX0_tendLamp_60 : decode cX0_tendLamp 60 = .ok (.iload_n 3, 1) := by decide +kernel
theorem dX0_tendLamp_61 : decode cX0_tendLamp 61 = .ok (.dup2, 1) := by decide +kernel
theorem dX0_tendLamp_62 : decode cX0_tendLamp 62 = .ok (.iaload, 1) := by decide +kernel
theorem dX0_tendLamp_63 : decode cX0_tendLamp 63 = .ok (.iload 4, 2) := by decide +kernel
theorem dX0_tendLamp_65 : decode cX0_tendLamp 65 = .ok (.iadd, 1) := by decide +kernel
theorem dX0_tendLamp_66 : decode cX0_tendLamp 66 = .ok (.iastore, 1) := by decide +kernel
theorem dX0_tendLamp_67 : decode cX0_tendLamp 67 = .ok (.aload_n 0, 1) := by decide +kernel
theorem dX0_tendLamp_68 : decode cX0_tendLamp 68 = .ok (.getfield 18, 3) := by decide +kernel
theorem dX0_tendLamp_71 : decode cX0_tendLamp 71 = .ok (.iload_n 3, 1) := by decide +kernel
theorem dX0_tendLamp_72 : decode cX0_tendLamp 72 = .ok (.iconst 0, 1) := by decide +kernel
theorem dX0_tendLamp_73 : decode cX0_tendLamp 73 = .ok (.iastore, 1) := by decide +kernel
theorem dX0_tendLamp_74 : decode cX0_tendLamp 74 = .ok (.aload_n 0, 1) := by decide +kernel
theorem dX0_tendLamp_75 : decode cX0_tendLamp 75 = .ok (.getfield 15, 3) := by decide +kernel
theorem dX0_tendLamp_78 : decode cX0_tendLamp 78 = .ok (.iload_n 3, 1) := by decide +kernel
theorem dX0_tendLamp_79 : decode cX0_tendLamp 79 = .ok (.iaload, 1) := by decide +kernel
theorem dX0_tendLamp_80 : decode cX0_tendLamp 80 = .ok (.ifCond .ne 5, 3) := by decide +kernel
theorem dX0_tendLamp_83 : decode cX0_tendLamp 83 = .ok (.iconst 0, 1) := by decide +kernel
theorem dX0_tendLamp_84 : decode cX0_tendLamp 84 = .ok (.ireturn, 1) := by decide +kernel
theorem dX0_tendLamp_85 : decode cX0_tendLamp 85 = .ok (.aload_n 0, 1) := by decide +kernel
theorem dX0_tendLamp_86 : decode cX0_tendLamp 86 = .ok (.getfield 21, 3) := by decide +kernel
theorem dX0_tendLamp_89 : decode cX0_tendLamp 89 = .ok (.iload_n 3, 1) := by decide +kernel
theorem dX0_tendLamp_90 : decode cX0_tendLamp 90 = .ok (.iconst 1, 1) := by decide +kernel
theorem dX0_tendLamp_91 : decode cX0_tendLamp 91 = .ok (.bastore, 1) := by decide +kernel
theorem dX0_tendLamp_92 : decode cX0_tendLamp 92 = .ok (.aload_n 0, 1) := by decide +kernel
theorem dX0_tendLamp_93 : decode cX0_tendLamp 93 = .ok (.getfield 9, 3) := by decide +kernel
theorem dX0_tendLamp_96 : decode cX0_tendLamp 96 = .ok (.aload_n 1, 1) := by decide +kernel
theorem dX0_tendLamp_97 : decode cX0_tendLamp 97 = .ok (.getfield 148, 3) := by decide +kernel
theorem dX0_tendLamp_100 : decode cX0_tendLamp 100 = .ok (.iload_n 3, 1) := by decide +kernel
theorem dX0_tendLamp_101 : decode cX0_tendLamp 101 = .ok (.iaload, 1) := by decide +kernel
theorem dX0_tendLamp_102 : decode cX0_tendLamp 102 = .ok (.dup2, 1) := by decide +kernel
theorem dX0_tendLamp_103 : decode cX0_tendLamp 103 = .ok (.iaload, 1) := by decide +kernel
theorem dX0_tendLamp_104 : decode cX0_tendLamp 104 = .ok (.iconst 1, 1) := by decide +kernel
theorem dX0_tendLamp_105 : decode cX0_tendLamp 105 = .ok (.iadd, 1) := by decide +kernel
theorem dX0_tendLamp_106 : decode cX0_tendLamp 106 = .ok (.iastore, 1) := by decide +kernel
theorem dX0_tendLamp_107 : decode cX0_tendLamp 107 = .ok (.aload_n 0, 1) := by decide +kernel
theorem dX0_tendLamp_108 : decode cX0_tendLamp 108 = .ok (.getfield 25, 3) := by decide +kernel
theorem dX0_tendLamp_111 : decode cX0_tendLamp 111 = .ok (.iload_n 3, 1) := by decide +kernel
theorem dX0_tendLamp_112 : decode cX0_tendLamp 112 = .ok (.dup2, 1) := by decide +kernel
theorem dX0_tendLamp_113 : decode cX0_tendLamp 113 = .ok (.iaload, 1) := by decide +kernel
theorem dX0_tendLamp_114 : decode cX0_tendLamp 114 = .ok (.iconst 1, 1) := by decide +kernel
theorem dX0_tendLamp_115 : decode cX0_tendLamp 115 = .ok (.iadd, 1) := by decide +kernel
theorem dX0_tendLamp_116 : decode cX0_tendLamp 116 = .ok (.iastore, 1) := by decide +kernel
theorem dX0_tendLamp_117 : decode cX0_tendLamp 117 = .ok (.aload_n 0, 1) := by decide +kernel
theorem dX0_tendLamp_118 : decode cX0_tendLamp 118 = .ok (.getfield 49, 3) := by decide +kernel
theorem dX0_tendLamp_121 : decode cX0_tendLamp 121 = .ok (.iload_n 2, 1) := by decide +kernel
theorem dX0_tendLamp_122 : decode cX0_tendLamp 122 = .ok (.dup2, 1) := by decide +kernel
theorem dX0_tendLamp_123 : decode cX0_tendLamp 123 = .ok (.iaload, 1) := by decide +kernel
theorem dX0_tendLamp_124 : decode cX0_tendLamp 124 = .ok (.iconst 1, 1) := by decide +kernel
theorem dX0_tendLamp_125 : decode cX0_tendLamp 125 = .ok (.iadd, 1) := by decide +kernel
theorem dX0_tendLamp_126 : decode cX0_tendLamp 126 = .ok (.iastore, 1) := by decide +kernel
theorem dX0_tendLamp_127 : decode cX0_tendLamp 127 = .ok (.iconst 1, 1) := by decide +kernel
theorem dX0_tendLamp_128 : decode cX0_tendLamp 128 = .ok (.ireturn, 1) := by decide +kernel
theorem dX0_waitFromNow_0 : decode cX0_waitFromNow 0 = .ok (.aload_n 0, 1) := by decide +kernel
theorem dX0_waitFromNow_1 : decode cX0_waitFromNow 1 = .ok (.getfield 37, 3) := by decide +kernel
theorem dX0_waitFromNow_4 : decode cX0_waitFromNow 4 = .ok (.iload_n 1, 1) := by decide +kernel
theorem dX0_waitFromNow_5 : decode cX0_waitFromNow 5 = .ok (.iconst (-1), 1) := by decide +kernel
theorem dX0_waitFromNow_6 : decode cX0_waitFromNow 6 = .ok (.iastore, 1) := by decide +kernel
theorem dX0_waitFromNow_7 : decode cX0_waitFromNow 7 = .ok (.aload_n 0, 1) := by decide +kernel
theorem dX0_waitFromNow_8 : decode cX0_waitFromNow 8 = .ok (.getfield 43, 3) := by decide +kernel
theorem dX0_waitFromNow_11 : decode cX0_waitFromNow 11 = .ok (.iload_n 1, 1) := by decide +kernel
theorem dX0_waitFromNow_12 : decode cX0_waitFromNow 12 = .ok (.iconst 0, 1) := by decide +kernel
theorem dX0_waitFromNow_13 : decode cX0_waitFromNow 13 = .ok (.iastore, 1) := by decide +kernel
theorem dX0_waitFromNow_14 : decode cX0_waitFromNow 14 = .ok (.return_, 1) := by decide +kernel
set_option maxRecDepth 20000 in
theorem ggX0_burnLamps_X0_useOil : GoodIn wsX0_burnLamps wsX0_useOil := goodIn_r _ [13, 14, 4, 5, 6, 7, 8, 15, 16, 17, 18, 12, 19, 2, 20, 21, 39, 40, 41, 42, 43, 44, 45, 46, 47, 48, 49, 50, 51, 52, 53, 54, 22, 23, 24, 25, 26, 27, 28, 29, 30, 31, 32, 33, 34, 35, 36, 37, 38] (by decide +kernel) (by decide +kernel)
set_option maxRecDepth 20000 in
theorem gX0_burnLamps_X0_useOil : GoodIn wsX0_burnLamps (wsV RX0 151 RX0 yX0_useOil wsX0_useOil) := goodIn_app (goodIn_of _ (by decide +kernel)) ggX0_burnLamps_X0_useOil
theorem dX0_burnLamps_0 : decode cX0_burnLamps 0 = .ok (.iconst 0, 1) := by decide +kernel
theorem dX0_burnLamps_1 : decode cX0_burnLamps 1 = .ok (.istore_n 2, 1) := by decide +kernel
theorem dX0_burnLamps_2 : decode cX0_burnLamps 2 = .ok (.iload_n 2, 1) := by decide +kernel
theorem dX0_burnLamps_3 : decode cX0_burnLamps 3 = .ok (.aload_n 1, 1) := by decide +kernel
theorem dX0_burnLamps_4 : decode cX0_burnLamps 4 = .ok (.getfield 85, 3) := by decide +kernel
theorem dX0_burnLamps_7 : decode cX0_burnLamps 7 = .ok (.if_icmp .ge 62, 3) := by decide +kernel
theorem dX0_burnLamps_10 : decode cX0_burnLamps 10 = .ok (.aload_n 0, 1) := by decide +kernel
theorem dX0_burnLamps_11 : decode cX0_burnLamps 11 = .ok (.getfield 21, 3) := by decide +kernel
theorem dX0_burnLamps_14 : decode cX0_burnLamps 14 = .ok (.iload_n 2, 1) := by decide +kernel
theorem dX0_burnLamps_15 : decode cX0_burnLamps 15 = .ok (.baload, 1) := by decide +kernel
theorem dX0_burnLamps_16 : decode cX0_burnLamps 16 = .ok (.ifCond .eq 9, 3) := by decide +kernel
theorem dX0_burnLamps_19 : decode cX0_burnLamps 19 = .ok (.aload_n 0, 1) := by decide +kernel
theorem dX0_burnLamps_20 : decode cX0_burnLamps 20 = .ok (.aload_n 1, 1) := by decide +kernel
theorem dX0_burnLamps_21 : decode cX0_burnLamps 21 = .ok (.iload_n 2, 1) := by decide +kernel
theorem dX0_burnLamps_22 : decode cX0_burnLamps 22 = .ok (.invokevirtual 151, 3) := by decide +kernel
theorem dX0_burnLamps_25 : decode cX0_burnLamps 25 = .ok (.aload_n 0, 1) := by decide +kernel
theorem dX0_burnLamps_26 : decode cX0_burnLamps 26 = .ok (.getfield 21, 3) := by decide +kernel
theorem dX0_burnLamps_29 : decode cX0_burnLamps 29 = .ok (.iload_n 2, 1) := by decide +kernel
theorem dX0_burnLamps_30 : decode cX0_burnLamps 30 = .ok (.baload, 1) := by decide +kernel
theorem dX0_burnLamps_31 : decode cX0_burnLamps 31 = .ok (.ifCond .eq 32, 3) := by decide +kernel
theorem dX0_burnLamps_34 : decode cX0_burnLamps 34 = .ok (.aload_n 0, 1) := by decide +kernel
theorem dX0_burnLamps_35 : decode cX0_burnLamps 35 = .ok (.getfield 52, 3) := by decide +kernel
theorem dX0_burnLamps_38 : decode cX0_burnLamps 38 = .ok (.bipush 30, 2) := by decide +kernel
theorem dX0_burnLamps_40 : decode cX0_burnLamps 40 = .ok (.irem, 1) := by decide +kernel
theorem dX0_burnLamps_41 : decode cX0_burnLamps 41 = .ok (.ifCond .ne 22, 3) := by decide +kernel
theorem dX0_burnLamps_44 : decode cX0_burnLamps 44 = .ok (.aload_n 0, 1) := by decide +kernel
theorem dX0_burnLamps_45 : decode cX0_burnLamps 45 = .ok (.getfield 18, 3) := by decide +kernel
theorem dX0_burnLamps_48 : decode cX0_burnLamps 48 = .ok (.iload_n 2, 1) := by decide +kernel
theorem dX0_burnLamps_49 : decode cX0_burnLamps 49 = .ok (.bipush 9, 2) := by decide +kernel
theorem dX0_burnLamps_51 : decode cX0_burnLamps 51 = .ok (.aload_n 0, 1) := by decide +kernel
theorem dX0_burnLamps_52 : decode cX0_burnLamps 52 = .ok (.getfield 18, 3) := by decide +kernel
theorem dX0_burnLamps_55 : decode cX0_burnLamps 55 = .ok (.iload_n 2, 1) := by decide +kernel
theorem dX0_burnLamps_56 : decode cX0_burnLamps 56 = .ok (.iaload, 1) := by decide +kernel
theorem dX0_burnLamps_57 : decode cX0_burnLamps 57 = .ok (.iconst 1, 1) := by decide +kernel
theorem dX0_burnLamps_58 : decode cX0_burnLamps 58 = .ok (.iadd, 1) := by decide +kernel
theorem dX0_burnLamps_59 : decode cX0_burnLamps 59 = .ok (.invokestatic 143, 3) := by decide +kernel
theorem dX0_burnLamps_62 : decode cX0_burnLamps 62 = .ok (.iastore, 1) := by decide +kernel
theorem dX0_burnLamps_63 : decode cX0_burnLamps 63 = .ok (.iinc 2 1, 3) := by decide +kernel
theorem dX0_burnLamps_66 : decode cX0_burnLamps 66 = .ok (.goto (-64), 3) := by decide +kernel
theorem dX0_burnLamps_69 : decode cX0_burnLamps 69 = .ok (.return_, 1) := by decide +kernel
set_option maxRecDepth 20000 in
theorem ggX0_useOil_X0_putOut : GoodIn wsX0_useOil wsX0_putOut := goodIn_r _ [12, 13, 14, 15, 16, 17, 18, 19, 20, 21, 22, 23, 24, 25, 26, 27, 28, 29, 30, 31, 32, 33, 34, 35, 36, 37, 38, 39, 40, 41, 42, 43, 44, 45, 46, 47, 48] (by decide +kernel) (by decide +kernel)
set_option maxRecDepth 20000 in
theorem gX0_useOil_X0_putOut : GoodIn wsX0_useOil (wsV RX0 88 RX0 yX0_putOut wsX0_putOut) := goodIn_app (goodIn_of _ (by decide +kernel)) ggX0_useOil_X0_putOut
theorem dX0_useOil_0 : decode cX0_useOil 0 = .ok (.aload_n 0, 1) := by decide +kernel
theorem dX0_useOil_1 : decode cX0_useOil 1 = .ok (.getfield 15, 3) := by decide +kernel
theorem dX0_useOil_4 : decode cX0_useOil 4 = .ok (.iload_n 2, 1) := by decide +kernel
theorem dX0_useOil_5 : decode cX0_useOil 5 = .ok (.iaload, 1) := by decide +kernel
theorem dX0_useOil_6 : decode cX0_useOil 6 = .ok (.aload_n 0, 1) := by decide +kernel
theorem dX0_useOil_7 : decode cX0_useOil 7 = .ok (.getfield 18, 3) := by decide +kernel
theorem dX0_useOil_10 : decode cX0_useOil 10 = .ok (.iload_n 2, 1) := by decide +kernel
theorem dX0_useOil_11 : decode cX0_useOil 11 = .ok (.iaload, 1) := by decide +kernel
theorem dX0_useOil_12 : decode cX0_useOil 12 = .ok (.iconst 5, 1) := by decide +kernel
theorem dX0_useOil_13 : decode cX0_useOil 13 = .ok (.if_icmp .lt 7, 3) := by decide +kernel
theorem dX0_useOil_16 : decode cX0_useOil 16 = .ok (.iconst 2, 1) := by decide +kernel
theorem dX0_useOil_17 : decode cX0_useOil 17 = .ok (.goto 4, 3) := by decide +kernel
theorem dX0_useOil_20 : decode cX0_useOil 20 = .ok (.iconst 1, 1) := by decide +kernel
theorem dX0_useOil_21 : decode cX0_useOil 21 = .ok (.invokestatic 143, 3) := by decide +kernel
theorem dX0_useOil_24 : decode cX0_useOil 24 = .ok (.istore_n 3, 1) := by decide +kernel
theorem dX0_useOil_25 : decode cX0_useOil 25 = .ok (.aload_n 0, 1) := by decide +kernel
theorem dX0_useOil_26 : decode cX0_useOil 26 = .ok (.getfield 15, 3) := by decide +kernel
theorem dX0_useOil_29 : decode cX0_useOil 29 = .ok (.iload_n 2, 1) := by decide +kernel
theorem dX0_useOil_30 : decode cX0_useOil 30 = .ok (.dup2, 1) := by decide +kernel
theorem dX0_useOil_31 : decode cX0_useOil 31 = .ok (.iaload, 1) := by decide +kernel
theorem dX0_useOil_32 : decode cX0_useOil 32 = .ok (.iload_n 3, 1) := by decide +kernel
theorem dX0_useOil_33 : decode cX0_useOil 33 = .ok (.isub, 1) := by decide +kernel
theorem dX0_useOil_34 : decode cX0_useOil 34 = .ok (.iastore, 1) := by decide +kernel
theorem dX0_useOil_35 : decode cX0_useOil 35 = .ok (.aload_n 0, 1) := by decide +kernel
theorem dX0_useOil_36 : decode cX0_useOil 36 = .ok (.dup, 1) := by decide +kernel
theorem dX0_useOil_37 : decode cX0_useOil 37 = .ok (.getfield 59, 3) := by decide +kernel
theorem dX0_useOil_40 : decode cX0_useOil 40 = .ok (.iload_n 3, 1) := by decide +kernel
theorem dX0_useOil_41 : decode cX0_useOil 41 = .ok (.iadd, 1) := by decide +kernel
theorem dX0_useOil_42 : decode cX0_useOil 42 = .ok (.putfield 59, 3) := by decide +kernel
theorem dX0_useOil_45 : decode cX0_useOil 45 = .ok (.aload_n 0, 1) := by decide +kernel
theorem dX0_useOil_46 : decode cX0_useOil 46 = .ok (.getfield 15, 3) := by decide +kernel
theorem dX0_useOil_49 : decode cX0_useOil 49 = .ok (.iload_n 2, 1) := by decide +kernel
theorem dX0_useOil_50 : decode cX0_useOil 50 = .ok (.iaload, 1) := by decide +kernel
theorem dX0_useOil_51 : decode cX0_useOil 51 = .ok (.ifCond .ne 9, 3) := by decide +kernel
theorem dX0_useOil_54 : decode cX0_useOil 54 = .ok (.aload_n 0, 1) := by decide +kernel
theorem dX0_useOil_55 : decode cX0_useOil 55 = .ok (.aload_n 1, 1) := by decide +kernel
theorem dX0_useOil_56 : decode cX0_useOil 56 = .ok (.iload_n 2, 1) := by decide +kernel
theorem dX0_useOil_57 : decode cX0_useOil 57 = .ok (.invokevirtual 88, 3) := by decide +kernel
theorem dX0_useOil_60 : decode cX0_useOil 60 = .ok (.return_, 1) := by decide +kernel
set_option maxRecDepth 20000 in
theorem ggX0_blow_X1_windAtLamp : GoodIn wsX0_blow wsX1_windAtLamp := goodIn_r _ [9, 10, 11, 12, 13, 14, 15, 16, 17, 25, 26, 27, 28, 29, 30, 31, 32, 33, 34, 35, 36, 37, 38, 39, 40, 41] (by decide +kernel) (by decide +kernel)
set_option maxRecDepth 20000 in
theorem gX0_blow_X1_windAtLamp : GoodIn wsX0_blow (wsV RX0 154 RX1 yX1_windAtLamp wsX1_windAtLamp) := goodIn_app (goodIn_of _ (by decide +kernel)) ggX0_blow_X1_windAtLamp
set_option maxRecDepth 20000 in
theorem ggX0_blow_X0_putOut : GoodIn wsX0_blow wsX0_putOut := goodIn_r _ [22, 2, 23, 24, 42, 43, 44, 45, 46, 47, 48, 49, 50, 51, 52, 53, 54, 55, 56, 57, 25, 26, 27, 28, 29, 30, 31, 32, 33, 34, 35, 36, 37, 38, 39, 40, 41] (by decide +kernel) (by decide +kernel)
set_option maxRecDepth 20000 in
theorem gX0_blow_X0_putOut : GoodIn wsX0_blow (wsV RX0 88 RX0 yX0_putOut wsX0_putOut) := goodIn_app (goodIn_of _ (by decide +kernel)) ggX0_blow_X0_putOut
theorem dX0_blow_0 : decode cX0_blow 0 = .ok (.iconst 0, 1) := by decide +kernel
theorem dX0_blow_1 : decode cX0_blow 1 = .ok (.istore_n 3, 1) := by decide +kernel
theorem dX0_blow_2 : decode cX0_blow 2 = .ok (.iload_n 3, 1) := by decide +kernel
theorem dX0_blow_3 : decode cX0_blow 3 = .ok (.aload_n 1, 1) := by decide +kernel
theorem dX0_blow_4 : decode cX0_blow 4 = .ok (.getfield 85, 3) := by decide +kernel
theorem dX0_blow_7 : decode cX0_blow 7 = .ok (.if_icmp .ge 51, 3) := by decide +kernel
theorem dX0_blow_10 : decode cX0_blow 10 = .ok (.aload_n 0, 1) := by decide +kernel
theorem dX0_blow_11 : decode cX0_blow 11 = .ok (.getfield 21, 3) := by decide +kernel
theorem dX0_blow_14 : decode cX0_blow 14 = .ok (.iload_n 3, 1) := by decide +kernel
theorem dX0_blow_15 : decode cX0_blow 15 = .ok (.baload, 1) := by decide +kernel
theorem dX0_blow_16 : decode cX0_blow 16 = .ok (.ifCond .eq 36, 3) := by decide +kernel
theorem dX0_blow_19 : decode cX0_blow 19 = .ok (.aload_n 1, 1) := by decide +kernel
theorem dX0_blow_20 : decode cX0_blow 20 = .ok (.iload_n 3, 1) := by decide +kernel
theorem dX0_blow_21 : decode cX0_blow 21 = .ok (.iload_n 2, 1) := by decide +kernel
theorem dX0_blow_22 : decode cX0_blow 22 = .ok (.invokevirtual 154, 3) := by decide +kernel
theorem dX0_blow_25 : decode cX0_blow 25 = .ok (.aload_n 1, 1) := by decide +kernel
theorem dX0_blow_26 : decode cX0_blow 26 = .ok (.getfield 157, 3) := by decide +kernel
theorem dX0_blow_29 : decode cX0_blow 29 = .ok (.iload_n 3, 1) := by decide +kernel
theorem dX0_blow_30 : decode cX0_blow 30 = .ok (.iaload, 1) := by decide +kernel
theorem dX0_blow_31 : decode cX0_blow 31 = .ok (.iconst 4, 1) := by decide +kernel
theorem dX0_blow_32 : decode cX0_blow 32 = .ok (.iadd, 1) := by decide +kernel
theorem dX0_blow_33 : decode cX0_blow 33 = .ok (.if_icmp .le 19, 3) := by decide +kernel
theorem dX0_blow_36 : decode cX0_blow 36 = .ok (.aload_n 0, 1) := by decide +kernel
theorem dX0_blow_37 : decode cX0_blow 37 = .ok (.aload_n 1, 1) := by decide +kernel
theorem dX0_blow_38 : decode cX0_blow 38 = .ok (.iload_n 3, 1) := by decide +kernel
theorem dX0_blow_39 : decode cX0_blow 39 = .ok (.invokevirtual 88, 3) := by decide +kernel
theorem dX0_blow_42 : decode cX0_blow 42 = .ok (.aload_n 0, 1) := by decide +kernel
theorem dX0_blow_43 : decode cX0_blow 43 = .ok (.getfield 28, 3) := by decide +kernel
theorem dX0_blow_46 : decode cX0_blow 46 = .ok (.iload_n 3, 1) := by decide +kernel
theorem dX0_blow_47 : decode cX0_blow 47 = .ok (.dup2, 1) := by decide +kernel
theorem dX0_blow_48 : decode cX0_blow 48 = .ok (.iaload, 1) := by decide +kernel
theorem dX0_blow_49 : decode cX0_blow 49 = .ok (.iconst 1, 1) := by decide +kernel
theorem dX0_blow_50 : decode cX0_blow 50 = .ok (.iadd, 1) := by decide +kernel
theorem dX0_blow_51 : decode cX0_blow 51 = .ok (.iastore, 1) := by decide +kernel
theorem dX0_blow_52 : decode cX0_blow 52 = .ok (.iinc 3 1, 3) := by decide +kernel
theorem dX0_blow_55 : decode cX0_blow 55 = .ok (.goto (-53), 3) := by decide +kernel
theorem dX0_blow_58 : decode cX0_blow 58 = .ok (.return_, 1) := by decide +kernel
theorem dX0_putOut_0 : decode cX0_putOut 0 = .ok (.aload_n 0, 1) := by decide +kernel
theorem dX0_putOut_1 : decode cX0_putOut 1 = .ok (.getfield 21, 3) := by decide +kernel
theorem dX0_putOut_4 : decode cX0_putOut 4 = .ok (.iload_n 2, 1) := by decide +kernel
theorem dX0_putOut_5 : decode cX0_putOut 5 = .ok (.iconst 0, 1) := by decide +kernel
theorem dX0_putOut_6 : decode cX0_putOut 6 = .ok (.bastore, 1) := by decide +kernel
theorem dX0_putOut_7 : decode cX0_putOut 7 = .ok (.aload_n 0, 1) := by decide +kernel
theorem dX0_putOut_8 : decode cX0_putOut 8 = .ok (.getfield 9, 3) := by decide +kernel
theorem dX0_putOut_11 : decode cX0_putOut 11 = .ok (.aload_n 1, 1) := by decide +kernel
theorem dX0_putOut_12 : decode cX0_putOut 12 = .ok (.getfield 148, 3) := by decide +kernel
theorem dX0_putOut_15 : decode cX0_putOut 15 = .ok (.iload_n 2, 1) := by decide +kernel
theorem dX0_putOut_16 : decode cX0_putOut 16 = .ok (.iaload, 1) := by decide +kernel
theorem dX0_putOut_17 : decode cX0_putOut 17 = .ok (.dup2, 1) := by decide +kernel
theorem dX0_putOut_18 : decode cX0_putOut 18 = .ok (.iaload, 1) := by decide +kernel
theorem dX0_putOut_19 : decode cX0_putOut 19 = .ok (.iconst 1, 1) := by decide +kernel
theorem dX0_putOut_20 : decode cX0_putOut 20 = .ok (.isub, 1) := by decide +kernel
theorem dX0_putOut_21 : decode cX0_putOut 21 = .ok (.iastore, 1) := by decide +kernel
theorem dX0_putOut_22 : decode cX0_putOut 22 = .ok (.return_, 1) := by decide +kernel
end
section
theorem dX1_init_0 : decode cX1_init 0 = .ok (.aload_n 0, 1) := by decide +kernel
theorem dX1_init_1 : decode cX1_init 1 = .ok (.invokespecial 3, 3) := by decide +kernel
theorem dX1_init_4 : decode cX1_init 4 = .ok (.aload_n 0, 1) := by decide +kernel
theorem dX1_init_5 : decode cX1_init 5 = .ok (.bipush 12, 2) := by decide +kernel
theorem dX1_init_7 : decode cX1_init 7 = .ok (.newarray .int, 2) := by decide +kernel
theorem dX1_init_9 : decode cX1_init 9 = .ok (.putfield 9, 3) := by decide +kernel
theorem dX1_init_12 : decode cX1_init 12 = .ok (.aload_n 0, 1) := by decide +kernel
theorem dX1_init_13 : decode cX1_init 13 = .ok (.bipush 12, 2) := by decide +kernel
theorem dX1_init_15 : decode cX1_init 15 = .ok (.bipush 12, 2) := by decide +kernel
theorem dX1_init_17 : decode cX1_init 17 = .ok (.multianewarray 15 2, 4) := by decide +kernel
theorem dX1_init_21 : decode cX1_init 21 = .ok (.putfield 17, 3) := by decide +kernel
theorem dX1_init_24 : decode cX1_init 24 = .ok (.aload_n 0, 1) := by decide +kernel
theorem dX1_init_25 : decode cX1_init 25 = .ok (.bipush 18, 2) := by decide +kernel
theorem dX1_init_27 : decode cX1_init 27 = .ok (.newarray .int, 2) := by decide +kernel
theorem dX1_init_29 : decode cX1_init 29 = .ok (.putfield 20, 3) := by decide +kernel
theorem dX1_init_32 : decode cX1_init 32 = .ok (.aload_n 0, 1) := by decide +kernel
theorem dX1_init_33 : decode cX1_init 33 = .ok (.bipush 18, 2) := by decide +kernel
theorem dX1_init_35 : decode cX1_init 35 = .ok (.newarray .int, 2) := by decide +kernel
theorem dX1_init_37 : decode cX1_init 37 = .ok (.putfield 23, 3) := by decide +kernel
theorem dX1_init_40 : decode cX1_init 40 = .ok (.aload_n 0, 1) := by decide +kernel
theorem dX1_init_41 : decode cX1_init 41 = .ok (.bipush 18, 2) := by decide +kernel
theorem dX1_init_43 : decode cX1_init 43 = .ok (.newarray .int, 2) := by decide +kernel
theorem dX1_init_45 : decode cX1_init 45 = .ok (.putfield 26, 3) := by decide +kernel
theorem dX1_init_48 : decode cX1_init 48 = .ok (.aload_n 0, 1) := by decide +kernel
theorem dX1_init_49 : decode cX1_init 49 = .ok (.bipush 20, 2) := by decide +kernel
theorem dX1_init_51 : decode cX1_init 51 = .ok (.newarray .int, 2) := by decide +kernel
theorem dX1_init_53 : decode cX1_init 53 = .ok (.putfield 29, 3) := by decide +kernel
theorem dX1_init_56 : decode cX1_init 56 = .ok (.aload_n 0, 1) := by decide +kernel
theorem dX1_init_57 : decode cX1_init 57 = .ok (.bipush 20, 2) := by decide +kernel
theorem dX1_init_59 : decode cX1_init 59 = .ok (.newarray .int, 2) := by decide +kernel
theorem dX1_init_61 : decode cX1_init 61 = .ok (.putfield 32, 3) := by decide +kernel
theorem dX1_init_64 : decode cX1_init 64 = .ok (.aload_n 0, 1) := by decide +kernel
theorem dX1_init_65 : decode cX1_init 65 = .ok (.bipush 20, 2) := by decide +kernel
theorem dX1_init_67 : decode cX1_init 67 = .ok (.newarray .int, 2) := by decide +kernel
theorem dX1_init_69 : decode cX1_init 69 = .ok (.putfield 35, 3) := by decide +kernel
theorem dX1_init_72 : decode cX1_init 72 = .ok (.aload_n 0, 1) := by decide +kernel
theorem dX1_init_73 : decode cX1_init 73 = .ok (.bipush 10, 2) := by decide +kernel
theorem dX1_init_75 : decode cX1_init 75 = .ok (.newarray .int, 2) := by decide +kernel
theorem dX1_init_77 : decode cX1_init 77 = .ok (.putfield 38, 3) := by decide +kernel
theorem dX1_init_80 : decode cX1_init 80 = .ok (.aload_n 0, 1) := by decide +kernel
theorem dX1_init_81 : decode cX1_init 81 = .ok (.iconst 4, 1) := by decide +kernel
theorem dX1_init_82 : decode cX1_init 82 = .ok (.newarray .int, 2) := by decide +kernel
theorem dX1_init_84 : decode cX1_init 84 = .ok (.putfield 41, 3) := by decide +kernel
theorem dX1_init_87 : decode cX1_init 87 = .ok (.aload_n 0, 1) := by decide +kernel
theorem dX1_init_88 : decode cX1_init 88 = .ok (.iconst 4, 1) := by decide +kernel
theorem dX1_init_89 : decode cX1_init 89 = .ok (.newarray .int, 2) := by decide +kernel
theorem dX1_init_91 : decode cX1_init 91 = .ok (.putfield 44, 3) := by decide +kernel
theorem dX1_init_94 : decode cX1_init 94 = .ok (.aload_n 0, 1) := by decide +kernel
theorem dX1_init_95 : decode cX1_init 95 = .ok (.iconst 4, 1) := by decide +kernel
theorem dX1_init_96 : decode cX1_init 96 = .ok (.newarray .int, 2) := by decide +kernel
theorem dX1_init_98 : decode cX1_init 98 = .ok (.putfield 47, 3) := by decide +kernel
theorem dX1_init_101 : decode cX1_init 101 = .ok (.aload_n 0, 1) := by decide +kernel
theorem dX1_init_102 : decode cX1_init 102 = .ok (.iconst 4, 1) := by decide +kernel
theorem dX1_init_103 : decode cX1_init 103 = .ok (.bipush 10, 2) := by decide +kernel
theorem dX1_init_105 : decode cX1_init 105 = .ok (.multianewarray 15 2, 4) := by decide +kernel
theorem dX1_init_109 : decode cX1_init 109 = .ok (.putfield 50, 3) := by decide +kernel
theorem dX1_init_112 : decode cX1_init 112 = .ok (.return_, 1) := by decide +kernel
theorem dX1_addCorner_0 : decode cX1_addCorner 0 = .ok (.aload_n 0, 1) := by decide +kernel
theorem dX1_addCorner_1 : decode cX1_addCorner 1 = .ok (.getfield 53, 3) := by decide +kernel
theorem dX1_addCorner_4 : decode cX1_addCorner 4 = .ok (.istore_n 2, 1) := by decide +kernel
theorem dX1_addCorner_5 : decode cX1_addCorner 5 = .ok (.aload_n 0, 1) := by decide +kernel
theorem dX1_addCorner_6 : decode cX1_addCorner 6 = .ok (.getfield 9, 3) := by decide +kernel
theorem dX1_addCorner_9 : decode cX1_addCorner 9 = .ok (.iload_n 2, 1) := by decide +kernel
theorem dX1_addCorner_10 : decode cX1_addCorner 10 = .ok (.iload_n 1, 1) := by decide +kernel
theorem dX1_addCorner_11 : decode cX1_addCorner 11 = .ok (.iastore, 1) := by decide +kernel
theorem dX1_addCorner_12 : decode cX1_addCorner 12 = .ok (.iconst 0, 1) := by decide +kernel
theorem dX1_addCorner_13 : decode cX1_addCorner 13 = .ok (.istore_n 3, 1) := by decide +kernel
theorem dX1_addCorner_14 : decode cX1_addCorner 14 = .ok (.iload_n 3, 1) := by decide +kernel
theorem dX1_addCorner_15 : decode cX1_addCorner 15 = .ok (.iload_n 2, 1) := by decide +kernel
theorem dX1_addCorner_16 : decode cX1_addCorner 16 = .ok (.if_icmp .ge 29, 3) := by decide +kernel
theorem dX1_addCorner_19 : decode cX1_addCorner 19 = .ok (.aload_n 0, 1) := by decide +kernel
theorem dX1_addCorner_20 : decode cX1_addCorner 20 = .ok (.getfield 17, 3) := by decide +kernel
theorem dX1_addCorner_23 : decode cX1_addCorner 23 = .ok (.iload_n 2, 1) := by decide +kernel
theorem dX1_addCorner_24 : decode cX1_addCorner 24 = .ok (.aaload, 1) := by decide +kernel
theorem dX1_addCorner_25 : decode cX1_addCorner 25 = .ok (.iload_n 3, 1) := by decide +kernel
theorem dX1_addCorner_26 : decode cX1_addCorner 26 = .ok (.ldc 57, 2) := by decide +kernel
theorem dX1_addCorner_28 : decode cX1_addCorner 28 = .ok (.iastore, 1) := by decide +kernel
theorem dX1_addCorner_29 : decode cX1_addCorner 29 = .ok (.aload_n 0, 1) := by decide +kernel
theorem dX1_addCorner_30 : decode cX1_addCorner 30 = .ok (.getfield 17, 3) := by decide +kernel
theorem dX1_addCorner_33 : decode cX1_addCorner 33 = .ok (.iload_n 3, 1) := by decide +kernel
theorem dX1_addCorner_34 : decode cX1_addCorner 34 = .ok (.aaload, 1) := by decide +kernel
theorem dX1_addCorner_35 : decode cX1_addCorner 35 = .ok (.iload_n 2, 1) := by decide +kernel
theorem dX1_addCorner_36 : decode cX1_addCorner 36 = .ok (.ldc 57, 2) := by decide +kernel
theorem dX1_addCorner_38 : decode cX1_addCorner 38 = .ok (.iastore, 1) := by decide +kernel
theorem dX1_addCorner_39 : decode cX1_addCorner 39 = .ok (.iinc 3 1, 3) := by decide +kernel
theorem dX1_addCorner_42 : decode cX1_addCorner 42 = .ok (.goto (-28), 3) := by decide +kernel
theorem dX1_addCorner_45 : decode cX1_addCorner 45 = .ok (.aload_n 0, 1) := by decide +kernel
theorem dX1_addCorner_46 : decode cX1_addCorner 46 = .ok (.getfield 17, 3) := by decide +kernel
theorem dX1_addCorner_49 : decode cX1_addCorner 49 = .ok (.iload_n 2, 1) := by decide +kernel
theorem dX1_addCorner_50 : decode cX1_addCorner 50 = .ok (.aaload, 1) := by decide +kernel
theorem dX1_addCorner_51 : decode cX1_addCorner 51 = .ok (.iload_n 2, 1) := by decide +kernel
theorem dX1_addCorner_52 : decode cX1_addCorner 52 = .ok (.iconst 0, 1) := by decide +kernel
theorem dX1_addCorner_53 : decode cX1_addCorner 53 = .ok (.iastore, 1) := by decide +kernel
theorem dX1_addCorner_54 : decode cX1_addCorner 54 = .ok (.aload_n 0, 1) := by decide +kernel
theorem dX1_addCorner_55 : decode cX1_addCorner 55 = .ok (.dup, 1) := by decide +kernel
theorem dX1_addCorner_56 : decode cX1_addCorner 56 = .ok (.getfield 53, 3) := by decide +kernel
theorem dX1_addCorner_59 : decode cX1_addCorner 59 = .ok (.iconst 1, 1) := by decide +kernel
theorem dX1_addCorner_60 : decode cX1_addCorner 60 = .ok (.iadd, 1) := by decide +kernel
theorem dX1_addCorner_61 : decode cX1_addCorner 61 = .ok (.putfield 53, 3) := by decide +kernel
theorem dX1_addCorner_64 : decode cX1_addCorner 64 = .ok (.iload_n 2, 1) := by decide +kernel
theorem dX1_addCorner_65 : decode cX1_addCorner 65 = .ok (.ireturn, 1) := by decide +kernel
set_option maxRecDepth 20000 in
theorem ggX1_addStreet_X1_minutesAlong : GoodIn wsX1_addStreet wsX1_minutesAlong := goodIn_r _ [9, 10, 11, 12, 13, 14, 24, 25, 26, 27, 28, 29, 30, 31, 32, 33, 34, 35, 36, 37, 38, 39, 40] (by decide +kernel) (by decide +kernel)
set_option maxRecDepth 20000 in
theorem gX1_addStreet_X1_minutesAlong : GoodIn wsX1_addStreet (wsV RX1 61 RX1 yX1_minutesAlong wsX1_minutesAlong) := goodIn_app (goodIn_of _ (by decide +kernel)) ggX1_addStreet_X1_minutesAlong
set_option maxRecDepth 20000 in
theorem ggX1_addStreet_X1_shortenWays : GoodIn wsX1_addStreet wsX1_shortenWays := goodIn_r _ [18, 19, 20, 21, 22, 13, 23, 24, 25, 26, 27, 28, 29, 30, 31, 32, 33, 34, 35, 36, 37, 38, 39, 40] (by decide +kernel) (by decide +kernel)
set_option maxRecDepth 20000 in
theorem gX1_addStreet_X1_shortenWays : GoodIn wsX1_addStreet (wsV RX1 65 RX1 yX1_shortenWays wsX1_shortenWays) := goodIn_app (goodIn_of _ (by decide +kernel)) ggX1_addStreet_X1_shortenWays
theorem dX1_addStreet_0 : decode cX1_addStreet 0 = .ok (.aload_n 0, 1) := by decide +kernel
theorem dX1_addStreet_1 : decode cX1_addStreet 1 = .ok (.getfield 58, 3) := by decide +kernel
theorem dX1_addStreet_4 : decode cX1_addStreet 4 = .ok (.istore 4, 2) := by decide +kernel
theorem dX1_addStreet_6 : decode cX1_addStreet 6 = .ok (.aload_n 0, 1) := by decide +kernel
theorem dX1_addStreet_7 : decode cX1_addStreet 7 = .ok (.getfield 20, 3) := by decide +kernel
theorem dX1_addStreet_10 : decode cX1_addStreet 10 = .ok (.iload 4, 2) := by decide +kernel
theorem dX1_addStreet_12 : decode cX1_addStreet 12 = .ok (.iload_n 1, 1) := by decide +kernel
theorem dX1_addStreet_13 : decode cX1_addStreet 13 = .ok (.iastore, 1) := by decide +kernel
theorem dX1_addStreet_14 : decode cX1_addStreet 14 = .ok (.aload_n 0, 1) := by decide +kernel
theorem dX1_addStreet_15 : decode cX1_addStreet 15 = .ok (.getfield 23, 3) := by decide +kernel
theorem dX1_addStreet_18 : decode cX1_addStreet 18 = .ok (.iload 4, 2) := by decide +kernel
theorem dX1_addStreet_20 : decode cX1_addStreet 20 = .ok (.iload_n 2, 1) := by decide +kernel
theorem dX1_addStreet_21 : decode cX1_addStreet 21 = .ok (.iastore, 1) := by decide +kernel
theorem dX1_addStreet_22 : decode cX1_addStreet 22 = .ok (.aload_n 0, 1) := by decide +kernel
theorem dX1_addStreet_23 : decode cX1_addStreet 23 = .ok (.getfield 26, 3) := by decide +kernel
theorem dX1_addStreet_26 : decode cX1_addStreet 26 = .ok (.iload 4, 2) := by decide +kernel
theorem dX1_addStreet_28 : decode cX1_addStreet 28 = .ok (.iload_n 3, 1) := by decide +kernel
theorem dX1_addStreet_29 : decode cX1_addStreet 29 = .ok (.iastore, 1) := by decide +kernel
theorem dX1_addStreet_30 : decode cX1_addStreet 30 = .ok (.aload_n 0, 1) := by decide +kernel
theorem dX1_addStreet_31 : decode cX1_addStreet 31 = .ok (.dup, 1) := by decide +kernel
theorem dX1_addStreet_32 : decode cX1_addStreet 32 = .ok (.getfield 58, 3) := by decide +kernel
theorem dX1_addStreet_35 : decode cX1_addStreet 35 = .ok (.iconst 1, 1) := by decide +kernel
theorem dX1_addStreet_36 : decode cX1_addStreet 36 = .ok (.iadd, 1) := by decide +kernel
theorem dX1_addStreet_37 : decode cX1_addStreet 37 = .ok (.putfield 58, 3) := by decide +kernel
theorem dX1_addStreet_40 : decode cX1_addStreet 40 = .ok (.aload_n 0, 1) := by decide +kernel
theorem dX1_addStreet_41 : decode cX1_addStreet 41 = .ok (.iload_n 1, 1) := by decide +kernel
theorem dX1_addStreet_42 : decode cX1_addStreet 42 = .ok (.iload_n 2, 1) := by decide +kernel
theorem dX1_addStreet_43 : decode cX1_addStreet 43 = .ok (.aload_n 0, 1) := by decide +kernel
theorem dX1_addStreet_44 : decode cX1_addStreet 44 = .ok (.iload_n 1, 1) := by decide +kernel
theorem dX1_addStreet_45 : decode cX1_addStreet 45 = .ok (.iload_n 2, 1) := by decide +kernel
theorem dX1_addStreet_46 : decode cX1_addStreet 46 = .ok (.iload_n 3, 1) := by decide +kernel
theorem dX1_addStreet_47 : decode cX1_addStreet 47 = .ok (.invokevirtual 61, 3) := by decide +kernel
theorem dX1_addStreet_50 : decode cX1_addStreet 50 = .ok (.invokevirtual 65, 3) := by decide +kernel
theorem dX1_addStreet_53 : decode cX1_addStreet 53 = .ok (.aload_n 0, 1) := by decide +kernel
theorem dX1_addStreet_54 : decode cX1_addStreet 54 = .ok (.iload_n 2, 1) := by decide +kernel
theorem dX1_addStreet_55 : decode cX1_addStreet 55 = .ok (.iload_n 1, 1) := by decide +kernel
theorem dX1_addStreet_56 : decode cX1_addStreet 56 = .ok (.aload_n 0, 1) := by decide +kernel
theorem dX1_addStreet_57 : decode cX1_addStreet 57 = .ok (.iload_n 2, 1) := by decide +kernel
theorem dX1_addStreet_58 : decode cX1_addStreet 58 = .ok (.iload_n 1, 1) := by decide +kernel
theorem dX1_addStreet_59 : decode cX1_addStreet 59 = .ok (.iload_n 3, 1) := by decide +kernel
theorem dX1_addStreet_60 : decode cX1_addStreet 60 = .ok (.invokevirtual 61, 3) := by decide +kernel
theorem dX1_addStreet_63 : decode cX1_addStreet 63 = .ok (.invokevirtual 65, 3) := by decide +kernel
theorem dX1_addStreet_66 : decode cX1_addStreet 66 = .ok (.iload 4, 2) := by decide +kernel
theorem dX1_addStreet_68 : decode cX1_addStreet 68 = .ok (.ireturn, 1) := by decide +kernel
theorem dX1_addLamp_0 : decode cX1_addLamp 0 = .ok (.aload_n 0, 1) := by decide +kernel
theorem dX1_addLamp_1 : decode cX1_addLamp 1 = .ok (.getfield 69, 3) := by decide +kernel
theorem dX1_addLamp_4 : decode cX1_addLamp 4 = .ok (.istore_n 3, 1) := by decide +kernel
theorem dX1_addLamp_5 : decode cX1_addLamp 5 = .ok (.aload_n 0, 1) := by decide +kernel
theorem dX1_addLamp_6 : decode cX1_addLamp 6 = .ok (.getfield 29, 3) := by decide +kernel
theorem dX1_addLamp_9 : decode cX1_addLamp 9 = .ok (.iload_n 3, 1) := by decide +kernel
theorem dX1_addLamp_10 : decode cX1_addLamp 10 = .ok (.iload_n 1, 1) := by decide +kernel
theorem dX1_addLamp_11 : decode cX1_addLamp 11 = .ok (.iastore, 1) := by decide +kernel
theorem dX1_addLamp_12 : decode cX1_addLamp 12 = .ok (.aload_n 0, 1) := by decide +kernel
theorem dX1_addLamp_13 : decode cX1_addLamp 13 = .ok (.getfield 32, 3) := by decide +kernel
theorem dX1_addLamp_16 : decode cX1_addLamp 16 = .ok (.iload_n 3, 1) := by decide +kernel
theorem dX1_addLamp_17 : decode cX1_addLamp 17 = .ok (.iload_n 2, 1) := by decide +kernel
theorem dX1_addLamp_18 : decode cX1_addLamp 18 = .ok (.iastore, 1) := by decide +kernel
theorem dX1_addLamp_19 : decode cX1_addLamp 19 = .ok (.aload_n 0, 1) := by decide +kernel
theorem dX1_addLamp_20 : decode cX1_addLamp 20 = .ok (.dup, 1) := by decide +kernel
theorem dX1_addLamp_21 : decode cX1_addLamp 21 = .ok (.getfield 69, 3) := by decide +kernel
theorem dX1_addLamp_24 : decode cX1_addLamp 24 = .ok (.iconst 1, 1) := by decide +kernel
theorem dX1_addLamp_25 : decode cX1_addLamp 25 = .ok (.iadd, 1) := by decide +kernel
theorem dX1_addLamp_26 : decode cX1_addLamp 26 = .ok (.putfield 69, 3) := by decide +kernel
theorem dX1_addLamp_29 : decode cX1_addLamp 29 = .ok (.iload_n 3, 1) := by decide +kernel
theorem dX1_addLamp_30 : decode cX1_addLamp 30 = .ok (.ireturn, 1) := by decide +kernel
theorem dX1_addLighter_0 : decode cX1_addLighter 0 = .ok (.aload_n 0, 1) := by decide +kernel
theorem dX1_addLighter_1 : decode cX1_addLighter 1 = .ok (.getfield 72, 3) := by decide +kernel
theorem dX1_addLighter_4 : decode cX1_addLighter 4 = .ok (.istore_n 3, 1) := by decide +kernel
theorem dX1_addLighter_5 : decode cX1_addLighter 5 = .ok (.aload_n 0, 1) := by decide +kernel
theorem dX1_addLighter_6 : decode cX1_addLighter 6 = .ok (.getfield 41, 3) := by decide +kernel
theorem dX1_addLighter_9 : decode cX1_addLighter 9 = .ok (.iload_n 3, 1) := by decide +kernel
theorem dX1_addLighter_10 : decode cX1_addLighter 10 = .ok (.iload_n 1, 1) := by decide +kernel
theorem dX1_addLighter_11 : decode cX1_addLighter 11 = .ok (.iastore, 1) := by decide +kernel
theorem dX1_addLighter_12 : decode cX1_addLighter 12 = .ok (.aload_n 0, 1) := by decide +kernel
theorem dX1_addLighter_13 : decode cX1_addLighter 13 = .ok (.getfield 44, 3) := by decide +kernel
theorem dX1_addLighter_16 : decode cX1_addLighter 16 = .ok (.iload_n 3, 1) := by decide +kernel
theorem dX1_addLighter_17 : decode cX1_addLighter 17 = .ok (.iload_n 2, 1) := by decide +kernel
theorem dX1_addLighter_18 : decode cX1_addLighter 18 = .ok (.iastore, 1) := by decide +kernel
theorem dX1_addLighter_19 : decode cX1_addLighter 19 = .ok (.aload_n 0, 1) := by decide +kernel
theorem dX1_addLighter_20 : decode cX1_addLighter 20 = .ok (.dup, 1) := by decide +kernel
theorem dX1_addLighter_21 : decode cX1_addLighter 21 = .ok (.getfield 72, 3) := by decide +kernel
theorem dX1_addLighter_24 : decode cX1_addLighter 24 = .ok (.iconst 1, 1) := by decide +kernel
theorem dX1_addLighter_25 : decode cX1_addLighter 25 = .ok (.iadd, 1) := by decide +kernel
theorem dX1_addLighter_26 : decode cX1_addLighter 26 = .ok (.putfield 72, 3) := by decide +kernel
theorem dX1_addLighter_29 : decode cX1_addLighter 29 = .ok (.iload_n 3, 1) := by decide +kernel
theorem dX1_addLighter_30 : decode cX1_addLighter 30 = .ok (.ireturn, 1) := by decide +kernel
theorem dX1_addToRound_0 : decode cX1_addToRound 0 = .ok (.aload_n 0, 1) := by decide +kernel
theorem dX1_addToRound_1 : decode cX1_addToRound 1 = .ok (.getfield 50, 3) := by decide +kernel
theorem dX1_addToRound_4 : decode cX1_addToRound 4 = .ok (.iload_n 1, 1) := by decide +kernel
theorem dX1_addToRound_5 : decode cX1_addToRound 5 = .ok (.aaload, 1) := by decide +kernel
theorem dX1_addToRound_6 : decode cX1_addToRound 6 = .ok (.aload_n 0, 1) := by decide +kernel
theorem dX1_addToRound_7 : decode cX1_addToRound 7 = .ok (.getfield 47, 3) := by decide +kernel
theorem dX1_addToRound_10 : decode cX1_addToRound 10 = .ok (.iload_n 1, 1) := by decide +kernel
theorem dX1_addToRound_11 : decode cX1_addToRound 11 = .ok (.iaload, 1) := by decide +kernel
theorem dX1_addToRound_12 : decode cX1_addToRound 12 = .ok (.iload_n 2, 1) := by decide +kernel
theorem dX1_addToRound_13 : decode cX1_addToRound 13 = .ok (.iastore, 1) := by decide +kernel
theorem dX1_addToRound_14 : decode cX1_addToRound 14 = .ok (.aload_n 0, 1) := by decide +kernel
theorem dX1_addToRound_15 : decode cX1_addToRound 15 = .ok (.getfield 47, 3) := by decide +kernel
theorem dX1_addToRound_18 : decode cX1_addToRound 18 = .ok (.iload_n 1, 1) := by decide +kernel
theorem dX1_addToRound_19 : decode cX1_addToRound 19 = .ok (.dup2, 1) := by decide +kernel
theorem dX1_addToRound_20 : decode cX1_addToRound 20 = .ok (.iaload, 1) := by decide +kernel
theorem dX1_addToRound_21 : decode cX1_addToRound 21 = .ok (.iconst 1, 1) := by decide +kernel
theorem dX1_addToRound_22 : decode cX1_addToRound 22 = .ok (.iadd, 1) := by decide +kernel
theorem dX1_addToRound_23 : decode cX1_addToRound 23 = .ok (.iastore, 1) := by decide +kernel
theorem dX1_addToRound_24 : decode cX1_addToRound 24 = .ok (.aload_n 0, 1) := by decide +kernel
theorem dX1_addToRound_25 : decode cX1_addToRound 25 = .ok (.getfield 47, 3) := by decide +kernel
theorem dX1_addToRound_28 : decode cX1_addToRound 28 = .ok (.iload_n 1, 1) := by decide +kernel
theorem dX1_addToRound_29 : decode cX1_addToRound 29 = .ok (.iaload, 1) := by decide +kernel
theorem dX1_addToRound_30 : decode cX1_addToRound 30 = .ok (.ireturn, 1) := by decide +kernel
theorem dX1_isInRound_0 : decode cX1_isInRound 0 = .ok (.iconst 0, 1) := by decide +kernel
theorem dX1_isInRound_1 : decode cX1_isInRound 1 = .ok (.istore_n 3, 1) := by decide +kernel
theorem dX1_isInRound_2 : decode cX1_isInRound 2 = .ok (.iload_n 3, 1) := by decide +kernel
theorem dX1_isInRound_3 : decode cX1_isInRound 3 = .ok (.aload_n 0, 1) := by decide +kernel
theorem dX1_isInRound_4 : decode cX1_isInRound 4 = .ok (.getfield 47, 3) := by decide +kernel
theorem dX1_isInRound_7 : decode cX1_isInRound 7 = .ok (.iload_n 1, 1) := by decide +kernel
theorem dX1_isInRound_8 : decode cX1_isInRound 8 = .ok (.iaload, 1) := by decide +kernel
theorem dX1_isInRound_9 : decode cX1_isInRound 9 = .ok (.if_icmp .ge 23, 3) := by decide +kernel
theorem dX1_isInRound_12 : decode cX1_isInRound 12 = .ok (.aload_n 0, 1) := by decide +kernel
theorem dX1_isInRound_13 : decode cX1_isInRound 13 = .ok (.getfield 50, 3) := by decide +kernel
theorem dX1_isInRound_16 : decode cX1_isInRound 16 = .ok (.iload_n 1, 1) := by decide +kernel
theorem dX1_isInRound_17 : decode cX1_isInRound 17 = .ok (.aaload, 1) := by decide +kernel
theorem dX1_isInRound_18 : decode cX1_isInRound 18 = .ok (.iload_n 3, 1) := by decide +kernel
theorem dX1_isInRound_19 : decode cX1_isInRound 19 = .ok (.iaload, 1) := by decide +kernel
theorem dX1_isInRound_20 : decode cX1_isInRound 20 = .ok (.iload_n 2, 1) := by decide +kernel
theorem dX1_isInRound_21 : decode cX1_isInRound 21 = .ok (.if_icmp .ne 5, 3) := by decide +kernel
theorem dX1_isInRound_24 : decode cX1_isInRound 24 = .ok (.iconst 1, 1) := by decide +kernel
theorem dX1_isInRound_25 : decode cX1_isInRound 25 = .ok (.ireturn, 1) := by decide +kernel
theorem dX1_isInRound_26 : decode cX1_isInRound 26 = .ok (.iinc 3 1, 3) := by decide +kernel
theorem dX1_isInRound_29 : decode cX1_isInRound 29 = .ok (.goto (-27), 3) := by decide +kernel
theorem dX1_isInRound_32 : decode cX1_isInRound 32 = .ok (.iconst 0, 1) := by decide +kernel
theorem dX1_isInRound_33 : decode cX1_isInRound 33 = .ok (.ireturn, 1) := by decide +kernel
theorem dX1_minutesAlong_0 : decode cX1_minutesAlong 0 = .ok (.iload_n 3, 1) := by decide +kernel
theorem dX1_minutesAlong_1 : decode cX1_minutesAlong 1 = .ok (.iconst 0, 1) := by decide +kernel
theorem dX1_minutesAlong_2 : decode cX1_minutesAlong 2 = .ok (.aload_n 0, 1) := by decide +kernel
theorem dX1_minutesAlong_3 : decode cX1_minutesAlong 3 = .ok (.getfield 9, 3) := by decide +kernel
theorem dX1_minutesAlong_6 : decode cX1_minutesAlong 6 = .ok (.iload_n 2, 1) := by decide +kernel
theorem dX1_minutesAlong_7 : decode cX1_minutesAlong 7 = .ok (.iaload, 1) := by decide +kernel
theorem dX1_minutesAlong_8 : decode cX1_minutesAlong 8 = .ok (.aload_n 0, 1) := by decide +kernel
theorem dX1_minutesAlong_9 : decode cX1_minutesAlong 9 = .ok (.getfield 9, 3) := by decide +kernel
theorem dX1_minutesAlong_12 : decode cX1_minutesAlong 12 = .ok (.iload_n 1, 1) := by decide +kernel
theorem dX1_minutesAlong_13 : decode cX1_minutesAlong 13 = .ok (.iaload, 1) := by decide +kernel
theorem dX1_minutesAlong_14 : decode cX1_minutesAlong 14 = .ok (.isub, 1) := by decide +kernel
theorem dX1_minutesAlong_15 : decode cX1_minutesAlong 15 = .ok (.invokestatic 75, 3) := by decide +kernel
theorem dX1_minutesAlong_18 : decode cX1_minutesAlong 18 = .ok (.iconst 2, 1) := by decide +kernel
theorem dX1_minutesAlong_19 : decode cX1_minutesAlong 19 = .ok (.idiv, 1) := by decide +kernel
theorem dX1_minutesAlong_20 : decode cX1_minutesAlong 20 = .ok (.iadd, 1) := by decide +kernel
theorem dX1_minutesAlong_21 : decode cX1_minutesAlong 21 = .ok (.ireturn, 1) := by decide +kernel
theorem dX1_shortenWays_0 : decode cX1_shortenWays 0 = .ok (.iconst 0, 1) := by decide +kernel
theorem dX1_shortenWays_1 : decode cX1_shortenWays 1 = .ok (.istore 4, 2) := by decide +kernel
theorem dX1_shortenWays_3 : decode cX1_shortenWays 3 = .ok (.iload 4, 2) := by decide +kernel
theorem dX1_shortenWays_5 : decode cX1_shortenWays 5 = .ok (.aload_n 0, 1) := by decide +kernel
theorem dX1_shortenWays_6 : decode cX1_shortenWays 6 = .ok (.getfield 53, 3) := by decide +kernel
theorem dX1_shortenWays_9 : decode cX1_shortenWays 9 = .ok (.if_icmp .ge 75, 3) := by decide +kernel
theorem dX1_shortenWays_12 : decode cX1_shortenWays 12 = .ok (.iconst 0, 1) := by decide +kernel
theorem dX1_shortenWays_13 : decode cX1_shortenWays 13 = .ok (.istore 5, 2) := by decide +kernel
theorem dX1_shortenWays_15 : decode cX1_shortenWays 15 = .ok (.iload 5, 2) := by decide +kernel
theorem dX1_shortenWays_17 : decode cX1_shortenWays 17 = .ok (.aload_n 0, 1) := by decide +kernel
theorem dX1_shortenWays_18 : decode cX1_shortenWays 18 = .ok (.getfield 53, 3) := by decide +kernel
theorem dX1_shortenWays_21 : decode cX1_shortenWays 21 = .ok (.if_icmp .ge 57, 3) := by decide +kernel
theorem dX1_shortenWays_24 : decode cX1_shortenWays 24 = .ok (.aload_n 0, 1) := by decide +kernel
theorem dX1_shortenWays_25 : decode cX1_shortenWays 25 = .ok (.getfield 17, 3) := by decide +kernel
theorem dX1_shortenWays_28 : decode cX1_shortenWays 28 = .ok (.iload 4, 2) := by decide +kernel
theorem dX1_shortenWays_30 : decode cX1_shortenWays 30 = .ok (.aaload, 1) := by decide +kernel
theorem dX1_shortenWays_31 : decode cX1_shortenWays 31 = .ok (.iload_n 1, 1) := by decide +kernel
theorem dX1_shortenWays_32 : decode cX1_shortenWays 32 = .ok (.iaload, 1) := by decide +kernel
theorem dX1_shortenWays_33 : decode cX1_shortenWays 33 = .ok (.iload_n 3, 1) := by decide +kernel
theorem dX1_shortenWays_34 : decode cX1_shortenWays 34 = .ok (.iadd, 1) := by decide +kernel
theorem dX1_shortenWays_35 : decode cX1_shortenWays 35 = .ok (.aload_n 0, 1) := by decide +kernel
theorem dX1_shortenWays_36 : decode cX1_shortenWays 36 = .ok (.getfield 17, 3) := by decide +kernel
theorem dX1_shortenWays_39 : decode cX1_shortenWays 39 = .ok (.iload_n 2, 1) := by decide +kernel
theorem dX1_shortenWays_40 : decode cX1_shortenWays 40 = .ok (.aaload, 1) := by decide +kernel
theorem dX1_shortenWays_41 : decode cX1_shortenWays 41 = .ok (.iload 5, 2) := by decide +kernel
theorem dX1_shortenWays_43 : decode cX1_shortenWays 43 = .ok (.iaload, 1) := by decide +kernel
theorem dX1_shortenWays_44 : decode cX1_shortenWays 44 = .ok (.iadd, 1) := by decide +kernel
theorem dX1_shortenWays_45 : decode cX1_shortenWays 45 = .ok (.istore 6, 2) := by decide +kernel
theorem dX1_shortenWays_47 : decode cX1_shortenWays 47 = .ok (.aload_n 0, 1) := by decide +kernel
theorem dX1_shortenWays_48 : decode cX1_shortenWays 48 = .ok (.getfield 17, 3) := by decide +kernel
theorem dX1_shortenWays_51 : decode cX1_shortenWays 51 = .ok (.iload 4, 2) := by decide +kernel
theorem dX1_shortenWays_53 : decode cX1_shortenWays 53 = .ok (.aaload, 1) := by decide +kernel
theorem dX1_shortenWays_54 : decode cX1_shortenWays 54 = .ok (.iload 5, 2) := by decide +kernel
theorem dX1_shortenWays_56 : decode cX1_shortenWays 56 = .ok (.aload_n 0, 1) := by decide +kernel
theorem dX1_shortenWays_57 : decode cX1_shortenWays 57 = .ok (.getfield 17, 3) := by decide +kernel
theorem dX1_shortenWays_60 : decode cX1_shortenWays 60 = .ok (.iload 4, 2) := by decide +kernel
theorem dX1_shortenWays_62 : decode cX1_shortenWays 62 = .ok (.aaload, 1) := by decide +kernel
theorem dX1_shortenWays_63 : decode cX1_shortenWays 63 = .ok (.iload 5, 2) := by decide +kernel
theorem dX1_shortenWays_65 : decode cX1_shortenWays 65 = .ok (.iaload, 1) := by decide +kernel
theorem dX1_shortenWays_66 : decode cX1_shortenWays 66 = .ok (.iload 6, 2) := by decide +kernel
theorem dX1_shortenWays_68 : decode cX1_shortenWays 68 = .ok (.invokestatic 81, 3) := by decide +kernel
theorem dX1_shortenWays_71 : decode cX1_shortenWays 71 = .ok (.iastore, 1) := by decide +kernel
theorem dX1_shortenWays_72 : decode cX1_shortenWays 72 = .ok (.iinc 5 1, 3) := by decide +kernel
theorem dX1_shortenWays_75 : decode cX1_shortenWays 75 = .ok (.goto (-60), 3) := by decide +kernel
theorem dX1_shortenWays_78 : decode cX1_shortenWays 78 = .ok (.iinc 4 1, 3) := by decide +kernel
theorem dX1_shortenWays_81 : decode cX1_shortenWays 81 = .ok (.goto (-78), 3) := by decide +kernel
theorem dX1_shortenWays_84 : decode cX1_shortenWays 84 = .ok (.return_, 1) := by decide +kernel
theorem dX1_nearerEnd_0 : decode cX1_nearerEnd 0 = .ok (.aload_n 0, 1) := by decide +kernel
theorem dX1_nearerEnd_1 : decode cX1_nearerEnd 1 = .ok (.getfield 29, 3) := by decide +kernel
theorem dX1_nearerEnd_4 : decode cX1_nearerEnd 4 = .ok (.iload_n 2, 1) := by decide +kernel
theorem dX1_nearerEnd_5 : decode cX1_nearerEnd 5 = .ok (.iaload, 1) := by decide +kernel
theorem dX1_nearerEnd_6 : decode cX1_nearerEnd 6 = .ok (.istore_n 3, 1) := by decide +kernel
theorem dX1_nearerEnd_7 : decode cX1_nearerEnd 7 = .ok (.aload_n 0, 1) := by decide +kernel
theorem dX1_nearerEnd_8 : decode cX1_nearerEnd 8 = .ok (.getfield 20, 3) := by decide +kernel
theorem dX1_nearerEnd_11 : decode cX1_nearerEnd 11 = .ok (.iload_n 3, 1) := by decide +kernel
theorem dX1_nearerEnd_12 : decode cX1_nearerEnd 12 = .ok (.iaload, 1) := by decide +kernel
theorem dX1_nearerEnd_13 : decode cX1_nearerEnd 13 = .ok (.istore 4, 2) := by decide +kernel
theorem dX1_nearerEnd_15 : decode cX1_nearerEnd 15 = .ok (.aload_n 0, 1) := by decide +kernel
theorem dX1_nearerEnd_16 : decode cX1_nearerEnd 16 = .ok (.getfield 23, 3) := by decide +kernel
theorem dX1_nearerEnd_19 : decode cX1_nearerEnd 19 = .ok (.iload_n 3, 1) := by decide +kernel
theorem dX1_nearerEnd_20 : decode cX1_nearerEnd 20 = .ok (.iaload, 1) := by decide +kernel
theorem dX1_nearerEnd_21 : decode cX1_nearerEnd 21 = .ok (.istore 5, 2) := by decide +kernel
theorem dX1_nearerEnd_23 : decode cX1_nearerEnd 23 = .ok (.aload_n 0, 1) := by decide +kernel
theorem dX1_nearerEnd_24 : decode cX1_nearerEnd 24 = .ok (.getfield 17, 3) := by decide +kernel
theorem dX1_nearerEnd_27 : decode cX1_nearerEnd 27 = .ok (.iload_n 1, 1) := by decide +kernel
theorem dX1_nearerEnd_28 : decode cX1_nearerEnd 28 = .ok (.aaload, 1) := by decide +kernel
theorem dX1_nearerEnd_29 : decode cX1_nearerEnd 29 = .ok (.iload 4, 2) := by decide +kernel
theorem dX1_nearerEnd_31 : decode cX1_nearerEnd 31 = .ok (.iaload, 1) := by decide +kernel
theorem dX1_nearerEnd_32 : decode cX1_nearerEnd 32 = .ok (.aload_n 0, 1) := by decide +kernel
theorem dX1_nearerEnd_33 : decode cX1_nearerEnd 33 = .ok (.getfield 17, 3) := by decide +kernel
theorem dX1_nearerEnd_36 : decode cX1_nearerEnd 36 = .ok (.iload_n 1, 1) := by decide +kernel
theorem dX1_nearerEnd_37 : decode cX1_nearerEnd 37 = .ok (.aaload, 1) := by decide +kernel
theorem dX1_nearerEnd_38 : decode cX1_nearerEnd 38 = .ok (.iload 5, 2) := by decide +kernel
theorem dX1_nearerEnd_40 : decode cX1_nearerEnd 40 = .ok (.iaload, 1) := by decide +kernel
theorem dX1_nearerEnd_41 : decode cX1_nearerEnd 41 = .ok (.if_icmp .gt 8, 3) := by decide +kernel
theorem dX1_nearerEnd_44 : decode cX1_nearerEnd 44 = .ok (.iload 4, 2) := by decide +kernel
theorem dX1_nearerEnd_46 : decode cX1_nearerEnd 46 = .ok (.goto 5, 3) := by decide +kernel
theorem dX1_nearerEnd_49 : decode cX1_nearerEnd 49 = .ok (.iload 5, 2) := by decide +kernel
theorem dX1_nearerEnd_51 : decode cX1_nearerEnd 51 = .ok (.ireturn, 1) := by decide +kernel
set_option maxRecDepth 20000 in
theorem ggX1_canReach_X1_nearerEnd : GoodIn wsX1_canReach wsX1_nearerEnd := goodIn_r _ [9, 10, 11, 12, 3, 13, 14, 15, 16, 17, 18, 19, 20, 21, 22, 23, 24, 25, 26, 27, 28, 29] (by decide +kernel) (by decide +kernel)
set_option maxRecDepth 20000 in
theorem gX1_canReach_X1_nearerEnd : GoodIn wsX1_canReach (wsV RX1 84 RX1 yX1_nearerEnd wsX1_nearerEnd) := goodIn_app (goodIn_of _ (by decide +kernel)) ggX1_canReach_X1_nearerEnd
theorem dX1_canReach_0 : decode cX1_canReach 0 = .ok (.aload_n 0, 1) := by decide +kernel
theorem dX1_canReach_1 : decode cX1_canReach 1 = .ok (.getfield 32, 3) := by decide +kernel
theorem dX1_canReach_4 : decode cX1_canReach 4 = .ok (.iload_n 3, 1) := by decide +kernel
theorem dX1_canReach_5 : decode cX1_canReach 5 = .ok (.iaload, 1) := by decide +kernel
theorem dX1_canReach_6 : decode cX1_canReach 6 = .ok (.aload_n 0, 1) := by decide +kernel
theorem dX1_canReach_7 : decode cX1_canReach 7 = .ok (.getfield 44, 3) := by decide +kernel
theorem dX1_canReach_10 : decode cX1_canReach 10 = .ok (.iload_n 1, 1) := by decide +kernel
theorem dX1_canReach_11 : decode cX1_canReach 11 = .ok (.iaload, 1) := by decide +kernel
theorem dX1_canReach_12 : decode cX1_canReach 12 = .ok (.iconst 2, 1) := by decide +kernel
theorem dX1_canReach_13 : decode cX1_canReach 13 = .ok (.iadd, 1) := by decide +kernel
theorem dX1_canReach_14 : decode cX1_canReach 14 = .ok (.if_icmp .gt 25, 3) := by decide +kernel
theorem dX1_canReach_17 : decode cX1_canReach 17 = .ok (.aload_n 0, 1) := by decide +kernel
theorem dX1_canReach_18 : decode cX1_canReach 18 = .ok (.getfield 17, 3) := by decide +kernel
theorem dX1_canReach_21 : decode cX1_canReach 21 = .ok (.iload_n 2, 1) := by decide +kernel
theorem dX1_canReach_22 : decode cX1_canReach 22 = .ok (.aaload, 1) := by decide +kernel
theorem dX1_canReach_23 : decode cX1_canReach 23 = .ok (.aload_n 0, 1) := by decide +kernel
theorem dX1_canReach_24 : decode cX1_canReach 24 = .ok (.iload_n 2, 1) := by decide +kernel
theorem dX1_canReach_25 : decode cX1_canReach 25 = .ok (.iload_n 3, 1) := by decide +kernel
theorem dX1_canReach_26 : decode cX1_canReach 26 = .ok (.invokevirtual 84, 3) := by decide +kernel
theorem dX1_canReach_29 : decode cX1_canReach 29 = .ok (.iaload, 1) := by decide +kernel
theorem dX1_canReach_30 : decode cX1_canReach 30 = .ok (.ldc 57, 2) := by decide +kernel
theorem dX1_canReach_32 : decode cX1_canReach 32 = .ok (.if_icmp .ge 7, 3) := by decide +kernel
theorem dX1_canReach_35 : decode cX1_canReach 35 = .ok (.iconst 1, 1) := by decide +kernel
theorem dX1_canReach_36 : decode cX1_canReach 36 = .ok (.goto 4, 3) := by decide +kernel
theorem dX1_canReach_39 : decode cX1_canReach 39 = .ok (.iconst 0, 1) := by decide +kernel
theorem dX1_canReach_40 : decode cX1_canReach 40 = .ok (.ireturn, 1) := by decide +kernel
theorem dX1_windAtLamp_0 : decode cX1_windAtLamp 0 = .ok (.aload_n 0, 1) := by decide +kernel
theorem dX1_windAtLamp_1 : decode cX1_windAtLamp 1 = .ok (.getfield 29, 3) := by decide +kernel
theorem dX1_windAtLamp_4 : decode cX1_windAtLamp 4 = .ok (.iload_n 1, 1) := by decide +kernel
theorem dX1_windAtLamp_5 : decode cX1_windAtLamp 5 = .ok (.iaload, 1) := by decide +kernel
theorem dX1_windAtLamp_6 : decode cX1_windAtLamp 6 = .ok (.istore_n 3, 1) := by decide +kernel
theorem dX1_windAtLamp_7 : decode cX1_windAtLamp 7 = .ok (.iload_n 2, 1) := by decide +kernel
theorem dX1_windAtLamp_8 : decode cX1_windAtLamp 8 = .ok (.aload_n 0, 1) := by decide +kernel
theorem dX1_windAtLamp_9 : decode cX1_windAtLamp 9 = .ok (.getfield 9, 3) := by decide +kernel
theorem dX1_windAtLamp_12 : decode cX1_windAtLamp 12 = .ok (.aload_n 0, 1) := by decide +kernel
theorem dX1_windAtLamp_13 : decode cX1_windAtLamp 13 = .ok (.getfield 20, 3) := by decide +kernel
theorem dX1_windAtLamp_16 : decode cX1_windAtLamp 16 = .ok (.iload_n 3, 1) := by decide +kernel
theorem dX1_windAtLamp_17 : decode cX1_windAtLamp 17 = .ok (.iaload, 1) := by decide +kernel
theorem dX1_windAtLamp_18 : decode cX1_windAtLamp 18 = .ok (.iaload, 1) := by decide +kernel
theorem dX1_windAtLamp_19 : decode cX1_windAtLamp 19 = .ok (.aload_n 0, 1) := by decide +kernel
theorem dX1_windAtLamp_20 : decode cX1_windAtLamp 20 = .ok (.getfield 9, 3) := by decide +kernel
theorem dX1_windAtLamp_23 : decode cX1_windAtLamp 23 = .ok (.aload_n 0, 1) := by decide +kernel
theorem dX1_windAtLamp_24 : decode cX1_windAtLamp 24 = .ok (.getfield 23, 3) := by decide +kernel
theorem dX1_windAtLamp_27 : decode cX1_windAtLamp 27 = .ok (.iload_n 3, 1) := by decide +kernel
theorem dX1_windAtLamp_28 : decode cX1_windAtLamp 28 = .ok (.iaload, 1) := by decide +kernel
theorem dX1_windAtLamp_29 : decode cX1_windAtLamp 29 = .ok (.iaload, 1) := by decide +kernel
theorem dX1_windAtLamp_30 : decode cX1_windAtLamp 30 = .ok (.invokestatic 75, 3) := by decide +kernel
theorem dX1_windAtLamp_33 : decode cX1_windAtLamp 33 = .ok (.bipush 10, 2) := by decide +kernel
theorem dX1_windAtLamp_35 : decode cX1_windAtLamp 35 = .ok (.idiv, 1) := by decide +kernel
theorem dX1_windAtLamp_36 : decode cX1_windAtLamp 36 = .ok (.iadd, 1) := by decide +kernel
theorem dX1_windAtLamp_37 : decode cX1_windAtLamp 37 = .ok (.ireturn, 1) := by decide +kernel
end
section
/-! THE WALKER'S OWN ROWS: one judgement xV (a point of a walk, for any heap that holds a world and any locals that hold a list), and a row an instruction over it -/
theorem xP_mem {D : va_G} {cl : List vw_C} {ws : va_W} {H : Heap} : va_P D cl ws H ↔ ∀ q ∈ ws, va_at D cl q H := by
  constructor
  · intro h q hq
    obtain ⟨i, hi⟩ := List.getElem?_of_mem hq
    exact h i q hi
  · intro h k q hk
    exact h q (List.mem_of_getElem? hk)
theorem xP_perm {D : va_G} {cl : List vw_C} {ws ws' : va_W} {H : Heap} (hp : ws.Perm ws') (h : va_P D cl ws H) : va_P D cl ws' H :=
  xP_mem.mpr fun q hq => xP_mem.mp h q (hp.mem_iff.mpr hq)
theorem xD_nd {A : Nat → Prop} {ws : va_W} : va_D A ws ↔ (ws.map Prod.fst).Nodup ∧ ∀ q ∈ ws, A q.1 := by
  constructor
  · intro h
    refine ⟨?_, fun q hq => ?_⟩
    · unfold List.Nodup
      rw [List.pairwise_iff_getElem]
      intro i j hi hj hij e
      rw [List.length_map] at hi hj
      rw [List.getElem_map, List.getElem_map] at e
      have := h.1 i j ws[i] ws[j] (List.getElem?_eq_getElem hi) (List.getElem?_eq_getElem hj) e
      omega
    · obtain ⟨i, hi⟩ := List.getElem?_of_mem hq
      exact h.2 i q hi
  · intro h
    refine ⟨fun i j p q hi hj e => ?_, fun k q hk => h.2 q (List.mem_of_getElem? hk)⟩
    have h1 := h.1
    unfold List.Nodup at h1
    rw [List.pairwise_iff_getElem] at h1
    obtain ⟨li, ei⟩ := List.getElem?_eq_some_iff.mp hi
    obtain ⟨lj, ej⟩ := List.getElem?_eq_some_iff.mp hj
    rcases Nat.lt_trichotomy i j with x | x | x
    · exact absurd (by rw [List.getElem_map, List.getElem_map, ei, ej]; exact e) (h1 i j (by rw [List.length_map]; exact li) (by rw [List.length_map]; exact lj) x)
    · exact x
    · exact absurd (by rw [List.getElem_map, List.getElem_map, ei, ej]; exact e.symm) (h1 j i (by rw [List.length_map]; exact lj) (by rw [List.length_map]; exact li) x)
theorem xD_perm {A : Nat → Prop} {ws ws' : va_W} (hp : ws.Perm ws') (h : va_D A ws) : va_D A ws' :=
  xD_nd.mpr ⟨(hp.map Prod.fst).nodup_iff.mp (xD_nd.mp h).1, fun q hq => (xD_nd.mp h).2 q (hp.mem_iff.mpr hq)⟩
theorem xP_left {D : va_G} {cl : List vw_C} {a b : va_W} {H : Heap} (h : va_P D cl (a ++ b) H) : va_P D cl a H := xP_mem.mpr fun q hq => xP_mem.mp h q (List.mem_append_left _ hq)
theorem xP_right {D : va_G} {cl : List vw_C} {a b : va_W} {H : Heap} (h : va_P D cl (a ++ b) H) : va_P D cl b H := xP_mem.mpr fun q hq => xP_mem.mp h q (List.mem_append_right _ hq)
theorem xD_left {A : Nat → Prop} {a b : va_W} (h : va_D A (a ++ b)) : va_D A a := by
  rw [xD_nd, List.map_append, List.nodup_append] at h
  exact xD_nd.mpr ⟨h.1.1, fun q hq => h.2 q (List.mem_append_left _ hq)⟩
theorem xD_right {A : Nat → Prop} {a b : va_W} (h : va_D A (a ++ b)) : va_D A b := by
  rw [xD_nd, List.map_append, List.nodup_append] at h
  exact xD_nd.mpr ⟨h.1.2.1, fun q hq => h.2 q (List.mem_append_right _ hq)⟩
theorem xD_ne {A : Nat → Prop} {a b : va_W} (h : va_D A (a ++ b)) {x y : Nat × va_E} (hx : x ∈ a) (hy : y ∈ b) : x.1 ≠ y.1 := by
  rw [xD_nd, List.map_append, List.nodup_append] at h
  exact h.1.2.2 _ (List.mem_map.mpr ⟨x, hx, rfl⟩) _ (List.mem_map.mpr ⟨y, hy, rfl⟩)
/-- the callee's world back, beside the rest -/
theorem xJoin {A : Nat → Prop} {D : va_G} {cl : List vw_C} {wc wr w1 : va_W} {H H1 : Heap} (hP : va_P D cl (wc ++ wr) H) (hD : va_D A (wc ++ wr)) (hF : ∀ q, va_A wc H.size q → A q) (hk : ∀ q : Nat, q < H.size → ¬ va_A wc H.size q → H1[q]? = H[q]?) (hP1 : va_P D cl w1 H1) (hD1 : va_D (va_A wc H.size) w1) : va_P D cl (w1 ++ wr) H1 ∧ va_D A (w1 ++ wr) := by
  have hno : ∀ q ∈ wr, q.1 < H.size ∧ ¬ va_A wc H.size q.1 := by
    intro q hq
    have hl := (xP_mem.mp (xP_right hP) q hq).lt
    refine ⟨hl, ?_⟩
    rintro (⟨k, e, hk⟩ | h)
    · exact xD_ne hD (List.mem_of_getElem? hk) hq rfl
    · omega
  refine ⟨hP1.app ((xP_right hP).kept (fun k q hq => hk _ (hno q (List.mem_of_getElem? hq)).1 (hno q (List.mem_of_getElem? hq)).2)), ?_⟩
  refine va_D.app (hD1.weaken (fun _ _ _ h => hF _ h)) (xD_right hD) (fun i j p q hp hq e => ?_)
  exact (hno q (List.mem_of_getElem? hq)).2 (e ▸ hD1.2 i p hp)
theorem xFree {A : Nat → Prop} {wc wr : va_W} {H0 H : Heap} {locs : List Loc} (hD : va_D A (wc ++ wr)) (hS : va_S A H0 H locs) (hA : ∀ q, H0.size ≤ q → A q) : ∀ q, va_A wc H.size q → A q := by
  rintro q (⟨k, e, hk⟩ | h)
  · exact hD.2 k (q, e) (by rw [List.getElem?_append_left (List.getElem?_eq_some_iff.mp hk).1]; exact hk)
  · exact hA _ (Nat.le_trans hS.1 h)
/-- what a caller knows of a method by its tables: its words begin with its code, how many arguments -/
def xY (y : MethodName) (wsM : List Cond) (bytes : ByteArray) (maxL : Nat) (ret : Option FieldType) (n : Nat) : Prop :=
  (∃ ws', wsM = Cond.code y bytes maxL ret :: ws') ∧ y.cls ≠ "java/lang/invoke/MethodHandle" ∧ y.cls ≠ "java/lang/invoke/VarHandle" ∧ (parseMethodDescriptor y.desc).map (fun d => d.parameters.length) = some n
/-- the end of a method: its world is W' -/
def xE (D : va_G) (tys : List (ClassId × FieldType)) (A : Nat → Prop) (W' : va_W) (t : State) : Prop := va_P D vwCl W' t.heap ∧ va_K D vwCl tys t ∧ va_D A W'
def xPc (D : va_G) (tys : List (ClassId × FieldType)) (av : List Value) (sz : Nat) (Wc : va_W) : Array Value → State → Prop :=
  va_Pc av (fun U => U.heap.size = sz ∧ va_P D vwCl Wc U.heap ∧ va_K D vwCl tys U ∧ va_D (fun _ => True) Wc)
theorem xPc_blind {D : va_G} {tys : List (ClassId × FieldType)} {av : List Value} {sz : Nat} {Wc : va_W} : FrameBlind (xPc D tys av sz Wc) := by
  intro a U g mk q
  obtain ⟨q0, q1, qP, qK, qD⟩ := q
  exact ⟨q0, q1, qP, va_K.moved (u := U) (U := U.calling g mk a) (Vm.Alike.refl U.vm) qK, qD⟩
/-- contracts: from the world Wc with the arguments av; for some u with post, the world W' u -/
def xMi (l : Launch) (y : MethodName) (wsM : List Cond) (rf rl mc ms : Nat) (D : va_G) (tys : List (ClassId × FieldType)) (av : List Value) (Wc : va_W) {S : Type} (post : Int32 → S → Prop) (W' : S → va_W) : Prop :=
  ∀ sz : Nat, Met l y wsM { frames := rf, cells := mc, slots := ms, locals := rl } (xPc D tys av sz Wc) (va_Qi post (fun u t => xE D tys (va_A Wc sz) (W' u) t) (va_A Wc sz)) mc ms (va_A Wc sz)
def xMv (l : Launch) (y : MethodName) (wsM : List Cond) (rf rl mc ms : Nat) (D : va_G) (tys : List (ClassId × FieldType)) (av : List Value) (Wc : va_W) {S : Type} (post : S → Prop) (W' : S → va_W) : Prop :=
  ∀ sz : Nat, Met l y wsM { frames := rf, cells := mc, slots := ms, locals := rl } (xPc D tys av sz Wc) (va_Qv post (fun u t => xE D tys (va_A Wc sz) (W' u) t) (va_A Wc sz)) mc ms (va_A Wc sz)
def xMl (l : Launch) (y : MethodName) (wsM : List Cond) (rf rl mc ms : Nat) (D : va_G) (tys : List (ClassId × FieldType)) (av : List Value) (Wc : va_W) {S : Type} (post : Int64 → S → Prop) (W' : S → va_W) : Prop :=
  ∀ sz : Nat, Met l y wsM { frames := rf, cells := mc, slots := ms, locals := rl } (xPc D tys av sz Wc) (va_Ql post (fun u t => xE D tys (va_A Wc sz) (W' u) t) (va_A Wc sz)) mc ms (va_A Wc sz)
def xMr (l : Launch) (y : MethodName) (wsM : List Cond) (rf rl mc ms : Nat) (D : va_G) (tys : List (ClassId × FieldType)) (av : List Value) (Wc : va_W) {S : Type} (post : S → Prop) (W' : S → Nat → va_W) : Prop :=
  ∀ sz : Nat, Met l y wsM { frames := rf, cells := mc, slots := ms, locals := rl } (xPc D tys av sz Wc) (va_Qr post (fun u a t => xE D tys (va_A Wc sz) (W' u a) t) (va_A Wc sz)) mc ms (va_A Wc sz)
/-- what a place of a world is: an array of ints (of that class), and the world with another content there -/
def xA (ws : va_W) (a : Nat) (cA : ClassId) (n : Nat) (f : Nat → Int32) (G : (Nat → Int32) → va_W) : Prop :=
  ∃ q0 : Nat, ws[q0]? = some (a, .inl (cA, n, .inl f)) ∧ ∀ f' : Nat → Int32, ws.set q0 (a, .inl (cA, n, .inl f')) = G f'
/-- an array of references -/
def xR (ws : va_W) (a : Nat) (cA : ClassId) (n : Nat) (f : Nat → Option Nat) : Prop := ∃ q0 : Nat, ws[q0]? = some (a, .inl (cA, n, .inr (.inr (.inr (.inr f)))))
/-- an object -/
def xO (ws : va_W) (a ci : Nat) (fs : List Value) : Prop := ∃ q0 : Nat, ws[q0]? = some (a, .inr (ci, fs))
/-- an int field of an object, and the world with another number there -/
def xI (ws : va_W) (a ci : Nat) (fs : List Value) (k : Nat) (G : Int32 → va_W) : Prop :=
  ∃ q0 : Nat, ws[q0]? = some (a, .inr (ci, fs)) ∧ k < fs.length ∧ ∀ x : Int32, ws.set q0 (a, .inr (ci, fs.set k (.int x))) = G x
theorem xA.L {ws R : va_W} {a : Nat} {cA : ClassId} {n : Nat} {f : Nat → Int32} {G : (Nat → Int32) → va_W} (h : xA ws a cA n f G) : xA (ws ++ R) a cA n f (fun f' => G f' ++ R) := by
  obtain ⟨q0, h1, h2⟩ := h
  have hl := (List.getElem?_eq_some_iff.mp h1).1
  exact ⟨q0, by rw [List.getElem?_append_left hl]; exact h1, fun f' => by rw [List.set_append_left _ _ hl, h2]⟩
theorem xA.R {ws X : va_W} {a : Nat} {cA : ClassId} {n : Nat} {f : Nat → Int32} {G : (Nat → Int32) → va_W} (h : xA ws a cA n f G) : xA (X ++ ws) a cA n f (fun f' => X ++ G f') := by
  obtain ⟨q0, h1, h2⟩ := h
  exact ⟨X.length + q0, by rw [List.getElem?_append_right (Nat.le_add_right _ _), Nat.add_sub_cancel_left]; exact h1, fun f' => by rw [List.set_append_right _ _ (Nat.le_add_right _ _), Nat.add_sub_cancel_left, h2]⟩
theorem xR.L {ws R : va_W} {a : Nat} {cA : ClassId} {n : Nat} {f : Nat → Option Nat} (h : xR ws a cA n f) : xR (ws ++ R) a cA n f := by
  obtain ⟨q0, h1⟩ := h
  exact ⟨q0, by rw [List.getElem?_append_left (List.getElem?_eq_some_iff.mp h1).1]; exact h1⟩
theorem xR.R {ws X : va_W} {a : Nat} {cA : ClassId} {n : Nat} {f : Nat → Option Nat} (h : xR ws a cA n f) : xR (X ++ ws) a cA n f := by
  obtain ⟨q0, h1⟩ := h
  exact ⟨X.length + q0, by rw [List.getElem?_append_right (Nat.le_add_right _ _), Nat.add_sub_cancel_left]; exact h1⟩
theorem xO.L {ws R : va_W} {a ci : Nat} {fs : List Value} (h : xO ws a ci fs) : xO (ws ++ R) a ci fs := by
  obtain ⟨q0, h1⟩ := h
  exact ⟨q0, by rw [List.getElem?_append_left (List.getElem?_eq_some_iff.mp h1).1]; exact h1⟩
theorem xO.R {ws X : va_W} {a ci : Nat} {fs : List Value} (h : xO ws a ci fs) : xO (X ++ ws) a ci fs := by
  obtain ⟨q0, h1⟩ := h
  exact ⟨X.length + q0, by rw [List.getElem?_append_right (Nat.le_add_right _ _), Nat.add_sub_cancel_left]; exact h1⟩
theorem xI.L {ws R : va_W} {a ci : Nat} {fs : List Value} {k : Nat} {G : Int32 → va_W} (h : xI ws a ci fs k G) : xI (ws ++ R) a ci fs k (fun x => G x ++ R) := by
  obtain ⟨q0, h1, h3, h2⟩ := h
  have hl := (List.getElem?_eq_some_iff.mp h1).1
  exact ⟨q0, by rw [List.getElem?_append_left hl]; exact h1, h3, fun f' => by rw [List.set_append_left _ _ hl, h2]⟩
theorem xI.R {ws X : va_W} {a ci : Nat} {fs : List Value} {k : Nat} {G : Int32 → va_W} (h : xI ws a ci fs k G) : xI (X ++ ws) a ci fs k (fun x => X ++ G x) := by
  obtain ⟨q0, h1, h3, h2⟩ := h
  exact ⟨X.length + q0, by rw [List.getElem?_append_right (Nat.le_add_right _ _), Nat.add_sub_cancel_left]; exact h1, h3, fun f' => by rw [List.set_append_right _ _ (Nat.le_add_right _ _), Nat.add_sub_cancel_left, h2]⟩
/-- what the walks answer by: none where an index is out, or a loop without an end -/
def xin (i : Int32) (n : Nat) : Bool := decide (¬ (i < 0 ∨ n ≤ i.toNatClampNeg))
theorem xin_of {i : Int32} {n : Nat} (h : xin i n = true) : vp_in i n := (of_decide_eq_true h : ¬ (i < 0 ∨ n ≤ i.toNatClampNeg))
def gd {α : Type} (b : Bool) (k : Option α) : Option α := match b with
  | true => k
  | false => none
theorem gd_some {α : Type} {b : Bool} {k : Option α} {o : α} (h : gd b k = some o) : b = true ∧ k = some o := by
  cases b
  · cases h
  · exact ⟨rfl, h⟩
def lt_ {α β : Type} (a : α) (k : α → β) : β := k a
theorem lt_elim {α β : Type} {a : α} {k : α → β} {o : β} (h : lt_ a k = o) : ∃ y, y = a ∧ k y = o := ⟨a, rfl, h⟩
def bd {α β : Type} (a : Option α) (k : α → Option β) : Option β := match a with
  | some x => k x
  | none => none
theorem bd_some {α β : Type} {a : Option α} {k : α → Option β} {o : β} (h : bd a k = some o) : ∃ x, a = some x ∧ k x = some o := by
  cases a
  · cases h
  · exact ⟨_, rfl, h⟩
def up1 (N : Nat → Nat → Int32) (k : Nat) (f : Nat → Int32) : Nat → Nat → Int32 := fun k' => if k' = k then f else N k'
def up2 (N : Nat → Nat → Int32) (k i : Nat) (x : Int32) : Nat → Nat → Int32 := up1 N k (upd (N k) i x)
section XK
variable {p : Program} {l : Launch} {e : Env} {R : Room} {s : State} {m : MethodId} {args : Array Value} {below : List Frame} {meth : Method} {c : Code} {Q : State → Prop}
variable {D : va_G} {A : Nat → Prop} {cc : ByteArray} {own : String} {nL : Nat} {Ts : List Cond} {tys : List (ClassId × FieldType)} {ret : Option FieldType}
variable {ws ws' : va_W} {k n pc q : Nat} {L L' : List (Nat × Value)} {st : List Value}
def xV (p : Program) (l : Launch) (e : Env) (R : Room) (s : State) (m : MethodId) (args : Array Value) (below : List Frame) (meth : Method) (c : Code) (D : va_G) (A : Nat → Prop) (Q : State → Prop) (nL : Nat) (ws : va_W) (k n : Nat) (L : List (Nat × Value)) (pc : Nat) (st : List Value) : Prop :=
  ∀ (H : Heap) (locs : List Loc) (ls : Array Slot), va_P D vwCl ws H → va_D A ws → va_S A s.heap H locs → lv_has ls nL L → W p l e R s m args below meth c H locs k n Q (F0 m pc ls st)
def xC (p : Program) (s : State) (m : MethodId) (args : Array Value) (meth : Method) (c : Code) (D : va_G) (A : Nat → Prop) (cc : ByteArray) (own : String) (nL : Nat) (Ts : List Cond) (tys : List (ClassId × FieldType)) (ret : Option FieldType) : Prop :=
  p.tables.exec = Jvm.exec ∧ c.code = cc ∧ c.maxLocals = nL ∧ s.vm.findClass own = some m.cls ∧ (∀ w ∈ Ts, w.before args s = true) ∧ va_K D vwCl tys s ∧ meth.sig.returnType = ret ∧ meth.locks = false ∧ ∀ q, s.heap.size ≤ q → A q
theorem x_sub (ks : List Nat) (h : lv_pick L ks = L') (kk : xV p l e R s m args below meth c D A Q nL ws k n L' pc st) : xV p l e R s m args below meth c D A Q nL ws k n L pc st :=
  fun H locs ls hP hD hS hl => kk H locs ls hP hD hS (lv_sub hl ks h)
theorem x_widen {k' n' : Nat} (h1 : k ≤ k') (h2 : n ≤ n') (kk : xV p l e R s m args below meth c D A Q nL ws k' n' L pc st) : xV p l e R s m args below meth c D A Q nL ws k n L pc st :=
  fun H locs ls hP hD hS hl => W.widen h1 h2 (kk H locs ls hP hD hS hl)
theorem x_world (h : ws = ws') (kk : xV p l e R s m args below meth c D A Q nL ws' k n L pc st) : xV p l e R s m args below meth c D A Q nL ws k n L pc st := h ▸ kk
theorem x_perm (h : ws.Perm ws') (kk : xV p l e R s m args below meth c D A Q nL ws' k n L pc st) : xV p l e R s m args below meth c D A Q nL ws k n L pc st :=
  fun H locs ls hP hD hS hl => kk H locs ls (xP_perm h hP) (xD_perm h hD) hS hl
theorem x_drop {J : va_W} (kk : xV p l e R s m args below meth c D A Q nL ws k n L pc st) : xV p l e R s m args below meth c D A Q nL (ws ++ J) k n L pc st :=
  fun H locs ls hP hD hS hl => kk H locs ls (xP_left hP) (xD_left hD) hS hl
-- constants and locals
theorem x_iconst (C : xC p s m args meth c D A cc own nL Ts tys ret) {i : Int} {v : Int32} (d : decode cc pc = .ok (.iconst i, 1)) (hv : Int32.ofInt i = v) (hq : pc + 1 = q) (kk : xV p l e R s m args below meth c D A Q nL ws k n L q (.int v :: st)) : xV p l e R s m args below meth c D A Q nL ws k n L pc st :=
  fun H locs ls hP hD hS hl => lv_iconst C.1 C.2.1 d hv (hq ▸ kk H locs ls hP hD hS hl)
theorem x_bipush (C : xC p s m args meth c D A cc own nL Ts tys ret) {i : Int} {v : Int32} (d : decode cc pc = .ok (.bipush i, 2)) (hv : (Int8.ofInt i).toInt32 = v) (hq : pc + 2 = q) (kk : xV p l e R s m args below meth c D A Q nL ws k n L q (.int v :: st)) : xV p l e R s m args below meth c D A Q nL ws k n L pc st :=
  fun H locs ls hP hD hS hl => lv_bipush C.1 C.2.1 d hv (hq ▸ kk H locs ls hP hD hS hl)
theorem x_sipush (C : xC p s m args meth c D A cc own nL Ts tys ret) {i : Int} {v : Int32} (d : decode cc pc = .ok (.sipush i, 3)) (hv : (Int16.ofInt i).toInt32 = v) (hq : pc + 3 = q) (kk : xV p l e R s m args below meth c D A Q nL ws k n L q (.int v :: st)) : xV p l e R s m args below meth c D A Q nL ws k n L pc st :=
  fun H locs ls hP hD hS hl => lv_sipush C.1 C.2.1 d hv (hq ▸ kk H locs ls hP hD hS hl)
theorem x_ldc (C : xC p s m args meth c D A cc own nL Ts tys ret) {i : Nat} {v : Int32} (d : decode cc pc = .ok (.ldc i, 2)) (hm : Cond.constant own i v ∈ Ts) (hq : pc + 2 = q) (kk : xV p l e R s m args below meth c D A Q nL ws k n L q (.int v :: st)) : xV p l e R s m args below meth c D A Q nL ws k n L pc st :=
  fun H locs ls hP hD hS hl => lv_ldc C.1 C.2.1 C.2.2.2.1 (C.2.2.2.2.1 _ hm) d (hq ▸ kk H locs ls hP hD hS hl)
theorem x_ldc2 (C : xC p s m args meth c D A cc own nL Ts tys ret) {i : Nat} {v : Int64} (d : decode cc pc = .ok (.ldc2_w i, 3)) (hm : Cond.constantLong own i v ∈ Ts) (hq : pc + 3 = q) (kk : xV p l e R s m args below meth c D A Q nL ws k n L q (.long v :: st)) : xV p l e R s m args below meth c D A Q nL ws k n L pc st :=
  fun H locs ls hP hD hS hl => lv_ldc2 C.1 C.2.1 C.2.2.2.1 (C.2.2.2.2.1 _ hm) d (hq ▸ kk H locs ls hP hD hS hl)
theorem x_iload_n (C : xC p s m args meth c D A cc own nL Ts tys ret) {i : Fin 4} (j : Nat) {i' : Nat} {v : Int32} (d : decode cc pc = .ok (.iload_n i, 1)) (hi : (i : Nat) = i') (hL : L[j]? = some (i', .int v)) (hq : pc + 1 = q) (kk : xV p l e R s m args below meth c D A Q nL ws k n L q (.int v :: st)) : xV p l e R s m args below meth c D A Q nL ws k n L pc st :=
  fun H locs ls hP hD hS hl => lv_iload_n C.1 C.2.1 d hi (lv_at hl j hL) (hq ▸ kk H locs ls hP hD hS hl)
theorem x_iload (C : xC p s m args meth c D A cc own nL Ts tys ret) {i : Nat} (j : Nat) {v : Int32} (d : decode cc pc = .ok (.iload i, 2)) (hL : L[j]? = some (i, .int v)) (hq : pc + 2 = q) (kk : xV p l e R s m args below meth c D A Q nL ws k n L q (.int v :: st)) : xV p l e R s m args below meth c D A Q nL ws k n L pc st :=
  fun H locs ls hP hD hS hl => lv_iload C.1 C.2.1 d (lv_at hl j hL) (hq ▸ kk H locs ls hP hD hS hl)
theorem x_aload_n (C : xC p s m args meth c D A cc own nL Ts tys ret) {i : Fin 4} (j : Nat) {i' : Nat} {v : Nat} (d : decode cc pc = .ok (.aload_n i, 1)) (hi : (i : Nat) = i') (hL : L[j]? = some (i', .ref v)) (hq : pc + 1 = q) (kk : xV p l e R s m args below meth c D A Q nL ws k n L q (.ref v :: st)) : xV p l e R s m args below meth c D A Q nL ws k n L pc st :=
  fun H locs ls hP hD hS hl => lv_aload_n C.1 C.2.1 d hi (lv_at hl j hL) (hq ▸ kk H locs ls hP hD hS hl)
theorem x_aload (C : xC p s m args meth c D A cc own nL Ts tys ret) {i : Nat} (j : Nat) {v : Nat} (d : decode cc pc = .ok (.aload i, 2)) (hL : L[j]? = some (i, .ref v)) (hq : pc + 2 = q) (kk : xV p l e R s m args below meth c D A Q nL ws k n L q (.ref v :: st)) : xV p l e R s m args below meth c D A Q nL ws k n L pc st :=
  fun H locs ls hP hD hS hl => lv_aload C.1 C.2.1 d (lv_at hl j hL) (hq ▸ kk H locs ls hP hD hS hl)
theorem x_lload_n (C : xC p s m args meth c D A cc own nL Ts tys ret) {i : Fin 4} (j : Nat) {i' : Nat} {v : Int64} (d : decode cc pc = .ok (.lload_n i, 1)) (hi : (i : Nat) = i') (hL : L[j]? = some (i', .long v)) (hq : pc + 1 = q) (kk : xV p l e R s m args below meth c D A Q nL ws k n L q (.long v :: st)) : xV p l e R s m args below meth c D A Q nL ws k n L pc st :=
  fun H locs ls hP hD hS hl => lv_lload_n C.1 C.2.1 d hi (lv_at hl j hL) (hq ▸ kk H locs ls hP hD hS hl)
theorem x_istore_n (C : xC p s m args meth c D A cc own nL Ts tys ret) {i : Fin 4} {i' : Nat} {v : Int32} (ks : List Nat) (L' : List (Nat × Value)) (d : decode cc pc = .ok (.istore_n i, 1)) (hi : (i : Nat) = i') (hn : i' < nL) (hL : lv_pick ((i', Value.int v) :: L.filter (fun q => !(q.1 == i') && !(q.1 + 1 == i' && q.2.category == 2))) ks = L') (hq : pc + 1 = q) (kk : xV p l e R s m args below meth c D A Q nL ws k n L' q st) : xV p l e R s m args below meth c D A Q nL ws k n L pc (.int v :: st) :=
  fun H locs ls hP hD hS hl => lv_istore_n C.1 C.2.1 d hi hl hn rfl (fun ls' hl' => hq ▸ kk H locs ls' hP hD hS (lv_sub hl' ks hL))
theorem x_istore (C : xC p s m args meth c D A cc own nL Ts tys ret) {i : Nat} {v : Int32} (ks : List Nat) (L' : List (Nat × Value)) (d : decode cc pc = .ok (.istore i, 2)) (hn : i < nL) (hL : lv_pick ((i, Value.int v) :: L.filter (fun q => !(q.1 == i) && !(q.1 + 1 == i && q.2.category == 2))) ks = L') (hq : pc + 2 = q) (kk : xV p l e R s m args below meth c D A Q nL ws k n L' q st) : xV p l e R s m args below meth c D A Q nL ws k n L pc (.int v :: st) :=
  fun H locs ls hP hD hS hl => lv_istore C.1 C.2.1 d hl hn rfl (fun ls' hl' => hq ▸ kk H locs ls' hP hD hS (lv_sub hl' ks hL))
theorem x_astore_n (C : xC p s m args meth c D A cc own nL Ts tys ret) {i : Fin 4} {i' : Nat} {v : Nat} (ks : List Nat) (L' : List (Nat × Value)) (d : decode cc pc = .ok (.astore_n i, 1)) (hi : (i : Nat) = i') (hn : i' < nL) (hL : lv_pick ((i', Value.ref v) :: L.filter (fun q => !(q.1 == i') && !(q.1 + 1 == i' && q.2.category == 2))) ks = L') (hq : pc + 1 = q) (kk : xV p l e R s m args below meth c D A Q nL ws k n L' q st) : xV p l e R s m args below meth c D A Q nL ws k n L pc (.ref v :: st) :=
  fun H locs ls hP hD hS hl => lv_astore_n C.1 C.2.1 d hi hl hn rfl (fun ls' hl' => hq ▸ kk H locs ls' hP hD hS (lv_sub hl' ks hL))
theorem x_astore (C : xC p s m args meth c D A cc own nL Ts tys ret) {i : Nat} {v : Nat} (ks : List Nat) (L' : List (Nat × Value)) (d : decode cc pc = .ok (.astore i, 2)) (hn : i < nL) (hL : lv_pick ((i, Value.ref v) :: L.filter (fun q => !(q.1 == i) && !(q.1 + 1 == i && q.2.category == 2))) ks = L') (hq : pc + 2 = q) (kk : xV p l e R s m args below meth c D A Q nL ws k n L' q st) : xV p l e R s m args below meth c D A Q nL ws k n L pc (.ref v :: st) :=
  fun H locs ls hP hD hS hl => lv_astore C.1 C.2.1 d hl hn rfl (fun ls' hl' => hq ▸ kk H locs ls' hP hD hS (lv_sub hl' ks hL))
theorem x_lstore_n (C : xC p s m args meth c D A cc own nL Ts tys ret) {i : Fin 4} {i' : Nat} {v : Int64} (ks : List Nat) (L' : List (Nat × Value)) (d : decode cc pc = .ok (.lstore_n i, 1)) (hi : (i : Nat) = i') (hn : i' + 1 < nL) (hL : lv_pick ((i', Value.long v) :: L.filter (fun q => !(q.1 == i') && (!(q.1 == i' + 1) && !(q.1 + 1 == i' && q.2.category == 2)))) ks = L') (hq : pc + 1 = q) (kk : xV p l e R s m args below meth c D A Q nL ws k n L' q st) : xV p l e R s m args below meth c D A Q nL ws k n L pc (.long v :: st) :=
  fun H locs ls hP hD hS hl => lv_lstore_n C.1 C.2.1 d hi hl hn rfl (fun ls' hl' => hq ▸ kk H locs ls' hP hD hS (lv_sub hl' ks hL))
theorem x_iinc (C : xC p s m args meth c D A cc own nL Ts tys ret) {i : Nat} (j : Nat) {a : Int} {x : Int32} (v : Int32) (ks : List Nat) (L' : List (Nat × Value)) (d : decode cc pc = .ok (.iinc i a, 3)) (hk : L[j]? = some (i, .int x)) (hv : x + Int32.ofInt a = v) (hn : i < nL) (hL : lv_pick ((i, Value.int v) :: L.filter (fun q => !(q.1 == i) && !(q.1 + 1 == i && q.2.category == 2))) ks = L') (hq : pc + 3 = q) (kk : xV p l e R s m args below meth c D A Q nL ws k n L' q st) : xV p l e R s m args below meth c D A Q nL ws k n L pc st :=
  fun H locs ls hP hD hS hl => lv_iinc C.1 C.2.1 d hl hk hv hn rfl (fun ls' hl' => hq ▸ kk H locs ls' hP hD hS (lv_sub hl' ks hL))
theorem x_iadd (C : xC p s m args meth c D A cc own nL Ts tys ret) {x y : Int32} (d : decode cc pc = .ok (.iadd, 1)) (hq : pc + 1 = q) (kk : xV p l e R s m args below meth c D A Q nL ws k n L q (.int (x + y) :: st)) : xV p l e R s m args below meth c D A Q nL ws k n L pc (.int y :: .int x :: st) :=
  fun H locs ls hP hD hS hl => lv_iadd C.1 C.2.1 d (hq ▸ kk H locs ls hP hD hS hl)
theorem x_isub (C : xC p s m args meth c D A cc own nL Ts tys ret) {x y : Int32} (d : decode cc pc = .ok (.isub, 1)) (hq : pc + 1 = q) (kk : xV p l e R s m args below meth c D A Q nL ws k n L q (.int (x - y) :: st)) : xV p l e R s m args below meth c D A Q nL ws k n L pc (.int y :: .int x :: st) :=
  fun H locs ls hP hD hS hl => lv_isub C.1 C.2.1 d (hq ▸ kk H locs ls hP hD hS hl)
theorem x_imul (C : xC p s m args meth c D A cc own nL Ts tys ret) {x y : Int32} (d : decode cc pc = .ok (.imul, 1)) (hq : pc + 1 = q) (kk : xV p l e R s m args below meth c D A Q nL ws k n L q (.int (x * y) :: st)) : xV p l e R s m args below meth c D A Q nL ws k n L pc (.int y :: .int x :: st) :=
  fun H locs ls hP hD hS hl => lv_imul C.1 C.2.1 d (hq ▸ kk H locs ls hP hD hS hl)
theorem x_iand (C : xC p s m args meth c D A cc own nL Ts tys ret) {x y : Int32} (d : decode cc pc = .ok (.iand, 1)) (hq : pc + 1 = q) (kk : xV p l e R s m args below meth c D A Q nL ws k n L q (.int (x &&& y) :: st)) : xV p l e R s m args below meth c D A Q nL ws k n L pc (.int y :: .int x :: st) :=
  fun H locs ls hP hD hS hl => lv_iand C.1 C.2.1 d (hq ▸ kk H locs ls hP hD hS hl)
theorem x_ior (C : xC p s m args meth c D A cc own nL Ts tys ret) {x y : Int32} (d : decode cc pc = .ok (.ior, 1)) (hq : pc + 1 = q) (kk : xV p l e R s m args below meth c D A Q nL ws k n L q (.int (x ||| y) :: st)) : xV p l e R s m args below meth c D A Q nL ws k n L pc (.int y :: .int x :: st) :=
  fun H locs ls hP hD hS hl => lv_ior C.1 C.2.1 d (hq ▸ kk H locs ls hP hD hS hl)
theorem x_idiv (C : xC p s m args meth c D A cc own nL Ts tys ret) {x y : Int32} (d : decode cc pc = .ok (.idiv, 1)) (hne : ¬ y = 0) (hq : pc + 1 = q) (kk : xV p l e R s m args below meth c D A Q nL ws k n L q (.int (x / y) :: st)) : xV p l e R s m args below meth c D A Q nL ws k n L pc (.int y :: .int x :: st) :=
  fun H locs ls hP hD hS hl => lv_idiv C.1 C.2.1 d hne (hq ▸ kk H locs ls hP hD hS hl)
theorem x_irem (C : xC p s m args meth c D A cc own nL Ts tys ret) {x y : Int32} (d : decode cc pc = .ok (.irem, 1)) (hne : ¬ y = 0) (hq : pc + 1 = q) (kk : xV p l e R s m args below meth c D A Q nL ws k n L q (.int (x - x / y * y) :: st)) : xV p l e R s m args below meth c D A Q nL ws k n L pc (.int y :: .int x :: st) :=
  fun H locs ls hP hD hS hl => lv_irem C.1 C.2.1 d hne (hq ▸ kk H locs ls hP hD hS hl)
theorem x_ishl (C : xC p s m args meth c D A cc own nL Ts tys ret) {x y : Int32} (d : decode cc pc = .ok (.ishl, 1)) (hq : pc + 1 = q) (kk : xV p l e R s m args below meth c D A Q nL ws k n L q (.int (x <<< (y &&& 31)) :: st)) : xV p l e R s m args below meth c D A Q nL ws k n L pc (.int y :: .int x :: st) :=
  fun H locs ls hP hD hS hl => lv_ishl C.1 C.2.1 d (hq ▸ kk H locs ls hP hD hS hl)
theorem x_ishr (C : xC p s m args meth c D A cc own nL Ts tys ret) {x y : Int32} (d : decode cc pc = .ok (.ishr, 1)) (hq : pc + 1 = q) (kk : xV p l e R s m args below meth c D A Q nL ws k n L q (.int (x >>> (y &&& 31)) :: st)) : xV p l e R s m args below meth c D A Q nL ws k n L pc (.int y :: .int x :: st) :=
  fun H locs ls hP hD hS hl => lv_ishr C.1 C.2.1 d (hq ▸ kk H locs ls hP hD hS hl)
theorem x_i2l (C : xC p s m args meth c D A cc own nL Ts tys ret) {x : Int32} (d : decode cc pc = .ok (.i2l, 1)) (hq : pc + 1 = q) (kk : xV p l e R s m args below meth c D A Q nL ws k n L q (.long x.toInt64 :: st)) : xV p l e R s m args below meth c D A Q nL ws k n L pc (.int x :: st) :=
  fun H locs ls hP hD hS hl => lv_i2l C.1 C.2.1 d rfl (hq ▸ kk H locs ls hP hD hS hl)
theorem x_ladd (C : xC p s m args meth c D A cc own nL Ts tys ret) {x y : Int64} (d : decode cc pc = .ok (.ladd, 1)) (hq : pc + 1 = q) (kk : xV p l e R s m args below meth c D A Q nL ws k n L q (.long (x + y) :: st)) : xV p l e R s m args below meth c D A Q nL ws k n L pc (.long y :: .long x :: st) :=
  fun H locs ls hP hD hS hl => lv_ladd C.1 C.2.1 d (hq ▸ kk H locs ls hP hD hS hl)
theorem x_lmul (C : xC p s m args meth c D A cc own nL Ts tys ret) {x y : Int64} (d : decode cc pc = .ok (.lmul, 1)) (hq : pc + 1 = q) (kk : xV p l e R s m args below meth c D A Q nL ws k n L q (.long (x * y) :: st)) : xV p l e R s m args below meth c D A Q nL ws k n L pc (.long y :: .long x :: st) :=
  fun H locs ls hP hD hS hl => lv_lmul C.1 C.2.1 d (hq ▸ kk H locs ls hP hD hS hl)
theorem x_lcmp (C : xC p s m args meth c D A cc own nL Ts tys ret) {x y : Int64} (d : decode cc pc = .ok (.lcmp, 1)) (hq : pc + 1 = q) (kk : xV p l e R s m args below meth c D A Q nL ws k n L q (.int (lg_cmp x y) :: st)) : xV p l e R s m args below meth c D A Q nL ws k n L pc (.long y :: .long x :: st) :=
  fun H locs ls hP hD hS hl => W.lcmp C.1 C.2.1 d (hq ▸ kk H locs ls hP hD hS hl)
theorem x_dup (C : xC p s m args meth c D A cc own nL Ts tys ret) {v : Value} (d : decode cc pc = .ok (.dup, 1)) (hv : v.category = 1) (hq : pc + 1 = q) (kk : xV p l e R s m args below meth c D A Q nL ws k n L q (v :: v :: st)) : xV p l e R s m args below meth c D A Q nL ws k n L pc (v :: st) :=
  fun H locs ls hP hD hS hl => lv_dup C.1 C.2.1 d hv (hq ▸ kk H locs ls hP hD hS hl)
theorem x_dup2 (C : xC p s m args meth c D A cc own nL Ts tys ret) {v w : Value} (d : decode cc pc = .ok (.dup2, 1)) (hv : v.category = 1) (hw : w.category = 1) (hq : pc + 1 = q) (kk : xV p l e R s m args below meth c D A Q nL ws k n L q (v :: w :: v :: w :: st)) : xV p l e R s m args below meth c D A Q nL ws k n L pc (v :: w :: st) :=
  fun H locs ls hP hD hS hl => lv_dup2_11 C.1 C.2.1 d hv hw (hq ▸ kk H locs ls hP hD hS hl)
theorem x_pop (C : xC p s m args meth c D A cc own nL Ts tys ret) {v : Value} (d : decode cc pc = .ok (.pop, 1)) (hv : v.category = 1) (hq : pc + 1 = q) (kk : xV p l e R s m args below meth c D A Q nL ws k n L q st) : xV p l e R s m args below meth c D A Q nL ws k n L pc (v :: st) :=
  fun H locs ls hP hD hS hl => lv_pop C.1 C.2.1 d hv (hq ▸ kk H locs ls hP hD hS hl)
theorem x_goto (C : xC p s m args meth c D A cc own nL Ts tys ret) {off : Int} {t : Nat} (d : decode cc pc = .ok (.goto off, 3)) (ht : (pc : Int) + off = (t : Int)) (kk : xV p l e R s m args below meth c D A Q nL ws k n L t st) : xV p l e R s m args below meth c D A Q nL ws k n L pc st :=
  fun H locs ls hP hD hS hl => lv_goto C.1 C.2.1 d ht (kk H locs ls hP hD hS hl)
theorem x_icmp_eq (C : xC p s m args meth c D A cc own nL Ts tys ret) {x y : Int32} {off : Int} {t : Nat} (d : decode cc pc = .ok (.if_icmp .eq off, 3)) (ht : (pc : Int) + off = (t : Int)) (hq : pc + 3 = q) (kt : x = y → xV p l e R s m args below meth c D A Q nL ws k n L t st) (kf : ¬ x = y → xV p l e R s m args below meth c D A Q nL ws k n L q st) : xV p l e R s m args below meth c D A Q nL ws k n L pc (.int y :: .int x :: st) :=
  fun H locs ls hP hD hS hl => lv_icmp_eq C.1 C.2.1 d ht (fun h => kt h H locs ls hP hD hS hl) (fun h => hq ▸ kf h H locs ls hP hD hS hl)
theorem x_if_eq (C : xC p s m args meth c D A cc own nL Ts tys ret) {x : Int32} {off : Int} {t : Nat} (d : decode cc pc = .ok (.ifCond .eq off, 3)) (ht : (pc : Int) + off = (t : Int)) (hq : pc + 3 = q) (kt : x = 0 → xV p l e R s m args below meth c D A Q nL ws k n L t st) (kf : ¬ x = 0 → xV p l e R s m args below meth c D A Q nL ws k n L q st) : xV p l e R s m args below meth c D A Q nL ws k n L pc (.int x :: st) :=
  fun H locs ls hP hD hS hl => lv_if_eq C.1 C.2.1 d ht (fun h => kt h H locs ls hP hD hS hl) (fun h => hq ▸ kf h H locs ls hP hD hS hl)
theorem x_icmp_ne (C : xC p s m args meth c D A cc own nL Ts tys ret) {x y : Int32} {off : Int} {t : Nat} (d : decode cc pc = .ok (.if_icmp .ne off, 3)) (ht : (pc : Int) + off = (t : Int)) (hq : pc + 3 = q) (kt : ¬ x = y → xV p l e R s m args below meth c D A Q nL ws k n L t st) (kf : x = y → xV p l e R s m args below meth c D A Q nL ws k n L q st) : xV p l e R s m args below meth c D A Q nL ws k n L pc (.int y :: .int x :: st) :=
  fun H locs ls hP hD hS hl => lv_icmp_ne C.1 C.2.1 d ht (fun h => kt h H locs ls hP hD hS hl) (fun h => hq ▸ kf h H locs ls hP hD hS hl)
theorem x_if_ne (C : xC p s m args meth c D A cc own nL Ts tys ret) {x : Int32} {off : Int} {t : Nat} (d : decode cc pc = .ok (.ifCond .ne off, 3)) (ht : (pc : Int) + off = (t : Int)) (hq : pc + 3 = q) (kt : ¬ x = 0 → xV p l e R s m args below meth c D A Q nL ws k n L t st) (kf : x = 0 → xV p l e R s m args below meth c D A Q nL ws k n L q st) : xV p l e R s m args below meth c D A Q nL ws k n L pc (.int x :: st) :=
  fun H locs ls hP hD hS hl => lv_if_ne C.1 C.2.1 d ht (fun h => kt h H locs ls hP hD hS hl) (fun h => hq ▸ kf h H locs ls hP hD hS hl)
theorem x_icmp_lt (C : xC p s m args meth c D A cc own nL Ts tys ret) {x y : Int32} {off : Int} {t : Nat} (d : decode cc pc = .ok (.if_icmp .lt off, 3)) (ht : (pc : Int) + off = (t : Int)) (hq : pc + 3 = q) (kt : x < y → xV p l e R s m args below meth c D A Q nL ws k n L t st) (kf : ¬ x < y → xV p l e R s m args below meth c D A Q nL ws k n L q st) : xV p l e R s m args below meth c D A Q nL ws k n L pc (.int y :: .int x :: st) :=
  fun H locs ls hP hD hS hl => lv_icmp_lt C.1 C.2.1 d ht (fun h => kt h H locs ls hP hD hS hl) (fun h => hq ▸ kf h H locs ls hP hD hS hl)
theorem x_if_lt (C : xC p s m args meth c D A cc own nL Ts tys ret) {x : Int32} {off : Int} {t : Nat} (d : decode cc pc = .ok (.ifCond .lt off, 3)) (ht : (pc : Int) + off = (t : Int)) (hq : pc + 3 = q) (kt : x < 0 → xV p l e R s m args below meth c D A Q nL ws k n L t st) (kf : ¬ x < 0 → xV p l e R s m args below meth c D A Q nL ws k n L q st) : xV p l e R s m args below meth c D A Q nL ws k n L pc (.int x :: st) :=
  fun H locs ls hP hD hS hl => lv_if_lt C.1 C.2.1 d ht (fun h => kt h H locs ls hP hD hS hl) (fun h => hq ▸ kf h H locs ls hP hD hS hl)
theorem x_icmp_ge (C : xC p s m args meth c D A cc own nL Ts tys ret) {x y : Int32} {off : Int} {t : Nat} (d : decode cc pc = .ok (.if_icmp .ge off, 3)) (ht : (pc : Int) + off = (t : Int)) (hq : pc + 3 = q) (kt : y ≤ x → xV p l e R s m args below meth c D A Q nL ws k n L t st) (kf : ¬ y ≤ x → xV p l e R s m args below meth c D A Q nL ws k n L q st) : xV p l e R s m args below meth c D A Q nL ws k n L pc (.int y :: .int x :: st) :=
  fun H locs ls hP hD hS hl => lv_icmp_ge C.1 C.2.1 d ht (fun h => kt h H locs ls hP hD hS hl) (fun h => hq ▸ kf h H locs ls hP hD hS hl)
theorem x_if_ge (C : xC p s m args meth c D A cc own nL Ts tys ret) {x : Int32} {off : Int} {t : Nat} (d : decode cc pc = .ok (.ifCond .ge off, 3)) (ht : (pc : Int) + off = (t : Int)) (hq : pc + 3 = q) (kt : 0 ≤ x → xV p l e R s m args below meth c D A Q nL ws k n L t st) (kf : ¬ 0 ≤ x → xV p l e R s m args below meth c D A Q nL ws k n L q st) : xV p l e R s m args below meth c D A Q nL ws k n L pc (.int x :: st) :=
  fun H locs ls hP hD hS hl => lv_if_ge C.1 C.2.1 d ht (fun h => kt h H locs ls hP hD hS hl) (fun h => hq ▸ kf h H locs ls hP hD hS hl)
theorem x_icmp_gt (C : xC p s m args meth c D A cc own nL Ts tys ret) {x y : Int32} {off : Int} {t : Nat} (d : decode cc pc = .ok (.if_icmp .gt off, 3)) (ht : (pc : Int) + off = (t : Int)) (hq : pc + 3 = q) (kt : y < x → xV p l e R s m args below meth c D A Q nL ws k n L t st) (kf : ¬ y < x → xV p l e R s m args below meth c D A Q nL ws k n L q st) : xV p l e R s m args below meth c D A Q nL ws k n L pc (.int y :: .int x :: st) :=
  fun H locs ls hP hD hS hl => lv_icmp_gt C.1 C.2.1 d ht (fun h => kt h H locs ls hP hD hS hl) (fun h => hq ▸ kf h H locs ls hP hD hS hl)
theorem x_if_gt (C : xC p s m args meth c D A cc own nL Ts tys ret) {x : Int32} {off : Int} {t : Nat} (d : decode cc pc = .ok (.ifCond .gt off, 3)) (ht : (pc : Int) + off = (t : Int)) (hq : pc + 3 = q) (kt : 0 < x → xV p l e R s m args below meth c D A Q nL ws k n L t st) (kf : ¬ 0 < x → xV p l e R s m args below meth c D A Q nL ws k n L q st) : xV p l e R s m args below meth c D A Q nL ws k n L pc (.int x :: st) :=
  fun H locs ls hP hD hS hl => lv_if_gt C.1 C.2.1 d ht (fun h => kt h H locs ls hP hD hS hl) (fun h => hq ▸ kf h H locs ls hP hD hS hl)
theorem x_icmp_le (C : xC p s m args meth c D A cc own nL Ts tys ret) {x y : Int32} {off : Int} {t : Nat} (d : decode cc pc = .ok (.if_icmp .le off, 3)) (ht : (pc : Int) + off = (t : Int)) (hq : pc + 3 = q) (kt : x ≤ y → xV p l e R s m args below meth c D A Q nL ws k n L t st) (kf : ¬ x ≤ y → xV p l e R s m args below meth c D A Q nL ws k n L q st) : xV p l e R s m args below meth c D A Q nL ws k n L pc (.int y :: .int x :: st) :=
  fun H locs ls hP hD hS hl => lv_icmp_le C.1 C.2.1 d ht (fun h => kt h H locs ls hP hD hS hl) (fun h => hq ▸ kf h H locs ls hP hD hS hl)
theorem x_if_le (C : xC p s m args meth c D A cc own nL Ts tys ret) {x : Int32} {off : Int} {t : Nat} (d : decode cc pc = .ok (.ifCond .le off, 3)) (ht : (pc : Int) + off = (t : Int)) (hq : pc + 3 = q) (kt : x ≤ 0 → xV p l e R s m args below meth c D A Q nL ws k n L t st) (kf : ¬ x ≤ 0 → xV p l e R s m args below meth c D A Q nL ws k n L q st) : xV p l e R s m args below meth c D A Q nL ws k n L pc (.int x :: st) :=
  fun H locs ls hP hD hS hl => lv_if_le C.1 C.2.1 d ht (fun h => kt h H locs ls hP hD hS hl) (fun h => hq ▸ kf h H locs ls hP hD hS hl)
theorem x_tableIn (C : xC p s m args meth c D A cc own nL Ts tys ret) {dflt lo hi : Int} {offs : Array Int} {len : Nat} {x : Int32} {off : Int} {t : Nat} (d : decode cc pc = .ok (.tableswitch dflt lo hi offs, len)) (h1 : ¬ x.toInt < lo) (h2 : ¬ hi < x.toInt) (ho : offs[(x.toInt - lo).toNat]? = some off) (ht : (pc : Int) + off = (t : Int)) (kk : xV p l e R s m args below meth c D A Q nL ws k n L t st) : xV p l e R s m args below meth c D A Q nL ws k n L pc (.int x :: st) :=
  fun H locs ls hP hD hS hl => lv_tableIn C.1 C.2.1 d h1 h2 ho ht (kk H locs ls hP hD hS hl)
theorem x_tableOut (C : xC p s m args meth c D A cc own nL Ts tys ret) {dflt lo hi : Int} {offs : Array Int} {len : Nat} {x : Int32} {t : Nat} (d : decode cc pc = .ok (.tableswitch dflt lo hi offs, len)) (h : x.toInt < lo ∨ hi < x.toInt) (ht : (pc : Int) + dflt = (t : Int)) (kk : xV p l e R s m args below meth c D A Q nL ws k n L t st) : xV p l e R s m args below meth c D A Q nL ws k n L pc (.int x :: st) :=
  fun H locs ls hP hD hS hl => lv_tableOut C.1 C.2.1 d h ht (kk H locs ls hP hD hS hl)
theorem x_lookup (C : xC p s m args meth c D A cc own nL Ts tys ret) {dflt : Int} {ps : Array (Int × Int)} {len : Nat} {x : Int32} {off : Int} {t : Nat} (d : decode cc pc = .ok (.lookupswitch dflt ps, len)) (hp : (ps.toList.zip (ps.toList.drop 1)).all (fun (a, next) => a.1 < next.1) = true) (ho : Op.lookupswitch.offset ps.toList dflt x.toInt = off) (ht : (pc : Int) + off = (t : Int)) (kk : xV p l e R s m args below meth c D A Q nL ws k n L t st) : xV p l e R s m args below meth c D A Q nL ws k n L pc (.int x :: st) :=
  fun H locs ls hP hD hS hl => lv_lookup C.1 C.2.1 d hp ho ht (kk H locs ls hP hD hS hl)
-- the heap
theorem x_get (C : xC p s m args meth c D A cc own nL Ts tys ret) {a ci index : Nat} {fs : List Value} {ref Cn : String} {T : u_T} {N : Nat} (f : Nat) {v : Value} (d : decode cc pc = .ok (.getfield index, 3)) (ho : xO ws a ci fs) (hc : vwCl[ci]? = some (Cn, T, N)) (hin : ∀ w ∈ u_ws Cn T N, w ∈ Ts) (hm : Cond.fieldLink own index ref (T f).2.1 (T f).2.2.1 ∈ Ts) (href : (T f).1 = ref) (hf : f < N) (hv : fs[f]? = some v) (hq : pc + 3 = q) (kk : xV p l e R s m args below meth c D A Q nL ws k n L q (v :: st)) : xV p l e R s m args below meth c D A Q nL ws k n L pc (.ref a :: st) := by
  intro H locs ls hP hD hS hl
  obtain ⟨q0, h0⟩ := ho
  obtain ⟨hx, hb, -, hown, hts, hK, -⟩ := C
  exact va_get hx hb hts hin hown hK hP q0 h0 hc f hf (hts _ hm) (fun x h => by rw [← href]; exact h) hv d (hq ▸ kk H locs ls hP hD hS hl)
theorem x_puti (C : xC p s m args meth c D A cc own nL Ts tys ret) {a ci index : Nat} {fs : List Value} {ref Cn : String} {T : u_T} {N : Nat} {f : Nat} {x : Int32} {G : Int32 → va_W} (ty0 : Nat → FieldType) (hty : ∀ k, k < N → parseFieldDescriptor (T k).2.2.1 = some (ty0 k)) (hnm : ∀ a, a < N → ∀ b, b < N → a ≠ b → (T a).2.1 ≠ (T b).2.1) (d : decode cc pc = .ok (.putfield index, 3)) (ho : xI ws a ci fs f G) (hc : vwCl[ci]? = some (Cn, T, N)) (hin : ∀ w ∈ u_ws Cn T N, w ∈ Ts) (hm : Cond.fieldLink own index ref (T f).2.1 (T f).2.2.1 ∈ Ts) (href : (T f).1 = ref) (hf : f < N) (hfin : (T f).2.2.2 = false) (hd : parseFieldDescriptor (T f).2.2.1 = some .int) (hw : G x = ws') (hq : pc + 3 = q) (kk : xV p l e R s m args below meth c D A Q nL ws' k n L q st) : xV p l e R s m args below meth c D A Q nL ws k n L pc (.int x :: .ref a :: st) := by
  intro H locs ls hP hD hS hl
  obtain ⟨q0, h0, h1, h2⟩ := ho
  obtain ⟨hx, hb, -, hown, hts, hK, -⟩ := C
  refine va_put (ty := .int) (v := .int x) hx hb hts hin ty0 hty hnm hown hK hP hD hS q0 h0 hc f hf (hts _ hm) (fun x h => by rw [← href]; exact h) hfin hd rfl rfl h1 d (fun H1 locs1 hP1 hD1 hS1 => ?_)
  rw [h2, hw] at hP1 hD1
  exact hq ▸ kk H1 locs1 ls hP1 hD1 hS1 hl
theorem x_iald (C : xC p s m args meth c D A cc own nL Ts tys ret) {a n0 : Nat} {cA : ClassId} {f : Nat → Int32} {G : (Nat → Int32) → va_W} {i : Int32} (t0 : Nat) (d : decode cc pc = .ok (.iaload, 1)) (ho : xA ws a cA n0 f G) (ht : tys[t0]? = some (cA, .int)) (hi : xin i n0 = true) (hq : pc + 1 = q) (kk : xV p l e R s m args below meth c D A Q nL ws k n L q (.int (f i.toNatClampNeg) :: st)) : xV p l e R s m args below meth c D A Q nL ws k n L pc (.int i :: .ref a :: st) := by
  intro H locs ls hP hD hS hl
  obtain ⟨q0, h0, -⟩ := ho
  exact va_iald C.1 C.2.1 C.2.2.2.2.2.1 hP q0 t0 h0 ht (xin_of hi) d (hq ▸ kk H locs ls hP hD hS hl)
theorem x_zald (C : xC p s m args meth c D A cc own nL Ts tys ret) {a n0 : Nat} {cA : ClassId} {f : Nat → Int32} {G : (Nat → Int32) → va_W} {i : Int32} (t0 : Nat) (d : decode cc pc = .ok (.baload, 1)) (ho : xA ws a cA n0 f G) (ht : tys[t0]? = some (cA, .boolean)) (hi : xin i n0 = true) (hq : pc + 1 = q) (kk : xV p l e R s m args below meth c D A Q nL ws k n L q (.int (f i.toNatClampNeg) :: st)) : xV p l e R s m args below meth c D A Q nL ws k n L pc (.int i :: .ref a :: st) := by
  intro H locs ls hP hD hS hl
  obtain ⟨q0, h0, -⟩ := ho
  exact va_zald C.1 C.2.1 C.2.2.2.2.2.1 hP q0 t0 h0 ht (xin_of hi) d (hq ▸ kk H locs ls hP hD hS hl)
theorem x_iast (C : xC p s m args meth c D A cc own nL Ts tys ret) {a n0 : Nat} {cA : ClassId} {f : Nat → Int32} {G : (Nat → Int32) → va_W} {i x : Int32} (t0 : Nat) (d : decode cc pc = .ok (.iastore, 1)) (ho : xA ws a cA n0 f G) (ht : tys[t0]? = some (cA, .int)) (hi : xin i n0 = true) (hw : G (upd f i.toNatClampNeg x) = ws') (hq : pc + 1 = q) (kk : xV p l e R s m args below meth c D A Q nL ws' k n L q st) : xV p l e R s m args below meth c D A Q nL ws k n L pc (.int x :: .int i :: .ref a :: st) := by
  intro H locs ls hP hD hS hl
  obtain ⟨q0, h0, h2⟩ := ho
  refine va_iast C.1 C.2.1 C.2.2.2.2.2.1 hP hD hS q0 t0 h0 ht (xin_of hi) d (fun H1 locs1 hP1 hD1 hS1 => ?_)
  rw [h2, hw] at hP1 hD1
  exact hq ▸ kk H1 locs1 ls hP1 hD1 hS1 hl
theorem x_zast (C : xC p s m args meth c D A cc own nL Ts tys ret) {a n0 : Nat} {cA : ClassId} {f : Nat → Int32} {G : (Nat → Int32) → va_W} {i x : Int32} (t0 : Nat) (d : decode cc pc = .ok (.bastore, 1)) (ho : xA ws a cA n0 f G) (ht : tys[t0]? = some (cA, .boolean)) (hi : xin i n0 = true) (hw : G (upd f i.toNatClampNeg (vp_nar .boolean x)) = ws') (hq : pc + 1 = q) (kk : xV p l e R s m args below meth c D A Q nL ws' k n L q st) : xV p l e R s m args below meth c D A Q nL ws k n L pc (.int x :: .int i :: .ref a :: st) := by
  intro H locs ls hP hD hS hl
  obtain ⟨q0, h0, h2⟩ := ho
  refine va_zast C.1 C.2.1 C.2.2.2.2.2.1 hP hD hS q0 t0 h0 ht (xin_of hi) d (fun H1 locs1 hP1 hD1 hS1 => ?_)
  rw [h2, hw] at hP1 hD1
  exact hq ▸ kk H1 locs1 ls hP1 hD1 hS1 hl
/-- a row of an array of arrays -/
theorem x_aald (C : xC p s m args meth c D A cc own nL Ts tys ret) {a n0 : Nat} {cA : ClassId} {f : Nat → Option Nat} {i : Int32} {b : Nat} {ty : FieldType} (t0 : Nat) (d : decode cc pc = .ok (.aaload, 1)) (ho : xR ws a cA n0 f) (ht : tys[t0]? = some (cA, ty)) (hr : ty.isReference = true) (hi : xin i n0 = true) (hb : f i.toNatClampNeg = some b) (hq : pc + 1 = q) (kk : xV p l e R s m args below meth c D A Q nL ws k n L q (.ref b :: st)) : xV p l e R s m args below meth c D A Q nL ws k n L pc (.int i :: .ref a :: st) := by
  intro H locs ls hP hD hS hl
  obtain ⟨q0, h0⟩ := ho
  obtain ⟨hx, hbb, -, hown, hts, hK, -⟩ := C
  have hin := xin_of hi
  have hc : H[a]? = some (arrV cA n0 (fun j => va_rf (f j))) := hP q0 _ h0
  have hlt : i.toNatClampNeg < n0 := by
    rcases Nat.lt_or_ge i.toNatClampNeg n0 with h | h
    · exact h
    · exact absurd (Or.inr h) hin
  refine W.aald hx hbb hc ((hK.2 t0 _ ht).1 n0 _) hr (fun h => by cases h) (by rw [arrV_size]; exact hin) (v := .ref b) ?_ rfl rfl d (W.eq (g2 := F0 m (pc + 1) ls (.ref b :: st)) rfl (hq ▸ kk H locs ls hP hD hS hl))
  show (arrV cA n0 (fun j => va_rf (f j))).slots[i.toNatClampNeg]? = some (.ref b)
  exact (arrV_read cA _ hlt).trans (congrArg some (by show va_rf (f i.toNatClampNeg) = .ref b; rw [hb]; rfl))
theorem x_alen (C : xC p s m args meth c D A cc own nL Ts tys ret) {a n0 : Nat} {cA : ClassId} {f : Nat → Int32} {G : (Nat → Int32) → va_W} {ty : FieldType} (t0 : Nat) {v : Int32} (d : decode cc pc = .ok (.arraylength, 1)) (ho : xA ws a cA n0 f G) (ht : tys[t0]? = some (cA, ty)) (hv : Int32.ofNat n0 = v) (hq : pc + 1 = q) (kk : xV p l e R s m args below meth c D A Q nL ws k n L q (.int v :: st)) : xV p l e R s m args below meth c D A Q nL ws k n L pc (.ref a :: st) := by
  intro H locs ls hP hD hS hl
  obtain ⟨q0, h0, -⟩ := ho
  exact va_alen C.1 C.2.1 C.2.2.2.2.2.1 hP q0 t0 h0 ht hv d (hq ▸ kk H locs ls hP hD hS hl)
theorem x_mmin (C : xC p s m args meth c D A cc own nL Ts tys ret) {index : Nat} {x y : Int32} (d : decode cc pc = .ok (.invokestatic index, 3)) (hm : ∀ w ∈ ([.methodLink own index Lib.Math.min.name, .static Lib.Math.min.name, .initialized "java/lang/Math", .code Lib.Math.min.name Lib.Math.min.code 2 (some .int)] : List Cond), w ∈ Ts) (hfr : 1 ≤ R.frames) (hlo : (st.map fun v => v.category).sum + 13 ≤ R.locals) (hk : k ≤ R.cells) (hn : n ≤ R.slots) (hq : pc + 3 = q) (kk : xV p l e R s m args below meth c D A Q nL ws k n L q (.int (if y < x then y else x) :: st)) : xV p l e R s m args below meth c D A Q nL ws k n L pc (.int y :: .int x :: st) := by
  intro H locs ls hP hD hS hl
  obtain ⟨hx, hbb, hml, hown, hts, hK, -⟩ := C
  exact va_mmin hx hbb (hml.trans hl.1.symm) hown (hts _ (hm _ (by simp))) (hts _ (hm _ (by simp))) (hts _ (hm _ (by simp))) (hts _ (hm _ (by simp))) hfr hlo hk hn d (hq ▸ kk H locs ls hP hD hS hl)
theorem x_mmax (C : xC p s m args meth c D A cc own nL Ts tys ret) {index : Nat} {x y : Int32} (d : decode cc pc = .ok (.invokestatic index, 3)) (hm : ∀ w ∈ ([.methodLink own index Lib.Math.max.name, .static Lib.Math.max.name, .initialized "java/lang/Math", .code Lib.Math.max.name Lib.Math.max.code 2 (some .int)] : List Cond), w ∈ Ts) (hfr : 1 ≤ R.frames) (hlo : (st.map fun v => v.category).sum + 13 ≤ R.locals) (hk : k ≤ R.cells) (hn : n ≤ R.slots) (hq : pc + 3 = q) (kk : xV p l e R s m args below meth c D A Q nL ws k n L q (.int (if x < y then y else x) :: st)) : xV p l e R s m args below meth c D A Q nL ws k n L pc (.int y :: .int x :: st) := by
  intro H locs ls hP hD hS hl
  obtain ⟨hx, hbb, hml, hown, hts, hK, -⟩ := C
  exact va_mmax hx hbb (hml.trans hl.1.symm) hown (hts _ (hm _ (by simp))) (hts _ (hm _ (by simp))) (hts _ (hm _ (by simp))) (hts _ (hm _ (by simp))) hfr hlo hk hn d (hq ▸ kk H locs ls hP hD hS hl)
end XK
-- a method's body, from its entry
def xQi (D : va_G) (tys : List (ClassId × FieldType)) (A : Nat → Prop) {S : Type} (post : Int32 → S → Prop) (W' : S → va_W) (mc ms : Nat) (below : List Frame) (args : Array Value) (s : State) : State → Prop := MQ below (va_Qi post (fun u t => xE D tys A (W' u) t) A) args s mc ms A
def xQv (D : va_G) (tys : List (ClassId × FieldType)) (A : Nat → Prop) {S : Type} (post : S → Prop) (W' : S → va_W) (mc ms : Nat) (below : List Frame) (args : Array Value) (s : State) : State → Prop := MQ below (va_Qv post (fun u t => xE D tys A (W' u) t) A) args s mc ms A
def xQl (D : va_G) (tys : List (ClassId × FieldType)) (A : Nat → Prop) {S : Type} (post : Int64 → S → Prop) (W' : S → va_W) (mc ms : Nat) (below : List Frame) (args : Array Value) (s : State) : State → Prop := MQ below (va_Ql post (fun u t => xE D tys A (W' u) t) A) args s mc ms A
def xQr (D : va_G) (tys : List (ClassId × FieldType)) (A : Nat → Prop) {S : Type} (post : S → Prop) (W' : S → Nat → va_W) (mc ms : Nat) (below : List Frame) (args : Array Value) (s : State) : State → Prop := MQ below (va_Qr post (fun u a t => xE D tys A (W' u a) t) A) args s mc ms A
theorem xMi_of {l : Launch} {y : MethodName} {wsM ws' : List Cond} {cc : ByteArray} {nL rf rl mc ms : Nat} {ret : Option FieldType} {D : va_G} {tys : List (ClassId × FieldType)} {av : List Value} {Wc : va_W} {S : Type} {post : Int32 → S → Prop} {W' : S → va_W} (L : List (Nat × Value)) (hy : plainName y.cls = true) (hw : wsM = Cond.code y cc nL ret :: ws') (hn : (lg_sl av).length ≤ nL) (hL : lv_args 0 av = L)
    (body : ∀ (p : Program) (e : Env) (s : State) (m : MethodId) (args : Array Value) (below : List Frame) (meth : Method) (c : Code) (A : Nat → Prop), xC p s m args meth c D A cc y.cls nL wsM tys ret → (y.name = "<init>" → meth.name = "<init>") → xV p l e { frames := rf, cells := mc, slots := ms, locals := rl } s m args below meth c D A (xQi D tys A post W' mc ms below args s) nL Wc 0 0 L 0 []) : xMi l y wsM rf rl mc ms D tys av Wc post W' := by
  intro sz
  refine Met.ofW (cc := cc) (maxL := nL) (ret := ret) hy hw ?_
  intro p e s m args below meth c s₁ B hml hv
  obtain ⟨rfl, hsz, hP, hK, hD0⟩ := hv
  subst hsz
  have hD := hD0.self (sz := s.heap.size)
  have hl := lv_entry av hn
  rw [hL] at hl
  have key := body p e s m av.toArray below meth c (va_A Wc s.heap.size) ⟨B.exec, B.bytes, hml, findClass_of_methodNamed B.named, atoms_spec (ws := wsM) B.pre, hK, B.returns, B.notSynchronized, fun q h => Or.inr h⟩ (fun h => (name_of_methodNamed B.named B.method).1.trans h) s.heap [] _ hP hD va_S.rf hl
  rw [← lg_entry_eq] at key
  exact key
theorem xMv_of {l : Launch} {y : MethodName} {wsM ws' : List Cond} {cc : ByteArray} {nL rf rl mc ms : Nat} {ret : Option FieldType} {D : va_G} {tys : List (ClassId × FieldType)} {av : List Value} {Wc : va_W} {S : Type} {post : S → Prop} {W' : S → va_W} (L : List (Nat × Value)) (hy : plainName y.cls = true) (hw : wsM = Cond.code y cc nL ret :: ws') (hn : (lg_sl av).length ≤ nL) (hL : lv_args 0 av = L)
    (body : ∀ (p : Program) (e : Env) (s : State) (m : MethodId) (args : Array Value) (below : List Frame) (meth : Method) (c : Code) (A : Nat → Prop), xC p s m args meth c D A cc y.cls nL wsM tys ret → (y.name = "<init>" → meth.name = "<init>") → xV p l e { frames := rf, cells := mc, slots := ms, locals := rl } s m args below meth c D A (xQv D tys A post W' mc ms below args s) nL Wc 0 0 L 0 []) : xMv l y wsM rf rl mc ms D tys av Wc post W' := by
  intro sz
  refine Met.ofW (cc := cc) (maxL := nL) (ret := ret) hy hw ?_
  intro p e s m args below meth c s₁ B hml hv
  obtain ⟨rfl, hsz, hP, hK, hD0⟩ := hv
  subst hsz
  have hD := hD0.self (sz := s.heap.size)
  have hl := lv_entry av hn
  rw [hL] at hl
  have key := body p e s m av.toArray below meth c (va_A Wc s.heap.size) ⟨B.exec, B.bytes, hml, findClass_of_methodNamed B.named, atoms_spec (ws := wsM) B.pre, hK, B.returns, B.notSynchronized, fun q h => Or.inr h⟩ (fun h => (name_of_methodNamed B.named B.method).1.trans h) s.heap [] _ hP hD va_S.rf hl
  rw [← lg_entry_eq] at key
  exact key
theorem xMl_of {l : Launch} {y : MethodName} {wsM ws' : List Cond} {cc : ByteArray} {nL rf rl mc ms : Nat} {ret : Option FieldType} {D : va_G} {tys : List (ClassId × FieldType)} {av : List Value} {Wc : va_W} {S : Type} {post : Int64 → S → Prop} {W' : S → va_W} (L : List (Nat × Value)) (hy : plainName y.cls = true) (hw : wsM = Cond.code y cc nL ret :: ws') (hn : (lg_sl av).length ≤ nL) (hL : lv_args 0 av = L)
    (body : ∀ (p : Program) (e : Env) (s : State) (m : MethodId) (args : Array Value) (below : List Frame) (meth : Method) (c : Code) (A : Nat → Prop), xC p s m args meth c D A cc y.cls nL wsM tys ret → (y.name = "<init>" → meth.name = "<init>") → xV p l e { frames := rf, cells := mc, slots := ms, locals := rl } s m args below meth c D A (xQl D tys A post W' mc ms below args s) nL Wc 0 0 L 0 []) : xMl l y wsM rf rl mc ms D tys av Wc post W' := by
  intro sz
  refine Met.ofW (cc := cc) (maxL := nL) (ret := ret) hy hw ?_
  intro p e s m args below meth c s₁ B hml hv
  obtain ⟨rfl, hsz, hP, hK, hD0⟩ := hv
  subst hsz
  have hD := hD0.self (sz := s.heap.size)
  have hl := lv_entry av hn
  rw [hL] at hl
  have key := body p e s m av.toArray below meth c (va_A Wc s.heap.size) ⟨B.exec, B.bytes, hml, findClass_of_methodNamed B.named, atoms_spec (ws := wsM) B.pre, hK, B.returns, B.notSynchronized, fun q h => Or.inr h⟩ (fun h => (name_of_methodNamed B.named B.method).1.trans h) s.heap [] _ hP hD va_S.rf hl
  rw [← lg_entry_eq] at key
  exact key
theorem xMr_of {l : Launch} {y : MethodName} {wsM ws' : List Cond} {cc : ByteArray} {nL rf rl mc ms : Nat} {ret : Option FieldType} {D : va_G} {tys : List (ClassId × FieldType)} {av : List Value} {Wc : va_W} {S : Type} {post : S → Prop} {W' : S → Nat → va_W} (L : List (Nat × Value)) (hy : plainName y.cls = true) (hw : wsM = Cond.code y cc nL ret :: ws') (hn : (lg_sl av).length ≤ nL) (hL : lv_args 0 av = L)
    (body : ∀ (p : Program) (e : Env) (s : State) (m : MethodId) (args : Array Value) (below : List Frame) (meth : Method) (c : Code) (A : Nat → Prop), xC p s m args meth c D A cc y.cls nL wsM tys ret → (y.name = "<init>" → meth.name = "<init>") → xV p l e { frames := rf, cells := mc, slots := ms, locals := rl } s m args below meth c D A (xQr D tys A post W' mc ms below args s) nL Wc 0 0 L 0 []) : xMr l y wsM rf rl mc ms D tys av Wc post W' := by
  intro sz
  refine Met.ofW (cc := cc) (maxL := nL) (ret := ret) hy hw ?_
  intro p e s m args below meth c s₁ B hml hv
  obtain ⟨rfl, hsz, hP, hK, hD0⟩ := hv
  subst hsz
  have hD := hD0.self (sz := s.heap.size)
  have hl := lv_entry av hn
  rw [hL] at hl
  have key := body p e s m av.toArray below meth c (va_A Wc s.heap.size) ⟨B.exec, B.bytes, hml, findClass_of_methodNamed B.named, atoms_spec (ws := wsM) B.pre, hK, B.returns, B.notSynchronized, fun q h => Or.inr h⟩ (fun h => (name_of_methodNamed B.named B.method).1.trans h) s.heap [] _ hP hD va_S.rf hl
  rw [← lg_entry_eq] at key
  exact key
section XR
variable {p : Program} {l : Launch} {e : Env} {R : Room} {s : State} {m : MethodId} {args : Array Value} {below : List Frame} {meth : Method} {c : Code}
variable {D : va_G} {A : Nat → Prop} {cc : ByteArray} {own : String} {nL : Nat} {Ts : List Cond} {tys : List (ClassId × FieldType)} {ret : Option FieldType}
variable {ws : va_W} {k n pc mc ms : Nat} {L : List (Nat × Value)} {S : Type}
theorem x_iret {post : Int32 → S → Prop} {W' : S → va_W} {v : Int32} (u : S) (C : xC p s m args meth c D A cc own nL Ts tys ret) (d : decode cc pc = .ok (.ireturn, 1)) (hr : ret = some .int) (hp : post v u) (hw : ws = W' u) (h1 : k ≤ mc) (h2 : n ≤ ms) : xV p l e R s m args below meth c D A (xQi D tys A post W' mc ms below args s) nL ws k n L pc [.int v] := by
  intro H locs ls hP hD hS hl
  subst hw
  obtain ⟨hx, hb, -, hown, hts, hK, hret, hlk, hA⟩ := C
  refine W.widen h1 h2 ?_
  exact W.iret (v := v) hx hb (hret.trans hr) (fun t ht hW => ⟨⟨v, u, rfl, hp, by rw [ht]; exact hP, va_K.moved hW.alike hK, hD⟩, hS.F ht⟩) hS.2.2 d hlk
theorem x_zret {post : Int32 → S → Prop} {W' : S → va_W} {v : Int32} (u : S) (C : xC p s m args meth c D A cc own nL Ts tys ret) (d : decode cc pc = .ok (.ireturn, 1)) (hr : ret = some .boolean) (hn : narrow .boolean (.int v) = .int v) (hp : post v u) (hw : ws = W' u) (h1 : k ≤ mc) (h2 : n ≤ ms) : xV p l e R s m args below meth c D A (xQi D tys A post W' mc ms below args s) nL ws k n L pc [.int v] := by
  intro H locs ls hP hD hS hl
  subst hw
  obtain ⟨hx, hb, -, hown, hts, hK, hret, hlk, hA⟩ := C
  refine W.widen h1 h2 ?_
  exact W.zret (v := v) hx hb (hret.trans hr) hn (fun t ht hW => ⟨⟨v, u, rfl, hp, by rw [ht]; exact hP, va_K.moved hW.alike hK, hD⟩, hS.F ht⟩) hS.2.2 d hlk
theorem x_lret {post : Int64 → S → Prop} {W' : S → va_W} {v : Int64} (u : S) (C : xC p s m args meth c D A cc own nL Ts tys ret) (d : decode cc pc = .ok (.lreturn, 1)) (hr : ret = some .long) (hp : post v u) (hw : ws = W' u) (h1 : k ≤ mc) (h2 : n ≤ ms) : xV p l e R s m args below meth c D A (xQl D tys A post W' mc ms below args s) nL ws k n L pc [.long v] := by
  intro H locs ls hP hD hS hl
  subst hw
  obtain ⟨hx, hb, -, hown, hts, hK, hret, hlk, hA⟩ := C
  refine W.widen h1 h2 ?_
  exact W.lret (v := v) hx hb (hret.trans hr) (fun t ht hW => ⟨⟨v, u, rfl, hp, by rw [ht]; exact hP, va_K.moved hW.alike hK, hD⟩, hS.F ht⟩) hS.2.2 d hlk
theorem x_vret {post : S → Prop} {W' : S → va_W} (u : S) (C : xC p s m args meth c D A cc own nL Ts tys ret) (d : decode cc pc = .ok (.return_, 1)) (hr : ret = none) (hp : post u) (hw : ws = W' u) (h1 : k ≤ mc) (h2 : n ≤ ms) : xV p l e R s m args below meth c D A (xQv D tys A post W' mc ms below args s) nL ws k n L pc [] := by
  intro H locs ls hP hD hS hl
  subst hw
  obtain ⟨hx, hb, -, hown, hts, hK, hret, hlk, hA⟩ := C
  refine W.widen h1 h2 ?_
  exact W.vret hx hb (hret.trans hr) (fun t ht hW => ⟨⟨u, rfl, hp, by rw [ht]; exact hP, va_K.moved hW.alike hK, hD⟩, hS.F ht⟩) hS.2.2 d hlk
theorem x_aret {post : S → Prop} {W' : S → Nat → va_W} {a : Nat} {rt : FieldType} (u : S) (C : xC p s m args meth c D A cc own nL Ts tys ret) (d : decode cc pc = .ok (.areturn, 1)) (hr : ret = some rt) (hrt : (∃ n, rt = .object n) ∨ ∃ t, rt = .array t) (hp : post u) (hw : ws = W' u a) (h1 : k ≤ mc) (h2 : n ≤ ms) : xV p l e R s m args below meth c D A (xQr D tys A post W' mc ms below args s) nL ws k n L pc [.ref a] := by
  intro H locs ls hP hD hS hl
  subst hw
  obtain ⟨hx, hb, -, hown, hts, hK, hret, hlk, hA⟩ := C
  refine W.widen h1 h2 ?_
  exact W.aret (v := .ref a) hx hb (hret.trans hr) hrt (Or.inr ⟨a, rfl⟩) (fun t ht hW => ⟨⟨u, a, rfl, hp, by rw [ht]; exact hP, va_K.moved hW.alike hK, hD⟩, hS.F ht⟩) hS.2.2 d hlk
end XR
section XCALL
variable {p : Program} {l : Launch} {e : Env} {R : Room} {s : State} {m : MethodId} {args : Array Value} {below : List Frame} {meth : Method} {c : Code} {Q : State → Prop}
variable {D : va_G} {A : Nat → Prop} {cc : ByteArray} {own : String} {nL : Nat} {Ts : List Cond} {tys : List (ClassId × FieldType)} {ret : Option FieldType}
variable {ws Wc Wr : va_W} {k n pc q mc ms rf rl idx ci b na maxL2 : Nat} {L : List (Nat × Value)} {st As rest : List Value} {S : Type} {y2 : MethodName} {ws2 : List Cond} {b2 : ByteArray} {ret2 : Option FieldType} {fs : List Value} {C2 : String} {T2 : u_T} {N2 : Nat}
theorem x_callVi {post : Int32 → S → Prop} {W2 : S → va_W} (C : xC p s m args meth c D A cc own nL Ts tys ret) (M : xMi l y2 ws2 rf rl mc ms D tys (.ref b :: As) Wc post W2) (hy : xY y2 ws2 b2 maxL2 ret2 na) (hG : GoodIn Ts (wsV own idx C2 y2 ws2)) (hcls : y2.cls = C2) (ho : xO Wc b ci fs) (hci : vwCl[ci]? = some (C2, T2, N2)) (hR : rf + 1 ≤ R.frames ∧ 8 + (maxL2 + 11) + rl ≤ R.locals) (d : decode cc pc = .ok (.invokevirtual idx, 3)) (hpm : ws.Perm (Wc ++ Wr)) (hst : st = As.reverse ++ .ref b :: rest) (hlen : As.length = na) (hW : (rest.map fun v => v.category).sum ≤ 8) (hf : k + mc ≤ R.cells ∧ n + ms ≤ R.slots) (hq : pc + 3 = q) (kk : ∀ (r : Int32) (u : S), post r u → xV p l e R s m args below meth c D A Q nL (W2 u ++ Wr) (k + mc) (n + ms) L q (.int r :: rest)) : xV p l e R s m args below meth c D A Q nL ws k n L pc st := by
  intro H locs ls hP hD hS hl
  obtain ⟨hx, hb, hml, hown, hts, hK, hret, hlk, hA⟩ := C
  have hP2 := xP_perm hpm hP
  have hD2 := xD_perm hpm hD
  have hPc := xP_left hP2
  have hDc := xD_left hD2
  have hFc := xFree hD2 hS hA
  obtain ⟨⟨wsY, hyw⟩, hy2⟩ := hy
  obtain ⟨q0, h0⟩ := ho
  subst hst
  have hW : 2 * (F0 m pc ls (As.reverse ++ .ref b :: rest)).monitorRoom + (rest.map fun v => v.category).sum ≤ 8 := lv_room hW
  refine va_calli (va_runV (As := As) (rest := rest) ⟨hx, hb, hml, hown, hts⟩ (M H.size) (cwV na hts hG hyw rfl rfl ⟨hcls, hy2.1, hy2.2.1, hy2.2.2⟩ hR) ⟨xPc_blind, va_recv hK hPc hci h0, fun U hU hW => ⟨rfl, by rw [hU], by rw [hU]; exact hPc, va_K.moved hW.alike hK, hDc.weaken (fun _ _ _ _ => trivial)⟩⟩ rfl hlen hl.1 rfl hW d hf) hS (fun q _ h => hFc q h) hFc (fun r u t H1 locs1 ht hvm hw hB hz1 hk1 hS1 => ?_)
  obtain ⟨hP1, hK1, hD1⟩ := hB
  rw [ht] at hP1
  obtain ⟨hP3, hD3⟩ := xJoin hP2 hD2 hFc hk1 hP1 hD1
  exact hq ▸ kk r u hw H1 locs1 ls hP3 hD3 hS1 hl
theorem x_callSi {post : Int32 → S → Prop} {W2 : S → va_W} (C : xC p s m args meth c D A cc own nL Ts tys ret) (M : xMi l y2 ws2 rf rl mc ms D tys (As) Wc post W2) (hy : xY y2 ws2 b2 maxL2 ret2 na) (hG : GoodIn Ts (va_wsS own idx y2 ws2)) (hR : rf + 1 ≤ R.frames ∧ 8 + (maxL2 + 11) + rl ≤ R.locals) (d : decode cc pc = .ok (.invokestatic idx, 3)) (hpm : ws.Perm (Wc ++ Wr)) (hst : st = As.reverse ++ rest) (hlen : As.length = na) (hW : (rest.map fun v => v.category).sum ≤ 8) (hf : k + mc ≤ R.cells ∧ n + ms ≤ R.slots) (hq : pc + 3 = q) (kk : ∀ (r : Int32) (u : S), post r u → xV p l e R s m args below meth c D A Q nL (W2 u ++ Wr) (k + mc) (n + ms) L q (.int r :: rest)) : xV p l e R s m args below meth c D A Q nL ws k n L pc st := by
  intro H locs ls hP hD hS hl
  obtain ⟨hx, hb, hml, hown, hts, hK, hret, hlk, hA⟩ := C
  have hP2 := xP_perm hpm hP
  have hD2 := xD_perm hpm hD
  have hPc := xP_left hP2
  have hDc := xD_left hD2
  have hFc := xFree hD2 hS hA
  obtain ⟨⟨wsY, hyw⟩, hy2⟩ := hy
  subst hst
  have hW : 2 * (F0 m pc ls (As.reverse ++ rest)).monitorRoom + (rest.map fun v => v.category).sum ≤ 8 := lv_room hW
  refine va_calli (va_runS (As := As) (rest := rest) ⟨hx, hb, hml, hown, hts⟩ (M H.size) (va_cwS na hts hG hyw rfl rfl ⟨hy2.1, hy2.2.1, hy2.2.2⟩ hR) ⟨xPc_blind, fun U hU hW => ⟨rfl, by rw [hU], by rw [hU]; exact hPc, va_K.moved hW.alike hK, hDc.weaken (fun _ _ _ _ => trivial)⟩⟩ rfl hlen hl.1 rfl hW d hf) hS (fun q _ h => hFc q h) hFc (fun r u t H1 locs1 ht hvm hw hB hz1 hk1 hS1 => ?_)
  obtain ⟨hP1, hK1, hD1⟩ := hB
  rw [ht] at hP1
  obtain ⟨hP3, hD3⟩ := xJoin hP2 hD2 hFc hk1 hP1 hD1
  exact hq ▸ kk r u hw H1 locs1 ls hP3 hD3 hS1 hl
theorem x_callVv {post : S → Prop} {W2 : S → va_W} (C : xC p s m args meth c D A cc own nL Ts tys ret) (M : xMv l y2 ws2 rf rl mc ms D tys (.ref b :: As) Wc post W2) (hy : xY y2 ws2 b2 maxL2 ret2 na) (hG : GoodIn Ts (wsV own idx C2 y2 ws2)) (hcls : y2.cls = C2) (ho : xO Wc b ci fs) (hci : vwCl[ci]? = some (C2, T2, N2)) (hR : rf + 1 ≤ R.frames ∧ 8 + (maxL2 + 11) + rl ≤ R.locals) (d : decode cc pc = .ok (.invokevirtual idx, 3)) (hpm : ws.Perm (Wc ++ Wr)) (hst : st = As.reverse ++ .ref b :: rest) (hlen : As.length = na) (hW : (rest.map fun v => v.category).sum ≤ 8) (hf : k + mc ≤ R.cells ∧ n + ms ≤ R.slots) (hq : pc + 3 = q) (kk : ∀ (u : S), post u → xV p l e R s m args below meth c D A Q nL (W2 u ++ Wr) (k + mc) (n + ms) L q (rest)) : xV p l e R s m args below meth c D A Q nL ws k n L pc st := by
  intro H locs ls hP hD hS hl
  obtain ⟨hx, hb, hml, hown, hts, hK, hret, hlk, hA⟩ := C
  have hP2 := xP_perm hpm hP
  have hD2 := xD_perm hpm hD
  have hPc := xP_left hP2
  have hDc := xD_left hD2
  have hFc := xFree hD2 hS hA
  obtain ⟨⟨wsY, hyw⟩, hy2⟩ := hy
  obtain ⟨q0, h0⟩ := ho
  subst hst
  have hW : 2 * (F0 m pc ls (As.reverse ++ .ref b :: rest)).monitorRoom + (rest.map fun v => v.category).sum ≤ 8 := lv_room hW
  refine va_callv (va_runV (As := As) (rest := rest) ⟨hx, hb, hml, hown, hts⟩ (M H.size) (cwV na hts hG hyw rfl rfl ⟨hcls, hy2.1, hy2.2.1, hy2.2.2⟩ hR) ⟨xPc_blind, va_recv hK hPc hci h0, fun U hU hW => ⟨rfl, by rw [hU], by rw [hU]; exact hPc, va_K.moved hW.alike hK, hDc.weaken (fun _ _ _ _ => trivial)⟩⟩ rfl hlen hl.1 rfl hW d hf) hS (fun q _ h => hFc q h) hFc (fun u t H1 locs1 ht hvm hw hB hz1 hk1 hS1 => ?_)
  obtain ⟨hP1, hK1, hD1⟩ := hB
  rw [ht] at hP1
  obtain ⟨hP3, hD3⟩ := xJoin hP2 hD2 hFc hk1 hP1 hD1
  exact hq ▸ kk u hw H1 locs1 ls hP3 hD3 hS1 hl
theorem x_callSv {post : S → Prop} {W2 : S → va_W} (C : xC p s m args meth c D A cc own nL Ts tys ret) (M : xMv l y2 ws2 rf rl mc ms D tys (As) Wc post W2) (hy : xY y2 ws2 b2 maxL2 ret2 na) (hG : GoodIn Ts (va_wsS own idx y2 ws2)) (hR : rf + 1 ≤ R.frames ∧ 8 + (maxL2 + 11) + rl ≤ R.locals) (d : decode cc pc = .ok (.invokestatic idx, 3)) (hpm : ws.Perm (Wc ++ Wr)) (hst : st = As.reverse ++ rest) (hlen : As.length = na) (hW : (rest.map fun v => v.category).sum ≤ 8) (hf : k + mc ≤ R.cells ∧ n + ms ≤ R.slots) (hq : pc + 3 = q) (kk : ∀ (u : S), post u → xV p l e R s m args below meth c D A Q nL (W2 u ++ Wr) (k + mc) (n + ms) L q (rest)) : xV p l e R s m args below meth c D A Q nL ws k n L pc st := by
  intro H locs ls hP hD hS hl
  obtain ⟨hx, hb, hml, hown, hts, hK, hret, hlk, hA⟩ := C
  have hP2 := xP_perm hpm hP
  have hD2 := xD_perm hpm hD
  have hPc := xP_left hP2
  have hDc := xD_left hD2
  have hFc := xFree hD2 hS hA
  obtain ⟨⟨wsY, hyw⟩, hy2⟩ := hy
  subst hst
  have hW : 2 * (F0 m pc ls (As.reverse ++ rest)).monitorRoom + (rest.map fun v => v.category).sum ≤ 8 := lv_room hW
  refine va_callv (va_runS (As := As) (rest := rest) ⟨hx, hb, hml, hown, hts⟩ (M H.size) (va_cwS na hts hG hyw rfl rfl ⟨hy2.1, hy2.2.1, hy2.2.2⟩ hR) ⟨xPc_blind, fun U hU hW => ⟨rfl, by rw [hU], by rw [hU]; exact hPc, va_K.moved hW.alike hK, hDc.weaken (fun _ _ _ _ => trivial)⟩⟩ rfl hlen hl.1 rfl hW d hf) hS (fun q _ h => hFc q h) hFc (fun u t H1 locs1 ht hvm hw hB hz1 hk1 hS1 => ?_)
  obtain ⟨hP1, hK1, hD1⟩ := hB
  rw [ht] at hP1
  obtain ⟨hP3, hD3⟩ := xJoin hP2 hD2 hFc hk1 hP1 hD1
  exact hq ▸ kk u hw H1 locs1 ls hP3 hD3 hS1 hl
theorem x_callIv {post : S → Prop} {W2 : S → va_W} (C : xC p s m args meth c D A cc own nL Ts tys ret) (M : xMv l y2 ws2 rf rl mc ms D tys (.ref b :: As) Wc post W2) (hy : xY y2 ws2 b2 maxL2 none na) (hG : GoodIn Ts ws2) (hini : Cond.initialized y2.cls ∈ Ts) (hlk2 : Cond.methodLink own idx y2 ∈ Ts) (hin2 : Cond.instanceMethod y2 ∈ Ts) (hnm : y2.name = "<init>") (hR : rf + 1 ≤ R.frames ∧ 8 + (maxL2 + 11) + rl ≤ R.locals) (d : decode cc pc = .ok (.invokespecial idx, 3)) (hpm : ws.Perm (Wc ++ Wr)) (hst : st = As.reverse ++ .ref b :: rest) (hlen : As.length = na) (hW : (rest.map fun v => v.category).sum ≤ 8) (hf : k + mc ≤ R.cells ∧ n + ms ≤ R.slots) (hq : pc + 3 = q) (kk : ∀ (u : S), post u → xV p l e R s m args below meth c D A Q nL (W2 u ++ Wr) (k + mc) (n + ms) L q (rest)) : xV p l e R s m args below meth c D A Q nL ws k n L pc st := by
  intro H locs ls hP hD hS hl
  obtain ⟨hx, hb, hml, hown, hts, hK, hret, hlk, hA⟩ := C
  have hP2 := xP_perm hpm hP
  have hD2 := xD_perm hpm hD
  have hPc := xP_left hP2
  have hDc := xD_left hD2
  have hFc := xFree hD2 hS hA
  obtain ⟨⟨wsY, hyw⟩, hy2⟩ := hy
  subst hst
  have hW : 2 * (F0 m pc ls (As.reverse ++ .ref b :: rest)).monitorRoom + (rest.map fun v => v.category).sum ≤ 8 := lv_room hW
  refine va_callv (va_runI (As := As) (rest := rest) ⟨hx, hb, hml, hown, hts⟩ (M H.size) (cwI na hts hG hyw rfl rfl (hts _ hini) (hts _ hlk2) (hts _ hin2) hnm ⟨hy2.1, hy2.2.1, hy2.2.2⟩ hR) ⟨xPc_blind, fun U hU hW => ⟨rfl, by rw [hU], by rw [hU]; exact hPc, va_K.moved hW.alike hK, hDc.weaken (fun _ _ _ _ => trivial)⟩⟩ rfl hlen hl.1 rfl hW d hf) hS (fun q _ h => hFc q h) hFc (fun u t H1 locs1 ht hvm hw hB hz1 hk1 hS1 => ?_)
  obtain ⟨hP1, hK1, hD1⟩ := hB
  rw [ht] at hP1
  obtain ⟨hP3, hD3⟩ := xJoin hP2 hD2 hFc hk1 hP1 hD1
  exact hq ▸ kk u hw H1 locs1 ls hP3 hD3 hS1 hl
theorem x_callVl {post : Int64 → S → Prop} {W2 : S → va_W} (C : xC p s m args meth c D A cc own nL Ts tys ret) (M : xMl l y2 ws2 rf rl mc ms D tys (.ref b :: As) Wc post W2) (hy : xY y2 ws2 b2 maxL2 ret2 na) (hG : GoodIn Ts (wsV own idx C2 y2 ws2)) (hcls : y2.cls = C2) (ho : xO Wc b ci fs) (hci : vwCl[ci]? = some (C2, T2, N2)) (hR : rf + 1 ≤ R.frames ∧ 8 + (maxL2 + 11) + rl ≤ R.locals) (d : decode cc pc = .ok (.invokevirtual idx, 3)) (hpm : ws.Perm (Wc ++ Wr)) (hst : st = As.reverse ++ .ref b :: rest) (hlen : As.length = na) (hW : (rest.map fun v => v.category).sum ≤ 8) (hf : k + mc ≤ R.cells ∧ n + ms ≤ R.slots) (hq : pc + 3 = q) (kk : ∀ (r : Int64) (u : S), post r u → xV p l e R s m args below meth c D A Q nL (W2 u ++ Wr) (k + mc) (n + ms) L q (.long r :: rest)) : xV p l e R s m args below meth c D A Q nL ws k n L pc st := by
  intro H locs ls hP hD hS hl
  obtain ⟨hx, hb, hml, hown, hts, hK, hret, hlk, hA⟩ := C
  have hP2 := xP_perm hpm hP
  have hD2 := xD_perm hpm hD
  have hPc := xP_left hP2
  have hDc := xD_left hD2
  have hFc := xFree hD2 hS hA
  obtain ⟨⟨wsY, hyw⟩, hy2⟩ := hy
  obtain ⟨q0, h0⟩ := ho
  subst hst
  have hW : 2 * (F0 m pc ls (As.reverse ++ .ref b :: rest)).monitorRoom + (rest.map fun v => v.category).sum ≤ 8 := lv_room hW
  refine va_calll (va_runV (As := As) (rest := rest) ⟨hx, hb, hml, hown, hts⟩ (M H.size) (cwV na hts hG hyw rfl rfl ⟨hcls, hy2.1, hy2.2.1, hy2.2.2⟩ hR) ⟨xPc_blind, va_recv hK hPc hci h0, fun U hU hW => ⟨rfl, by rw [hU], by rw [hU]; exact hPc, va_K.moved hW.alike hK, hDc.weaken (fun _ _ _ _ => trivial)⟩⟩ rfl hlen hl.1 rfl hW d hf) hS (fun q _ h => hFc q h) hFc (fun r u t H1 locs1 ht hvm hw hB hz1 hk1 hS1 => ?_)
  obtain ⟨hP1, hK1, hD1⟩ := hB
  rw [ht] at hP1
  obtain ⟨hP3, hD3⟩ := xJoin hP2 hD2 hFc hk1 hP1 hD1
  exact hq ▸ kk r u hw H1 locs1 ls hP3 hD3 hS1 hl
theorem x_callVr {post : S → Prop} {W2 : S → Nat → va_W} (C : xC p s m args meth c D A cc own nL Ts tys ret) (M : xMr l y2 ws2 rf rl mc ms D tys (.ref b :: As) Wc post W2) (hy : xY y2 ws2 b2 maxL2 ret2 na) (hG : GoodIn Ts (wsV own idx C2 y2 ws2)) (hcls : y2.cls = C2) (ho : xO Wc b ci fs) (hci : vwCl[ci]? = some (C2, T2, N2)) (hR : rf + 1 ≤ R.frames ∧ 8 + (maxL2 + 11) + rl ≤ R.locals) (d : decode cc pc = .ok (.invokevirtual idx, 3)) (hpm : ws.Perm (Wc ++ Wr)) (hst : st = As.reverse ++ .ref b :: rest) (hlen : As.length = na) (hW : (rest.map fun v => v.category).sum ≤ 8) (hf : k + mc ≤ R.cells ∧ n + ms ≤ R.slots) (hq : pc + 3 = q) (kk : ∀ (u : S) (r : Nat), post u → xV p l e R s m args below meth c D A Q nL (W2 u r ++ Wr) (k + mc) (n + ms) L q (.ref r :: rest)) : xV p l e R s m args below meth c D A Q nL ws k n L pc st := by
  intro H locs ls hP hD hS hl
  obtain ⟨hx, hb, hml, hown, hts, hK, hret, hlk, hA⟩ := C
  have hP2 := xP_perm hpm hP
  have hD2 := xD_perm hpm hD
  have hPc := xP_left hP2
  have hDc := xD_left hD2
  have hFc := xFree hD2 hS hA
  obtain ⟨⟨wsY, hyw⟩, hy2⟩ := hy
  obtain ⟨q0, h0⟩ := ho
  subst hst
  have hW : 2 * (F0 m pc ls (As.reverse ++ .ref b :: rest)).monitorRoom + (rest.map fun v => v.category).sum ≤ 8 := lv_room hW
  refine va_callr (va_runV (As := As) (rest := rest) ⟨hx, hb, hml, hown, hts⟩ (M H.size) (cwV na hts hG hyw rfl rfl ⟨hcls, hy2.1, hy2.2.1, hy2.2.2⟩ hR) ⟨xPc_blind, va_recv hK hPc hci h0, fun U hU hW => ⟨rfl, by rw [hU], by rw [hU]; exact hPc, va_K.moved hW.alike hK, hDc.weaken (fun _ _ _ _ => trivial)⟩⟩ rfl hlen hl.1 rfl hW d hf) hS (fun q _ h => hFc q h) hFc (fun u r t H1 locs1 ht hvm hw hB hz1 hk1 hS1 => ?_)
  obtain ⟨hP1, hK1, hD1⟩ := hB
  rw [ht] at hP1
  obtain ⟨hP3, hD3⟩ := xJoin hP2 hD2 hFc hk1 hP1 hD1
  exact hq ▸ kk u r hw H1 locs1 ls hP3 hD3 hS1 hl
end XCALL
end
section
/-! THE WORLDS: an object's state is a function: field, place -> number; the cells that hold it, at the addresses a -/
abbrev St : Type := Nat → Nat → Int32
def xF : Nat := 1000
def xT (y : Nat → ClassId) : List (ClassId × FieldType) := [(y 0, .int), (y 1, .boolean), (y 2, .array .int), (y 3, .long)]
theorem xin_lt {i : Int32} {n : Nat} (h : xin i n = true) : i.toNatClampNeg < n := by
  have h1 := xin_of h
  rcases Nat.lt_or_ge i.toNatClampNeg n with q | q
  · exact q
  · exact absurd (Or.inr q) h1
def xcp (sp dp nn : Int32) (n0 n1 : Nat) : Bool := decide (¬ sp < 0 ∧ ¬ dp < 0 ∧ ¬ nn < 0 ∧ sp.toNatClampNeg + nn.toNatClampNeg ≤ n0 ∧ dp.toNatClampNeg + nn.toNatClampNeg ≤ n1)
def zC (y : Nat → ClassId) (a n : Nat) (f : Nat → Int32) : va_W := [(a, .inl (y 0, n, .inl f))]
theorem zA (y : Nat → ClassId) (a n : Nat) (f : Nat → Int32) : xA (zC y a n f) a (y 0) n f (fun f' => zC y a n f') := ⟨0, rfl, fun _ => rfl⟩
def bd2 {α β γ : Type} (a : Option (α × β)) (k : α → β → Option γ) : Option γ := match a with
  | some (x, y) => k x y
  | none => none
theorem bd2_some {α β γ : Type} {a : Option (α × β)} {k : α → β → Option γ} {o : γ} (h : bd2 a k = some o) : ∃ x y, a = some (x, y) ∧ k x y = some o := by
  match a, h with
  | some (x, y), h => exact ⟨x, y, rfl, h⟩
def bd3 {α β γ δ : Type} (a : Option (α × β × γ)) (k : α → β → γ → Option δ) : Option δ := match a with
  | some (x, y, z) => k x y z
  | none => none
theorem bd3_some {α β γ δ : Type} {a : Option (α × β × γ)} {k : α → β → γ → Option δ} {o : δ} (h : bd3 a k = some o) : ∃ x y z, a = some (x, y, z) ∧ k x y z = some o := by
  match a, h with
  | some (x, y, z), h => exact ⟨x, y, z, rfl, h⟩
theorem pm_nil {α : Type} {w : List α} : w.Perm (w ++ []) := by rw [List.append_nil]
theorem pm_emp {α : Type} {w : List α} : w.Perm ([] ++ w) := List.Perm.refl _
def nF (a : Nat → Nat) (S : St) : List Value := [.int (S 0 0), .int (S 1 0), .int (S 2 0), .ref (a 3), .ref (a 4), .ref (a 5), .ref (a 6), .ref (a 7), .ref (a 8), .ref (a 9), .ref (a 10), .ref (a 11), .ref (a 12), .ref (a 13), .ref (a 14), .ref (a 15)]
def nC (y : Nat → ClassId) (a : Nat → Nat) (S : St) : va_W := [(a 0, .inr (0, nF a S)), (a 3, .inl (y 0, 18, .inl (S 3))), (a 4, .inl (y 0, 20, .inl (S 4))), (a 5, .inl (y 0, 20, .inl (S 5))), (a 6, .inl (y 1, 20, .inl (S 6))), (a 7, .inl (y 0, 20, .inl (S 7))), (a 8, .inl (y 0, 20, .inl (S 8))), (a 9, .inl (y 0, 4, .inl (S 9))), (a 10, .inl (y 0, 4, .inl (S 10))), (a 11, .inl (y 0, 4, .inl (S 11))), (a 12, .inl (y 0, 4, .inl (S 12))), (a 13, .inl (y 0, 4, .inl (S 13))), (a 14, .inl (y 0, 4, .inl (S 14))), (a 15, .inl (y 0, 4, .inl (S 15)))]
theorem oX0 (y : Nat → ClassId) (a : Nat → Nat) (S : St) : xO (nC y a S) (a 0) 0 (nF a S) := ⟨0, rfl⟩
theorem iX0_0 (y : Nat → ClassId) (a : Nat → Nat) (S : St) : xI (nC y a S) (a 0) 0 (nF a S) 0 (fun x => nC y a (up2 S 0 0 x)) := ⟨0, rfl, Nat.le_of_ble_eq_true rfl, fun _ => rfl⟩
theorem iX0_1 (y : Nat → ClassId) (a : Nat → Nat) (S : St) : xI (nC y a S) (a 0) 0 (nF a S) 1 (fun x => nC y a (up2 S 1 0 x)) := ⟨0, rfl, Nat.le_of_ble_eq_true rfl, fun _ => rfl⟩
theorem iX0_2 (y : Nat → ClassId) (a : Nat → Nat) (S : St) : xI (nC y a S) (a 0) 0 (nF a S) 2 (fun x => nC y a (up2 S 2 0 x)) := ⟨0, rfl, Nat.le_of_ble_eq_true rfl, fun _ => rfl⟩
theorem aX0_3 (y : Nat → ClassId) (a : Nat → Nat) (S : St) : xA (nC y a S) (a 3) (y 0) 18 (S 3) (fun f => nC y a (up1 S 3 f)) := ⟨1, rfl, fun _ => rfl⟩
theorem aX0_4 (y : Nat → ClassId) (a : Nat → Nat) (S : St) : xA (nC y a S) (a 4) (y 0) 20 (S 4) (fun f => nC y a (up1 S 4 f)) := ⟨2, rfl, fun _ => rfl⟩
theorem aX0_5 (y : Nat → ClassId) (a : Nat → Nat) (S : St) : xA (nC y a S) (a 5) (y 0) 20 (S 5) (fun f => nC y a (up1 S 5 f)) := ⟨3, rfl, fun _ => rfl⟩
theorem aX0_6 (y : Nat → ClassId) (a : Nat → Nat) (S : St) : xA (nC y a S) (a 6) (y 1) 20 (S 6) (fun f => nC y a (up1 S 6 f)) := ⟨4, rfl, fun _ => rfl⟩
theorem aX0_7 (y : Nat → ClassId) (a : Nat → Nat) (S : St) : xA (nC y a S) (a 7) (y 0) 20 (S 7) (fun f => nC y a (up1 S 7 f)) := ⟨5, rfl, fun _ => rfl⟩
theorem aX0_8 (y : Nat → ClassId) (a : Nat → Nat) (S : St) : xA (nC y a S) (a 8) (y 0) 20 (S 8) (fun f => nC y a (up1 S 8 f)) := ⟨6, rfl, fun _ => rfl⟩
theorem aX0_9 (y : Nat → ClassId) (a : Nat → Nat) (S : St) : xA (nC y a S) (a 9) (y 0) 4 (S 9) (fun f => nC y a (up1 S 9 f)) := ⟨7, rfl, fun _ => rfl⟩
theorem aX0_10 (y : Nat → ClassId) (a : Nat → Nat) (S : St) : xA (nC y a S) (a 10) (y 0) 4 (S 10) (fun f => nC y a (up1 S 10 f)) := ⟨8, rfl, fun _ => rfl⟩
theorem aX0_11 (y : Nat → ClassId) (a : Nat → Nat) (S : St) : xA (nC y a S) (a 11) (y 0) 4 (S 11) (fun f => nC y a (up1 S 11 f)) := ⟨9, rfl, fun _ => rfl⟩
theorem aX0_12 (y : Nat → ClassId) (a : Nat → Nat) (S : St) : xA (nC y a S) (a 12) (y 0) 4 (S 12) (fun f => nC y a (up1 S 12 f)) := ⟨10, rfl, fun _ => rfl⟩
theorem aX0_13 (y : Nat → ClassId) (a : Nat → Nat) (S : St) : xA (nC y a S) (a 13) (y 0) 4 (S 13) (fun f => nC y a (up1 S 13 f)) := ⟨11, rfl, fun _ => rfl⟩
theorem aX0_14 (y : Nat → ClassId) (a : Nat → Nat) (S : St) : xA (nC y a S) (a 14) (y 0) 4 (S 14) (fun f => nC y a (up1 S 14 f)) := ⟨12, rfl, fun _ => rfl⟩
theorem aX0_15 (y : Nat → ClassId) (a : Nat → Nat) (S : St) : xA (nC y a S) (a 15) (y 0) 4 (S 15) (fun f => nC y a (up1 S 15 f)) := ⟨13, rfl, fun _ => rfl⟩
def tF (a : Nat → Nat) (S : St) : List Value := [.int (S 0 0), .ref (a 1), .ref (a 2), .int (S 3 0), .ref (a 4), .ref (a 5), .ref (a 6), .int (S 7 0), .ref (a 8), .ref (a 9), .ref (a 10), .ref (a 11), .int (S 12 0), .ref (a 13), .ref (a 14), .ref (a 15), .ref (a 16)]
def tC (y : Nat → ClassId) (a : Nat → Nat) (S : St) : va_W := [(a 0, .inr (1, tF a S)), (a 1, .inl (y 0, 12, .inl (S 1))), (a 2, .inl (y 2, 12, .inr (.inr (.inr (.inr (fun i => if i < 12 then some (a (100 + i)) else none)))))), (a 4, .inl (y 0, 18, .inl (S 4))), (a 5, .inl (y 0, 18, .inl (S 5))), (a 6, .inl (y 0, 18, .inl (S 6))), (a 8, .inl (y 0, 20, .inl (S 8))), (a 9, .inl (y 0, 20, .inl (S 9))), (a 10, .inl (y 0, 20, .inl (S 10))), (a 11, .inl (y 0, 10, .inl (S 11))), (a 13, .inl (y 0, 4, .inl (S 13))), (a 14, .inl (y 0, 4, .inl (S 14))), (a 15, .inl (y 0, 4, .inl (S 15))), (a 16, .inl (y 2, 4, .inr (.inr (.inr (.inr (fun i => if i < 4 then some (a (200 + i)) else none)))))), (a 100, .inl (y 0, 12, .inl (S 100))), (a 101, .inl (y 0, 12, .inl (S 101))), (a 102, .inl (y 0, 12, .inl (S 102))), (a 103, .inl (y 0, 12, .inl (S 103))), (a 104, .inl (y 0, 12, .inl (S 104))), (a 105, .inl (y 0, 12, .inl (S 105))), (a 106, .inl (y 0, 12, .inl (S 106))), (a 107, .inl (y 0, 12, .inl (S 107))), (a 108, .inl (y 0, 12, .inl (S 108))), (a 109, .inl (y 0, 12, .inl (S 109))), (a 110, .inl (y 0, 12, .inl (S 110))), (a 111, .inl (y 0, 12, .inl (S 111))), (a 200, .inl (y 0, 10, .inl (S 200))), (a 201, .inl (y 0, 10, .inl (S 201))), (a 202, .inl (y 0, 10, .inl (S 202))), (a 203, .inl (y 0, 10, .inl (S 203)))]
theorem oX1 (y : Nat → ClassId) (a : Nat → Nat) (S : St) : xO (tC y a S) (a 0) 1 (tF a S) := ⟨0, rfl⟩
theorem iX1_0 (y : Nat → ClassId) (a : Nat → Nat) (S : St) : xI (tC y a S) (a 0) 1 (tF a S) 0 (fun x => tC y a (up2 S 0 0 x)) := ⟨0, rfl, Nat.le_of_ble_eq_true rfl, fun _ => rfl⟩
theorem iX1_3 (y : Nat → ClassId) (a : Nat → Nat) (S : St) : xI (tC y a S) (a 0) 1 (tF a S) 3 (fun x => tC y a (up2 S 3 0 x)) := ⟨0, rfl, Nat.le_of_ble_eq_true rfl, fun _ => rfl⟩
theorem iX1_7 (y : Nat → ClassId) (a : Nat → Nat) (S : St) : xI (tC y a S) (a 0) 1 (tF a S) 7 (fun x => tC y a (up2 S 7 0 x)) := ⟨0, rfl, Nat.le_of_ble_eq_true rfl, fun _ => rfl⟩
theorem iX1_12 (y : Nat → ClassId) (a : Nat → Nat) (S : St) : xI (tC y a S) (a 0) 1 (tF a S) 12 (fun x => tC y a (up2 S 12 0 x)) := ⟨0, rfl, Nat.le_of_ble_eq_true rfl, fun _ => rfl⟩
theorem aX1_1 (y : Nat → ClassId) (a : Nat → Nat) (S : St) : xA (tC y a S) (a 1) (y 0) 12 (S 1) (fun f => tC y a (up1 S 1 f)) := ⟨1, rfl, fun _ => rfl⟩
theorem gX1_2 (y : Nat → ClassId) (a : Nat → Nat) (S : St) : xR (tC y a S) (a 2) (y 2) 12 (fun i => if i < 12 then some (a (100 + i)) else none) := ⟨2, rfl⟩
theorem aX1_4 (y : Nat → ClassId) (a : Nat → Nat) (S : St) : xA (tC y a S) (a 4) (y 0) 18 (S 4) (fun f => tC y a (up1 S 4 f)) := ⟨3, rfl, fun _ => rfl⟩
theorem aX1_5 (y : Nat → ClassId) (a : Nat → Nat) (S : St) : xA (tC y a S) (a 5) (y 0) 18 (S 5) (fun f => tC y a (up1 S 5 f)) := ⟨4, rfl, fun _ => rfl⟩
theorem aX1_6 (y : Nat → ClassId) (a : Nat → Nat) (S : St) : xA (tC y a S) (a 6) (y 0) 18 (S 6) (fun f => tC y a (up1 S 6 f)) := ⟨5, rfl, fun _ => rfl⟩
theorem aX1_8 (y : Nat → ClassId) (a : Nat → Nat) (S : St) : xA (tC y a S) (a 8) (y 0) 20 (S 8) (fun f => tC y a (up1 S 8 f)) := ⟨6, rfl, fun _ => rfl⟩
theorem aX1_9 (y : Nat → ClassId) (a : Nat → Nat) (S : St) : xA (tC y a S) (a 9) (y 0) 20 (S 9) (fun f => tC y a (up1 S 9 f)) := ⟨7, rfl, fun _ => rfl⟩
theorem aX1_10 (y : Nat → ClassId) (a : Nat → Nat) (S : St) : xA (tC y a S) (a 10) (y 0) 20 (S 10) (fun f => tC y a (up1 S 10 f)) := ⟨8, rfl, fun _ => rfl⟩
theorem aX1_11 (y : Nat → ClassId) (a : Nat → Nat) (S : St) : xA (tC y a S) (a 11) (y 0) 10 (S 11) (fun f => tC y a (up1 S 11 f)) := ⟨9, rfl, fun _ => rfl⟩
theorem aX1_13 (y : Nat → ClassId) (a : Nat → Nat) (S : St) : xA (tC y a S) (a 13) (y 0) 4 (S 13) (fun f => tC y a (up1 S 13 f)) := ⟨10, rfl, fun _ => rfl⟩
theorem aX1_14 (y : Nat → ClassId) (a : Nat → Nat) (S : St) : xA (tC y a S) (a 14) (y 0) 4 (S 14) (fun f => tC y a (up1 S 14 f)) := ⟨11, rfl, fun _ => rfl⟩
theorem aX1_15 (y : Nat → ClassId) (a : Nat → Nat) (S : St) : xA (tC y a S) (a 15) (y 0) 4 (S 15) (fun f => tC y a (up1 S 15 f)) := ⟨12, rfl, fun _ => rfl⟩
theorem gX1_16 (y : Nat → ClassId) (a : Nat → Nat) (S : St) : xR (tC y a S) (a 16) (y 2) 4 (fun i => if i < 4 then some (a (200 + i)) else none) := ⟨13, rfl⟩
theorem aX1_r2 (y : Nat → ClassId) (a : Nat → Nat) (S : St) {i : Nat} (h : i < 12) : xA (tC y a S) (a (100 + i)) (y 0) 12 (S (100 + i)) (fun f => tC y a (up1 S (100 + i) f)) := by
  match i, h with
  | 0, _ => exact ⟨14, rfl, fun _ => rfl⟩
  | 1, _ => exact ⟨15, rfl, fun _ => rfl⟩
  | 2, _ => exact ⟨16, rfl, fun _ => rfl⟩
  | 3, _ => exact ⟨17, rfl, fun _ => rfl⟩
  | 4, _ => exact ⟨18, rfl, fun _ => rfl⟩
  | 5, _ => exact ⟨19, rfl, fun _ => rfl⟩
  | 6, _ => exact ⟨20, rfl, fun _ => rfl⟩
  | 7, _ => exact ⟨21, rfl, fun _ => rfl⟩
  | 8, _ => exact ⟨22, rfl, fun _ => rfl⟩
  | 9, _ => exact ⟨23, rfl, fun _ => rfl⟩
  | 10, _ => exact ⟨24, rfl, fun _ => rfl⟩
  | 11, _ => exact ⟨25, rfl, fun _ => rfl⟩
theorem aX1_r16 (y : Nat → ClassId) (a : Nat → Nat) (S : St) {i : Nat} (h : i < 4) : xA (tC y a S) (a (200 + i)) (y 0) 10 (S (200 + i)) (fun f => tC y a (up1 S (200 + i) f)) := by
  match i, h with
  | 0, _ => exact ⟨26, rfl, fun _ => rfl⟩
  | 1, _ => exact ⟨27, rfl, fun _ => rfl⟩
  | 2, _ => exact ⟨28, rfl, fun _ => rfl⟩
  | 3, _ => exact ⟨29, rfl, fun _ => rfl⟩
def mF (a : Nat → Nat) (S : St) : List Value := [.int (S 0 0), .int (S 1 0), .int (S 2 0), .int (S 3 0), .int (S 4 0), .ref (a 5), .ref (a 6), .ref (a 7), .ref (a 8), .ref (a 9), .ref (a 10), .ref (a 11), .ref (a 12)]
def mC (y : Nat → ClassId) (a : Nat → Nat) (S : St) : va_W := [(a 0, .inr (3, mF a S)), (a 5, .inl (y 0, 12, .inl (S 5))), (a 6, .inl (y 0, 54, .inl (S 6))), (a 7, .inl (y 0, 144, .inl (S 7))), (a 8, .inl (y 0, 160, .inl (S 8))), (a 9, .inl (y 0, 40, .inl (S 9))), (a 10, .inl (y 0, 40, .inl (S 10))), (a 11, .inl (y 0, 10, .inl (S 11))), (a 12, .inl (y 0, 3, .inl (S 12)))]
theorem oX3 (y : Nat → ClassId) (a : Nat → Nat) (S : St) : xO (mC y a S) (a 0) 3 (mF a S) := ⟨0, rfl⟩
theorem iX3_0 (y : Nat → ClassId) (a : Nat → Nat) (S : St) : xI (mC y a S) (a 0) 3 (mF a S) 0 (fun x => mC y a (up2 S 0 0 x)) := ⟨0, rfl, Nat.le_of_ble_eq_true rfl, fun _ => rfl⟩
theorem iX3_1 (y : Nat → ClassId) (a : Nat → Nat) (S : St) : xI (mC y a S) (a 0) 3 (mF a S) 1 (fun x => mC y a (up2 S 1 0 x)) := ⟨0, rfl, Nat.le_of_ble_eq_true rfl, fun _ => rfl⟩
theorem iX3_2 (y : Nat → ClassId) (a : Nat → Nat) (S : St) : xI (mC y a S) (a 0) 3 (mF a S) 2 (fun x => mC y a (up2 S 2 0 x)) := ⟨0, rfl, Nat.le_of_ble_eq_true rfl, fun _ => rfl⟩
theorem iX3_3 (y : Nat → ClassId) (a : Nat → Nat) (S : St) : xI (mC y a S) (a 0) 3 (mF a S) 3 (fun x => mC y a (up2 S 3 0 x)) := ⟨0, rfl, Nat.le_of_ble_eq_true rfl, fun _ => rfl⟩
theorem iX3_4 (y : Nat → ClassId) (a : Nat → Nat) (S : St) : xI (mC y a S) (a 0) 3 (mF a S) 4 (fun x => mC y a (up2 S 4 0 x)) := ⟨0, rfl, Nat.le_of_ble_eq_true rfl, fun _ => rfl⟩
theorem aX3_5 (y : Nat → ClassId) (a : Nat → Nat) (S : St) : xA (mC y a S) (a 5) (y 0) 12 (S 5) (fun f => mC y a (up1 S 5 f)) := ⟨1, rfl, fun _ => rfl⟩
theorem aX3_6 (y : Nat → ClassId) (a : Nat → Nat) (S : St) : xA (mC y a S) (a 6) (y 0) 54 (S 6) (fun f => mC y a (up1 S 6 f)) := ⟨2, rfl, fun _ => rfl⟩
theorem aX3_7 (y : Nat → ClassId) (a : Nat → Nat) (S : St) : xA (mC y a S) (a 7) (y 0) 144 (S 7) (fun f => mC y a (up1 S 7 f)) := ⟨3, rfl, fun _ => rfl⟩
theorem aX3_8 (y : Nat → ClassId) (a : Nat → Nat) (S : St) : xA (mC y a S) (a 8) (y 0) 160 (S 8) (fun f => mC y a (up1 S 8 f)) := ⟨4, rfl, fun _ => rfl⟩
theorem aX3_9 (y : Nat → ClassId) (a : Nat → Nat) (S : St) : xA (mC y a S) (a 9) (y 0) 40 (S 9) (fun f => mC y a (up1 S 9 f)) := ⟨5, rfl, fun _ => rfl⟩
theorem aX3_10 (y : Nat → ClassId) (a : Nat → Nat) (S : St) : xA (mC y a S) (a 10) (y 0) 40 (S 10) (fun f => mC y a (up1 S 10 f)) := ⟨6, rfl, fun _ => rfl⟩
theorem aX3_11 (y : Nat → ClassId) (a : Nat → Nat) (S : St) : xA (mC y a S) (a 11) (y 0) 10 (S 11) (fun f => mC y a (up1 S 11 f)) := ⟨7, rfl, fun _ => rfl⟩
theorem aX3_12 (y : Nat → ClassId) (a : Nat → Nat) (S : St) : xA (mC y a S) (a 12) (y 0) 3 (S 12) (fun f => mC y a (up1 S 12 f)) := ⟨8, rfl, fun _ => rfl⟩
def hF (aN aF aT aG : Nat → Nat) : List Value := [.ref (aT 0), .ref (aN 0), .ref (aF 0), .ref (aG 0)]
def hC (aH : Nat) (aN aF aT aG : Nat → Nat) : va_W := [(aH, .inr (2, hF aN aF aT aG))]
theorem oX2 (aH : Nat) (aN aF aT aG : Nat → Nat) : xO (hC aH aN aF aT aG) aH 2 (hF aN aF aT aG) := ⟨0, rfl⟩
def gC (y : Nat → ClassId) (a : Nat → Nat) (S : St) : va_W := [(a 0, .inl (y 0, 18, .inl (S 0)))]
theorem aG_0 (y : Nat → ClassId) (a : Nat → Nat) (S : St) : xA (gC y a S) (a 0) (y 0) 18 (S 0) (fun f => gC y a (up1 S 0 f)) := ⟨0, rfl, fun _ => rfl⟩
theorem pm2_1 {α : Type} (b0 b1 : List α) : (b0 ++ b1).Perm ((b1) ++ (b0)) := by
  classical
  exact List.perm_iff_count.mpr fun a => by simp only [List.count_append] <;> omega
theorem pm2_0 {α : Type} (b0 b1 : List α) : (b0 ++ b1).Perm ((b0) ++ (b1)) := by
  classical
  exact List.perm_iff_count.mpr fun a => by simp only [List.count_append] <;> omega
theorem pm5_4 {α : Type} (b0 b1 b2 b3 b4 : List α) : (b0 ++ (b1 ++ (b2 ++ (b3 ++ b4)))).Perm ((b4) ++ (b0 ++ (b1 ++ (b2 ++ b3)))) := by
  classical
  exact List.perm_iff_count.mpr fun a => by simp only [List.count_append] <;> omega
theorem pm5_24 {α : Type} (b0 b1 b2 b3 b4 : List α) : (b0 ++ (b1 ++ (b2 ++ (b3 ++ b4)))).Perm ((b2 ++ b4) ++ (b0 ++ (b1 ++ b3))) := by
  classical
  exact List.perm_iff_count.mpr fun a => by simp only [List.count_append] <;> omega
theorem pm5_34 {α : Type} (b0 b1 b2 b3 b4 : List α) : (b0 ++ (b1 ++ (b2 ++ (b3 ++ b4)))).Perm ((b3 ++ b4) ++ (b0 ++ (b1 ++ b2))) := by
  classical
  exact List.perm_iff_count.mpr fun a => by simp only [List.count_append] <;> omega
theorem pm5_2 {α : Type} (b0 b1 b2 b3 b4 : List α) : (b0 ++ (b1 ++ (b2 ++ (b3 ++ b4)))).Perm ((b2) ++ (b0 ++ (b1 ++ (b3 ++ b4)))) := by
  classical
  exact List.perm_iff_count.mpr fun a => by simp only [List.count_append] <;> omega
theorem pm5_3 {α : Type} (b0 b1 b2 b3 b4 : List α) : (b0 ++ (b1 ++ (b2 ++ (b3 ++ b4)))).Perm ((b3) ++ (b0 ++ (b1 ++ (b2 ++ b4)))) := by
  classical
  exact List.perm_iff_count.mpr fun a => by simp only [List.count_append] <;> omega
theorem pm5_32 {α : Type} (b0 b1 b2 b3 b4 : List α) : (b0 ++ (b1 ++ (b2 ++ (b3 ++ b4)))).Perm ((b3 ++ b2) ++ (b0 ++ (b1 ++ b4))) := by
  classical
  exact List.perm_iff_count.mpr fun a => by simp only [List.count_append] <;> omega
theorem pm5_1 {α : Type} (b0 b1 b2 b3 b4 : List α) : (b0 ++ (b1 ++ (b2 ++ (b3 ++ b4)))).Perm ((b1) ++ (b0 ++ (b2 ++ (b3 ++ b4)))) := by
  classical
  exact List.perm_iff_count.mpr fun a => by simp only [List.count_append] <;> omega
section XK2
variable {p : Program} {l : Launch} {e : Env} {R : Room} {s : State} {m : MethodId} {args : Array Value} {below : List Frame} {meth : Method} {c : Code} {Q : State → Prop}
variable {D : va_G} {A : Nat → Prop} {cc : ByteArray} {own : String} {nL : Nat} {Ts : List Cond} {tys : List (ClassId × FieldType)} {ret : Option FieldType}
variable {ws ws' : va_W} {k n pc q : Nat} {L L' : List (Nat × Value)} {st : List Value}
theorem x_topi {v x : Int32} (h : v = x) (kk : xV p l e R s m args below meth c D A Q nL ws k n L pc (.int v :: st)) : xV p l e R s m args below meth c D A Q nL ws k n L pc (.int x :: st) := h ▸ kk
theorem x_topl {v x : Int64} (h : v = x) (kk : xV p l e R s m args below meth c D A Q nL ws k n L pc (.long v :: st)) : xV p l e R s m args below meth c D A Q nL ws k n L pc (.long x :: st) := h ▸ kk
theorem x_table (v : Int32) (C : xC p s m args meth c D A cc own nL Ts tys ret) {dflt lo hi : Int} {offs : Array Int} {len : Nat} {x : Int32} {off : Int} {t : Nat} (d : decode cc pc = .ok (.tableswitch dflt lo hi offs, len)) (hx : x = v) (h1 : ¬ v.toInt < lo) (h2 : ¬ hi < v.toInt) (ho : offs[(v.toInt - lo).toNat]? = some off) (ht : (pc : Int) + off = (t : Int)) (kk : xV p l e R s m args below meth c D A Q nL ws k n L t st) : xV p l e R s m args below meth c D A Q nL ws k n L pc (.int x :: st) := by
  subst hx
  exact x_tableIn C d h1 h2 ho ht kk
theorem x_copy (C : xC p s m args meth c D A cc own nL Ts tys ret) {index a a0 n0 n1 : Nat} {c0 c1 : ClassId} {f g : Nat → Int32} {G0 G1 : (Nat → Int32) → va_W} {sp dp nn : Int32} (t0 t1 : Nat) (d : decode cc pc = .ok (.invokestatic index, 3)) (hm : ∀ w ∈ ([.methodLink own index arraycopyName, .native arraycopyName, .static arraycopyName, .initialized "java/lang/System"] : List Cond), w ∈ Ts) (ho0 : xA ws a0 c0 n0 f G0) (ho1 : xA ws a c1 n1 g G1) (ht0 : tys[t0]? = some (c0, .int)) (ht1 : tys[t1]? = some (c1, .int)) (hi : xcp sp dp nn n0 n1 = true) (hfr : 1 ≤ R.frames) (hlo : (st.map fun v => v.category).sum + 18 ≤ R.locals) (hw : G1 (va_cpy f g sp.toNatClampNeg dp.toNatClampNeg nn.toNatClampNeg) = ws') (hq : pc + 3 = q) (kk : xV p l e R s m args below meth c D A Q nL ws' k n L q st) : xV p l e R s m args below meth c D A Q nL ws k n L pc (.int nn :: .int dp :: .ref a :: .int sp :: .ref a0 :: st) := by
  intro H locs ls hP hD hS hl
  obtain ⟨q0, h0, -⟩ := ho0
  obtain ⟨q1, h1, h2⟩ := ho1
  obtain ⟨hx, hb, hml, hown, hts, hK, -⟩ := C
  have hi2 : ¬ sp < 0 ∧ ¬ dp < 0 ∧ ¬ nn < 0 ∧ sp.toNatClampNeg + nn.toNatClampNeg ≤ n0 ∧ dp.toNatClampNeg + nn.toNatClampNeg ≤ n1 := of_decide_eq_true hi
  refine va_copyi hx hb (hml.trans hl.1.symm) hown (hts _ (hm _ (by simp))) (hts _ (hm _ (by simp))) (hts _ (hm _ (by simp))) (hts _ (hm _ (by simp))) hK hP hD hS q0 q1 t0 t1 h0 h1 ht0 ht1 rfl hi2.1 hi2.2.1 hi2.2.2.1 hi2.2.2.2.1 hi2.2.2.2.2 (fun _ _ => rfl) hfr hlo d (fun H1 locs1 hP1 hD1 hS1 => ?_)
  rw [h2, hw] at hP1 hD1
  exact hq ▸ kk H1 locs1 ls hP1 hD1 hS1 hl
theorem x_newa (C : xC p s m args meth c D A cc own nL Ts tys ret) {c0 : ClassId} {nn : Int32} (N : Nat) (d : decode cc pc = .ok (.newarray .int, 2)) (hm : Cond.arrayClass .int ∈ Ts) (ht : tys[0]? = some (c0, .int)) (hn : ¬ nn < 0) (hN : nn.toNatClampNeg = N) (hby : N * 4 ≤ 536870912) (hc : k + 1 ≤ R.cells) (hs : n + N ≤ R.slots) (hq : pc + 2 = q) (kk : ∀ a : Nat, xV p l e R s m args below meth c D A Q nL (ws ++ [(a, .inl (c0, N, .inl (fun _ => 0)))]) (k + 1) (n + N) L q (.ref a :: st)) : xV p l e R s m args below meth c D A Q nL ws k n L pc (.int nn :: st) := by
  intro H locs ls hP hD hS hl
  obtain ⟨hx, hb, hml, hown, hts, hK, hret, hlk, hA⟩ := C
  refine va_newa (atype := .int) (ty := .int) (a0 := (N, .inl (fun _ => 0))) hx hb (hts _ hm) rfl hK hP hD hS hA (fun cA => rfl) hn hN hby hc hs d (fun a cA H1 hK1 hP1 hD1 hS1 => ?_)
  have e1 := (hK.2 0 _ ht).2
  have e2 := (hK1.2 tys.length (cA, .int) (by simp)).2
  have e3 : cA = c0 := Option.some.inj (e2.symm.trans e1)
  subst e3
  exact hq ▸ kk a H1 locs ls hP1 hD1 hS1 hl
end XK2
theorem xtab4 {x : Int32} (h0 : ¬ x = 0) (h1 : ¬ x = 1) (h2 : ¬ x = 2) (h3 : ¬ x = 3) : x.toInt < (0 : Int) ∨ (3 : Int) < x.toInt := by
  rcases Int.lt_or_le x.toInt 0 with h | h
  · exact Or.inl h
  · rcases Int.lt_or_le (3 : Int) x.toInt with q | q
    · exact Or.inr q
    · exfalso
      have h2 : x.toInt = 0 ∨ x.toInt = 1 ∨ x.toInt = 2 ∨ x.toInt = 3 := by omega
      rcases h2 with e | e | e | e
      · exact h0 (Int32.toInt_inj.mp e)
      · exact h1 (Int32.toInt_inj.mp e)
      · exact h2 (Int32.toInt_inj.mp e)
      · exact h3 (Int32.toInt_inj.mp e)
theorem xtab7 {x : Int32} (h0 : ¬ x = 0) (h1 : ¬ x = 1) (h2 : ¬ x = 2) (h3 : ¬ x = 3) (h4 : ¬ x = 4) (h5 : ¬ x = 5) (h6 : ¬ x = 6) : x.toInt < (0 : Int) ∨ (6 : Int) < x.toInt := by
  rcases Int.lt_or_le x.toInt 0 with h | h
  · exact Or.inl h
  · rcases Int.lt_or_le (6 : Int) x.toInt with q | q
    · exact Or.inr q
    · exfalso
      have h2 : x.toInt = 0 ∨ x.toInt = 1 ∨ x.toInt = 2 ∨ x.toInt = 3 ∨ x.toInt = 4 ∨ x.toInt = 5 ∨ x.toInt = 6 := by omega
      rcases h2 with e | e | e | e | e | e | e
      · exact h0 (Int32.toInt_inj.mp e)
      · exact h1 (Int32.toInt_inj.mp e)
      · exact h2 (Int32.toInt_inj.mp e)
      · exact h3 (Int32.toInt_inj.mp e)
      · exact h4 (Int32.toInt_inj.mp e)
      · exact h5 (Int32.toInt_inj.mp e)
      · exact h6 (Int32.toInt_inj.mp e)
theorem xtab8 {x : Int32} (h0 : ¬ x = 0) (h1 : ¬ x = 1) (h2 : ¬ x = 2) (h3 : ¬ x = 3) (h4 : ¬ x = 4) (h5 : ¬ x = 5) (h6 : ¬ x = 6) (h7 : ¬ x = 7) : x.toInt < (0 : Int) ∨ (7 : Int) < x.toInt := by
  rcases Int.lt_or_le x.toInt 0 with h | h
  · exact Or.inl h
  · rcases Int.lt_or_le (7 : Int) x.toInt with q | q
    · exact Or.inr q
    · exfalso
      have h2 : x.toInt = 0 ∨ x.toInt = 1 ∨ x.toInt = 2 ∨ x.toInt = 3 ∨ x.toInt = 4 ∨ x.toInt = 5 ∨ x.toInt = 6 ∨ x.toInt = 7 := by omega
      rcases h2 with e | e | e | e | e | e | e | e
      · exact h0 (Int32.toInt_inj.mp e)
      · exact h1 (Int32.toInt_inj.mp e)
      · exact h2 (Int32.toInt_inj.mp e)
      · exact h3 (Int32.toInt_inj.mp e)
      · exact h4 (Int32.toInt_inj.mp e)
      · exact h5 (Int32.toInt_inj.mp e)
      · exact h6 (Int32.toInt_inj.mp e)
      · exact h7 (Int32.toInt_inj.mp e)
theorem xtab9 {x : Int32} (h0 : ¬ x = 0) (h1 : ¬ x = 1) (h2 : ¬ x = 2) (h3 : ¬ x = 3) (h4 : ¬ x = 4) (h5 : ¬ x = 5) (h6 : ¬ x = 6) (h7 : ¬ x = 7) (h8 : ¬ x = 8) : x.toInt < (0 : Int) ∨ (8 : Int) < x.toInt := by
  rcases Int.lt_or_le x.toInt 0 with h | h
  · exact Or.inl h
  · rcases Int.lt_or_le (8 : Int) x.toInt with q | q
    · exact Or.inr q
    · exfalso
      have h2 : x.toInt = 0 ∨ x.toInt = 1 ∨ x.toInt = 2 ∨ x.toInt = 3 ∨ x.toInt = 4 ∨ x.toInt = 5 ∨ x.toInt = 6 ∨ x.toInt = 7 ∨ x.toInt = 8 := by omega
      rcases h2 with e | e | e | e | e | e | e | e | e
      · exact h0 (Int32.toInt_inj.mp e)
      · exact h1 (Int32.toInt_inj.mp e)
      · exact h2 (Int32.toInt_inj.mp e)
      · exact h3 (Int32.toInt_inj.mp e)
      · exact h4 (Int32.toInt_inj.mp e)
      · exact h5 (Int32.toInt_inj.mp e)
      · exact h6 (Int32.toInt_inj.mp e)
      · exact h7 (Int32.toInt_inj.mp e)
      · exact h8 (Int32.toInt_inj.mp e)
theorem xtab10 {x : Int32} (h0 : ¬ x = 0) (h1 : ¬ x = 1) (h2 : ¬ x = 2) (h3 : ¬ x = 3) (h4 : ¬ x = 4) (h5 : ¬ x = 5) (h6 : ¬ x = 6) (h7 : ¬ x = 7) (h8 : ¬ x = 8) (h9 : ¬ x = 9) : x.toInt < (0 : Int) ∨ (9 : Int) < x.toInt := by
  rcases Int.lt_or_le x.toInt 0 with h | h
  · exact Or.inl h
  · rcases Int.lt_or_le (9 : Int) x.toInt with q | q
    · exact Or.inr q
    · exfalso
      have h2 : x.toInt = 0 ∨ x.toInt = 1 ∨ x.toInt = 2 ∨ x.toInt = 3 ∨ x.toInt = 4 ∨ x.toInt = 5 ∨ x.toInt = 6 ∨ x.toInt = 7 ∨ x.toInt = 8 ∨ x.toInt = 9 := by omega
      rcases h2 with e | e | e | e | e | e | e | e | e | e
      · exact h0 (Int32.toInt_inj.mp e)
      · exact h1 (Int32.toInt_inj.mp e)
      · exact h2 (Int32.toInt_inj.mp e)
      · exact h3 (Int32.toInt_inj.mp e)
      · exact h4 (Int32.toInt_inj.mp e)
      · exact h5 (Int32.toInt_inj.mp e)
      · exact h6 (Int32.toInt_inj.mp e)
      · exact h7 (Int32.toInt_inj.mp e)
      · exact h8 (Int32.toInt_inj.mp e)
      · exact h9 (Int32.toInt_inj.mp e)
theorem xtab11 {x : Int32} (h0 : ¬ x = 0) (h1 : ¬ x = 1) (h2 : ¬ x = 2) (h3 : ¬ x = 3) (h4 : ¬ x = 4) (h5 : ¬ x = 5) (h6 : ¬ x = 6) (h7 : ¬ x = 7) (h8 : ¬ x = 8) (h9 : ¬ x = 9) (h10 : ¬ x = 10) : x.toInt < (0 : Int) ∨ (10 : Int) < x.toInt := by
  rcases Int.lt_or_le x.toInt 0 with h | h
  · exact Or.inl h
  · rcases Int.lt_or_le (10 : Int) x.toInt with q | q
    · exact Or.inr q
    · exfalso
      have h2 : x.toInt = 0 ∨ x.toInt = 1 ∨ x.toInt = 2 ∨ x.toInt = 3 ∨ x.toInt = 4 ∨ x.toInt = 5 ∨ x.toInt = 6 ∨ x.toInt = 7 ∨ x.toInt = 8 ∨ x.toInt = 9 ∨ x.toInt = 10 := by omega
      rcases h2 with e | e | e | e | e | e | e | e | e | e | e
      · exact h0 (Int32.toInt_inj.mp e)
      · exact h1 (Int32.toInt_inj.mp e)
      · exact h2 (Int32.toInt_inj.mp e)
      · exact h3 (Int32.toInt_inj.mp e)
      · exact h4 (Int32.toInt_inj.mp e)
      · exact h5 (Int32.toInt_inj.mp e)
      · exact h6 (Int32.toInt_inj.mp e)
      · exact h7 (Int32.toInt_inj.mp e)
      · exact h8 (Int32.toInt_inj.mp e)
      · exact h9 (Int32.toInt_inj.mp e)
      · exact h10 (Int32.toInt_inj.mp e)
theorem xtab21 {x : Int32} (h0 : ¬ x = 0) (h1 : ¬ x = 1) (h2 : ¬ x = 2) (h3 : ¬ x = 3) (h4 : ¬ x = 4) (h5 : ¬ x = 5) (h6 : ¬ x = 6) (h7 : ¬ x = 7) (h8 : ¬ x = 8) (h9 : ¬ x = 9) (h10 : ¬ x = 10) (h11 : ¬ x = 11) (h12 : ¬ x = 12) (h13 : ¬ x = 13) (h14 : ¬ x = 14) (h15 : ¬ x = 15) (h16 : ¬ x = 16) (h17 : ¬ x = 17) (h18 : ¬ x = 18) (h19 : ¬ x = 19) (h20 : ¬ x = 20) : x.toInt < (0 : Int) ∨ (20 : Int) < x.toInt := by
  rcases Int.lt_or_le x.toInt 0 with h | h
  · exact Or.inl h
  · rcases Int.lt_or_le (20 : Int) x.toInt with q | q
    · exact Or.inr q
    · exfalso
      have h2 : x.toInt = 0 ∨ x.toInt = 1 ∨ x.toInt = 2 ∨ x.toInt = 3 ∨ x.toInt = 4 ∨ x.toInt = 5 ∨ x.toInt = 6 ∨ x.toInt = 7 ∨ x.toInt = 8 ∨ x.toInt = 9 ∨ x.toInt = 10 ∨ x.toInt = 11 ∨ x.toInt = 12 ∨ x.toInt = 13 ∨ x.toInt = 14 ∨ x.toInt = 15 ∨ x.toInt = 16 ∨ x.toInt = 17 ∨ x.toInt = 18 ∨ x.toInt = 19 ∨ x.toInt = 20 := by omega
      rcases h2 with e | e | e | e | e | e | e | e | e | e | e | e | e | e | e | e | e | e | e | e | e
      · exact h0 (Int32.toInt_inj.mp e)
      · exact h1 (Int32.toInt_inj.mp e)
      · exact h2 (Int32.toInt_inj.mp e)
      · exact h3 (Int32.toInt_inj.mp e)
      · exact h4 (Int32.toInt_inj.mp e)
      · exact h5 (Int32.toInt_inj.mp e)
      · exact h6 (Int32.toInt_inj.mp e)
      · exact h7 (Int32.toInt_inj.mp e)
      · exact h8 (Int32.toInt_inj.mp e)
      · exact h9 (Int32.toInt_inj.mp e)
      · exact h10 (Int32.toInt_inj.mp e)
      · exact h11 (Int32.toInt_inj.mp e)
      · exact h12 (Int32.toInt_inj.mp e)
      · exact h13 (Int32.toInt_inj.mp e)
      · exact h14 (Int32.toInt_inj.mp e)
      · exact h15 (Int32.toInt_inj.mp e)
      · exact h16 (Int32.toInt_inj.mp e)
      · exact h17 (Int32.toInt_inj.mp e)
      · exact h18 (Int32.toInt_inj.mp e)
      · exact h19 (Int32.toInt_inj.mp e)
      · exact h20 (Int32.toInt_inj.mp e)
end
section
/-! LampHills$Town.addCorner(I)I -/
theorem ki_0 : Int32.ofInt 0 = 0 := by decide
theorem ki_1 : Int32.ofInt 1 = 1 := by decide
theorem kX1_addCorner_57 : Cond.constant RX1 57 (1000000) ∈ wsX1_addCorner := by decide +kernel
theorem flX1_addCorner_17 : Cond.fieldLink RX1 17 "LampHills$Town" "ways" "[[I" ∈ wsX1_addCorner := by decide +kernel
theorem flX1_addCorner_53 : Cond.fieldLink RX1 53 "LampHills$Town" "corners" "I" ∈ wsX1_addCorner := by decide +kernel
theorem flX1_addCorner_9 : Cond.fieldLink RX1 9 "LampHills$Town" "height" "[I" ∈ wsX1_addCorner := by decide +kernel
theorem iuX1_addCorner_X1 : ∀ w ∈ u_ws RX1 TX1 17, w ∈ wsX1_addCorner := fun _ h => List.mem_cons_of_mem _ (List.mem_append_right _ h)
def f1_addCorner_L14 (v1 : Int32) (K : St → Option (Int32 × St)) : Nat → Int32 → St → Option (Int32 × St)
  | 0, _, _ => none
  | fu + 1, v4, T5 =>
  if v1 ≤ v4 then
  (
    K T5
  )
  else
  (
    gd (xin v1 12) <|
    gd (xin v4 12) <|
    lt_ (up2 T5 (100 + v1.toNatClampNeg) v4.toNatClampNeg 1000000) fun T9 =>
    lt_ (up2 T9 (100 + v4.toNatClampNeg) v1.toNatClampNeg 1000000) fun T10 =>
    f1_addCorner_L14 v1 K fu (v4 + 1) T10
  )
def f1_addCorner (T : St) (p1 : Int32) : Option (Int32 × St) :=
  lt_ (T 0 0) fun v1 =>
  gd (xin v1 12) <|
  lt_ (up2 T 1 v1.toNatClampNeg p1) fun T3 =>
  f1_addCorner_L14 v1 (fun (T6 : St) =>
  (
    gd (xin v1 12) <|
    lt_ (up2 T6 (100 + v1.toNatClampNeg) v1.toNatClampNeg 0) fun T12 =>
    lt_ (up2 T12 0 0 ((T12 0 0) + 1)) fun T13 =>
    some (v1, T13)
  )
  ) xF 0 T3
set_option maxHeartbeats 4000000 in
set_option maxRecDepth 100000 in
theorem w1_addCorner_L14 {p : Program} {l : Launch} {e : Env} {s : State} {m : MethodId} {args : Array Value} {below : List Frame} {meth : Method} {c : Code} {D : va_G} {A : Nat → Prop} {y : Nat → ClassId} {aT : Nat → Nat} {v1 : Int32} {r : Int32} {T' : St} {K : St → Option (Int32 × St)} (C : xC p s m args meth c D A cX1_addCorner RX1 4 wsX1_addCorner (xT y) (some .int)) (hK : ∀ (T6 : St), K T6 = some (r, T') → xV p l e { frames := 0, cells := 0, slots := 0, locals := 0 } s m args below meth c D A (xQi D (xT y) A (fun (r' : Int32) (_ : Unit) => r' = r) (fun _ : Unit => tC y aT T') 0 0 below args s) 4 (tC y aT T6) 0 0 [(0, .ref (aT 0)), (2, .int v1)] 45 []) : ∀ (fu : Nat) (v4 : Int32) (T5 : St), f1_addCorner_L14 v1 K fu v4 T5 = some (r, T') → xV p l e { frames := 0, cells := 0, slots := 0, locals := 0 } s m args below meth c D A (xQi D (xT y) A (fun (r' : Int32) (_ : Unit) => r' = r) (fun _ : Unit => tC y aT T') 0 0 below args s) 4 (tC y aT T5) 0 0 [(0, .ref (aT 0)), (2, .int v1), (3, .int v4)] 14 [] := by
  intro fu
  induction fu with
  | zero => intro v4 T5 hf; rw [f1_addCorner_L14] at hf; cases hf
  | succ fu ih =>
    intro v4 T5 hf
    rw [f1_addCorner_L14] at hf
    refine x_iload_n (q := 15) C 2 dX1_addCorner_14 rfl rfl rfl ?_
    refine x_iload_n (q := 16) C 1 dX1_addCorner_15 rfl rfl rfl ?_
    refine x_icmp_ge (t := 45) (q := 19) C dX1_addCorner_16 (by decide) rfl (fun hc => ?_) (fun hc => ?_)
    · have hf := (if_pos hc).symm.trans hf
      refine x_sub [0, 1] (L' := [(0, .ref (aT 0)), (2, .int v1)]) rfl ?_
      exact hK T5 hf
    · have hf := (if_neg hc).symm.trans hf
      refine x_aload_n (q := 20) C 0 dX1_addCorner_19 rfl rfl rfl ?_
      refine x_get (q := 23) C 2 dX1_addCorner_20 (oX1 y aT T5) rfl iuX1_addCorner_X1 flX1_addCorner_17 rfl (by decide) rfl rfl ?_
      refine x_iload_n (q := 24) C 1 dX1_addCorner_23 rfl rfl rfl ?_
      obtain ⟨hb7, hf⟩ := gd_some hf
      refine x_aald (q := 25) C 2 dX1_addCorner_24 (gX1_2 y aT T5) rfl rfl hb7 (if_pos (xin_lt hb7)) rfl ?_
      refine x_iload_n (q := 26) C 2 dX1_addCorner_25 rfl rfl rfl ?_
      refine x_ldc (q := 28) C dX1_addCorner_26 kX1_addCorner_57 rfl ?_
      obtain ⟨hb8, hf⟩ := gd_some hf
      obtain ⟨T9, eT9, hf⟩ := lt_elim hf
      refine x_iast (q := 29) (ws' := tC y aT T9) C 0 dX1_addCorner_28 (aX1_r2 y aT T5 (xin_lt hb7)) rfl hb8 (congrArg (fun z => tC y aT z) eT9.symm) rfl ?_
      refine x_aload_n (q := 30) C 0 dX1_addCorner_29 rfl rfl rfl ?_
      refine x_get (q := 33) C 2 dX1_addCorner_30 (oX1 y aT T9) rfl iuX1_addCorner_X1 flX1_addCorner_17 rfl (by decide) rfl rfl ?_
      refine x_iload_n (q := 34) C 2 dX1_addCorner_33 rfl rfl rfl ?_
      refine x_aald (q := 35) C 2 dX1_addCorner_34 (gX1_2 y aT T9) rfl rfl hb8 (if_pos (xin_lt hb8)) rfl ?_
      refine x_iload_n (q := 36) C 1 dX1_addCorner_35 rfl rfl rfl ?_
      refine x_ldc (q := 38) C dX1_addCorner_36 kX1_addCorner_57 rfl ?_
      obtain ⟨T10, eT10, hf⟩ := lt_elim hf
      refine x_iast (q := 39) (ws' := tC y aT T10) C 0 dX1_addCorner_38 (aX1_r2 y aT T9 (xin_lt hb8)) rfl hb7 (congrArg (fun z => tC y aT z) eT10.symm) rfl ?_
      refine x_iinc (q := 42) C 2 (v4 + 1) [1, 2, 0] [(0, .ref (aT 0)), (2, .int v1), (3, .int (v4 + 1))] dX1_addCorner_39 rfl (congrArg (fun z => v4 + z) ki_1) (by decide) rfl rfl ?_
      refine x_goto (t := 14) C dX1_addCorner_42 (by decide) ?_
      exact ih (v4 + 1) T10 hf
set_option maxHeartbeats 4000000 in
set_option maxRecDepth 100000 in
theorem c1_addCorner {l : Launch} {D : va_G} {y : Nat → ClassId} {aT : Nat → Nat} {T : St} {p1 : Int32} {r : Int32} {T' : St} (hf : f1_addCorner T p1 = some (r, T')) : xMi l yX1_addCorner wsX1_addCorner 0 0 0 0 D (xT y) [.ref (aT 0), .int p1] (tC y aT T) (fun (r' : Int32) (_ : Unit) => r' = r) (fun _ : Unit => tC y aT T') := by
  refine xMi_of (cc := cX1_addCorner) (nL := 4) (ret := (some .int)) [(0, .ref (aT 0)), (1, .int p1)] (by decide) rfl (Nat.le_of_ble_eq_true rfl) rfl ?_
  intro p e s m args below meth c A C hin
  have C : xC p s m args meth c D A cX1_addCorner RX1 4 wsX1_addCorner (xT y) (some .int) := C
  unfold f1_addCorner at hf
  refine x_aload_n (q := 1) C 0 dX1_addCorner_0 rfl rfl rfl ?_
  refine x_get (q := 4) C 0 dX1_addCorner_1 (oX1 y aT T) rfl iuX1_addCorner_X1 flX1_addCorner_53 rfl (by decide) rfl rfl ?_
  obtain ⟨v1, ev1, hf⟩ := lt_elim hf
  refine x_topi ev1 ?_
  refine x_istore_n (q := 5) C [1, 2, 0] [(0, .ref (aT 0)), (1, .int p1), (2, .int v1)] dX1_addCorner_4 rfl (by decide) rfl rfl ?_
  refine x_aload_n (q := 6) C 0 dX1_addCorner_5 rfl rfl rfl ?_
  refine x_get (q := 9) C 1 dX1_addCorner_6 (oX1 y aT T) rfl iuX1_addCorner_X1 flX1_addCorner_9 rfl (by decide) rfl rfl ?_
  refine x_iload_n (q := 10) C 2 dX1_addCorner_9 rfl rfl rfl ?_
  refine x_iload_n (q := 11) C 1 dX1_addCorner_10 rfl rfl rfl ?_
  obtain ⟨hb2, hf⟩ := gd_some hf
  obtain ⟨T3, eT3, hf⟩ := lt_elim hf
  refine x_iast (q := 12) (ws' := tC y aT T3) C 0 dX1_addCorner_11 (aX1_1 y aT T) rfl hb2 (congrArg (fun z => tC y aT z) eT3.symm) rfl ?_
  refine x_iconst (q := 13) C dX1_addCorner_12 ki_0 rfl ?_
  refine x_istore_n (q := 14) C [1, 3, 0] [(0, .ref (aT 0)), (2, .int v1), (3, .int 0)] dX1_addCorner_13 rfl (by decide) rfl rfl ?_
  refine w1_addCorner_L14 C (fun T6 hf => ?_) xF 0 T3 hf
  refine x_aload_n (q := 46) C 0 dX1_addCorner_45 rfl rfl rfl ?_
  refine x_get (q := 49) C 2 dX1_addCorner_46 (oX1 y aT T6) rfl iuX1_addCorner_X1 flX1_addCorner_17 rfl (by decide) rfl rfl ?_
  refine x_iload_n (q := 50) C 1 dX1_addCorner_49 rfl rfl rfl ?_
  obtain ⟨hb11, hf⟩ := gd_some hf
  refine x_aald (q := 51) C 2 dX1_addCorner_50 (gX1_2 y aT T6) rfl rfl hb11 (if_pos (xin_lt hb11)) rfl ?_
  refine x_iload_n (q := 52) C 1 dX1_addCorner_51 rfl rfl rfl ?_
  refine x_iconst (q := 53) C dX1_addCorner_52 ki_0 rfl ?_
  obtain ⟨T12, eT12, hf⟩ := lt_elim hf
  refine x_iast (q := 54) (ws' := tC y aT T12) C 0 dX1_addCorner_53 (aX1_r2 y aT T6 (xin_lt hb11)) rfl hb11 (congrArg (fun z => tC y aT z) eT12.symm) rfl ?_
  refine x_aload_n (q := 55) C 0 dX1_addCorner_54 rfl rfl rfl ?_
  refine x_dup (q := 56) C dX1_addCorner_55 rfl rfl ?_
  refine x_get (q := 59) C 0 dX1_addCorner_56 (oX1 y aT T12) rfl iuX1_addCorner_X1 flX1_addCorner_53 rfl (by decide) rfl rfl ?_
  refine x_iconst (q := 60) C dX1_addCorner_59 ki_1 rfl ?_
  refine x_iadd (q := 61) C dX1_addCorner_60 rfl ?_
  obtain ⟨T13, eT13, hf⟩ := lt_elim hf
  refine x_puti (q := 64) (ws' := tC y aT T13) C tyX1 tyX1_ok nmX1 dX1_addCorner_61 (iX1_0 y aT T12) rfl iuX1_addCorner_X1 flX1_addCorner_53 rfl (by decide) rfl rfl (congrArg (fun z => tC y aT z) eT13.symm) rfl ?_
  refine x_iload_n (q := 65) C 1 dX1_addCorner_64 rfl rfl rfl ?_
  have hf := Option.some.inj hf
  obtain ⟨hr0, hr1⟩ := Prod.mk.inj hf
  exact x_iret () C dX1_addCorner_65 rfl hr0 (congrArg (fun z => tC y aT z) hr1) (Nat.le_of_ble_eq_true rfl) (Nat.le_of_ble_eq_true rfl)

/-! LampHills$Town.minutesAlong(III)I -/
theorem ki_2 : Int32.ofInt 2 = 2 := by decide
theorem flX1_minutesAlong_9 : Cond.fieldLink RX1 9 "LampHills$Town" "height" "[I" ∈ wsX1_minutesAlong := by decide +kernel
theorem iuX1_minutesAlong_X1 : ∀ w ∈ u_ws RX1 TX1 17, w ∈ wsX1_minutesAlong := fun _ h => List.mem_cons_of_mem _ (List.mem_append_right _ h)
theorem kmX1_minutesAlong_75 : ∀ w ∈ ([.methodLink RX1 75 Lib.Math.max.name, .static Lib.Math.max.name, .initialized "java/lang/Math", .code Lib.Math.max.name Lib.Math.max.code 2 (some .int)] : List Cond), w ∈ wsX1_minutesAlong := by decide +kernel
def f1_minutesAlong (T : St) (p1 : Int32) (p2 : Int32) (p3 : Int32) : Option (Int32) :=
  gd (xin p2 12) <|
  gd (xin p1 12) <|
  some (p3 + ((if (0 : Int32) < ((T 1 p2.toNatClampNeg) - (T 1 p1.toNatClampNeg)) then ((T 1 p2.toNatClampNeg) - (T 1 p1.toNatClampNeg)) else (0 : Int32)) / 2))
set_option maxHeartbeats 4000000 in
set_option maxRecDepth 100000 in
theorem c1_minutesAlong {l : Launch} {D : va_G} {y : Nat → ClassId} {aT : Nat → Nat} {T : St} {p1 : Int32} {p2 : Int32} {p3 : Int32} {r : Int32} (hf : f1_minutesAlong T p1 p2 p3 = some r) : xMi l yX1_minutesAlong wsX1_minutesAlong 1 48 0 0 D (xT y) [.ref (aT 0), .int p1, .int p2, .int p3] (tC y aT T) (fun (r' : Int32) (_ : Unit) => r' = r) (fun _ : Unit => tC y aT T) := by
  refine xMi_of (cc := cX1_minutesAlong) (nL := 4) (ret := (some .int)) [(0, .ref (aT 0)), (1, .int p1), (2, .int p2), (3, .int p3)] (by decide) rfl (Nat.le_of_ble_eq_true rfl) rfl ?_
  intro p e s m args below meth c A C hin
  have C : xC p s m args meth c D A cX1_minutesAlong RX1 4 wsX1_minutesAlong (xT y) (some .int) := C
  unfold f1_minutesAlong at hf
  refine x_iload_n (q := 1) C 3 dX1_minutesAlong_0 rfl rfl rfl ?_
  refine x_iconst (q := 2) C dX1_minutesAlong_1 ki_0 rfl ?_
  refine x_aload_n (q := 3) C 0 dX1_minutesAlong_2 rfl rfl rfl ?_
  refine x_get (q := 6) C 1 dX1_minutesAlong_3 (oX1 y aT T) rfl iuX1_minutesAlong_X1 flX1_minutesAlong_9 rfl (by decide) rfl rfl ?_
  refine x_iload_n (q := 7) C 2 dX1_minutesAlong_6 rfl rfl rfl ?_
  obtain ⟨hb1, hf⟩ := gd_some hf
  refine x_iald (q := 8) C 0 dX1_minutesAlong_7 (aX1_1 y aT T) rfl hb1 rfl ?_
  refine x_aload_n (q := 9) C 0 dX1_minutesAlong_8 rfl rfl rfl ?_
  refine x_get (q := 12) C 1 dX1_minutesAlong_9 (oX1 y aT T) rfl iuX1_minutesAlong_X1 flX1_minutesAlong_9 rfl (by decide) rfl rfl ?_
  refine x_iload_n (q := 13) C 1 dX1_minutesAlong_12 rfl rfl rfl ?_
  obtain ⟨hb2, hf⟩ := gd_some hf
  refine x_iald (q := 14) C 0 dX1_minutesAlong_13 (aX1_1 y aT T) rfl hb2 rfl ?_
  refine x_isub (q := 15) C dX1_minutesAlong_14 rfl ?_
  refine x_mmax (q := 18) C dX1_minutesAlong_15 kmX1_minutesAlong_75 (Nat.le_of_ble_eq_true rfl) (Nat.le_of_ble_eq_true rfl) (Nat.le_of_ble_eq_true rfl) (Nat.le_of_ble_eq_true rfl) rfl ?_
  refine x_iconst (q := 19) C dX1_minutesAlong_18 ki_2 rfl ?_
  refine x_idiv (q := 20) C dX1_minutesAlong_19 (by decide) rfl ?_
  refine x_iadd (q := 21) C dX1_minutesAlong_20 rfl ?_
  have hf := Option.some.inj hf
  exact x_iret () C dX1_minutesAlong_21 rfl hf rfl (Nat.le_of_ble_eq_true rfl) (Nat.le_of_ble_eq_true rfl)

/-! LampHills$Town.shortenWays(III)V -/
theorem flX1_shortenWays_17 : Cond.fieldLink RX1 17 "LampHills$Town" "ways" "[[I" ∈ wsX1_shortenWays := by decide +kernel
theorem flX1_shortenWays_53 : Cond.fieldLink RX1 53 "LampHills$Town" "corners" "I" ∈ wsX1_shortenWays := by decide +kernel
theorem iuX1_shortenWays_X1 : ∀ w ∈ u_ws RX1 TX1 17, w ∈ wsX1_shortenWays := fun _ h => List.mem_cons_of_mem _ (List.mem_append_right _ h)
theorem kmX1_shortenWays_81 : ∀ w ∈ ([.methodLink RX1 81 Lib.Math.min.name, .static Lib.Math.min.name, .initialized "java/lang/Math", .code Lib.Math.min.name Lib.Math.min.code 2 (some .int)] : List Cond), w ∈ wsX1_shortenWays := by decide +kernel
def f1_shortenWays_L15 (p1 : Int32) (p2 : Int32) (p3 : Int32) (v1 : Int32) (K : St → Option (St)) : Nat → Int32 → St → Option (St)
  | 0, _, _ => none
  | fu + 1, v3, T4 =>
  if (T4 0 0) ≤ v3 then
  (
    K T4
  )
  else
  (
    gd (xin v1 12) <|
    gd (xin p1 12) <|
    gd (xin p2 12) <|
    gd (xin v3 12) <|
    lt_ (((T4 (100 + v1.toNatClampNeg) p1.toNatClampNeg) + p3) + (T4 (100 + p2.toNatClampNeg) v3.toNatClampNeg)) fun v10 =>
    lt_ (up2 T4 (100 + v1.toNatClampNeg) v3.toNatClampNeg (if v10 < (T4 (100 + v1.toNatClampNeg) v3.toNatClampNeg) then v10 else (T4 (100 + v1.toNatClampNeg) v3.toNatClampNeg))) fun T11 =>
    f1_shortenWays_L15 p1 p2 p3 v1 K fu (v3 + 1) T11
  )
def f1_shortenWays_L3 (p1 : Int32) (p2 : Int32) (p3 : Int32) : Nat → Int32 → St → Option (St)
  | 0, _, _ => none
  | fu + 1, v1, T2 =>
  if (T2 0 0) ≤ v1 then
  (
    some T2
  )
  else
  (
    f1_shortenWays_L15 p1 p2 p3 v1 (fun (T5 : St) =>
    (
      f1_shortenWays_L3 p1 p2 p3 fu (v1 + 1) T5
    )
    ) xF 0 T2
  )
def f1_shortenWays (T : St) (p1 : Int32) (p2 : Int32) (p3 : Int32) : Option (St) :=
  f1_shortenWays_L3 p1 p2 p3 xF 0 T
set_option maxHeartbeats 4000000 in
set_option maxRecDepth 100000 in
theorem w1_shortenWays_L15 {p : Program} {l : Launch} {e : Env} {s : State} {m : MethodId} {args : Array Value} {below : List Frame} {meth : Method} {c : Code} {D : va_G} {A : Nat → Prop} {y : Nat → ClassId} {aT : Nat → Nat} {p1 : Int32} {p2 : Int32} {p3 : Int32} {v1 : Int32} {T' : St} {K : St → Option (St)} (C : xC p s m args meth c D A cX1_shortenWays RX1 7 wsX1_shortenWays (xT y) none) (hK : ∀ (T5 : St), K T5 = some T' → xV p l e { frames := 1, cells := 0, slots := 0, locals := 48 } s m args below meth c D A (xQv D (xT y) A (fun (_ : Unit) => True) (fun _ : Unit => tC y aT T') 0 0 below args s) 7 (tC y aT T5) 0 0 [(0, .ref (aT 0)), (1, .int p1), (2, .int p2), (3, .int p3), (4, .int v1)] 78 []) : ∀ (fu : Nat) (v3 : Int32) (T4 : St), f1_shortenWays_L15 p1 p2 p3 v1 K fu v3 T4 = some T' → xV p l e { frames := 1, cells := 0, slots := 0, locals := 48 } s m args below meth c D A (xQv D (xT y) A (fun (_ : Unit) => True) (fun _ : Unit => tC y aT T') 0 0 below args s) 7 (tC y aT T4) 0 0 [(0, .ref (aT 0)), (1, .int p1), (2, .int p2), (3, .int p3), (4, .int v1), (5, .int v3)] 15 [] := by
  intro fu
  induction fu with
  | zero => intro v3 T4 hf; rw [f1_shortenWays_L15] at hf; cases hf
  | succ fu ih =>
    intro v3 T4 hf
    rw [f1_shortenWays_L15] at hf
    refine x_iload (q := 17) C 5 dX1_shortenWays_15 rfl rfl ?_
    refine x_aload_n (q := 18) C 0 dX1_shortenWays_17 rfl rfl rfl ?_
    refine x_get (q := 21) C 0 dX1_shortenWays_18 (oX1 y aT T4) rfl iuX1_shortenWays_X1 flX1_shortenWays_53 rfl (by decide) rfl rfl ?_
    refine x_icmp_ge (t := 78) (q := 24) C dX1_shortenWays_21 (by decide) rfl (fun hc => ?_) (fun hc => ?_)
    · have hf := (if_pos hc).symm.trans hf
      refine x_sub [0, 1, 2, 3, 4] (L' := [(0, .ref (aT 0)), (1, .int p1), (2, .int p2), (3, .int p3), (4, .int v1)]) rfl ?_
      exact hK T4 hf
    · have hf := (if_neg hc).symm.trans hf
      refine x_aload_n (q := 25) C 0 dX1_shortenWays_24 rfl rfl rfl ?_
      refine x_get (q := 28) C 2 dX1_shortenWays_25 (oX1 y aT T4) rfl iuX1_shortenWays_X1 flX1_shortenWays_17 rfl (by decide) rfl rfl ?_
      refine x_iload (q := 30) C 4 dX1_shortenWays_28 rfl rfl ?_
      obtain ⟨hb6, hf⟩ := gd_some hf
      refine x_aald (q := 31) C 2 dX1_shortenWays_30 (gX1_2 y aT T4) rfl rfl hb6 (if_pos (xin_lt hb6)) rfl ?_
      refine x_iload_n (q := 32) C 1 dX1_shortenWays_31 rfl rfl rfl ?_
      obtain ⟨hb7, hf⟩ := gd_some hf
      refine x_iald (q := 33) C 0 dX1_shortenWays_32 (aX1_r2 y aT T4 (xin_lt hb6)) rfl hb7 rfl ?_
      refine x_iload_n (q := 34) C 3 dX1_shortenWays_33 rfl rfl rfl ?_
      refine x_iadd (q := 35) C dX1_shortenWays_34 rfl ?_
      refine x_aload_n (q := 36) C 0 dX1_shortenWays_35 rfl rfl rfl ?_
      refine x_get (q := 39) C 2 dX1_shortenWays_36 (oX1 y aT T4) rfl iuX1_shortenWays_X1 flX1_shortenWays_17 rfl (by decide) rfl rfl ?_
      refine x_iload_n (q := 40) C 2 dX1_shortenWays_39 rfl rfl rfl ?_
      obtain ⟨hb8, hf⟩ := gd_some hf
      refine x_aald (q := 41) C 2 dX1_shortenWays_40 (gX1_2 y aT T4) rfl rfl hb8 (if_pos (xin_lt hb8)) rfl ?_
      refine x_iload (q := 43) C 5 dX1_shortenWays_41 rfl rfl ?_
      obtain ⟨hb9, hf⟩ := gd_some hf
      refine x_iald (q := 44) C 0 dX1_shortenWays_43 (aX1_r2 y aT T4 (xin_lt hb8)) rfl hb9 rfl ?_
      refine x_iadd (q := 45) C dX1_shortenWays_44 rfl ?_
      obtain ⟨v10, ev10, hf⟩ := lt_elim hf
      refine x_topi ev10 ?_
      refine x_istore (q := 47) C [1, 2, 3, 4, 5, 6, 0] [(0, .ref (aT 0)), (1, .int p1), (2, .int p2), (3, .int p3), (4, .int v1), (5, .int v3), (6, .int v10)] dX1_shortenWays_45 (by decide) rfl rfl ?_
      refine x_aload_n (q := 48) C 0 dX1_shortenWays_47 rfl rfl rfl ?_
      refine x_get (q := 51) C 2 dX1_shortenWays_48 (oX1 y aT T4) rfl iuX1_shortenWays_X1 flX1_shortenWays_17 rfl (by decide) rfl rfl ?_
      refine x_iload (q := 53) C 4 dX1_shortenWays_51 rfl rfl ?_
      refine x_aald (q := 54) C 2 dX1_shortenWays_53 (gX1_2 y aT T4) rfl rfl hb6 (if_pos (xin_lt hb6)) rfl ?_
      refine x_iload (q := 56) C 5 dX1_shortenWays_54 rfl rfl ?_
      refine x_aload_n (q := 57) C 0 dX1_shortenWays_56 rfl rfl rfl ?_
      refine x_get (q := 60) C 2 dX1_shortenWays_57 (oX1 y aT T4) rfl iuX1_shortenWays_X1 flX1_shortenWays_17 rfl (by decide) rfl rfl ?_
      refine x_iload (q := 62) C 4 dX1_shortenWays_60 rfl rfl ?_
      refine x_aald (q := 63) C 2 dX1_shortenWays_62 (gX1_2 y aT T4) rfl rfl hb6 (if_pos (xin_lt hb6)) rfl ?_
      refine x_iload (q := 65) C 5 dX1_shortenWays_63 rfl rfl ?_
      refine x_iald (q := 66) C 0 dX1_shortenWays_65 (aX1_r2 y aT T4 (xin_lt hb6)) rfl hb9 rfl ?_
      refine x_iload (q := 68) C 6 dX1_shortenWays_66 rfl rfl ?_
      refine x_mmin (q := 71) C dX1_shortenWays_68 kmX1_shortenWays_81 (Nat.le_of_ble_eq_true rfl) (Nat.le_of_ble_eq_true rfl) (Nat.le_of_ble_eq_true rfl) (Nat.le_of_ble_eq_true rfl) rfl ?_
      obtain ⟨T11, eT11, hf⟩ := lt_elim hf
      refine x_iast (q := 72) (ws' := tC y aT T11) C 0 dX1_shortenWays_71 (aX1_r2 y aT T4 (xin_lt hb6)) rfl hb9 (congrArg (fun z => tC y aT z) eT11.symm) rfl ?_
      refine x_iinc (q := 75) C 5 (v3 + 1) [1, 2, 3, 4, 5, 0] [(0, .ref (aT 0)), (1, .int p1), (2, .int p2), (3, .int p3), (4, .int v1), (5, .int (v3 + 1))] dX1_shortenWays_72 rfl (congrArg (fun z => v3 + z) ki_1) (by decide) rfl rfl ?_
      refine x_goto (t := 15) C dX1_shortenWays_75 (by decide) ?_
      exact ih (v3 + 1) T11 hf
set_option maxHeartbeats 4000000 in
set_option maxRecDepth 100000 in
theorem w1_shortenWays_L3 {p : Program} {l : Launch} {e : Env} {s : State} {m : MethodId} {args : Array Value} {below : List Frame} {meth : Method} {c : Code} {D : va_G} {A : Nat → Prop} {y : Nat → ClassId} {aT : Nat → Nat} {p1 : Int32} {p2 : Int32} {p3 : Int32} {T' : St} (C : xC p s m args meth c D A cX1_shortenWays RX1 7 wsX1_shortenWays (xT y) none) : ∀ (fu : Nat) (v1 : Int32) (T2 : St), f1_shortenWays_L3 p1 p2 p3 fu v1 T2 = some T' → xV p l e { frames := 1, cells := 0, slots := 0, locals := 48 } s m args below meth c D A (xQv D (xT y) A (fun (_ : Unit) => True) (fun _ : Unit => tC y aT T') 0 0 below args s) 7 (tC y aT T2) 0 0 [(0, .ref (aT 0)), (1, .int p1), (2, .int p2), (3, .int p3), (4, .int v1)] 3 [] := by
  intro fu
  induction fu with
  | zero => intro v1 T2 hf; rw [f1_shortenWays_L3] at hf; cases hf
  | succ fu ih =>
    intro v1 T2 hf
    rw [f1_shortenWays_L3] at hf
    refine x_iload (q := 5) C 4 dX1_shortenWays_3 rfl rfl ?_
    refine x_aload_n (q := 6) C 0 dX1_shortenWays_5 rfl rfl rfl ?_
    refine x_get (q := 9) C 0 dX1_shortenWays_6 (oX1 y aT T2) rfl iuX1_shortenWays_X1 flX1_shortenWays_53 rfl (by decide) rfl rfl ?_
    refine x_icmp_ge (t := 84) (q := 12) C dX1_shortenWays_9 (by decide) rfl (fun hc => ?_) (fun hc => ?_)
    · have hf := (if_pos hc).symm.trans hf
      have hf := Option.some.inj hf
      exact x_vret () C dX1_shortenWays_84 rfl trivial (congrArg (fun z => tC y aT z) hf) (Nat.le_of_ble_eq_true rfl) (Nat.le_of_ble_eq_true rfl)
    · have hf := (if_neg hc).symm.trans hf
      refine x_iconst (q := 13) C dX1_shortenWays_12 ki_0 rfl ?_
      refine x_istore (q := 15) C [1, 2, 3, 4, 5, 0] [(0, .ref (aT 0)), (1, .int p1), (2, .int p2), (3, .int p3), (4, .int v1), (5, .int 0)] dX1_shortenWays_13 (by decide) rfl rfl ?_
      refine w1_shortenWays_L15 C (fun T5 hf => ?_) xF 0 T2 hf
      refine x_iinc (q := 81) C 4 (v1 + 1) [1, 2, 3, 4, 0] [(0, .ref (aT 0)), (1, .int p1), (2, .int p2), (3, .int p3), (4, .int (v1 + 1))] dX1_shortenWays_78 rfl (congrArg (fun z => v1 + z) ki_1) (by decide) rfl rfl ?_
      refine x_goto (t := 3) C dX1_shortenWays_81 (by decide) ?_
      exact ih (v1 + 1) T5 hf
set_option maxHeartbeats 4000000 in
set_option maxRecDepth 100000 in
theorem c1_shortenWays {l : Launch} {D : va_G} {y : Nat → ClassId} {aT : Nat → Nat} {T : St} {p1 : Int32} {p2 : Int32} {p3 : Int32} {T' : St} (hf : f1_shortenWays T p1 p2 p3 = some T') : xMv l yX1_shortenWays wsX1_shortenWays 1 48 0 0 D (xT y) [.ref (aT 0), .int p1, .int p2, .int p3] (tC y aT T) (fun (_ : Unit) => True) (fun _ : Unit => tC y aT T') := by
  refine xMv_of (cc := cX1_shortenWays) (nL := 7) (ret := none) [(0, .ref (aT 0)), (1, .int p1), (2, .int p2), (3, .int p3)] (by decide) rfl (Nat.le_of_ble_eq_true rfl) rfl ?_
  intro p e s m args below meth c A C hin
  have C : xC p s m args meth c D A cX1_shortenWays RX1 7 wsX1_shortenWays (xT y) none := C
  unfold f1_shortenWays at hf
  refine x_iconst (q := 1) C dX1_shortenWays_0 ki_0 rfl ?_
  refine x_istore (q := 3) C [1, 2, 3, 4, 0] [(0, .ref (aT 0)), (1, .int p1), (2, .int p2), (3, .int p3), (4, .int 0)] dX1_shortenWays_1 (by decide) rfl rfl ?_
  exact w1_shortenWays_L3 C xF 0 T hf

/-! LampHills$Town.addStreet(III)I -/
theorem flX1_addStreet_20 : Cond.fieldLink RX1 20 "LampHills$Town" "firstEnd" "[I" ∈ wsX1_addStreet := by decide +kernel
theorem flX1_addStreet_23 : Cond.fieldLink RX1 23 "LampHills$Town" "secondEnd" "[I" ∈ wsX1_addStreet := by decide +kernel
theorem flX1_addStreet_26 : Cond.fieldLink RX1 26 "LampHills$Town" "length" "[I" ∈ wsX1_addStreet := by decide +kernel
theorem flX1_addStreet_58 : Cond.fieldLink RX1 58 "LampHills$Town" "streets" "I" ∈ wsX1_addStreet := by decide +kernel
theorem iuX1_addStreet_X1 : ∀ w ∈ u_ws RX1 TX1 17, w ∈ wsX1_addStreet := fun _ h => List.mem_cons_of_mem _ (List.mem_append_right _ h)
theorem yi_X1_minutesAlong : xY yX1_minutesAlong wsX1_minutesAlong cX1_minutesAlong 4 (some .int) 3 := ⟨⟨_, rfl⟩, by decide +kernel, by decide +kernel, by decide +kernel⟩
theorem yi_X1_shortenWays : xY yX1_shortenWays wsX1_shortenWays cX1_shortenWays 7 none 3 := ⟨⟨_, rfl⟩, by decide +kernel, by decide +kernel, by decide +kernel⟩
def f1_addStreet (T : St) (p1 : Int32) (p2 : Int32) (p3 : Int32) : Option (Int32 × St) :=
  lt_ (T 3 0) fun v1 =>
  gd (xin v1 18) <|
  lt_ (up2 T 4 v1.toNatClampNeg p1) fun T3 =>
  lt_ (up2 T3 5 v1.toNatClampNeg p2) fun T4 =>
  lt_ (up2 T4 6 v1.toNatClampNeg p3) fun T5 =>
  lt_ (up2 T5 3 0 ((T5 3 0) + 1)) fun T6 =>
  bd (f1_minutesAlong T6 p1 p2 p3) fun v7 =>
  bd (f1_shortenWays T6 p1 p2 v7) fun T10 =>
  bd (f1_minutesAlong T10 p2 p1 p3) fun v12 =>
  bd (f1_shortenWays T10 p2 p1 v12) fun T15 =>
  some (v1, T15)
set_option maxHeartbeats 4000000 in
set_option maxRecDepth 100000 in
theorem c1_addStreet {l : Launch} {D : va_G} {y : Nat → ClassId} {aT : Nat → Nat} {T : St} {p1 : Int32} {p2 : Int32} {p3 : Int32} {r : Int32} {T' : St} (hf : f1_addStreet T p1 p2 p3 = some (r, T')) : xMi l yX1_addStreet wsX1_addStreet 2 74 0 0 D (xT y) [.ref (aT 0), .int p1, .int p2, .int p3] (tC y aT T) (fun (r' : Int32) (_ : Unit) => r' = r) (fun _ : Unit => tC y aT T') := by
  refine xMi_of (cc := cX1_addStreet) (nL := 5) (ret := (some .int)) [(0, .ref (aT 0)), (1, .int p1), (2, .int p2), (3, .int p3)] (by decide) rfl (Nat.le_of_ble_eq_true rfl) rfl ?_
  intro p e s m args below meth c A C hin
  have C : xC p s m args meth c D A cX1_addStreet RX1 5 wsX1_addStreet (xT y) (some .int) := C
  unfold f1_addStreet at hf
  refine x_aload_n (q := 1) C 0 dX1_addStreet_0 rfl rfl rfl ?_
  refine x_get (q := 4) C 3 dX1_addStreet_1 (oX1 y aT T) rfl iuX1_addStreet_X1 flX1_addStreet_58 rfl (by decide) rfl rfl ?_
  obtain ⟨v1, ev1, hf⟩ := lt_elim hf
  refine x_topi ev1 ?_
  refine x_istore (q := 6) C [1, 2, 3, 4, 0] [(0, .ref (aT 0)), (1, .int p1), (2, .int p2), (3, .int p3), (4, .int v1)] dX1_addStreet_4 (by decide) rfl rfl ?_
  refine x_aload_n (q := 7) C 0 dX1_addStreet_6 rfl rfl rfl ?_
  refine x_get (q := 10) C 4 dX1_addStreet_7 (oX1 y aT T) rfl iuX1_addStreet_X1 flX1_addStreet_20 rfl (by decide) rfl rfl ?_
  refine x_iload (q := 12) C 4 dX1_addStreet_10 rfl rfl ?_
  refine x_iload_n (q := 13) C 1 dX1_addStreet_12 rfl rfl rfl ?_
  obtain ⟨hb2, hf⟩ := gd_some hf
  obtain ⟨T3, eT3, hf⟩ := lt_elim hf
  refine x_iast (q := 14) (ws' := tC y aT T3) C 0 dX1_addStreet_13 (aX1_4 y aT T) rfl hb2 (congrArg (fun z => tC y aT z) eT3.symm) rfl ?_
  refine x_aload_n (q := 15) C 0 dX1_addStreet_14 rfl rfl rfl ?_
  refine x_get (q := 18) C 5 dX1_addStreet_15 (oX1 y aT T3) rfl iuX1_addStreet_X1 flX1_addStreet_23 rfl (by decide) rfl rfl ?_
  refine x_iload (q := 20) C 4 dX1_addStreet_18 rfl rfl ?_
  refine x_iload_n (q := 21) C 2 dX1_addStreet_20 rfl rfl rfl ?_
  obtain ⟨T4, eT4, hf⟩ := lt_elim hf
  refine x_iast (q := 22) (ws' := tC y aT T4) C 0 dX1_addStreet_21 (aX1_5 y aT T3) rfl hb2 (congrArg (fun z => tC y aT z) eT4.symm) rfl ?_
  refine x_aload_n (q := 23) C 0 dX1_addStreet_22 rfl rfl rfl ?_
  refine x_get (q := 26) C 6 dX1_addStreet_23 (oX1 y aT T4) rfl iuX1_addStreet_X1 flX1_addStreet_26 rfl (by decide) rfl rfl ?_
  refine x_iload (q := 28) C 4 dX1_addStreet_26 rfl rfl ?_
  refine x_iload_n (q := 29) C 3 dX1_addStreet_28 rfl rfl rfl ?_
  obtain ⟨T5, eT5, hf⟩ := lt_elim hf
  refine x_iast (q := 30) (ws' := tC y aT T5) C 0 dX1_addStreet_29 (aX1_6 y aT T4) rfl hb2 (congrArg (fun z => tC y aT z) eT5.symm) rfl ?_
  refine x_aload_n (q := 31) C 0 dX1_addStreet_30 rfl rfl rfl ?_
  refine x_dup (q := 32) C dX1_addStreet_31 rfl rfl ?_
  refine x_get (q := 35) C 3 dX1_addStreet_32 (oX1 y aT T5) rfl iuX1_addStreet_X1 flX1_addStreet_58 rfl (by decide) rfl rfl ?_
  refine x_iconst (q := 36) C dX1_addStreet_35 ki_1 rfl ?_
  refine x_iadd (q := 37) C dX1_addStreet_36 rfl ?_
  obtain ⟨T6, eT6, hf⟩ := lt_elim hf
  refine x_puti (q := 40) (ws' := tC y aT T6) C tyX1 tyX1_ok nmX1 dX1_addStreet_37 (iX1_3 y aT T5) rfl iuX1_addStreet_X1 flX1_addStreet_58 rfl (by decide) rfl rfl (congrArg (fun z => tC y aT z) eT6.symm) rfl ?_
  refine x_aload_n (q := 41) C 0 dX1_addStreet_40 rfl rfl rfl ?_
  refine x_iload_n (q := 42) C 1 dX1_addStreet_41 rfl rfl rfl ?_
  refine x_iload_n (q := 43) C 2 dX1_addStreet_42 rfl rfl rfl ?_
  refine x_aload_n (q := 44) C 0 dX1_addStreet_43 rfl rfl rfl ?_
  refine x_iload_n (q := 45) C 1 dX1_addStreet_44 rfl rfl rfl ?_
  refine x_iload_n (q := 46) C 2 dX1_addStreet_45 rfl rfl rfl ?_
  refine x_iload_n (q := 47) C 3 dX1_addStreet_46 rfl rfl rfl ?_
  obtain ⟨v7, hcal8, hf⟩ := bd_some hf
  refine x_callVi (q := 50) C (c1_minutesAlong (l := l) (D := D) (y := y) (aT := aT) hcal8) yi_X1_minutesAlong gX1_addStreet_X1_minutesAlong rfl (oX1 y aT T6) rfl ⟨(Nat.le_of_ble_eq_true rfl), (Nat.le_of_ble_eq_true rfl)⟩ dX1_addStreet_47 pm_nil rfl rfl (Nat.le_of_ble_eq_true rfl) ⟨(Nat.le_of_ble_eq_true rfl), (Nat.le_of_ble_eq_true rfl)⟩ rfl ?_
  intro rr9 uu hrr
  have hrr : v7 = rr9 := Eq.symm hrr
  subst hrr
  refine x_world (ws' := tC y aT T6) (List.append_nil _) ?_
  obtain ⟨T10, hcal11, hf⟩ := bd_some hf
  refine x_callVv (q := 53) C (c1_shortenWays (l := l) (D := D) (y := y) (aT := aT) hcal11) yi_X1_shortenWays gX1_addStreet_X1_shortenWays rfl (oX1 y aT T6) rfl ⟨(Nat.le_of_ble_eq_true rfl), (Nat.le_of_ble_eq_true rfl)⟩ dX1_addStreet_50 pm_nil rfl rfl (Nat.le_of_ble_eq_true rfl) ⟨(Nat.le_of_ble_eq_true rfl), (Nat.le_of_ble_eq_true rfl)⟩ rfl ?_
  intro uu hrr
  refine x_world (ws' := tC y aT T10) (List.append_nil _) ?_
  refine x_aload_n (q := 54) C 0 dX1_addStreet_53 rfl rfl rfl ?_
  refine x_iload_n (q := 55) C 2 dX1_addStreet_54 rfl rfl rfl ?_
  refine x_iload_n (q := 56) C 1 dX1_addStreet_55 rfl rfl rfl ?_
  refine x_aload_n (q := 57) C 0 dX1_addStreet_56 rfl rfl rfl ?_
  refine x_iload_n (q := 58) C 2 dX1_addStreet_57 rfl rfl rfl ?_
  refine x_iload_n (q := 59) C 1 dX1_addStreet_58 rfl rfl rfl ?_
  refine x_iload_n (q := 60) C 3 dX1_addStreet_59 rfl rfl rfl ?_
  obtain ⟨v12, hcal13, hf⟩ := bd_some hf
  refine x_callVi (q := 63) C (c1_minutesAlong (l := l) (D := D) (y := y) (aT := aT) hcal13) yi_X1_minutesAlong gX1_addStreet_X1_minutesAlong rfl (oX1 y aT T10) rfl ⟨(Nat.le_of_ble_eq_true rfl), (Nat.le_of_ble_eq_true rfl)⟩ dX1_addStreet_60 pm_nil rfl rfl (Nat.le_of_ble_eq_true rfl) ⟨(Nat.le_of_ble_eq_true rfl), (Nat.le_of_ble_eq_true rfl)⟩ rfl ?_
  intro rr14 uu hrr
  have hrr : v12 = rr14 := Eq.symm hrr
  subst hrr
  refine x_world (ws' := tC y aT T10) (List.append_nil _) ?_
  obtain ⟨T15, hcal16, hf⟩ := bd_some hf
  refine x_callVv (q := 66) C (c1_shortenWays (l := l) (D := D) (y := y) (aT := aT) hcal16) yi_X1_shortenWays gX1_addStreet_X1_shortenWays rfl (oX1 y aT T10) rfl ⟨(Nat.le_of_ble_eq_true rfl), (Nat.le_of_ble_eq_true rfl)⟩ dX1_addStreet_63 pm_nil rfl rfl (Nat.le_of_ble_eq_true rfl) ⟨(Nat.le_of_ble_eq_true rfl), (Nat.le_of_ble_eq_true rfl)⟩ rfl ?_
  intro uu hrr
  refine x_world (ws' := tC y aT T15) (List.append_nil _) ?_
  refine x_iload (q := 68) C 4 dX1_addStreet_66 rfl rfl ?_
  have hf := Option.some.inj hf
  obtain ⟨hr0, hr1⟩ := Prod.mk.inj hf
  exact x_iret () C dX1_addStreet_68 rfl hr0 (congrArg (fun z => tC y aT z) hr1) (Nat.le_of_ble_eq_true rfl) (Nat.le_of_ble_eq_true rfl)

/-! LampHills$Town.addLamp(II)I -/
theorem flX1_addLamp_29 : Cond.fieldLink RX1 29 "LampHills$Town" "lampStreet" "[I" ∈ wsX1_addLamp := by decide +kernel
theorem flX1_addLamp_32 : Cond.fieldLink RX1 32 "LampHills$Town" "lampHeight" "[I" ∈ wsX1_addLamp := by decide +kernel
theorem flX1_addLamp_69 : Cond.fieldLink RX1 69 "LampHills$Town" "lamps" "I" ∈ wsX1_addLamp := by decide +kernel
theorem iuX1_addLamp_X1 : ∀ w ∈ u_ws RX1 TX1 17, w ∈ wsX1_addLamp := fun _ h => List.mem_cons_of_mem _ (List.mem_append_right _ h)
def f1_addLamp (T : St) (p1 : Int32) (p2 : Int32) : Option (Int32 × St) :=
  lt_ (T 7 0) fun v1 =>
  gd (xin v1 20) <|
  lt_ (up2 T 8 v1.toNatClampNeg p1) fun T3 =>
  lt_ (up2 T3 9 v1.toNatClampNeg p2) fun T4 =>
  lt_ (up2 T4 7 0 ((T4 7 0) + 1)) fun T5 =>
  some (v1, T5)
set_option maxHeartbeats 4000000 in
set_option maxRecDepth 100000 in
theorem c1_addLamp {l : Launch} {D : va_G} {y : Nat → ClassId} {aT : Nat → Nat} {T : St} {p1 : Int32} {p2 : Int32} {r : Int32} {T' : St} (hf : f1_addLamp T p1 p2 = some (r, T')) : xMi l yX1_addLamp wsX1_addLamp 0 0 0 0 D (xT y) [.ref (aT 0), .int p1, .int p2] (tC y aT T) (fun (r' : Int32) (_ : Unit) => r' = r) (fun _ : Unit => tC y aT T') := by
  refine xMi_of (cc := cX1_addLamp) (nL := 4) (ret := (some .int)) [(0, .ref (aT 0)), (1, .int p1), (2, .int p2)] (by decide) rfl (Nat.le_of_ble_eq_true rfl) rfl ?_
  intro p e s m args below meth c A C hin
  have C : xC p s m args meth c D A cX1_addLamp RX1 4 wsX1_addLamp (xT y) (some .int) := C
  unfold f1_addLamp at hf
  refine x_aload_n (q := 1) C 0 dX1_addLamp_0 rfl rfl rfl ?_
  refine x_get (q := 4) C 7 dX1_addLamp_1 (oX1 y aT T) rfl iuX1_addLamp_X1 flX1_addLamp_69 rfl (by decide) rfl rfl ?_
  obtain ⟨v1, ev1, hf⟩ := lt_elim hf
  refine x_topi ev1 ?_
  refine x_istore_n (q := 5) C [1, 2, 3, 0] [(0, .ref (aT 0)), (1, .int p1), (2, .int p2), (3, .int v1)] dX1_addLamp_4 rfl (by decide) rfl rfl ?_
  refine x_aload_n (q := 6) C 0 dX1_addLamp_5 rfl rfl rfl ?_
  refine x_get (q := 9) C 8 dX1_addLamp_6 (oX1 y aT T) rfl iuX1_addLamp_X1 flX1_addLamp_29 rfl (by decide) rfl rfl ?_
  refine x_iload_n (q := 10) C 3 dX1_addLamp_9 rfl rfl rfl ?_
  refine x_iload_n (q := 11) C 1 dX1_addLamp_10 rfl rfl rfl ?_
  obtain ⟨hb2, hf⟩ := gd_some hf
  obtain ⟨T3, eT3, hf⟩ := lt_elim hf
  refine x_iast (q := 12) (ws' := tC y aT T3) C 0 dX1_addLamp_11 (aX1_8 y aT T) rfl hb2 (congrArg (fun z => tC y aT z) eT3.symm) rfl ?_
  refine x_aload_n (q := 13) C 0 dX1_addLamp_12 rfl rfl rfl ?_
  refine x_get (q := 16) C 9 dX1_addLamp_13 (oX1 y aT T3) rfl iuX1_addLamp_X1 flX1_addLamp_32 rfl (by decide) rfl rfl ?_
  refine x_iload_n (q := 17) C 3 dX1_addLamp_16 rfl rfl rfl ?_
  refine x_iload_n (q := 18) C 2 dX1_addLamp_17 rfl rfl rfl ?_
  obtain ⟨T4, eT4, hf⟩ := lt_elim hf
  refine x_iast (q := 19) (ws' := tC y aT T4) C 0 dX1_addLamp_18 (aX1_9 y aT T3) rfl hb2 (congrArg (fun z => tC y aT z) eT4.symm) rfl ?_
  refine x_aload_n (q := 20) C 0 dX1_addLamp_19 rfl rfl rfl ?_
  refine x_dup (q := 21) C dX1_addLamp_20 rfl rfl ?_
  refine x_get (q := 24) C 7 dX1_addLamp_21 (oX1 y aT T4) rfl iuX1_addLamp_X1 flX1_addLamp_69 rfl (by decide) rfl rfl ?_
  refine x_iconst (q := 25) C dX1_addLamp_24 ki_1 rfl ?_
  refine x_iadd (q := 26) C dX1_addLamp_25 rfl ?_
  obtain ⟨T5, eT5, hf⟩ := lt_elim hf
  refine x_puti (q := 29) (ws' := tC y aT T5) C tyX1 tyX1_ok nmX1 dX1_addLamp_26 (iX1_7 y aT T4) rfl iuX1_addLamp_X1 flX1_addLamp_69 rfl (by decide) rfl rfl (congrArg (fun z => tC y aT z) eT5.symm) rfl ?_
  refine x_iload_n (q := 30) C 3 dX1_addLamp_29 rfl rfl rfl ?_
  have hf := Option.some.inj hf
  obtain ⟨hr0, hr1⟩ := Prod.mk.inj hf
  exact x_iret () C dX1_addLamp_30 rfl hr0 (congrArg (fun z => tC y aT z) hr1) (Nat.le_of_ble_eq_true rfl) (Nat.le_of_ble_eq_true rfl)

/-! LampHills$Town.addLighter(II)I -/
theorem flX1_addLighter_41 : Cond.fieldLink RX1 41 "LampHills$Town" "home" "[I" ∈ wsX1_addLighter := by decide +kernel
theorem flX1_addLighter_44 : Cond.fieldLink RX1 44 "LampHills$Town" "ladder" "[I" ∈ wsX1_addLighter := by decide +kernel
theorem flX1_addLighter_72 : Cond.fieldLink RX1 72 "LampHills$Town" "lighters" "I" ∈ wsX1_addLighter := by decide +kernel
theorem iuX1_addLighter_X1 : ∀ w ∈ u_ws RX1 TX1 17, w ∈ wsX1_addLighter := fun _ h => List.mem_cons_of_mem _ (List.mem_append_right _ h)
def f1_addLighter (T : St) (p1 : Int32) (p2 : Int32) : Option (Int32 × St) :=
  lt_ (T 12 0) fun v1 =>
  gd (xin v1 4) <|
  lt_ (up2 T 13 v1.toNatClampNeg p1) fun T3 =>
  lt_ (up2 T3 14 v1.toNatClampNeg p2) fun T4 =>
  lt_ (up2 T4 12 0 ((T4 12 0) + 1)) fun T5 =>
  some (v1, T5)
set_option maxHeartbeats 4000000 in
set_option maxRecDepth 100000 in
theorem c1_addLighter {l : Launch} {D : va_G} {y : Nat → ClassId} {aT : Nat → Nat} {T : St} {p1 : Int32} {p2 : Int32} {r : Int32} {T' : St} (hf : f1_addLighter T p1 p2 = some (r, T')) : xMi l yX1_addLighter wsX1_addLighter 0 0 0 0 D (xT y) [.ref (aT 0), .int p1, .int p2] (tC y aT T) (fun (r' : Int32) (_ : Unit) => r' = r) (fun _ : Unit => tC y aT T') := by
  refine xMi_of (cc := cX1_addLighter) (nL := 4) (ret := (some .int)) [(0, .ref (aT 0)), (1, .int p1), (2, .int p2)] (by decide) rfl (Nat.le_of_ble_eq_true rfl) rfl ?_
  intro p e s m args below meth c A C hin
  have C : xC p s m args meth c D A cX1_addLighter RX1 4 wsX1_addLighter (xT y) (some .int) := C
  unfold f1_addLighter at hf
  refine x_aload_n (q := 1) C 0 dX1_addLighter_0 rfl rfl rfl ?_
  refine x_get (q := 4) C 12 dX1_addLighter_1 (oX1 y aT T) rfl iuX1_addLighter_X1 flX1_addLighter_72 rfl (by decide) rfl rfl ?_
  obtain ⟨v1, ev1, hf⟩ := lt_elim hf
  refine x_topi ev1 ?_
  refine x_istore_n (q := 5) C [1, 2, 3, 0] [(0, .ref (aT 0)), (1, .int p1), (2, .int p2), (3, .int v1)] dX1_addLighter_4 rfl (by decide) rfl rfl ?_
  refine x_aload_n (q := 6) C 0 dX1_addLighter_5 rfl rfl rfl ?_
  refine x_get (q := 9) C 13 dX1_addLighter_6 (oX1 y aT T) rfl iuX1_addLighter_X1 flX1_addLighter_41 rfl (by decide) rfl rfl ?_
  refine x_iload_n (q := 10) C 3 dX1_addLighter_9 rfl rfl rfl ?_
  refine x_iload_n (q := 11) C 1 dX1_addLighter_10 rfl rfl rfl ?_
  obtain ⟨hb2, hf⟩ := gd_some hf
  obtain ⟨T3, eT3, hf⟩ := lt_elim hf
  refine x_iast (q := 12) (ws' := tC y aT T3) C 0 dX1_addLighter_11 (aX1_13 y aT T) rfl hb2 (congrArg (fun z => tC y aT z) eT3.symm) rfl ?_
  refine x_aload_n (q := 13) C 0 dX1_addLighter_12 rfl rfl rfl ?_
  refine x_get (q := 16) C 14 dX1_addLighter_13 (oX1 y aT T3) rfl iuX1_addLighter_X1 flX1_addLighter_44 rfl (by decide) rfl rfl ?_
  refine x_iload_n (q := 17) C 3 dX1_addLighter_16 rfl rfl rfl ?_
  refine x_iload_n (q := 18) C 2 dX1_addLighter_17 rfl rfl rfl ?_
  obtain ⟨T4, eT4, hf⟩ := lt_elim hf
  refine x_iast (q := 19) (ws' := tC y aT T4) C 0 dX1_addLighter_18 (aX1_14 y aT T3) rfl hb2 (congrArg (fun z => tC y aT z) eT4.symm) rfl ?_
  refine x_aload_n (q := 20) C 0 dX1_addLighter_19 rfl rfl rfl ?_
  refine x_dup (q := 21) C dX1_addLighter_20 rfl rfl ?_
  refine x_get (q := 24) C 12 dX1_addLighter_21 (oX1 y aT T4) rfl iuX1_addLighter_X1 flX1_addLighter_72 rfl (by decide) rfl rfl ?_
  refine x_iconst (q := 25) C dX1_addLighter_24 ki_1 rfl ?_
  refine x_iadd (q := 26) C dX1_addLighter_25 rfl ?_
  obtain ⟨T5, eT5, hf⟩ := lt_elim hf
  refine x_puti (q := 29) (ws' := tC y aT T5) C tyX1 tyX1_ok nmX1 dX1_addLighter_26 (iX1_12 y aT T4) rfl iuX1_addLighter_X1 flX1_addLighter_72 rfl (by decide) rfl rfl (congrArg (fun z => tC y aT z) eT5.symm) rfl ?_
  refine x_iload_n (q := 30) C 3 dX1_addLighter_29 rfl rfl rfl ?_
  have hf := Option.some.inj hf
  obtain ⟨hr0, hr1⟩ := Prod.mk.inj hf
  exact x_iret () C dX1_addLighter_30 rfl hr0 (congrArg (fun z => tC y aT z) hr1) (Nat.le_of_ble_eq_true rfl) (Nat.le_of_ble_eq_true rfl)

/-! LampHills$Town.addToRound(II)I -/
theorem flX1_addToRound_47 : Cond.fieldLink RX1 47 "LampHills$Town" "roundSize" "[I" ∈ wsX1_addToRound := by decide +kernel
theorem flX1_addToRound_50 : Cond.fieldLink RX1 50 "LampHills$Town" "rounds" "[[I" ∈ wsX1_addToRound := by decide +kernel
theorem iuX1_addToRound_X1 : ∀ w ∈ u_ws RX1 TX1 17, w ∈ wsX1_addToRound := fun _ h => List.mem_cons_of_mem _ (List.mem_append_right _ h)
def f1_addToRound (T : St) (p1 : Int32) (p2 : Int32) : Option (Int32 × St) :=
  gd (xin p1 4) <|
  gd (xin (T 15 p1.toNatClampNeg) 10) <|
  lt_ (up2 T (200 + p1.toNatClampNeg) (T 15 p1.toNatClampNeg).toNatClampNeg p2) fun T3 =>
  lt_ (up2 T3 15 p1.toNatClampNeg ((T3 15 p1.toNatClampNeg) + 1)) fun T4 =>
  some ((T4 15 p1.toNatClampNeg), T4)
set_option maxHeartbeats 4000000 in
set_option maxRecDepth 100000 in
theorem c1_addToRound {l : Launch} {D : va_G} {y : Nat → ClassId} {aT : Nat → Nat} {T : St} {p1 : Int32} {p2 : Int32} {r : Int32} {T' : St} (hf : f1_addToRound T p1 p2 = some (r, T')) : xMi l yX1_addToRound wsX1_addToRound 0 0 0 0 D (xT y) [.ref (aT 0), .int p1, .int p2] (tC y aT T) (fun (r' : Int32) (_ : Unit) => r' = r) (fun _ : Unit => tC y aT T') := by
  refine xMi_of (cc := cX1_addToRound) (nL := 3) (ret := (some .int)) [(0, .ref (aT 0)), (1, .int p1), (2, .int p2)] (by decide) rfl (Nat.le_of_ble_eq_true rfl) rfl ?_
  intro p e s m args below meth c A C hin
  have C : xC p s m args meth c D A cX1_addToRound RX1 3 wsX1_addToRound (xT y) (some .int) := C
  unfold f1_addToRound at hf
  refine x_aload_n (q := 1) C 0 dX1_addToRound_0 rfl rfl rfl ?_
  refine x_get (q := 4) C 16 dX1_addToRound_1 (oX1 y aT T) rfl iuX1_addToRound_X1 flX1_addToRound_50 rfl (by decide) rfl rfl ?_
  refine x_iload_n (q := 5) C 1 dX1_addToRound_4 rfl rfl rfl ?_
  obtain ⟨hb1, hf⟩ := gd_some hf
  refine x_aald (q := 6) C 2 dX1_addToRound_5 (gX1_16 y aT T) rfl rfl hb1 (if_pos (xin_lt hb1)) rfl ?_
  refine x_aload_n (q := 7) C 0 dX1_addToRound_6 rfl rfl rfl ?_
  refine x_get (q := 10) C 15 dX1_addToRound_7 (oX1 y aT T) rfl iuX1_addToRound_X1 flX1_addToRound_47 rfl (by decide) rfl rfl ?_
  refine x_iload_n (q := 11) C 1 dX1_addToRound_10 rfl rfl rfl ?_
  refine x_iald (q := 12) C 0 dX1_addToRound_11 (aX1_15 y aT T) rfl hb1 rfl ?_
  refine x_iload_n (q := 13) C 2 dX1_addToRound_12 rfl rfl rfl ?_
  obtain ⟨hb2, hf⟩ := gd_some hf
  obtain ⟨T3, eT3, hf⟩ := lt_elim hf
  refine x_iast (q := 14) (ws' := tC y aT T3) C 0 dX1_addToRound_13 (aX1_r16 y aT T (xin_lt hb1)) rfl hb2 (congrArg (fun z => tC y aT z) eT3.symm) rfl ?_
  refine x_aload_n (q := 15) C 0 dX1_addToRound_14 rfl rfl rfl ?_
  refine x_get (q := 18) C 15 dX1_addToRound_15 (oX1 y aT T3) rfl iuX1_addToRound_X1 flX1_addToRound_47 rfl (by decide) rfl rfl ?_
  refine x_iload_n (q := 19) C 1 dX1_addToRound_18 rfl rfl rfl ?_
  refine x_dup2 (q := 20) C dX1_addToRound_19 rfl rfl rfl ?_
  refine x_iald (q := 21) C 0 dX1_addToRound_20 (aX1_15 y aT T3) rfl hb1 rfl ?_
  refine x_iconst (q := 22) C dX1_addToRound_21 ki_1 rfl ?_
  refine x_iadd (q := 23) C dX1_addToRound_22 rfl ?_
  obtain ⟨T4, eT4, hf⟩ := lt_elim hf
  refine x_iast (q := 24) (ws' := tC y aT T4) C 0 dX1_addToRound_23 (aX1_15 y aT T3) rfl hb1 (congrArg (fun z => tC y aT z) eT4.symm) rfl ?_
  refine x_aload_n (q := 25) C 0 dX1_addToRound_24 rfl rfl rfl ?_
  refine x_get (q := 28) C 15 dX1_addToRound_25 (oX1 y aT T4) rfl iuX1_addToRound_X1 flX1_addToRound_47 rfl (by decide) rfl rfl ?_
  refine x_iload_n (q := 29) C 1 dX1_addToRound_28 rfl rfl rfl ?_
  refine x_iald (q := 30) C 0 dX1_addToRound_29 (aX1_15 y aT T4) rfl hb1 rfl ?_
  have hf := Option.some.inj hf
  obtain ⟨hr0, hr1⟩ := Prod.mk.inj hf
  exact x_iret () C dX1_addToRound_30 rfl hr0 (congrArg (fun z => tC y aT z) hr1) (Nat.le_of_ble_eq_true rfl) (Nat.le_of_ble_eq_true rfl)

/-! LampHills$Town.isInRound(II)Z -/
theorem flX1_isInRound_47 : Cond.fieldLink RX1 47 "LampHills$Town" "roundSize" "[I" ∈ wsX1_isInRound := by decide +kernel
theorem flX1_isInRound_50 : Cond.fieldLink RX1 50 "LampHills$Town" "rounds" "[[I" ∈ wsX1_isInRound := by decide +kernel
theorem iuX1_isInRound_X1 : ∀ w ∈ u_ws RX1 TX1 17, w ∈ wsX1_isInRound := fun _ h => List.mem_cons_of_mem _ (List.mem_append_right _ h)
def f1_isInRound_L2 (p1 : Int32) (p2 : Int32) (T : St) : Nat → Int32 → Option (Int32)
  | 0, _ => none
  | fu + 1, v1 =>
  gd (xin p1 4) <|
  if (T 15 p1.toNatClampNeg) ≤ v1 then
  (
    some 0
  )
  else
  (
    gd (xin v1 10) <|
    if (T (200 + p1.toNatClampNeg) v1.toNatClampNeg) = p2 then
    (
      some 1
    )
    else
    (
      f1_isInRound_L2 p1 p2 T fu (v1 + 1)
    )
  )
def f1_isInRound (T : St) (p1 : Int32) (p2 : Int32) : Option (Int32) :=
  f1_isInRound_L2 p1 p2 T xF 0
set_option maxHeartbeats 4000000 in
set_option maxRecDepth 100000 in
theorem w1_isInRound_L2 {p : Program} {l : Launch} {e : Env} {s : State} {m : MethodId} {args : Array Value} {below : List Frame} {meth : Method} {c : Code} {D : va_G} {A : Nat → Prop} {y : Nat → ClassId} {aT : Nat → Nat} {T : St} {p1 : Int32} {p2 : Int32} {r : Int32} (C : xC p s m args meth c D A cX1_isInRound RX1 4 wsX1_isInRound (xT y) (some .boolean)) : ∀ (fu : Nat) (v1 : Int32), f1_isInRound_L2 p1 p2 T fu v1 = some r → xV p l e { frames := 0, cells := 0, slots := 0, locals := 0 } s m args below meth c D A (xQi D (xT y) A (fun (r' : Int32) (_ : Unit) => r' = r) (fun _ : Unit => tC y aT T) 0 0 below args s) 4 (tC y aT T) 0 0 [(0, .ref (aT 0)), (1, .int p1), (2, .int p2), (3, .int v1)] 2 [] := by
  intro fu
  induction fu with
  | zero => intro v1 hf; rw [f1_isInRound_L2] at hf; cases hf
  | succ fu ih =>
    intro v1 hf
    rw [f1_isInRound_L2] at hf
    refine x_iload_n (q := 3) C 3 dX1_isInRound_2 rfl rfl rfl ?_
    refine x_aload_n (q := 4) C 0 dX1_isInRound_3 rfl rfl rfl ?_
    refine x_get (q := 7) C 15 dX1_isInRound_4 (oX1 y aT T) rfl iuX1_isInRound_X1 flX1_isInRound_47 rfl (by decide) rfl rfl ?_
    refine x_iload_n (q := 8) C 1 dX1_isInRound_7 rfl rfl rfl ?_
    obtain ⟨hb2, hf⟩ := gd_some hf
    refine x_iald (q := 9) C 0 dX1_isInRound_8 (aX1_15 y aT T) rfl hb2 rfl ?_
    refine x_icmp_ge (t := 32) (q := 12) C dX1_isInRound_9 (by decide) rfl (fun hc => ?_) (fun hc => ?_)
    · have hf := (if_pos hc).symm.trans hf
      refine x_iconst (q := 33) C dX1_isInRound_32 ki_0 rfl ?_
      have hf := Option.some.inj hf
      exact x_zret () C dX1_isInRound_33 rfl rfl hf rfl (Nat.le_of_ble_eq_true rfl) (Nat.le_of_ble_eq_true rfl)
    · have hf := (if_neg hc).symm.trans hf
      refine x_aload_n (q := 13) C 0 dX1_isInRound_12 rfl rfl rfl ?_
      refine x_get (q := 16) C 16 dX1_isInRound_13 (oX1 y aT T) rfl iuX1_isInRound_X1 flX1_isInRound_50 rfl (by decide) rfl rfl ?_
      refine x_iload_n (q := 17) C 1 dX1_isInRound_16 rfl rfl rfl ?_
      refine x_aald (q := 18) C 2 dX1_isInRound_17 (gX1_16 y aT T) rfl rfl hb2 (if_pos (xin_lt hb2)) rfl ?_
      refine x_iload_n (q := 19) C 3 dX1_isInRound_18 rfl rfl rfl ?_
      obtain ⟨hb3, hf⟩ := gd_some hf
      refine x_iald (q := 20) C 0 dX1_isInRound_19 (aX1_r16 y aT T (xin_lt hb2)) rfl hb3 rfl ?_
      refine x_iload_n (q := 21) C 2 dX1_isInRound_20 rfl rfl rfl ?_
      refine x_icmp_ne (t := 26) (q := 24) C dX1_isInRound_21 (by decide) rfl (fun hc => ?_) (fun hc => ?_)
      · have hf := (if_neg hc).symm.trans hf
        refine x_iinc (q := 29) C 3 (v1 + 1) [1, 2, 3, 0] [(0, .ref (aT 0)), (1, .int p1), (2, .int p2), (3, .int (v1 + 1))] dX1_isInRound_26 rfl (congrArg (fun z => v1 + z) ki_1) (by decide) rfl rfl ?_
        refine x_goto (t := 2) C dX1_isInRound_29 (by decide) ?_
        exact ih (v1 + 1) hf
      · have hf := (if_pos hc).symm.trans hf
        refine x_iconst (q := 25) C dX1_isInRound_24 ki_1 rfl ?_
        have hf := Option.some.inj hf
        exact x_zret () C dX1_isInRound_25 rfl rfl hf rfl (Nat.le_of_ble_eq_true rfl) (Nat.le_of_ble_eq_true rfl)
set_option maxHeartbeats 4000000 in
set_option maxRecDepth 100000 in
theorem c1_isInRound {l : Launch} {D : va_G} {y : Nat → ClassId} {aT : Nat → Nat} {T : St} {p1 : Int32} {p2 : Int32} {r : Int32} (hf : f1_isInRound T p1 p2 = some r) : xMi l yX1_isInRound wsX1_isInRound 0 0 0 0 D (xT y) [.ref (aT 0), .int p1, .int p2] (tC y aT T) (fun (r' : Int32) (_ : Unit) => r' = r) (fun _ : Unit => tC y aT T) := by
  refine xMi_of (cc := cX1_isInRound) (nL := 4) (ret := (some .boolean)) [(0, .ref (aT 0)), (1, .int p1), (2, .int p2)] (by decide) rfl (Nat.le_of_ble_eq_true rfl) rfl ?_
  intro p e s m args below meth c A C hin
  have C : xC p s m args meth c D A cX1_isInRound RX1 4 wsX1_isInRound (xT y) (some .boolean) := C
  unfold f1_isInRound at hf
  refine x_iconst (q := 1) C dX1_isInRound_0 ki_0 rfl ?_
  refine x_istore_n (q := 2) C [1, 2, 3, 0] [(0, .ref (aT 0)), (1, .int p1), (2, .int p2), (3, .int 0)] dX1_isInRound_1 rfl (by decide) rfl rfl ?_
  exact w1_isInRound_L2 C xF 0 hf

/-! LampHills$Town.nearerEnd(II)I -/
theorem flX1_nearerEnd_17 : Cond.fieldLink RX1 17 "LampHills$Town" "ways" "[[I" ∈ wsX1_nearerEnd := by decide +kernel
theorem flX1_nearerEnd_20 : Cond.fieldLink RX1 20 "LampHills$Town" "firstEnd" "[I" ∈ wsX1_nearerEnd := by decide +kernel
theorem flX1_nearerEnd_23 : Cond.fieldLink RX1 23 "LampHills$Town" "secondEnd" "[I" ∈ wsX1_nearerEnd := by decide +kernel
theorem flX1_nearerEnd_29 : Cond.fieldLink RX1 29 "LampHills$Town" "lampStreet" "[I" ∈ wsX1_nearerEnd := by decide +kernel
theorem iuX1_nearerEnd_X1 : ∀ w ∈ u_ws RX1 TX1 17, w ∈ wsX1_nearerEnd := fun _ h => List.mem_cons_of_mem _ (List.mem_append_right _ h)
def f1_nearerEnd (T : St) (p1 : Int32) (p2 : Int32) : Option (Int32) :=
  gd (xin p2 20) <|
  lt_ (T 8 p2.toNatClampNeg) fun v2 =>
  gd (xin v2 18) <|
  lt_ (T 4 v2.toNatClampNeg) fun v4 =>
  lt_ (T 5 v2.toNatClampNeg) fun v5 =>
  gd (xin p1 12) <|
  gd (xin v4 12) <|
  gd (xin v5 12) <|
  if (T (100 + p1.toNatClampNeg) v5.toNatClampNeg) < (T (100 + p1.toNatClampNeg) v4.toNatClampNeg) then
  (
    some v5
  )
  else
  (
    some v4
  )
set_option maxHeartbeats 4000000 in
set_option maxRecDepth 100000 in
theorem c1_nearerEnd {l : Launch} {D : va_G} {y : Nat → ClassId} {aT : Nat → Nat} {T : St} {p1 : Int32} {p2 : Int32} {r : Int32} (hf : f1_nearerEnd T p1 p2 = some r) : xMi l yX1_nearerEnd wsX1_nearerEnd 0 0 0 0 D (xT y) [.ref (aT 0), .int p1, .int p2] (tC y aT T) (fun (r' : Int32) (_ : Unit) => r' = r) (fun _ : Unit => tC y aT T) := by
  refine xMi_of (cc := cX1_nearerEnd) (nL := 6) (ret := (some .int)) [(0, .ref (aT 0)), (1, .int p1), (2, .int p2)] (by decide) rfl (Nat.le_of_ble_eq_true rfl) rfl ?_
  intro p e s m args below meth c A C hin
  have C : xC p s m args meth c D A cX1_nearerEnd RX1 6 wsX1_nearerEnd (xT y) (some .int) := C
  unfold f1_nearerEnd at hf
  refine x_aload_n (q := 1) C 0 dX1_nearerEnd_0 rfl rfl rfl ?_
  refine x_get (q := 4) C 8 dX1_nearerEnd_1 (oX1 y aT T) rfl iuX1_nearerEnd_X1 flX1_nearerEnd_29 rfl (by decide) rfl rfl ?_
  refine x_iload_n (q := 5) C 2 dX1_nearerEnd_4 rfl rfl rfl ?_
  obtain ⟨hb1, hf⟩ := gd_some hf
  refine x_iald (q := 6) C 0 dX1_nearerEnd_5 (aX1_8 y aT T) rfl hb1 rfl ?_
  obtain ⟨v2, ev2, hf⟩ := lt_elim hf
  refine x_topi ev2 ?_
  refine x_istore_n (q := 7) C [1, 2, 0] [(0, .ref (aT 0)), (1, .int p1), (3, .int v2)] dX1_nearerEnd_6 rfl (by decide) rfl rfl ?_
  refine x_aload_n (q := 8) C 0 dX1_nearerEnd_7 rfl rfl rfl ?_
  refine x_get (q := 11) C 4 dX1_nearerEnd_8 (oX1 y aT T) rfl iuX1_nearerEnd_X1 flX1_nearerEnd_20 rfl (by decide) rfl rfl ?_
  refine x_iload_n (q := 12) C 2 dX1_nearerEnd_11 rfl rfl rfl ?_
  obtain ⟨hb3, hf⟩ := gd_some hf
  refine x_iald (q := 13) C 0 dX1_nearerEnd_12 (aX1_4 y aT T) rfl hb3 rfl ?_
  obtain ⟨v4, ev4, hf⟩ := lt_elim hf
  refine x_topi ev4 ?_
  refine x_istore (q := 15) C [1, 2, 3, 0] [(0, .ref (aT 0)), (1, .int p1), (3, .int v2), (4, .int v4)] dX1_nearerEnd_13 (by decide) rfl rfl ?_
  refine x_aload_n (q := 16) C 0 dX1_nearerEnd_15 rfl rfl rfl ?_
  refine x_get (q := 19) C 5 dX1_nearerEnd_16 (oX1 y aT T) rfl iuX1_nearerEnd_X1 flX1_nearerEnd_23 rfl (by decide) rfl rfl ?_
  refine x_iload_n (q := 20) C 2 dX1_nearerEnd_19 rfl rfl rfl ?_
  refine x_iald (q := 21) C 0 dX1_nearerEnd_20 (aX1_5 y aT T) rfl hb3 rfl ?_
  obtain ⟨v5, ev5, hf⟩ := lt_elim hf
  refine x_topi ev5 ?_
  refine x_istore (q := 23) C [1, 2, 4, 0] [(0, .ref (aT 0)), (1, .int p1), (4, .int v4), (5, .int v5)] dX1_nearerEnd_21 (by decide) rfl rfl ?_
  refine x_aload_n (q := 24) C 0 dX1_nearerEnd_23 rfl rfl rfl ?_
  refine x_get (q := 27) C 2 dX1_nearerEnd_24 (oX1 y aT T) rfl iuX1_nearerEnd_X1 flX1_nearerEnd_17 rfl (by decide) rfl rfl ?_
  refine x_iload_n (q := 28) C 1 dX1_nearerEnd_27 rfl rfl rfl ?_
  obtain ⟨hb6, hf⟩ := gd_some hf
  refine x_aald (q := 29) C 2 dX1_nearerEnd_28 (gX1_2 y aT T) rfl rfl hb6 (if_pos (xin_lt hb6)) rfl ?_
  refine x_iload (q := 31) C 2 dX1_nearerEnd_29 rfl rfl ?_
  obtain ⟨hb7, hf⟩ := gd_some hf
  refine x_iald (q := 32) C 0 dX1_nearerEnd_31 (aX1_r2 y aT T (xin_lt hb6)) rfl hb7 rfl ?_
  refine x_aload_n (q := 33) C 0 dX1_nearerEnd_32 rfl rfl rfl ?_
  refine x_get (q := 36) C 2 dX1_nearerEnd_33 (oX1 y aT T) rfl iuX1_nearerEnd_X1 flX1_nearerEnd_17 rfl (by decide) rfl rfl ?_
  refine x_iload_n (q := 37) C 1 dX1_nearerEnd_36 rfl rfl rfl ?_
  refine x_aald (q := 38) C 2 dX1_nearerEnd_37 (gX1_2 y aT T) rfl rfl hb6 (if_pos (xin_lt hb6)) rfl ?_
  refine x_iload (q := 40) C 3 dX1_nearerEnd_38 rfl rfl ?_
  obtain ⟨hb8, hf⟩ := gd_some hf
  refine x_iald (q := 41) C 0 dX1_nearerEnd_40 (aX1_r2 y aT T (xin_lt hb6)) rfl hb8 rfl ?_
  refine x_icmp_gt (t := 49) (q := 44) C dX1_nearerEnd_41 (by decide) rfl (fun hc => ?_) (fun hc => ?_)
  · have hf := (if_pos hc).symm.trans hf
    refine x_iload (q := 51) C 3 dX1_nearerEnd_49 rfl rfl ?_
    have hf := Option.some.inj hf
    exact x_iret () C dX1_nearerEnd_51 rfl hf rfl (Nat.le_of_ble_eq_true rfl) (Nat.le_of_ble_eq_true rfl)
  · have hf := (if_neg hc).symm.trans hf
    refine x_iload (q := 46) C 2 dX1_nearerEnd_44 rfl rfl ?_
    refine x_goto (t := 51) C dX1_nearerEnd_46 (by decide) ?_
    have hf := Option.some.inj hf
    exact x_iret () C dX1_nearerEnd_51 rfl hf rfl (Nat.le_of_ble_eq_true rfl) (Nat.le_of_ble_eq_true rfl)

/-! LampHills$Town.canReach(III)Z -/
theorem kX1_canReach_57 : Cond.constant RX1 57 (1000000) ∈ wsX1_canReach := by decide +kernel
theorem flX1_canReach_17 : Cond.fieldLink RX1 17 "LampHills$Town" "ways" "[[I" ∈ wsX1_canReach := by decide +kernel
theorem flX1_canReach_32 : Cond.fieldLink RX1 32 "LampHills$Town" "lampHeight" "[I" ∈ wsX1_canReach := by decide +kernel
theorem flX1_canReach_44 : Cond.fieldLink RX1 44 "LampHills$Town" "ladder" "[I" ∈ wsX1_canReach := by decide +kernel
theorem iuX1_canReach_X1 : ∀ w ∈ u_ws RX1 TX1 17, w ∈ wsX1_canReach := fun _ h => List.mem_cons_of_mem _ (List.mem_append_right _ h)
theorem yi_X1_nearerEnd : xY yX1_nearerEnd wsX1_nearerEnd cX1_nearerEnd 6 (some .int) 2 := ⟨⟨_, rfl⟩, by decide +kernel, by decide +kernel, by decide +kernel⟩
def f1_canReach (T : St) (p1 : Int32) (p2 : Int32) (p3 : Int32) : Option (Int32) :=
  gd (xin p3 20) <|
  gd (xin p1 4) <|
  if ((T 14 p1.toNatClampNeg) + 2) < (T 9 p3.toNatClampNeg) then
  (
    some 0
  )
  else
  (
    gd (xin p2 12) <|
    bd (f1_nearerEnd T p2 p3) fun v4 =>
    gd (xin v4 12) <|
    if 1000000 ≤ (T (100 + p2.toNatClampNeg) v4.toNatClampNeg) then
    (
      some 0
    )
    else
    (
      some 1
    )
  )
set_option maxHeartbeats 4000000 in
set_option maxRecDepth 100000 in
theorem c1_canReach {l : Launch} {D : va_G} {y : Nat → ClassId} {aT : Nat → Nat} {T : St} {p1 : Int32} {p2 : Int32} {p3 : Int32} {r : Int32} (hf : f1_canReach T p1 p2 p3 = some r) : xMi l yX1_canReach wsX1_canReach 1 25 0 0 D (xT y) [.ref (aT 0), .int p1, .int p2, .int p3] (tC y aT T) (fun (r' : Int32) (_ : Unit) => r' = r) (fun _ : Unit => tC y aT T) := by
  refine xMi_of (cc := cX1_canReach) (nL := 4) (ret := (some .boolean)) [(0, .ref (aT 0)), (1, .int p1), (2, .int p2), (3, .int p3)] (by decide) rfl (Nat.le_of_ble_eq_true rfl) rfl ?_
  intro p e s m args below meth c A C hin
  have C : xC p s m args meth c D A cX1_canReach RX1 4 wsX1_canReach (xT y) (some .boolean) := C
  unfold f1_canReach at hf
  refine x_aload_n (q := 1) C 0 dX1_canReach_0 rfl rfl rfl ?_
  refine x_get (q := 4) C 9 dX1_canReach_1 (oX1 y aT T) rfl iuX1_canReach_X1 flX1_canReach_32 rfl (by decide) rfl rfl ?_
  refine x_iload_n (q := 5) C 3 dX1_canReach_4 rfl rfl rfl ?_
  obtain ⟨hb1, hf⟩ := gd_some hf
  refine x_iald (q := 6) C 0 dX1_canReach_5 (aX1_9 y aT T) rfl hb1 rfl ?_
  refine x_aload_n (q := 7) C 0 dX1_canReach_6 rfl rfl rfl ?_
  refine x_get (q := 10) C 14 dX1_canReach_7 (oX1 y aT T) rfl iuX1_canReach_X1 flX1_canReach_44 rfl (by decide) rfl rfl ?_
  refine x_iload_n (q := 11) C 1 dX1_canReach_10 rfl rfl rfl ?_
  obtain ⟨hb2, hf⟩ := gd_some hf
  refine x_iald (q := 12) C 0 dX1_canReach_11 (aX1_14 y aT T) rfl hb2 rfl ?_
  refine x_iconst (q := 13) C dX1_canReach_12 ki_2 rfl ?_
  refine x_iadd (q := 14) C dX1_canReach_13 rfl ?_
  refine x_icmp_gt (t := 39) (q := 17) C dX1_canReach_14 (by decide) rfl (fun hc => ?_) (fun hc => ?_)
  · have hf := (if_pos hc).symm.trans hf
    refine x_iconst (q := 40) C dX1_canReach_39 ki_0 rfl ?_
    have hf := Option.some.inj hf
    exact x_zret () C dX1_canReach_40 rfl rfl hf rfl (Nat.le_of_ble_eq_true rfl) (Nat.le_of_ble_eq_true rfl)
  · have hf := (if_neg hc).symm.trans hf
    refine x_aload_n (q := 18) C 0 dX1_canReach_17 rfl rfl rfl ?_
    refine x_get (q := 21) C 2 dX1_canReach_18 (oX1 y aT T) rfl iuX1_canReach_X1 flX1_canReach_17 rfl (by decide) rfl rfl ?_
    refine x_iload_n (q := 22) C 2 dX1_canReach_21 rfl rfl rfl ?_
    obtain ⟨hb3, hf⟩ := gd_some hf
    refine x_aald (q := 23) C 2 dX1_canReach_22 (gX1_2 y aT T) rfl rfl hb3 (if_pos (xin_lt hb3)) rfl ?_
    refine x_aload_n (q := 24) C 0 dX1_canReach_23 rfl rfl rfl ?_
    refine x_iload_n (q := 25) C 2 dX1_canReach_24 rfl rfl rfl ?_
    refine x_iload_n (q := 26) C 3 dX1_canReach_25 rfl rfl rfl ?_
    obtain ⟨v4, hcal5, hf⟩ := bd_some hf
    refine x_callVi (q := 29) C (c1_nearerEnd (l := l) (D := D) (y := y) (aT := aT) hcal5) yi_X1_nearerEnd gX1_canReach_X1_nearerEnd rfl (oX1 y aT T) rfl ⟨(Nat.le_of_ble_eq_true rfl), (Nat.le_of_ble_eq_true rfl)⟩ dX1_canReach_26 pm_nil rfl rfl (Nat.le_of_ble_eq_true rfl) ⟨(Nat.le_of_ble_eq_true rfl), (Nat.le_of_ble_eq_true rfl)⟩ rfl ?_
    intro rr6 uu hrr
    have hrr : v4 = rr6 := Eq.symm hrr
    subst hrr
    refine x_world (ws' := tC y aT T) (List.append_nil _) ?_
    obtain ⟨hb7, hf⟩ := gd_some hf
    refine x_iald (q := 30) C 0 dX1_canReach_29 (aX1_r2 y aT T (xin_lt hb3)) rfl hb7 rfl ?_
    refine x_ldc (q := 32) C dX1_canReach_30 kX1_canReach_57 rfl ?_
    refine x_icmp_ge (t := 39) (q := 35) C dX1_canReach_32 (by decide) rfl (fun hc => ?_) (fun hc => ?_)
    · have hf := (if_pos hc).symm.trans hf
      refine x_iconst (q := 40) C dX1_canReach_39 ki_0 rfl ?_
      have hf := Option.some.inj hf
      exact x_zret () C dX1_canReach_40 rfl rfl hf rfl (Nat.le_of_ble_eq_true rfl) (Nat.le_of_ble_eq_true rfl)
    · have hf := (if_neg hc).symm.trans hf
      refine x_iconst (q := 36) C dX1_canReach_35 ki_1 rfl ?_
      refine x_goto (t := 40) C dX1_canReach_36 (by decide) ?_
      have hf := Option.some.inj hf
      exact x_zret () C dX1_canReach_40 rfl rfl hf rfl (Nat.le_of_ble_eq_true rfl) (Nat.le_of_ble_eq_true rfl)

/-! LampHills$Town.windAtLamp(II)I -/
theorem kb_10 : (Int8.ofInt 10).toInt32 = 10 := by decide
theorem flX1_windAtLamp_20 : Cond.fieldLink RX1 20 "LampHills$Town" "firstEnd" "[I" ∈ wsX1_windAtLamp := by decide +kernel
theorem flX1_windAtLamp_23 : Cond.fieldLink RX1 23 "LampHills$Town" "secondEnd" "[I" ∈ wsX1_windAtLamp := by decide +kernel
theorem flX1_windAtLamp_29 : Cond.fieldLink RX1 29 "LampHills$Town" "lampStreet" "[I" ∈ wsX1_windAtLamp := by decide +kernel
theorem flX1_windAtLamp_9 : Cond.fieldLink RX1 9 "LampHills$Town" "height" "[I" ∈ wsX1_windAtLamp := by decide +kernel
theorem iuX1_windAtLamp_X1 : ∀ w ∈ u_ws RX1 TX1 17, w ∈ wsX1_windAtLamp := fun _ h => List.mem_cons_of_mem _ (List.mem_append_right _ h)
theorem kmX1_windAtLamp_75 : ∀ w ∈ ([.methodLink RX1 75 Lib.Math.max.name, .static Lib.Math.max.name, .initialized "java/lang/Math", .code Lib.Math.max.name Lib.Math.max.code 2 (some .int)] : List Cond), w ∈ wsX1_windAtLamp := by decide +kernel
def f1_windAtLamp (T : St) (p1 : Int32) (p2 : Int32) : Option (Int32) :=
  gd (xin p1 20) <|
  lt_ (T 8 p1.toNatClampNeg) fun v2 =>
  gd (xin v2 18) <|
  gd (xin (T 4 v2.toNatClampNeg) 12) <|
  gd (xin (T 5 v2.toNatClampNeg) 12) <|
  some (p2 + ((if (T 1 (T 4 v2.toNatClampNeg).toNatClampNeg) < (T 1 (T 5 v2.toNatClampNeg).toNatClampNeg) then (T 1 (T 5 v2.toNatClampNeg).toNatClampNeg) else (T 1 (T 4 v2.toNatClampNeg).toNatClampNeg)) / 10))
set_option maxHeartbeats 4000000 in
set_option maxRecDepth 100000 in
theorem c1_windAtLamp {l : Launch} {D : va_G} {y : Nat → ClassId} {aT : Nat → Nat} {T : St} {p1 : Int32} {p2 : Int32} {r : Int32} (hf : f1_windAtLamp T p1 p2 = some r) : xMi l yX1_windAtLamp wsX1_windAtLamp 1 48 0 0 D (xT y) [.ref (aT 0), .int p1, .int p2] (tC y aT T) (fun (r' : Int32) (_ : Unit) => r' = r) (fun _ : Unit => tC y aT T) := by
  refine xMi_of (cc := cX1_windAtLamp) (nL := 4) (ret := (some .int)) [(0, .ref (aT 0)), (1, .int p1), (2, .int p2)] (by decide) rfl (Nat.le_of_ble_eq_true rfl) rfl ?_
  intro p e s m args below meth c A C hin
  have C : xC p s m args meth c D A cX1_windAtLamp RX1 4 wsX1_windAtLamp (xT y) (some .int) := C
  unfold f1_windAtLamp at hf
  refine x_aload_n (q := 1) C 0 dX1_windAtLamp_0 rfl rfl rfl ?_
  refine x_get (q := 4) C 8 dX1_windAtLamp_1 (oX1 y aT T) rfl iuX1_windAtLamp_X1 flX1_windAtLamp_29 rfl (by decide) rfl rfl ?_
  refine x_iload_n (q := 5) C 1 dX1_windAtLamp_4 rfl rfl rfl ?_
  obtain ⟨hb1, hf⟩ := gd_some hf
  refine x_iald (q := 6) C 0 dX1_windAtLamp_5 (aX1_8 y aT T) rfl hb1 rfl ?_
  obtain ⟨v2, ev2, hf⟩ := lt_elim hf
  refine x_topi ev2 ?_
  refine x_istore_n (q := 7) C [1, 3, 0] [(0, .ref (aT 0)), (2, .int p2), (3, .int v2)] dX1_windAtLamp_6 rfl (by decide) rfl rfl ?_
  refine x_iload_n (q := 8) C 1 dX1_windAtLamp_7 rfl rfl rfl ?_
  refine x_aload_n (q := 9) C 0 dX1_windAtLamp_8 rfl rfl rfl ?_
  refine x_get (q := 12) C 1 dX1_windAtLamp_9 (oX1 y aT T) rfl iuX1_windAtLamp_X1 flX1_windAtLamp_9 rfl (by decide) rfl rfl ?_
  refine x_aload_n (q := 13) C 0 dX1_windAtLamp_12 rfl rfl rfl ?_
  refine x_get (q := 16) C 4 dX1_windAtLamp_13 (oX1 y aT T) rfl iuX1_windAtLamp_X1 flX1_windAtLamp_20 rfl (by decide) rfl rfl ?_
  refine x_iload_n (q := 17) C 2 dX1_windAtLamp_16 rfl rfl rfl ?_
  obtain ⟨hb3, hf⟩ := gd_some hf
  refine x_iald (q := 18) C 0 dX1_windAtLamp_17 (aX1_4 y aT T) rfl hb3 rfl ?_
  obtain ⟨hb4, hf⟩ := gd_some hf
  refine x_iald (q := 19) C 0 dX1_windAtLamp_18 (aX1_1 y aT T) rfl hb4 rfl ?_
  refine x_aload_n (q := 20) C 0 dX1_windAtLamp_19 rfl rfl rfl ?_
  refine x_get (q := 23) C 1 dX1_windAtLamp_20 (oX1 y aT T) rfl iuX1_windAtLamp_X1 flX1_windAtLamp_9 rfl (by decide) rfl rfl ?_
  refine x_aload_n (q := 24) C 0 dX1_windAtLamp_23 rfl rfl rfl ?_
  refine x_get (q := 27) C 5 dX1_windAtLamp_24 (oX1 y aT T) rfl iuX1_windAtLamp_X1 flX1_windAtLamp_23 rfl (by decide) rfl rfl ?_
  refine x_iload_n (q := 28) C 2 dX1_windAtLamp_27 rfl rfl rfl ?_
  refine x_iald (q := 29) C 0 dX1_windAtLamp_28 (aX1_5 y aT T) rfl hb3 rfl ?_
  obtain ⟨hb5, hf⟩ := gd_some hf
  refine x_iald (q := 30) C 0 dX1_windAtLamp_29 (aX1_1 y aT T) rfl hb5 rfl ?_
  refine x_mmax (q := 33) C dX1_windAtLamp_30 kmX1_windAtLamp_75 (Nat.le_of_ble_eq_true rfl) (Nat.le_of_ble_eq_true rfl) (Nat.le_of_ble_eq_true rfl) (Nat.le_of_ble_eq_true rfl) rfl ?_
  refine x_bipush (q := 35) C dX1_windAtLamp_33 kb_10 rfl ?_
  refine x_idiv (q := 36) C dX1_windAtLamp_35 (by decide) rfl ?_
  refine x_iadd (q := 37) C dX1_windAtLamp_36 rfl ?_
  have hf := Option.some.inj hf
  exact x_iret () C dX1_windAtLamp_37 rfl hf rfl (Nat.le_of_ble_eq_true rfl) (Nat.le_of_ble_eq_true rfl)
end
section
/-! LampHills$Night.waitFromNow(I)V -/
theorem ki_m1 : Int32.ofInt (-1) = (-1) := by decide
theorem flX0_waitFromNow_37 : Cond.fieldLink RX0 37 "LampHills$Night" "goesTo" "[I" ∈ wsX0_waitFromNow := by decide +kernel
theorem flX0_waitFromNow_43 : Cond.fieldLink RX0 43 "LampHills$Night" "minutesLeft" "[I" ∈ wsX0_waitFromNow := by decide +kernel
theorem iuX0_waitFromNow_X0 : ∀ w ∈ u_ws RX0 TX0 16, w ∈ wsX0_waitFromNow := fun _ h => List.mem_cons_of_mem _ (List.mem_append_right _ h)
def f0_waitFromNow (N : St) (p1 : Int32) : Option (St) :=
  gd (xin p1 4) <|
  lt_ (up2 N 11 p1.toNatClampNeg (-1)) fun N2 =>
  lt_ (up2 N2 13 p1.toNatClampNeg 0) fun N3 =>
  some N3
set_option maxHeartbeats 4000000 in
set_option maxRecDepth 100000 in
theorem c0_waitFromNow {l : Launch} {D : va_G} {y : Nat → ClassId} {aN : Nat → Nat} {N : St} {p1 : Int32} {N' : St} (hf : f0_waitFromNow N p1 = some N') : xMv l yX0_waitFromNow wsX0_waitFromNow 0 0 0 0 D (xT y) [.ref (aN 0), .int p1] (nC y aN N) (fun (_ : Unit) => True) (fun _ : Unit => nC y aN N') := by
  refine xMv_of (cc := cX0_waitFromNow) (nL := 2) (ret := none) [(0, .ref (aN 0)), (1, .int p1)] (by decide) rfl (Nat.le_of_ble_eq_true rfl) rfl ?_
  intro p e s m args below meth c A C hin
  have C : xC p s m args meth c D A cX0_waitFromNow RX0 2 wsX0_waitFromNow (xT y) none := C
  unfold f0_waitFromNow at hf
  refine x_aload_n (q := 1) C 0 dX0_waitFromNow_0 rfl rfl rfl ?_
  refine x_get (q := 4) C 11 dX0_waitFromNow_1 (oX0 y aN N) rfl iuX0_waitFromNow_X0 flX0_waitFromNow_37 rfl (by decide) rfl rfl ?_
  refine x_iload_n (q := 5) C 1 dX0_waitFromNow_4 rfl rfl rfl ?_
  refine x_iconst (q := 6) C dX0_waitFromNow_5 ki_m1 rfl ?_
  obtain ⟨hb1, hf⟩ := gd_some hf
  obtain ⟨N2, eN2, hf⟩ := lt_elim hf
  refine x_iast (q := 7) (ws' := nC y aN N2) C 0 dX0_waitFromNow_6 (aX0_11 y aN N) rfl hb1 (congrArg (fun z => nC y aN z) eN2.symm) rfl ?_
  refine x_aload_n (q := 8) C 0 dX0_waitFromNow_7 rfl rfl rfl ?_
  refine x_get (q := 11) C 13 dX0_waitFromNow_8 (oX0 y aN N2) rfl iuX0_waitFromNow_X0 flX0_waitFromNow_43 rfl (by decide) rfl rfl ?_
  refine x_iload_n (q := 12) C 1 dX0_waitFromNow_11 rfl rfl rfl ?_
  refine x_iconst (q := 13) C dX0_waitFromNow_12 ki_0 rfl ?_
  obtain ⟨N3, eN3, hf⟩ := lt_elim hf
  refine x_iast (q := 14) (ws' := nC y aN N3) C 0 dX0_waitFromNow_13 (aX0_13 y aN N2) rfl hb1 (congrArg (fun z => nC y aN z) eN3.symm) rfl ?_
  have hf := Option.some.inj hf
  exact x_vret () C dX0_waitFromNow_14 rfl trivial (congrArg (fun z => nC y aN z) hf) (Nat.le_of_ble_eq_true rfl) (Nat.le_of_ble_eq_true rfl)

/-! LampHills$Night.whoGoesTo(LLampHills$Town;I)I -/
theorem flX0_whoGoesTo_37 : Cond.fieldLink RX0 37 "LampHills$Night" "goesTo" "[I" ∈ wsX0_whoGoesTo := by decide +kernel
theorem flX0_whoGoesTo_91 : Cond.fieldLink RX0 91 "LampHills$Town" "lighters" "I" ∈ wsX0_whoGoesTo := by decide +kernel
theorem iuX0_whoGoesTo_X0 : ∀ w ∈ u_ws RX0 TX0 16, w ∈ wsX0_whoGoesTo := fun _ h => List.mem_cons_of_mem _ (List.mem_append_right _ h)
theorem iuX0_whoGoesTo_X1 : ∀ w ∈ u_ws RX1 TX1 17, w ∈ wsX0_whoGoesTo := fun _ h => List.mem_cons_of_mem _ (List.mem_append_left _ (List.mem_append_right _ h))
def f0_whoGoesTo_L2 (p2 : Int32) (N : St) (T : St) : Nat → Int32 → Option (Int32)
  | 0, _ => none
  | fu + 1, v1 =>
  if (T 12 0) ≤ v1 then
  (
    some (-1)
  )
  else
  (
    gd (xin v1 4) <|
    if (N 11 v1.toNatClampNeg) = p2 then
    (
      some v1
    )
    else
    (
      f0_whoGoesTo_L2 p2 N T fu (v1 + 1)
    )
  )
def f0_whoGoesTo (N : St) (T : St) (p2 : Int32) : Option (Int32) :=
  f0_whoGoesTo_L2 p2 N T xF 0
set_option maxHeartbeats 4000000 in
set_option maxRecDepth 100000 in
theorem w0_whoGoesTo_L2 {p : Program} {l : Launch} {e : Env} {s : State} {m : MethodId} {args : Array Value} {below : List Frame} {meth : Method} {c : Code} {D : va_G} {A : Nat → Prop} {y : Nat → ClassId} {aN aT : Nat → Nat} {N : St} {T : St} {p2 : Int32} {r : Int32} (C : xC p s m args meth c D A cX0_whoGoesTo RX0 4 wsX0_whoGoesTo (xT y) (some .int)) : ∀ (fu : Nat) (v1 : Int32), f0_whoGoesTo_L2 p2 N T fu v1 = some r → xV p l e { frames := 0, cells := 0, slots := 0, locals := 0 } s m args below meth c D A (xQi D (xT y) A (fun (r' : Int32) (_ : Unit) => r' = r) (fun _ : Unit => nC y aN N ++ tC y aT T) 0 0 below args s) 4 (nC y aN N ++ tC y aT T) 0 0 [(0, .ref (aN 0)), (1, .ref (aT 0)), (2, .int p2), (3, .int v1)] 2 [] := by
  intro fu
  induction fu with
  | zero => intro v1 hf; rw [f0_whoGoesTo_L2] at hf; cases hf
  | succ fu ih =>
    intro v1 hf
    rw [f0_whoGoesTo_L2] at hf
    refine x_iload_n (q := 3) C 3 dX0_whoGoesTo_2 rfl rfl rfl ?_
    refine x_aload_n (q := 4) C 1 dX0_whoGoesTo_3 rfl rfl rfl ?_
    refine x_get (q := 7) C 12 dX0_whoGoesTo_4 ((oX1 y aT T).R) rfl iuX0_whoGoesTo_X1 flX0_whoGoesTo_91 rfl (by decide) rfl rfl ?_
    refine x_icmp_ge (t := 28) (q := 10) C dX0_whoGoesTo_7 (by decide) rfl (fun hc => ?_) (fun hc => ?_)
    · have hf := (if_pos hc).symm.trans hf
      refine x_iconst (q := 29) C dX0_whoGoesTo_28 ki_m1 rfl ?_
      have hf := Option.some.inj hf
      exact x_iret () C dX0_whoGoesTo_29 rfl hf rfl (Nat.le_of_ble_eq_true rfl) (Nat.le_of_ble_eq_true rfl)
    · have hf := (if_neg hc).symm.trans hf
      refine x_aload_n (q := 11) C 0 dX0_whoGoesTo_10 rfl rfl rfl ?_
      refine x_get (q := 14) C 11 dX0_whoGoesTo_11 ((oX0 y aN N).L) rfl iuX0_whoGoesTo_X0 flX0_whoGoesTo_37 rfl (by decide) rfl rfl ?_
      refine x_iload_n (q := 15) C 3 dX0_whoGoesTo_14 rfl rfl rfl ?_
      obtain ⟨hb2, hf⟩ := gd_some hf
      refine x_iald (q := 16) C 0 dX0_whoGoesTo_15 ((aX0_11 y aN N).L) rfl hb2 rfl ?_
      refine x_iload_n (q := 17) C 2 dX0_whoGoesTo_16 rfl rfl rfl ?_
      refine x_icmp_ne (t := 22) (q := 20) C dX0_whoGoesTo_17 (by decide) rfl (fun hc => ?_) (fun hc => ?_)
      · have hf := (if_neg hc).symm.trans hf
        refine x_iinc (q := 25) C 3 (v1 + 1) [1, 2, 3, 0] [(0, .ref (aN 0)), (1, .ref (aT 0)), (2, .int p2), (3, .int (v1 + 1))] dX0_whoGoesTo_22 rfl (congrArg (fun z => v1 + z) ki_1) (by decide) rfl rfl ?_
        refine x_goto (t := 2) C dX0_whoGoesTo_25 (by decide) ?_
        exact ih (v1 + 1) hf
      · have hf := (if_pos hc).symm.trans hf
        refine x_iload_n (q := 21) C 3 dX0_whoGoesTo_20 rfl rfl rfl ?_
        have hf := Option.some.inj hf
        exact x_iret () C dX0_whoGoesTo_21 rfl hf rfl (Nat.le_of_ble_eq_true rfl) (Nat.le_of_ble_eq_true rfl)
set_option maxHeartbeats 4000000 in
set_option maxRecDepth 100000 in
theorem c0_whoGoesTo {l : Launch} {D : va_G} {y : Nat → ClassId} {aN aT : Nat → Nat} {N : St} {T : St} {p2 : Int32} {r : Int32} (hf : f0_whoGoesTo N T p2 = some r) : xMi l yX0_whoGoesTo wsX0_whoGoesTo 0 0 0 0 D (xT y) [.ref (aN 0), .ref (aT 0), .int p2] (nC y aN N ++ tC y aT T) (fun (r' : Int32) (_ : Unit) => r' = r) (fun _ : Unit => nC y aN N ++ tC y aT T) := by
  refine xMi_of (cc := cX0_whoGoesTo) (nL := 4) (ret := (some .int)) [(0, .ref (aN 0)), (1, .ref (aT 0)), (2, .int p2)] (by decide) rfl (Nat.le_of_ble_eq_true rfl) rfl ?_
  intro p e s m args below meth c A C hin
  have C : xC p s m args meth c D A cX0_whoGoesTo RX0 4 wsX0_whoGoesTo (xT y) (some .int) := C
  unfold f0_whoGoesTo at hf
  refine x_iconst (q := 1) C dX0_whoGoesTo_0 ki_0 rfl ?_
  refine x_istore_n (q := 2) C [1, 2, 3, 0] [(0, .ref (aN 0)), (1, .ref (aT 0)), (2, .int p2), (3, .int 0)] dX0_whoGoesTo_1 rfl (by decide) rfl rfl ?_
  exact w0_whoGoesTo_L2 C xF 0 hf

/-! LampHills$Night.isDark(I)Z -/
theorem flX0_isDark_9 : Cond.fieldLink RX0 9 "LampHills$Night" "burningIn" "[I" ∈ wsX0_isDark := by decide +kernel
theorem iuX0_isDark_X0 : ∀ w ∈ u_ws RX0 TX0 16, w ∈ wsX0_isDark := fun _ h => List.mem_cons_of_mem _ (List.mem_append_right _ h)
def f0_isDark (N : St) (p1 : Int32) : Option (Int32) :=
  gd (xin p1 18) <|
  if (N 3 p1.toNatClampNeg) = 0 then
  (
    some 1
  )
  else
  (
    some 0
  )
set_option maxHeartbeats 4000000 in
set_option maxRecDepth 100000 in
theorem c0_isDark {l : Launch} {D : va_G} {y : Nat → ClassId} {aN : Nat → Nat} {N : St} {p1 : Int32} {r : Int32} (hf : f0_isDark N p1 = some r) : xMi l yX0_isDark wsX0_isDark 0 0 0 0 D (xT y) [.ref (aN 0), .int p1] (nC y aN N) (fun (r' : Int32) (_ : Unit) => r' = r) (fun _ : Unit => nC y aN N) := by
  refine xMi_of (cc := cX0_isDark) (nL := 2) (ret := (some .boolean)) [(0, .ref (aN 0)), (1, .int p1)] (by decide) rfl (Nat.le_of_ble_eq_true rfl) rfl ?_
  intro p e s m args below meth c A C hin
  have C : xC p s m args meth c D A cX0_isDark RX0 2 wsX0_isDark (xT y) (some .boolean) := C
  unfold f0_isDark at hf
  refine x_aload_n (q := 1) C 0 dX0_isDark_0 rfl rfl rfl ?_
  refine x_get (q := 4) C 3 dX0_isDark_1 (oX0 y aN N) rfl iuX0_isDark_X0 flX0_isDark_9 rfl (by decide) rfl rfl ?_
  refine x_iload_n (q := 5) C 1 dX0_isDark_4 rfl rfl rfl ?_
  obtain ⟨hb1, hf⟩ := gd_some hf
  refine x_iald (q := 6) C 0 dX0_isDark_5 (aX0_3 y aN N) rfl hb1 rfl ?_
  refine x_if_ne (t := 13) (q := 9) C dX0_isDark_6 (by decide) rfl (fun hc => ?_) (fun hc => ?_)
  · have hf := (if_neg hc).symm.trans hf
    refine x_iconst (q := 14) C dX0_isDark_13 ki_0 rfl ?_
    have hf := Option.some.inj hf
    exact x_zret () C dX0_isDark_14 rfl rfl hf rfl (Nat.le_of_ble_eq_true rfl) (Nat.le_of_ble_eq_true rfl)
  · have hf := (if_pos hc).symm.trans hf
    refine x_iconst (q := 10) C dX0_isDark_9 ki_1 rfl ?_
    refine x_goto (t := 14) C dX0_isDark_10 (by decide) ?_
    have hf := Option.some.inj hf
    exact x_zret () C dX0_isDark_14 rfl rfl hf rfl (Nat.le_of_ble_eq_true rfl) (Nat.le_of_ble_eq_true rfl)

/-! LampHills$Night.putOut(LLampHills$Town;I)V -/
theorem flX0_putOut_148 : Cond.fieldLink RX0 148 "LampHills$Town" "lampStreet" "[I" ∈ wsX0_putOut := by decide +kernel
theorem flX0_putOut_21 : Cond.fieldLink RX0 21 "LampHills$Night" "burns" "[Z" ∈ wsX0_putOut := by decide +kernel
theorem flX0_putOut_9 : Cond.fieldLink RX0 9 "LampHills$Night" "burningIn" "[I" ∈ wsX0_putOut := by decide +kernel
theorem iuX0_putOut_X0 : ∀ w ∈ u_ws RX0 TX0 16, w ∈ wsX0_putOut := fun _ h => List.mem_cons_of_mem _ (List.mem_append_left _ (List.mem_append_right _ h))
theorem iuX0_putOut_X1 : ∀ w ∈ u_ws RX1 TX1 17, w ∈ wsX0_putOut := fun _ h => List.mem_cons_of_mem _ (List.mem_append_right _ h)
def f0_putOut (N : St) (T : St) (p2 : Int32) : Option (St) :=
  gd (xin p2 20) <|
  lt_ (up2 N 6 p2.toNatClampNeg (vp_nar .boolean 0)) fun N2 =>
  gd (xin (T 8 p2.toNatClampNeg) 18) <|
  lt_ (up2 N2 3 (T 8 p2.toNatClampNeg).toNatClampNeg ((N2 3 (T 8 p2.toNatClampNeg).toNatClampNeg) - 1)) fun N4 =>
  some N4
set_option maxHeartbeats 4000000 in
set_option maxRecDepth 100000 in
theorem c0_putOut {l : Launch} {D : va_G} {y : Nat → ClassId} {aN aT : Nat → Nat} {N : St} {T : St} {p2 : Int32} {N' : St} (hf : f0_putOut N T p2 = some N') : xMv l yX0_putOut wsX0_putOut 0 0 0 0 D (xT y) [.ref (aN 0), .ref (aT 0), .int p2] (nC y aN N ++ tC y aT T) (fun (_ : Unit) => True) (fun _ : Unit => nC y aN N' ++ tC y aT T) := by
  refine xMv_of (cc := cX0_putOut) (nL := 3) (ret := none) [(0, .ref (aN 0)), (1, .ref (aT 0)), (2, .int p2)] (by decide) rfl (Nat.le_of_ble_eq_true rfl) rfl ?_
  intro p e s m args below meth c A C hin
  have C : xC p s m args meth c D A cX0_putOut RX0 3 wsX0_putOut (xT y) none := C
  unfold f0_putOut at hf
  refine x_aload_n (q := 1) C 0 dX0_putOut_0 rfl rfl rfl ?_
  refine x_get (q := 4) C 6 dX0_putOut_1 ((oX0 y aN N).L) rfl iuX0_putOut_X0 flX0_putOut_21 rfl (by decide) rfl rfl ?_
  refine x_iload_n (q := 5) C 2 dX0_putOut_4 rfl rfl rfl ?_
  refine x_iconst (q := 6) C dX0_putOut_5 ki_0 rfl ?_
  obtain ⟨hb1, hf⟩ := gd_some hf
  obtain ⟨N2, eN2, hf⟩ := lt_elim hf
  refine x_zast (q := 7) (ws' := nC y aN N2 ++ tC y aT T) C 1 dX0_putOut_6 ((aX0_6 y aN N).L) rfl hb1 (congrArg (fun z => nC y aN z ++ tC y aT T) eN2.symm) rfl ?_
  refine x_aload_n (q := 8) C 0 dX0_putOut_7 rfl rfl rfl ?_
  refine x_get (q := 11) C 3 dX0_putOut_8 ((oX0 y aN N2).L) rfl iuX0_putOut_X0 flX0_putOut_9 rfl (by decide) rfl rfl ?_
  refine x_aload_n (q := 12) C 1 dX0_putOut_11 rfl rfl rfl ?_
  refine x_get (q := 15) C 8 dX0_putOut_12 ((oX1 y aT T).R) rfl iuX0_putOut_X1 flX0_putOut_148 rfl (by decide) rfl rfl ?_
  refine x_iload_n (q := 16) C 2 dX0_putOut_15 rfl rfl rfl ?_
  refine x_iald (q := 17) C 0 dX0_putOut_16 ((aX1_8 y aT T).R) rfl hb1 rfl ?_
  refine x_dup2 (q := 18) C dX0_putOut_17 rfl rfl rfl ?_
  obtain ⟨hb3, hf⟩ := gd_some hf
  refine x_iald (q := 19) C 0 dX0_putOut_18 ((aX0_3 y aN N2).L) rfl hb3 rfl ?_
  refine x_iconst (q := 20) C dX0_putOut_19 ki_1 rfl ?_
  refine x_isub (q := 21) C dX0_putOut_20 rfl ?_
  obtain ⟨N4, eN4, hf⟩ := lt_elim hf
  refine x_iast (q := 22) (ws' := nC y aN N4 ++ tC y aT T) C 0 dX0_putOut_21 ((aX0_3 y aN N2).L) rfl hb3 (congrArg (fun z => nC y aN z ++ tC y aT T) eN4.symm) rfl ?_
  have hf := Option.some.inj hf
  exact x_vret () C dX0_putOut_22 rfl trivial (congrArg (fun z => nC y aN z ++ tC y aT T) hf) (Nat.le_of_ble_eq_true rfl) (Nat.le_of_ble_eq_true rfl)

/-! LampHills$Night.sendHome(LLampHills$Town;I)V -/
theorem flX0_sendHome_31 : Cond.fieldLink RX0 31 "LampHills$Night" "at" "[I" ∈ wsX0_sendHome := by decide +kernel
theorem flX0_sendHome_46 : Cond.fieldLink RX0 46 "LampHills$Night" "latestPlace" "[I" ∈ wsX0_sendHome := by decide +kernel
theorem flX0_sendHome_97 : Cond.fieldLink RX0 97 "LampHills$Town" "home" "[I" ∈ wsX0_sendHome := by decide +kernel
theorem iuX0_sendHome_X0 : ∀ w ∈ u_ws RX0 TX0 16, w ∈ wsX0_sendHome := fun _ h => List.mem_cons_of_mem _ (List.mem_append_left _ (List.mem_append_right _ h))
theorem iuX0_sendHome_X1 : ∀ w ∈ u_ws RX1 TX1 17, w ∈ wsX0_sendHome := fun _ h => List.mem_cons_of_mem _ (List.mem_append_right _ h)
theorem yi_X0_waitFromNow : xY yX0_waitFromNow wsX0_waitFromNow cX0_waitFromNow 2 none 1 := ⟨⟨_, rfl⟩, by decide +kernel, by decide +kernel, by decide +kernel⟩
def f0_sendHome (N : St) (T : St) (p2 : Int32) : Option (St) :=
  gd (xin p2 4) <|
  lt_ (up2 N 9 p2.toNatClampNeg (T 13 p2.toNatClampNeg)) fun N2 =>
  bd (f0_waitFromNow N2 p2) fun N3 =>
  lt_ (up2 N3 14 p2.toNatClampNeg (-1)) fun N5 =>
  some N5
set_option maxHeartbeats 4000000 in
set_option maxRecDepth 100000 in
theorem c0_sendHome {l : Launch} {D : va_G} {y : Nat → ClassId} {aN aT : Nat → Nat} {N : St} {T : St} {p2 : Int32} {N' : St} (hf : f0_sendHome N T p2 = some N') : xMv l yX0_sendHome wsX0_sendHome 1 21 0 0 D (xT y) [.ref (aN 0), .ref (aT 0), .int p2] (nC y aN N ++ tC y aT T) (fun (_ : Unit) => True) (fun _ : Unit => nC y aN N' ++ tC y aT T) := by
  refine xMv_of (cc := cX0_sendHome) (nL := 3) (ret := none) [(0, .ref (aN 0)), (1, .ref (aT 0)), (2, .int p2)] (by decide) rfl (Nat.le_of_ble_eq_true rfl) rfl ?_
  intro p e s m args below meth c A C hin
  have C : xC p s m args meth c D A cX0_sendHome RX0 3 wsX0_sendHome (xT y) none := C
  unfold f0_sendHome at hf
  refine x_aload_n (q := 1) C 0 dX0_sendHome_0 rfl rfl rfl ?_
  refine x_get (q := 4) C 9 dX0_sendHome_1 ((oX0 y aN N).L) rfl iuX0_sendHome_X0 flX0_sendHome_31 rfl (by decide) rfl rfl ?_
  refine x_iload_n (q := 5) C 2 dX0_sendHome_4 rfl rfl rfl ?_
  refine x_aload_n (q := 6) C 1 dX0_sendHome_5 rfl rfl rfl ?_
  refine x_get (q := 9) C 13 dX0_sendHome_6 ((oX1 y aT T).R) rfl iuX0_sendHome_X1 flX0_sendHome_97 rfl (by decide) rfl rfl ?_
  refine x_iload_n (q := 10) C 2 dX0_sendHome_9 rfl rfl rfl ?_
  obtain ⟨hb1, hf⟩ := gd_some hf
  refine x_iald (q := 11) C 0 dX0_sendHome_10 ((aX1_13 y aT T).R) rfl hb1 rfl ?_
  obtain ⟨N2, eN2, hf⟩ := lt_elim hf
  refine x_iast (q := 12) (ws' := nC y aN N2 ++ tC y aT T) C 0 dX0_sendHome_11 ((aX0_9 y aN N).L) rfl hb1 (congrArg (fun z => nC y aN z ++ tC y aT T) eN2.symm) rfl ?_
  refine x_aload_n (q := 13) C 0 dX0_sendHome_12 rfl rfl rfl ?_
  refine x_iload_n (q := 14) C 2 dX0_sendHome_13 rfl rfl rfl ?_
  obtain ⟨N3, hcal4, hf⟩ := bd_some hf
  refine x_callVv (q := 17) C (c0_waitFromNow (l := l) (D := D) (y := y) (aN := aN) hcal4) yi_X0_waitFromNow gX0_sendHome_X0_waitFromNow rfl (oX0 y aN N2) rfl ⟨(Nat.le_of_ble_eq_true rfl), (Nat.le_of_ble_eq_true rfl)⟩ dX0_sendHome_14 (pm2_0 _ _) rfl rfl (Nat.le_of_ble_eq_true rfl) ⟨(Nat.le_of_ble_eq_true rfl), (Nat.le_of_ble_eq_true rfl)⟩ rfl ?_
  intro uu hrr
  refine x_perm (ws' := nC y aN N3 ++ tC y aT T) (pm2_0 _ _).symm ?_
  refine x_aload_n (q := 18) C 0 dX0_sendHome_17 rfl rfl rfl ?_
  refine x_get (q := 21) C 14 dX0_sendHome_18 ((oX0 y aN N3).L) rfl iuX0_sendHome_X0 flX0_sendHome_46 rfl (by decide) rfl rfl ?_
  refine x_iload_n (q := 22) C 2 dX0_sendHome_21 rfl rfl rfl ?_
  refine x_iconst (q := 23) C dX0_sendHome_22 ki_m1 rfl ?_
  obtain ⟨N5, eN5, hf⟩ := lt_elim hf
  refine x_iast (q := 24) (ws' := nC y aN N5 ++ tC y aT T) C 0 dX0_sendHome_23 ((aX0_14 y aN N3).L) rfl hb1 (congrArg (fun z => nC y aN z ++ tC y aT T) eN5.symm) rfl ?_
  have hf := Option.some.inj hf
  exact x_vret () C dX0_sendHome_24 rfl trivial (congrArg (fun z => nC y aN z ++ tC y aT T) hf) (Nat.le_of_ble_eq_true rfl) (Nat.le_of_ble_eq_true rfl)

/-! LampHills$Night.beginNext(LLampHills$Town;)V -/
theorem flX0_beginNext_21 : Cond.fieldLink RX0 21 "LampHills$Night" "burns" "[Z" ∈ wsX0_beginNext := by decide +kernel
theorem flX0_beginNext_52 : Cond.fieldLink RX0 52 "LampHills$Night" "minute" "I" ∈ wsX0_beginNext := by decide +kernel
theorem flX0_beginNext_56 : Cond.fieldLink RX0 56 "LampHills$Night" "number" "I" ∈ wsX0_beginNext := by decide +kernel
theorem flX0_beginNext_85 : Cond.fieldLink RX0 85 "LampHills$Town" "lamps" "I" ∈ wsX0_beginNext := by decide +kernel
theorem flX0_beginNext_91 : Cond.fieldLink RX0 91 "LampHills$Town" "lighters" "I" ∈ wsX0_beginNext := by decide +kernel
theorem iuX0_beginNext_X0 : ∀ w ∈ u_ws RX0 TX0 16, w ∈ wsX0_beginNext := fun _ h => List.mem_cons_of_mem _ (List.mem_append_left _ (List.mem_append_right _ h))
theorem iuX0_beginNext_X1 : ∀ w ∈ u_ws RX1 TX1 17, w ∈ wsX0_beginNext := fun _ h => List.mem_cons_of_mem _ (List.mem_append_right _ h)
theorem yi_X0_putOut : xY yX0_putOut wsX0_putOut cX0_putOut 3 none 2 := ⟨⟨_, rfl⟩, by decide +kernel, by decide +kernel, by decide +kernel⟩
theorem yi_X0_sendHome : xY yX0_sendHome wsX0_sendHome cX0_sendHome 3 none 2 := ⟨⟨_, rfl⟩, by decide +kernel, by decide +kernel, by decide +kernel⟩
def f0_beginNext_L17 (T : St) (K : St → Option (St)) : Nat → Int32 → St → Option (St)
  | 0, _, _ => none
  | fu + 1, v3, N4 =>
  if (T 7 0) ≤ v3 then
  (
    K N4
  )
  else
  (
    gd (xin v3 20) <|
    lt_ (fun (N7 : St) =>
    (
      f0_beginNext_L17 T K fu (v3 + 1) N7
    )
    ) fun J40 =>
    if (N4 6 v3.toNatClampNeg) = 0 then
    (
      J40 N4
    )
    else
    (
      bd (f0_putOut N4 T v3) fun N8 =>
      J40 N8
    )
  )
def f0_beginNext_L48 (T : St) : Nat → Int32 → St → Option (St)
  | 0, _, _ => none
  | fu + 1, v10, N11 =>
  if (T 12 0) ≤ v10 then
  (
    some N11
  )
  else
  (
    bd (f0_sendHome N11 T v10) fun N12 =>
    f0_beginNext_L48 T fu (v10 + 1) N12
  )
def f0_beginNext (N : St) (T : St) : Option (St) :=
  lt_ (up2 N 0 0 0) fun N1 =>
  lt_ (up2 N1 1 0 ((N1 1 0) + 1)) fun N2 =>
  f0_beginNext_L17 T (fun (N5 : St) =>
  (
    f0_beginNext_L48 T xF 0 N5
  )
  ) xF 0 N2
set_option maxHeartbeats 4000000 in
set_option maxRecDepth 100000 in
theorem w0_beginNext_L17 {p : Program} {l : Launch} {e : Env} {s : State} {m : MethodId} {args : Array Value} {below : List Frame} {meth : Method} {c : Code} {D : va_G} {A : Nat → Prop} {y : Nat → ClassId} {aN aT : Nat → Nat} {T : St} {N' : St} {K : St → Option (St)} (C : xC p s m args meth c D A cX0_beginNext RX0 3 wsX0_beginNext (xT y) none) (hK : ∀ (N5 : St), K N5 = some N' → xV p l e { frames := 2, cells := 0, slots := 0, locals := 43 } s m args below meth c D A (xQv D (xT y) A (fun (_ : Unit) => True) (fun _ : Unit => nC y aN N' ++ tC y aT T) 0 0 below args s) 3 (nC y aN N5 ++ tC y aT T) 0 0 [(0, .ref (aN 0)), (1, .ref (aT 0))] 46 []) : ∀ (fu : Nat) (v3 : Int32) (N4 : St), f0_beginNext_L17 T K fu v3 N4 = some N' → xV p l e { frames := 2, cells := 0, slots := 0, locals := 43 } s m args below meth c D A (xQv D (xT y) A (fun (_ : Unit) => True) (fun _ : Unit => nC y aN N' ++ tC y aT T) 0 0 below args s) 3 (nC y aN N4 ++ tC y aT T) 0 0 [(0, .ref (aN 0)), (1, .ref (aT 0)), (2, .int v3)] 17 [] := by
  intro fu
  induction fu with
  | zero => intro v3 N4 hf; rw [f0_beginNext_L17] at hf; cases hf
  | succ fu ih =>
    intro v3 N4 hf
    rw [f0_beginNext_L17] at hf
    refine x_iload_n (q := 18) C 2 dX0_beginNext_17 rfl rfl rfl ?_
    refine x_aload_n (q := 19) C 1 dX0_beginNext_18 rfl rfl rfl ?_
    refine x_get (q := 22) C 7 dX0_beginNext_19 ((oX1 y aT T).R) rfl iuX0_beginNext_X1 flX0_beginNext_85 rfl (by decide) rfl rfl ?_
    refine x_icmp_ge (t := 46) (q := 25) C dX0_beginNext_22 (by decide) rfl (fun hc => ?_) (fun hc => ?_)
    · have hf := (if_pos hc).symm.trans hf
      refine x_sub [0, 1] (L' := [(0, .ref (aN 0)), (1, .ref (aT 0))]) rfl ?_
      exact hK N4 hf
    · have hf := (if_neg hc).symm.trans hf
      refine x_aload_n (q := 26) C 0 dX0_beginNext_25 rfl rfl rfl ?_
      refine x_get (q := 29) C 6 dX0_beginNext_26 ((oX0 y aN N4).L) rfl iuX0_beginNext_X0 flX0_beginNext_21 rfl (by decide) rfl rfl ?_
      refine x_iload_n (q := 30) C 2 dX0_beginNext_29 rfl rfl rfl ?_
      obtain ⟨hb6, hf⟩ := gd_some hf
      refine x_zald (q := 31) C 1 dX0_beginNext_30 ((aX0_6 y aN N4).L) rfl hb6 rfl ?_
      obtain ⟨J40, eJ40, hf⟩ := lt_elim hf
      have hJ40 : ∀ (N7 : St), J40 N7 = some N' → xV p l e { frames := 2, cells := 0, slots := 0, locals := 43 } s m args below meth c D A (xQv D (xT y) A (fun (_ : Unit) => True) (fun _ : Unit => nC y aN N' ++ tC y aT T) 0 0 below args s) 3 (nC y aN N7 ++ tC y aT T) 0 0 [(0, .ref (aN 0)), (1, .ref (aT 0)), (2, .int v3)] 40 [] := by
        intro N7 hf
        subst eJ40
        refine x_iinc (q := 43) C 2 (v3 + 1) [1, 2, 0] [(0, .ref (aN 0)), (1, .ref (aT 0)), (2, .int (v3 + 1))] dX0_beginNext_40 rfl (congrArg (fun z => v3 + z) ki_1) (by decide) rfl rfl ?_
        refine x_goto (t := 17) C dX0_beginNext_43 (by decide) ?_
        exact ih (v3 + 1) N7 hf
      refine x_if_eq (t := 40) (q := 34) C dX0_beginNext_31 (by decide) rfl (fun hc => ?_) (fun hc => ?_)
      · have hf := (if_pos hc).symm.trans hf
        exact hJ40 N4 hf
      · have hf := (if_neg hc).symm.trans hf
        refine x_aload_n (q := 35) C 0 dX0_beginNext_34 rfl rfl rfl ?_
        refine x_aload_n (q := 36) C 1 dX0_beginNext_35 rfl rfl rfl ?_
        refine x_iload_n (q := 37) C 2 dX0_beginNext_36 rfl rfl rfl ?_
        obtain ⟨N8, hcal9, hf⟩ := bd_some hf
        refine x_callVv (q := 40) C (c0_putOut (l := l) (D := D) (y := y) (aN := aN) (aT := aT) hcal9) yi_X0_putOut gX0_beginNext_X0_putOut rfl ((oX0 y aN N4).L) rfl ⟨(Nat.le_of_ble_eq_true rfl), (Nat.le_of_ble_eq_true rfl)⟩ dX0_beginNext_37 pm_nil rfl rfl (Nat.le_of_ble_eq_true rfl) ⟨(Nat.le_of_ble_eq_true rfl), (Nat.le_of_ble_eq_true rfl)⟩ rfl ?_
        intro uu hrr
        refine x_world (ws' := nC y aN N8 ++ tC y aT T) (List.append_nil _) ?_
        exact hJ40 N8 hf
set_option maxHeartbeats 4000000 in
set_option maxRecDepth 100000 in
theorem w0_beginNext_L48 {p : Program} {l : Launch} {e : Env} {s : State} {m : MethodId} {args : Array Value} {below : List Frame} {meth : Method} {c : Code} {D : va_G} {A : Nat → Prop} {y : Nat → ClassId} {aN aT : Nat → Nat} {T : St} {N' : St} (C : xC p s m args meth c D A cX0_beginNext RX0 3 wsX0_beginNext (xT y) none) : ∀ (fu : Nat) (v10 : Int32) (N11 : St), f0_beginNext_L48 T fu v10 N11 = some N' → xV p l e { frames := 2, cells := 0, slots := 0, locals := 43 } s m args below meth c D A (xQv D (xT y) A (fun (_ : Unit) => True) (fun _ : Unit => nC y aN N' ++ tC y aT T) 0 0 below args s) 3 (nC y aN N11 ++ tC y aT T) 0 0 [(0, .ref (aN 0)), (1, .ref (aT 0)), (2, .int v10)] 48 [] := by
  intro fu
  induction fu with
  | zero => intro v10 N11 hf; rw [f0_beginNext_L48] at hf; cases hf
  | succ fu ih =>
    intro v10 N11 hf
    rw [f0_beginNext_L48] at hf
    refine x_iload_n (q := 49) C 2 dX0_beginNext_48 rfl rfl rfl ?_
    refine x_aload_n (q := 50) C 1 dX0_beginNext_49 rfl rfl rfl ?_
    refine x_get (q := 53) C 12 dX0_beginNext_50 ((oX1 y aT T).R) rfl iuX0_beginNext_X1 flX0_beginNext_91 rfl (by decide) rfl rfl ?_
    refine x_icmp_ge (t := 68) (q := 56) C dX0_beginNext_53 (by decide) rfl (fun hc => ?_) (fun hc => ?_)
    · have hf := (if_pos hc).symm.trans hf
      have hf := Option.some.inj hf
      exact x_vret () C dX0_beginNext_68 rfl trivial (congrArg (fun z => nC y aN z ++ tC y aT T) hf) (Nat.le_of_ble_eq_true rfl) (Nat.le_of_ble_eq_true rfl)
    · have hf := (if_neg hc).symm.trans hf
      refine x_aload_n (q := 57) C 0 dX0_beginNext_56 rfl rfl rfl ?_
      refine x_aload_n (q := 58) C 1 dX0_beginNext_57 rfl rfl rfl ?_
      refine x_iload_n (q := 59) C 2 dX0_beginNext_58 rfl rfl rfl ?_
      obtain ⟨N12, hcal13, hf⟩ := bd_some hf
      refine x_callVv (q := 62) C (c0_sendHome (l := l) (D := D) (y := y) (aN := aN) (aT := aT) hcal13) yi_X0_sendHome gX0_beginNext_X0_sendHome rfl ((oX0 y aN N11).L) rfl ⟨(Nat.le_of_ble_eq_true rfl), (Nat.le_of_ble_eq_true rfl)⟩ dX0_beginNext_59 pm_nil rfl rfl (Nat.le_of_ble_eq_true rfl) ⟨(Nat.le_of_ble_eq_true rfl), (Nat.le_of_ble_eq_true rfl)⟩ rfl ?_
      intro uu hrr
      refine x_world (ws' := nC y aN N12 ++ tC y aT T) (List.append_nil _) ?_
      refine x_iinc (q := 65) C 2 (v10 + 1) [1, 2, 0] [(0, .ref (aN 0)), (1, .ref (aT 0)), (2, .int (v10 + 1))] dX0_beginNext_62 rfl (congrArg (fun z => v10 + z) ki_1) (by decide) rfl rfl ?_
      refine x_goto (t := 48) C dX0_beginNext_65 (by decide) ?_
      exact ih (v10 + 1) N12 hf
set_option maxHeartbeats 4000000 in
set_option maxRecDepth 100000 in
theorem c0_beginNext {l : Launch} {D : va_G} {y : Nat → ClassId} {aN aT : Nat → Nat} {N : St} {T : St} {N' : St} (hf : f0_beginNext N T = some N') : xMv l yX0_beginNext wsX0_beginNext 2 43 0 0 D (xT y) [.ref (aN 0), .ref (aT 0)] (nC y aN N ++ tC y aT T) (fun (_ : Unit) => True) (fun _ : Unit => nC y aN N' ++ tC y aT T) := by
  refine xMv_of (cc := cX0_beginNext) (nL := 3) (ret := none) [(0, .ref (aN 0)), (1, .ref (aT 0))] (by decide) rfl (Nat.le_of_ble_eq_true rfl) rfl ?_
  intro p e s m args below meth c A C hin
  have C : xC p s m args meth c D A cX0_beginNext RX0 3 wsX0_beginNext (xT y) none := C
  unfold f0_beginNext at hf
  refine x_aload_n (q := 1) C 0 dX0_beginNext_0 rfl rfl rfl ?_
  refine x_iconst (q := 2) C dX0_beginNext_1 ki_0 rfl ?_
  obtain ⟨N1, eN1, hf⟩ := lt_elim hf
  refine x_puti (q := 5) (ws' := nC y aN N1 ++ tC y aT T) C tyX0 tyX0_ok nmX0 dX0_beginNext_2 ((iX0_0 y aN N).L) rfl iuX0_beginNext_X0 flX0_beginNext_52 rfl (by decide) rfl rfl (congrArg (fun z => nC y aN z ++ tC y aT T) eN1.symm) rfl ?_
  refine x_aload_n (q := 6) C 0 dX0_beginNext_5 rfl rfl rfl ?_
  refine x_dup (q := 7) C dX0_beginNext_6 rfl rfl ?_
  refine x_get (q := 10) C 1 dX0_beginNext_7 ((oX0 y aN N1).L) rfl iuX0_beginNext_X0 flX0_beginNext_56 rfl (by decide) rfl rfl ?_
  refine x_iconst (q := 11) C dX0_beginNext_10 ki_1 rfl ?_
  refine x_iadd (q := 12) C dX0_beginNext_11 rfl ?_
  obtain ⟨N2, eN2, hf⟩ := lt_elim hf
  refine x_puti (q := 15) (ws' := nC y aN N2 ++ tC y aT T) C tyX0 tyX0_ok nmX0 dX0_beginNext_12 ((iX0_1 y aN N1).L) rfl iuX0_beginNext_X0 flX0_beginNext_56 rfl (by decide) rfl rfl (congrArg (fun z => nC y aN z ++ tC y aT T) eN2.symm) rfl ?_
  refine x_iconst (q := 16) C dX0_beginNext_15 ki_0 rfl ?_
  refine x_istore_n (q := 17) C [1, 2, 0] [(0, .ref (aN 0)), (1, .ref (aT 0)), (2, .int 0)] dX0_beginNext_16 rfl (by decide) rfl rfl ?_
  refine w0_beginNext_L17 C (fun N5 hf => ?_) xF 0 N2 hf
  refine x_iconst (q := 47) C dX0_beginNext_46 ki_0 rfl ?_
  refine x_istore_n (q := 48) C [1, 2, 0] [(0, .ref (aN 0)), (1, .ref (aT 0)), (2, .int 0)] dX0_beginNext_47 rfl (by decide) rfl rfl ?_
  exact w0_beginNext_L48 C xF 0 N5 hf

/-! LampHills$Night.burningLamps(LLampHills$Town;)I -/
theorem flX0_burningLamps_104 : Cond.fieldLink RX0 104 "LampHills$Town" "streets" "I" ∈ wsX0_burningLamps := by decide +kernel
theorem flX0_burningLamps_9 : Cond.fieldLink RX0 9 "LampHills$Night" "burningIn" "[I" ∈ wsX0_burningLamps := by decide +kernel
theorem iuX0_burningLamps_X0 : ∀ w ∈ u_ws RX0 TX0 16, w ∈ wsX0_burningLamps := fun _ h => List.mem_cons_of_mem _ (List.mem_append_right _ h)
theorem iuX0_burningLamps_X1 : ∀ w ∈ u_ws RX1 TX1 17, w ∈ wsX0_burningLamps := fun _ h => List.mem_cons_of_mem _ (List.mem_append_left _ (List.mem_append_right _ h))
def f0_burningLamps_L4 (N : St) (T : St) : Nat → Int32 → Int32 → Option (Int32)
  | 0, _, _ => none
  | fu + 1, v1, v2 =>
  if (T 3 0) ≤ v2 then
  (
    some v1
  )
  else
  (
    gd (xin v2 18) <|
    lt_ (v1 + (N 3 v2.toNatClampNeg)) fun v4 =>
    f0_burningLamps_L4 N T fu v4 (v2 + 1)
  )
def f0_burningLamps (N : St) (T : St) : Option (Int32) :=
  f0_burningLamps_L4 N T xF 0 0
set_option maxHeartbeats 4000000 in
set_option maxRecDepth 100000 in
theorem w0_burningLamps_L4 {p : Program} {l : Launch} {e : Env} {s : State} {m : MethodId} {args : Array Value} {below : List Frame} {meth : Method} {c : Code} {D : va_G} {A : Nat → Prop} {y : Nat → ClassId} {aN aT : Nat → Nat} {N : St} {T : St} {r : Int32} (C : xC p s m args meth c D A cX0_burningLamps RX0 4 wsX0_burningLamps (xT y) (some .int)) : ∀ (fu : Nat) (v1 : Int32) (v2 : Int32), f0_burningLamps_L4 N T fu v1 v2 = some r → xV p l e { frames := 0, cells := 0, slots := 0, locals := 0 } s m args below meth c D A (xQi D (xT y) A (fun (r' : Int32) (_ : Unit) => r' = r) (fun _ : Unit => nC y aN N ++ tC y aT T) 0 0 below args s) 4 (nC y aN N ++ tC y aT T) 0 0 [(0, .ref (aN 0)), (1, .ref (aT 0)), (2, .int v1), (3, .int v2)] 4 [] := by
  intro fu
  induction fu with
  | zero => intro v1 v2 hf; rw [f0_burningLamps_L4] at hf; cases hf
  | succ fu ih =>
    intro v1 v2 hf
    rw [f0_burningLamps_L4] at hf
    refine x_iload_n (q := 5) C 3 dX0_burningLamps_4 rfl rfl rfl ?_
    refine x_aload_n (q := 6) C 1 dX0_burningLamps_5 rfl rfl rfl ?_
    refine x_get (q := 9) C 3 dX0_burningLamps_6 ((oX1 y aT T).R) rfl iuX0_burningLamps_X1 flX0_burningLamps_104 rfl (by decide) rfl rfl ?_
    refine x_icmp_ge (t := 27) (q := 12) C dX0_burningLamps_9 (by decide) rfl (fun hc => ?_) (fun hc => ?_)
    · have hf := (if_pos hc).symm.trans hf
      refine x_iload_n (q := 28) C 2 dX0_burningLamps_27 rfl rfl rfl ?_
      have hf := Option.some.inj hf
      exact x_iret () C dX0_burningLamps_28 rfl hf rfl (Nat.le_of_ble_eq_true rfl) (Nat.le_of_ble_eq_true rfl)
    · have hf := (if_neg hc).symm.trans hf
      refine x_iload_n (q := 13) C 2 dX0_burningLamps_12 rfl rfl rfl ?_
      refine x_aload_n (q := 14) C 0 dX0_burningLamps_13 rfl rfl rfl ?_
      refine x_get (q := 17) C 3 dX0_burningLamps_14 ((oX0 y aN N).L) rfl iuX0_burningLamps_X0 flX0_burningLamps_9 rfl (by decide) rfl rfl ?_
      refine x_iload_n (q := 18) C 3 dX0_burningLamps_17 rfl rfl rfl ?_
      obtain ⟨hb3, hf⟩ := gd_some hf
      refine x_iald (q := 19) C 0 dX0_burningLamps_18 ((aX0_3 y aN N).L) rfl hb3 rfl ?_
      refine x_iadd (q := 20) C dX0_burningLamps_19 rfl ?_
      obtain ⟨v4, ev4, hf⟩ := lt_elim hf
      refine x_topi ev4 ?_
      refine x_istore_n (q := 21) C [1, 2, 0, 3] [(0, .ref (aN 0)), (1, .ref (aT 0)), (2, .int v4), (3, .int v2)] dX0_burningLamps_20 rfl (by decide) rfl rfl ?_
      refine x_iinc (q := 24) C 3 (v2 + 1) [1, 2, 3, 0] [(0, .ref (aN 0)), (1, .ref (aT 0)), (2, .int v4), (3, .int (v2 + 1))] dX0_burningLamps_21 rfl (congrArg (fun z => v2 + z) ki_1) (by decide) rfl rfl ?_
      refine x_goto (t := 4) C dX0_burningLamps_24 (by decide) ?_
      exact ih v4 (v2 + 1) hf
set_option maxHeartbeats 4000000 in
set_option maxRecDepth 100000 in
theorem c0_burningLamps {l : Launch} {D : va_G} {y : Nat → ClassId} {aN aT : Nat → Nat} {N : St} {T : St} {r : Int32} (hf : f0_burningLamps N T = some r) : xMi l yX0_burningLamps wsX0_burningLamps 0 0 0 0 D (xT y) [.ref (aN 0), .ref (aT 0)] (nC y aN N ++ tC y aT T) (fun (r' : Int32) (_ : Unit) => r' = r) (fun _ : Unit => nC y aN N ++ tC y aT T) := by
  refine xMi_of (cc := cX0_burningLamps) (nL := 4) (ret := (some .int)) [(0, .ref (aN 0)), (1, .ref (aT 0))] (by decide) rfl (Nat.le_of_ble_eq_true rfl) rfl ?_
  intro p e s m args below meth c A C hin
  have C : xC p s m args meth c D A cX0_burningLamps RX0 4 wsX0_burningLamps (xT y) (some .int) := C
  unfold f0_burningLamps at hf
  refine x_iconst (q := 1) C dX0_burningLamps_0 ki_0 rfl ?_
  refine x_istore_n (q := 2) C [1, 2, 0] [(0, .ref (aN 0)), (1, .ref (aT 0)), (2, .int 0)] dX0_burningLamps_1 rfl (by decide) rfl rfl ?_
  refine x_iconst (q := 3) C dX0_burningLamps_2 ki_0 rfl ?_
  refine x_istore_n (q := 4) C [1, 2, 3, 0] [(0, .ref (aN 0)), (1, .ref (aT 0)), (2, .int 0), (3, .int 0)] dX0_burningLamps_3 rfl (by decide) rfl rfl ?_
  exact w0_burningLamps_L4 C xF 0 0 hf

/-! LampHills$Night.darkStreets(LLampHills$Town;)I -/
theorem flX0_darkStreets_104 : Cond.fieldLink RX0 104 "LampHills$Town" "streets" "I" ∈ wsX0_darkStreets := by decide +kernel
theorem iuX0_darkStreets_X1 : ∀ w ∈ u_ws RX1 TX1 17, w ∈ wsX0_darkStreets := fun _ h => List.mem_cons_of_mem _ (List.mem_append_left _ (List.mem_append_right _ h))
theorem yi_X0_isDark : xY yX0_isDark wsX0_isDark cX0_isDark 2 (some .boolean) 1 := ⟨⟨_, rfl⟩, by decide +kernel, by decide +kernel, by decide +kernel⟩
def f0_darkStreets_L4 (N : St) (T : St) : Nat → Int32 → Int32 → Option (Int32)
  | 0, _, _ => none
  | fu + 1, v1, v2 =>
  if (T 3 0) ≤ v2 then
  (
    some v1
  )
  else
  (
    bd (f0_isDark N v2) fun v3 =>
    lt_ (fun (v6 : Int32) =>
    (
      f0_darkStreets_L4 N T fu v6 (v2 + 1)
    )
    ) fun J23 =>
    if v3 = 0 then
    (
      J23 v1
    )
    else
    (
      J23 (v1 + 1)
    )
  )
def f0_darkStreets (N : St) (T : St) : Option (Int32) :=
  f0_darkStreets_L4 N T xF 0 0
set_option maxHeartbeats 4000000 in
set_option maxRecDepth 100000 in
theorem w0_darkStreets_L4 {p : Program} {l : Launch} {e : Env} {s : State} {m : MethodId} {args : Array Value} {below : List Frame} {meth : Method} {c : Code} {D : va_G} {A : Nat → Prop} {y : Nat → ClassId} {aN aT : Nat → Nat} {N : St} {T : St} {r : Int32} (C : xC p s m args meth c D A cX0_darkStreets RX0 4 wsX0_darkStreets (xT y) (some .int)) : ∀ (fu : Nat) (v1 : Int32) (v2 : Int32), f0_darkStreets_L4 N T fu v1 v2 = some r → xV p l e { frames := 1, cells := 0, slots := 0, locals := 21 } s m args below meth c D A (xQi D (xT y) A (fun (r' : Int32) (_ : Unit) => r' = r) (fun _ : Unit => nC y aN N ++ tC y aT T) 0 0 below args s) 4 (nC y aN N ++ tC y aT T) 0 0 [(0, .ref (aN 0)), (1, .ref (aT 0)), (2, .int v1), (3, .int v2)] 4 [] := by
  intro fu
  induction fu with
  | zero => intro v1 v2 hf; rw [f0_darkStreets_L4] at hf; cases hf
  | succ fu ih =>
    intro v1 v2 hf
    rw [f0_darkStreets_L4] at hf
    refine x_iload_n (q := 5) C 3 dX0_darkStreets_4 rfl rfl rfl ?_
    refine x_aload_n (q := 6) C 1 dX0_darkStreets_5 rfl rfl rfl ?_
    refine x_get (q := 9) C 3 dX0_darkStreets_6 ((oX1 y aT T).R) rfl iuX0_darkStreets_X1 flX0_darkStreets_104 rfl (by decide) rfl rfl ?_
    refine x_icmp_ge (t := 29) (q := 12) C dX0_darkStreets_9 (by decide) rfl (fun hc => ?_) (fun hc => ?_)
    · have hf := (if_pos hc).symm.trans hf
      refine x_iload_n (q := 30) C 2 dX0_darkStreets_29 rfl rfl rfl ?_
      have hf := Option.some.inj hf
      exact x_iret () C dX0_darkStreets_30 rfl hf rfl (Nat.le_of_ble_eq_true rfl) (Nat.le_of_ble_eq_true rfl)
    · have hf := (if_neg hc).symm.trans hf
      refine x_aload_n (q := 13) C 0 dX0_darkStreets_12 rfl rfl rfl ?_
      refine x_iload_n (q := 14) C 3 dX0_darkStreets_13 rfl rfl rfl ?_
      obtain ⟨v3, hcal4, hf⟩ := bd_some hf
      refine x_callVi (q := 17) C (c0_isDark (l := l) (D := D) (y := y) (aN := aN) hcal4) yi_X0_isDark gX0_darkStreets_X0_isDark rfl (oX0 y aN N) rfl ⟨(Nat.le_of_ble_eq_true rfl), (Nat.le_of_ble_eq_true rfl)⟩ dX0_darkStreets_14 (pm2_0 _ _) rfl rfl (Nat.le_of_ble_eq_true rfl) ⟨(Nat.le_of_ble_eq_true rfl), (Nat.le_of_ble_eq_true rfl)⟩ rfl ?_
      intro rr5 uu hrr
      have hrr : v3 = rr5 := Eq.symm hrr
      subst hrr
      refine x_perm (ws' := nC y aN N ++ tC y aT T) (pm2_0 _ _).symm ?_
      obtain ⟨J23, eJ23, hf⟩ := lt_elim hf
      have hJ23 : ∀ (v6 : Int32), J23 v6 = some r → xV p l e { frames := 1, cells := 0, slots := 0, locals := 21 } s m args below meth c D A (xQi D (xT y) A (fun (r' : Int32) (_ : Unit) => r' = r) (fun _ : Unit => nC y aN N ++ tC y aT T) 0 0 below args s) 4 (nC y aN N ++ tC y aT T) 0 0 [(0, .ref (aN 0)), (1, .ref (aT 0)), (2, .int v6), (3, .int v2)] 23 [] := by
        intro v6 hf
        subst eJ23
        refine x_iinc (q := 26) C 3 (v2 + 1) [1, 2, 3, 0] [(0, .ref (aN 0)), (1, .ref (aT 0)), (2, .int v6), (3, .int (v2 + 1))] dX0_darkStreets_23 rfl (congrArg (fun z => v2 + z) ki_1) (by decide) rfl rfl ?_
        refine x_goto (t := 4) C dX0_darkStreets_26 (by decide) ?_
        exact ih v6 (v2 + 1) hf
      refine x_if_eq (t := 23) (q := 20) C dX0_darkStreets_17 (by decide) rfl (fun hc => ?_) (fun hc => ?_)
      · have hf := (if_pos hc).symm.trans hf
        exact hJ23 v1 hf
      · have hf := (if_neg hc).symm.trans hf
        refine x_iinc (q := 23) C 2 (v1 + 1) [1, 2, 0, 3] [(0, .ref (aN 0)), (1, .ref (aT 0)), (2, .int (v1 + 1)), (3, .int v2)] dX0_darkStreets_20 rfl (congrArg (fun z => v1 + z) ki_1) (by decide) rfl rfl ?_
        exact hJ23 (v1 + 1) hf
set_option maxHeartbeats 4000000 in
set_option maxRecDepth 100000 in
theorem c0_darkStreets {l : Launch} {D : va_G} {y : Nat → ClassId} {aN aT : Nat → Nat} {N : St} {T : St} {r : Int32} (hf : f0_darkStreets N T = some r) : xMi l yX0_darkStreets wsX0_darkStreets 1 21 0 0 D (xT y) [.ref (aN 0), .ref (aT 0)] (nC y aN N ++ tC y aT T) (fun (r' : Int32) (_ : Unit) => r' = r) (fun _ : Unit => nC y aN N ++ tC y aT T) := by
  refine xMi_of (cc := cX0_darkStreets) (nL := 4) (ret := (some .int)) [(0, .ref (aN 0)), (1, .ref (aT 0))] (by decide) rfl (Nat.le_of_ble_eq_true rfl) rfl ?_
  intro p e s m args below meth c A C hin
  have C : xC p s m args meth c D A cX0_darkStreets RX0 4 wsX0_darkStreets (xT y) (some .int) := C
  unfold f0_darkStreets at hf
  refine x_iconst (q := 1) C dX0_darkStreets_0 ki_0 rfl ?_
  refine x_istore_n (q := 2) C [1, 2, 0] [(0, .ref (aN 0)), (1, .ref (aT 0)), (2, .int 0)] dX0_darkStreets_1 rfl (by decide) rfl rfl ?_
  refine x_iconst (q := 3) C dX0_darkStreets_2 ki_0 rfl ?_
  refine x_istore_n (q := 4) C [1, 2, 3, 0] [(0, .ref (aN 0)), (1, .ref (aT 0)), (2, .int 0), (3, .int 0)] dX0_darkStreets_3 rfl (by decide) rfl rfl ?_
  exact w0_darkStreets_L4 C xF 0 0 hf

/-! LampHills$Night.oilOfLamps(LLampHills$Town;)I -/
theorem flX0_oilOfLamps_15 : Cond.fieldLink RX0 15 "LampHills$Night" "oil" "[I" ∈ wsX0_oilOfLamps := by decide +kernel
theorem flX0_oilOfLamps_85 : Cond.fieldLink RX0 85 "LampHills$Town" "lamps" "I" ∈ wsX0_oilOfLamps := by decide +kernel
theorem iuX0_oilOfLamps_X0 : ∀ w ∈ u_ws RX0 TX0 16, w ∈ wsX0_oilOfLamps := fun _ h => List.mem_cons_of_mem _ (List.mem_append_right _ h)
theorem iuX0_oilOfLamps_X1 : ∀ w ∈ u_ws RX1 TX1 17, w ∈ wsX0_oilOfLamps := fun _ h => List.mem_cons_of_mem _ (List.mem_append_left _ (List.mem_append_right _ h))
def f0_oilOfLamps_L4 (N : St) (T : St) : Nat → Int32 → Int32 → Option (Int32)
  | 0, _, _ => none
  | fu + 1, v1, v2 =>
  if (T 7 0) ≤ v2 then
  (
    some v1
  )
  else
  (
    gd (xin v2 20) <|
    lt_ (v1 + (N 4 v2.toNatClampNeg)) fun v4 =>
    f0_oilOfLamps_L4 N T fu v4 (v2 + 1)
  )
def f0_oilOfLamps (N : St) (T : St) : Option (Int32) :=
  f0_oilOfLamps_L4 N T xF 0 0
set_option maxHeartbeats 4000000 in
set_option maxRecDepth 100000 in
theorem w0_oilOfLamps_L4 {p : Program} {l : Launch} {e : Env} {s : State} {m : MethodId} {args : Array Value} {below : List Frame} {meth : Method} {c : Code} {D : va_G} {A : Nat → Prop} {y : Nat → ClassId} {aN aT : Nat → Nat} {N : St} {T : St} {r : Int32} (C : xC p s m args meth c D A cX0_oilOfLamps RX0 4 wsX0_oilOfLamps (xT y) (some .int)) : ∀ (fu : Nat) (v1 : Int32) (v2 : Int32), f0_oilOfLamps_L4 N T fu v1 v2 = some r → xV p l e { frames := 0, cells := 0, slots := 0, locals := 0 } s m args below meth c D A (xQi D (xT y) A (fun (r' : Int32) (_ : Unit) => r' = r) (fun _ : Unit => nC y aN N ++ tC y aT T) 0 0 below args s) 4 (nC y aN N ++ tC y aT T) 0 0 [(0, .ref (aN 0)), (1, .ref (aT 0)), (2, .int v1), (3, .int v2)] 4 [] := by
  intro fu
  induction fu with
  | zero => intro v1 v2 hf; rw [f0_oilOfLamps_L4] at hf; cases hf
  | succ fu ih =>
    intro v1 v2 hf
    rw [f0_oilOfLamps_L4] at hf
    refine x_iload_n (q := 5) C 3 dX0_oilOfLamps_4 rfl rfl rfl ?_
    refine x_aload_n (q := 6) C 1 dX0_oilOfLamps_5 rfl rfl rfl ?_
    refine x_get (q := 9) C 7 dX0_oilOfLamps_6 ((oX1 y aT T).R) rfl iuX0_oilOfLamps_X1 flX0_oilOfLamps_85 rfl (by decide) rfl rfl ?_
    refine x_icmp_ge (t := 27) (q := 12) C dX0_oilOfLamps_9 (by decide) rfl (fun hc => ?_) (fun hc => ?_)
    · have hf := (if_pos hc).symm.trans hf
      refine x_iload_n (q := 28) C 2 dX0_oilOfLamps_27 rfl rfl rfl ?_
      have hf := Option.some.inj hf
      exact x_iret () C dX0_oilOfLamps_28 rfl hf rfl (Nat.le_of_ble_eq_true rfl) (Nat.le_of_ble_eq_true rfl)
    · have hf := (if_neg hc).symm.trans hf
      refine x_iload_n (q := 13) C 2 dX0_oilOfLamps_12 rfl rfl rfl ?_
      refine x_aload_n (q := 14) C 0 dX0_oilOfLamps_13 rfl rfl rfl ?_
      refine x_get (q := 17) C 4 dX0_oilOfLamps_14 ((oX0 y aN N).L) rfl iuX0_oilOfLamps_X0 flX0_oilOfLamps_15 rfl (by decide) rfl rfl ?_
      refine x_iload_n (q := 18) C 3 dX0_oilOfLamps_17 rfl rfl rfl ?_
      obtain ⟨hb3, hf⟩ := gd_some hf
      refine x_iald (q := 19) C 0 dX0_oilOfLamps_18 ((aX0_4 y aN N).L) rfl hb3 rfl ?_
      refine x_iadd (q := 20) C dX0_oilOfLamps_19 rfl ?_
      obtain ⟨v4, ev4, hf⟩ := lt_elim hf
      refine x_topi ev4 ?_
      refine x_istore_n (q := 21) C [1, 2, 0, 3] [(0, .ref (aN 0)), (1, .ref (aT 0)), (2, .int v4), (3, .int v2)] dX0_oilOfLamps_20 rfl (by decide) rfl rfl ?_
      refine x_iinc (q := 24) C 3 (v2 + 1) [1, 2, 3, 0] [(0, .ref (aN 0)), (1, .ref (aT 0)), (2, .int v4), (3, .int (v2 + 1))] dX0_oilOfLamps_21 rfl (congrArg (fun z => v2 + z) ki_1) (by decide) rfl rfl ?_
      refine x_goto (t := 4) C dX0_oilOfLamps_24 (by decide) ?_
      exact ih v4 (v2 + 1) hf
set_option maxHeartbeats 4000000 in
set_option maxRecDepth 100000 in
theorem c0_oilOfLamps {l : Launch} {D : va_G} {y : Nat → ClassId} {aN aT : Nat → Nat} {N : St} {T : St} {r : Int32} (hf : f0_oilOfLamps N T = some r) : xMi l yX0_oilOfLamps wsX0_oilOfLamps 0 0 0 0 D (xT y) [.ref (aN 0), .ref (aT 0)] (nC y aN N ++ tC y aT T) (fun (r' : Int32) (_ : Unit) => r' = r) (fun _ : Unit => nC y aN N ++ tC y aT T) := by
  refine xMi_of (cc := cX0_oilOfLamps) (nL := 4) (ret := (some .int)) [(0, .ref (aN 0)), (1, .ref (aT 0))] (by decide) rfl (Nat.le_of_ble_eq_true rfl) rfl ?_
  intro p e s m args below meth c A C hin
  have C : xC p s m args meth c D A cX0_oilOfLamps RX0 4 wsX0_oilOfLamps (xT y) (some .int) := C
  unfold f0_oilOfLamps at hf
  refine x_iconst (q := 1) C dX0_oilOfLamps_0 ki_0 rfl ?_
  refine x_istore_n (q := 2) C [1, 2, 0] [(0, .ref (aN 0)), (1, .ref (aT 0)), (2, .int 0)] dX0_oilOfLamps_1 rfl (by decide) rfl rfl ?_
  refine x_iconst (q := 3) C dX0_oilOfLamps_2 ki_0 rfl ?_
  refine x_istore_n (q := 4) C [1, 2, 3, 0] [(0, .ref (aN 0)), (1, .ref (aT 0)), (2, .int 0), (3, .int 0)] dX0_oilOfLamps_3 rfl (by decide) rfl rfl ?_
  exact w0_oilOfLamps_L4 C xF 0 0 hf

/-! LampHills$Night.placeOfNextLamp(LLampHills$Town;I)I -/
theorem flX0_placeOfNextLamp_122 : Cond.fieldLink RX0 122 "LampHills$Town" "rounds" "[[I" ∈ wsX0_placeOfNextLamp := by decide +kernel
theorem flX0_placeOfNextLamp_133 : Cond.fieldLink RX0 133 "LampHills$Town" "roundSize" "[I" ∈ wsX0_placeOfNextLamp := by decide +kernel
theorem flX0_placeOfNextLamp_21 : Cond.fieldLink RX0 21 "LampHills$Night" "burns" "[Z" ∈ wsX0_placeOfNextLamp := by decide +kernel
theorem flX0_placeOfNextLamp_31 : Cond.fieldLink RX0 31 "LampHills$Night" "at" "[I" ∈ wsX0_placeOfNextLamp := by decide +kernel
theorem flX0_placeOfNextLamp_46 : Cond.fieldLink RX0 46 "LampHills$Night" "latestPlace" "[I" ∈ wsX0_placeOfNextLamp := by decide +kernel
theorem iuX0_placeOfNextLamp_X0 : ∀ w ∈ u_ws RX0 TX0 16, w ∈ wsX0_placeOfNextLamp := fun _ h => List.mem_cons_of_mem _ (List.mem_append_right _ h)
theorem iuX0_placeOfNextLamp_X1 : ∀ w ∈ u_ws RX1 TX1 17, w ∈ wsX0_placeOfNextLamp := fun _ h => List.mem_cons_of_mem _ (List.mem_append_left _ (List.mem_append_right _ h))
theorem yi_X0_whoGoesTo : xY yX0_whoGoesTo wsX0_whoGoesTo cX0_whoGoesTo 4 (some .int) 2 := ⟨⟨_, rfl⟩, by decide +kernel, by decide +kernel, by decide +kernel⟩
theorem yi_X1_canReach : xY yX1_canReach wsX1_canReach cX1_canReach 4 (some .boolean) 3 := ⟨⟨_, rfl⟩, by decide +kernel, by decide +kernel, by decide +kernel⟩
def f0_placeOfNextLamp_L18 (p2 : Int32) (v2 : Int32) (N : St) (T : St) : Nat → Int32 → Int32 → Option (Int32)
  | 0, _, _ => none
  | fu + 1, v4, v5 =>
  if v2 ≤ v5 then
  (
    some (-1)
  )
  else
  (
    lt_ (fun (v6 : Int32) =>
    (
      gd (xin p2 4) <|
      gd (xin v6 10) <|
      lt_ (T (200 + p2.toNatClampNeg) v6.toNatClampNeg) fun v9 =>
      gd (xin v9 20) <|
      lt_ (fun (u_ : Unit) =>
      (
        f0_placeOfNextLamp_L18 p2 v2 N T fu v6 (v5 + 1)
      )
      ) fun J93 =>
      if (N 6 v9.toNatClampNeg) = 0 then
      (
        bd (f0_whoGoesTo N T v9) fun v11 =>
        if v11 = (-1) then
        (
          bd (f1_canReach T p2 (N 9 p2.toNatClampNeg) v9) fun v14 =>
          if v14 = 0 then
          (
            J93 ()
          )
          else
          (
            some v6
          )
        )
        else
        (
          J93 ()
        )
      )
      else
      (
        J93 ()
      )
    )
    ) fun J40 =>
    if v2 ≤ (v4 + 1) then
    (
      J40 0
    )
    else
    (
      J40 (v4 + 1)
    )
  )
def f0_placeOfNextLamp (N : St) (T : St) (p2 : Int32) : Option (Int32) :=
  gd (xin p2 4) <|
  lt_ (T 15 p2.toNatClampNeg) fun v2 =>
  lt_ (N 14 p2.toNatClampNeg) fun v3 =>
  f0_placeOfNextLamp_L18 p2 v2 N T xF v3 0
set_option maxHeartbeats 4000000 in
set_option maxRecDepth 100000 in
theorem w0_placeOfNextLamp_L18 {p : Program} {l : Launch} {e : Env} {s : State} {m : MethodId} {args : Array Value} {below : List Frame} {meth : Method} {c : Code} {D : va_G} {A : Nat → Prop} {y : Nat → ClassId} {aN aT : Nat → Nat} {N : St} {T : St} {p2 : Int32} {v2 : Int32} {r : Int32} (C : xC p s m args meth c D A cX0_placeOfNextLamp RX0 7 wsX0_placeOfNextLamp (xT y) (some .int)) : ∀ (fu : Nat) (v4 : Int32) (v5 : Int32), f0_placeOfNextLamp_L18 p2 v2 N T fu v4 v5 = some r → xV p l e { frames := 2, cells := 0, slots := 0, locals := 48 } s m args below meth c D A (xQi D (xT y) A (fun (r' : Int32) (_ : Unit) => r' = r) (fun _ : Unit => nC y aN N ++ tC y aT T) 0 0 below args s) 7 (nC y aN N ++ tC y aT T) 0 0 [(0, .ref (aN 0)), (1, .ref (aT 0)), (2, .int p2), (3, .int v2), (4, .int v4), (5, .int v5)] 18 [] := by
  intro fu
  induction fu with
  | zero => intro v4 v5 hf; rw [f0_placeOfNextLamp_L18] at hf; cases hf
  | succ fu ih =>
    intro v4 v5 hf
    rw [f0_placeOfNextLamp_L18] at hf
    refine x_iload (q := 20) C 5 dX0_placeOfNextLamp_18 rfl rfl ?_
    refine x_iload_n (q := 21) C 3 dX0_placeOfNextLamp_20 rfl rfl rfl ?_
    refine x_icmp_ge (t := 99) (q := 24) C dX0_placeOfNextLamp_21 (by decide) rfl (fun hc => ?_) (fun hc => ?_)
    · have hf := (if_pos hc).symm.trans hf
      refine x_iconst (q := 100) C dX0_placeOfNextLamp_99 ki_m1 rfl ?_
      have hf := Option.some.inj hf
      exact x_iret () C dX0_placeOfNextLamp_100 rfl hf rfl (Nat.le_of_ble_eq_true rfl) (Nat.le_of_ble_eq_true rfl)
    · have hf := (if_neg hc).symm.trans hf
      refine x_iload (q := 26) C 4 dX0_placeOfNextLamp_24 rfl rfl ?_
      refine x_iconst (q := 27) C dX0_placeOfNextLamp_26 ki_1 rfl ?_
      refine x_iadd (q := 28) C dX0_placeOfNextLamp_27 rfl ?_
      refine x_iload_n (q := 29) C 3 dX0_placeOfNextLamp_28 rfl rfl rfl ?_
      obtain ⟨J40, eJ40, hf⟩ := lt_elim hf
      have hJ40 : ∀ (v6 : Int32), J40 v6 = some r → xV p l e { frames := 2, cells := 0, slots := 0, locals := 48 } s m args below meth c D A (xQi D (xT y) A (fun (r' : Int32) (_ : Unit) => r' = r) (fun _ : Unit => nC y aN N ++ tC y aT T) 0 0 below args s) 7 (nC y aN N ++ tC y aT T) 0 0 [(0, .ref (aN 0)), (1, .ref (aT 0)), (2, .int p2), (3, .int v2), (5, .int v5)] 40 [.int v6] := by
        intro v6 hf
        subst eJ40
        refine x_istore (q := 42) C [1, 2, 3, 4, 0, 5] [(0, .ref (aN 0)), (1, .ref (aT 0)), (2, .int p2), (3, .int v2), (4, .int v6), (5, .int v5)] dX0_placeOfNextLamp_40 (by decide) rfl rfl ?_
        refine x_aload_n (q := 43) C 1 dX0_placeOfNextLamp_42 rfl rfl rfl ?_
        refine x_get (q := 46) C 16 dX0_placeOfNextLamp_43 ((oX1 y aT T).R) rfl iuX0_placeOfNextLamp_X1 flX0_placeOfNextLamp_122 rfl (by decide) rfl rfl ?_
        refine x_iload_n (q := 47) C 2 dX0_placeOfNextLamp_46 rfl rfl rfl ?_
        obtain ⟨hb7, hf⟩ := gd_some hf
        refine x_aald (q := 48) C 2 dX0_placeOfNextLamp_47 ((gX1_16 y aT T).R) rfl rfl hb7 (if_pos (xin_lt hb7)) rfl ?_
        refine x_iload (q := 50) C 4 dX0_placeOfNextLamp_48 rfl rfl ?_
        obtain ⟨hb8, hf⟩ := gd_some hf
        refine x_iald (q := 51) C 0 dX0_placeOfNextLamp_50 ((aX1_r16 y aT T (xin_lt hb7)).R) rfl hb8 rfl ?_
        obtain ⟨v9, ev9, hf⟩ := lt_elim hf
        refine x_topi ev9 ?_
        refine x_istore (q := 53) C [1, 2, 3, 4, 5, 6, 0] [(0, .ref (aN 0)), (1, .ref (aT 0)), (2, .int p2), (3, .int v2), (4, .int v6), (5, .int v5), (6, .int v9)] dX0_placeOfNextLamp_51 (by decide) rfl rfl ?_
        refine x_aload_n (q := 54) C 0 dX0_placeOfNextLamp_53 rfl rfl rfl ?_
        refine x_get (q := 57) C 6 dX0_placeOfNextLamp_54 ((oX0 y aN N).L) rfl iuX0_placeOfNextLamp_X0 flX0_placeOfNextLamp_21 rfl (by decide) rfl rfl ?_
        refine x_iload (q := 59) C 6 dX0_placeOfNextLamp_57 rfl rfl ?_
        obtain ⟨hb10, hf⟩ := gd_some hf
        refine x_zald (q := 60) C 1 dX0_placeOfNextLamp_59 ((aX0_6 y aN N).L) rfl hb10 rfl ?_
        obtain ⟨J93, eJ93, hf⟩ := lt_elim hf
        have hJ93 : ∀ (u_ : Unit), J93 u_ = some r → xV p l e { frames := 2, cells := 0, slots := 0, locals := 48 } s m args below meth c D A (xQi D (xT y) A (fun (r' : Int32) (_ : Unit) => r' = r) (fun _ : Unit => nC y aN N ++ tC y aT T) 0 0 below args s) 7 (nC y aN N ++ tC y aT T) 0 0 [(0, .ref (aN 0)), (1, .ref (aT 0)), (2, .int p2), (3, .int v2), (4, .int v6), (5, .int v5)] 93 [] := by
          intro u_ hf
          subst eJ93
          refine x_iinc (q := 96) C 5 (v5 + 1) [1, 2, 3, 4, 5, 0] [(0, .ref (aN 0)), (1, .ref (aT 0)), (2, .int p2), (3, .int v2), (4, .int v6), (5, .int (v5 + 1))] dX0_placeOfNextLamp_93 rfl (congrArg (fun z => v5 + z) ki_1) (by decide) rfl rfl ?_
          refine x_goto (t := 18) C dX0_placeOfNextLamp_96 (by decide) ?_
          exact ih v6 (v5 + 1) hf
        refine x_if_ne (t := 93) (q := 63) C dX0_placeOfNextLamp_60 (by decide) rfl (fun hc => ?_) (fun hc => ?_)
        · have hf := (if_neg hc).symm.trans hf
          refine x_sub [0, 1, 2, 3, 4, 5] (L' := [(0, .ref (aN 0)), (1, .ref (aT 0)), (2, .int p2), (3, .int v2), (4, .int v6), (5, .int v5)]) rfl ?_
          exact hJ93 () hf
        · have hf := (if_pos hc).symm.trans hf
          refine x_aload_n (q := 64) C 0 dX0_placeOfNextLamp_63 rfl rfl rfl ?_
          refine x_aload_n (q := 65) C 1 dX0_placeOfNextLamp_64 rfl rfl rfl ?_
          refine x_iload (q := 67) C 6 dX0_placeOfNextLamp_65 rfl rfl ?_
          obtain ⟨v11, hcal12, hf⟩ := bd_some hf
          refine x_callVi (q := 70) C (c0_whoGoesTo (l := l) (D := D) (y := y) (aN := aN) (aT := aT) hcal12) yi_X0_whoGoesTo gX0_placeOfNextLamp_X0_whoGoesTo rfl ((oX0 y aN N).L) rfl ⟨(Nat.le_of_ble_eq_true rfl), (Nat.le_of_ble_eq_true rfl)⟩ dX0_placeOfNextLamp_67 pm_nil rfl rfl (Nat.le_of_ble_eq_true rfl) ⟨(Nat.le_of_ble_eq_true rfl), (Nat.le_of_ble_eq_true rfl)⟩ rfl ?_
          intro rr13 uu hrr
          have hrr : v11 = rr13 := Eq.symm hrr
          subst hrr
          refine x_world (ws' := nC y aN N ++ tC y aT T) (List.append_nil _) ?_
          refine x_iconst (q := 71) C dX0_placeOfNextLamp_70 ki_m1 rfl ?_
          refine x_icmp_ne (t := 93) (q := 74) C dX0_placeOfNextLamp_71 (by decide) rfl (fun hc => ?_) (fun hc => ?_)
          · have hf := (if_neg hc).symm.trans hf
            refine x_sub [0, 1, 2, 3, 4, 5] (L' := [(0, .ref (aN 0)), (1, .ref (aT 0)), (2, .int p2), (3, .int v2), (4, .int v6), (5, .int v5)]) rfl ?_
            exact hJ93 () hf
          · have hf := (if_pos hc).symm.trans hf
            refine x_aload_n (q := 75) C 1 dX0_placeOfNextLamp_74 rfl rfl rfl ?_
            refine x_iload_n (q := 76) C 2 dX0_placeOfNextLamp_75 rfl rfl rfl ?_
            refine x_aload_n (q := 77) C 0 dX0_placeOfNextLamp_76 rfl rfl rfl ?_
            refine x_get (q := 80) C 9 dX0_placeOfNextLamp_77 ((oX0 y aN N).L) rfl iuX0_placeOfNextLamp_X0 flX0_placeOfNextLamp_31 rfl (by decide) rfl rfl ?_
            refine x_iload_n (q := 81) C 2 dX0_placeOfNextLamp_80 rfl rfl rfl ?_
            refine x_iald (q := 82) C 0 dX0_placeOfNextLamp_81 ((aX0_9 y aN N).L) rfl hb7 rfl ?_
            refine x_iload (q := 84) C 6 dX0_placeOfNextLamp_82 rfl rfl ?_
            obtain ⟨v14, hcal15, hf⟩ := bd_some hf
            refine x_callVi (q := 87) C (c1_canReach (l := l) (D := D) (y := y) (aT := aT) hcal15) yi_X1_canReach gX0_placeOfNextLamp_X1_canReach rfl (oX1 y aT T) rfl ⟨(Nat.le_of_ble_eq_true rfl), (Nat.le_of_ble_eq_true rfl)⟩ dX0_placeOfNextLamp_84 (pm2_1 _ _) rfl rfl (Nat.le_of_ble_eq_true rfl) ⟨(Nat.le_of_ble_eq_true rfl), (Nat.le_of_ble_eq_true rfl)⟩ rfl ?_
            intro rr16 uu hrr
            have hrr : v14 = rr16 := Eq.symm hrr
            subst hrr
            refine x_perm (ws' := nC y aN N ++ tC y aT T) (pm2_1 _ _).symm ?_
            refine x_if_eq (t := 93) (q := 90) C dX0_placeOfNextLamp_87 (by decide) rfl (fun hc => ?_) (fun hc => ?_)
            · have hf := (if_pos hc).symm.trans hf
              refine x_sub [0, 1, 2, 3, 4, 5] (L' := [(0, .ref (aN 0)), (1, .ref (aT 0)), (2, .int p2), (3, .int v2), (4, .int v6), (5, .int v5)]) rfl ?_
              exact hJ93 () hf
            · have hf := (if_neg hc).symm.trans hf
              refine x_iload (q := 92) C 4 dX0_placeOfNextLamp_90 rfl rfl ?_
              have hf := Option.some.inj hf
              exact x_iret () C dX0_placeOfNextLamp_92 rfl hf rfl (Nat.le_of_ble_eq_true rfl) (Nat.le_of_ble_eq_true rfl)
      refine x_icmp_ge (t := 39) (q := 32) C dX0_placeOfNextLamp_29 (by decide) rfl (fun hc => ?_) (fun hc => ?_)
      · have hf := (if_pos hc).symm.trans hf
        refine x_iconst (q := 40) C dX0_placeOfNextLamp_39 ki_0 rfl ?_
        refine x_sub [0, 1, 2, 3, 5] (L' := [(0, .ref (aN 0)), (1, .ref (aT 0)), (2, .int p2), (3, .int v2), (5, .int v5)]) rfl ?_
        exact hJ40 0 hf
      · have hf := (if_neg hc).symm.trans hf
        refine x_iload (q := 34) C 4 dX0_placeOfNextLamp_32 rfl rfl ?_
        refine x_iconst (q := 35) C dX0_placeOfNextLamp_34 ki_1 rfl ?_
        refine x_iadd (q := 36) C dX0_placeOfNextLamp_35 rfl ?_
        refine x_goto (t := 40) C dX0_placeOfNextLamp_36 (by decide) ?_
        refine x_sub [0, 1, 2, 3, 5] (L' := [(0, .ref (aN 0)), (1, .ref (aT 0)), (2, .int p2), (3, .int v2), (5, .int v5)]) rfl ?_
        exact hJ40 (v4 + 1) hf
set_option maxHeartbeats 4000000 in
set_option maxRecDepth 100000 in
theorem c0_placeOfNextLamp {l : Launch} {D : va_G} {y : Nat → ClassId} {aN aT : Nat → Nat} {N : St} {T : St} {p2 : Int32} {r : Int32} (hf : f0_placeOfNextLamp N T p2 = some r) : xMi l yX0_placeOfNextLamp wsX0_placeOfNextLamp 2 48 0 0 D (xT y) [.ref (aN 0), .ref (aT 0), .int p2] (nC y aN N ++ tC y aT T) (fun (r' : Int32) (_ : Unit) => r' = r) (fun _ : Unit => nC y aN N ++ tC y aT T) := by
  refine xMi_of (cc := cX0_placeOfNextLamp) (nL := 7) (ret := (some .int)) [(0, .ref (aN 0)), (1, .ref (aT 0)), (2, .int p2)] (by decide) rfl (Nat.le_of_ble_eq_true rfl) rfl ?_
  intro p e s m args below meth c A C hin
  have C : xC p s m args meth c D A cX0_placeOfNextLamp RX0 7 wsX0_placeOfNextLamp (xT y) (some .int) := C
  unfold f0_placeOfNextLamp at hf
  refine x_aload_n (q := 1) C 1 dX0_placeOfNextLamp_0 rfl rfl rfl ?_
  refine x_get (q := 4) C 15 dX0_placeOfNextLamp_1 ((oX1 y aT T).R) rfl iuX0_placeOfNextLamp_X1 flX0_placeOfNextLamp_133 rfl (by decide) rfl rfl ?_
  refine x_iload_n (q := 5) C 2 dX0_placeOfNextLamp_4 rfl rfl rfl ?_
  obtain ⟨hb1, hf⟩ := gd_some hf
  refine x_iald (q := 6) C 0 dX0_placeOfNextLamp_5 ((aX1_15 y aT T).R) rfl hb1 rfl ?_
  obtain ⟨v2, ev2, hf⟩ := lt_elim hf
  refine x_topi ev2 ?_
  refine x_istore_n (q := 7) C [1, 2, 3, 0] [(0, .ref (aN 0)), (1, .ref (aT 0)), (2, .int p2), (3, .int v2)] dX0_placeOfNextLamp_6 rfl (by decide) rfl rfl ?_
  refine x_aload_n (q := 8) C 0 dX0_placeOfNextLamp_7 rfl rfl rfl ?_
  refine x_get (q := 11) C 14 dX0_placeOfNextLamp_8 ((oX0 y aN N).L) rfl iuX0_placeOfNextLamp_X0 flX0_placeOfNextLamp_46 rfl (by decide) rfl rfl ?_
  refine x_iload_n (q := 12) C 2 dX0_placeOfNextLamp_11 rfl rfl rfl ?_
  refine x_iald (q := 13) C 0 dX0_placeOfNextLamp_12 ((aX0_14 y aN N).L) rfl hb1 rfl ?_
  obtain ⟨v3, ev3, hf⟩ := lt_elim hf
  refine x_topi ev3 ?_
  refine x_istore (q := 15) C [1, 2, 3, 4, 0] [(0, .ref (aN 0)), (1, .ref (aT 0)), (2, .int p2), (3, .int v2), (4, .int v3)] dX0_placeOfNextLamp_13 (by decide) rfl rfl ?_
  refine x_iconst (q := 16) C dX0_placeOfNextLamp_15 ki_0 rfl ?_
  refine x_istore (q := 18) C [1, 2, 3, 4, 5, 0] [(0, .ref (aN 0)), (1, .ref (aT 0)), (2, .int p2), (3, .int v2), (4, .int v3), (5, .int 0)] dX0_placeOfNextLamp_16 (by decide) rfl rfl ?_
  exact w0_placeOfNextLamp_L18 C xF v3 0 hf

/-! LampHills$Night.lookForLamp(LLampHills$Town;I)V -/
theorem ki_3 : Int32.ofInt 3 = 3 := by decide
theorem flX0_lookForLamp_122 : Cond.fieldLink RX0 122 "LampHills$Town" "rounds" "[[I" ∈ wsX0_lookForLamp := by decide +kernel
theorem flX0_lookForLamp_130 : Cond.fieldLink RX0 130 "LampHills$Town" "ways" "[[I" ∈ wsX0_lookForLamp := by decide +kernel
theorem flX0_lookForLamp_15 : Cond.fieldLink RX0 15 "LampHills$Night" "oil" "[I" ∈ wsX0_lookForLamp := by decide +kernel
theorem flX0_lookForLamp_31 : Cond.fieldLink RX0 31 "LampHills$Night" "at" "[I" ∈ wsX0_lookForLamp := by decide +kernel
theorem flX0_lookForLamp_34 : Cond.fieldLink RX0 34 "LampHills$Night" "can" "[I" ∈ wsX0_lookForLamp := by decide +kernel
theorem flX0_lookForLamp_37 : Cond.fieldLink RX0 37 "LampHills$Night" "goesTo" "[I" ∈ wsX0_lookForLamp := by decide +kernel
theorem flX0_lookForLamp_40 : Cond.fieldLink RX0 40 "LampHills$Night" "goal" "[I" ∈ wsX0_lookForLamp := by decide +kernel
theorem flX0_lookForLamp_43 : Cond.fieldLink RX0 43 "LampHills$Night" "minutesLeft" "[I" ∈ wsX0_lookForLamp := by decide +kernel
theorem flX0_lookForLamp_46 : Cond.fieldLink RX0 46 "LampHills$Night" "latestPlace" "[I" ∈ wsX0_lookForLamp := by decide +kernel
theorem iuX0_lookForLamp_X0 : ∀ w ∈ u_ws RX0 TX0 16, w ∈ wsX0_lookForLamp := fun _ h => List.mem_cons_of_mem _ (List.mem_append_right _ h)
theorem iuX0_lookForLamp_X1 : ∀ w ∈ u_ws RX1 TX1 17, w ∈ wsX0_lookForLamp := fun _ h => List.mem_cons_of_mem _ (List.mem_append_left _ (List.mem_append_right _ h))
theorem yi_X0_placeOfNextLamp : xY yX0_placeOfNextLamp wsX0_placeOfNextLamp cX0_placeOfNextLamp 7 (some .int) 2 := ⟨⟨_, rfl⟩, by decide +kernel, by decide +kernel, by decide +kernel⟩
def f0_lookForLamp (N : St) (T : St) (p2 : Int32) : Option (St) :=
  bd (f0_placeOfNextLamp N T p2) fun v1 =>
  if v1 = (-1) then
  (
    some N
  )
  else
  (
    gd (xin p2 4) <|
    gd (xin v1 10) <|
    lt_ (T (200 + p2.toNatClampNeg) v1.toNatClampNeg) fun v6 =>
    lt_ (fun (u_ : Unit) =>
    (
      lt_ (up2 N 11 p2.toNatClampNeg v6) fun N7 =>
      lt_ (up2 N7 14 p2.toNatClampNeg v1) fun N8 =>
      bd (f1_nearerEnd T (N8 9 p2.toNatClampNeg) v6) fun v9 =>
      lt_ (up2 N8 12 p2.toNatClampNeg v9) fun N12 =>
      gd (xin (N12 9 p2.toNatClampNeg) 12) <|
      gd (xin (N12 12 p2.toNatClampNeg) 12) <|
      lt_ (up2 N12 13 p2.toNatClampNeg ((T (100 + (N12 9 p2.toNatClampNeg).toNatClampNeg) (N12 12 p2.toNatClampNeg).toNatClampNeg) + 3)) fun N15 =>
      some N15
    )
    ) fun J42 =>
    if 0 < (N 10 p2.toNatClampNeg) then
    (
      J42 ()
    )
    else
    (
      gd (xin v6 20) <|
      if (N 4 v6.toNatClampNeg) ≤ 0 then
      (
        some N
      )
      else
      (
        J42 ()
      )
    )
  )
set_option maxHeartbeats 4000000 in
set_option maxRecDepth 100000 in
theorem c0_lookForLamp {l : Launch} {D : va_G} {y : Nat → ClassId} {aN aT : Nat → Nat} {N : St} {T : St} {p2 : Int32} {N' : St} (hf : f0_lookForLamp N T p2 = some N') : xMv l yX0_lookForLamp wsX0_lookForLamp 3 74 0 0 D (xT y) [.ref (aN 0), .ref (aT 0), .int p2] (nC y aN N ++ tC y aT T) (fun (_ : Unit) => True) (fun _ : Unit => nC y aN N' ++ tC y aT T) := by
  refine xMv_of (cc := cX0_lookForLamp) (nL := 5) (ret := none) [(0, .ref (aN 0)), (1, .ref (aT 0)), (2, .int p2)] (by decide) rfl (Nat.le_of_ble_eq_true rfl) rfl ?_
  intro p e s m args below meth c A C hin
  have C : xC p s m args meth c D A cX0_lookForLamp RX0 5 wsX0_lookForLamp (xT y) none := C
  unfold f0_lookForLamp at hf
  refine x_aload_n (q := 1) C 0 dX0_lookForLamp_0 rfl rfl rfl ?_
  refine x_aload_n (q := 2) C 1 dX0_lookForLamp_1 rfl rfl rfl ?_
  refine x_iload_n (q := 3) C 2 dX0_lookForLamp_2 rfl rfl rfl ?_
  obtain ⟨v1, hcal2, hf⟩ := bd_some hf
  refine x_callVi (q := 6) C (c0_placeOfNextLamp (l := l) (D := D) (y := y) (aN := aN) (aT := aT) hcal2) yi_X0_placeOfNextLamp gX0_lookForLamp_X0_placeOfNextLamp rfl ((oX0 y aN N).L) rfl ⟨(Nat.le_of_ble_eq_true rfl), (Nat.le_of_ble_eq_true rfl)⟩ dX0_lookForLamp_3 pm_nil rfl rfl (Nat.le_of_ble_eq_true rfl) ⟨(Nat.le_of_ble_eq_true rfl), (Nat.le_of_ble_eq_true rfl)⟩ rfl ?_
  intro rr3 uu hrr
  have hrr : v1 = rr3 := Eq.symm hrr
  subst hrr
  refine x_world (ws' := nC y aN N ++ tC y aT T) (List.append_nil _) ?_
  refine x_istore_n (q := 7) C [1, 2, 3, 0] [(0, .ref (aN 0)), (1, .ref (aT 0)), (2, .int p2), (3, .int v1)] dX0_lookForLamp_6 rfl (by decide) rfl rfl ?_
  refine x_iload_n (q := 8) C 3 dX0_lookForLamp_7 rfl rfl rfl ?_
  refine x_iconst (q := 9) C dX0_lookForLamp_8 ki_m1 rfl ?_
  refine x_icmp_ne (t := 13) (q := 12) C dX0_lookForLamp_9 (by decide) rfl (fun hc => ?_) (fun hc => ?_)
  · have hf := (if_neg hc).symm.trans hf
    refine x_aload_n (q := 14) C 1 dX0_lookForLamp_13 rfl rfl rfl ?_
    refine x_get (q := 17) C 16 dX0_lookForLamp_14 ((oX1 y aT T).R) rfl iuX0_lookForLamp_X1 flX0_lookForLamp_122 rfl (by decide) rfl rfl ?_
    refine x_iload_n (q := 18) C 2 dX0_lookForLamp_17 rfl rfl rfl ?_
    obtain ⟨hb4, hf⟩ := gd_some hf
    refine x_aald (q := 19) C 2 dX0_lookForLamp_18 ((gX1_16 y aT T).R) rfl rfl hb4 (if_pos (xin_lt hb4)) rfl ?_
    refine x_iload_n (q := 20) C 3 dX0_lookForLamp_19 rfl rfl rfl ?_
    obtain ⟨hb5, hf⟩ := gd_some hf
    refine x_iald (q := 21) C 0 dX0_lookForLamp_20 ((aX1_r16 y aT T (xin_lt hb4)).R) rfl hb5 rfl ?_
    obtain ⟨v6, ev6, hf⟩ := lt_elim hf
    refine x_topi ev6 ?_
    refine x_istore (q := 23) C [1, 2, 3, 4, 0] [(0, .ref (aN 0)), (1, .ref (aT 0)), (2, .int p2), (3, .int v1), (4, .int v6)] dX0_lookForLamp_21 (by decide) rfl rfl ?_
    refine x_aload_n (q := 24) C 0 dX0_lookForLamp_23 rfl rfl rfl ?_
    refine x_get (q := 27) C 10 dX0_lookForLamp_24 ((oX0 y aN N).L) rfl iuX0_lookForLamp_X0 flX0_lookForLamp_34 rfl (by decide) rfl rfl ?_
    refine x_iload_n (q := 28) C 2 dX0_lookForLamp_27 rfl rfl rfl ?_
    refine x_iald (q := 29) C 0 dX0_lookForLamp_28 ((aX0_10 y aN N).L) rfl hb4 rfl ?_
    obtain ⟨J42, eJ42, hf⟩ := lt_elim hf
    have hJ42 : ∀ (u_ : Unit), J42 u_ = some N' → xV p l e { frames := 3, cells := 0, slots := 0, locals := 74 } s m args below meth c D A (xQv D (xT y) A (fun (_ : Unit) => True) (fun _ : Unit => nC y aN N' ++ tC y aT T) 0 0 below args s) 5 (nC y aN N ++ tC y aT T) 0 0 [(0, .ref (aN 0)), (1, .ref (aT 0)), (2, .int p2), (3, .int v1), (4, .int v6)] 42 [] := by
      intro u_ hf
      subst eJ42
      refine x_aload_n (q := 43) C 0 dX0_lookForLamp_42 rfl rfl rfl ?_
      refine x_get (q := 46) C 11 dX0_lookForLamp_43 ((oX0 y aN N).L) rfl iuX0_lookForLamp_X0 flX0_lookForLamp_37 rfl (by decide) rfl rfl ?_
      refine x_iload_n (q := 47) C 2 dX0_lookForLamp_46 rfl rfl rfl ?_
      refine x_iload (q := 49) C 4 dX0_lookForLamp_47 rfl rfl ?_
      obtain ⟨N7, eN7, hf⟩ := lt_elim hf
      refine x_iast (q := 50) (ws' := nC y aN N7 ++ tC y aT T) C 0 dX0_lookForLamp_49 ((aX0_11 y aN N).L) rfl hb4 (congrArg (fun z => nC y aN z ++ tC y aT T) eN7.symm) rfl ?_
      refine x_aload_n (q := 51) C 0 dX0_lookForLamp_50 rfl rfl rfl ?_
      refine x_get (q := 54) C 14 dX0_lookForLamp_51 ((oX0 y aN N7).L) rfl iuX0_lookForLamp_X0 flX0_lookForLamp_46 rfl (by decide) rfl rfl ?_
      refine x_iload_n (q := 55) C 2 dX0_lookForLamp_54 rfl rfl rfl ?_
      refine x_iload_n (q := 56) C 3 dX0_lookForLamp_55 rfl rfl rfl ?_
      obtain ⟨N8, eN8, hf⟩ := lt_elim hf
      refine x_iast (q := 57) (ws' := nC y aN N8 ++ tC y aT T) C 0 dX0_lookForLamp_56 ((aX0_14 y aN N7).L) rfl hb4 (congrArg (fun z => nC y aN z ++ tC y aT T) eN8.symm) rfl ?_
      refine x_aload_n (q := 58) C 0 dX0_lookForLamp_57 rfl rfl rfl ?_
      refine x_get (q := 61) C 12 dX0_lookForLamp_58 ((oX0 y aN N8).L) rfl iuX0_lookForLamp_X0 flX0_lookForLamp_40 rfl (by decide) rfl rfl ?_
      refine x_iload_n (q := 62) C 2 dX0_lookForLamp_61 rfl rfl rfl ?_
      refine x_aload_n (q := 63) C 1 dX0_lookForLamp_62 rfl rfl rfl ?_
      refine x_aload_n (q := 64) C 0 dX0_lookForLamp_63 rfl rfl rfl ?_
      refine x_get (q := 67) C 9 dX0_lookForLamp_64 ((oX0 y aN N8).L) rfl iuX0_lookForLamp_X0 flX0_lookForLamp_31 rfl (by decide) rfl rfl ?_
      refine x_iload_n (q := 68) C 2 dX0_lookForLamp_67 rfl rfl rfl ?_
      refine x_iald (q := 69) C 0 dX0_lookForLamp_68 ((aX0_9 y aN N8).L) rfl hb4 rfl ?_
      refine x_iload (q := 71) C 4 dX0_lookForLamp_69 rfl rfl ?_
      obtain ⟨v9, hcal10, hf⟩ := bd_some hf
      refine x_callVi (q := 74) C (c1_nearerEnd (l := l) (D := D) (y := y) (aT := aT) hcal10) yi_X1_nearerEnd gX0_lookForLamp_X1_nearerEnd rfl (oX1 y aT T) rfl ⟨(Nat.le_of_ble_eq_true rfl), (Nat.le_of_ble_eq_true rfl)⟩ dX0_lookForLamp_71 (pm2_1 _ _) rfl rfl (Nat.le_of_ble_eq_true rfl) ⟨(Nat.le_of_ble_eq_true rfl), (Nat.le_of_ble_eq_true rfl)⟩ rfl ?_
      intro rr11 uu hrr
      have hrr : v9 = rr11 := Eq.symm hrr
      subst hrr
      refine x_perm (ws' := nC y aN N8 ++ tC y aT T) (pm2_1 _ _).symm ?_
      obtain ⟨N12, eN12, hf⟩ := lt_elim hf
      refine x_iast (q := 75) (ws' := nC y aN N12 ++ tC y aT T) C 0 dX0_lookForLamp_74 ((aX0_12 y aN N8).L) rfl hb4 (congrArg (fun z => nC y aN z ++ tC y aT T) eN12.symm) rfl ?_
      refine x_aload_n (q := 76) C 0 dX0_lookForLamp_75 rfl rfl rfl ?_
      refine x_get (q := 79) C 13 dX0_lookForLamp_76 ((oX0 y aN N12).L) rfl iuX0_lookForLamp_X0 flX0_lookForLamp_43 rfl (by decide) rfl rfl ?_
      refine x_iload_n (q := 80) C 2 dX0_lookForLamp_79 rfl rfl rfl ?_
      refine x_aload_n (q := 81) C 1 dX0_lookForLamp_80 rfl rfl rfl ?_
      refine x_get (q := 84) C 2 dX0_lookForLamp_81 ((oX1 y aT T).R) rfl iuX0_lookForLamp_X1 flX0_lookForLamp_130 rfl (by decide) rfl rfl ?_
      refine x_aload_n (q := 85) C 0 dX0_lookForLamp_84 rfl rfl rfl ?_
      refine x_get (q := 88) C 9 dX0_lookForLamp_85 ((oX0 y aN N12).L) rfl iuX0_lookForLamp_X0 flX0_lookForLamp_31 rfl (by decide) rfl rfl ?_
      refine x_iload_n (q := 89) C 2 dX0_lookForLamp_88 rfl rfl rfl ?_
      refine x_iald (q := 90) C 0 dX0_lookForLamp_89 ((aX0_9 y aN N12).L) rfl hb4 rfl ?_
      obtain ⟨hb13, hf⟩ := gd_some hf
      refine x_aald (q := 91) C 2 dX0_lookForLamp_90 ((gX1_2 y aT T).R) rfl rfl hb13 (if_pos (xin_lt hb13)) rfl ?_
      refine x_aload_n (q := 92) C 0 dX0_lookForLamp_91 rfl rfl rfl ?_
      refine x_get (q := 95) C 12 dX0_lookForLamp_92 ((oX0 y aN N12).L) rfl iuX0_lookForLamp_X0 flX0_lookForLamp_40 rfl (by decide) rfl rfl ?_
      refine x_iload_n (q := 96) C 2 dX0_lookForLamp_95 rfl rfl rfl ?_
      refine x_iald (q := 97) C 0 dX0_lookForLamp_96 ((aX0_12 y aN N12).L) rfl hb4 rfl ?_
      obtain ⟨hb14, hf⟩ := gd_some hf
      refine x_iald (q := 98) C 0 dX0_lookForLamp_97 ((aX1_r2 y aT T (xin_lt hb13)).R) rfl hb14 rfl ?_
      refine x_iconst (q := 99) C dX0_lookForLamp_98 ki_3 rfl ?_
      refine x_iadd (q := 100) C dX0_lookForLamp_99 rfl ?_
      obtain ⟨N15, eN15, hf⟩ := lt_elim hf
      refine x_iast (q := 101) (ws' := nC y aN N15 ++ tC y aT T) C 0 dX0_lookForLamp_100 ((aX0_13 y aN N12).L) rfl hb4 (congrArg (fun z => nC y aN z ++ tC y aT T) eN15.symm) rfl ?_
      have hf := Option.some.inj hf
      exact x_vret () C dX0_lookForLamp_101 rfl trivial (congrArg (fun z => nC y aN z ++ tC y aT T) hf) (Nat.le_of_ble_eq_true rfl) (Nat.le_of_ble_eq_true rfl)
    refine x_if_gt (t := 42) (q := 32) C dX0_lookForLamp_29 (by decide) rfl (fun hc => ?_) (fun hc => ?_)
    · have hf := (if_pos hc).symm.trans hf
      exact hJ42 () hf
    · have hf := (if_neg hc).symm.trans hf
      refine x_aload_n (q := 33) C 0 dX0_lookForLamp_32 rfl rfl rfl ?_
      refine x_get (q := 36) C 4 dX0_lookForLamp_33 ((oX0 y aN N).L) rfl iuX0_lookForLamp_X0 flX0_lookForLamp_15 rfl (by decide) rfl rfl ?_
      refine x_iload (q := 38) C 4 dX0_lookForLamp_36 rfl rfl ?_
      obtain ⟨hb16, hf⟩ := gd_some hf
      refine x_iald (q := 39) C 0 dX0_lookForLamp_38 ((aX0_4 y aN N).L) rfl hb16 rfl ?_
      refine x_if_le (t := 101) (q := 42) C dX0_lookForLamp_39 (by decide) rfl (fun hc => ?_) (fun hc => ?_)
      · have hf := (if_pos hc).symm.trans hf
        have hf := Option.some.inj hf
        exact x_vret () C dX0_lookForLamp_101 rfl trivial (congrArg (fun z => nC y aN z ++ tC y aT T) hf) (Nat.le_of_ble_eq_true rfl) (Nat.le_of_ble_eq_true rfl)
      · have hf := (if_neg hc).symm.trans hf
        exact hJ42 () hf
  · have hf := (if_pos hc).symm.trans hf
    have hf := Option.some.inj hf
    exact x_vret () C dX0_lookForLamp_12 rfl trivial (congrArg (fun z => nC y aN z ++ tC y aT T) hf) (Nat.le_of_ble_eq_true rfl) (Nat.le_of_ble_eq_true rfl)

/-! LampHills$Night.tendLamp(LLampHills$Town;I)Z -/
theorem ks_300 : (Int16.ofInt 300).toInt32 = 300 := by decide
theorem flX0_tendLamp_148 : Cond.fieldLink RX0 148 "LampHills$Town" "lampStreet" "[I" ∈ wsX0_tendLamp := by decide +kernel
theorem flX0_tendLamp_15 : Cond.fieldLink RX0 15 "LampHills$Night" "oil" "[I" ∈ wsX0_tendLamp := by decide +kernel
theorem flX0_tendLamp_18 : Cond.fieldLink RX0 18 "LampHills$Night" "soot" "[I" ∈ wsX0_tendLamp := by decide +kernel
theorem flX0_tendLamp_21 : Cond.fieldLink RX0 21 "LampHills$Night" "burns" "[Z" ∈ wsX0_tendLamp := by decide +kernel
theorem flX0_tendLamp_25 : Cond.fieldLink RX0 25 "LampHills$Night" "timesLit" "[I" ∈ wsX0_tendLamp := by decide +kernel
theorem flX0_tendLamp_31 : Cond.fieldLink RX0 31 "LampHills$Night" "at" "[I" ∈ wsX0_tendLamp := by decide +kernel
theorem flX0_tendLamp_34 : Cond.fieldLink RX0 34 "LampHills$Night" "can" "[I" ∈ wsX0_tendLamp := by decide +kernel
theorem flX0_tendLamp_37 : Cond.fieldLink RX0 37 "LampHills$Night" "goesTo" "[I" ∈ wsX0_tendLamp := by decide +kernel
theorem flX0_tendLamp_40 : Cond.fieldLink RX0 40 "LampHills$Night" "goal" "[I" ∈ wsX0_tendLamp := by decide +kernel
theorem flX0_tendLamp_49 : Cond.fieldLink RX0 49 "LampHills$Night" "litBy" "[I" ∈ wsX0_tendLamp := by decide +kernel
theorem flX0_tendLamp_9 : Cond.fieldLink RX0 9 "LampHills$Night" "burningIn" "[I" ∈ wsX0_tendLamp := by decide +kernel
theorem iuX0_tendLamp_X0 : ∀ w ∈ u_ws RX0 TX0 16, w ∈ wsX0_tendLamp := fun _ h => List.mem_cons_of_mem _ (List.mem_append_left _ (List.mem_append_right _ h))
theorem iuX0_tendLamp_X1 : ∀ w ∈ u_ws RX1 TX1 17, w ∈ wsX0_tendLamp := fun _ h => List.mem_cons_of_mem _ (List.mem_append_right _ h)
theorem kmX0_tendLamp_143 : ∀ w ∈ ([.methodLink RX0 143 Lib.Math.min.name, .static Lib.Math.min.name, .initialized "java/lang/Math", .code Lib.Math.min.name Lib.Math.min.code 2 (some .int)] : List Cond), w ∈ wsX0_tendLamp := by decide +kernel
def f0_tendLamp (N : St) (T : St) (p2 : Int32) : Option (Int32 × St) :=
  gd (xin p2 4) <|
  lt_ (N 11 p2.toNatClampNeg) fun v2 =>
  lt_ (up2 N 9 p2.toNatClampNeg (N 12 p2.toNatClampNeg)) fun N3 =>
  bd (f0_waitFromNow N3 p2) fun N4 =>
  gd (xin v2 20) <|
  lt_ (if (300 - (N4 4 v2.toNatClampNeg)) < (N4 10 p2.toNatClampNeg) then (300 - (N4 4 v2.toNatClampNeg)) else (N4 10 p2.toNatClampNeg)) fun v7 =>
  lt_ (up2 N4 10 p2.toNatClampNeg ((N4 10 p2.toNatClampNeg) - v7)) fun N8 =>
  lt_ (up2 N8 4 v2.toNatClampNeg ((N8 4 v2.toNatClampNeg) + v7)) fun N9 =>
  lt_ (up2 N9 5 v2.toNatClampNeg 0) fun N10 =>
  if (N10 4 v2.toNatClampNeg) = 0 then
  (
    some (0, N10)
  )
  else
  (
    lt_ (up2 N10 6 v2.toNatClampNeg (vp_nar .boolean 1)) fun N11 =>
    gd (xin (T 8 v2.toNatClampNeg) 18) <|
    lt_ (up2 N11 3 (T 8 v2.toNatClampNeg).toNatClampNeg ((N11 3 (T 8 v2.toNatClampNeg).toNatClampNeg) + 1)) fun N13 =>
    lt_ (up2 N13 7 v2.toNatClampNeg ((N13 7 v2.toNatClampNeg) + 1)) fun N14 =>
    lt_ (up2 N14 15 p2.toNatClampNeg ((N14 15 p2.toNatClampNeg) + 1)) fun N15 =>
    some (1, N15)
  )
set_option maxHeartbeats 4000000 in
set_option maxRecDepth 100000 in
theorem c0_tendLamp {l : Launch} {D : va_G} {y : Nat → ClassId} {aN aT : Nat → Nat} {N : St} {T : St} {p2 : Int32} {r : Int32} {N' : St} (hf : f0_tendLamp N T p2 = some (r, N')) : xMi l yX0_tendLamp wsX0_tendLamp 1 48 0 0 D (xT y) [.ref (aN 0), .ref (aT 0), .int p2] (nC y aN N ++ tC y aT T) (fun (r' : Int32) (_ : Unit) => r' = r) (fun _ : Unit => nC y aN N' ++ tC y aT T) := by
  refine xMi_of (cc := cX0_tendLamp) (nL := 5) (ret := (some .boolean)) [(0, .ref (aN 0)), (1, .ref (aT 0)), (2, .int p2)] (by decide) rfl (Nat.le_of_ble_eq_true rfl) rfl ?_
  intro p e s m args below meth c A C hin
  have C : xC p s m args meth c D A cX0_tendLamp RX0 5 wsX0_tendLamp (xT y) (some .boolean) := C
  unfold f0_tendLamp at hf
  refine x_aload_n (q := 1) C 0 dX0_tendLamp_0 rfl rfl rfl ?_
  refine x_get (q := 4) C 11 dX0_tendLamp_1 ((oX0 y aN N).L) rfl iuX0_tendLamp_X0 flX0_tendLamp_37 rfl (by decide) rfl rfl ?_
  refine x_iload_n (q := 5) C 2 dX0_tendLamp_4 rfl rfl rfl ?_
  obtain ⟨hb1, hf⟩ := gd_some hf
  refine x_iald (q := 6) C 0 dX0_tendLamp_5 ((aX0_11 y aN N).L) rfl hb1 rfl ?_
  obtain ⟨v2, ev2, hf⟩ := lt_elim hf
  refine x_topi ev2 ?_
  refine x_istore_n (q := 7) C [1, 2, 3, 0] [(0, .ref (aN 0)), (1, .ref (aT 0)), (2, .int p2), (3, .int v2)] dX0_tendLamp_6 rfl (by decide) rfl rfl ?_
  refine x_aload_n (q := 8) C 0 dX0_tendLamp_7 rfl rfl rfl ?_
  refine x_get (q := 11) C 9 dX0_tendLamp_8 ((oX0 y aN N).L) rfl iuX0_tendLamp_X0 flX0_tendLamp_31 rfl (by decide) rfl rfl ?_
  refine x_iload_n (q := 12) C 2 dX0_tendLamp_11 rfl rfl rfl ?_
  refine x_aload_n (q := 13) C 0 dX0_tendLamp_12 rfl rfl rfl ?_
  refine x_get (q := 16) C 12 dX0_tendLamp_13 ((oX0 y aN N).L) rfl iuX0_tendLamp_X0 flX0_tendLamp_40 rfl (by decide) rfl rfl ?_
  refine x_iload_n (q := 17) C 2 dX0_tendLamp_16 rfl rfl rfl ?_
  refine x_iald (q := 18) C 0 dX0_tendLamp_17 ((aX0_12 y aN N).L) rfl hb1 rfl ?_
  obtain ⟨N3, eN3, hf⟩ := lt_elim hf
  refine x_iast (q := 19) (ws' := nC y aN N3 ++ tC y aT T) C 0 dX0_tendLamp_18 ((aX0_9 y aN N).L) rfl hb1 (congrArg (fun z => nC y aN z ++ tC y aT T) eN3.symm) rfl ?_
  refine x_aload_n (q := 20) C 0 dX0_tendLamp_19 rfl rfl rfl ?_
  refine x_iload_n (q := 21) C 2 dX0_tendLamp_20 rfl rfl rfl ?_
  obtain ⟨N4, hcal5, hf⟩ := bd_some hf
  refine x_callVv (q := 24) C (c0_waitFromNow (l := l) (D := D) (y := y) (aN := aN) hcal5) yi_X0_waitFromNow gX0_tendLamp_X0_waitFromNow rfl (oX0 y aN N3) rfl ⟨(Nat.le_of_ble_eq_true rfl), (Nat.le_of_ble_eq_true rfl)⟩ dX0_tendLamp_21 (pm2_0 _ _) rfl rfl (Nat.le_of_ble_eq_true rfl) ⟨(Nat.le_of_ble_eq_true rfl), (Nat.le_of_ble_eq_true rfl)⟩ rfl ?_
  intro uu hrr
  refine x_perm (ws' := nC y aN N4 ++ tC y aT T) (pm2_0 _ _).symm ?_
  refine x_aload_n (q := 25) C 0 dX0_tendLamp_24 rfl rfl rfl ?_
  refine x_get (q := 28) C 10 dX0_tendLamp_25 ((oX0 y aN N4).L) rfl iuX0_tendLamp_X0 flX0_tendLamp_34 rfl (by decide) rfl rfl ?_
  refine x_iload_n (q := 29) C 2 dX0_tendLamp_28 rfl rfl rfl ?_
  refine x_iald (q := 30) C 0 dX0_tendLamp_29 ((aX0_10 y aN N4).L) rfl hb1 rfl ?_
  refine x_sipush (q := 33) C dX0_tendLamp_30 ks_300 rfl ?_
  refine x_aload_n (q := 34) C 0 dX0_tendLamp_33 rfl rfl rfl ?_
  refine x_get (q := 37) C 4 dX0_tendLamp_34 ((oX0 y aN N4).L) rfl iuX0_tendLamp_X0 flX0_tendLamp_15 rfl (by decide) rfl rfl ?_
  refine x_iload_n (q := 38) C 3 dX0_tendLamp_37 rfl rfl rfl ?_
  obtain ⟨hb6, hf⟩ := gd_some hf
  refine x_iald (q := 39) C 0 dX0_tendLamp_38 ((aX0_4 y aN N4).L) rfl hb6 rfl ?_
  refine x_isub (q := 40) C dX0_tendLamp_39 rfl ?_
  refine x_mmin (q := 43) C dX0_tendLamp_40 kmX0_tendLamp_143 (Nat.le_of_ble_eq_true rfl) (Nat.le_of_ble_eq_true rfl) (Nat.le_of_ble_eq_true rfl) (Nat.le_of_ble_eq_true rfl) rfl ?_
  obtain ⟨v7, ev7, hf⟩ := lt_elim hf
  refine x_topi ev7 ?_
  refine x_istore (q := 45) C [1, 2, 3, 4, 0] [(0, .ref (aN 0)), (1, .ref (aT 0)), (2, .int p2), (3, .int v2), (4, .int v7)] dX0_tendLamp_43 (by decide) rfl rfl ?_
  refine x_aload_n (q := 46) C 0 dX0_tendLamp_45 rfl rfl rfl ?_
  refine x_get (q := 49) C 10 dX0_tendLamp_46 ((oX0 y aN N4).L) rfl iuX0_tendLamp_X0 flX0_tendLamp_34 rfl (by decide) rfl rfl ?_
  refine x_iload_n (q := 50) C 2 dX0_tendLamp_49 rfl rfl rfl ?_
  refine x_dup2 (q := 51) C dX0_tendLamp_50 rfl rfl rfl ?_
  refine x_iald (q := 52) C 0 dX0_tendLamp_51 ((aX0_10 y aN N4).L) rfl hb1 rfl ?_
  refine x_iload (q := 54) C 4 dX0_tendLamp_52 rfl rfl ?_
  refine x_isub (q := 55) C dX0_tendLamp_54 rfl ?_
  obtain ⟨N8, eN8, hf⟩ := lt_elim hf
  refine x_iast (q := 56) (ws' := nC y aN N8 ++ tC y aT T) C 0 dX0_tendLamp_55 ((aX0_10 y aN N4).L) rfl hb1 (congrArg (fun z => nC y aN z ++ tC y aT T) eN8.symm) rfl ?_
  refine x_aload_n (q := 57) C 0 dX0_tendLamp_56 rfl rfl rfl ?_
  refine x_get (q := 60) C 4 dX0_tendLamp_57 ((oX0 y aN N8).L) rfl iuX0_tendLamp_X0 flX0_tendLamp_15 rfl (by decide) rfl rfl ?_
  refine x_iload_n (q := 61) C 3 dX0_tendLamp_60 rfl rfl rfl ?_
  refine x_dup2 (q := 62) C dX0_tendLamp_61 rfl rfl rfl ?_
  refine x_iald (q := 63) C 0 dX0_tendLamp_62 ((aX0_4 y aN N8).L) rfl hb6 rfl ?_
  refine x_iload (q := 65) C 4 dX0_tendLamp_63 rfl rfl ?_
  refine x_iadd (q := 66) C dX0_tendLamp_65 rfl ?_
  obtain ⟨N9, eN9, hf⟩ := lt_elim hf
  refine x_iast (q := 67) (ws' := nC y aN N9 ++ tC y aT T) C 0 dX0_tendLamp_66 ((aX0_4 y aN N8).L) rfl hb6 (congrArg (fun z => nC y aN z ++ tC y aT T) eN9.symm) rfl ?_
  refine x_aload_n (q := 68) C 0 dX0_tendLamp_67 rfl rfl rfl ?_
  refine x_get (q := 71) C 5 dX0_tendLamp_68 ((oX0 y aN N9).L) rfl iuX0_tendLamp_X0 flX0_tendLamp_18 rfl (by decide) rfl rfl ?_
  refine x_iload_n (q := 72) C 3 dX0_tendLamp_71 rfl rfl rfl ?_
  refine x_iconst (q := 73) C dX0_tendLamp_72 ki_0 rfl ?_
  obtain ⟨N10, eN10, hf⟩ := lt_elim hf
  refine x_iast (q := 74) (ws' := nC y aN N10 ++ tC y aT T) C 0 dX0_tendLamp_73 ((aX0_5 y aN N9).L) rfl hb6 (congrArg (fun z => nC y aN z ++ tC y aT T) eN10.symm) rfl ?_
  refine x_aload_n (q := 75) C 0 dX0_tendLamp_74 rfl rfl rfl ?_
  refine x_get (q := 78) C 4 dX0_tendLamp_75 ((oX0 y aN N10).L) rfl iuX0_tendLamp_X0 flX0_tendLamp_15 rfl (by decide) rfl rfl ?_
  refine x_iload_n (q := 79) C 3 dX0_tendLamp_78 rfl rfl rfl ?_
  refine x_iald (q := 80) C 0 dX0_tendLamp_79 ((aX0_4 y aN N10).L) rfl hb6 rfl ?_
  refine x_if_ne (t := 85) (q := 83) C dX0_tendLamp_80 (by decide) rfl (fun hc => ?_) (fun hc => ?_)
  · have hf := (if_neg hc).symm.trans hf
    refine x_aload_n (q := 86) C 0 dX0_tendLamp_85 rfl rfl rfl ?_
    refine x_get (q := 89) C 6 dX0_tendLamp_86 ((oX0 y aN N10).L) rfl iuX0_tendLamp_X0 flX0_tendLamp_21 rfl (by decide) rfl rfl ?_
    refine x_iload_n (q := 90) C 3 dX0_tendLamp_89 rfl rfl rfl ?_
    refine x_iconst (q := 91) C dX0_tendLamp_90 ki_1 rfl ?_
    obtain ⟨N11, eN11, hf⟩ := lt_elim hf
    refine x_zast (q := 92) (ws' := nC y aN N11 ++ tC y aT T) C 1 dX0_tendLamp_91 ((aX0_6 y aN N10).L) rfl hb6 (congrArg (fun z => nC y aN z ++ tC y aT T) eN11.symm) rfl ?_
    refine x_aload_n (q := 93) C 0 dX0_tendLamp_92 rfl rfl rfl ?_
    refine x_get (q := 96) C 3 dX0_tendLamp_93 ((oX0 y aN N11).L) rfl iuX0_tendLamp_X0 flX0_tendLamp_9 rfl (by decide) rfl rfl ?_
    refine x_aload_n (q := 97) C 1 dX0_tendLamp_96 rfl rfl rfl ?_
    refine x_get (q := 100) C 8 dX0_tendLamp_97 ((oX1 y aT T).R) rfl iuX0_tendLamp_X1 flX0_tendLamp_148 rfl (by decide) rfl rfl ?_
    refine x_iload_n (q := 101) C 3 dX0_tendLamp_100 rfl rfl rfl ?_
    refine x_iald (q := 102) C 0 dX0_tendLamp_101 ((aX1_8 y aT T).R) rfl hb6 rfl ?_
    refine x_dup2 (q := 103) C dX0_tendLamp_102 rfl rfl rfl ?_
    obtain ⟨hb12, hf⟩ := gd_some hf
    refine x_iald (q := 104) C 0 dX0_tendLamp_103 ((aX0_3 y aN N11).L) rfl hb12 rfl ?_
    refine x_iconst (q := 105) C dX0_tendLamp_104 ki_1 rfl ?_
    refine x_iadd (q := 106) C dX0_tendLamp_105 rfl ?_
    obtain ⟨N13, eN13, hf⟩ := lt_elim hf
    refine x_iast (q := 107) (ws' := nC y aN N13 ++ tC y aT T) C 0 dX0_tendLamp_106 ((aX0_3 y aN N11).L) rfl hb12 (congrArg (fun z => nC y aN z ++ tC y aT T) eN13.symm) rfl ?_
    refine x_aload_n (q := 108) C 0 dX0_tendLamp_107 rfl rfl rfl ?_
    refine x_get (q := 111) C 7 dX0_tendLamp_108 ((oX0 y aN N13).L) rfl iuX0_tendLamp_X0 flX0_tendLamp_25 rfl (by decide) rfl rfl ?_
    refine x_iload_n (q := 112) C 3 dX0_tendLamp_111 rfl rfl rfl ?_
    refine x_dup2 (q := 113) C dX0_tendLamp_112 rfl rfl rfl ?_
    refine x_iald (q := 114) C 0 dX0_tendLamp_113 ((aX0_7 y aN N13).L) rfl hb6 rfl ?_
    refine x_iconst (q := 115) C dX0_tendLamp_114 ki_1 rfl ?_
    refine x_iadd (q := 116) C dX0_tendLamp_115 rfl ?_
    obtain ⟨N14, eN14, hf⟩ := lt_elim hf
    refine x_iast (q := 117) (ws' := nC y aN N14 ++ tC y aT T) C 0 dX0_tendLamp_116 ((aX0_7 y aN N13).L) rfl hb6 (congrArg (fun z => nC y aN z ++ tC y aT T) eN14.symm) rfl ?_
    refine x_aload_n (q := 118) C 0 dX0_tendLamp_117 rfl rfl rfl ?_
    refine x_get (q := 121) C 15 dX0_tendLamp_118 ((oX0 y aN N14).L) rfl iuX0_tendLamp_X0 flX0_tendLamp_49 rfl (by decide) rfl rfl ?_
    refine x_iload_n (q := 122) C 2 dX0_tendLamp_121 rfl rfl rfl ?_
    refine x_dup2 (q := 123) C dX0_tendLamp_122 rfl rfl rfl ?_
    refine x_iald (q := 124) C 0 dX0_tendLamp_123 ((aX0_15 y aN N14).L) rfl hb1 rfl ?_
    refine x_iconst (q := 125) C dX0_tendLamp_124 ki_1 rfl ?_
    refine x_iadd (q := 126) C dX0_tendLamp_125 rfl ?_
    obtain ⟨N15, eN15, hf⟩ := lt_elim hf
    refine x_iast (q := 127) (ws' := nC y aN N15 ++ tC y aT T) C 0 dX0_tendLamp_126 ((aX0_15 y aN N14).L) rfl hb1 (congrArg (fun z => nC y aN z ++ tC y aT T) eN15.symm) rfl ?_
    refine x_iconst (q := 128) C dX0_tendLamp_127 ki_1 rfl ?_
    have hf := Option.some.inj hf
    obtain ⟨hr0, hr1⟩ := Prod.mk.inj hf
    exact x_zret () C dX0_tendLamp_128 rfl rfl hr0 (congrArg (fun z => nC y aN z ++ tC y aT T) hr1) (Nat.le_of_ble_eq_true rfl) (Nat.le_of_ble_eq_true rfl)
  · have hf := (if_pos hc).symm.trans hf
    refine x_iconst (q := 84) C dX0_tendLamp_83 ki_0 rfl ?_
    have hf := Option.some.inj hf
    obtain ⟨hr0, hr1⟩ := Prod.mk.inj hf
    exact x_zret () C dX0_tendLamp_84 rfl rfl hr0 (congrArg (fun z => nC y aN z ++ tC y aT T) hr1) (Nat.le_of_ble_eq_true rfl) (Nat.le_of_ble_eq_true rfl)

/-! LampHills$Night.moveLighters(LLampHills$Town;)I -/
theorem flX0_moveLighters_37 : Cond.fieldLink RX0 37 "LampHills$Night" "goesTo" "[I" ∈ wsX0_moveLighters := by decide +kernel
theorem flX0_moveLighters_43 : Cond.fieldLink RX0 43 "LampHills$Night" "minutesLeft" "[I" ∈ wsX0_moveLighters := by decide +kernel
theorem flX0_moveLighters_91 : Cond.fieldLink RX0 91 "LampHills$Town" "lighters" "I" ∈ wsX0_moveLighters := by decide +kernel
theorem iuX0_moveLighters_X0 : ∀ w ∈ u_ws RX0 TX0 16, w ∈ wsX0_moveLighters := fun _ h => List.mem_cons_of_mem _ (List.mem_append_right _ h)
theorem iuX0_moveLighters_X1 : ∀ w ∈ u_ws RX1 TX1 17, w ∈ wsX0_moveLighters := fun _ h => List.mem_cons_of_mem _ (List.mem_append_left _ (List.mem_append_right _ h))
theorem yi_X0_lookForLamp : xY yX0_lookForLamp wsX0_lookForLamp cX0_lookForLamp 5 none 2 := ⟨⟨_, rfl⟩, by decide +kernel, by decide +kernel, by decide +kernel⟩
theorem yi_X0_tendLamp : xY yX0_tendLamp wsX0_tendLamp cX0_tendLamp 5 (some .boolean) 2 := ⟨⟨_, rfl⟩, by decide +kernel, by decide +kernel, by decide +kernel⟩
def f0_moveLighters_L4 (T : St) : Nat → Int32 → Int32 → St → Option (Int32 × St)
  | 0, _, _, _ => none
  | fu + 1, v1, v2, N3 =>
  if (T 12 0) ≤ v2 then
  (
    some (v1, N3)
  )
  else
  (
    gd (xin v2 4) <|
    lt_ (fun (N5 : St) =>
    (
      lt_ (fun (v6 : Int32) (N7 : St) =>
      (
        f0_moveLighters_L4 T fu v6 (v2 + 1) N7
      )
      ) fun J69 =>
      if (N5 11 v2.toNatClampNeg) = (-1) then
      (
        J69 v1 N5
      )
      else
      (
        lt_ (up2 N5 13 v2.toNatClampNeg ((N5 13 v2.toNatClampNeg) - 1)) fun N8 =>
        if (N8 13 v2.toNatClampNeg) = 0 then
        (
          bd2 (f0_tendLamp N8 T v2) fun v9 N10 =>
          if v9 = 0 then
          (
            J69 v1 N10
          )
          else
          (
            J69 (v1 + 1) N10
          )
        )
        else
        (
          J69 v1 N8
        )
      )
    )
    ) fun J28 =>
    if (N3 11 v2.toNatClampNeg) = (-1) then
    (
      bd (f0_lookForLamp N3 T v2) fun N13 =>
      J28 N13
    )
    else
    (
      J28 N3
    )
  )
def f0_moveLighters (N : St) (T : St) : Option (Int32 × St) :=
  f0_moveLighters_L4 T xF 0 0 N
set_option maxHeartbeats 4000000 in
set_option maxRecDepth 100000 in
theorem w0_moveLighters_L4 {p : Program} {l : Launch} {e : Env} {s : State} {m : MethodId} {args : Array Value} {below : List Frame} {meth : Method} {c : Code} {D : va_G} {A : Nat → Prop} {y : Nat → ClassId} {aN aT : Nat → Nat} {T : St} {r : Int32} {N' : St} (C : xC p s m args meth c D A cX0_moveLighters RX0 4 wsX0_moveLighters (xT y) (some .int)) : ∀ (fu : Nat) (v1 : Int32) (v2 : Int32) (N3 : St), f0_moveLighters_L4 T fu v1 v2 N3 = some (r, N') → xV p l e { frames := 4, cells := 0, slots := 0, locals := 98 } s m args below meth c D A (xQi D (xT y) A (fun (r' : Int32) (_ : Unit) => r' = r) (fun _ : Unit => nC y aN N' ++ tC y aT T) 0 0 below args s) 4 (nC y aN N3 ++ tC y aT T) 0 0 [(0, .ref (aN 0)), (1, .ref (aT 0)), (2, .int v1), (3, .int v2)] 4 [] := by
  intro fu
  induction fu with
  | zero => intro v1 v2 N3 hf; rw [f0_moveLighters_L4] at hf; cases hf
  | succ fu ih =>
    intro v1 v2 N3 hf
    rw [f0_moveLighters_L4] at hf
    refine x_iload_n (q := 5) C 3 dX0_moveLighters_4 rfl rfl rfl ?_
    refine x_aload_n (q := 6) C 1 dX0_moveLighters_5 rfl rfl rfl ?_
    refine x_get (q := 9) C 12 dX0_moveLighters_6 ((oX1 y aT T).R) rfl iuX0_moveLighters_X1 flX0_moveLighters_91 rfl (by decide) rfl rfl ?_
    refine x_icmp_ge (t := 75) (q := 12) C dX0_moveLighters_9 (by decide) rfl (fun hc => ?_) (fun hc => ?_)
    · have hf := (if_pos hc).symm.trans hf
      refine x_iload_n (q := 76) C 2 dX0_moveLighters_75 rfl rfl rfl ?_
      have hf := Option.some.inj hf
      obtain ⟨hr0, hr1⟩ := Prod.mk.inj hf
      exact x_iret () C dX0_moveLighters_76 rfl hr0 (congrArg (fun z => nC y aN z ++ tC y aT T) hr1) (Nat.le_of_ble_eq_true rfl) (Nat.le_of_ble_eq_true rfl)
    · have hf := (if_neg hc).symm.trans hf
      refine x_aload_n (q := 13) C 0 dX0_moveLighters_12 rfl rfl rfl ?_
      refine x_get (q := 16) C 11 dX0_moveLighters_13 ((oX0 y aN N3).L) rfl iuX0_moveLighters_X0 flX0_moveLighters_37 rfl (by decide) rfl rfl ?_
      refine x_iload_n (q := 17) C 3 dX0_moveLighters_16 rfl rfl rfl ?_
      obtain ⟨hb4, hf⟩ := gd_some hf
      refine x_iald (q := 18) C 0 dX0_moveLighters_17 ((aX0_11 y aN N3).L) rfl hb4 rfl ?_
      refine x_iconst (q := 19) C dX0_moveLighters_18 ki_m1 rfl ?_
      obtain ⟨J28, eJ28, hf⟩ := lt_elim hf
      have hJ28 : ∀ (N5 : St), J28 N5 = some (r, N') → xV p l e { frames := 4, cells := 0, slots := 0, locals := 98 } s m args below meth c D A (xQi D (xT y) A (fun (r' : Int32) (_ : Unit) => r' = r) (fun _ : Unit => nC y aN N' ++ tC y aT T) 0 0 below args s) 4 (nC y aN N5 ++ tC y aT T) 0 0 [(0, .ref (aN 0)), (1, .ref (aT 0)), (2, .int v1), (3, .int v2)] 28 [] := by
        intro N5 hf
        subst eJ28
        refine x_aload_n (q := 29) C 0 dX0_moveLighters_28 rfl rfl rfl ?_
        refine x_get (q := 32) C 11 dX0_moveLighters_29 ((oX0 y aN N5).L) rfl iuX0_moveLighters_X0 flX0_moveLighters_37 rfl (by decide) rfl rfl ?_
        refine x_iload_n (q := 33) C 3 dX0_moveLighters_32 rfl rfl rfl ?_
        refine x_iald (q := 34) C 0 dX0_moveLighters_33 ((aX0_11 y aN N5).L) rfl hb4 rfl ?_
        refine x_iconst (q := 35) C dX0_moveLighters_34 ki_m1 rfl ?_
        obtain ⟨J69, eJ69, hf⟩ := lt_elim hf
        have hJ69 : ∀ (v6 : Int32) (N7 : St), J69 v6 N7 = some (r, N') → xV p l e { frames := 4, cells := 0, slots := 0, locals := 98 } s m args below meth c D A (xQi D (xT y) A (fun (r' : Int32) (_ : Unit) => r' = r) (fun _ : Unit => nC y aN N' ++ tC y aT T) 0 0 below args s) 4 (nC y aN N7 ++ tC y aT T) 0 0 [(0, .ref (aN 0)), (1, .ref (aT 0)), (2, .int v6), (3, .int v2)] 69 [] := by
          intro v6 N7 hf
          subst eJ69
          refine x_iinc (q := 72) C 3 (v2 + 1) [1, 2, 3, 0] [(0, .ref (aN 0)), (1, .ref (aT 0)), (2, .int v6), (3, .int (v2 + 1))] dX0_moveLighters_69 rfl (congrArg (fun z => v2 + z) ki_1) (by decide) rfl rfl ?_
          refine x_goto (t := 4) C dX0_moveLighters_72 (by decide) ?_
          exact ih v6 (v2 + 1) N7 hf
        refine x_icmp_eq (t := 69) (q := 38) C dX0_moveLighters_35 (by decide) rfl (fun hc => ?_) (fun hc => ?_)
        · have hf := (if_pos hc).symm.trans hf
          exact hJ69 v1 N5 hf
        · have hf := (if_neg hc).symm.trans hf
          refine x_aload_n (q := 39) C 0 dX0_moveLighters_38 rfl rfl rfl ?_
          refine x_get (q := 42) C 13 dX0_moveLighters_39 ((oX0 y aN N5).L) rfl iuX0_moveLighters_X0 flX0_moveLighters_43 rfl (by decide) rfl rfl ?_
          refine x_iload_n (q := 43) C 3 dX0_moveLighters_42 rfl rfl rfl ?_
          refine x_dup2 (q := 44) C dX0_moveLighters_43 rfl rfl rfl ?_
          refine x_iald (q := 45) C 0 dX0_moveLighters_44 ((aX0_13 y aN N5).L) rfl hb4 rfl ?_
          refine x_iconst (q := 46) C dX0_moveLighters_45 ki_1 rfl ?_
          refine x_isub (q := 47) C dX0_moveLighters_46 rfl ?_
          obtain ⟨N8, eN8, hf⟩ := lt_elim hf
          refine x_iast (q := 48) (ws' := nC y aN N8 ++ tC y aT T) C 0 dX0_moveLighters_47 ((aX0_13 y aN N5).L) rfl hb4 (congrArg (fun z => nC y aN z ++ tC y aT T) eN8.symm) rfl ?_
          refine x_aload_n (q := 49) C 0 dX0_moveLighters_48 rfl rfl rfl ?_
          refine x_get (q := 52) C 13 dX0_moveLighters_49 ((oX0 y aN N8).L) rfl iuX0_moveLighters_X0 flX0_moveLighters_43 rfl (by decide) rfl rfl ?_
          refine x_iload_n (q := 53) C 3 dX0_moveLighters_52 rfl rfl rfl ?_
          refine x_iald (q := 54) C 0 dX0_moveLighters_53 ((aX0_13 y aN N8).L) rfl hb4 rfl ?_
          refine x_if_ne (t := 69) (q := 57) C dX0_moveLighters_54 (by decide) rfl (fun hc => ?_) (fun hc => ?_)
          · have hf := (if_neg hc).symm.trans hf
            exact hJ69 v1 N8 hf
          · have hf := (if_pos hc).symm.trans hf
            refine x_aload_n (q := 58) C 0 dX0_moveLighters_57 rfl rfl rfl ?_
            refine x_aload_n (q := 59) C 1 dX0_moveLighters_58 rfl rfl rfl ?_
            refine x_iload_n (q := 60) C 3 dX0_moveLighters_59 rfl rfl rfl ?_
            obtain ⟨v9, N10, hcal11, hf⟩ := bd2_some hf
            refine x_callVi (q := 63) C (c0_tendLamp (l := l) (D := D) (y := y) (aN := aN) (aT := aT) hcal11) yi_X0_tendLamp gX0_moveLighters_X0_tendLamp rfl ((oX0 y aN N8).L) rfl ⟨(Nat.le_of_ble_eq_true rfl), (Nat.le_of_ble_eq_true rfl)⟩ dX0_moveLighters_60 pm_nil rfl rfl (Nat.le_of_ble_eq_true rfl) ⟨(Nat.le_of_ble_eq_true rfl), (Nat.le_of_ble_eq_true rfl)⟩ rfl ?_
            intro rr12 uu hrr
            have hrr : v9 = rr12 := Eq.symm hrr
            subst hrr
            refine x_world (ws' := nC y aN N10 ++ tC y aT T) (List.append_nil _) ?_
            refine x_if_eq (t := 69) (q := 66) C dX0_moveLighters_63 (by decide) rfl (fun hc => ?_) (fun hc => ?_)
            · have hf := (if_pos hc).symm.trans hf
              exact hJ69 v1 N10 hf
            · have hf := (if_neg hc).symm.trans hf
              refine x_iinc (q := 69) C 2 (v1 + 1) [1, 2, 0, 3] [(0, .ref (aN 0)), (1, .ref (aT 0)), (2, .int (v1 + 1)), (3, .int v2)] dX0_moveLighters_66 rfl (congrArg (fun z => v1 + z) ki_1) (by decide) rfl rfl ?_
              exact hJ69 (v1 + 1) N10 hf
      refine x_icmp_ne (t := 28) (q := 22) C dX0_moveLighters_19 (by decide) rfl (fun hc => ?_) (fun hc => ?_)
      · have hf := (if_neg hc).symm.trans hf
        exact hJ28 N3 hf
      · have hf := (if_pos hc).symm.trans hf
        refine x_aload_n (q := 23) C 0 dX0_moveLighters_22 rfl rfl rfl ?_
        refine x_aload_n (q := 24) C 1 dX0_moveLighters_23 rfl rfl rfl ?_
        refine x_iload_n (q := 25) C 3 dX0_moveLighters_24 rfl rfl rfl ?_
        obtain ⟨N13, hcal14, hf⟩ := bd_some hf
        refine x_callVv (q := 28) C (c0_lookForLamp (l := l) (D := D) (y := y) (aN := aN) (aT := aT) hcal14) yi_X0_lookForLamp gX0_moveLighters_X0_lookForLamp rfl ((oX0 y aN N3).L) rfl ⟨(Nat.le_of_ble_eq_true rfl), (Nat.le_of_ble_eq_true rfl)⟩ dX0_moveLighters_25 pm_nil rfl rfl (Nat.le_of_ble_eq_true rfl) ⟨(Nat.le_of_ble_eq_true rfl), (Nat.le_of_ble_eq_true rfl)⟩ rfl ?_
        intro uu hrr
        refine x_world (ws' := nC y aN N13 ++ tC y aT T) (List.append_nil _) ?_
        exact hJ28 N13 hf
set_option maxHeartbeats 4000000 in
set_option maxRecDepth 100000 in
theorem c0_moveLighters {l : Launch} {D : va_G} {y : Nat → ClassId} {aN aT : Nat → Nat} {N : St} {T : St} {r : Int32} {N' : St} (hf : f0_moveLighters N T = some (r, N')) : xMi l yX0_moveLighters wsX0_moveLighters 4 98 0 0 D (xT y) [.ref (aN 0), .ref (aT 0)] (nC y aN N ++ tC y aT T) (fun (r' : Int32) (_ : Unit) => r' = r) (fun _ : Unit => nC y aN N' ++ tC y aT T) := by
  refine xMi_of (cc := cX0_moveLighters) (nL := 4) (ret := (some .int)) [(0, .ref (aN 0)), (1, .ref (aT 0))] (by decide) rfl (Nat.le_of_ble_eq_true rfl) rfl ?_
  intro p e s m args below meth c A C hin
  have C : xC p s m args meth c D A cX0_moveLighters RX0 4 wsX0_moveLighters (xT y) (some .int) := C
  unfold f0_moveLighters at hf
  refine x_iconst (q := 1) C dX0_moveLighters_0 ki_0 rfl ?_
  refine x_istore_n (q := 2) C [1, 2, 0] [(0, .ref (aN 0)), (1, .ref (aT 0)), (2, .int 0)] dX0_moveLighters_1 rfl (by decide) rfl rfl ?_
  refine x_iconst (q := 3) C dX0_moveLighters_2 ki_0 rfl ?_
  refine x_istore_n (q := 4) C [1, 2, 3, 0] [(0, .ref (aN 0)), (1, .ref (aT 0)), (2, .int 0), (3, .int 0)] dX0_moveLighters_3 rfl (by decide) rfl rfl ?_
  exact w0_moveLighters_L4 C xF 0 0 N hf

/-! LampHills$Night.useOil(LLampHills$Town;I)V -/
theorem ki_5 : Int32.ofInt 5 = 5 := by decide
theorem flX0_useOil_15 : Cond.fieldLink RX0 15 "LampHills$Night" "oil" "[I" ∈ wsX0_useOil := by decide +kernel
theorem flX0_useOil_18 : Cond.fieldLink RX0 18 "LampHills$Night" "soot" "[I" ∈ wsX0_useOil := by decide +kernel
theorem flX0_useOil_59 : Cond.fieldLink RX0 59 "LampHills$Night" "oilUsed" "I" ∈ wsX0_useOil := by decide +kernel
theorem iuX0_useOil_X0 : ∀ w ∈ u_ws RX0 TX0 16, w ∈ wsX0_useOil := fun _ h => List.mem_cons_of_mem _ (List.mem_append_left _ (List.mem_append_right _ h))
theorem kmX0_useOil_143 : ∀ w ∈ ([.methodLink RX0 143 Lib.Math.min.name, .static Lib.Math.min.name, .initialized "java/lang/Math", .code Lib.Math.min.name Lib.Math.min.code 2 (some .int)] : List Cond), w ∈ wsX0_useOil := by decide +kernel
def f0_useOil (N : St) (T : St) (p2 : Int32) : Option (St) :=
  gd (xin p2 20) <|
  lt_ (fun (v2 : Int32) =>
  (
    lt_ (if v2 < (N 4 p2.toNatClampNeg) then v2 else (N 4 p2.toNatClampNeg)) fun v3 =>
    lt_ (up2 N 4 p2.toNatClampNeg ((N 4 p2.toNatClampNeg) - v3)) fun N4 =>
    lt_ (up2 N4 2 0 ((N4 2 0) + v3)) fun N5 =>
    if (N5 4 p2.toNatClampNeg) = 0 then
    (
      bd (f0_putOut N5 T p2) fun N6 =>
      some N6
    )
    else
    (
      some N5
    )
  )
  ) fun J21 =>
  if (N 5 p2.toNatClampNeg) < 5 then
  (
    J21 1
  )
  else
  (
    J21 2
  )
set_option maxHeartbeats 4000000 in
set_option maxRecDepth 100000 in
theorem c0_useOil {l : Launch} {D : va_G} {y : Nat → ClassId} {aN aT : Nat → Nat} {N : St} {T : St} {p2 : Int32} {N' : St} (hf : f0_useOil N T p2 = some N') : xMv l yX0_useOil wsX0_useOil 1 48 0 0 D (xT y) [.ref (aN 0), .ref (aT 0), .int p2] (nC y aN N ++ tC y aT T) (fun (_ : Unit) => True) (fun _ : Unit => nC y aN N' ++ tC y aT T) := by
  refine xMv_of (cc := cX0_useOil) (nL := 4) (ret := none) [(0, .ref (aN 0)), (1, .ref (aT 0)), (2, .int p2)] (by decide) rfl (Nat.le_of_ble_eq_true rfl) rfl ?_
  intro p e s m args below meth c A C hin
  have C : xC p s m args meth c D A cX0_useOil RX0 4 wsX0_useOil (xT y) none := C
  unfold f0_useOil at hf
  refine x_aload_n (q := 1) C 0 dX0_useOil_0 rfl rfl rfl ?_
  refine x_get (q := 4) C 4 dX0_useOil_1 ((oX0 y aN N).L) rfl iuX0_useOil_X0 flX0_useOil_15 rfl (by decide) rfl rfl ?_
  refine x_iload_n (q := 5) C 2 dX0_useOil_4 rfl rfl rfl ?_
  obtain ⟨hb1, hf⟩ := gd_some hf
  refine x_iald (q := 6) C 0 dX0_useOil_5 ((aX0_4 y aN N).L) rfl hb1 rfl ?_
  refine x_aload_n (q := 7) C 0 dX0_useOil_6 rfl rfl rfl ?_
  refine x_get (q := 10) C 5 dX0_useOil_7 ((oX0 y aN N).L) rfl iuX0_useOil_X0 flX0_useOil_18 rfl (by decide) rfl rfl ?_
  refine x_iload_n (q := 11) C 2 dX0_useOil_10 rfl rfl rfl ?_
  refine x_iald (q := 12) C 0 dX0_useOil_11 ((aX0_5 y aN N).L) rfl hb1 rfl ?_
  refine x_iconst (q := 13) C dX0_useOil_12 ki_5 rfl ?_
  obtain ⟨J21, eJ21, hf⟩ := lt_elim hf
  have hJ21 : ∀ (v2 : Int32), J21 v2 = some N' → xV p l e { frames := 1, cells := 0, slots := 0, locals := 48 } s m args below meth c D A (xQv D (xT y) A (fun (_ : Unit) => True) (fun _ : Unit => nC y aN N' ++ tC y aT T) 0 0 below args s) 4 (nC y aN N ++ tC y aT T) 0 0 [(0, .ref (aN 0)), (1, .ref (aT 0)), (2, .int p2)] 21 [.int v2, .int (N 4 p2.toNatClampNeg)] := by
    intro v2 hf
    subst eJ21
    refine x_mmin (q := 24) C dX0_useOil_21 kmX0_useOil_143 (Nat.le_of_ble_eq_true rfl) (Nat.le_of_ble_eq_true rfl) (Nat.le_of_ble_eq_true rfl) (Nat.le_of_ble_eq_true rfl) rfl ?_
    obtain ⟨v3, ev3, hf⟩ := lt_elim hf
    refine x_topi ev3 ?_
    refine x_istore_n (q := 25) C [1, 2, 3, 0] [(0, .ref (aN 0)), (1, .ref (aT 0)), (2, .int p2), (3, .int v3)] dX0_useOil_24 rfl (by decide) rfl rfl ?_
    refine x_aload_n (q := 26) C 0 dX0_useOil_25 rfl rfl rfl ?_
    refine x_get (q := 29) C 4 dX0_useOil_26 ((oX0 y aN N).L) rfl iuX0_useOil_X0 flX0_useOil_15 rfl (by decide) rfl rfl ?_
    refine x_iload_n (q := 30) C 2 dX0_useOil_29 rfl rfl rfl ?_
    refine x_dup2 (q := 31) C dX0_useOil_30 rfl rfl rfl ?_
    refine x_iald (q := 32) C 0 dX0_useOil_31 ((aX0_4 y aN N).L) rfl hb1 rfl ?_
    refine x_iload_n (q := 33) C 3 dX0_useOil_32 rfl rfl rfl ?_
    refine x_isub (q := 34) C dX0_useOil_33 rfl ?_
    obtain ⟨N4, eN4, hf⟩ := lt_elim hf
    refine x_iast (q := 35) (ws' := nC y aN N4 ++ tC y aT T) C 0 dX0_useOil_34 ((aX0_4 y aN N).L) rfl hb1 (congrArg (fun z => nC y aN z ++ tC y aT T) eN4.symm) rfl ?_
    refine x_aload_n (q := 36) C 0 dX0_useOil_35 rfl rfl rfl ?_
    refine x_dup (q := 37) C dX0_useOil_36 rfl rfl ?_
    refine x_get (q := 40) C 2 dX0_useOil_37 ((oX0 y aN N4).L) rfl iuX0_useOil_X0 flX0_useOil_59 rfl (by decide) rfl rfl ?_
    refine x_iload_n (q := 41) C 3 dX0_useOil_40 rfl rfl rfl ?_
    refine x_iadd (q := 42) C dX0_useOil_41 rfl ?_
    obtain ⟨N5, eN5, hf⟩ := lt_elim hf
    refine x_puti (q := 45) (ws' := nC y aN N5 ++ tC y aT T) C tyX0 tyX0_ok nmX0 dX0_useOil_42 ((iX0_2 y aN N4).L) rfl iuX0_useOil_X0 flX0_useOil_59 rfl (by decide) rfl rfl (congrArg (fun z => nC y aN z ++ tC y aT T) eN5.symm) rfl ?_
    refine x_aload_n (q := 46) C 0 dX0_useOil_45 rfl rfl rfl ?_
    refine x_get (q := 49) C 4 dX0_useOil_46 ((oX0 y aN N5).L) rfl iuX0_useOil_X0 flX0_useOil_15 rfl (by decide) rfl rfl ?_
    refine x_iload_n (q := 50) C 2 dX0_useOil_49 rfl rfl rfl ?_
    refine x_iald (q := 51) C 0 dX0_useOil_50 ((aX0_4 y aN N5).L) rfl hb1 rfl ?_
    refine x_if_ne (t := 60) (q := 54) C dX0_useOil_51 (by decide) rfl (fun hc => ?_) (fun hc => ?_)
    · have hf := (if_neg hc).symm.trans hf
      have hf := Option.some.inj hf
      exact x_vret () C dX0_useOil_60 rfl trivial (congrArg (fun z => nC y aN z ++ tC y aT T) hf) (Nat.le_of_ble_eq_true rfl) (Nat.le_of_ble_eq_true rfl)
    · have hf := (if_pos hc).symm.trans hf
      refine x_aload_n (q := 55) C 0 dX0_useOil_54 rfl rfl rfl ?_
      refine x_aload_n (q := 56) C 1 dX0_useOil_55 rfl rfl rfl ?_
      refine x_iload_n (q := 57) C 2 dX0_useOil_56 rfl rfl rfl ?_
      obtain ⟨N6, hcal7, hf⟩ := bd_some hf
      refine x_callVv (q := 60) C (c0_putOut (l := l) (D := D) (y := y) (aN := aN) (aT := aT) hcal7) yi_X0_putOut gX0_useOil_X0_putOut rfl ((oX0 y aN N5).L) rfl ⟨(Nat.le_of_ble_eq_true rfl), (Nat.le_of_ble_eq_true rfl)⟩ dX0_useOil_57 pm_nil rfl rfl (Nat.le_of_ble_eq_true rfl) ⟨(Nat.le_of_ble_eq_true rfl), (Nat.le_of_ble_eq_true rfl)⟩ rfl ?_
      intro uu hrr
      refine x_world (ws' := nC y aN N6 ++ tC y aT T) (List.append_nil _) ?_
      have hf := Option.some.inj hf
      exact x_vret () C dX0_useOil_60 rfl trivial (congrArg (fun z => nC y aN z ++ tC y aT T) hf) (Nat.le_of_ble_eq_true rfl) (Nat.le_of_ble_eq_true rfl)
  refine x_icmp_lt (t := 20) (q := 16) C dX0_useOil_13 (by decide) rfl (fun hc => ?_) (fun hc => ?_)
  · have hf := (if_pos hc).symm.trans hf
    refine x_iconst (q := 21) C dX0_useOil_20 ki_1 rfl ?_
    exact hJ21 1 hf
  · have hf := (if_neg hc).symm.trans hf
    refine x_iconst (q := 17) C dX0_useOil_16 ki_2 rfl ?_
    refine x_goto (t := 21) C dX0_useOil_17 (by decide) ?_
    exact hJ21 2 hf

/-! LampHills$Night.burnLamps(LLampHills$Town;)V -/
theorem kb_30 : (Int8.ofInt 30).toInt32 = 30 := by decide
theorem kb_9 : (Int8.ofInt 9).toInt32 = 9 := by decide
theorem flX0_burnLamps_18 : Cond.fieldLink RX0 18 "LampHills$Night" "soot" "[I" ∈ wsX0_burnLamps := by decide +kernel
theorem flX0_burnLamps_21 : Cond.fieldLink RX0 21 "LampHills$Night" "burns" "[Z" ∈ wsX0_burnLamps := by decide +kernel
theorem flX0_burnLamps_52 : Cond.fieldLink RX0 52 "LampHills$Night" "minute" "I" ∈ wsX0_burnLamps := by decide +kernel
theorem flX0_burnLamps_85 : Cond.fieldLink RX0 85 "LampHills$Town" "lamps" "I" ∈ wsX0_burnLamps := by decide +kernel
theorem iuX0_burnLamps_X0 : ∀ w ∈ u_ws RX0 TX0 16, w ∈ wsX0_burnLamps := fun _ h => List.mem_cons_of_mem _ (List.mem_append_right _ h)
theorem iuX0_burnLamps_X1 : ∀ w ∈ u_ws RX1 TX1 17, w ∈ wsX0_burnLamps := fun _ h => List.mem_cons_of_mem _ (List.mem_append_left _ (List.mem_append_right _ h))
theorem kmX0_burnLamps_143 : ∀ w ∈ ([.methodLink RX0 143 Lib.Math.min.name, .static Lib.Math.min.name, .initialized "java/lang/Math", .code Lib.Math.min.name Lib.Math.min.code 2 (some .int)] : List Cond), w ∈ wsX0_burnLamps := by decide +kernel
theorem yi_X0_useOil : xY yX0_useOil wsX0_useOil cX0_useOil 4 none 2 := ⟨⟨_, rfl⟩, by decide +kernel, by decide +kernel, by decide +kernel⟩
def f0_burnLamps_L2 (T : St) : Nat → Int32 → St → Option (St)
  | 0, _, _ => none
  | fu + 1, v1, N2 =>
  if (T 7 0) ≤ v1 then
  (
    some N2
  )
  else
  (
    gd (xin v1 20) <|
    lt_ (fun (N4 : St) =>
    (
      lt_ (fun (N5 : St) =>
      (
        f0_burnLamps_L2 T fu (v1 + 1) N5
      )
      ) fun J63 =>
      if (N4 6 v1.toNatClampNeg) = 0 then
      (
        J63 N4
      )
      else
      (
        if ((N4 0 0) - (N4 0 0) / 30 * 30) = 0 then
        (
          lt_ (up2 N4 5 v1.toNatClampNeg (if ((N4 5 v1.toNatClampNeg) + 1) < (9 : Int32) then ((N4 5 v1.toNatClampNeg) + 1) else (9 : Int32))) fun N6 =>
          J63 N6
        )
        else
        (
          J63 N4
        )
      )
    )
    ) fun J25 =>
    if (N2 6 v1.toNatClampNeg) = 0 then
    (
      J25 N2
    )
    else
    (
      bd (f0_useOil N2 T v1) fun N7 =>
      J25 N7
    )
  )
def f0_burnLamps (N : St) (T : St) : Option (St) :=
  f0_burnLamps_L2 T xF 0 N
set_option maxHeartbeats 4000000 in
set_option maxRecDepth 100000 in
theorem w0_burnLamps_L2 {p : Program} {l : Launch} {e : Env} {s : State} {m : MethodId} {args : Array Value} {below : List Frame} {meth : Method} {c : Code} {D : va_G} {A : Nat → Prop} {y : Nat → ClassId} {aN aT : Nat → Nat} {T : St} {N' : St} (C : xC p s m args meth c D A cX0_burnLamps RX0 3 wsX0_burnLamps (xT y) none) : ∀ (fu : Nat) (v1 : Int32) (N2 : St), f0_burnLamps_L2 T fu v1 N2 = some N' → xV p l e { frames := 2, cells := 0, slots := 0, locals := 71 } s m args below meth c D A (xQv D (xT y) A (fun (_ : Unit) => True) (fun _ : Unit => nC y aN N' ++ tC y aT T) 0 0 below args s) 3 (nC y aN N2 ++ tC y aT T) 0 0 [(0, .ref (aN 0)), (1, .ref (aT 0)), (2, .int v1)] 2 [] := by
  intro fu
  induction fu with
  | zero => intro v1 N2 hf; rw [f0_burnLamps_L2] at hf; cases hf
  | succ fu ih =>
    intro v1 N2 hf
    rw [f0_burnLamps_L2] at hf
    refine x_iload_n (q := 3) C 2 dX0_burnLamps_2 rfl rfl rfl ?_
    refine x_aload_n (q := 4) C 1 dX0_burnLamps_3 rfl rfl rfl ?_
    refine x_get (q := 7) C 7 dX0_burnLamps_4 ((oX1 y aT T).R) rfl iuX0_burnLamps_X1 flX0_burnLamps_85 rfl (by decide) rfl rfl ?_
    refine x_icmp_ge (t := 69) (q := 10) C dX0_burnLamps_7 (by decide) rfl (fun hc => ?_) (fun hc => ?_)
    · have hf := (if_pos hc).symm.trans hf
      have hf := Option.some.inj hf
      exact x_vret () C dX0_burnLamps_69 rfl trivial (congrArg (fun z => nC y aN z ++ tC y aT T) hf) (Nat.le_of_ble_eq_true rfl) (Nat.le_of_ble_eq_true rfl)
    · have hf := (if_neg hc).symm.trans hf
      refine x_aload_n (q := 11) C 0 dX0_burnLamps_10 rfl rfl rfl ?_
      refine x_get (q := 14) C 6 dX0_burnLamps_11 ((oX0 y aN N2).L) rfl iuX0_burnLamps_X0 flX0_burnLamps_21 rfl (by decide) rfl rfl ?_
      refine x_iload_n (q := 15) C 2 dX0_burnLamps_14 rfl rfl rfl ?_
      obtain ⟨hb3, hf⟩ := gd_some hf
      refine x_zald (q := 16) C 1 dX0_burnLamps_15 ((aX0_6 y aN N2).L) rfl hb3 rfl ?_
      obtain ⟨J25, eJ25, hf⟩ := lt_elim hf
      have hJ25 : ∀ (N4 : St), J25 N4 = some N' → xV p l e { frames := 2, cells := 0, slots := 0, locals := 71 } s m args below meth c D A (xQv D (xT y) A (fun (_ : Unit) => True) (fun _ : Unit => nC y aN N' ++ tC y aT T) 0 0 below args s) 3 (nC y aN N4 ++ tC y aT T) 0 0 [(0, .ref (aN 0)), (1, .ref (aT 0)), (2, .int v1)] 25 [] := by
        intro N4 hf
        subst eJ25
        refine x_aload_n (q := 26) C 0 dX0_burnLamps_25 rfl rfl rfl ?_
        refine x_get (q := 29) C 6 dX0_burnLamps_26 ((oX0 y aN N4).L) rfl iuX0_burnLamps_X0 flX0_burnLamps_21 rfl (by decide) rfl rfl ?_
        refine x_iload_n (q := 30) C 2 dX0_burnLamps_29 rfl rfl rfl ?_
        refine x_zald (q := 31) C 1 dX0_burnLamps_30 ((aX0_6 y aN N4).L) rfl hb3 rfl ?_
        obtain ⟨J63, eJ63, hf⟩ := lt_elim hf
        have hJ63 : ∀ (N5 : St), J63 N5 = some N' → xV p l e { frames := 2, cells := 0, slots := 0, locals := 71 } s m args below meth c D A (xQv D (xT y) A (fun (_ : Unit) => True) (fun _ : Unit => nC y aN N' ++ tC y aT T) 0 0 below args s) 3 (nC y aN N5 ++ tC y aT T) 0 0 [(0, .ref (aN 0)), (1, .ref (aT 0)), (2, .int v1)] 63 [] := by
          intro N5 hf
          subst eJ63
          refine x_iinc (q := 66) C 2 (v1 + 1) [1, 2, 0] [(0, .ref (aN 0)), (1, .ref (aT 0)), (2, .int (v1 + 1))] dX0_burnLamps_63 rfl (congrArg (fun z => v1 + z) ki_1) (by decide) rfl rfl ?_
          refine x_goto (t := 2) C dX0_burnLamps_66 (by decide) ?_
          exact ih (v1 + 1) N5 hf
        refine x_if_eq (t := 63) (q := 34) C dX0_burnLamps_31 (by decide) rfl (fun hc => ?_) (fun hc => ?_)
        · have hf := (if_pos hc).symm.trans hf
          exact hJ63 N4 hf
        · have hf := (if_neg hc).symm.trans hf
          refine x_aload_n (q := 35) C 0 dX0_burnLamps_34 rfl rfl rfl ?_
          refine x_get (q := 38) C 0 dX0_burnLamps_35 ((oX0 y aN N4).L) rfl iuX0_burnLamps_X0 flX0_burnLamps_52 rfl (by decide) rfl rfl ?_
          refine x_bipush (q := 40) C dX0_burnLamps_38 kb_30 rfl ?_
          refine x_irem (q := 41) C dX0_burnLamps_40 (by decide) rfl ?_
          refine x_if_ne (t := 63) (q := 44) C dX0_burnLamps_41 (by decide) rfl (fun hc => ?_) (fun hc => ?_)
          · have hf := (if_neg hc).symm.trans hf
            exact hJ63 N4 hf
          · have hf := (if_pos hc).symm.trans hf
            refine x_aload_n (q := 45) C 0 dX0_burnLamps_44 rfl rfl rfl ?_
            refine x_get (q := 48) C 5 dX0_burnLamps_45 ((oX0 y aN N4).L) rfl iuX0_burnLamps_X0 flX0_burnLamps_18 rfl (by decide) rfl rfl ?_
            refine x_iload_n (q := 49) C 2 dX0_burnLamps_48 rfl rfl rfl ?_
            refine x_bipush (q := 51) C dX0_burnLamps_49 kb_9 rfl ?_
            refine x_aload_n (q := 52) C 0 dX0_burnLamps_51 rfl rfl rfl ?_
            refine x_get (q := 55) C 5 dX0_burnLamps_52 ((oX0 y aN N4).L) rfl iuX0_burnLamps_X0 flX0_burnLamps_18 rfl (by decide) rfl rfl ?_
            refine x_iload_n (q := 56) C 2 dX0_burnLamps_55 rfl rfl rfl ?_
            refine x_iald (q := 57) C 0 dX0_burnLamps_56 ((aX0_5 y aN N4).L) rfl hb3 rfl ?_
            refine x_iconst (q := 58) C dX0_burnLamps_57 ki_1 rfl ?_
            refine x_iadd (q := 59) C dX0_burnLamps_58 rfl ?_
            refine x_mmin (q := 62) C dX0_burnLamps_59 kmX0_burnLamps_143 (Nat.le_of_ble_eq_true rfl) (Nat.le_of_ble_eq_true rfl) (Nat.le_of_ble_eq_true rfl) (Nat.le_of_ble_eq_true rfl) rfl ?_
            obtain ⟨N6, eN6, hf⟩ := lt_elim hf
            refine x_iast (q := 63) (ws' := nC y aN N6 ++ tC y aT T) C 0 dX0_burnLamps_62 ((aX0_5 y aN N4).L) rfl hb3 (congrArg (fun z => nC y aN z ++ tC y aT T) eN6.symm) rfl ?_
            exact hJ63 N6 hf
      refine x_if_eq (t := 25) (q := 19) C dX0_burnLamps_16 (by decide) rfl (fun hc => ?_) (fun hc => ?_)
      · have hf := (if_pos hc).symm.trans hf
        exact hJ25 N2 hf
      · have hf := (if_neg hc).symm.trans hf
        refine x_aload_n (q := 20) C 0 dX0_burnLamps_19 rfl rfl rfl ?_
        refine x_aload_n (q := 21) C 1 dX0_burnLamps_20 rfl rfl rfl ?_
        refine x_iload_n (q := 22) C 2 dX0_burnLamps_21 rfl rfl rfl ?_
        obtain ⟨N7, hcal8, hf⟩ := bd_some hf
        refine x_callVv (q := 25) C (c0_useOil (l := l) (D := D) (y := y) (aN := aN) (aT := aT) hcal8) yi_X0_useOil gX0_burnLamps_X0_useOil rfl ((oX0 y aN N2).L) rfl ⟨(Nat.le_of_ble_eq_true rfl), (Nat.le_of_ble_eq_true rfl)⟩ dX0_burnLamps_22 pm_nil rfl rfl (Nat.le_of_ble_eq_true rfl) ⟨(Nat.le_of_ble_eq_true rfl), (Nat.le_of_ble_eq_true rfl)⟩ rfl ?_
        intro uu hrr
        refine x_world (ws' := nC y aN N7 ++ tC y aT T) (List.append_nil _) ?_
        exact hJ25 N7 hf
set_option maxHeartbeats 4000000 in
set_option maxRecDepth 100000 in
theorem c0_burnLamps {l : Launch} {D : va_G} {y : Nat → ClassId} {aN aT : Nat → Nat} {N : St} {T : St} {N' : St} (hf : f0_burnLamps N T = some N') : xMv l yX0_burnLamps wsX0_burnLamps 2 71 0 0 D (xT y) [.ref (aN 0), .ref (aT 0)] (nC y aN N ++ tC y aT T) (fun (_ : Unit) => True) (fun _ : Unit => nC y aN N' ++ tC y aT T) := by
  refine xMv_of (cc := cX0_burnLamps) (nL := 3) (ret := none) [(0, .ref (aN 0)), (1, .ref (aT 0))] (by decide) rfl (Nat.le_of_ble_eq_true rfl) rfl ?_
  intro p e s m args below meth c A C hin
  have C : xC p s m args meth c D A cX0_burnLamps RX0 3 wsX0_burnLamps (xT y) none := C
  unfold f0_burnLamps at hf
  refine x_iconst (q := 1) C dX0_burnLamps_0 ki_0 rfl ?_
  refine x_istore_n (q := 2) C [1, 2, 0] [(0, .ref (aN 0)), (1, .ref (aT 0)), (2, .int 0)] dX0_burnLamps_1 rfl (by decide) rfl rfl ?_
  exact w0_burnLamps_L2 C xF 0 N hf

/-! LampHills$Night.blow(LLampHills$Town;I)V -/
theorem ki_4 : Int32.ofInt 4 = 4 := by decide
theorem flX0_blow_157 : Cond.fieldLink RX0 157 "LampHills$Town" "lid" "[I" ∈ wsX0_blow := by decide +kernel
theorem flX0_blow_21 : Cond.fieldLink RX0 21 "LampHills$Night" "burns" "[Z" ∈ wsX0_blow := by decide +kernel
theorem flX0_blow_28 : Cond.fieldLink RX0 28 "LampHills$Night" "timesBlownOut" "[I" ∈ wsX0_blow := by decide +kernel
theorem flX0_blow_85 : Cond.fieldLink RX0 85 "LampHills$Town" "lamps" "I" ∈ wsX0_blow := by decide +kernel
theorem iuX0_blow_X0 : ∀ w ∈ u_ws RX0 TX0 16, w ∈ wsX0_blow := fun _ h => List.mem_cons_of_mem _ (List.mem_append_right _ h)
theorem iuX0_blow_X1 : ∀ w ∈ u_ws RX1 TX1 17, w ∈ wsX0_blow := fun _ h => List.mem_cons_of_mem _ (List.mem_append_left _ (List.mem_append_right _ h))
theorem yi_X1_windAtLamp : xY yX1_windAtLamp wsX1_windAtLamp cX1_windAtLamp 4 (some .int) 2 := ⟨⟨_, rfl⟩, by decide +kernel, by decide +kernel, by decide +kernel⟩
def f0_blow_L2 (p2 : Int32) (T : St) : Nat → Int32 → St → Option (St)
  | 0, _, _ => none
  | fu + 1, v1, N2 =>
  if (T 7 0) ≤ v1 then
  (
    some N2
  )
  else
  (
    gd (xin v1 20) <|
    lt_ (fun (N4 : St) =>
    (
      f0_blow_L2 p2 T fu (v1 + 1) N4
    )
    ) fun J52 =>
    if (N2 6 v1.toNatClampNeg) = 0 then
    (
      J52 N2
    )
    else
    (
      bd (f1_windAtLamp T v1 p2) fun v5 =>
      if v5 ≤ ((T 10 v1.toNatClampNeg) + 4) then
      (
        J52 N2
      )
      else
      (
        bd (f0_putOut N2 T v1) fun N8 =>
        lt_ (up2 N8 8 v1.toNatClampNeg ((N8 8 v1.toNatClampNeg) + 1)) fun N10 =>
        J52 N10
      )
    )
  )
def f0_blow (N : St) (T : St) (p2 : Int32) : Option (St) :=
  f0_blow_L2 p2 T xF 0 N
set_option maxHeartbeats 4000000 in
set_option maxRecDepth 100000 in
theorem w0_blow_L2 {p : Program} {l : Launch} {e : Env} {s : State} {m : MethodId} {args : Array Value} {below : List Frame} {meth : Method} {c : Code} {D : va_G} {A : Nat → Prop} {y : Nat → ClassId} {aN aT : Nat → Nat} {T : St} {p2 : Int32} {N' : St} (C : xC p s m args meth c D A cX0_blow RX0 4 wsX0_blow (xT y) none) : ∀ (fu : Nat) (v1 : Int32) (N2 : St), f0_blow_L2 p2 T fu v1 N2 = some N' → xV p l e { frames := 2, cells := 0, slots := 0, locals := 71 } s m args below meth c D A (xQv D (xT y) A (fun (_ : Unit) => True) (fun _ : Unit => nC y aN N' ++ tC y aT T) 0 0 below args s) 4 (nC y aN N2 ++ tC y aT T) 0 0 [(0, .ref (aN 0)), (1, .ref (aT 0)), (2, .int p2), (3, .int v1)] 2 [] := by
  intro fu
  induction fu with
  | zero => intro v1 N2 hf; rw [f0_blow_L2] at hf; cases hf
  | succ fu ih =>
    intro v1 N2 hf
    rw [f0_blow_L2] at hf
    refine x_iload_n (q := 3) C 3 dX0_blow_2 rfl rfl rfl ?_
    refine x_aload_n (q := 4) C 1 dX0_blow_3 rfl rfl rfl ?_
    refine x_get (q := 7) C 7 dX0_blow_4 ((oX1 y aT T).R) rfl iuX0_blow_X1 flX0_blow_85 rfl (by decide) rfl rfl ?_
    refine x_icmp_ge (t := 58) (q := 10) C dX0_blow_7 (by decide) rfl (fun hc => ?_) (fun hc => ?_)
    · have hf := (if_pos hc).symm.trans hf
      have hf := Option.some.inj hf
      exact x_vret () C dX0_blow_58 rfl trivial (congrArg (fun z => nC y aN z ++ tC y aT T) hf) (Nat.le_of_ble_eq_true rfl) (Nat.le_of_ble_eq_true rfl)
    · have hf := (if_neg hc).symm.trans hf
      refine x_aload_n (q := 11) C 0 dX0_blow_10 rfl rfl rfl ?_
      refine x_get (q := 14) C 6 dX0_blow_11 ((oX0 y aN N2).L) rfl iuX0_blow_X0 flX0_blow_21 rfl (by decide) rfl rfl ?_
      refine x_iload_n (q := 15) C 3 dX0_blow_14 rfl rfl rfl ?_
      obtain ⟨hb3, hf⟩ := gd_some hf
      refine x_zald (q := 16) C 1 dX0_blow_15 ((aX0_6 y aN N2).L) rfl hb3 rfl ?_
      obtain ⟨J52, eJ52, hf⟩ := lt_elim hf
      have hJ52 : ∀ (N4 : St), J52 N4 = some N' → xV p l e { frames := 2, cells := 0, slots := 0, locals := 71 } s m args below meth c D A (xQv D (xT y) A (fun (_ : Unit) => True) (fun _ : Unit => nC y aN N' ++ tC y aT T) 0 0 below args s) 4 (nC y aN N4 ++ tC y aT T) 0 0 [(0, .ref (aN 0)), (1, .ref (aT 0)), (2, .int p2), (3, .int v1)] 52 [] := by
        intro N4 hf
        subst eJ52
        refine x_iinc (q := 55) C 3 (v1 + 1) [1, 2, 3, 0] [(0, .ref (aN 0)), (1, .ref (aT 0)), (2, .int p2), (3, .int (v1 + 1))] dX0_blow_52 rfl (congrArg (fun z => v1 + z) ki_1) (by decide) rfl rfl ?_
        refine x_goto (t := 2) C dX0_blow_55 (by decide) ?_
        exact ih (v1 + 1) N4 hf
      refine x_if_eq (t := 52) (q := 19) C dX0_blow_16 (by decide) rfl (fun hc => ?_) (fun hc => ?_)
      · have hf := (if_pos hc).symm.trans hf
        exact hJ52 N2 hf
      · have hf := (if_neg hc).symm.trans hf
        refine x_aload_n (q := 20) C 1 dX0_blow_19 rfl rfl rfl ?_
        refine x_iload_n (q := 21) C 3 dX0_blow_20 rfl rfl rfl ?_
        refine x_iload_n (q := 22) C 2 dX0_blow_21 rfl rfl rfl ?_
        obtain ⟨v5, hcal6, hf⟩ := bd_some hf
        refine x_callVi (q := 25) C (c1_windAtLamp (l := l) (D := D) (y := y) (aT := aT) hcal6) yi_X1_windAtLamp gX0_blow_X1_windAtLamp rfl (oX1 y aT T) rfl ⟨(Nat.le_of_ble_eq_true rfl), (Nat.le_of_ble_eq_true rfl)⟩ dX0_blow_22 (pm2_1 _ _) rfl rfl (Nat.le_of_ble_eq_true rfl) ⟨(Nat.le_of_ble_eq_true rfl), (Nat.le_of_ble_eq_true rfl)⟩ rfl ?_
        intro rr7 uu hrr
        have hrr : v5 = rr7 := Eq.symm hrr
        subst hrr
        refine x_perm (ws' := nC y aN N2 ++ tC y aT T) (pm2_1 _ _).symm ?_
        refine x_aload_n (q := 26) C 1 dX0_blow_25 rfl rfl rfl ?_
        refine x_get (q := 29) C 10 dX0_blow_26 ((oX1 y aT T).R) rfl iuX0_blow_X1 flX0_blow_157 rfl (by decide) rfl rfl ?_
        refine x_iload_n (q := 30) C 3 dX0_blow_29 rfl rfl rfl ?_
        refine x_iald (q := 31) C 0 dX0_blow_30 ((aX1_10 y aT T).R) rfl hb3 rfl ?_
        refine x_iconst (q := 32) C dX0_blow_31 ki_4 rfl ?_
        refine x_iadd (q := 33) C dX0_blow_32 rfl ?_
        refine x_icmp_le (t := 52) (q := 36) C dX0_blow_33 (by decide) rfl (fun hc => ?_) (fun hc => ?_)
        · have hf := (if_pos hc).symm.trans hf
          exact hJ52 N2 hf
        · have hf := (if_neg hc).symm.trans hf
          refine x_aload_n (q := 37) C 0 dX0_blow_36 rfl rfl rfl ?_
          refine x_aload_n (q := 38) C 1 dX0_blow_37 rfl rfl rfl ?_
          refine x_iload_n (q := 39) C 3 dX0_blow_38 rfl rfl rfl ?_
          obtain ⟨N8, hcal9, hf⟩ := bd_some hf
          refine x_callVv (q := 42) C (c0_putOut (l := l) (D := D) (y := y) (aN := aN) (aT := aT) hcal9) yi_X0_putOut gX0_blow_X0_putOut rfl ((oX0 y aN N2).L) rfl ⟨(Nat.le_of_ble_eq_true rfl), (Nat.le_of_ble_eq_true rfl)⟩ dX0_blow_39 pm_nil rfl rfl (Nat.le_of_ble_eq_true rfl) ⟨(Nat.le_of_ble_eq_true rfl), (Nat.le_of_ble_eq_true rfl)⟩ rfl ?_
          intro uu hrr
          refine x_world (ws' := nC y aN N8 ++ tC y aT T) (List.append_nil _) ?_
          refine x_aload_n (q := 43) C 0 dX0_blow_42 rfl rfl rfl ?_
          refine x_get (q := 46) C 8 dX0_blow_43 ((oX0 y aN N8).L) rfl iuX0_blow_X0 flX0_blow_28 rfl (by decide) rfl rfl ?_
          refine x_iload_n (q := 47) C 3 dX0_blow_46 rfl rfl rfl ?_
          refine x_dup2 (q := 48) C dX0_blow_47 rfl rfl rfl ?_
          refine x_iald (q := 49) C 0 dX0_blow_48 ((aX0_8 y aN N8).L) rfl hb3 rfl ?_
          refine x_iconst (q := 50) C dX0_blow_49 ki_1 rfl ?_
          refine x_iadd (q := 51) C dX0_blow_50 rfl ?_
          obtain ⟨N10, eN10, hf⟩ := lt_elim hf
          refine x_iast (q := 52) (ws' := nC y aN N10 ++ tC y aT T) C 0 dX0_blow_51 ((aX0_8 y aN N8).L) rfl hb3 (congrArg (fun z => nC y aN z ++ tC y aT T) eN10.symm) rfl ?_
          exact hJ52 N10 hf
set_option maxHeartbeats 4000000 in
set_option maxRecDepth 100000 in
theorem c0_blow {l : Launch} {D : va_G} {y : Nat → ClassId} {aN aT : Nat → Nat} {N : St} {T : St} {p2 : Int32} {N' : St} (hf : f0_blow N T p2 = some N') : xMv l yX0_blow wsX0_blow 2 71 0 0 D (xT y) [.ref (aN 0), .ref (aT 0), .int p2] (nC y aN N ++ tC y aT T) (fun (_ : Unit) => True) (fun _ : Unit => nC y aN N' ++ tC y aT T) := by
  refine xMv_of (cc := cX0_blow) (nL := 4) (ret := none) [(0, .ref (aN 0)), (1, .ref (aT 0)), (2, .int p2)] (by decide) rfl (Nat.le_of_ble_eq_true rfl) rfl ?_
  intro p e s m args below meth c A C hin
  have C : xC p s m args meth c D A cX0_blow RX0 4 wsX0_blow (xT y) none := C
  unfold f0_blow at hf
  refine x_iconst (q := 1) C dX0_blow_0 ki_0 rfl ?_
  refine x_istore_n (q := 2) C [1, 2, 3, 0] [(0, .ref (aN 0)), (1, .ref (aT 0)), (2, .int p2), (3, .int 0)] dX0_blow_1 rfl (by decide) rfl rfl ?_
  exact w0_blow_L2 C xF 0 N hf

/-! LampHills$Night.goBy(LLampHills$Town;I)I -/
theorem kb_60 : (Int8.ofInt 60).toInt32 = 60 := by decide
theorem ks_600 : (Int16.ofInt 600).toInt32 = 600 := by decide
theorem flX0_goBy_52 : Cond.fieldLink RX0 52 "LampHills$Night" "minute" "I" ∈ wsX0_goBy := by decide +kernel
theorem flX0_goBy_76 : Cond.fieldLink RX0 76 "LampHills$Town" "wind" "[I" ∈ wsX0_goBy := by decide +kernel
theorem iuX0_goBy_X0 : ∀ w ∈ u_ws RX0 TX0 16, w ∈ wsX0_goBy := fun _ h => List.mem_cons_of_mem _ (List.mem_append_left _ (List.mem_append_right _ h))
theorem iuX0_goBy_X1 : ∀ w ∈ u_ws RX1 TX1 17, w ∈ wsX0_goBy := fun _ h => List.mem_cons_of_mem _ (List.mem_append_right _ h)
theorem yi_X0_blow : xY yX0_blow wsX0_blow cX0_blow 4 none 2 := ⟨⟨_, rfl⟩, by decide +kernel, by decide +kernel, by decide +kernel⟩
theorem yi_X0_burnLamps : xY yX0_burnLamps wsX0_burnLamps cX0_burnLamps 3 none 1 := ⟨⟨_, rfl⟩, by decide +kernel, by decide +kernel, by decide +kernel⟩
theorem yi_X0_moveLighters : xY yX0_moveLighters wsX0_moveLighters cX0_moveLighters 4 (some .int) 1 := ⟨⟨_, rfl⟩, by decide +kernel, by decide +kernel, by decide +kernel⟩
def f0_goBy_L5 (p2 : Int32) (T : St) : Nat → Int32 → Int32 → St → Option (Int32 × St)
  | 0, _, _, _ => none
  | fu + 1, v1, v2, N3 =>
  if p2 ≤ v2 then
  (
    some (v1, N3)
  )
  else
  (
    if 600 ≤ (N3 0 0) then
    (
      some (v1, N3)
    )
    else
    (
      bd2 (f0_moveLighters N3 T) fun v4 N5 =>
      lt_ (v1 + v4) fun v8 =>
      bd (f0_burnLamps N5 T) fun N9 =>
      lt_ (fun (N11 : St) =>
      (
        lt_ (up2 N11 0 0 ((N11 0 0) + 1)) fun N12 =>
        f0_goBy_L5 p2 T fu v8 (v2 + 1) N12
      )
      ) fun J61 =>
      if ((N9 0 0) - (N9 0 0) / 10 * 10) = 0 then
      (
        gd (xin ((N9 0 0) / 60) 10) <|
        bd (f0_blow N9 T (T 11 ((N9 0 0) / 60).toNatClampNeg)) fun N14 =>
        J61 N14
      )
      else
      (
        J61 N9
      )
    )
  )
def f0_goBy (N : St) (T : St) (p2 : Int32) : Option (Int32 × St) :=
  f0_goBy_L5 p2 T xF 0 0 N
set_option maxHeartbeats 4000000 in
set_option maxRecDepth 100000 in
theorem w0_goBy_L5 {p : Program} {l : Launch} {e : Env} {s : State} {m : MethodId} {args : Array Value} {below : List Frame} {meth : Method} {c : Code} {D : va_G} {A : Nat → Prop} {y : Nat → ClassId} {aN aT : Nat → Nat} {T : St} {p2 : Int32} {r : Int32} {N' : St} (C : xC p s m args meth c D A cX0_goBy RX0 5 wsX0_goBy (xT y) (some .int)) : ∀ (fu : Nat) (v1 : Int32) (v2 : Int32) (N3 : St), f0_goBy_L5 p2 T fu v1 v2 N3 = some (r, N') → xV p l e { frames := 5, cells := 0, slots := 0, locals := 121 } s m args below meth c D A (xQi D (xT y) A (fun (r' : Int32) (_ : Unit) => r' = r) (fun _ : Unit => nC y aN N' ++ tC y aT T) 0 0 below args s) 5 (nC y aN N3 ++ tC y aT T) 0 0 [(0, .ref (aN 0)), (1, .ref (aT 0)), (2, .int p2), (3, .int v1), (4, .int v2)] 5 [] := by
  intro fu
  induction fu with
  | zero => intro v1 v2 N3 hf; rw [f0_goBy_L5] at hf; cases hf
  | succ fu ih =>
    intro v1 v2 N3 hf
    rw [f0_goBy_L5] at hf
    refine x_iload (q := 7) C 4 dX0_goBy_5 rfl rfl ?_
    refine x_iload_n (q := 8) C 2 dX0_goBy_7 rfl rfl rfl ?_
    refine x_icmp_ge (t := 77) (q := 11) C dX0_goBy_8 (by decide) rfl (fun hc => ?_) (fun hc => ?_)
    · have hf := (if_pos hc).symm.trans hf
      refine x_iload_n (q := 78) C 3 dX0_goBy_77 rfl rfl rfl ?_
      have hf := Option.some.inj hf
      obtain ⟨hr0, hr1⟩ := Prod.mk.inj hf
      exact x_iret () C dX0_goBy_78 rfl hr0 (congrArg (fun z => nC y aN z ++ tC y aT T) hr1) (Nat.le_of_ble_eq_true rfl) (Nat.le_of_ble_eq_true rfl)
    · have hf := (if_neg hc).symm.trans hf
      refine x_aload_n (q := 12) C 0 dX0_goBy_11 rfl rfl rfl ?_
      refine x_get (q := 15) C 0 dX0_goBy_12 ((oX0 y aN N3).L) rfl iuX0_goBy_X0 flX0_goBy_52 rfl (by decide) rfl rfl ?_
      refine x_sipush (q := 18) C dX0_goBy_15 ks_600 rfl ?_
      refine x_icmp_ge (t := 77) (q := 21) C dX0_goBy_18 (by decide) rfl (fun hc => ?_) (fun hc => ?_)
      · have hf := (if_pos hc).symm.trans hf
        refine x_iload_n (q := 78) C 3 dX0_goBy_77 rfl rfl rfl ?_
        have hf := Option.some.inj hf
        obtain ⟨hr0, hr1⟩ := Prod.mk.inj hf
        exact x_iret () C dX0_goBy_78 rfl hr0 (congrArg (fun z => nC y aN z ++ tC y aT T) hr1) (Nat.le_of_ble_eq_true rfl) (Nat.le_of_ble_eq_true rfl)
      · have hf := (if_neg hc).symm.trans hf
        refine x_iload_n (q := 22) C 3 dX0_goBy_21 rfl rfl rfl ?_
        refine x_aload_n (q := 23) C 0 dX0_goBy_22 rfl rfl rfl ?_
        refine x_aload_n (q := 24) C 1 dX0_goBy_23 rfl rfl rfl ?_
        obtain ⟨v4, N5, hcal6, hf⟩ := bd2_some hf
        refine x_callVi (q := 27) C (c0_moveLighters (l := l) (D := D) (y := y) (aN := aN) (aT := aT) hcal6) yi_X0_moveLighters gX0_goBy_X0_moveLighters rfl ((oX0 y aN N3).L) rfl ⟨(Nat.le_of_ble_eq_true rfl), (Nat.le_of_ble_eq_true rfl)⟩ dX0_goBy_24 pm_nil rfl rfl (Nat.le_of_ble_eq_true rfl) ⟨(Nat.le_of_ble_eq_true rfl), (Nat.le_of_ble_eq_true rfl)⟩ rfl ?_
        intro rr7 uu hrr
        have hrr : v4 = rr7 := Eq.symm hrr
        subst hrr
        refine x_world (ws' := nC y aN N5 ++ tC y aT T) (List.append_nil _) ?_
        refine x_iadd (q := 28) C dX0_goBy_27 rfl ?_
        obtain ⟨v8, ev8, hf⟩ := lt_elim hf
        refine x_topi ev8 ?_
        refine x_istore_n (q := 29) C [1, 2, 3, 0, 4] [(0, .ref (aN 0)), (1, .ref (aT 0)), (2, .int p2), (3, .int v8), (4, .int v2)] dX0_goBy_28 rfl (by decide) rfl rfl ?_
        refine x_aload_n (q := 30) C 0 dX0_goBy_29 rfl rfl rfl ?_
        refine x_aload_n (q := 31) C 1 dX0_goBy_30 rfl rfl rfl ?_
        obtain ⟨N9, hcal10, hf⟩ := bd_some hf
        refine x_callVv (q := 34) C (c0_burnLamps (l := l) (D := D) (y := y) (aN := aN) (aT := aT) hcal10) yi_X0_burnLamps gX0_goBy_X0_burnLamps rfl ((oX0 y aN N5).L) rfl ⟨(Nat.le_of_ble_eq_true rfl), (Nat.le_of_ble_eq_true rfl)⟩ dX0_goBy_31 pm_nil rfl rfl (Nat.le_of_ble_eq_true rfl) ⟨(Nat.le_of_ble_eq_true rfl), (Nat.le_of_ble_eq_true rfl)⟩ rfl ?_
        intro uu hrr
        refine x_world (ws' := nC y aN N9 ++ tC y aT T) (List.append_nil _) ?_
        refine x_aload_n (q := 35) C 0 dX0_goBy_34 rfl rfl rfl ?_
        refine x_get (q := 38) C 0 dX0_goBy_35 ((oX0 y aN N9).L) rfl iuX0_goBy_X0 flX0_goBy_52 rfl (by decide) rfl rfl ?_
        refine x_bipush (q := 40) C dX0_goBy_38 kb_10 rfl ?_
        refine x_irem (q := 41) C dX0_goBy_40 (by decide) rfl ?_
        obtain ⟨J61, eJ61, hf⟩ := lt_elim hf
        have hJ61 : ∀ (N11 : St), J61 N11 = some (r, N') → xV p l e { frames := 5, cells := 0, slots := 0, locals := 121 } s m args below meth c D A (xQi D (xT y) A (fun (r' : Int32) (_ : Unit) => r' = r) (fun _ : Unit => nC y aN N' ++ tC y aT T) 0 0 below args s) 5 (nC y aN N11 ++ tC y aT T) 0 0 [(0, .ref (aN 0)), (1, .ref (aT 0)), (2, .int p2), (3, .int v8), (4, .int v2)] 61 [] := by
          intro N11 hf
          subst eJ61
          refine x_aload_n (q := 62) C 0 dX0_goBy_61 rfl rfl rfl ?_
          refine x_dup (q := 63) C dX0_goBy_62 rfl rfl ?_
          refine x_get (q := 66) C 0 dX0_goBy_63 ((oX0 y aN N11).L) rfl iuX0_goBy_X0 flX0_goBy_52 rfl (by decide) rfl rfl ?_
          refine x_iconst (q := 67) C dX0_goBy_66 ki_1 rfl ?_
          refine x_iadd (q := 68) C dX0_goBy_67 rfl ?_
          obtain ⟨N12, eN12, hf⟩ := lt_elim hf
          refine x_puti (q := 71) (ws' := nC y aN N12 ++ tC y aT T) C tyX0 tyX0_ok nmX0 dX0_goBy_68 ((iX0_0 y aN N11).L) rfl iuX0_goBy_X0 flX0_goBy_52 rfl (by decide) rfl rfl (congrArg (fun z => nC y aN z ++ tC y aT T) eN12.symm) rfl ?_
          refine x_iinc (q := 74) C 4 (v2 + 1) [1, 2, 3, 4, 0] [(0, .ref (aN 0)), (1, .ref (aT 0)), (2, .int p2), (3, .int v8), (4, .int (v2 + 1))] dX0_goBy_71 rfl (congrArg (fun z => v2 + z) ki_1) (by decide) rfl rfl ?_
          refine x_goto (t := 5) C dX0_goBy_74 (by decide) ?_
          exact ih v8 (v2 + 1) N12 hf
        refine x_if_ne (t := 61) (q := 44) C dX0_goBy_41 (by decide) rfl (fun hc => ?_) (fun hc => ?_)
        · have hf := (if_neg hc).symm.trans hf
          exact hJ61 N9 hf
        · have hf := (if_pos hc).symm.trans hf
          refine x_aload_n (q := 45) C 0 dX0_goBy_44 rfl rfl rfl ?_
          refine x_aload_n (q := 46) C 1 dX0_goBy_45 rfl rfl rfl ?_
          refine x_aload_n (q := 47) C 1 dX0_goBy_46 rfl rfl rfl ?_
          refine x_get (q := 50) C 11 dX0_goBy_47 ((oX1 y aT T).R) rfl iuX0_goBy_X1 flX0_goBy_76 rfl (by decide) rfl rfl ?_
          refine x_aload_n (q := 51) C 0 dX0_goBy_50 rfl rfl rfl ?_
          refine x_get (q := 54) C 0 dX0_goBy_51 ((oX0 y aN N9).L) rfl iuX0_goBy_X0 flX0_goBy_52 rfl (by decide) rfl rfl ?_
          refine x_bipush (q := 56) C dX0_goBy_54 kb_60 rfl ?_
          refine x_idiv (q := 57) C dX0_goBy_56 (by decide) rfl ?_
          obtain ⟨hb13, hf⟩ := gd_some hf
          refine x_iald (q := 58) C 0 dX0_goBy_57 ((aX1_11 y aT T).R) rfl hb13 rfl ?_
          obtain ⟨N14, hcal15, hf⟩ := bd_some hf
          refine x_callVv (q := 61) C (c0_blow (l := l) (D := D) (y := y) (aN := aN) (aT := aT) hcal15) yi_X0_blow gX0_goBy_X0_blow rfl ((oX0 y aN N9).L) rfl ⟨(Nat.le_of_ble_eq_true rfl), (Nat.le_of_ble_eq_true rfl)⟩ dX0_goBy_58 pm_nil rfl rfl (Nat.le_of_ble_eq_true rfl) ⟨(Nat.le_of_ble_eq_true rfl), (Nat.le_of_ble_eq_true rfl)⟩ rfl ?_
          intro uu hrr
          refine x_world (ws' := nC y aN N14 ++ tC y aT T) (List.append_nil _) ?_
          exact hJ61 N14 hf
set_option maxHeartbeats 4000000 in
set_option maxRecDepth 100000 in
theorem c0_goBy {l : Launch} {D : va_G} {y : Nat → ClassId} {aN aT : Nat → Nat} {N : St} {T : St} {p2 : Int32} {r : Int32} {N' : St} (hf : f0_goBy N T p2 = some (r, N')) : xMi l yX0_goBy wsX0_goBy 5 121 0 0 D (xT y) [.ref (aN 0), .ref (aT 0), .int p2] (nC y aN N ++ tC y aT T) (fun (r' : Int32) (_ : Unit) => r' = r) (fun _ : Unit => nC y aN N' ++ tC y aT T) := by
  refine xMi_of (cc := cX0_goBy) (nL := 5) (ret := (some .int)) [(0, .ref (aN 0)), (1, .ref (aT 0)), (2, .int p2)] (by decide) rfl (Nat.le_of_ble_eq_true rfl) rfl ?_
  intro p e s m args below meth c A C hin
  have C : xC p s m args meth c D A cX0_goBy RX0 5 wsX0_goBy (xT y) (some .int) := C
  unfold f0_goBy at hf
  refine x_iconst (q := 1) C dX0_goBy_0 ki_0 rfl ?_
  refine x_istore_n (q := 2) C [1, 2, 3, 0] [(0, .ref (aN 0)), (1, .ref (aT 0)), (2, .int p2), (3, .int 0)] dX0_goBy_1 rfl (by decide) rfl rfl ?_
  refine x_iconst (q := 3) C dX0_goBy_2 ki_0 rfl ?_
  refine x_istore (q := 5) C [1, 2, 3, 4, 0] [(0, .ref (aN 0)), (1, .ref (aT 0)), (2, .int p2), (3, .int 0), (4, .int 0)] dX0_goBy_3 (by decide) rfl rfl ?_
  exact w0_goBy_L5 C xF 0 0 N hf

/-! LampHills$Night.copy(LLampHills$Night;)V -/
theorem kb_18 : (Int8.ofInt 18).toInt32 = 18 := by decide
theorem kb_20 : (Int8.ofInt 20).toInt32 = 20 := by decide
theorem kcX0_copy_62 : ∀ w ∈ ([.methodLink RX0 62 arraycopyName, .native arraycopyName, .static arraycopyName, .initialized "java/lang/System"] : List Cond), w ∈ wsX0_copy := by decide +kernel
theorem flX0_copy_15 : Cond.fieldLink RX0 15 "LampHills$Night" "oil" "[I" ∈ wsX0_copy := by decide +kernel
theorem flX0_copy_18 : Cond.fieldLink RX0 18 "LampHills$Night" "soot" "[I" ∈ wsX0_copy := by decide +kernel
theorem flX0_copy_21 : Cond.fieldLink RX0 21 "LampHills$Night" "burns" "[Z" ∈ wsX0_copy := by decide +kernel
theorem flX0_copy_25 : Cond.fieldLink RX0 25 "LampHills$Night" "timesLit" "[I" ∈ wsX0_copy := by decide +kernel
theorem flX0_copy_28 : Cond.fieldLink RX0 28 "LampHills$Night" "timesBlownOut" "[I" ∈ wsX0_copy := by decide +kernel
theorem flX0_copy_31 : Cond.fieldLink RX0 31 "LampHills$Night" "at" "[I" ∈ wsX0_copy := by decide +kernel
theorem flX0_copy_34 : Cond.fieldLink RX0 34 "LampHills$Night" "can" "[I" ∈ wsX0_copy := by decide +kernel
theorem flX0_copy_37 : Cond.fieldLink RX0 37 "LampHills$Night" "goesTo" "[I" ∈ wsX0_copy := by decide +kernel
theorem flX0_copy_40 : Cond.fieldLink RX0 40 "LampHills$Night" "goal" "[I" ∈ wsX0_copy := by decide +kernel
theorem flX0_copy_43 : Cond.fieldLink RX0 43 "LampHills$Night" "minutesLeft" "[I" ∈ wsX0_copy := by decide +kernel
theorem flX0_copy_46 : Cond.fieldLink RX0 46 "LampHills$Night" "latestPlace" "[I" ∈ wsX0_copy := by decide +kernel
theorem flX0_copy_49 : Cond.fieldLink RX0 49 "LampHills$Night" "litBy" "[I" ∈ wsX0_copy := by decide +kernel
theorem flX0_copy_52 : Cond.fieldLink RX0 52 "LampHills$Night" "minute" "I" ∈ wsX0_copy := by decide +kernel
theorem flX0_copy_56 : Cond.fieldLink RX0 56 "LampHills$Night" "number" "I" ∈ wsX0_copy := by decide +kernel
theorem flX0_copy_59 : Cond.fieldLink RX0 59 "LampHills$Night" "oilUsed" "I" ∈ wsX0_copy := by decide +kernel
theorem flX0_copy_9 : Cond.fieldLink RX0 9 "LampHills$Night" "burningIn" "[I" ∈ wsX0_copy := by decide +kernel
theorem iuX0_copy_X0 : ∀ w ∈ u_ws RX0 TX0 16, w ∈ wsX0_copy := fun _ h => List.mem_cons_of_mem _ (List.mem_append_right _ h)
def f0_copy_L41 (F : St) (K : St → Option (St)) : Nat → Int32 → St → Option (St)
  | 0, _, _ => none
  | fu + 1, v6, N7 =>
  if 20 ≤ v6 then
  (
    K N7
  )
  else
  (
    gd (xin v6 20) <|
    lt_ (up2 N7 4 v6.toNatClampNeg (F 4 v6.toNatClampNeg)) fun N10 =>
    lt_ (up2 N10 5 v6.toNatClampNeg (F 5 v6.toNatClampNeg)) fun N11 =>
    lt_ (up2 N11 6 v6.toNatClampNeg (vp_nar .boolean (F 6 v6.toNatClampNeg))) fun N12 =>
    lt_ (up2 N12 7 v6.toNatClampNeg (F 7 v6.toNatClampNeg)) fun N13 =>
    lt_ (up2 N13 8 v6.toNatClampNeg (F 8 v6.toNatClampNeg)) fun N14 =>
    f0_copy_L41 F K fu (v6 + 1) N14
  )
def f0_copy_L115 (F : St) : Nat → Int32 → St → Option (St)
  | 0, _, _ => none
  | fu + 1, v15, N16 =>
  if 4 ≤ v15 then
  (
    some N16
  )
  else
  (
    gd (xin v15 4) <|
    lt_ (up2 N16 9 v15.toNatClampNeg (F 9 v15.toNatClampNeg)) fun N18 =>
    lt_ (up2 N18 10 v15.toNatClampNeg (F 10 v15.toNatClampNeg)) fun N19 =>
    lt_ (up2 N19 11 v15.toNatClampNeg (F 11 v15.toNatClampNeg)) fun N20 =>
    lt_ (up2 N20 12 v15.toNatClampNeg (F 12 v15.toNatClampNeg)) fun N21 =>
    lt_ (up2 N21 13 v15.toNatClampNeg (F 13 v15.toNatClampNeg)) fun N22 =>
    lt_ (up2 N22 14 v15.toNatClampNeg (F 14 v15.toNatClampNeg)) fun N23 =>
    lt_ (up2 N23 15 v15.toNatClampNeg (F 15 v15.toNatClampNeg)) fun N24 =>
    f0_copy_L115 F fu (v15 + 1) N24
  )
def f0_copy (N : St) (F : St) : Option (St) :=
  lt_ (up2 N 0 0 (F 0 0)) fun N1 =>
  lt_ (up2 N1 1 0 (F 1 0)) fun N2 =>
  lt_ (up2 N2 2 0 (F 2 0)) fun N3 =>
  gd (xcp 0 0 18 18 18) <|
  lt_ (up1 N3 3 (va_cpy (F 3) (N3 3) (0 : Int32).toNatClampNeg (0 : Int32).toNatClampNeg (18 : Int32).toNatClampNeg)) fun N5 =>
  f0_copy_L41 F (fun (N8 : St) =>
  (
    f0_copy_L115 F xF 0 N8
  )
  ) xF 0 N5
set_option maxHeartbeats 4000000 in
set_option maxRecDepth 100000 in
theorem w0_copy_L41 {p : Program} {l : Launch} {e : Env} {s : State} {m : MethodId} {args : Array Value} {below : List Frame} {meth : Method} {c : Code} {D : va_G} {A : Nat → Prop} {y : Nat → ClassId} {aN aF : Nat → Nat} {F : St} {N' : St} {K : St → Option (St)} (C : xC p s m args meth c D A cX0_copy RX0 3 wsX0_copy (xT y) none) (hK : ∀ (N8 : St), K N8 = some N' → xV p l e { frames := 1, cells := 0, slots := 0, locals := 48 } s m args below meth c D A (xQv D (xT y) A (fun (_ : Unit) => True) (fun _ : Unit => nC y aN N' ++ nC y aF F) 0 0 below args s) 3 (nC y aN N8 ++ nC y aF F) 0 0 [(0, .ref (aN 0)), (1, .ref (aF 0))] 113 []) : ∀ (fu : Nat) (v6 : Int32) (N7 : St), f0_copy_L41 F K fu v6 N7 = some N' → xV p l e { frames := 1, cells := 0, slots := 0, locals := 48 } s m args below meth c D A (xQv D (xT y) A (fun (_ : Unit) => True) (fun _ : Unit => nC y aN N' ++ nC y aF F) 0 0 below args s) 3 (nC y aN N7 ++ nC y aF F) 0 0 [(0, .ref (aN 0)), (1, .ref (aF 0)), (2, .int v6)] 41 [] := by
  intro fu
  induction fu with
  | zero => intro v6 N7 hf; rw [f0_copy_L41] at hf; cases hf
  | succ fu ih =>
    intro v6 N7 hf
    rw [f0_copy_L41] at hf
    refine x_iload_n (q := 42) C 2 dX0_copy_41 rfl rfl rfl ?_
    refine x_bipush (q := 44) C dX0_copy_42 kb_20 rfl ?_
    refine x_icmp_ge (t := 113) (q := 47) C dX0_copy_44 (by decide) rfl (fun hc => ?_) (fun hc => ?_)
    · have hf := (if_pos hc).symm.trans hf
      refine x_sub [0, 1] (L' := [(0, .ref (aN 0)), (1, .ref (aF 0))]) rfl ?_
      exact hK N7 hf
    · have hf := (if_neg hc).symm.trans hf
      refine x_aload_n (q := 48) C 0 dX0_copy_47 rfl rfl rfl ?_
      refine x_get (q := 51) C 4 dX0_copy_48 ((oX0 y aN N7).L) rfl iuX0_copy_X0 flX0_copy_15 rfl (by decide) rfl rfl ?_
      refine x_iload_n (q := 52) C 2 dX0_copy_51 rfl rfl rfl ?_
      refine x_aload_n (q := 53) C 1 dX0_copy_52 rfl rfl rfl ?_
      refine x_get (q := 56) C 4 dX0_copy_53 ((oX0 y aF F).R) rfl iuX0_copy_X0 flX0_copy_15 rfl (by decide) rfl rfl ?_
      refine x_iload_n (q := 57) C 2 dX0_copy_56 rfl rfl rfl ?_
      obtain ⟨hb9, hf⟩ := gd_some hf
      refine x_iald (q := 58) C 0 dX0_copy_57 ((aX0_4 y aF F).R) rfl hb9 rfl ?_
      obtain ⟨N10, eN10, hf⟩ := lt_elim hf
      refine x_iast (q := 59) (ws' := nC y aN N10 ++ nC y aF F) C 0 dX0_copy_58 ((aX0_4 y aN N7).L) rfl hb9 (congrArg (fun z => nC y aN z ++ nC y aF F) eN10.symm) rfl ?_
      refine x_aload_n (q := 60) C 0 dX0_copy_59 rfl rfl rfl ?_
      refine x_get (q := 63) C 5 dX0_copy_60 ((oX0 y aN N10).L) rfl iuX0_copy_X0 flX0_copy_18 rfl (by decide) rfl rfl ?_
      refine x_iload_n (q := 64) C 2 dX0_copy_63 rfl rfl rfl ?_
      refine x_aload_n (q := 65) C 1 dX0_copy_64 rfl rfl rfl ?_
      refine x_get (q := 68) C 5 dX0_copy_65 ((oX0 y aF F).R) rfl iuX0_copy_X0 flX0_copy_18 rfl (by decide) rfl rfl ?_
      refine x_iload_n (q := 69) C 2 dX0_copy_68 rfl rfl rfl ?_
      refine x_iald (q := 70) C 0 dX0_copy_69 ((aX0_5 y aF F).R) rfl hb9 rfl ?_
      obtain ⟨N11, eN11, hf⟩ := lt_elim hf
      refine x_iast (q := 71) (ws' := nC y aN N11 ++ nC y aF F) C 0 dX0_copy_70 ((aX0_5 y aN N10).L) rfl hb9 (congrArg (fun z => nC y aN z ++ nC y aF F) eN11.symm) rfl ?_
      refine x_aload_n (q := 72) C 0 dX0_copy_71 rfl rfl rfl ?_
      refine x_get (q := 75) C 6 dX0_copy_72 ((oX0 y aN N11).L) rfl iuX0_copy_X0 flX0_copy_21 rfl (by decide) rfl rfl ?_
      refine x_iload_n (q := 76) C 2 dX0_copy_75 rfl rfl rfl ?_
      refine x_aload_n (q := 77) C 1 dX0_copy_76 rfl rfl rfl ?_
      refine x_get (q := 80) C 6 dX0_copy_77 ((oX0 y aF F).R) rfl iuX0_copy_X0 flX0_copy_21 rfl (by decide) rfl rfl ?_
      refine x_iload_n (q := 81) C 2 dX0_copy_80 rfl rfl rfl ?_
      refine x_zald (q := 82) C 1 dX0_copy_81 ((aX0_6 y aF F).R) rfl hb9 rfl ?_
      obtain ⟨N12, eN12, hf⟩ := lt_elim hf
      refine x_zast (q := 83) (ws' := nC y aN N12 ++ nC y aF F) C 1 dX0_copy_82 ((aX0_6 y aN N11).L) rfl hb9 (congrArg (fun z => nC y aN z ++ nC y aF F) eN12.symm) rfl ?_
      refine x_aload_n (q := 84) C 0 dX0_copy_83 rfl rfl rfl ?_
      refine x_get (q := 87) C 7 dX0_copy_84 ((oX0 y aN N12).L) rfl iuX0_copy_X0 flX0_copy_25 rfl (by decide) rfl rfl ?_
      refine x_iload_n (q := 88) C 2 dX0_copy_87 rfl rfl rfl ?_
      refine x_aload_n (q := 89) C 1 dX0_copy_88 rfl rfl rfl ?_
      refine x_get (q := 92) C 7 dX0_copy_89 ((oX0 y aF F).R) rfl iuX0_copy_X0 flX0_copy_25 rfl (by decide) rfl rfl ?_
      refine x_iload_n (q := 93) C 2 dX0_copy_92 rfl rfl rfl ?_
      refine x_iald (q := 94) C 0 dX0_copy_93 ((aX0_7 y aF F).R) rfl hb9 rfl ?_
      obtain ⟨N13, eN13, hf⟩ := lt_elim hf
      refine x_iast (q := 95) (ws' := nC y aN N13 ++ nC y aF F) C 0 dX0_copy_94 ((aX0_7 y aN N12).L) rfl hb9 (congrArg (fun z => nC y aN z ++ nC y aF F) eN13.symm) rfl ?_
      refine x_aload_n (q := 96) C 0 dX0_copy_95 rfl rfl rfl ?_
      refine x_get (q := 99) C 8 dX0_copy_96 ((oX0 y aN N13).L) rfl iuX0_copy_X0 flX0_copy_28 rfl (by decide) rfl rfl ?_
      refine x_iload_n (q := 100) C 2 dX0_copy_99 rfl rfl rfl ?_
      refine x_aload_n (q := 101) C 1 dX0_copy_100 rfl rfl rfl ?_
      refine x_get (q := 104) C 8 dX0_copy_101 ((oX0 y aF F).R) rfl iuX0_copy_X0 flX0_copy_28 rfl (by decide) rfl rfl ?_
      refine x_iload_n (q := 105) C 2 dX0_copy_104 rfl rfl rfl ?_
      refine x_iald (q := 106) C 0 dX0_copy_105 ((aX0_8 y aF F).R) rfl hb9 rfl ?_
      obtain ⟨N14, eN14, hf⟩ := lt_elim hf
      refine x_iast (q := 107) (ws' := nC y aN N14 ++ nC y aF F) C 0 dX0_copy_106 ((aX0_8 y aN N13).L) rfl hb9 (congrArg (fun z => nC y aN z ++ nC y aF F) eN14.symm) rfl ?_
      refine x_iinc (q := 110) C 2 (v6 + 1) [1, 2, 0] [(0, .ref (aN 0)), (1, .ref (aF 0)), (2, .int (v6 + 1))] dX0_copy_107 rfl (congrArg (fun z => v6 + z) ki_1) (by decide) rfl rfl ?_
      refine x_goto (t := 41) C dX0_copy_110 (by decide) ?_
      exact ih (v6 + 1) N14 hf
set_option maxHeartbeats 4000000 in
set_option maxRecDepth 100000 in
theorem w0_copy_L115 {p : Program} {l : Launch} {e : Env} {s : State} {m : MethodId} {args : Array Value} {below : List Frame} {meth : Method} {c : Code} {D : va_G} {A : Nat → Prop} {y : Nat → ClassId} {aN aF : Nat → Nat} {F : St} {N' : St} (C : xC p s m args meth c D A cX0_copy RX0 3 wsX0_copy (xT y) none) : ∀ (fu : Nat) (v15 : Int32) (N16 : St), f0_copy_L115 F fu v15 N16 = some N' → xV p l e { frames := 1, cells := 0, slots := 0, locals := 48 } s m args below meth c D A (xQv D (xT y) A (fun (_ : Unit) => True) (fun _ : Unit => nC y aN N' ++ nC y aF F) 0 0 below args s) 3 (nC y aN N16 ++ nC y aF F) 0 0 [(0, .ref (aN 0)), (1, .ref (aF 0)), (2, .int v15)] 115 [] := by
  intro fu
  induction fu with
  | zero => intro v15 N16 hf; rw [f0_copy_L115] at hf; cases hf
  | succ fu ih =>
    intro v15 N16 hf
    rw [f0_copy_L115] at hf
    refine x_iload_n (q := 116) C 2 dX0_copy_115 rfl rfl rfl ?_
    refine x_iconst (q := 117) C dX0_copy_116 ki_4 rfl ?_
    refine x_icmp_ge (t := 210) (q := 120) C dX0_copy_117 (by decide) rfl (fun hc => ?_) (fun hc => ?_)
    · have hf := (if_pos hc).symm.trans hf
      have hf := Option.some.inj hf
      exact x_vret () C dX0_copy_210 rfl trivial (congrArg (fun z => nC y aN z ++ nC y aF F) hf) (Nat.le_of_ble_eq_true rfl) (Nat.le_of_ble_eq_true rfl)
    · have hf := (if_neg hc).symm.trans hf
      refine x_aload_n (q := 121) C 0 dX0_copy_120 rfl rfl rfl ?_
      refine x_get (q := 124) C 9 dX0_copy_121 ((oX0 y aN N16).L) rfl iuX0_copy_X0 flX0_copy_31 rfl (by decide) rfl rfl ?_
      refine x_iload_n (q := 125) C 2 dX0_copy_124 rfl rfl rfl ?_
      refine x_aload_n (q := 126) C 1 dX0_copy_125 rfl rfl rfl ?_
      refine x_get (q := 129) C 9 dX0_copy_126 ((oX0 y aF F).R) rfl iuX0_copy_X0 flX0_copy_31 rfl (by decide) rfl rfl ?_
      refine x_iload_n (q := 130) C 2 dX0_copy_129 rfl rfl rfl ?_
      obtain ⟨hb17, hf⟩ := gd_some hf
      refine x_iald (q := 131) C 0 dX0_copy_130 ((aX0_9 y aF F).R) rfl hb17 rfl ?_
      obtain ⟨N18, eN18, hf⟩ := lt_elim hf
      refine x_iast (q := 132) (ws' := nC y aN N18 ++ nC y aF F) C 0 dX0_copy_131 ((aX0_9 y aN N16).L) rfl hb17 (congrArg (fun z => nC y aN z ++ nC y aF F) eN18.symm) rfl ?_
      refine x_aload_n (q := 133) C 0 dX0_copy_132 rfl rfl rfl ?_
      refine x_get (q := 136) C 10 dX0_copy_133 ((oX0 y aN N18).L) rfl iuX0_copy_X0 flX0_copy_34 rfl (by decide) rfl rfl ?_
      refine x_iload_n (q := 137) C 2 dX0_copy_136 rfl rfl rfl ?_
      refine x_aload_n (q := 138) C 1 dX0_copy_137 rfl rfl rfl ?_
      refine x_get (q := 141) C 10 dX0_copy_138 ((oX0 y aF F).R) rfl iuX0_copy_X0 flX0_copy_34 rfl (by decide) rfl rfl ?_
      refine x_iload_n (q := 142) C 2 dX0_copy_141 rfl rfl rfl ?_
      refine x_iald (q := 143) C 0 dX0_copy_142 ((aX0_10 y aF F).R) rfl hb17 rfl ?_
      obtain ⟨N19, eN19, hf⟩ := lt_elim hf
      refine x_iast (q := 144) (ws' := nC y aN N19 ++ nC y aF F) C 0 dX0_copy_143 ((aX0_10 y aN N18).L) rfl hb17 (congrArg (fun z => nC y aN z ++ nC y aF F) eN19.symm) rfl ?_
      refine x_aload_n (q := 145) C 0 dX0_copy_144 rfl rfl rfl ?_
      refine x_get (q := 148) C 11 dX0_copy_145 ((oX0 y aN N19).L) rfl iuX0_copy_X0 flX0_copy_37 rfl (by decide) rfl rfl ?_
      refine x_iload_n (q := 149) C 2 dX0_copy_148 rfl rfl rfl ?_
      refine x_aload_n (q := 150) C 1 dX0_copy_149 rfl rfl rfl ?_
      refine x_get (q := 153) C 11 dX0_copy_150 ((oX0 y aF F).R) rfl iuX0_copy_X0 flX0_copy_37 rfl (by decide) rfl rfl ?_
      refine x_iload_n (q := 154) C 2 dX0_copy_153 rfl rfl rfl ?_
      refine x_iald (q := 155) C 0 dX0_copy_154 ((aX0_11 y aF F).R) rfl hb17 rfl ?_
      obtain ⟨N20, eN20, hf⟩ := lt_elim hf
      refine x_iast (q := 156) (ws' := nC y aN N20 ++ nC y aF F) C 0 dX0_copy_155 ((aX0_11 y aN N19).L) rfl hb17 (congrArg (fun z => nC y aN z ++ nC y aF F) eN20.symm) rfl ?_
      refine x_aload_n (q := 157) C 0 dX0_copy_156 rfl rfl rfl ?_
      refine x_get (q := 160) C 12 dX0_copy_157 ((oX0 y aN N20).L) rfl iuX0_copy_X0 flX0_copy_40 rfl (by decide) rfl rfl ?_
      refine x_iload_n (q := 161) C 2 dX0_copy_160 rfl rfl rfl ?_
      refine x_aload_n (q := 162) C 1 dX0_copy_161 rfl rfl rfl ?_
      refine x_get (q := 165) C 12 dX0_copy_162 ((oX0 y aF F).R) rfl iuX0_copy_X0 flX0_copy_40 rfl (by decide) rfl rfl ?_
      refine x_iload_n (q := 166) C 2 dX0_copy_165 rfl rfl rfl ?_
      refine x_iald (q := 167) C 0 dX0_copy_166 ((aX0_12 y aF F).R) rfl hb17 rfl ?_
      obtain ⟨N21, eN21, hf⟩ := lt_elim hf
      refine x_iast (q := 168) (ws' := nC y aN N21 ++ nC y aF F) C 0 dX0_copy_167 ((aX0_12 y aN N20).L) rfl hb17 (congrArg (fun z => nC y aN z ++ nC y aF F) eN21.symm) rfl ?_
      refine x_aload_n (q := 169) C 0 dX0_copy_168 rfl rfl rfl ?_
      refine x_get (q := 172) C 13 dX0_copy_169 ((oX0 y aN N21).L) rfl iuX0_copy_X0 flX0_copy_43 rfl (by decide) rfl rfl ?_
      refine x_iload_n (q := 173) C 2 dX0_copy_172 rfl rfl rfl ?_
      refine x_aload_n (q := 174) C 1 dX0_copy_173 rfl rfl rfl ?_
      refine x_get (q := 177) C 13 dX0_copy_174 ((oX0 y aF F).R) rfl iuX0_copy_X0 flX0_copy_43 rfl (by decide) rfl rfl ?_
      refine x_iload_n (q := 178) C 2 dX0_copy_177 rfl rfl rfl ?_
      refine x_iald (q := 179) C 0 dX0_copy_178 ((aX0_13 y aF F).R) rfl hb17 rfl ?_
      obtain ⟨N22, eN22, hf⟩ := lt_elim hf
      refine x_iast (q := 180) (ws' := nC y aN N22 ++ nC y aF F) C 0 dX0_copy_179 ((aX0_13 y aN N21).L) rfl hb17 (congrArg (fun z => nC y aN z ++ nC y aF F) eN22.symm) rfl ?_
      refine x_aload_n (q := 181) C 0 dX0_copy_180 rfl rfl rfl ?_
      refine x_get (q := 184) C 14 dX0_copy_181 ((oX0 y aN N22).L) rfl iuX0_copy_X0 flX0_copy_46 rfl (by decide) rfl rfl ?_
      refine x_iload_n (q := 185) C 2 dX0_copy_184 rfl rfl rfl ?_
      refine x_aload_n (q := 186) C 1 dX0_copy_185 rfl rfl rfl ?_
      refine x_get (q := 189) C 14 dX0_copy_186 ((oX0 y aF F).R) rfl iuX0_copy_X0 flX0_copy_46 rfl (by decide) rfl rfl ?_
      refine x_iload_n (q := 190) C 2 dX0_copy_189 rfl rfl rfl ?_
      refine x_iald (q := 191) C 0 dX0_copy_190 ((aX0_14 y aF F).R) rfl hb17 rfl ?_
      obtain ⟨N23, eN23, hf⟩ := lt_elim hf
      refine x_iast (q := 192) (ws' := nC y aN N23 ++ nC y aF F) C 0 dX0_copy_191 ((aX0_14 y aN N22).L) rfl hb17 (congrArg (fun z => nC y aN z ++ nC y aF F) eN23.symm) rfl ?_
      refine x_aload_n (q := 193) C 0 dX0_copy_192 rfl rfl rfl ?_
      refine x_get (q := 196) C 15 dX0_copy_193 ((oX0 y aN N23).L) rfl iuX0_copy_X0 flX0_copy_49 rfl (by decide) rfl rfl ?_
      refine x_iload_n (q := 197) C 2 dX0_copy_196 rfl rfl rfl ?_
      refine x_aload_n (q := 198) C 1 dX0_copy_197 rfl rfl rfl ?_
      refine x_get (q := 201) C 15 dX0_copy_198 ((oX0 y aF F).R) rfl iuX0_copy_X0 flX0_copy_49 rfl (by decide) rfl rfl ?_
      refine x_iload_n (q := 202) C 2 dX0_copy_201 rfl rfl rfl ?_
      refine x_iald (q := 203) C 0 dX0_copy_202 ((aX0_15 y aF F).R) rfl hb17 rfl ?_
      obtain ⟨N24, eN24, hf⟩ := lt_elim hf
      refine x_iast (q := 204) (ws' := nC y aN N24 ++ nC y aF F) C 0 dX0_copy_203 ((aX0_15 y aN N23).L) rfl hb17 (congrArg (fun z => nC y aN z ++ nC y aF F) eN24.symm) rfl ?_
      refine x_iinc (q := 207) C 2 (v15 + 1) [1, 2, 0] [(0, .ref (aN 0)), (1, .ref (aF 0)), (2, .int (v15 + 1))] dX0_copy_204 rfl (congrArg (fun z => v15 + z) ki_1) (by decide) rfl rfl ?_
      refine x_goto (t := 115) C dX0_copy_207 (by decide) ?_
      exact ih (v15 + 1) N24 hf
set_option maxHeartbeats 4000000 in
set_option maxRecDepth 100000 in
theorem c0_copy {l : Launch} {D : va_G} {y : Nat → ClassId} {aN aF : Nat → Nat} {N : St} {F : St} {N' : St} (hf : f0_copy N F = some N') : xMv l yX0_copy wsX0_copy 1 48 0 0 D (xT y) [.ref (aN 0), .ref (aF 0)] (nC y aN N ++ nC y aF F) (fun (_ : Unit) => True) (fun _ : Unit => nC y aN N' ++ nC y aF F) := by
  refine xMv_of (cc := cX0_copy) (nL := 3) (ret := none) [(0, .ref (aN 0)), (1, .ref (aF 0))] (by decide) rfl (Nat.le_of_ble_eq_true rfl) rfl ?_
  intro p e s m args below meth c A C hin
  have C : xC p s m args meth c D A cX0_copy RX0 3 wsX0_copy (xT y) none := C
  unfold f0_copy at hf
  refine x_aload_n (q := 1) C 0 dX0_copy_0 rfl rfl rfl ?_
  refine x_aload_n (q := 2) C 1 dX0_copy_1 rfl rfl rfl ?_
  refine x_get (q := 5) C 0 dX0_copy_2 ((oX0 y aF F).R) rfl iuX0_copy_X0 flX0_copy_52 rfl (by decide) rfl rfl ?_
  obtain ⟨N1, eN1, hf⟩ := lt_elim hf
  refine x_puti (q := 8) (ws' := nC y aN N1 ++ nC y aF F) C tyX0 tyX0_ok nmX0 dX0_copy_5 ((iX0_0 y aN N).L) rfl iuX0_copy_X0 flX0_copy_52 rfl (by decide) rfl rfl (congrArg (fun z => nC y aN z ++ nC y aF F) eN1.symm) rfl ?_
  refine x_aload_n (q := 9) C 0 dX0_copy_8 rfl rfl rfl ?_
  refine x_aload_n (q := 10) C 1 dX0_copy_9 rfl rfl rfl ?_
  refine x_get (q := 13) C 1 dX0_copy_10 ((oX0 y aF F).R) rfl iuX0_copy_X0 flX0_copy_56 rfl (by decide) rfl rfl ?_
  obtain ⟨N2, eN2, hf⟩ := lt_elim hf
  refine x_puti (q := 16) (ws' := nC y aN N2 ++ nC y aF F) C tyX0 tyX0_ok nmX0 dX0_copy_13 ((iX0_1 y aN N1).L) rfl iuX0_copy_X0 flX0_copy_56 rfl (by decide) rfl rfl (congrArg (fun z => nC y aN z ++ nC y aF F) eN2.symm) rfl ?_
  refine x_aload_n (q := 17) C 0 dX0_copy_16 rfl rfl rfl ?_
  refine x_aload_n (q := 18) C 1 dX0_copy_17 rfl rfl rfl ?_
  refine x_get (q := 21) C 2 dX0_copy_18 ((oX0 y aF F).R) rfl iuX0_copy_X0 flX0_copy_59 rfl (by decide) rfl rfl ?_
  obtain ⟨N3, eN3, hf⟩ := lt_elim hf
  refine x_puti (q := 24) (ws' := nC y aN N3 ++ nC y aF F) C tyX0 tyX0_ok nmX0 dX0_copy_21 ((iX0_2 y aN N2).L) rfl iuX0_copy_X0 flX0_copy_59 rfl (by decide) rfl rfl (congrArg (fun z => nC y aN z ++ nC y aF F) eN3.symm) rfl ?_
  refine x_aload_n (q := 25) C 1 dX0_copy_24 rfl rfl rfl ?_
  refine x_get (q := 28) C 3 dX0_copy_25 ((oX0 y aF F).R) rfl iuX0_copy_X0 flX0_copy_9 rfl (by decide) rfl rfl ?_
  refine x_iconst (q := 29) C dX0_copy_28 ki_0 rfl ?_
  refine x_aload_n (q := 30) C 0 dX0_copy_29 rfl rfl rfl ?_
  refine x_get (q := 33) C 3 dX0_copy_30 ((oX0 y aN N3).L) rfl iuX0_copy_X0 flX0_copy_9 rfl (by decide) rfl rfl ?_
  refine x_iconst (q := 34) C dX0_copy_33 ki_0 rfl ?_
  refine x_bipush (q := 36) C dX0_copy_34 kb_18 rfl ?_
  obtain ⟨hb4, hf⟩ := gd_some hf
  obtain ⟨N5, eN5, hf⟩ := lt_elim hf
  refine x_copy (q := 39) (ws' := nC y aN N5 ++ nC y aF F) C 0 0 dX0_copy_36 kcX0_copy_62 ((aX0_3 y aF F).R) ((aX0_3 y aN N3).L) rfl rfl hb4 (Nat.le_of_ble_eq_true rfl) (Nat.le_of_ble_eq_true rfl) (congrArg (fun z => nC y aN z ++ nC y aF F) eN5.symm) rfl ?_
  refine x_iconst (q := 40) C dX0_copy_39 ki_0 rfl ?_
  refine x_istore_n (q := 41) C [1, 2, 0] [(0, .ref (aN 0)), (1, .ref (aF 0)), (2, .int 0)] dX0_copy_40 rfl (by decide) rfl rfl ?_
  refine w0_copy_L41 C (fun N8 hf => ?_) xF 0 N5 hf
  refine x_iconst (q := 114) C dX0_copy_113 ki_0 rfl ?_
  refine x_istore_n (q := 115) C [1, 2, 0] [(0, .ref (aN 0)), (1, .ref (aF 0)), (2, .int 0)] dX0_copy_114 rfl (by decide) rfl rfl ?_
  exact w0_copy_L115 C xF 0 N8 hf
end
